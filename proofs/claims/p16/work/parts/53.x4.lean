set_option maxHeartbeats 8000000 in
set_option maxRecDepth 100000 in
theorem x_reach {l : Launch} {D : va_G} {ad : Nat → Nat} {cJ cI cZ : ClassId} {bm : gBM} {pa : gPA} {p0 p1 p2 : gPL} {li : gLI} {wi : gWI} {mt : Nat} {ms : gMS} {ma : gMA} {mp : gMP} {mk : gMK} {mn : gMN} {ou : Nat → Int64} {zj : Nat} {z1 : Int64} {z2 : Int64}  (hp0 : zj < 40)  : bm_Wx l yX3_reach wsX3_reach ({ frames := 1, cells := 0, slots := 0, locals := 24 }) D vwCl [(cJ, .long), (cI, .int), (cZ, .boolean)] (WW ad cJ cI cZ bm pa p0 p1 p2 li wi mt ms ma mp mk mn ou) [.ref (ad 32), .int (nI zj), .long z1, .long z2] (fun ws9 r9 => ∃ (e0 : Nat → Bool) (e1 : Nat → Int64) (e2 : Nat → Int64) (e3 : Nat → Int64) (e4 : Nat → Int64) , ws9 = (WW ad cJ cI cZ bm pa p0 p1 p2 li (wi.1, wi.2.1, wi.2.2.1, wi.2.2.2.1, e0, e1, e2, e3, e4, wi.2.2.2.2.2.2.2.2.2.1, wi.2.2.2.2.2.2.2.2.2.2) mt ms ma mp mk mn ou) ∧ r9 = none) := by
  intro sz
  refine Met.ofW (cc := cX3_reach) (maxL := 7) (ret := none) (by decide) rfl ?_
  intro p e s m args below meth c s₁ B hml hv
  obtain ⟨ha, hsz, hP, hK, hD0⟩ := hv
  have hx := B.exec
  have hb := B.bytes
  have hr := B.returns
  have hts := atoms_spec (ws := wsX3_reach) B.pre
  have hown : s.vm.findClass RX3 = some m.cls := findClass_of_methodNamed B.named
  have hlocks := B.notSynchronized
  subst hsz
  have hD := hD0.self (sz := s.heap.size)
  generalize hAe : va_A (WW ad cJ cI cZ bm pa p0 p1 p2 li wi mt ms ma mp mk mn ou) s.heap.size = A at hD ⊢
  have hA : ∀ q : Nat, s.heap.size ≤ q → A q := fun q h => by rw [← hAe]; exact Or.inr h
  have hS : va_S A s.heap s.heap [] := va_S.rf
  have hl := lv_entry ([.ref (ad 32), .int (nI zj), .long z1, .long z2]) (n := 7) (Nat.le_of_ble_eq_true rfl)
  refine W.eq (g2 := entryFrame m ([.ref (ad 32), .int (nI zj), .long z1, .long z2] : List Value).toArray 7) (by rw [ha]) ?_
  rw [lg_entry_eq]
  generalize (lg_sl ([.ref (ad 32), .int (nI zj), .long z1, .long z2]) ++ List.replicate (7 - (lg_sl ([.ref (ad 32), .int (nI zj), .long z1, .long z2])).length) Slot.unset).toArray = ls at hl ⊢
  have hl : lv_has ls 7 [(0, .ref (ad 32)), (1, .int (nI zj)), (2, .long z1), (4, .long z2)] := hl
  refine lv_aload_n hx hb dX3_reach_0 rfl (lv_at hl 0 rfl) ?_
  refine va_get (D := D) (ci := 3) (v := .ref (ad 37)) (C := RX3) (T := TX3) (N := 12) hx hb hts (inT inX3) hown hK hP 32 ww_32 rfl 5 (by decide) (hts (.fieldLink RX3 25 "BoardMoves$Wiring" "reached" "[Z") (List.mem_cons_of_mem _ flX3_25)) (fun _ h9 => h9) rfl dX3_reach_1 ?_
  refine lv_iload_n hx hb dX3_reach_4 rfl (lv_at hl 1 rfl) ?_
  refine bm_zald (f := wi.2.2.2.2.1) hx hb hK hP 37 2 ww_37 rfl (j := zj) (by omega) (by decide) dX3_reach_5 ?_
  refine bm_zb_ne (x := (wi.2.2.2.2.1 zj)) (tgt := 13) hx hb dX3_reach_6 (by decide) (fun c_1 => ?_) (fun c_1 => ?_)
  · refine lv_iconst (v := bm_b false) hx hb dX3_reach_13 (by decide) ?_
    refine lv_istore (lv' := [(6, .int (bm_b false)), (0, .ref (ad 32)), (1, .int (nI zj)), (2, .long z1), (4, .long z2)]) hx hb dX3_reach_14 hl (by decide) rfl (fun ls hl => ?_)
    refine lv_aload_n hx hb dX3_reach_16 rfl (lv_at hl 1 rfl) ?_
    refine va_get (D := D) (ci := 3) (v := .ref (ad 37)) (C := RX3) (T := TX3) (N := 12) hx hb hts (inT inX3) hown hK hP 32 ww_32 rfl 5 (by decide) (hts (.fieldLink RX3 25 "BoardMoves$Wiring" "reached" "[Z") (List.mem_cons_of_mem _ flX3_25)) (fun _ h9 => h9) rfl dX3_reach_17 ?_
    refine lv_iload_n hx hb dX3_reach_20 rfl (lv_at hl 2 rfl) ?_
    refine lv_iconst (v := bm_b true) hx hb dX3_reach_21 (by decide) ?_
    refine bm_zast (f := wi.2.2.2.2.1) hx hb hK hP hD hS 37 2 ww_37 rfl (j := zj) (x := true) (by omega) (by decide) dX3_reach_22 (fun H locs hP hD hS => ?_)
    have hP : va_P D vwCl (WW ad cJ cI cZ bm pa p0 p1 p2 li (wi.1, wi.2.1, wi.2.2.1, wi.2.2.2.1, va_up wi.2.2.2.2.1 zj true, wi.2.2.2.2.2.1, wi.2.2.2.2.2.2.1, wi.2.2.2.2.2.2.2.1, wi.2.2.2.2.2.2.2.2.1, wi.2.2.2.2.2.2.2.2.2.1, wi.2.2.2.2.2.2.2.2.2.2) mt ms ma mp mk mn ou) H := hP
    have hD : va_D A (WW ad cJ cI cZ bm pa p0 p1 p2 li (wi.1, wi.2.1, wi.2.2.1, wi.2.2.2.1, va_up wi.2.2.2.2.1 zj true, wi.2.2.2.2.2.1, wi.2.2.2.2.2.2.1, wi.2.2.2.2.2.2.2.1, wi.2.2.2.2.2.2.2.2.1, wi.2.2.2.2.2.2.2.2.2.1, wi.2.2.2.2.2.2.2.2.2.2) mt ms ma mp mk mn ou) := hD
    refine lv_aload_n hx hb dX3_reach_23 rfl (lv_at hl 1 rfl) ?_
    refine va_get (D := D) (ci := 3) (v := .ref (ad 38)) (C := RX3) (T := TX3) (N := 12) hx hb hts (inT inX3) hown hK hP 32 ww_32 rfl 6 (by decide) (hts (.fieldLink RX3 29 "BoardMoves$Wiring" "lowX" "[J") (List.mem_cons_of_mem _ flX3_29)) (fun _ h9 => h9) rfl dX3_reach_24 ?_
    refine lv_iload_n hx hb dX3_reach_27 rfl (lv_at hl 2 rfl) ?_
    refine lv_iload hx hb dX3_reach_28 (lv_at hl 0 rfl) ?_
    refine bm_zb_eq (x := false) (tgt := 37) hx hb dX3_reach_30 (by decide) (fun c_2 => ?_) (fun c_2 => ?_)
    · refine lv_aload_n hx hb dX3_reach_37 rfl (lv_at hl 1 rfl) ?_
      refine va_get (D := D) (ci := 3) (v := .ref (ad 38)) (C := RX3) (T := TX3) (N := 12) hx hb hts (inT inX3) hown hK hP 32 ww_32 rfl 6 (by decide) (hts (.fieldLink RX3 29 "BoardMoves$Wiring" "lowX" "[J") (List.mem_cons_of_mem _ flX3_29)) (fun _ h9 => h9) rfl dX3_reach_38 ?_
      refine lv_iload_n hx hb dX3_reach_41 rfl (lv_at hl 2 rfl) ?_
      refine bm_lald (f := wi.2.2.2.2.2.1) hx hb hK hP 38 0 ww_38 rfl (j := zj) (by omega) (by decide) dX3_reach_42 ?_
      refine lv_topl (fun t_3 _ => ?_)
      refine lv_lload_n hx hb dX3_reach_43 rfl (lv_at hl 3 rfl) ?_
      refine bm_mminl (rest := [.int (nI zj), .ref (ad 38)]) hx hb (hml.trans hl.1.symm) hown (hts (.methodLink RX3 77 Lib.MathLoose.min_long.x) (by decide +kernel)) (hts (.static Lib.MathLoose.min_long.x) (by decide +kernel)) (hts (.initialized "java/lang/Math") (by decide +kernel)) (hts (.code Lib.MathLoose.min_long.x Lib.MathLoose.min_long.code 4 (some .long)) (by decide +kernel)) (Nat.le_of_ble_eq_true rfl) (Nat.le_of_ble_eq_true rfl) (Nat.le_of_ble_eq_true rfl) (Nat.le_of_ble_eq_true rfl) dX3_reach_44 ?_
      refine lv_topl (fun t_4 _ => ?_)
      refine bm_last (f := wi.2.2.2.2.2.1) hx hb hK hP hD hS 38 0 ww_38 rfl (j := zj) (x := t_4) (by omega) (by decide) dX3_reach_47 (fun H locs hP hD hS => ?_)
      have hP : va_P D vwCl (WW ad cJ cI cZ bm pa p0 p1 p2 li (wi.1, wi.2.1, wi.2.2.1, wi.2.2.2.1, va_up wi.2.2.2.2.1 zj true, va_up wi.2.2.2.2.2.1 zj t_4, wi.2.2.2.2.2.2.1, wi.2.2.2.2.2.2.2.1, wi.2.2.2.2.2.2.2.2.1, wi.2.2.2.2.2.2.2.2.2.1, wi.2.2.2.2.2.2.2.2.2.2) mt ms ma mp mk mn ou) H := hP
      have hD : va_D A (WW ad cJ cI cZ bm pa p0 p1 p2 li (wi.1, wi.2.1, wi.2.2.1, wi.2.2.2.1, va_up wi.2.2.2.2.1 zj true, va_up wi.2.2.2.2.2.1 zj t_4, wi.2.2.2.2.2.2.1, wi.2.2.2.2.2.2.2.1, wi.2.2.2.2.2.2.2.2.1, wi.2.2.2.2.2.2.2.2.2.1, wi.2.2.2.2.2.2.2.2.2.2) mt ms ma mp mk mn ou) := hD
      refine lv_aload_n hx hb dX3_reach_48 rfl (lv_at hl 1 rfl) ?_
      refine va_get (D := D) (ci := 3) (v := .ref (ad 39)) (C := RX3) (T := TX3) (N := 12) hx hb hts (inT inX3) hown hK hP 32 ww_32 rfl 7 (by decide) (hts (.fieldLink RX3 32 "BoardMoves$Wiring" "highX" "[J") (List.mem_cons_of_mem _ flX3_32)) (fun _ h9 => h9) rfl dX3_reach_49 ?_
      refine lv_iload_n hx hb dX3_reach_52 rfl (lv_at hl 2 rfl) ?_
      refine lv_iload hx hb dX3_reach_53 (lv_at hl 0 rfl) ?_
      refine bm_zb_eq (x := false) (tgt := 62) hx hb dX3_reach_55 (by decide) (fun c_5 => ?_) (fun c_5 => ?_)
      · refine lv_aload_n hx hb dX3_reach_62 rfl (lv_at hl 1 rfl) ?_
        refine va_get (D := D) (ci := 3) (v := .ref (ad 39)) (C := RX3) (T := TX3) (N := 12) hx hb hts (inT inX3) hown hK hP 32 ww_32 rfl 7 (by decide) (hts (.fieldLink RX3 32 "BoardMoves$Wiring" "highX" "[J") (List.mem_cons_of_mem _ flX3_32)) (fun _ h9 => h9) rfl dX3_reach_63 ?_
        refine lv_iload_n hx hb dX3_reach_66 rfl (lv_at hl 2 rfl) ?_
        refine bm_lald (f := wi.2.2.2.2.2.2.1) hx hb hK hP 39 0 ww_39 rfl (j := zj) (by omega) (by decide) dX3_reach_67 ?_
        refine lv_topl (fun t_6 _ => ?_)
        refine lv_lload_n hx hb dX3_reach_68 rfl (lv_at hl 3 rfl) ?_
        refine bm_mmaxl (rest := [.int (nI zj), .ref (ad 39)]) hx hb (hml.trans hl.1.symm) hown (hts (.methodLink RX3 83 Lib.MathLoose.max_long.x) (by decide +kernel)) (hts (.static Lib.MathLoose.max_long.x) (by decide +kernel)) (hts (.initialized "java/lang/Math") (by decide +kernel)) (hts (.code Lib.MathLoose.max_long.x Lib.MathLoose.max_long.code 4 (some .long)) (by decide +kernel)) (Nat.le_of_ble_eq_true rfl) (Nat.le_of_ble_eq_true rfl) (Nat.le_of_ble_eq_true rfl) (Nat.le_of_ble_eq_true rfl) dX3_reach_69 ?_
        refine lv_topl (fun t_7 _ => ?_)
        refine bm_last (f := wi.2.2.2.2.2.2.1) hx hb hK hP hD hS 39 0 ww_39 rfl (j := zj) (x := t_7) (by omega) (by decide) dX3_reach_72 (fun H locs hP hD hS => ?_)
        have hP : va_P D vwCl (WW ad cJ cI cZ bm pa p0 p1 p2 li (wi.1, wi.2.1, wi.2.2.1, wi.2.2.2.1, va_up wi.2.2.2.2.1 zj true, va_up wi.2.2.2.2.2.1 zj t_4, va_up wi.2.2.2.2.2.2.1 zj t_7, wi.2.2.2.2.2.2.2.1, wi.2.2.2.2.2.2.2.2.1, wi.2.2.2.2.2.2.2.2.2.1, wi.2.2.2.2.2.2.2.2.2.2) mt ms ma mp mk mn ou) H := hP
        have hD : va_D A (WW ad cJ cI cZ bm pa p0 p1 p2 li (wi.1, wi.2.1, wi.2.2.1, wi.2.2.2.1, va_up wi.2.2.2.2.1 zj true, va_up wi.2.2.2.2.2.1 zj t_4, va_up wi.2.2.2.2.2.2.1 zj t_7, wi.2.2.2.2.2.2.2.1, wi.2.2.2.2.2.2.2.2.1, wi.2.2.2.2.2.2.2.2.2.1, wi.2.2.2.2.2.2.2.2.2.2) mt ms ma mp mk mn ou) := hD
        refine lv_aload_n hx hb dX3_reach_73 rfl (lv_at hl 1 rfl) ?_
        refine va_get (D := D) (ci := 3) (v := .ref (ad 40)) (C := RX3) (T := TX3) (N := 12) hx hb hts (inT inX3) hown hK hP 32 ww_32 rfl 8 (by decide) (hts (.fieldLink RX3 35 "BoardMoves$Wiring" "lowY" "[J") (List.mem_cons_of_mem _ flX3_35)) (fun _ h9 => h9) rfl dX3_reach_74 ?_
        refine lv_iload_n hx hb dX3_reach_77 rfl (lv_at hl 2 rfl) ?_
        refine lv_iload hx hb dX3_reach_78 (lv_at hl 0 rfl) ?_
        refine bm_zb_eq (x := false) (tgt := 88) hx hb dX3_reach_80 (by decide) (fun c_8 => ?_) (fun c_8 => ?_)
        · refine lv_aload_n hx hb dX3_reach_88 rfl (lv_at hl 1 rfl) ?_
          refine va_get (D := D) (ci := 3) (v := .ref (ad 40)) (C := RX3) (T := TX3) (N := 12) hx hb hts (inT inX3) hown hK hP 32 ww_32 rfl 8 (by decide) (hts (.fieldLink RX3 35 "BoardMoves$Wiring" "lowY" "[J") (List.mem_cons_of_mem _ flX3_35)) (fun _ h9 => h9) rfl dX3_reach_89 ?_
          refine lv_iload_n hx hb dX3_reach_92 rfl (lv_at hl 2 rfl) ?_
          refine bm_lald (f := wi.2.2.2.2.2.2.2.1) hx hb hK hP 40 0 ww_40 rfl (j := zj) (by omega) (by decide) dX3_reach_93 ?_
          refine lv_topl (fun t_9 _ => ?_)
          refine lv_lload hx hb dX3_reach_94 (lv_at hl 4 rfl) ?_
          refine bm_mminl (rest := [.int (nI zj), .ref (ad 40)]) hx hb (hml.trans hl.1.symm) hown (hts (.methodLink RX3 77 Lib.MathLoose.min_long.x) (by decide +kernel)) (hts (.static Lib.MathLoose.min_long.x) (by decide +kernel)) (hts (.initialized "java/lang/Math") (by decide +kernel)) (hts (.code Lib.MathLoose.min_long.x Lib.MathLoose.min_long.code 4 (some .long)) (by decide +kernel)) (Nat.le_of_ble_eq_true rfl) (Nat.le_of_ble_eq_true rfl) (Nat.le_of_ble_eq_true rfl) (Nat.le_of_ble_eq_true rfl) dX3_reach_96 ?_
          refine lv_topl (fun t_10 _ => ?_)
          refine bm_last (f := wi.2.2.2.2.2.2.2.1) hx hb hK hP hD hS 40 0 ww_40 rfl (j := zj) (x := t_10) (by omega) (by decide) dX3_reach_99 (fun H locs hP hD hS => ?_)
          have hP : va_P D vwCl (WW ad cJ cI cZ bm pa p0 p1 p2 li (wi.1, wi.2.1, wi.2.2.1, wi.2.2.2.1, va_up wi.2.2.2.2.1 zj true, va_up wi.2.2.2.2.2.1 zj t_4, va_up wi.2.2.2.2.2.2.1 zj t_7, va_up wi.2.2.2.2.2.2.2.1 zj t_10, wi.2.2.2.2.2.2.2.2.1, wi.2.2.2.2.2.2.2.2.2.1, wi.2.2.2.2.2.2.2.2.2.2) mt ms ma mp mk mn ou) H := hP
          have hD : va_D A (WW ad cJ cI cZ bm pa p0 p1 p2 li (wi.1, wi.2.1, wi.2.2.1, wi.2.2.2.1, va_up wi.2.2.2.2.1 zj true, va_up wi.2.2.2.2.2.1 zj t_4, va_up wi.2.2.2.2.2.2.1 zj t_7, va_up wi.2.2.2.2.2.2.2.1 zj t_10, wi.2.2.2.2.2.2.2.2.1, wi.2.2.2.2.2.2.2.2.2.1, wi.2.2.2.2.2.2.2.2.2.2) mt ms ma mp mk mn ou) := hD
          refine lv_aload_n hx hb dX3_reach_100 rfl (lv_at hl 1 rfl) ?_
          refine va_get (D := D) (ci := 3) (v := .ref (ad 41)) (C := RX3) (T := TX3) (N := 12) hx hb hts (inT inX3) hown hK hP 32 ww_32 rfl 9 (by decide) (hts (.fieldLink RX3 38 "BoardMoves$Wiring" "highY" "[J") (List.mem_cons_of_mem _ flX3_38)) (fun _ h9 => h9) rfl dX3_reach_101 ?_
          refine lv_iload_n hx hb dX3_reach_104 rfl (lv_at hl 2 rfl) ?_
          refine lv_iload hx hb dX3_reach_105 (lv_at hl 0 rfl) ?_
          refine bm_zb_eq (x := false) (tgt := 115) hx hb dX3_reach_107 (by decide) (fun c_11 => ?_) (fun c_11 => ?_)
          · refine lv_aload_n hx hb dX3_reach_115 rfl (lv_at hl 1 rfl) ?_
            refine va_get (D := D) (ci := 3) (v := .ref (ad 41)) (C := RX3) (T := TX3) (N := 12) hx hb hts (inT inX3) hown hK hP 32 ww_32 rfl 9 (by decide) (hts (.fieldLink RX3 38 "BoardMoves$Wiring" "highY" "[J") (List.mem_cons_of_mem _ flX3_38)) (fun _ h9 => h9) rfl dX3_reach_116 ?_
            refine lv_iload_n hx hb dX3_reach_119 rfl (lv_at hl 2 rfl) ?_
            refine bm_lald (f := wi.2.2.2.2.2.2.2.2.1) hx hb hK hP 41 0 ww_41 rfl (j := zj) (by omega) (by decide) dX3_reach_120 ?_
            refine lv_topl (fun t_12 _ => ?_)
            refine lv_lload hx hb dX3_reach_121 (lv_at hl 4 rfl) ?_
            refine bm_mmaxl (rest := [.int (nI zj), .ref (ad 41)]) hx hb (hml.trans hl.1.symm) hown (hts (.methodLink RX3 83 Lib.MathLoose.max_long.x) (by decide +kernel)) (hts (.static Lib.MathLoose.max_long.x) (by decide +kernel)) (hts (.initialized "java/lang/Math") (by decide +kernel)) (hts (.code Lib.MathLoose.max_long.x Lib.MathLoose.max_long.code 4 (some .long)) (by decide +kernel)) (Nat.le_of_ble_eq_true rfl) (Nat.le_of_ble_eq_true rfl) (Nat.le_of_ble_eq_true rfl) (Nat.le_of_ble_eq_true rfl) dX3_reach_123 ?_
            refine lv_topl (fun t_13 _ => ?_)
            refine bm_last (f := wi.2.2.2.2.2.2.2.2.1) hx hb hK hP hD hS 41 0 ww_41 rfl (j := zj) (x := t_13) (by omega) (by decide) dX3_reach_126 (fun H locs hP hD hS => ?_)
            have hP : va_P D vwCl (WW ad cJ cI cZ bm pa p0 p1 p2 li (wi.1, wi.2.1, wi.2.2.1, wi.2.2.2.1, va_up wi.2.2.2.2.1 zj true, va_up wi.2.2.2.2.2.1 zj t_4, va_up wi.2.2.2.2.2.2.1 zj t_7, va_up wi.2.2.2.2.2.2.2.1 zj t_10, va_up wi.2.2.2.2.2.2.2.2.1 zj t_13, wi.2.2.2.2.2.2.2.2.2.1, wi.2.2.2.2.2.2.2.2.2.2) mt ms ma mp mk mn ou) H := hP
            have hD : va_D A (WW ad cJ cI cZ bm pa p0 p1 p2 li (wi.1, wi.2.1, wi.2.2.1, wi.2.2.2.1, va_up wi.2.2.2.2.1 zj true, va_up wi.2.2.2.2.2.1 zj t_4, va_up wi.2.2.2.2.2.2.1 zj t_7, va_up wi.2.2.2.2.2.2.2.1 zj t_10, va_up wi.2.2.2.2.2.2.2.2.1 zj t_13, wi.2.2.2.2.2.2.2.2.2.1, wi.2.2.2.2.2.2.2.2.2.2) mt ms ma mp mk mn ou) := hD
            exact bm_vretX hx hb hr hP hD hK hS ⟨(va_up wi.2.2.2.2.1 zj true), (va_up wi.2.2.2.2.2.1 zj t_4), (va_up wi.2.2.2.2.2.2.1 zj t_7), (va_up wi.2.2.2.2.2.2.2.1 zj t_10), (va_up wi.2.2.2.2.2.2.2.2.1 zj t_13), rfl, rfl⟩ dX3_reach_127 hlocks
          · exact absurd c_11 (by decide)
        · exact absurd c_8 (by decide)
      · exact absurd c_5 (by decide)
    · exact absurd c_2 (by decide)
  · refine lv_iconst (v := bm_b true) hx hb dX3_reach_9 (by decide) ?_
    refine lv_goto (tgt := 14) hx hb dX3_reach_10 (by decide) ?_
    refine lv_istore (lv' := [(6, .int (bm_b true)), (0, .ref (ad 32)), (1, .int (nI zj)), (2, .long z1), (4, .long z2)]) hx hb dX3_reach_14 hl (by decide) rfl (fun ls hl => ?_)
    refine lv_aload_n hx hb dX3_reach_16 rfl (lv_at hl 1 rfl) ?_
    refine va_get (D := D) (ci := 3) (v := .ref (ad 37)) (C := RX3) (T := TX3) (N := 12) hx hb hts (inT inX3) hown hK hP 32 ww_32 rfl 5 (by decide) (hts (.fieldLink RX3 25 "BoardMoves$Wiring" "reached" "[Z") (List.mem_cons_of_mem _ flX3_25)) (fun _ h9 => h9) rfl dX3_reach_17 ?_
    refine lv_iload_n hx hb dX3_reach_20 rfl (lv_at hl 2 rfl) ?_
    refine lv_iconst (v := bm_b true) hx hb dX3_reach_21 (by decide) ?_
    refine bm_zast (f := wi.2.2.2.2.1) hx hb hK hP hD hS 37 2 ww_37 rfl (j := zj) (x := true) (by omega) (by decide) dX3_reach_22 (fun H locs hP hD hS => ?_)
    have hP : va_P D vwCl (WW ad cJ cI cZ bm pa p0 p1 p2 li (wi.1, wi.2.1, wi.2.2.1, wi.2.2.2.1, va_up wi.2.2.2.2.1 zj true, wi.2.2.2.2.2.1, wi.2.2.2.2.2.2.1, wi.2.2.2.2.2.2.2.1, wi.2.2.2.2.2.2.2.2.1, wi.2.2.2.2.2.2.2.2.2.1, wi.2.2.2.2.2.2.2.2.2.2) mt ms ma mp mk mn ou) H := hP
    have hD : va_D A (WW ad cJ cI cZ bm pa p0 p1 p2 li (wi.1, wi.2.1, wi.2.2.1, wi.2.2.2.1, va_up wi.2.2.2.2.1 zj true, wi.2.2.2.2.2.1, wi.2.2.2.2.2.2.1, wi.2.2.2.2.2.2.2.1, wi.2.2.2.2.2.2.2.2.1, wi.2.2.2.2.2.2.2.2.2.1, wi.2.2.2.2.2.2.2.2.2.2) mt ms ma mp mk mn ou) := hD
    refine lv_aload_n hx hb dX3_reach_23 rfl (lv_at hl 1 rfl) ?_
    refine va_get (D := D) (ci := 3) (v := .ref (ad 38)) (C := RX3) (T := TX3) (N := 12) hx hb hts (inT inX3) hown hK hP 32 ww_32 rfl 6 (by decide) (hts (.fieldLink RX3 29 "BoardMoves$Wiring" "lowX" "[J") (List.mem_cons_of_mem _ flX3_29)) (fun _ h9 => h9) rfl dX3_reach_24 ?_
    refine lv_iload_n hx hb dX3_reach_27 rfl (lv_at hl 2 rfl) ?_
    refine lv_iload hx hb dX3_reach_28 (lv_at hl 0 rfl) ?_
    refine bm_zb_eq (x := true) (tgt := 37) hx hb dX3_reach_30 (by decide) (fun c_14 => ?_) (fun c_14 => ?_)
    · exact absurd c_14 (by decide)
    · refine lv_lload_n hx hb dX3_reach_33 rfl (lv_at hl 3 rfl) ?_
      refine lv_goto (tgt := 47) hx hb dX3_reach_34 (by decide) ?_
      refine bm_last (f := wi.2.2.2.2.2.1) hx hb hK hP hD hS 38 0 ww_38 rfl (j := zj) (x := z1) (by omega) (by decide) dX3_reach_47 (fun H locs hP hD hS => ?_)
      have hP : va_P D vwCl (WW ad cJ cI cZ bm pa p0 p1 p2 li (wi.1, wi.2.1, wi.2.2.1, wi.2.2.2.1, va_up wi.2.2.2.2.1 zj true, va_up wi.2.2.2.2.2.1 zj z1, wi.2.2.2.2.2.2.1, wi.2.2.2.2.2.2.2.1, wi.2.2.2.2.2.2.2.2.1, wi.2.2.2.2.2.2.2.2.2.1, wi.2.2.2.2.2.2.2.2.2.2) mt ms ma mp mk mn ou) H := hP
      have hD : va_D A (WW ad cJ cI cZ bm pa p0 p1 p2 li (wi.1, wi.2.1, wi.2.2.1, wi.2.2.2.1, va_up wi.2.2.2.2.1 zj true, va_up wi.2.2.2.2.2.1 zj z1, wi.2.2.2.2.2.2.1, wi.2.2.2.2.2.2.2.1, wi.2.2.2.2.2.2.2.2.1, wi.2.2.2.2.2.2.2.2.2.1, wi.2.2.2.2.2.2.2.2.2.2) mt ms ma mp mk mn ou) := hD
      refine lv_aload_n hx hb dX3_reach_48 rfl (lv_at hl 1 rfl) ?_
      refine va_get (D := D) (ci := 3) (v := .ref (ad 39)) (C := RX3) (T := TX3) (N := 12) hx hb hts (inT inX3) hown hK hP 32 ww_32 rfl 7 (by decide) (hts (.fieldLink RX3 32 "BoardMoves$Wiring" "highX" "[J") (List.mem_cons_of_mem _ flX3_32)) (fun _ h9 => h9) rfl dX3_reach_49 ?_
      refine lv_iload_n hx hb dX3_reach_52 rfl (lv_at hl 2 rfl) ?_
      refine lv_iload hx hb dX3_reach_53 (lv_at hl 0 rfl) ?_
      refine bm_zb_eq (x := true) (tgt := 62) hx hb dX3_reach_55 (by decide) (fun c_15 => ?_) (fun c_15 => ?_)
      · exact absurd c_15 (by decide)
      · refine lv_lload_n hx hb dX3_reach_58 rfl (lv_at hl 3 rfl) ?_
        refine lv_goto (tgt := 72) hx hb dX3_reach_59 (by decide) ?_
        refine bm_last (f := wi.2.2.2.2.2.2.1) hx hb hK hP hD hS 39 0 ww_39 rfl (j := zj) (x := z1) (by omega) (by decide) dX3_reach_72 (fun H locs hP hD hS => ?_)
        have hP : va_P D vwCl (WW ad cJ cI cZ bm pa p0 p1 p2 li (wi.1, wi.2.1, wi.2.2.1, wi.2.2.2.1, va_up wi.2.2.2.2.1 zj true, va_up wi.2.2.2.2.2.1 zj z1, va_up wi.2.2.2.2.2.2.1 zj z1, wi.2.2.2.2.2.2.2.1, wi.2.2.2.2.2.2.2.2.1, wi.2.2.2.2.2.2.2.2.2.1, wi.2.2.2.2.2.2.2.2.2.2) mt ms ma mp mk mn ou) H := hP
        have hD : va_D A (WW ad cJ cI cZ bm pa p0 p1 p2 li (wi.1, wi.2.1, wi.2.2.1, wi.2.2.2.1, va_up wi.2.2.2.2.1 zj true, va_up wi.2.2.2.2.2.1 zj z1, va_up wi.2.2.2.2.2.2.1 zj z1, wi.2.2.2.2.2.2.2.1, wi.2.2.2.2.2.2.2.2.1, wi.2.2.2.2.2.2.2.2.2.1, wi.2.2.2.2.2.2.2.2.2.2) mt ms ma mp mk mn ou) := hD
        refine lv_aload_n hx hb dX3_reach_73 rfl (lv_at hl 1 rfl) ?_
        refine va_get (D := D) (ci := 3) (v := .ref (ad 40)) (C := RX3) (T := TX3) (N := 12) hx hb hts (inT inX3) hown hK hP 32 ww_32 rfl 8 (by decide) (hts (.fieldLink RX3 35 "BoardMoves$Wiring" "lowY" "[J") (List.mem_cons_of_mem _ flX3_35)) (fun _ h9 => h9) rfl dX3_reach_74 ?_
        refine lv_iload_n hx hb dX3_reach_77 rfl (lv_at hl 2 rfl) ?_
        refine lv_iload hx hb dX3_reach_78 (lv_at hl 0 rfl) ?_
        refine bm_zb_eq (x := true) (tgt := 88) hx hb dX3_reach_80 (by decide) (fun c_16 => ?_) (fun c_16 => ?_)
        · exact absurd c_16 (by decide)
        · refine lv_lload hx hb dX3_reach_83 (lv_at hl 4 rfl) ?_
          refine lv_goto (tgt := 99) hx hb dX3_reach_85 (by decide) ?_
          refine bm_last (f := wi.2.2.2.2.2.2.2.1) hx hb hK hP hD hS 40 0 ww_40 rfl (j := zj) (x := z2) (by omega) (by decide) dX3_reach_99 (fun H locs hP hD hS => ?_)
          have hP : va_P D vwCl (WW ad cJ cI cZ bm pa p0 p1 p2 li (wi.1, wi.2.1, wi.2.2.1, wi.2.2.2.1, va_up wi.2.2.2.2.1 zj true, va_up wi.2.2.2.2.2.1 zj z1, va_up wi.2.2.2.2.2.2.1 zj z1, va_up wi.2.2.2.2.2.2.2.1 zj z2, wi.2.2.2.2.2.2.2.2.1, wi.2.2.2.2.2.2.2.2.2.1, wi.2.2.2.2.2.2.2.2.2.2) mt ms ma mp mk mn ou) H := hP
          have hD : va_D A (WW ad cJ cI cZ bm pa p0 p1 p2 li (wi.1, wi.2.1, wi.2.2.1, wi.2.2.2.1, va_up wi.2.2.2.2.1 zj true, va_up wi.2.2.2.2.2.1 zj z1, va_up wi.2.2.2.2.2.2.1 zj z1, va_up wi.2.2.2.2.2.2.2.1 zj z2, wi.2.2.2.2.2.2.2.2.1, wi.2.2.2.2.2.2.2.2.2.1, wi.2.2.2.2.2.2.2.2.2.2) mt ms ma mp mk mn ou) := hD
          refine lv_aload_n hx hb dX3_reach_100 rfl (lv_at hl 1 rfl) ?_
          refine va_get (D := D) (ci := 3) (v := .ref (ad 41)) (C := RX3) (T := TX3) (N := 12) hx hb hts (inT inX3) hown hK hP 32 ww_32 rfl 9 (by decide) (hts (.fieldLink RX3 38 "BoardMoves$Wiring" "highY" "[J") (List.mem_cons_of_mem _ flX3_38)) (fun _ h9 => h9) rfl dX3_reach_101 ?_
          refine lv_iload_n hx hb dX3_reach_104 rfl (lv_at hl 2 rfl) ?_
          refine lv_iload hx hb dX3_reach_105 (lv_at hl 0 rfl) ?_
          refine bm_zb_eq (x := true) (tgt := 115) hx hb dX3_reach_107 (by decide) (fun c_17 => ?_) (fun c_17 => ?_)
          · exact absurd c_17 (by decide)
          · refine lv_lload hx hb dX3_reach_110 (lv_at hl 4 rfl) ?_
            refine lv_goto (tgt := 126) hx hb dX3_reach_112 (by decide) ?_
            refine bm_last (f := wi.2.2.2.2.2.2.2.2.1) hx hb hK hP hD hS 41 0 ww_41 rfl (j := zj) (x := z2) (by omega) (by decide) dX3_reach_126 (fun H locs hP hD hS => ?_)
            have hP : va_P D vwCl (WW ad cJ cI cZ bm pa p0 p1 p2 li (wi.1, wi.2.1, wi.2.2.1, wi.2.2.2.1, va_up wi.2.2.2.2.1 zj true, va_up wi.2.2.2.2.2.1 zj z1, va_up wi.2.2.2.2.2.2.1 zj z1, va_up wi.2.2.2.2.2.2.2.1 zj z2, va_up wi.2.2.2.2.2.2.2.2.1 zj z2, wi.2.2.2.2.2.2.2.2.2.1, wi.2.2.2.2.2.2.2.2.2.2) mt ms ma mp mk mn ou) H := hP
            have hD : va_D A (WW ad cJ cI cZ bm pa p0 p1 p2 li (wi.1, wi.2.1, wi.2.2.1, wi.2.2.2.1, va_up wi.2.2.2.2.1 zj true, va_up wi.2.2.2.2.2.1 zj z1, va_up wi.2.2.2.2.2.2.1 zj z1, va_up wi.2.2.2.2.2.2.2.1 zj z2, va_up wi.2.2.2.2.2.2.2.2.1 zj z2, wi.2.2.2.2.2.2.2.2.2.1, wi.2.2.2.2.2.2.2.2.2.2) mt ms ma mp mk mn ou) := hD
            exact bm_vretX hx hb hr hP hD hK hS ⟨(va_up wi.2.2.2.2.1 zj true), (va_up wi.2.2.2.2.2.1 zj z1), (va_up wi.2.2.2.2.2.2.1 zj z1), (va_up wi.2.2.2.2.2.2.2.1 zj z2), (va_up wi.2.2.2.2.2.2.2.2.1 zj z2), rfl, rfl⟩ dX3_reach_127 hlocks

set_option maxHeartbeats 8000000 in
set_option maxRecDepth 100000 in
theorem x_meas {l : Launch} {D : va_G} {ad : Nat → Nat} {cJ cI cZ : ClassId} {bm : gBM} {pa : gPA} {p0 p1 p2 : gPL} {li : gLI} {wi : gWI} {mt : Nat} {ms : gMS} {ma : gMA} {mp : gMP} {mk : gMK} {mn : gMN} {ou : Nat → Int64}  (ok_wi_nets : wi.2.2.2.2.2.2.2.2.2.1 ≤ 40) (ok_wi_pins : wi.2.2.2.2.2.2.2.2.2.2 ≤ 120) (ok_wi_netOf : ∀ i, wi.1 i < 40) (ok_wi_partOf : ∀ i, wi.2.1 i < 40) (ok_p0_turn : ∀ i, p0.2.2.1 i < 40)   : bm_Wx l yX3_measure wsX3_measure ({ frames := 2, cells := 0, slots := 0, locals := 50 }) D vwCl [(cJ, .long), (cI, .int), (cZ, .boolean)] (WW ad cJ cI cZ bm pa p0 p1 p2 li wi mt ms ma mp mk mn ou) [.ref (ad 32), .ref (ad 8)] (fun ws9 r9 => ∃ (e0 : Nat → Bool) (e1 : Nat → Int64) (e2 : Nat → Int64) (e3 : Nat → Int64) (e4 : Nat → Int64) , ws9 = (WW ad cJ cI cZ bm pa p0 p1 p2 li (wi.1, wi.2.1, wi.2.2.1, wi.2.2.2.1, e0, e1, e2, e3, e4, wi.2.2.2.2.2.2.2.2.2.1, wi.2.2.2.2.2.2.2.2.2.2) mt ms ma mp mk mn ou) ∧ ∃ v9 : Int64, r9 = some (.long v9)) := by
  intro sz
  refine Met.ofW (cc := cX3_measure) (maxL := 5) (ret := (some .long)) (by decide) rfl ?_
  intro p e s m args below meth c s₁ B hml hv
  obtain ⟨ha, hsz, hP, hK, hD0⟩ := hv
  have hx := B.exec
  have hb := B.bytes
  have hr := B.returns
  have hts := atoms_spec (ws := wsX3_measure) B.pre
  have hown : s.vm.findClass RX3 = some m.cls := findClass_of_methodNamed B.named
  have hlocks := B.notSynchronized
  subst hsz
  have hD := hD0.self (sz := s.heap.size)
  generalize hAe : va_A (WW ad cJ cI cZ bm pa p0 p1 p2 li wi mt ms ma mp mk mn ou) s.heap.size = A at hD ⊢
  have hA : ∀ q : Nat, s.heap.size ≤ q → A q := fun q h => by rw [← hAe]; exact Or.inr h
  have hS : va_S A s.heap s.heap [] := va_S.rf
  have hl := lv_entry ([.ref (ad 32), .ref (ad 8)]) (n := 5) (Nat.le_of_ble_eq_true rfl)
  refine W.eq (g2 := entryFrame m ([.ref (ad 32), .ref (ad 8)] : List Value).toArray 5) (by rw [ha]) ?_
  rw [lg_entry_eq]
  generalize (lg_sl ([.ref (ad 32), .ref (ad 8)]) ++ List.replicate (5 - (lg_sl ([.ref (ad 32), .ref (ad 8)])).length) Slot.unset).toArray = ls at hl ⊢
  have hl : lv_has ls 5 [(0, .ref (ad 32)), (1, .ref (ad 8))] := hl
  refine lv_iconst (v := nI 0) hx hb dX3_measure_0 (by decide) ?_
  refine lv_istore_n (lv' := [(2, .int (nI 0)), (0, .ref (ad 32)), (1, .ref (ad 8))]) hx hb dX3_measure_1 rfl hl (by decide) rfl (fun ls hl => ?_)
  have lp_1 : ∀ (k_3 : Nat) (i_2 : Nat) (g_5 : Nat → Bool), i_2 ≤ wi.2.2.2.2.2.2.2.2.2.1 → wi.2.2.2.2.2.2.2.2.2.1 < i_2 + k_3 → ∀ (H : Heap) (locs : List Loc), va_P D vwCl (WW ad cJ cI cZ bm pa p0 p1 p2 li (wi.1, wi.2.1, wi.2.2.1, wi.2.2.2.1, g_5, wi.2.2.2.2.2.1, wi.2.2.2.2.2.2.1, wi.2.2.2.2.2.2.2.1, wi.2.2.2.2.2.2.2.2.1, wi.2.2.2.2.2.2.2.2.2.1, wi.2.2.2.2.2.2.2.2.2.2) mt ms ma mp mk mn ou) H → va_D A (WW ad cJ cI cZ bm pa p0 p1 p2 li (wi.1, wi.2.1, wi.2.2.1, wi.2.2.2.1, g_5, wi.2.2.2.2.2.1, wi.2.2.2.2.2.2.1, wi.2.2.2.2.2.2.2.1, wi.2.2.2.2.2.2.2.2.1, wi.2.2.2.2.2.2.2.2.2.1, wi.2.2.2.2.2.2.2.2.2.2) mt ms ma mp mk mn ou) → va_S A s.heap H locs → ∀ (ls : Array Slot), lv_has ls 5 [(2, .int (nI i_2)), (0, .ref (ad 32)), (1, .ref (ad 8))] → W p l e (headSpec wsX3_measure ({ frames := 2, cells := 0, slots := 0, locals := 50 })).room s m args below meth c H locs 0 0 (MQ below (bm_Wxq D vwCl [(cJ, .long), (cI, .int), (cZ, .boolean)] (fun ws9 r9 => ∃ (e0 : Nat → Bool) (e1 : Nat → Int64) (e2 : Nat → Int64) (e3 : Nat → Int64) (e4 : Nat → Int64) , ws9 = (WW ad cJ cI cZ bm pa p0 p1 p2 li (wi.1, wi.2.1, wi.2.2.1, wi.2.2.2.1, e0, e1, e2, e3, e4, wi.2.2.2.2.2.2.2.2.2.1, wi.2.2.2.2.2.2.2.2.2.2) mt ms ma mp mk mn ou) ∧ ∃ v9 : Int64, r9 = some (.long v9)) A) args s 0 0 A) (F0 m 2 ls []) := by
    intro k_3
    induction k_3 with
    | zero => intro i_2 g_5 hi_6 hk_7; exfalso; omega
    | succ k_3 ih_4 =>
      intro i_2 g_5 hi_6 hk_7  H locs hP hD hS ls hl
      refine lv_iload_n hx hb dX3_measure_2 rfl (lv_at hl 0 rfl) ?_
      refine lv_aload_n hx hb dX3_measure_3 rfl (lv_at hl 1 rfl) ?_
      refine va_get (D := D) (ci := 3) (v := .int (nI wi.2.2.2.2.2.2.2.2.2.1)) (C := RX3) (T := TX3) (N := 12) hx hb hts (inT inX3) hown hK hP 32 ww_32 rfl 10 (by decide) (hts (.fieldLink RX3 41 "BoardMoves$Wiring" "nets" "I") (List.mem_cons_of_mem _ flX3_41)) (fun _ h9 => h9) rfl dX3_measure_4 ?_
      refine bm_ni_ge (x := i_2) (y := wi.2.2.2.2.2.2.2.2.2.1) (tgt := 23) hx hb (by omega) (by omega) dX3_measure_7 (by decide) (fun c_8 => ?_) (fun c_8 => ?_)
      · refine lv_iconst (v := nI 0) hx hb dX3_measure_23 (by decide) ?_
        refine lv_istore_n (lv' := [(2, .int (nI 0)), (0, .ref (ad 32)), (1, .ref (ad 8))]) hx hb dX3_measure_24 rfl hl (by decide) rfl (fun ls hl => ?_)
        have lp_9 : ∀ (k_11 : Nat) (i_10 : Nat) (g_13 : Nat → Bool) (g_14 : Nat → Int64) (g_15 : Nat → Int64) (g_16 : Nat → Int64) (g_17 : Nat → Int64), i_10 ≤ wi.2.2.2.2.2.2.2.2.2.2 → wi.2.2.2.2.2.2.2.2.2.2 < i_10 + k_11 → ∀ (H : Heap) (locs : List Loc), va_P D vwCl (WW ad cJ cI cZ bm pa p0 p1 p2 li (wi.1, wi.2.1, wi.2.2.1, wi.2.2.2.1, g_13, g_14, g_15, g_16, g_17, wi.2.2.2.2.2.2.2.2.2.1, wi.2.2.2.2.2.2.2.2.2.2) mt ms ma mp mk mn ou) H → va_D A (WW ad cJ cI cZ bm pa p0 p1 p2 li (wi.1, wi.2.1, wi.2.2.1, wi.2.2.2.1, g_13, g_14, g_15, g_16, g_17, wi.2.2.2.2.2.2.2.2.2.1, wi.2.2.2.2.2.2.2.2.2.2) mt ms ma mp mk mn ou) → va_S A s.heap H locs → ∀ (ls : Array Slot), lv_has ls 5 [(2, .int (nI i_10)), (0, .ref (ad 32)), (1, .ref (ad 8))] → W p l e (headSpec wsX3_measure ({ frames := 2, cells := 0, slots := 0, locals := 50 })).room s m args below meth c H locs 0 0 (MQ below (bm_Wxq D vwCl [(cJ, .long), (cI, .int), (cZ, .boolean)] (fun ws9 r9 => ∃ (e0 : Nat → Bool) (e1 : Nat → Int64) (e2 : Nat → Int64) (e3 : Nat → Int64) (e4 : Nat → Int64) , ws9 = (WW ad cJ cI cZ bm pa p0 p1 p2 li (wi.1, wi.2.1, wi.2.2.1, wi.2.2.2.1, e0, e1, e2, e3, e4, wi.2.2.2.2.2.2.2.2.2.1, wi.2.2.2.2.2.2.2.2.2.2) mt ms ma mp mk mn ou) ∧ ∃ v9 : Int64, r9 = some (.long v9)) A) args s 0 0 A) (F0 m 25 ls []) := by
          intro k_11
          induction k_11 with
          | zero => intro i_10 g_13 g_14 g_15 g_16 g_17 hi_18 hk_19; exfalso; omega
          | succ k_11 ih_12 =>
            intro i_10 g_13 g_14 g_15 g_16 g_17 hi_18 hk_19  H locs hP hD hS ls hl
            refine lv_iload_n hx hb dX3_measure_25 rfl (lv_at hl 0 rfl) ?_
            refine lv_aload_n hx hb dX3_measure_26 rfl (lv_at hl 1 rfl) ?_
            refine va_get (D := D) (ci := 3) (v := .int (nI wi.2.2.2.2.2.2.2.2.2.2)) (C := RX3) (T := TX3) (N := 12) hx hb hts (inT inX3) hown hK hP 32 ww_32 rfl 11 (by decide) (hts (.fieldLink RX3 45 "BoardMoves$Wiring" "pins" "I") (List.mem_cons_of_mem _ flX3_45)) (fun _ h9 => h9) rfl dX3_measure_27 ?_
            refine bm_ni_ge (x := i_10) (y := wi.2.2.2.2.2.2.2.2.2.2) (tgt := 103) hx hb (by omega) (by omega) dX3_measure_30 (by decide) (fun c_20 => ?_) (fun c_20 => ?_)
            · refine lv_lconst (v := 0) hx hb dX3_measure_103 (by decide) ?_
              refine lv_lstore_n (lv' := [(2, .long 0), (0, .ref (ad 32)), (1, .ref (ad 8))]) hx hb dX3_measure_104 rfl hl (by decide) rfl (fun ls hl => ?_)
              refine lv_iconst (v := nI 0) hx hb dX3_measure_105 (by decide) ?_
              refine lv_istore (lv' := [(4, .int (nI 0)), (2, .long 0), (0, .ref (ad 32)), (1, .ref (ad 8))]) hx hb dX3_measure_106 hl (by decide) rfl (fun ls hl => ?_)
              have lp_21 : ∀ (k_23 : Nat) (i_22 : Nat) (v_25 : Int64), i_22 ≤ wi.2.2.2.2.2.2.2.2.2.1 → wi.2.2.2.2.2.2.2.2.2.1 < i_22 + k_23 → ∀ (H : Heap) (locs : List Loc), va_P D vwCl (WW ad cJ cI cZ bm pa p0 p1 p2 li (wi.1, wi.2.1, wi.2.2.1, wi.2.2.2.1, g_13, g_14, g_15, g_16, g_17, wi.2.2.2.2.2.2.2.2.2.1, wi.2.2.2.2.2.2.2.2.2.2) mt ms ma mp mk mn ou) H → va_D A (WW ad cJ cI cZ bm pa p0 p1 p2 li (wi.1, wi.2.1, wi.2.2.1, wi.2.2.2.1, g_13, g_14, g_15, g_16, g_17, wi.2.2.2.2.2.2.2.2.2.1, wi.2.2.2.2.2.2.2.2.2.2) mt ms ma mp mk mn ou) → va_S A s.heap H locs → ∀ (ls : Array Slot), lv_has ls 5 [(4, .int (nI i_22)), (2, .long v_25), (0, .ref (ad 32)), (1, .ref (ad 8))] → W p l e (headSpec wsX3_measure ({ frames := 2, cells := 0, slots := 0, locals := 50 })).room s m args below meth c H locs 0 0 (MQ below (bm_Wxq D vwCl [(cJ, .long), (cI, .int), (cZ, .boolean)] (fun ws9 r9 => ∃ (e0 : Nat → Bool) (e1 : Nat → Int64) (e2 : Nat → Int64) (e3 : Nat → Int64) (e4 : Nat → Int64) , ws9 = (WW ad cJ cI cZ bm pa p0 p1 p2 li (wi.1, wi.2.1, wi.2.2.1, wi.2.2.2.1, e0, e1, e2, e3, e4, wi.2.2.2.2.2.2.2.2.2.1, wi.2.2.2.2.2.2.2.2.2.2) mt ms ma mp mk mn ou) ∧ ∃ v9 : Int64, r9 = some (.long v9)) A) args s 0 0 A) (F0 m 108 ls []) := by
                intro k_23
                induction k_23 with
                | zero => intro i_22 v_25 hi_26 hk_27; exfalso; omega
                | succ k_23 ih_24 =>
                  intro i_22 v_25 hi_26 hk_27  H locs hP hD hS ls hl
                  refine lv_iload hx hb dX3_measure_108 (lv_at hl 0 rfl) ?_
                  refine lv_aload_n hx hb dX3_measure_110 rfl (lv_at hl 2 rfl) ?_
                  refine va_get (D := D) (ci := 3) (v := .int (nI wi.2.2.2.2.2.2.2.2.2.1)) (C := RX3) (T := TX3) (N := 12) hx hb hts (inT inX3) hown hK hP 32 ww_32 rfl 10 (by decide) (hts (.fieldLink RX3 41 "BoardMoves$Wiring" "nets" "I") (List.mem_cons_of_mem _ flX3_41)) (fun _ h9 => h9) rfl dX3_measure_111 ?_
                  refine bm_ni_ge (x := i_22) (y := wi.2.2.2.2.2.2.2.2.2.1) (tgt := 167) hx hb (by omega) (by omega) dX3_measure_114 (by decide) (fun c_28 => ?_) (fun c_28 => ?_)
                  · refine lv_lload_n hx hb dX3_measure_167 rfl (lv_at hl 1 rfl) ?_
                    exact bm_lretX (v := v_25) hx hb hr hP hD hK hS ⟨g_13, g_14, g_15, g_16, g_17, rfl, v_25, rfl⟩ dX3_measure_168 hlocks
                  · refine lv_aload_n hx hb dX3_measure_117 rfl (lv_at hl 2 rfl) ?_
                    refine va_get (D := D) (ci := 3) (v := .ref (ad 37)) (C := RX3) (T := TX3) (N := 12) hx hb hts (inT inX3) hown hK hP 32 ww_32 rfl 5 (by decide) (hts (.fieldLink RX3 25 "BoardMoves$Wiring" "reached" "[Z") (List.mem_cons_of_mem _ flX3_25)) (fun _ h9 => h9) rfl dX3_measure_118 ?_
                    refine lv_iload hx hb dX3_measure_121 (lv_at hl 0 rfl) ?_
                    refine bm_zald (f := g_13) hx hb hK hP 37 2 ww_37 rfl (j := i_22) (by omega) (by decide) dX3_measure_123 ?_
                    refine bm_zb_eq (x := (g_13 i_22)) (tgt := 161) hx hb dX3_measure_124 (by decide) (fun c_29 => ?_) (fun c_29 => ?_)
                    · refine lv_iinc (v := (nI (i_22 + 1))) (lv' := [(4, .int (nI (i_22 + 1))), (2, .long v_25), (0, .ref (ad 32)), (1, .ref (ad 8))]) hx hb dX3_measure_161 hl (k := 0) rfl (nI_1 i_22) (by decide) rfl (fun ls hl => ?_)
                      refine lv_goto (tgt := 108) hx hb dX3_measure_164 (by decide) ?_
                      exact ih_24 (i_22 + 1) v_25 (by omega) (by omega)  _ _ hP hD hS _ (lv_sub hl [0, 1, 2, 3] rfl)
                    · refine lv_lload_n hx hb dX3_measure_127 rfl (lv_at hl 1 rfl) ?_
                      refine lv_aload_n hx hb dX3_measure_128 rfl (lv_at hl 2 rfl) ?_
                      refine va_get (D := D) (ci := 3) (v := .ref (ad 39)) (C := RX3) (T := TX3) (N := 12) hx hb hts (inT inX3) hown hK hP 32 ww_32 rfl 7 (by decide) (hts (.fieldLink RX3 32 "BoardMoves$Wiring" "highX" "[J") (List.mem_cons_of_mem _ flX3_32)) (fun _ h9 => h9) rfl dX3_measure_129 ?_
                      refine lv_iload hx hb dX3_measure_132 (lv_at hl 0 rfl) ?_
                      refine bm_lald (f := g_15) hx hb hK hP 39 0 ww_39 rfl (j := i_22) (by omega) (by decide) dX3_measure_134 ?_
                      refine lv_topl (fun t_30 _ => ?_)
                      refine lv_aload_n hx hb dX3_measure_135 rfl (lv_at hl 2 rfl) ?_
                      refine va_get (D := D) (ci := 3) (v := .ref (ad 38)) (C := RX3) (T := TX3) (N := 12) hx hb hts (inT inX3) hown hK hP 32 ww_32 rfl 6 (by decide) (hts (.fieldLink RX3 29 "BoardMoves$Wiring" "lowX" "[J") (List.mem_cons_of_mem _ flX3_29)) (fun _ h9 => h9) rfl dX3_measure_136 ?_
                      refine lv_iload hx hb dX3_measure_139 (lv_at hl 0 rfl) ?_
                      refine bm_lald (f := g_14) hx hb hK hP 38 0 ww_38 rfl (j := i_22) (by omega) (by decide) dX3_measure_141 ?_
                      refine lv_topl (fun t_31 _ => ?_)
                      refine lv_lsub hx hb dX3_measure_142 ?_
                      refine lv_topl (fun t_32 _ => ?_)
                      refine lv_aload_n hx hb dX3_measure_143 rfl (lv_at hl 2 rfl) ?_
                      refine va_get (D := D) (ci := 3) (v := .ref (ad 41)) (C := RX3) (T := TX3) (N := 12) hx hb hts (inT inX3) hown hK hP 32 ww_32 rfl 9 (by decide) (hts (.fieldLink RX3 38 "BoardMoves$Wiring" "highY" "[J") (List.mem_cons_of_mem _ flX3_38)) (fun _ h9 => h9) rfl dX3_measure_144 ?_
                      refine lv_iload hx hb dX3_measure_147 (lv_at hl 0 rfl) ?_
                      refine bm_lald (f := g_17) hx hb hK hP 41 0 ww_41 rfl (j := i_22) (by omega) (by decide) dX3_measure_149 ?_
                      refine lv_topl (fun t_33 _ => ?_)
                      refine lv_ladd hx hb dX3_measure_150 ?_
                      refine lv_topl (fun t_34 _ => ?_)
                      refine lv_aload_n hx hb dX3_measure_151 rfl (lv_at hl 2 rfl) ?_
                      refine va_get (D := D) (ci := 3) (v := .ref (ad 40)) (C := RX3) (T := TX3) (N := 12) hx hb hts (inT inX3) hown hK hP 32 ww_32 rfl 8 (by decide) (hts (.fieldLink RX3 35 "BoardMoves$Wiring" "lowY" "[J") (List.mem_cons_of_mem _ flX3_35)) (fun _ h9 => h9) rfl dX3_measure_152 ?_
                      refine lv_iload hx hb dX3_measure_155 (lv_at hl 0 rfl) ?_
                      refine bm_lald (f := g_16) hx hb hK hP 40 0 ww_40 rfl (j := i_22) (by omega) (by decide) dX3_measure_157 ?_
                      refine lv_topl (fun t_35 _ => ?_)
                      refine lv_lsub hx hb dX3_measure_158 ?_
                      refine lv_topl (fun t_36 _ => ?_)
                      refine lv_ladd hx hb dX3_measure_159 ?_
                      refine lv_topl (fun t_37 _ => ?_)
                      refine lv_lstore_n (lv' := [(2, .long t_37), (4, .int (nI i_22)), (0, .ref (ad 32)), (1, .ref (ad 8))]) hx hb dX3_measure_160 rfl hl (by decide) rfl (fun ls hl => ?_)
                      refine lv_iinc (v := (nI (i_22 + 1))) (lv' := [(4, .int (nI (i_22 + 1))), (2, .long t_37), (0, .ref (ad 32)), (1, .ref (ad 8))]) hx hb dX3_measure_161 hl (k := 1) rfl (nI_1 i_22) (by decide) rfl (fun ls hl => ?_)
                      refine lv_goto (tgt := 108) hx hb dX3_measure_164 (by decide) ?_
                      exact ih_24 (i_22 + 1) t_37 (by omega) (by omega)  _ _ hP hD hS _ (lv_sub hl [0, 1, 2, 3] rfl)
              exact lp_21 (wi.2.2.2.2.2.2.2.2.2.1 + 1) 0 0 (by omega) (by omega)  _ _ hP hD hS _ (lv_sub hl [0, 1, 2, 3] rfl)
            · refine lv_aload_n hx hb dX3_measure_33 rfl (lv_at hl 1 rfl) ?_
              refine va_get (D := D) (ci := 3) (v := .ref (ad 34)) (C := RX3) (T := TX3) (N := 12) hx hb hts (inT inX3) hown hK hP 32 ww_32 rfl 2 (by decide) (hts (.fieldLink RX3 15 "BoardMoves$Wiring" "partOf" "[I") (List.mem_cons_of_mem _ flX3_15)) (fun _ h9 => h9) rfl dX3_measure_34 ?_
              refine lv_iload_n hx hb dX3_measure_37 rfl (lv_at hl 0 rfl) ?_
              refine bm_nald (f := wi.2.1) hx hb hK hP 34 1 ww_34 rfl (j := i_10) (by omega) (by decide) dX3_measure_38 ?_
              refine lv_istore_n (lv' := [(3, .int (nI (wi.2.1 i_10))), (2, .int (nI i_10)), (0, .ref (ad 32)), (1, .ref (ad 8))]) hx hb dX3_measure_39 rfl hl (by decide) rfl (fun ls hl => ?_)
              refine lv_aload_n hx hb dX3_measure_40 rfl (lv_at hl 3 rfl) ?_
              refine va_get (D := D) (ci := 2) (v := .ref (ad 12)) (C := RX2) (T := TX2) (N := 5) hx hb hts (inT inX2) hown hK hP 8 ww_8 rfl 4 (by decide) (hts (.fieldLink RX3 52 "BoardMoves$Placement" "placed" "[Z") (List.mem_cons_of_mem _ flX3_52)) (fun _ h9 => h9) rfl dX3_measure_41 ?_
              refine lv_iload_n hx hb dX3_measure_44 rfl (lv_at hl 0 rfl) ?_
              refine bm_zald (f := p0.2.2.2) hx hb hK hP 12 2 ww_12 rfl (j := (wi.2.1 i_10)) (ok_wi_partOf _) (by decide) dX3_measure_45 ?_
              refine bm_zb_eq (x := (p0.2.2.2 (wi.2.1 i_10))) (tgt := 97) hx hb dX3_measure_46 (by decide) (fun c_38 => ?_) (fun c_38 => ?_)
              · refine lv_iinc (v := (nI (i_10 + 1))) (lv' := [(2, .int (nI (i_10 + 1))), (3, .int (nI (wi.2.1 i_10))), (0, .ref (ad 32)), (1, .ref (ad 8))]) hx hb dX3_measure_97 hl (k := 1) rfl (nI_1 i_10) (by decide) rfl (fun ls hl => ?_)
                refine lv_goto (tgt := 25) hx hb dX3_measure_100 (by decide) ?_
                exact ih_12 (i_10 + 1) g_13 g_14 g_15 g_16 g_17 (by omega) (by omega)  _ _ hP hD hS _ (lv_sub hl [0, 2, 3] rfl)
              · refine lv_aload_n hx hb dX3_measure_49 rfl (lv_at hl 3 rfl) ?_
                refine va_get (D := D) (ci := 2) (v := .ref (ad 11)) (C := RX2) (T := TX2) (N := 5) hx hb hts (inT inX2) hown hK hP 8 ww_8 rfl 3 (by decide) (hts (.fieldLink RX3 57 "BoardMoves$Placement" "turn" "[I") (List.mem_cons_of_mem _ flX3_57)) (fun _ h9 => h9) rfl dX3_measure_50 ?_
                refine lv_iload_n hx hb dX3_measure_53 rfl (lv_at hl 0 rfl) ?_
                refine bm_nald (f := p0.2.2.1) hx hb hK hP 11 1 ww_11 rfl (j := (wi.2.1 i_10)) (ok_wi_partOf _) (by decide) dX3_measure_54 ?_
                refine lv_istore (lv' := [(4, .int (nI (p0.2.2.1 (wi.2.1 i_10)))), (3, .int (nI (wi.2.1 i_10))), (2, .int (nI i_10)), (0, .ref (ad 32)), (1, .ref (ad 8))]) hx hb dX3_measure_55 hl (by decide) rfl (fun ls hl => ?_)
                refine lv_aload_n hx hb dX3_measure_57 rfl (lv_at hl 3 rfl) ?_
                refine lv_aload_n hx hb dX3_measure_58 rfl (lv_at hl 3 rfl) ?_
                refine va_get (D := D) (ci := 3) (v := .ref (ad 33)) (C := RX3) (T := TX3) (N := 12) hx hb hts (inT inX3) hown hK hP 32 ww_32 rfl 1 (by decide) (hts (.fieldLink RX3 9 "BoardMoves$Wiring" "netOf" "[I") (List.mem_cons_of_mem _ flX3_9)) (fun _ h9 => h9) rfl dX3_measure_59 ?_
                refine lv_iload_n hx hb dX3_measure_62 rfl (lv_at hl 2 rfl) ?_
                refine bm_nald (f := wi.1) hx hb hK hP 33 1 ww_33 rfl (j := i_10) (by omega) (by decide) dX3_measure_63 ?_
                refine lv_aload_n hx hb dX3_measure_64 rfl (lv_at hl 4 rfl) ?_
                refine va_get (D := D) (ci := 2) (v := .ref (ad 9)) (C := RX2) (T := TX2) (N := 5) hx hb hts (inT inX2) hown hK hP 8 ww_8 rfl 1 (by decide) (hts (.fieldLink RX3 60 "BoardMoves$Placement" "x" "[J") (List.mem_cons_of_mem _ flX3_60)) (fun _ h9 => h9) rfl dX3_measure_65 ?_
                refine lv_iload_n hx hb dX3_measure_68 rfl (lv_at hl 1 rfl) ?_
                refine bm_lald (f := p0.1) hx hb hK hP 9 0 ww_9 rfl (j := (wi.2.1 i_10)) (ok_wi_partOf _) (by decide) dX3_measure_69 ?_
                refine lv_topl (fun t_39 _ => ?_)
                refine lv_aload_n hx hb dX3_measure_70 rfl (lv_at hl 3 rfl) ?_
                refine lv_iload_n hx hb dX3_measure_71 rfl (lv_at hl 2 rfl) ?_
                refine lv_iload_n hx hb dX3_measure_72 rfl (lv_at hl 1 rfl) ?_
                refine lv_iload hx hb dX3_measure_73 (lv_at hl 0 rfl) ?_
                refine bm_xcallV (As := [.int (nI i_10), .int (nI (wi.2.1 i_10)), .int (nI (p0.2.2.1 (wi.2.1 i_10)))]) (rest := [.long t_39, .int (nI (wi.1 i_10)), .ref (ad 32)]) ⟨hx, hb, hml, hown, hts⟩ (x_turnedX (wi := (wi.1, wi.2.1, wi.2.2.1, wi.2.2.2.1, g_13, g_14, g_15, g_16, g_17, wi.2.2.2.2.2.2.2.2.2.1, wi.2.2.2.2.2.2.2.2.2.2)) (zk := i_10) (zj := wi.2.1 i_10) (zt := p0.2.2.1 (wi.2.1 i_10))  (by omega) (ok_wi_partOf _) (ok_p0_turn _)) (cwV 3 hts gvX3_63 rfl rfl rfl hvX3_turnedX ⟨Nat.le_of_ble_eq_true rfl, Nat.le_of_ble_eq_true rfl⟩) hK hP hD hS hA 32 3 rfl ww_32 rfl hl.1 rfl (Nat.le_of_ble_eq_true rfl) dX3_measure_75 ⟨Nat.le_of_ble_eq_true rfl, Nat.le_of_ble_eq_true rfl⟩ (fun ws_40 r_41 h_42 H locs hP hD hS => ?_)
                obtain ⟨rfl, v_43, rfl⟩ := h_42
                have hP : va_P D vwCl (WW ad cJ cI cZ bm pa p0 p1 p2 li (wi.1, wi.2.1, wi.2.2.1, wi.2.2.2.1, g_13, g_14, g_15, g_16, g_17, wi.2.2.2.2.2.2.2.2.2.1, wi.2.2.2.2.2.2.2.2.2.2) mt ms ma mp mk mn ou) H := hP
                have hD : va_D A (WW ad cJ cI cZ bm pa p0 p1 p2 li (wi.1, wi.2.1, wi.2.2.1, wi.2.2.2.1, g_13, g_14, g_15, g_16, g_17, wi.2.2.2.2.2.2.2.2.2.1, wi.2.2.2.2.2.2.2.2.2.2) mt ms ma mp mk mn ou) := hD
                refine lv_ladd hx hb dX3_measure_78 ?_
                refine lv_topl (fun t_44 _ => ?_)
                refine lv_aload_n hx hb dX3_measure_79 rfl (lv_at hl 4 rfl) ?_
                refine va_get (D := D) (ci := 2) (v := .ref (ad 10)) (C := RX2) (T := TX2) (N := 5) hx hb hts (inT inX2) hown hK hP 8 ww_8 rfl 2 (by decide) (hts (.fieldLink RX3 67 "BoardMoves$Placement" "y" "[J") (List.mem_cons_of_mem _ flX3_67)) (fun _ h9 => h9) rfl dX3_measure_80 ?_
                refine lv_iload_n hx hb dX3_measure_83 rfl (lv_at hl 1 rfl) ?_
                refine bm_lald (f := p0.2.1) hx hb hK hP 10 0 ww_10 rfl (j := (wi.2.1 i_10)) (ok_wi_partOf _) (by decide) dX3_measure_84 ?_
                refine lv_topl (fun t_45 _ => ?_)
                refine lv_aload_n hx hb dX3_measure_85 rfl (lv_at hl 3 rfl) ?_
                refine lv_iload_n hx hb dX3_measure_86 rfl (lv_at hl 2 rfl) ?_
                refine lv_iload_n hx hb dX3_measure_87 rfl (lv_at hl 1 rfl) ?_
                refine lv_iload hx hb dX3_measure_88 (lv_at hl 0 rfl) ?_
                refine bm_xcallV (As := [.int (nI i_10), .int (nI (wi.2.1 i_10)), .int (nI (p0.2.2.1 (wi.2.1 i_10)))]) (rest := [.long t_45, .long t_44, .int (nI (wi.1 i_10)), .ref (ad 32)]) ⟨hx, hb, hml, hown, hts⟩ (x_turnedY (wi := (wi.1, wi.2.1, wi.2.2.1, wi.2.2.2.1, g_13, g_14, g_15, g_16, g_17, wi.2.2.2.2.2.2.2.2.2.1, wi.2.2.2.2.2.2.2.2.2.2)) (zk := i_10) (zj := wi.2.1 i_10) (zt := p0.2.2.1 (wi.2.1 i_10))  (by omega) (ok_wi_partOf _) (ok_p0_turn _)) (cwV 3 hts gvX3_70 rfl rfl rfl hvX3_turnedY ⟨Nat.le_of_ble_eq_true rfl, Nat.le_of_ble_eq_true rfl⟩) hK hP hD hS hA 32 3 rfl ww_32 rfl hl.1 rfl (Nat.le_of_ble_eq_true rfl) dX3_measure_90 ⟨Nat.le_of_ble_eq_true rfl, Nat.le_of_ble_eq_true rfl⟩ (fun ws_46 r_47 h_48 H locs hP hD hS => ?_)
                obtain ⟨rfl, v_49, rfl⟩ := h_48
                have hP : va_P D vwCl (WW ad cJ cI cZ bm pa p0 p1 p2 li (wi.1, wi.2.1, wi.2.2.1, wi.2.2.2.1, g_13, g_14, g_15, g_16, g_17, wi.2.2.2.2.2.2.2.2.2.1, wi.2.2.2.2.2.2.2.2.2.2) mt ms ma mp mk mn ou) H := hP
                have hD : va_D A (WW ad cJ cI cZ bm pa p0 p1 p2 li (wi.1, wi.2.1, wi.2.2.1, wi.2.2.2.1, g_13, g_14, g_15, g_16, g_17, wi.2.2.2.2.2.2.2.2.2.1, wi.2.2.2.2.2.2.2.2.2.2) mt ms ma mp mk mn ou) := hD
                refine lv_ladd hx hb dX3_measure_93 ?_
                refine lv_topl (fun t_50 _ => ?_)
                refine bm_xcallV (As := [.int (nI (wi.1 i_10)), .long t_44, .long t_50]) (rest := []) ⟨hx, hb, hml, hown, hts⟩ (x_reach (wi := (wi.1, wi.2.1, wi.2.2.1, wi.2.2.2.1, g_13, g_14, g_15, g_16, g_17, wi.2.2.2.2.2.2.2.2.2.1, wi.2.2.2.2.2.2.2.2.2.2)) (zj := wi.1 i_10) (z1 := t_44) (z2 := t_50)  (ok_wi_netOf _)) (cwV 3 hts gvX3_73 rfl rfl rfl hvX3_reach ⟨Nat.le_of_ble_eq_true rfl, Nat.le_of_ble_eq_true rfl⟩) hK hP hD hS hA 32 3 rfl ww_32 rfl hl.1 rfl (Nat.le_of_ble_eq_true rfl) dX3_measure_94 ⟨Nat.le_of_ble_eq_true rfl, Nat.le_of_ble_eq_true rfl⟩ (fun ws_51 r_52 h_53 H locs hP hD hS => ?_)
                obtain ⟨g_54, g_55, g_56, g_57, g_58, rfl, rfl⟩ := h_53
                have hP : va_P D vwCl (WW ad cJ cI cZ bm pa p0 p1 p2 li (wi.1, wi.2.1, wi.2.2.1, wi.2.2.2.1, g_54, g_55, g_56, g_57, g_58, wi.2.2.2.2.2.2.2.2.2.1, wi.2.2.2.2.2.2.2.2.2.2) mt ms ma mp mk mn ou) H := hP
                have hD : va_D A (WW ad cJ cI cZ bm pa p0 p1 p2 li (wi.1, wi.2.1, wi.2.2.1, wi.2.2.2.1, g_54, g_55, g_56, g_57, g_58, wi.2.2.2.2.2.2.2.2.2.1, wi.2.2.2.2.2.2.2.2.2.2) mt ms ma mp mk mn ou) := hD
                refine lv_iinc (v := (nI (i_10 + 1))) (lv' := [(2, .int (nI (i_10 + 1))), (4, .int (nI (p0.2.2.1 (wi.2.1 i_10)))), (3, .int (nI (wi.2.1 i_10))), (0, .ref (ad 32)), (1, .ref (ad 8))]) hx hb dX3_measure_97 hl (k := 2) rfl (nI_1 i_10) (by decide) rfl (fun ls hl => ?_)
                refine lv_goto (tgt := 25) hx hb dX3_measure_100 (by decide) ?_
                exact ih_12 (i_10 + 1) g_54 g_55 g_56 g_57 g_58 (by omega) (by omega)  _ _ hP hD hS _ (lv_sub hl [0, 3, 4] rfl)
        exact lp_9 (wi.2.2.2.2.2.2.2.2.2.2 + 1) 0 g_5 wi.2.2.2.2.2.1 wi.2.2.2.2.2.2.1 wi.2.2.2.2.2.2.2.1 wi.2.2.2.2.2.2.2.2.1 (by omega) (by omega)  _ _ hP hD hS _ (lv_sub hl [0, 1, 2] rfl)
      · refine lv_aload_n hx hb dX3_measure_10 rfl (lv_at hl 1 rfl) ?_
        refine va_get (D := D) (ci := 3) (v := .ref (ad 37)) (C := RX3) (T := TX3) (N := 12) hx hb hts (inT inX3) hown hK hP 32 ww_32 rfl 5 (by decide) (hts (.fieldLink RX3 25 "BoardMoves$Wiring" "reached" "[Z") (List.mem_cons_of_mem _ flX3_25)) (fun _ h9 => h9) rfl dX3_measure_11 ?_
        refine lv_iload_n hx hb dX3_measure_14 rfl (lv_at hl 0 rfl) ?_
        refine lv_iconst (v := bm_b false) hx hb dX3_measure_15 (by decide) ?_
        refine bm_zast (f := g_5) hx hb hK hP hD hS 37 2 ww_37 rfl (j := i_2) (x := false) (by omega) (by decide) dX3_measure_16 (fun H locs hP hD hS => ?_)
        have hP : va_P D vwCl (WW ad cJ cI cZ bm pa p0 p1 p2 li (wi.1, wi.2.1, wi.2.2.1, wi.2.2.2.1, va_up g_5 i_2 false, wi.2.2.2.2.2.1, wi.2.2.2.2.2.2.1, wi.2.2.2.2.2.2.2.1, wi.2.2.2.2.2.2.2.2.1, wi.2.2.2.2.2.2.2.2.2.1, wi.2.2.2.2.2.2.2.2.2.2) mt ms ma mp mk mn ou) H := hP
        have hD : va_D A (WW ad cJ cI cZ bm pa p0 p1 p2 li (wi.1, wi.2.1, wi.2.2.1, wi.2.2.2.1, va_up g_5 i_2 false, wi.2.2.2.2.2.1, wi.2.2.2.2.2.2.1, wi.2.2.2.2.2.2.2.1, wi.2.2.2.2.2.2.2.2.1, wi.2.2.2.2.2.2.2.2.2.1, wi.2.2.2.2.2.2.2.2.2.2) mt ms ma mp mk mn ou) := hD
        refine lv_iinc (v := (nI (i_2 + 1))) (lv' := [(2, .int (nI (i_2 + 1))), (0, .ref (ad 32)), (1, .ref (ad 8))]) hx hb dX3_measure_17 hl (k := 0) rfl (nI_1 i_2) (by decide) rfl (fun ls hl => ?_)
        refine lv_goto (tgt := 2) hx hb dX3_measure_20 (by decide) ?_
        exact ih_4 (i_2 + 1) (va_up g_5 i_2 false) (by omega) (by omega)  _ _ hP hD hS _ (lv_sub hl [0, 1, 2] rfl)
  exact lp_1 (wi.2.2.2.2.2.2.2.2.2.1 + 1) 0 wi.2.2.2.2.1 (by omega) (by omega)  _ _ hP hD hS _ (lv_sub hl [0, 1, 2] rfl)
