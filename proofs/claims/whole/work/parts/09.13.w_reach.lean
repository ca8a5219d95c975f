set_option maxHeartbeats 4000000 in
set_option maxRecDepth 100000 in
theorem w_reach {l : Launch} {D : va_G} {ad : Nat → Nat} {cJ cI cZ : ClassId} {bm : gBM} {pa : gPA} {p0 p1 p2 : gPL} {li : gLI} {wi : gWI} {k : Nat} (h1 : k < 40) {x y : Int64} : bm_Wr l yX3_reach wsX3_reach ({ frames := 1, cells := 0, slots := 0, locals := 24 }) D vwCl [(cJ, .long), (cI, .int), (cZ, .boolean)] (Wd ad cJ cI cZ bm pa p0 p1 p2 li wi) [.ref (ad 32), .int (nI k), .long x, .long y] (Wd ad cJ cI cZ bm pa p0 p1 p2 li (q_sw wi (q_rch (q_sc wi) k x y))) (none) := by
  intro sz
  refine Met.ofW (cc := cX3_reach) (maxL := 7) (ret := none) (by decide) rfl ?_
  intro p e s m args below meth c s₁ B hml hv
  obtain ⟨ha, hsz, hP, hK, hD0⟩ := hv
  have hx := B.exec
  have hb := B.bytes
  have hr := B.returns
  have hts := atoms_spec (ws := wsX3_reach) B.pre
  have hown : s.vm.findClass RX3 = some m.cls := findClass_of_methodNamed B.named
  have hlocks := B.notSynchronized
  subst hsz
  have hD := hD0.self (sz := s.heap.size)
  generalize hAe : va_A (Wd ad cJ cI cZ bm pa p0 p1 p2 li wi) s.heap.size = A at hD ⊢
  have hA : ∀ q : Nat, s.heap.size ≤ q → A q := fun q h => by rw [← hAe]; exact Or.inr h
  have hS : va_S A s.heap s.heap [] := va_S.rf
  have hl := lv_entry ([.ref (ad 32), .int (nI k), .long x, .long y]) (n := 7) (Nat.le_of_ble_eq_true rfl)
  refine W.eq (g2 := entryFrame m ([.ref (ad 32), .int (nI k), .long x, .long y] : List Value).toArray 7) (by rw [ha]) ?_
  rw [lg_entry_eq]
  generalize (lg_sl ([.ref (ad 32), .int (nI k), .long x, .long y]) ++ List.replicate (7 - (lg_sl ([.ref (ad 32), .int (nI k), .long x, .long y])).length) Slot.unset).toArray = ls at hl ⊢
  have hl : lv_has ls 7 [(0, .ref (ad 32)), (1, .int (nI k)), (2, .long x), (4, .long y)] := hl
  refine lv_aload_n hx hb dX3_reach_0 rfl (lv_at hl 0 rfl) ?_
  refine va_get (D := D) (ci := 3) (v := .ref (ad 37)) (C := RX3) (T := TX3) (N := 12) hx hb hts (inT inX3) hown hK hP 32 rfl rfl 5 (by decide) (hts (.fieldLink RX3 25 "BoardMoves$Wiring" "reached" "[Z") (by decide +kernel)) (fun _ h9 => h9) rfl dX3_reach_1 ?_
  refine lv_iload_n hx hb dX3_reach_4 rfl (lv_at hl 1 rfl) ?_
  refine bm_zald (f := wi.2.2.2.2.1) hx hb hK hP 37 2 rfl rfl (j := k) (by omega) (by decide) dX3_reach_5 ?_
  refine bm_zb_ne (x := (wi.2.2.2.2.1 k)) (tgt := 13) hx hb dX3_reach_6 (by decide) (fun c_1 => ?_) (fun c_1 => ?_)
  · refine lv_iconst (v := bm_b false) hx hb dX3_reach_13 (by decide) ?_
    refine lv_istore (lv' := [(6, .int (bm_b false)), (0, .ref (ad 32)), (1, .int (nI k)), (2, .long x), (4, .long y)]) hx hb dX3_reach_14 hl (by decide) rfl (fun ls hl => ?_)
    refine lv_aload_n hx hb dX3_reach_16 rfl (lv_at hl 1 rfl) ?_
    refine va_get (D := D) (ci := 3) (v := .ref (ad 37)) (C := RX3) (T := TX3) (N := 12) hx hb hts (inT inX3) hown hK hP 32 rfl rfl 5 (by decide) (hts (.fieldLink RX3 25 "BoardMoves$Wiring" "reached" "[Z") (by decide +kernel)) (fun _ h9 => h9) rfl dX3_reach_17 ?_
    refine lv_iload_n hx hb dX3_reach_20 rfl (lv_at hl 2 rfl) ?_
    refine lv_iconst (v := bm_b true) hx hb dX3_reach_21 (by decide) ?_
    refine bm_zast (f := wi.2.2.2.2.1) hx hb hK hP hD hS 37 2 rfl rfl (j := k) (x := true) (by omega) (by decide) dX3_reach_22 (fun H locs hP hD hS => ?_)
    have hP : va_P D vwCl (Wd ad cJ cI cZ bm pa p0 p1 p2 li (wi.1, wi.2.1, wi.2.2.1, wi.2.2.2.1, va_up wi.2.2.2.2.1 k true, wi.2.2.2.2.2.1, wi.2.2.2.2.2.2.1, wi.2.2.2.2.2.2.2.1, wi.2.2.2.2.2.2.2.2.1, wi.2.2.2.2.2.2.2.2.2.1, wi.2.2.2.2.2.2.2.2.2.2)) H := hP
    have hD : va_D A (Wd ad cJ cI cZ bm pa p0 p1 p2 li (wi.1, wi.2.1, wi.2.2.1, wi.2.2.2.1, va_up wi.2.2.2.2.1 k true, wi.2.2.2.2.2.1, wi.2.2.2.2.2.2.1, wi.2.2.2.2.2.2.2.1, wi.2.2.2.2.2.2.2.2.1, wi.2.2.2.2.2.2.2.2.2.1, wi.2.2.2.2.2.2.2.2.2.2)) := hD
    refine lv_aload_n hx hb dX3_reach_23 rfl (lv_at hl 1 rfl) ?_
    refine va_get (D := D) (ci := 3) (v := .ref (ad 38)) (C := RX3) (T := TX3) (N := 12) hx hb hts (inT inX3) hown hK hP 32 rfl rfl 6 (by decide) (hts (.fieldLink RX3 29 "BoardMoves$Wiring" "lowX" "[J") (by decide +kernel)) (fun _ h9 => h9) rfl dX3_reach_24 ?_
    refine lv_iload_n hx hb dX3_reach_27 rfl (lv_at hl 2 rfl) ?_
    refine lv_iload hx hb dX3_reach_28 (lv_at hl 0 rfl) ?_
    refine bm_zb_eq (x := false) (tgt := 37) hx hb dX3_reach_30 (by decide) (fun c_2 => ?_) (fun c_2 => ?_)
    · refine lv_aload_n hx hb dX3_reach_37 rfl (lv_at hl 1 rfl) ?_
      refine va_get (D := D) (ci := 3) (v := .ref (ad 38)) (C := RX3) (T := TX3) (N := 12) hx hb hts (inT inX3) hown hK hP 32 rfl rfl 6 (by decide) (hts (.fieldLink RX3 29 "BoardMoves$Wiring" "lowX" "[J") (by decide +kernel)) (fun _ h9 => h9) rfl dX3_reach_38 ?_
      refine lv_iload_n hx hb dX3_reach_41 rfl (lv_at hl 2 rfl) ?_
      refine bm_lald (f := wi.2.2.2.2.2.1) hx hb hK hP 38 0 rfl rfl (j := k) (by omega) (by decide) dX3_reach_42 ?_
      refine lv_lload_n hx hb dX3_reach_43 rfl (lv_at hl 3 rfl) ?_
      refine bm_mminl hx hb (hml.trans hl.1.symm) hown (hts (.methodLink RX3 77 Lib.MathLoose.min_long.x) (by decide +kernel)) (hts (.static Lib.MathLoose.min_long.x) (by decide +kernel)) (hts (.initialized "java/lang/Math") (by decide +kernel)) (hts (.code Lib.MathLoose.min_long.x Lib.MathLoose.min_long.code 4 (some .long)) (by decide +kernel)) (Nat.le_of_ble_eq_true rfl) (Nat.le_of_ble_eq_true rfl) (Nat.zero_le _) (Nat.zero_le _) dX3_reach_44 ?_
      refine bm_last (f := wi.2.2.2.2.2.1) hx hb hK hP hD hS 38 0 rfl rfl (j := k) (x := (q_min (wi.2.2.2.2.2.1 k) x)) (by omega) (by decide) dX3_reach_47 (fun H locs hP hD hS => ?_)
      have hP : va_P D vwCl (Wd ad cJ cI cZ bm pa p0 p1 p2 li (wi.1, wi.2.1, wi.2.2.1, wi.2.2.2.1, va_up wi.2.2.2.2.1 k true, va_up wi.2.2.2.2.2.1 k (q_min (wi.2.2.2.2.2.1 k) x), wi.2.2.2.2.2.2.1, wi.2.2.2.2.2.2.2.1, wi.2.2.2.2.2.2.2.2.1, wi.2.2.2.2.2.2.2.2.2.1, wi.2.2.2.2.2.2.2.2.2.2)) H := hP
      have hD : va_D A (Wd ad cJ cI cZ bm pa p0 p1 p2 li (wi.1, wi.2.1, wi.2.2.1, wi.2.2.2.1, va_up wi.2.2.2.2.1 k true, va_up wi.2.2.2.2.2.1 k (q_min (wi.2.2.2.2.2.1 k) x), wi.2.2.2.2.2.2.1, wi.2.2.2.2.2.2.2.1, wi.2.2.2.2.2.2.2.2.1, wi.2.2.2.2.2.2.2.2.2.1, wi.2.2.2.2.2.2.2.2.2.2)) := hD
      refine lv_aload_n hx hb dX3_reach_48 rfl (lv_at hl 1 rfl) ?_
      refine va_get (D := D) (ci := 3) (v := .ref (ad 39)) (C := RX3) (T := TX3) (N := 12) hx hb hts (inT inX3) hown hK hP 32 rfl rfl 7 (by decide) (hts (.fieldLink RX3 32 "BoardMoves$Wiring" "highX" "[J") (by decide +kernel)) (fun _ h9 => h9) rfl dX3_reach_49 ?_
      refine lv_iload_n hx hb dX3_reach_52 rfl (lv_at hl 2 rfl) ?_
      refine lv_iload hx hb dX3_reach_53 (lv_at hl 0 rfl) ?_
      refine bm_zb_eq (x := false) (tgt := 62) hx hb dX3_reach_55 (by decide) (fun c_3 => ?_) (fun c_3 => ?_)
      · refine lv_aload_n hx hb dX3_reach_62 rfl (lv_at hl 1 rfl) ?_
        refine va_get (D := D) (ci := 3) (v := .ref (ad 39)) (C := RX3) (T := TX3) (N := 12) hx hb hts (inT inX3) hown hK hP 32 rfl rfl 7 (by decide) (hts (.fieldLink RX3 32 "BoardMoves$Wiring" "highX" "[J") (by decide +kernel)) (fun _ h9 => h9) rfl dX3_reach_63 ?_
        refine lv_iload_n hx hb dX3_reach_66 rfl (lv_at hl 2 rfl) ?_
        refine bm_lald (f := wi.2.2.2.2.2.2.1) hx hb hK hP 39 0 rfl rfl (j := k) (by omega) (by decide) dX3_reach_67 ?_
        refine lv_lload_n hx hb dX3_reach_68 rfl (lv_at hl 3 rfl) ?_
        refine bm_mmaxl hx hb (hml.trans hl.1.symm) hown (hts (.methodLink RX3 83 Lib.MathLoose.max_long.x) (by decide +kernel)) (hts (.static Lib.MathLoose.max_long.x) (by decide +kernel)) (hts (.initialized "java/lang/Math") (by decide +kernel)) (hts (.code Lib.MathLoose.max_long.x Lib.MathLoose.max_long.code 4 (some .long)) (by decide +kernel)) (Nat.le_of_ble_eq_true rfl) (Nat.le_of_ble_eq_true rfl) (Nat.zero_le _) (Nat.zero_le _) dX3_reach_69 ?_
        refine bm_last (f := wi.2.2.2.2.2.2.1) hx hb hK hP hD hS 39 0 rfl rfl (j := k) (x := (q_max (wi.2.2.2.2.2.2.1 k) x)) (by omega) (by decide) dX3_reach_72 (fun H locs hP hD hS => ?_)
        have hP : va_P D vwCl (Wd ad cJ cI cZ bm pa p0 p1 p2 li (wi.1, wi.2.1, wi.2.2.1, wi.2.2.2.1, va_up wi.2.2.2.2.1 k true, va_up wi.2.2.2.2.2.1 k (q_min (wi.2.2.2.2.2.1 k) x), va_up wi.2.2.2.2.2.2.1 k (q_max (wi.2.2.2.2.2.2.1 k) x), wi.2.2.2.2.2.2.2.1, wi.2.2.2.2.2.2.2.2.1, wi.2.2.2.2.2.2.2.2.2.1, wi.2.2.2.2.2.2.2.2.2.2)) H := hP
        have hD : va_D A (Wd ad cJ cI cZ bm pa p0 p1 p2 li (wi.1, wi.2.1, wi.2.2.1, wi.2.2.2.1, va_up wi.2.2.2.2.1 k true, va_up wi.2.2.2.2.2.1 k (q_min (wi.2.2.2.2.2.1 k) x), va_up wi.2.2.2.2.2.2.1 k (q_max (wi.2.2.2.2.2.2.1 k) x), wi.2.2.2.2.2.2.2.1, wi.2.2.2.2.2.2.2.2.1, wi.2.2.2.2.2.2.2.2.2.1, wi.2.2.2.2.2.2.2.2.2.2)) := hD
        refine lv_aload_n hx hb dX3_reach_73 rfl (lv_at hl 1 rfl) ?_
        refine va_get (D := D) (ci := 3) (v := .ref (ad 40)) (C := RX3) (T := TX3) (N := 12) hx hb hts (inT inX3) hown hK hP 32 rfl rfl 8 (by decide) (hts (.fieldLink RX3 35 "BoardMoves$Wiring" "lowY" "[J") (by decide +kernel)) (fun _ h9 => h9) rfl dX3_reach_74 ?_
        refine lv_iload_n hx hb dX3_reach_77 rfl (lv_at hl 2 rfl) ?_
        refine lv_iload hx hb dX3_reach_78 (lv_at hl 0 rfl) ?_
        refine bm_zb_eq (x := false) (tgt := 88) hx hb dX3_reach_80 (by decide) (fun c_4 => ?_) (fun c_4 => ?_)
        · refine lv_aload_n hx hb dX3_reach_88 rfl (lv_at hl 1 rfl) ?_
          refine va_get (D := D) (ci := 3) (v := .ref (ad 40)) (C := RX3) (T := TX3) (N := 12) hx hb hts (inT inX3) hown hK hP 32 rfl rfl 8 (by decide) (hts (.fieldLink RX3 35 "BoardMoves$Wiring" "lowY" "[J") (by decide +kernel)) (fun _ h9 => h9) rfl dX3_reach_89 ?_
          refine lv_iload_n hx hb dX3_reach_92 rfl (lv_at hl 2 rfl) ?_
          refine bm_lald (f := wi.2.2.2.2.2.2.2.1) hx hb hK hP 40 0 rfl rfl (j := k) (by omega) (by decide) dX3_reach_93 ?_
          refine lv_lload hx hb dX3_reach_94 (lv_at hl 4 rfl) ?_
          refine bm_mminl hx hb (hml.trans hl.1.symm) hown (hts (.methodLink RX3 77 Lib.MathLoose.min_long.x) (by decide +kernel)) (hts (.static Lib.MathLoose.min_long.x) (by decide +kernel)) (hts (.initialized "java/lang/Math") (by decide +kernel)) (hts (.code Lib.MathLoose.min_long.x Lib.MathLoose.min_long.code 4 (some .long)) (by decide +kernel)) (Nat.le_of_ble_eq_true rfl) (Nat.le_of_ble_eq_true rfl) (Nat.zero_le _) (Nat.zero_le _) dX3_reach_96 ?_
          refine bm_last (f := wi.2.2.2.2.2.2.2.1) hx hb hK hP hD hS 40 0 rfl rfl (j := k) (x := (q_min (wi.2.2.2.2.2.2.2.1 k) y)) (by omega) (by decide) dX3_reach_99 (fun H locs hP hD hS => ?_)
          have hP : va_P D vwCl (Wd ad cJ cI cZ bm pa p0 p1 p2 li (wi.1, wi.2.1, wi.2.2.1, wi.2.2.2.1, va_up wi.2.2.2.2.1 k true, va_up wi.2.2.2.2.2.1 k (q_min (wi.2.2.2.2.2.1 k) x), va_up wi.2.2.2.2.2.2.1 k (q_max (wi.2.2.2.2.2.2.1 k) x), va_up wi.2.2.2.2.2.2.2.1 k (q_min (wi.2.2.2.2.2.2.2.1 k) y), wi.2.2.2.2.2.2.2.2.1, wi.2.2.2.2.2.2.2.2.2.1, wi.2.2.2.2.2.2.2.2.2.2)) H := hP
          have hD : va_D A (Wd ad cJ cI cZ bm pa p0 p1 p2 li (wi.1, wi.2.1, wi.2.2.1, wi.2.2.2.1, va_up wi.2.2.2.2.1 k true, va_up wi.2.2.2.2.2.1 k (q_min (wi.2.2.2.2.2.1 k) x), va_up wi.2.2.2.2.2.2.1 k (q_max (wi.2.2.2.2.2.2.1 k) x), va_up wi.2.2.2.2.2.2.2.1 k (q_min (wi.2.2.2.2.2.2.2.1 k) y), wi.2.2.2.2.2.2.2.2.1, wi.2.2.2.2.2.2.2.2.2.1, wi.2.2.2.2.2.2.2.2.2.2)) := hD
          refine lv_aload_n hx hb dX3_reach_100 rfl (lv_at hl 1 rfl) ?_
          refine va_get (D := D) (ci := 3) (v := .ref (ad 41)) (C := RX3) (T := TX3) (N := 12) hx hb hts (inT inX3) hown hK hP 32 rfl rfl 9 (by decide) (hts (.fieldLink RX3 38 "BoardMoves$Wiring" "highY" "[J") (by decide +kernel)) (fun _ h9 => h9) rfl dX3_reach_101 ?_
          refine lv_iload_n hx hb dX3_reach_104 rfl (lv_at hl 2 rfl) ?_
          refine lv_iload hx hb dX3_reach_105 (lv_at hl 0 rfl) ?_
          refine bm_zb_eq (x := false) (tgt := 115) hx hb dX3_reach_107 (by decide) (fun c_5 => ?_) (fun c_5 => ?_)
          · refine lv_aload_n hx hb dX3_reach_115 rfl (lv_at hl 1 rfl) ?_
            refine va_get (D := D) (ci := 3) (v := .ref (ad 41)) (C := RX3) (T := TX3) (N := 12) hx hb hts (inT inX3) hown hK hP 32 rfl rfl 9 (by decide) (hts (.fieldLink RX3 38 "BoardMoves$Wiring" "highY" "[J") (by decide +kernel)) (fun _ h9 => h9) rfl dX3_reach_116 ?_
            refine lv_iload_n hx hb dX3_reach_119 rfl (lv_at hl 2 rfl) ?_
            refine bm_lald (f := wi.2.2.2.2.2.2.2.2.1) hx hb hK hP 41 0 rfl rfl (j := k) (by omega) (by decide) dX3_reach_120 ?_
            refine lv_lload hx hb dX3_reach_121 (lv_at hl 4 rfl) ?_
            refine bm_mmaxl hx hb (hml.trans hl.1.symm) hown (hts (.methodLink RX3 83 Lib.MathLoose.max_long.x) (by decide +kernel)) (hts (.static Lib.MathLoose.max_long.x) (by decide +kernel)) (hts (.initialized "java/lang/Math") (by decide +kernel)) (hts (.code Lib.MathLoose.max_long.x Lib.MathLoose.max_long.code 4 (some .long)) (by decide +kernel)) (Nat.le_of_ble_eq_true rfl) (Nat.le_of_ble_eq_true rfl) (Nat.zero_le _) (Nat.zero_le _) dX3_reach_123 ?_
            refine bm_last (f := wi.2.2.2.2.2.2.2.2.1) hx hb hK hP hD hS 41 0 rfl rfl (j := k) (x := (q_max (wi.2.2.2.2.2.2.2.2.1 k) y)) (by omega) (by decide) dX3_reach_126 (fun H locs hP hD hS => ?_)
            have hP : va_P D vwCl (Wd ad cJ cI cZ bm pa p0 p1 p2 li (wi.1, wi.2.1, wi.2.2.1, wi.2.2.2.1, va_up wi.2.2.2.2.1 k true, va_up wi.2.2.2.2.2.1 k (q_min (wi.2.2.2.2.2.1 k) x), va_up wi.2.2.2.2.2.2.1 k (q_max (wi.2.2.2.2.2.2.1 k) x), va_up wi.2.2.2.2.2.2.2.1 k (q_min (wi.2.2.2.2.2.2.2.1 k) y), va_up wi.2.2.2.2.2.2.2.2.1 k (q_max (wi.2.2.2.2.2.2.2.2.1 k) y), wi.2.2.2.2.2.2.2.2.2.1, wi.2.2.2.2.2.2.2.2.2.2)) H := hP
            have hD : va_D A (Wd ad cJ cI cZ bm pa p0 p1 p2 li (wi.1, wi.2.1, wi.2.2.1, wi.2.2.2.1, va_up wi.2.2.2.2.1 k true, va_up wi.2.2.2.2.2.1 k (q_min (wi.2.2.2.2.2.1 k) x), va_up wi.2.2.2.2.2.2.1 k (q_max (wi.2.2.2.2.2.2.1 k) x), va_up wi.2.2.2.2.2.2.2.1 k (q_min (wi.2.2.2.2.2.2.2.1 k) y), va_up wi.2.2.2.2.2.2.2.2.1 k (q_max (wi.2.2.2.2.2.2.2.2.1 k) y), wi.2.2.2.2.2.2.2.2.2.1, wi.2.2.2.2.2.2.2.2.2.2)) := hD
            exact bm_vretW hx hb hr hP hD hK hS (by simp [q_rch, q_sc, q_sw, c_1]) dX3_reach_127 hlocks
          · exact absurd c_5 (by decide)
        · exact absurd c_4 (by decide)
      · exact absurd c_3 (by decide)
    · exact absurd c_2 (by decide)
  · refine lv_iconst (v := bm_b true) hx hb dX3_reach_9 (by decide) ?_
    refine lv_goto (tgt := 14) hx hb dX3_reach_10 (by decide) ?_
    refine lv_istore (lv' := [(6, .int (bm_b true)), (0, .ref (ad 32)), (1, .int (nI k)), (2, .long x), (4, .long y)]) hx hb dX3_reach_14 hl (by decide) rfl (fun ls hl => ?_)
    refine lv_aload_n hx hb dX3_reach_16 rfl (lv_at hl 1 rfl) ?_
    refine va_get (D := D) (ci := 3) (v := .ref (ad 37)) (C := RX3) (T := TX3) (N := 12) hx hb hts (inT inX3) hown hK hP 32 rfl rfl 5 (by decide) (hts (.fieldLink RX3 25 "BoardMoves$Wiring" "reached" "[Z") (by decide +kernel)) (fun _ h9 => h9) rfl dX3_reach_17 ?_
    refine lv_iload_n hx hb dX3_reach_20 rfl (lv_at hl 2 rfl) ?_
    refine lv_iconst (v := bm_b true) hx hb dX3_reach_21 (by decide) ?_
    refine bm_zast (f := wi.2.2.2.2.1) hx hb hK hP hD hS 37 2 rfl rfl (j := k) (x := true) (by omega) (by decide) dX3_reach_22 (fun H locs hP hD hS => ?_)
    have hP : va_P D vwCl (Wd ad cJ cI cZ bm pa p0 p1 p2 li (wi.1, wi.2.1, wi.2.2.1, wi.2.2.2.1, va_up wi.2.2.2.2.1 k true, wi.2.2.2.2.2.1, wi.2.2.2.2.2.2.1, wi.2.2.2.2.2.2.2.1, wi.2.2.2.2.2.2.2.2.1, wi.2.2.2.2.2.2.2.2.2.1, wi.2.2.2.2.2.2.2.2.2.2)) H := hP
    have hD : va_D A (Wd ad cJ cI cZ bm pa p0 p1 p2 li (wi.1, wi.2.1, wi.2.2.1, wi.2.2.2.1, va_up wi.2.2.2.2.1 k true, wi.2.2.2.2.2.1, wi.2.2.2.2.2.2.1, wi.2.2.2.2.2.2.2.1, wi.2.2.2.2.2.2.2.2.1, wi.2.2.2.2.2.2.2.2.2.1, wi.2.2.2.2.2.2.2.2.2.2)) := hD
    refine lv_aload_n hx hb dX3_reach_23 rfl (lv_at hl 1 rfl) ?_
    refine va_get (D := D) (ci := 3) (v := .ref (ad 38)) (C := RX3) (T := TX3) (N := 12) hx hb hts (inT inX3) hown hK hP 32 rfl rfl 6 (by decide) (hts (.fieldLink RX3 29 "BoardMoves$Wiring" "lowX" "[J") (by decide +kernel)) (fun _ h9 => h9) rfl dX3_reach_24 ?_
    refine lv_iload_n hx hb dX3_reach_27 rfl (lv_at hl 2 rfl) ?_
    refine lv_iload hx hb dX3_reach_28 (lv_at hl 0 rfl) ?_
    refine bm_zb_eq (x := true) (tgt := 37) hx hb dX3_reach_30 (by decide) (fun c_6 => ?_) (fun c_6 => ?_)
    · exact absurd c_6 (by decide)
    · refine lv_lload_n hx hb dX3_reach_33 rfl (lv_at hl 3 rfl) ?_
      refine lv_goto (tgt := 47) hx hb dX3_reach_34 (by decide) ?_
      refine bm_last (f := wi.2.2.2.2.2.1) hx hb hK hP hD hS 38 0 rfl rfl (j := k) (x := x) (by omega) (by decide) dX3_reach_47 (fun H locs hP hD hS => ?_)
      have hP : va_P D vwCl (Wd ad cJ cI cZ bm pa p0 p1 p2 li (wi.1, wi.2.1, wi.2.2.1, wi.2.2.2.1, va_up wi.2.2.2.2.1 k true, va_up wi.2.2.2.2.2.1 k x, wi.2.2.2.2.2.2.1, wi.2.2.2.2.2.2.2.1, wi.2.2.2.2.2.2.2.2.1, wi.2.2.2.2.2.2.2.2.2.1, wi.2.2.2.2.2.2.2.2.2.2)) H := hP
      have hD : va_D A (Wd ad cJ cI cZ bm pa p0 p1 p2 li (wi.1, wi.2.1, wi.2.2.1, wi.2.2.2.1, va_up wi.2.2.2.2.1 k true, va_up wi.2.2.2.2.2.1 k x, wi.2.2.2.2.2.2.1, wi.2.2.2.2.2.2.2.1, wi.2.2.2.2.2.2.2.2.1, wi.2.2.2.2.2.2.2.2.2.1, wi.2.2.2.2.2.2.2.2.2.2)) := hD
      refine lv_aload_n hx hb dX3_reach_48 rfl (lv_at hl 1 rfl) ?_
      refine va_get (D := D) (ci := 3) (v := .ref (ad 39)) (C := RX3) (T := TX3) (N := 12) hx hb hts (inT inX3) hown hK hP 32 rfl rfl 7 (by decide) (hts (.fieldLink RX3 32 "BoardMoves$Wiring" "highX" "[J") (by decide +kernel)) (fun _ h9 => h9) rfl dX3_reach_49 ?_
      refine lv_iload_n hx hb dX3_reach_52 rfl (lv_at hl 2 rfl) ?_
      refine lv_iload hx hb dX3_reach_53 (lv_at hl 0 rfl) ?_
      refine bm_zb_eq (x := true) (tgt := 62) hx hb dX3_reach_55 (by decide) (fun c_7 => ?_) (fun c_7 => ?_)
      · exact absurd c_7 (by decide)
      · refine lv_lload_n hx hb dX3_reach_58 rfl (lv_at hl 3 rfl) ?_
        refine lv_goto (tgt := 72) hx hb dX3_reach_59 (by decide) ?_
        refine bm_last (f := wi.2.2.2.2.2.2.1) hx hb hK hP hD hS 39 0 rfl rfl (j := k) (x := x) (by omega) (by decide) dX3_reach_72 (fun H locs hP hD hS => ?_)
        have hP : va_P D vwCl (Wd ad cJ cI cZ bm pa p0 p1 p2 li (wi.1, wi.2.1, wi.2.2.1, wi.2.2.2.1, va_up wi.2.2.2.2.1 k true, va_up wi.2.2.2.2.2.1 k x, va_up wi.2.2.2.2.2.2.1 k x, wi.2.2.2.2.2.2.2.1, wi.2.2.2.2.2.2.2.2.1, wi.2.2.2.2.2.2.2.2.2.1, wi.2.2.2.2.2.2.2.2.2.2)) H := hP
        have hD : va_D A (Wd ad cJ cI cZ bm pa p0 p1 p2 li (wi.1, wi.2.1, wi.2.2.1, wi.2.2.2.1, va_up wi.2.2.2.2.1 k true, va_up wi.2.2.2.2.2.1 k x, va_up wi.2.2.2.2.2.2.1 k x, wi.2.2.2.2.2.2.2.1, wi.2.2.2.2.2.2.2.2.1, wi.2.2.2.2.2.2.2.2.2.1, wi.2.2.2.2.2.2.2.2.2.2)) := hD
        refine lv_aload_n hx hb dX3_reach_73 rfl (lv_at hl 1 rfl) ?_
        refine va_get (D := D) (ci := 3) (v := .ref (ad 40)) (C := RX3) (T := TX3) (N := 12) hx hb hts (inT inX3) hown hK hP 32 rfl rfl 8 (by decide) (hts (.fieldLink RX3 35 "BoardMoves$Wiring" "lowY" "[J") (by decide +kernel)) (fun _ h9 => h9) rfl dX3_reach_74 ?_
        refine lv_iload_n hx hb dX3_reach_77 rfl (lv_at hl 2 rfl) ?_
        refine lv_iload hx hb dX3_reach_78 (lv_at hl 0 rfl) ?_
        refine bm_zb_eq (x := true) (tgt := 88) hx hb dX3_reach_80 (by decide) (fun c_8 => ?_) (fun c_8 => ?_)
        · exact absurd c_8 (by decide)
        · refine lv_lload hx hb dX3_reach_83 (lv_at hl 4 rfl) ?_
          refine lv_goto (tgt := 99) hx hb dX3_reach_85 (by decide) ?_
          refine bm_last (f := wi.2.2.2.2.2.2.2.1) hx hb hK hP hD hS 40 0 rfl rfl (j := k) (x := y) (by omega) (by decide) dX3_reach_99 (fun H locs hP hD hS => ?_)
          have hP : va_P D vwCl (Wd ad cJ cI cZ bm pa p0 p1 p2 li (wi.1, wi.2.1, wi.2.2.1, wi.2.2.2.1, va_up wi.2.2.2.2.1 k true, va_up wi.2.2.2.2.2.1 k x, va_up wi.2.2.2.2.2.2.1 k x, va_up wi.2.2.2.2.2.2.2.1 k y, wi.2.2.2.2.2.2.2.2.1, wi.2.2.2.2.2.2.2.2.2.1, wi.2.2.2.2.2.2.2.2.2.2)) H := hP
          have hD : va_D A (Wd ad cJ cI cZ bm pa p0 p1 p2 li (wi.1, wi.2.1, wi.2.2.1, wi.2.2.2.1, va_up wi.2.2.2.2.1 k true, va_up wi.2.2.2.2.2.1 k x, va_up wi.2.2.2.2.2.2.1 k x, va_up wi.2.2.2.2.2.2.2.1 k y, wi.2.2.2.2.2.2.2.2.1, wi.2.2.2.2.2.2.2.2.2.1, wi.2.2.2.2.2.2.2.2.2.2)) := hD
          refine lv_aload_n hx hb dX3_reach_100 rfl (lv_at hl 1 rfl) ?_
          refine va_get (D := D) (ci := 3) (v := .ref (ad 41)) (C := RX3) (T := TX3) (N := 12) hx hb hts (inT inX3) hown hK hP 32 rfl rfl 9 (by decide) (hts (.fieldLink RX3 38 "BoardMoves$Wiring" "highY" "[J") (by decide +kernel)) (fun _ h9 => h9) rfl dX3_reach_101 ?_
          refine lv_iload_n hx hb dX3_reach_104 rfl (lv_at hl 2 rfl) ?_
          refine lv_iload hx hb dX3_reach_105 (lv_at hl 0 rfl) ?_
          refine bm_zb_eq (x := true) (tgt := 115) hx hb dX3_reach_107 (by decide) (fun c_9 => ?_) (fun c_9 => ?_)
          · exact absurd c_9 (by decide)
          · refine lv_lload hx hb dX3_reach_110 (lv_at hl 4 rfl) ?_
            refine lv_goto (tgt := 126) hx hb dX3_reach_112 (by decide) ?_
            refine bm_last (f := wi.2.2.2.2.2.2.2.2.1) hx hb hK hP hD hS 41 0 rfl rfl (j := k) (x := y) (by omega) (by decide) dX3_reach_126 (fun H locs hP hD hS => ?_)
            have hP : va_P D vwCl (Wd ad cJ cI cZ bm pa p0 p1 p2 li (wi.1, wi.2.1, wi.2.2.1, wi.2.2.2.1, va_up wi.2.2.2.2.1 k true, va_up wi.2.2.2.2.2.1 k x, va_up wi.2.2.2.2.2.2.1 k x, va_up wi.2.2.2.2.2.2.2.1 k y, va_up wi.2.2.2.2.2.2.2.2.1 k y, wi.2.2.2.2.2.2.2.2.2.1, wi.2.2.2.2.2.2.2.2.2.2)) H := hP
            have hD : va_D A (Wd ad cJ cI cZ bm pa p0 p1 p2 li (wi.1, wi.2.1, wi.2.2.1, wi.2.2.2.1, va_up wi.2.2.2.2.1 k true, va_up wi.2.2.2.2.2.1 k x, va_up wi.2.2.2.2.2.2.1 k x, va_up wi.2.2.2.2.2.2.2.1 k y, va_up wi.2.2.2.2.2.2.2.2.1 k y, wi.2.2.2.2.2.2.2.2.2.1, wi.2.2.2.2.2.2.2.2.2.2)) := hD
            exact bm_vretW hx hb hr hP hD hK hS (by simp [q_rch, q_sc, q_sw, c_1]) dX3_reach_127 hlocks
