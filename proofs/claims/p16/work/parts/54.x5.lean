set_option maxHeartbeats 8000000 in
set_option maxRecDepth 100000 in
theorem x_len {l : Launch} {D : va_G} {ad : Nat → Nat} {cJ cI cZ : ClassId} {bm : gBM} {pa : gPA} {p0 p1 p2 : gPL} {li : gLI} {wi : gWI} {mt : Nat} {ms : gMS} {ma : gMA} {mp : gMP} {mk : gMK} {mn : gMN} {ou : Nat → Int64} {z1 : Int64}    : bm_Wx l yX4_isLength wsX4_isLength ({ frames := 0, cells := 0, slots := 0, locals := 0 }) D vwCl [(cJ, .long), (cI, .int), (cZ, .boolean)] (WW ad cJ cI cZ bm pa p0 p1 p2 li wi mt ms ma mp mk mn ou) [.long z1] (fun ws9 r9 => ws9 = (WW ad cJ cI cZ bm pa p0 p1 p2 li wi mt ms ma mp mk mn ou) ∧ ∃ b9 : Bool, r9 = some (.int (bm_b b9))) := by
  intro sz
  refine Met.ofW (cc := cX4_isLength) (maxL := 2) (ret := (some .boolean)) (by decide) rfl ?_
  intro p e s m args below meth c s₁ B hml hv
  obtain ⟨ha, hsz, hP, hK, hD0⟩ := hv
  have hx := B.exec
  have hb := B.bytes
  have hr := B.returns
  have hts := atoms_spec (ws := wsX4_isLength) B.pre
  have hown : s.vm.findClass RX4 = some m.cls := findClass_of_methodNamed B.named
  have hlocks := B.notSynchronized
  subst hsz
  have hD := hD0.self (sz := s.heap.size)
  generalize hAe : va_A (WW ad cJ cI cZ bm pa p0 p1 p2 li wi mt ms ma mp mk mn ou) s.heap.size = A at hD ⊢
  have hA : ∀ q : Nat, s.heap.size ≤ q → A q := fun q h => by rw [← hAe]; exact Or.inr h
  have hS : va_S A s.heap s.heap [] := va_S.rf
  have hl := lv_entry ([.long z1]) (n := 2) (Nat.le_of_ble_eq_true rfl)
  refine W.eq (g2 := entryFrame m ([.long z1] : List Value).toArray 2) (by rw [ha]) ?_
  rw [lg_entry_eq]
  generalize (lg_sl ([.long z1]) ++ List.replicate (2 - (lg_sl ([.long z1])).length) Slot.unset).toArray = ls at hl ⊢
  have hl : lv_has ls 2 [(0, .long z1)] := hl
  refine lv_lload_n hx hb dX4_isLength_0 rfl (lv_at hl 0 rfl) ?_
  refine lv_lconst (v := 1) hx hb dX4_isLength_1 (by decide) ?_
  refine bm_lc_lt (x := z1) (y := 1) (tgt := 18) hx hb dX4_isLength_2 dX4_isLength_3 (by decide) (fun c_1 => ?_) (fun c_1 => ?_)
  · refine lv_iconst (v := bm_b false) hx hb dX4_isLength_18 (by decide) ?_
    exact bm_zretX (v := false) hx hb hr hP hD hK hS ⟨rfl, false, rfl⟩ dX4_isLength_19 hlocks
  · refine lv_lload_n hx hb dX4_isLength_6 rfl (lv_at hl 0 rfl) ?_
    refine lv_ldc2 (v := 65536) hx hb hown (hts (.constantLong RX4 51 65536) (List.mem_cons_of_mem _ clX4_51)) dX4_isLength_7 ?_
    refine bm_lc_gt (x := z1) (y := 65536) (tgt := 18) hx hb dX4_isLength_10 dX4_isLength_11 (by decide) (fun c_2 => ?_) (fun c_2 => ?_)
    · refine lv_iconst (v := bm_b false) hx hb dX4_isLength_18 (by decide) ?_
      exact bm_zretX (v := false) hx hb hr hP hD hK hS ⟨rfl, false, rfl⟩ dX4_isLength_19 hlocks
    · refine lv_iconst (v := bm_b true) hx hb dX4_isLength_14 (by decide) ?_
      refine lv_goto (tgt := 19) hx hb dX4_isLength_15 (by decide) ?_
      exact bm_zretX (v := true) hx hb hr hP hD hK hS ⟨rfl, true, rfl⟩ dX4_isLength_19 hlocks

set_option maxHeartbeats 8000000 in
set_option maxRecDepth 100000 in
theorem x_fits {l : Launch} {D : va_G} {ad : Nat → Nat} {cJ cI cZ : ClassId} {bm : gBM} {pa : gPA} {p0 p1 p2 : gPL} {li : gLI} {wi : gWI} {mt : Nat} {ms : gMS} {ma : gMA} {mp : gMP} {mk : gMK} {mn : gMN} {ou : Nat → Int64} {zj : Nat} {z1 : Int64} {z2 : Int64} {zt : Nat}  (hp0 : zj < 40) (hp1 : zt < 40)  : bm_Wx l yX4_fitsBoard wsX4_fitsBoard ({ frames := 0, cells := 0, slots := 0, locals := 0 }) D vwCl [(cJ, .long), (cI, .int), (cZ, .boolean)] (WW ad cJ cI cZ bm pa p0 p1 p2 li wi mt ms ma mp mk mn ou) [.ref (ad 0), .int (nI zj), .long z1, .long z2, .int (nI zt)] (fun ws9 r9 => ws9 = (WW ad cJ cI cZ bm pa p0 p1 p2 li wi mt ms ma mp mk mn ou) ∧ ∃ b9 : Bool, r9 = some (.int (bm_b b9))) := by
  intro sz
  refine Met.ofW (cc := cX4_fitsBoard) (maxL := 12) (ret := (some .boolean)) (by decide) rfl ?_
  intro p e s m args below meth c s₁ B hml hv
  obtain ⟨ha, hsz, hP, hK, hD0⟩ := hv
  have hx := B.exec
  have hb := B.bytes
  have hr := B.returns
  have hts := atoms_spec (ws := wsX4_fitsBoard) B.pre
  have hown : s.vm.findClass RX4 = some m.cls := findClass_of_methodNamed B.named
  have hlocks := B.notSynchronized
  subst hsz
  have hD := hD0.self (sz := s.heap.size)
  generalize hAe : va_A (WW ad cJ cI cZ bm pa p0 p1 p2 li wi mt ms ma mp mk mn ou) s.heap.size = A at hD ⊢
  have hA : ∀ q : Nat, s.heap.size ≤ q → A q := fun q h => by rw [← hAe]; exact Or.inr h
  have hS : va_S A s.heap s.heap [] := va_S.rf
  have hl := lv_entry ([.ref (ad 0), .int (nI zj), .long z1, .long z2, .int (nI zt)]) (n := 12) (Nat.le_of_ble_eq_true rfl)
  refine W.eq (g2 := entryFrame m ([.ref (ad 0), .int (nI zj), .long z1, .long z2, .int (nI zt)] : List Value).toArray 12) (by rw [ha]) ?_
  rw [lg_entry_eq]
  generalize (lg_sl ([.ref (ad 0), .int (nI zj), .long z1, .long z2, .int (nI zt)]) ++ List.replicate (12 - (lg_sl ([.ref (ad 0), .int (nI zj), .long z1, .long z2, .int (nI zt)])).length) Slot.unset).toArray = ls at hl ⊢
  have hl : lv_has ls 12 [(0, .ref (ad 0)), (1, .int (nI zj)), (2, .long z1), (4, .long z2), (6, .int (nI zt))] := hl
  refine lv_iload hx hb dX4_fitsBoard_0 (lv_at hl 4 rfl) ?_
  refine lv_iconst (v := nI 2) hx hb dX4_fitsBoard_2 (by decide) ?_
  refine bm_nrem hx hb (by omega) (by decide) (by decide) dX4_fitsBoard_3 ?_
  refine bm_nz_ne (x := (zt % 2)) (tgt := 11) hx hb (by omega) dX4_fitsBoard_4 (by decide) (fun c_1 => ?_) (fun c_1 => ?_)
  · refine lv_iconst (v := bm_b false) hx hb dX4_fitsBoard_11 (by decide) ?_
    refine lv_istore (lv' := [(7, .int (bm_b false)), (0, .ref (ad 0)), (1, .int (nI zj)), (2, .long z1), (4, .long z2), (6, .int (nI zt))]) hx hb dX4_fitsBoard_12 hl (by decide) rfl (fun ls hl => ?_)
    refine lv_iload hx hb dX4_fitsBoard_14 (lv_at hl 0 rfl) ?_
    refine bm_zb_eq (x := false) (tgt := 31) hx hb dX4_fitsBoard_16 (by decide) (fun c_2 => ?_) (fun c_2 => ?_)
    · refine lv_aload_n hx hb dX4_fitsBoard_31 rfl (lv_at hl 1 rfl) ?_
      refine va_get (D := D) (ci := 4) (v := .ref (ad 1)) (C := RX4) (T := TX4) (N := 10) hx hb hts (inT inX4) hown hK hP 0 ww_0 rfl 2 (by decide) (hts (.fieldLink RX4 12 "BoardMoves" "parts" "LBoardMoves$Parts;") (List.mem_cons_of_mem _ flX4_12)) (fun _ h9 => h9) rfl dX4_fitsBoard_32 ?_
      refine va_get (D := D) (ci := 1) (v := .ref (ad 3)) (C := RX1) (T := TX1) (N := 7) hx hb hts (inT inX1) hown hK hP 1 ww_1 rfl 1 (by decide) (hts (.fieldLink RX4 151 "BoardMoves$Parts" "h" "[J") (List.mem_cons_of_mem _ flX4_151)) (fun _ h9 => h9) rfl dX4_fitsBoard_35 ?_
      refine lv_iload_n hx hb dX4_fitsBoard_38 rfl (lv_at hl 2 rfl) ?_
      refine bm_lald (f := pa.2.1) hx hb hK hP 3 0 ww_3 rfl (j := zj) (by omega) (by decide) dX4_fitsBoard_39 ?_
      refine lv_topl (fun t_3 _ => ?_)
      refine lv_lstore (lv' := [(8, .long t_3), (7, .int (bm_b false)), (0, .ref (ad 0)), (1, .int (nI zj)), (2, .long z1), (4, .long z2), (6, .int (nI zt))]) hx hb dX4_fitsBoard_40 hl (by decide) rfl (fun ls hl => ?_)
      refine lv_iload hx hb dX4_fitsBoard_42 (lv_at hl 1 rfl) ?_
      refine bm_zb_eq (x := false) (tgt := 59) hx hb dX4_fitsBoard_44 (by decide) (fun c_4 => ?_) (fun c_4 => ?_)
      · refine lv_aload_n hx hb dX4_fitsBoard_59 rfl (lv_at hl 2 rfl) ?_
        refine va_get (D := D) (ci := 4) (v := .ref (ad 1)) (C := RX4) (T := TX4) (N := 10) hx hb hts (inT inX4) hown hK hP 0 ww_0 rfl 2 (by decide) (hts (.fieldLink RX4 12 "BoardMoves" "parts" "LBoardMoves$Parts;") (List.mem_cons_of_mem _ flX4_12)) (fun _ h9 => h9) rfl dX4_fitsBoard_60 ?_
        refine va_get (D := D) (ci := 1) (v := .ref (ad 2)) (C := RX1) (T := TX1) (N := 7) hx hb hts (inT inX1) hown hK hP 1 ww_1 rfl 0 (by decide) (hts (.fieldLink RX4 148 "BoardMoves$Parts" "w" "[J") (List.mem_cons_of_mem _ flX4_148)) (fun _ h9 => h9) rfl dX4_fitsBoard_63 ?_
        refine lv_iload_n hx hb dX4_fitsBoard_66 rfl (lv_at hl 3 rfl) ?_
        refine bm_lald (f := pa.1) hx hb hK hP 2 0 ww_2 rfl (j := zj) (by omega) (by decide) dX4_fitsBoard_67 ?_
        refine lv_topl (fun t_5 _ => ?_)
        refine lv_lstore (lv' := [(10, .long t_5), (8, .long t_3), (7, .int (bm_b false)), (0, .ref (ad 0)), (1, .int (nI zj)), (2, .long z1), (4, .long z2), (6, .int (nI zt))]) hx hb dX4_fitsBoard_68 hl (by decide) rfl (fun ls hl => ?_)
        refine lv_lload_n hx hb dX4_fitsBoard_70 rfl (lv_at hl 5 rfl) ?_
        refine lv_lconst (v := 0) hx hb dX4_fitsBoard_71 (by decide) ?_
        refine bm_lc_lt (x := z1) (y := 0) (tgt := 112) hx hb dX4_fitsBoard_72 dX4_fitsBoard_73 (by decide) (fun c_6 => ?_) (fun c_6 => ?_)
        · refine lv_iconst (v := bm_b false) hx hb dX4_fitsBoard_112 (by decide) ?_
          exact bm_zretX (v := false) hx hb hr hP hD hK hS ⟨rfl, false, rfl⟩ dX4_fitsBoard_113 hlocks
        · refine lv_lload_n hx hb dX4_fitsBoard_76 rfl (lv_at hl 5 rfl) ?_
          refine lv_aload_n hx hb dX4_fitsBoard_77 rfl (lv_at hl 3 rfl) ?_
          refine va_get (D := D) (ci := 4) (v := .long bm.1) (C := RX4) (T := TX4) (N := 10) hx hb hts (inT inX4) hown hK hP 0 ww_0 rfl 0 (by decide) (hts (.fieldLink RX4 62 "BoardMoves" "boardWide" "J") (List.mem_cons_of_mem _ flX4_62)) (fun _ h9 => h9) rfl dX4_fitsBoard_78 ?_
          refine lv_lload hx hb dX4_fitsBoard_81 (lv_at hl 1 rfl) ?_
          refine lv_lsub hx hb dX4_fitsBoard_83 ?_
          refine lv_topl (fun t_7 _ => ?_)
          refine bm_lc_gt (x := z1) (y := t_7) (tgt := 112) hx hb dX4_fitsBoard_84 dX4_fitsBoard_85 (by decide) (fun c_8 => ?_) (fun c_8 => ?_)
          · refine lv_iconst (v := bm_b false) hx hb dX4_fitsBoard_112 (by decide) ?_
            exact bm_zretX (v := false) hx hb hr hP hD hK hS ⟨rfl, false, rfl⟩ dX4_fitsBoard_113 hlocks
          · refine lv_lload hx hb dX4_fitsBoard_88 (lv_at hl 6 rfl) ?_
            refine lv_lconst (v := 0) hx hb dX4_fitsBoard_90 (by decide) ?_
            refine bm_lc_lt (x := z2) (y := 0) (tgt := 112) hx hb dX4_fitsBoard_91 dX4_fitsBoard_92 (by decide) (fun c_9 => ?_) (fun c_9 => ?_)
            · refine lv_iconst (v := bm_b false) hx hb dX4_fitsBoard_112 (by decide) ?_
              exact bm_zretX (v := false) hx hb hr hP hD hK hS ⟨rfl, false, rfl⟩ dX4_fitsBoard_113 hlocks
            · refine lv_lload hx hb dX4_fitsBoard_95 (lv_at hl 6 rfl) ?_
              refine lv_aload_n hx hb dX4_fitsBoard_97 rfl (lv_at hl 3 rfl) ?_
              refine va_get (D := D) (ci := 4) (v := .long bm.2.1) (C := RX4) (T := TX4) (N := 10) hx hb hts (inT inX4) hown hK hP 0 ww_0 rfl 1 (by decide) (hts (.fieldLink RX4 65 "BoardMoves" "boardHigh" "J") (List.mem_cons_of_mem _ flX4_65)) (fun _ h9 => h9) rfl dX4_fitsBoard_98 ?_
              refine lv_lload hx hb dX4_fitsBoard_101 (lv_at hl 0 rfl) ?_
              refine lv_lsub hx hb dX4_fitsBoard_103 ?_
              refine lv_topl (fun t_10 _ => ?_)
              refine bm_lc_gt (x := z2) (y := t_10) (tgt := 112) hx hb dX4_fitsBoard_104 dX4_fitsBoard_105 (by decide) (fun c_11 => ?_) (fun c_11 => ?_)
              · refine lv_iconst (v := bm_b false) hx hb dX4_fitsBoard_112 (by decide) ?_
                exact bm_zretX (v := false) hx hb hr hP hD hK hS ⟨rfl, false, rfl⟩ dX4_fitsBoard_113 hlocks
              · refine lv_iconst (v := bm_b true) hx hb dX4_fitsBoard_108 (by decide) ?_
                refine lv_goto (tgt := 113) hx hb dX4_fitsBoard_109 (by decide) ?_
                exact bm_zretX (v := true) hx hb hr hP hD hK hS ⟨rfl, true, rfl⟩ dX4_fitsBoard_113 hlocks
      · exact absurd c_4 (by decide)
    · exact absurd c_2 (by decide)
  · refine lv_iconst (v := bm_b true) hx hb dX4_fitsBoard_7 (by decide) ?_
    refine lv_goto (tgt := 12) hx hb dX4_fitsBoard_8 (by decide) ?_
    refine lv_istore (lv' := [(7, .int (bm_b true)), (0, .ref (ad 0)), (1, .int (nI zj)), (2, .long z1), (4, .long z2), (6, .int (nI zt))]) hx hb dX4_fitsBoard_12 hl (by decide) rfl (fun ls hl => ?_)
    refine lv_iload hx hb dX4_fitsBoard_14 (lv_at hl 0 rfl) ?_
    refine bm_zb_eq (x := true) (tgt := 31) hx hb dX4_fitsBoard_16 (by decide) (fun c_12 => ?_) (fun c_12 => ?_)
    · exact absurd c_12 (by decide)
    · refine lv_aload_n hx hb dX4_fitsBoard_19 rfl (lv_at hl 1 rfl) ?_
      refine va_get (D := D) (ci := 4) (v := .ref (ad 1)) (C := RX4) (T := TX4) (N := 10) hx hb hts (inT inX4) hown hK hP 0 ww_0 rfl 2 (by decide) (hts (.fieldLink RX4 12 "BoardMoves" "parts" "LBoardMoves$Parts;") (List.mem_cons_of_mem _ flX4_12)) (fun _ h9 => h9) rfl dX4_fitsBoard_20 ?_
      refine va_get (D := D) (ci := 1) (v := .ref (ad 2)) (C := RX1) (T := TX1) (N := 7) hx hb hts (inT inX1) hown hK hP 1 ww_1 rfl 0 (by decide) (hts (.fieldLink RX4 148 "BoardMoves$Parts" "w" "[J") (List.mem_cons_of_mem _ flX4_148)) (fun _ h9 => h9) rfl dX4_fitsBoard_23 ?_
      refine lv_iload_n hx hb dX4_fitsBoard_26 rfl (lv_at hl 2 rfl) ?_
      refine bm_lald (f := pa.1) hx hb hK hP 2 0 ww_2 rfl (j := zj) (by omega) (by decide) dX4_fitsBoard_27 ?_
      refine lv_topl (fun t_13 _ => ?_)
      refine lv_goto (tgt := 40) hx hb dX4_fitsBoard_28 (by decide) ?_
      refine lv_lstore (lv' := [(8, .long t_13), (7, .int (bm_b true)), (0, .ref (ad 0)), (1, .int (nI zj)), (2, .long z1), (4, .long z2), (6, .int (nI zt))]) hx hb dX4_fitsBoard_40 hl (by decide) rfl (fun ls hl => ?_)
      refine lv_iload hx hb dX4_fitsBoard_42 (lv_at hl 1 rfl) ?_
      refine bm_zb_eq (x := true) (tgt := 59) hx hb dX4_fitsBoard_44 (by decide) (fun c_14 => ?_) (fun c_14 => ?_)
      · exact absurd c_14 (by decide)
      · refine lv_aload_n hx hb dX4_fitsBoard_47 rfl (lv_at hl 2 rfl) ?_
        refine va_get (D := D) (ci := 4) (v := .ref (ad 1)) (C := RX4) (T := TX4) (N := 10) hx hb hts (inT inX4) hown hK hP 0 ww_0 rfl 2 (by decide) (hts (.fieldLink RX4 12 "BoardMoves" "parts" "LBoardMoves$Parts;") (List.mem_cons_of_mem _ flX4_12)) (fun _ h9 => h9) rfl dX4_fitsBoard_48 ?_
        refine va_get (D := D) (ci := 1) (v := .ref (ad 3)) (C := RX1) (T := TX1) (N := 7) hx hb hts (inT inX1) hown hK hP 1 ww_1 rfl 1 (by decide) (hts (.fieldLink RX4 151 "BoardMoves$Parts" "h" "[J") (List.mem_cons_of_mem _ flX4_151)) (fun _ h9 => h9) rfl dX4_fitsBoard_51 ?_
        refine lv_iload_n hx hb dX4_fitsBoard_54 rfl (lv_at hl 3 rfl) ?_
        refine bm_lald (f := pa.2.1) hx hb hK hP 3 0 ww_3 rfl (j := zj) (by omega) (by decide) dX4_fitsBoard_55 ?_
        refine lv_topl (fun t_15 _ => ?_)
        refine lv_goto (tgt := 68) hx hb dX4_fitsBoard_56 (by decide) ?_
        refine lv_lstore (lv' := [(10, .long t_15), (8, .long t_13), (7, .int (bm_b true)), (0, .ref (ad 0)), (1, .int (nI zj)), (2, .long z1), (4, .long z2), (6, .int (nI zt))]) hx hb dX4_fitsBoard_68 hl (by decide) rfl (fun ls hl => ?_)
        refine lv_lload_n hx hb dX4_fitsBoard_70 rfl (lv_at hl 5 rfl) ?_
        refine lv_lconst (v := 0) hx hb dX4_fitsBoard_71 (by decide) ?_
        refine bm_lc_lt (x := z1) (y := 0) (tgt := 112) hx hb dX4_fitsBoard_72 dX4_fitsBoard_73 (by decide) (fun c_16 => ?_) (fun c_16 => ?_)
        · refine lv_iconst (v := bm_b false) hx hb dX4_fitsBoard_112 (by decide) ?_
          exact bm_zretX (v := false) hx hb hr hP hD hK hS ⟨rfl, false, rfl⟩ dX4_fitsBoard_113 hlocks
        · refine lv_lload_n hx hb dX4_fitsBoard_76 rfl (lv_at hl 5 rfl) ?_
          refine lv_aload_n hx hb dX4_fitsBoard_77 rfl (lv_at hl 3 rfl) ?_
          refine va_get (D := D) (ci := 4) (v := .long bm.1) (C := RX4) (T := TX4) (N := 10) hx hb hts (inT inX4) hown hK hP 0 ww_0 rfl 0 (by decide) (hts (.fieldLink RX4 62 "BoardMoves" "boardWide" "J") (List.mem_cons_of_mem _ flX4_62)) (fun _ h9 => h9) rfl dX4_fitsBoard_78 ?_
          refine lv_lload hx hb dX4_fitsBoard_81 (lv_at hl 1 rfl) ?_
          refine lv_lsub hx hb dX4_fitsBoard_83 ?_
          refine lv_topl (fun t_17 _ => ?_)
          refine bm_lc_gt (x := z1) (y := t_17) (tgt := 112) hx hb dX4_fitsBoard_84 dX4_fitsBoard_85 (by decide) (fun c_18 => ?_) (fun c_18 => ?_)
          · refine lv_iconst (v := bm_b false) hx hb dX4_fitsBoard_112 (by decide) ?_
            exact bm_zretX (v := false) hx hb hr hP hD hK hS ⟨rfl, false, rfl⟩ dX4_fitsBoard_113 hlocks
          · refine lv_lload hx hb dX4_fitsBoard_88 (lv_at hl 6 rfl) ?_
            refine lv_lconst (v := 0) hx hb dX4_fitsBoard_90 (by decide) ?_
            refine bm_lc_lt (x := z2) (y := 0) (tgt := 112) hx hb dX4_fitsBoard_91 dX4_fitsBoard_92 (by decide) (fun c_19 => ?_) (fun c_19 => ?_)
            · refine lv_iconst (v := bm_b false) hx hb dX4_fitsBoard_112 (by decide) ?_
              exact bm_zretX (v := false) hx hb hr hP hD hK hS ⟨rfl, false, rfl⟩ dX4_fitsBoard_113 hlocks
            · refine lv_lload hx hb dX4_fitsBoard_95 (lv_at hl 6 rfl) ?_
              refine lv_aload_n hx hb dX4_fitsBoard_97 rfl (lv_at hl 3 rfl) ?_
              refine va_get (D := D) (ci := 4) (v := .long bm.2.1) (C := RX4) (T := TX4) (N := 10) hx hb hts (inT inX4) hown hK hP 0 ww_0 rfl 1 (by decide) (hts (.fieldLink RX4 65 "BoardMoves" "boardHigh" "J") (List.mem_cons_of_mem _ flX4_65)) (fun _ h9 => h9) rfl dX4_fitsBoard_98 ?_
              refine lv_lload hx hb dX4_fitsBoard_101 (lv_at hl 0 rfl) ?_
              refine lv_lsub hx hb dX4_fitsBoard_103 ?_
              refine lv_topl (fun t_20 _ => ?_)
              refine bm_lc_gt (x := z2) (y := t_20) (tgt := 112) hx hb dX4_fitsBoard_104 dX4_fitsBoard_105 (by decide) (fun c_21 => ?_) (fun c_21 => ?_)
              · refine lv_iconst (v := bm_b false) hx hb dX4_fitsBoard_112 (by decide) ?_
                exact bm_zretX (v := false) hx hb hr hP hD hK hS ⟨rfl, false, rfl⟩ dX4_fitsBoard_113 hlocks
              · refine lv_iconst (v := bm_b true) hx hb dX4_fitsBoard_108 (by decide) ?_
                refine lv_goto (tgt := 113) hx hb dX4_fitsBoard_109 (by decide) ?_
                exact bm_zretX (v := true) hx hb hr hP hD hK hS ⟨rfl, true, rfl⟩ dX4_fitsBoard_113 hlocks
