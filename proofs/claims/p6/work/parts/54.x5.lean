set_option maxHeartbeats 8000000 in
set_option maxRecDepth 100000 in
theorem x_len {l : Launch} {D : va_G} {ad : Nat → Nat} {cJ cI cZ : ClassId} {bm : gBM} {pa : gPA} {p0 p1 p2 : gPL} {li : gLI} {wi : gWI} {mt : Nat} {ms : gMS} {ma : gMA} {mp : gMP} {mk : gMK} {mn : gMN} {ou : Nat → Int64} {z1 : Int64}    : bm_Wx l yX4_isLength wsX4_isLength ({ frames := 0, cells := 0, slots := 0, locals := 0 }) D vwCl [(cJ, .long), (cI, .int), (cZ, .boolean)] (WW ad cJ cI cZ bm pa p0 p1 p2 li wi mt ms ma mp mk mn ou) [.long z1] (fun ws9 r9 => ws9 = (WW ad cJ cI cZ bm pa p0 p1 p2 li wi mt ms ma mp mk mn ou) ∧ ∃ b9 : Bool, r9 = some (.int (bm_b b9))) := by
  intro sz
  refine Met.ofW (cc := cX4_isLength) (maxL := 2) (ret := (some .boolean)) (by decide) rfl ?_
  intro p e s m args below meth c s₁ B hml hv
  obtain ⟨ha, hsz, hP, hK, hD0⟩ := hv
  have hx := B.exec
  have hb := B.bytes
  have hr := B.returns
  have hts := atoms_spec (ws := wsX4_isLength) B.pre
  have hown : s.vm.findClass RX4 = some m.cls := findClass_of_methodNamed B.named
  have hlocks := B.notSynchronized
  subst hsz
  have hD := hD0.self (sz := s.heap.size)
  generalize hAe : va_A (WW ad cJ cI cZ bm pa p0 p1 p2 li wi mt ms ma mp mk mn ou) s.heap.size = A at hD ⊢
  have hA : ∀ q : Nat, s.heap.size ≤ q → A q := fun q h => by rw [← hAe]; exact Or.inr h
  have hS : va_S A s.heap s.heap [] := va_S.rf
  have hl := lv_entry ([.long z1]) (n := 2) (Nat.le_of_ble_eq_true rfl)
  refine W.eq (g2 := entryFrame m ([.long z1] : List Value).toArray 2) (by rw [ha]) ?_
  rw [lg_entry_eq]
  generalize (lg_sl ([.long z1]) ++ List.replicate (2 - (lg_sl ([.long z1])).length) Slot.unset).toArray = ls at hl ⊢
  have hl : lv_has ls 2 [(0, .long z1)] := hl
  refine lv_lload_n hx hb dX4_isLength_0 rfl (lv_at hl 0 rfl) ?_
  refine lv_lconst (v := 1) hx hb dX4_isLength_1 (by decide) ?_
  refine bm_lc_lt (x := z1) (y := 1) (tgt := 18) hx hb dX4_isLength_2 dX4_isLength_3 (by decide) (fun c_1 => ?_) (fun c_1 => ?_)
  · refine lv_iconst (v := bm_b false) hx hb dX4_isLength_18 (by decide) ?_
    exact bm_zretX (v := false) hx hb hr hP hD hK hS ⟨rfl, false, rfl⟩ dX4_isLength_19 hlocks
  · refine lv_lload_n hx hb dX4_isLength_6 rfl (lv_at hl 0 rfl) ?_
    refine lv_ldc2 (v := 65536) hx hb hown (hts (.constantLong RX4 51 65536) (List.mem_cons_of_mem _ clX4_51)) dX4_isLength_7 ?_
    refine bm_lc_gt (x := z1) (y := 65536) (tgt := 18) hx hb dX4_isLength_10 dX4_isLength_11 (by decide) (fun c_2 => ?_) (fun c_2 => ?_)
    · refine lv_iconst (v := bm_b false) hx hb dX4_isLength_18 (by decide) ?_
      exact bm_zretX (v := false) hx hb hr hP hD hK hS ⟨rfl, false, rfl⟩ dX4_isLength_19 hlocks
    · refine lv_iconst (v := bm_b true) hx hb dX4_isLength_14 (by decide) ?_
      refine lv_goto (tgt := 19) hx hb dX4_isLength_15 (by decide) ?_
      exact bm_zretX (v := true) hx hb hr hP hD hK hS ⟨rfl, true, rfl⟩ dX4_isLength_19 hlocks

set_option maxHeartbeats 8000000 in
set_option maxRecDepth 100000 in
theorem x_fits {l : Launch} {D : va_G} {ad : Nat → Nat} {cJ cI cZ : ClassId} {bm : gBM} {pa : gPA} {p0 p1 p2 : gPL} {li : gLI} {wi : gWI} {mt : Nat} {ms : gMS} {ma : gMA} {mp : gMP} {mk : gMK} {mn : gMN} {ou : Nat → Int64} {zj : Nat} {z1 : Int64} {z2 : Int64} {zt : Nat}  (hp0 : zj < 40) (hp1 : zt < 40)  : bm_Wx l yX4_fitsBoard wsX4_fitsBoard ({ frames := 0, cells := 0, slots := 0, locals := 0 }) D vwCl [(cJ, .long), (cI, .int), (cZ, .boolean)] (WW ad cJ cI cZ bm pa p0 p1 p2 li wi mt ms ma mp mk mn ou) [.ref (ad 0), .int (nI zj), .long z1, .long z2, .int (nI zt)] (fun ws9 r9 => ws9 = (WW ad cJ cI cZ bm pa p0 p1 p2 li wi mt ms ma mp mk mn ou) ∧ ∃ b9 : Bool, r9 = some (.int (bm_b b9))) := by
  intro sz
  refine Met.ofW (cc := cX4_fitsBoard) (maxL := 12) (ret := (some .boolean)) (by decide) rfl ?_
  intro p e s m args below meth c s₁ B hml hv
  obtain ⟨ha, hsz, hP, hK, hD0⟩ := hv
  have hx := B.exec
  have hb := B.bytes
  have hr := B.returns
  have hts := atoms_spec (ws := wsX4_fitsBoard) B.pre
  have hown : s.vm.findClass RX4 = some m.cls := findClass_of_methodNamed B.named
  have hlocks := B.notSynchronized
  subst hsz
  have hD := hD0.self (sz := s.heap.size)
  generalize hAe : va_A (WW ad cJ cI cZ bm pa p0 p1 p2 li wi mt ms ma mp mk mn ou) s.heap.size = A at hD ⊢
  have hA : ∀ q : Nat, s.heap.size ≤ q → A q := fun q h => by rw [← hAe]; exact Or.inr h
  have hS : va_S A s.heap s.heap [] := va_S.rf
  have hl := lv_entry ([.ref (ad 0), .int (nI zj), .long z1, .long z2, .int (nI zt)]) (n := 12) (Nat.le_of_ble_eq_true rfl)
  refine W.eq (g2 := entryFrame m ([.ref (ad 0), .int (nI zj), .long z1, .long z2, .int (nI zt)] : List Value).toArray 12) (by rw [ha]) ?_
  rw [lg_entry_eq]
  generalize (lg_sl ([.ref (ad 0), .int (nI zj), .long z1, .long z2, .int (nI zt)]) ++ List.replicate (12 - (lg_sl ([.ref (ad 0), .int (nI zj), .long z1, .long z2, .int (nI zt)])).length) Slot.unset).toArray = ls at hl ⊢
  have hl : lv_has ls 12 [(0, .ref (ad 0)), (1, .int (nI zj)), (2, .long z1), (4, .long z2), (6, .int (nI zt))] := hl
  refine lv_iload hx hb dX4_fitsBoard_0 (lv_at hl 4 rfl) ?_
  refine lv_iconst (v := nI 2) hx hb dX4_fitsBoard_2 (by decide) ?_
  refine bm_nrem hx hb (by omega) (by decide) (by decide) dX4_fitsBoard_3 ?_
  refine bm_nz_ne (x := (zt % 2)) (tgt := 11) hx hb (by omega) dX4_fitsBoard_4 (by decide) (fun c_1 => ?_) (fun c_1 => ?_)
  · refine lv_iconst (v := bm_b false) hx hb dX4_fitsBoard_11 (by decide) ?_
    refine lv_istore (lv' := [(7, .int (bm_b false)), (0, .ref (ad 0)), (1, .int (nI zj)), (2, .long z1), (4, .long z2), (6, .int (nI zt))]) hx hb dX4_fitsBoard_12 hl (by decide) rfl (fun ls hl => ?_)
    refine lv_iload hx hb dX4_fitsBoard_14 (lv_at hl 0 rfl) ?_
    refine bm_zb_eq (x := false) (tgt := 31) hx hb dX4_fitsBoard_16 (by decide) (fun c_2 => ?_) (fun c_2 => ?_)
    · refine lv_aload_n hx hb dX4_fitsBoard_31 rfl (lv_at hl 1 rfl) ?_
      refine va_get (D := D) (ci := 4) (v := .ref (ad 1)) (C := RX4) (T := TX4) (N := 10) hx hb hts (inT inX4) hown hK hP 0 ww_0 rfl 2 (by decide) (hts (.fieldLink RX4 12 "BoardMoves" "parts" "LBoardMoves$Parts;") (List.mem_cons_of_mem _ flX4_12)) (fun _ h9 => h9) rfl dX4_fitsBoard_32 ?_
      refine va_get (D := D) (ci := 1) (v := .ref (ad 3)) (C := RX1) (T := TX1) (N := 7) hx hb hts (inT inX1) hown hK hP 1 ww_1 rfl 1 (by decide) (hts (.fieldLink RX4 151 "BoardMoves$Parts" "h" "[J") (List.mem_cons_of_mem _ flX4_151)) (fun _ h9 => h9) rfl dX4_fitsBoard_35 ?_
      refine lv_iload_n hx hb dX4_fitsBoard_38 rfl (lv_at hl 2 rfl) ?_
      refine bm_lald (f := pa.2.1) hx hb hK hP 3 0 ww_3 rfl (j := zj) (by omega) (by decide) dX4_fitsBoard_39 ?_
      refine lv_topl (fun t_3 _ => ?_)
      refine lv_lstore (lv' := [(8, .long t_3), (7, .int (bm_b false)), (0, .ref (ad 0)), (1, .int (nI zj)), (2, .long z1), (4, .long z2), (6, .int (nI zt))]) hx hb dX4_fitsBoard_40 hl (by decide) rfl (fun ls hl => ?_)
      refine lv_iload hx hb dX4_fitsBoard_42 (lv_at hl 1 rfl) ?_
      refine bm_zb_eq (x := false) (tgt := 59) hx hb dX4_fitsBoard_44 (by decide) (fun c_4 => ?_) (fun c_4 => ?_)
      · refine lv_aload_n hx hb dX4_fitsBoard_59 rfl (lv_at hl 2 rfl) ?_
        refine va_get (D := D) (ci := 4) (v := .ref (ad 1)) (C := RX4) (T := TX4) (N := 10) hx hb hts (inT inX4) hown hK hP 0 ww_0 rfl 2 (by decide) (hts (.fieldLink RX4 12 "BoardMoves" "parts" "LBoardMoves$Parts;") (List.mem_cons_of_mem _ flX4_12)) (fun _ h9 => h9) rfl dX4_fitsBoard_60 ?_
        refine va_get (D := D) (ci := 1) (v := .ref (ad 2)) (C := RX1) (T := TX1) (N := 7) hx hb hts (inT inX1) hown hK hP 1 ww_1 rfl 0 (by decide) (hts (.fieldLink RX4 148 "BoardMoves$Parts" "w" "[J") (List.mem_cons_of_mem _ flX4_148)) (fun _ h9 => h9) rfl dX4_fitsBoard_63 ?_
        refine lv_iload_n hx hb dX4_fitsBoard_66 rfl (lv_at hl 3 rfl) ?_
        refine bm_lald (f := pa.1) hx hb hK hP 2 0 ww_2 rfl (j := zj) (by omega) (by decide) dX4_fitsBoard_67 ?_
        refine lv_topl (fun t_5 _ => ?_)
        refine lv_lstore (lv' := [(10, .long t_5), (8, .long t_3), (7, .int (bm_b false)), (0, .ref (ad 0)), (1, .int (nI zj)), (2, .long z1), (4, .long z2), (6, .int (nI zt))]) hx hb dX4_fitsBoard_68 hl (by decide) rfl (fun ls hl => ?_)
        refine lv_lload_n hx hb dX4_fitsBoard_70 rfl (lv_at hl 5 rfl) ?_
        refine lv_lconst (v := 0) hx hb dX4_fitsBoard_71 (by decide) ?_
        refine bm_lc_lt (x := z1) (y := 0) (tgt := 112) hx hb dX4_fitsBoard_72 dX4_fitsBoard_73 (by decide) (fun c_6 => ?_) (fun c_6 => ?_)
        · refine lv_iconst (v := bm_b false) hx hb dX4_fitsBoard_112 (by decide) ?_
          exact bm_zretX (v := false) hx hb hr hP hD hK hS ⟨rfl, false, rfl⟩ dX4_fitsBoard_113 hlocks
        · refine lv_lload_n hx hb dX4_fitsBoard_76 rfl (lv_at hl 5 rfl) ?_
          refine lv_aload_n hx hb dX4_fitsBoard_77 rfl (lv_at hl 3 rfl) ?_
          refine va_get (D := D) (ci := 4) (v := .long bm.1) (C := RX4) (T := TX4) (N := 10) hx hb hts (inT inX4) hown hK hP 0 ww_0 rfl 0 (by decide) (hts (.fieldLink RX4 62 "BoardMoves" "boardWide" "J") (List.mem_cons_of_mem _ flX4_62)) (fun _ h9 => h9) rfl dX4_fitsBoard_78 ?_
          refine lv_lload hx hb dX4_fitsBoard_81 (lv_at hl 1 rfl) ?_
          refine lv_lsub hx hb dX4_fitsBoard_83 ?_
          refine lv_topl (fun t_7 _ => ?_)
          refine bm_lc_gt (x := z1) (y := t_7) (tgt := 112) hx hb dX4_fitsBoard_84 dX4_fitsBoard_85 (by decide) (fun c_8 => ?_) (fun c_8 => ?_)
          · refine lv_iconst (v := bm_b false) hx hb dX4_fitsBoard_112 (by decide) ?_
            exact bm_zretX (v := false) hx hb hr hP hD hK hS ⟨rfl, false, rfl⟩ dX4_fitsBoard_113 hlocks
          · refine lv_lload hx hb dX4_fitsBoard_88 (lv_at hl 6 rfl) ?_
            refine lv_lconst (v := 0) hx hb dX4_fitsBoard_90 (by decide) ?_
            refine bm_lc_lt (x := z2) (y := 0) (tgt := 112) hx hb dX4_fitsBoard_91 dX4_fitsBoard_92 (by decide) (fun c_9 => ?_) (fun c_9 => ?_)
            · refine lv_iconst (v := bm_b false) hx hb dX4_fitsBoard_112 (by decide) ?_
              exact bm_zretX (v := false) hx hb hr hP hD hK hS ⟨rfl, false, rfl⟩ dX4_fitsBoard_113 hlocks
            · refine lv_lload hx hb dX4_fitsBoard_95 (lv_at hl 6 rfl) ?_
              refine lv_aload_n hx hb dX4_fitsBoard_97 rfl (lv_at hl 3 rfl) ?_
              refine va_get (D := D) (ci := 4) (v := .long bm.2.1) (C := RX4) (T := TX4) (N := 10) hx hb hts (inT inX4) hown hK hP 0 ww_0 rfl 1 (by decide) (hts (.fieldLink RX4 65 "BoardMoves" "boardHigh" "J") (List.mem_cons_of_mem _ flX4_65)) (fun _ h9 => h9) rfl dX4_fitsBoard_98 ?_
              refine lv_lload hx hb dX4_fitsBoard_101 (lv_at hl 0 rfl) ?_
              refine lv_lsub hx hb dX4_fitsBoard_103 ?_
              refine lv_topl (fun t_10 _ => ?_)
              refine bm_lc_gt (x := z2) (y := t_10) (tgt := 112) hx hb dX4_fitsBoard_104 dX4_fitsBoard_105 (by decide) (fun c_11 => ?_) (fun c_11 => ?_)
              · refine lv_iconst (v := bm_b false) hx hb dX4_fitsBoard_112 (by decide) ?_
                exact bm_zretX (v := false) hx hb hr hP hD hK hS ⟨rfl, false, rfl⟩ dX4_fitsBoard_113 hlocks
              · refine lv_iconst (v := bm_b true) hx hb dX4_fitsBoard_108 (by decide) ?_
                refine lv_goto (tgt := 113) hx hb dX4_fitsBoard_109 (by decide) ?_
                exact bm_zretX (v := true) hx hb hr hP hD hK hS ⟨rfl, true, rfl⟩ dX4_fitsBoard_113 hlocks
      · exact absurd c_4 (by decide)
    · exact absurd c_2 (by decide)
  · refine lv_iconst (v := bm_b true) hx hb dX4_fitsBoard_7 (by decide) ?_
    refine lv_goto (tgt := 12) hx hb dX4_fitsBoard_8 (by decide) ?_
    refine lv_istore (lv' := [(7, .int (bm_b true)), (0, .ref (ad 0)), (1, .int (nI zj)), (2, .long z1), (4, .long z2), (6, .int (nI zt))]) hx hb dX4_fitsBoard_12 hl (by decide) rfl (fun ls hl => ?_)
    refine lv_iload hx hb dX4_fitsBoard_14 (lv_at hl 0 rfl) ?_
    refine bm_zb_eq (x := true) (tgt := 31) hx hb dX4_fitsBoard_16 (by decide) (fun c_12 => ?_) (fun c_12 => ?_)
    · exact absurd c_12 (by decide)
    · refine lv_aload_n hx hb dX4_fitsBoard_19 rfl (lv_at hl 1 rfl) ?_
      refine va_get (D := D) (ci := 4) (v := .ref (ad 1)) (C := RX4) (T := TX4) (N := 10) hx hb hts (inT inX4) hown hK hP 0 ww_0 rfl 2 (by decide) (hts (.fieldLink RX4 12 "BoardMoves" "parts" "LBoardMoves$Parts;") (List.mem_cons_of_mem _ flX4_12)) (fun _ h9 => h9) rfl dX4_fitsBoard_20 ?_
      refine va_get (D := D) (ci := 1) (v := .ref (ad 2)) (C := RX1) (T := TX1) (N := 7) hx hb hts (inT inX1) hown hK hP 1 ww_1 rfl 0 (by decide) (hts (.fieldLink RX4 148 "BoardMoves$Parts" "w" "[J") (List.mem_cons_of_mem _ flX4_148)) (fun _ h9 => h9) rfl dX4_fitsBoard_23 ?_
      refine lv_iload_n hx hb dX4_fitsBoard_26 rfl (lv_at hl 2 rfl) ?_
      refine bm_lald (f := pa.1) hx hb hK hP 2 0 ww_2 rfl (j := zj) (by omega) (by decide) dX4_fitsBoard_27 ?_
      refine lv_topl (fun t_13 _ => ?_)
      refine lv_goto (tgt := 40) hx hb dX4_fitsBoard_28 (by decide) ?_
      refine lv_lstore (lv' := [(8, .long t_13), (7, .int (bm_b true)), (0, .ref (ad 0)), (1, .int (nI zj)), (2, .long z1), (4, .long z2), (6, .int (nI zt))]) hx hb dX4_fitsBoard_40 hl (by decide) rfl (fun ls hl => ?_)
      refine lv_iload hx hb dX4_fitsBoard_42 (lv_at hl 1 rfl) ?_
      refine bm_zb_eq (x := true) (tgt := 59) hx hb dX4_fitsBoard_44 (by decide) (fun c_14 => ?_) (fun c_14 => ?_)
      · exact absurd c_14 (by decide)
      · refine lv_aload_n hx hb dX4_fitsBoard_47 rfl (lv_at hl 2 rfl) ?_
        refine va_get (D := D) (ci := 4) (v := .ref (ad 1)) (C := RX4) (T := TX4) (N := 10) hx hb hts (inT inX4) hown hK hP 0 ww_0 rfl 2 (by decide) (hts (.fieldLink RX4 12 "BoardMoves" "parts" "LBoardMoves$Parts;") (List.mem_cons_of_mem _ flX4_12)) (fun _ h9 => h9) rfl dX4_fitsBoard_48 ?_
        refine va_get (D := D) (ci := 1) (v := .ref (ad 3)) (C := RX1) (T := TX1) (N := 7) hx hb hts (inT inX1) hown hK hP 1 ww_1 rfl 1 (by decide) (hts (.fieldLink RX4 151 "BoardMoves$Parts" "h" "[J") (List.mem_cons_of_mem _ flX4_151)) (fun _ h9 => h9) rfl dX4_fitsBoard_51 ?_
        refine lv_iload_n hx hb dX4_fitsBoard_54 rfl (lv_at hl 3 rfl) ?_
        refine bm_lald (f := pa.2.1) hx hb hK hP 3 0 ww_3 rfl (j := zj) (by omega) (by decide) dX4_fitsBoard_55 ?_
        refine lv_topl (fun t_15 _ => ?_)
        refine lv_goto (tgt := 68) hx hb dX4_fitsBoard_56 (by decide) ?_
        refine lv_lstore (lv' := [(10, .long t_15), (8, .long t_13), (7, .int (bm_b true)), (0, .ref (ad 0)), (1, .int (nI zj)), (2, .long z1), (4, .long z2), (6, .int (nI zt))]) hx hb dX4_fitsBoard_68 hl (by decide) rfl (fun ls hl => ?_)
        refine lv_lload_n hx hb dX4_fitsBoard_70 rfl (lv_at hl 5 rfl) ?_
        refine lv_lconst (v := 0) hx hb dX4_fitsBoard_71 (by decide) ?_
        refine bm_lc_lt (x := z1) (y := 0) (tgt := 112) hx hb dX4_fitsBoard_72 dX4_fitsBoard_73 (by decide) (fun c_16 => ?_) (fun c_16 => ?_)
        · refine lv_iconst (v := bm_b false) hx hb dX4_fitsBoard_112 (by decide) ?_
          exact bm_zretX (v := false) hx hb hr hP hD hK hS ⟨rfl, false, rfl⟩ dX4_fitsBoard_113 hlocks
        · refine lv_lload_n hx hb dX4_fitsBoard_76 rfl (lv_at hl 5 rfl) ?_
          refine lv_aload_n hx hb dX4_fitsBoard_77 rfl (lv_at hl 3 rfl) ?_
          refine va_get (D := D) (ci := 4) (v := .long bm.1) (C := RX4) (T := TX4) (N := 10) hx hb hts (inT inX4) hown hK hP 0 ww_0 rfl 0 (by decide) (hts (.fieldLink RX4 62 "BoardMoves" "boardWide" "J") (List.mem_cons_of_mem _ flX4_62)) (fun _ h9 => h9) rfl dX4_fitsBoard_78 ?_
          refine lv_lload hx hb dX4_fitsBoard_81 (lv_at hl 1 rfl) ?_
          refine lv_lsub hx hb dX4_fitsBoard_83 ?_
          refine lv_topl (fun t_17 _ => ?_)
          refine bm_lc_gt (x := z1) (y := t_17) (tgt := 112) hx hb dX4_fitsBoard_84 dX4_fitsBoard_85 (by decide) (fun c_18 => ?_) (fun c_18 => ?_)
          · refine lv_iconst (v := bm_b false) hx hb dX4_fitsBoard_112 (by decide) ?_
            exact bm_zretX (v := false) hx hb hr hP hD hK hS ⟨rfl, false, rfl⟩ dX4_fitsBoard_113 hlocks
          · refine lv_lload hx hb dX4_fitsBoard_88 (lv_at hl 6 rfl) ?_
            refine lv_lconst (v := 0) hx hb dX4_fitsBoard_90 (by decide) ?_
            refine bm_lc_lt (x := z2) (y := 0) (tgt := 112) hx hb dX4_fitsBoard_91 dX4_fitsBoard_92 (by decide) (fun c_19 => ?_) (fun c_19 => ?_)
            · refine lv_iconst (v := bm_b false) hx hb dX4_fitsBoard_112 (by decide) ?_
              exact bm_zretX (v := false) hx hb hr hP hD hK hS ⟨rfl, false, rfl⟩ dX4_fitsBoard_113 hlocks
            · refine lv_lload hx hb dX4_fitsBoard_95 (lv_at hl 6 rfl) ?_
              refine lv_aload_n hx hb dX4_fitsBoard_97 rfl (lv_at hl 3 rfl) ?_
              refine va_get (D := D) (ci := 4) (v := .long bm.2.1) (C := RX4) (T := TX4) (N := 10) hx hb hts (inT inX4) hown hK hP 0 ww_0 rfl 1 (by decide) (hts (.fieldLink RX4 65 "BoardMoves" "boardHigh" "J") (List.mem_cons_of_mem _ flX4_65)) (fun _ h9 => h9) rfl dX4_fitsBoard_98 ?_
              refine lv_lload hx hb dX4_fitsBoard_101 (lv_at hl 0 rfl) ?_
              refine lv_lsub hx hb dX4_fitsBoard_103 ?_
              refine lv_topl (fun t_20 _ => ?_)
              refine bm_lc_gt (x := z2) (y := t_20) (tgt := 112) hx hb dX4_fitsBoard_104 dX4_fitsBoard_105 (by decide) (fun c_21 => ?_) (fun c_21 => ?_)
              · refine lv_iconst (v := bm_b false) hx hb dX4_fitsBoard_112 (by decide) ?_
                exact bm_zretX (v := false) hx hb hr hP hD hK hS ⟨rfl, false, rfl⟩ dX4_fitsBoard_113 hlocks
              · refine lv_iconst (v := bm_b true) hx hb dX4_fitsBoard_108 (by decide) ?_
                refine lv_goto (tgt := 113) hx hb dX4_fitsBoard_109 (by decide) ?_
                exact bm_zretX (v := true) hx hb hr hP hD hK hS ⟨rfl, true, rfl⟩ dX4_fitsBoard_113 hlocks

set_option maxHeartbeats 8000000 in
set_option maxRecDepth 100000 in
theorem x_well {l : Launch} {D : va_G} {ad : Nat → Nat} {cJ cI cZ : ClassId} {bm : gBM} {pa : gPA} {p0 p1 p2 : gPL} {li : gLI} {wi : gWI} {mt : Nat} {ms : gMS} {ma : gMA} {mp : gMP} {mk : gMK} {mn : gMN} {ou : Nat → Int64} {zj : Nat} (ok_pa_n : pa.2.2.2.2.2.2 ≤ 40) (ok_pa_side : ∀ i, pa.2.2.1 i < 40) (ok_p0_turn : ∀ i, p0.2.2.1 i < 40) (ok_li_keepOuts : li.2.2.2.2.2.2.2.2.1 ≤ 10) (ok_li_nears : li.2.2.2.2.2.2.2.2.2 ≤ 20) (ok_li_one : ∀ i, li.2.2.2.2.2.1 i < 40) (ok_li_other : ∀ i, li.2.2.2.2.2.2.1 i < 40) (hp0 : zj < 40)  : bm_Wx l yX4_standsWell wsX4_standsWell ({ frames := 3, cells := 0, slots := 0, locals := 77 }) D vwCl [(cJ, .long), (cI, .int), (cZ, .boolean)] (WW ad cJ cI cZ bm pa p0 p1 p2 li wi mt ms ma mp mk mn ou) [.ref (ad 0), .int (nI zj)] (fun ws9 r9 => ws9 = (WW ad cJ cI cZ bm pa p0 p1 p2 li wi mt ms ma mp mk mn ou) ∧ ∃ b9 : Bool, r9 = some (.int (bm_b b9))) := by
  intro sz
  refine Met.ofW (cc := cX4_standsWell) (maxL := 2) (ret := (some .boolean)) (by decide) rfl ?_
  intro p e s m args below meth c s₁ B hml hv
  obtain ⟨ha, hsz, hP, hK, hD0⟩ := hv
  have hx := B.exec
  have hb := B.bytes
  have hr := B.returns
  have hts := atoms_spec (ws := wsX4_standsWell) B.pre
  have hown : s.vm.findClass RX4 = some m.cls := findClass_of_methodNamed B.named
  have hlocks := B.notSynchronized
  subst hsz
  have hD := hD0.self (sz := s.heap.size)
  generalize hAe : va_A (WW ad cJ cI cZ bm pa p0 p1 p2 li wi mt ms ma mp mk mn ou) s.heap.size = A at hD ⊢
  have hA : ∀ q : Nat, s.heap.size ≤ q → A q := fun q h => by rw [← hAe]; exact Or.inr h
  have hS : va_S A s.heap s.heap [] := va_S.rf
  have hl := lv_entry ([.ref (ad 0), .int (nI zj)]) (n := 2) (Nat.le_of_ble_eq_true rfl)
  refine W.eq (g2 := entryFrame m ([.ref (ad 0), .int (nI zj)] : List Value).toArray 2) (by rw [ha]) ?_
  rw [lg_entry_eq]
  generalize (lg_sl ([.ref (ad 0), .int (nI zj)]) ++ List.replicate (2 - (lg_sl ([.ref (ad 0), .int (nI zj)])).length) Slot.unset).toArray = ls at hl ⊢
  have hl : lv_has ls 2 [(0, .ref (ad 0)), (1, .int (nI zj))] := hl
  refine lv_aload_n hx hb dX4_standsWell_0 rfl (lv_at hl 0 rfl) ?_
  refine va_get (D := D) (ci := 4) (v := .ref (ad 8)) (C := RX4) (T := TX4) (N := 10) hx hb hts (inT inX4) hown hK hP 0 ww_0 rfl 5 (by decide) (hts (.fieldLink RX4 37 "BoardMoves" "now" "LBoardMoves$Placement;") (List.mem_cons_of_mem _ flX4_37)) (fun _ h9 => h9) rfl dX4_standsWell_1 ?_
  refine va_get (D := D) (ci := 2) (v := .ref (ad 12)) (C := RX2) (T := TX2) (N := 5) hx hb hts (inT inX2) hown hK hP 8 ww_8 rfl 4 (by decide) (hts (.fieldLink RX4 96 "BoardMoves$Placement" "placed" "[Z") (List.mem_cons_of_mem _ flX4_96)) (fun _ h9 => h9) rfl dX4_standsWell_4 ?_
  refine lv_iload_n hx hb dX4_standsWell_7 rfl (lv_at hl 1 rfl) ?_
  refine bm_zald (f := p0.2.2.2) hx hb hK hP 12 2 ww_12 rfl (j := zj) (by omega) (by decide) dX4_standsWell_8 ?_
  refine bm_zb_ne (x := (p0.2.2.2 zj)) (tgt := 14) hx hb dX4_standsWell_9 (by decide) (fun c_1 => ?_) (fun c_1 => ?_)
  · refine lv_aload_n hx hb dX4_standsWell_14 rfl (lv_at hl 0 rfl) ?_
    refine lv_iload_n hx hb dX4_standsWell_15 rfl (lv_at hl 1 rfl) ?_
    refine lv_aload_n hx hb dX4_standsWell_16 rfl (lv_at hl 0 rfl) ?_
    refine va_get (D := D) (ci := 4) (v := .ref (ad 8)) (C := RX4) (T := TX4) (N := 10) hx hb hts (inT inX4) hown hK hP 0 ww_0 rfl 5 (by decide) (hts (.fieldLink RX4 37 "BoardMoves" "now" "LBoardMoves$Placement;") (List.mem_cons_of_mem _ flX4_37)) (fun _ h9 => h9) rfl dX4_standsWell_17 ?_
    refine va_get (D := D) (ci := 2) (v := .ref (ad 9)) (C := RX2) (T := TX2) (N := 5) hx hb hts (inT inX2) hown hK hP 8 ww_8 rfl 1 (by decide) (hts (.fieldLink RX4 112 "BoardMoves$Placement" "x" "[J") (List.mem_cons_of_mem _ flX4_112)) (fun _ h9 => h9) rfl dX4_standsWell_20 ?_
    refine lv_iload_n hx hb dX4_standsWell_23 rfl (lv_at hl 1 rfl) ?_
    refine bm_lald (f := p0.1) hx hb hK hP 9 0 ww_9 rfl (j := zj) (by omega) (by decide) dX4_standsWell_24 ?_
    refine lv_topl (fun t_2 _ => ?_)
    refine lv_aload_n hx hb dX4_standsWell_25 rfl (lv_at hl 0 rfl) ?_
    refine va_get (D := D) (ci := 4) (v := .ref (ad 8)) (C := RX4) (T := TX4) (N := 10) hx hb hts (inT inX4) hown hK hP 0 ww_0 rfl 5 (by decide) (hts (.fieldLink RX4 37 "BoardMoves" "now" "LBoardMoves$Placement;") (List.mem_cons_of_mem _ flX4_37)) (fun _ h9 => h9) rfl dX4_standsWell_26 ?_
    refine va_get (D := D) (ci := 2) (v := .ref (ad 10)) (C := RX2) (T := TX2) (N := 5) hx hb hts (inT inX2) hown hK hP 8 ww_8 rfl 2 (by decide) (hts (.fieldLink RX4 116 "BoardMoves$Placement" "y" "[J") (List.mem_cons_of_mem _ flX4_116)) (fun _ h9 => h9) rfl dX4_standsWell_29 ?_
    refine lv_iload_n hx hb dX4_standsWell_32 rfl (lv_at hl 1 rfl) ?_
    refine bm_lald (f := p0.2.1) hx hb hK hP 10 0 ww_10 rfl (j := zj) (by omega) (by decide) dX4_standsWell_33 ?_
    refine lv_topl (fun t_3 _ => ?_)
    refine lv_aload_n hx hb dX4_standsWell_34 rfl (lv_at hl 0 rfl) ?_
    refine va_get (D := D) (ci := 4) (v := .ref (ad 8)) (C := RX4) (T := TX4) (N := 10) hx hb hts (inT inX4) hown hK hP 0 ww_0 rfl 5 (by decide) (hts (.fieldLink RX4 37 "BoardMoves" "now" "LBoardMoves$Placement;") (List.mem_cons_of_mem _ flX4_37)) (fun _ h9 => h9) rfl dX4_standsWell_35 ?_
    refine va_get (D := D) (ci := 2) (v := .ref (ad 11)) (C := RX2) (T := TX2) (N := 5) hx hb hts (inT inX2) hown hK hP 8 ww_8 rfl 3 (by decide) (hts (.fieldLink RX4 100 "BoardMoves$Placement" "turn" "[I") (List.mem_cons_of_mem _ flX4_100)) (fun _ h9 => h9) rfl dX4_standsWell_38 ?_
    refine lv_iload_n hx hb dX4_standsWell_41 rfl (lv_at hl 1 rfl) ?_
    refine bm_nald (f := p0.2.2.1) hx hb hK hP 11 1 ww_11 rfl (j := zj) (by omega) (by decide) dX4_standsWell_42 ?_
    refine bm_xcallV (As := [.int (nI zj), .long t_2, .long t_3, .int (nI (p0.2.2.1 zj))]) (rest := []) ⟨hx, hb, hml, hown, hts⟩ (x_fits  (zj := zj) (z1 := t_2) (z2 := t_3) (zt := p0.2.2.1 zj)  (by omega) (ok_p0_turn _)) (cwV 4 hts gvX4_92 rfl rfl rfl hvX4_fitsBoard ⟨Nat.le_of_ble_eq_true rfl, Nat.le_of_ble_eq_true rfl⟩) hK hP hD hS hA 0 4 rfl ww_0 rfl hl.1 rfl (Nat.le_of_ble_eq_true rfl) dX4_standsWell_43 ⟨Nat.le_of_ble_eq_true rfl, Nat.le_of_ble_eq_true rfl⟩ (fun ws_4 r_5 h_6 H locs hP hD hS => ?_)
    obtain ⟨rfl, v_7, rfl⟩ := h_6
    have hP : va_P D vwCl (WW ad cJ cI cZ bm pa p0 p1 p2 li wi mt ms ma mp mk mn ou) H := hP
    have hD : va_D A (WW ad cJ cI cZ bm pa p0 p1 p2 li wi mt ms ma mp mk mn ou) := hD
    refine bm_zb_eq (x := v_7) (tgt := 96) hx hb dX4_standsWell_46 (by decide) (fun c_8 => ?_) (fun c_8 => ?_)
    · refine lv_iconst (v := bm_b false) hx hb dX4_standsWell_96 (by decide) ?_
      exact bm_zretX (v := false) hx hb hr hP hD hK hS ⟨rfl, false, rfl⟩ dX4_standsWell_97 hlocks
    · refine lv_aload_n hx hb dX4_standsWell_49 rfl (lv_at hl 0 rfl) ?_
      refine va_get (D := D) (ci := 4) (v := .ref (ad 8)) (C := RX4) (T := TX4) (N := 10) hx hb hts (inT inX4) hown hK hP 0 ww_0 rfl 5 (by decide) (hts (.fieldLink RX4 37 "BoardMoves" "now" "LBoardMoves$Placement;") (List.mem_cons_of_mem _ flX4_37)) (fun _ h9 => h9) rfl dX4_standsWell_50 ?_
      refine lv_iload_n hx hb dX4_standsWell_53 rfl (lv_at hl 1 rfl) ?_
      refine lv_iconst (v := nI 0) hx hb dX4_standsWell_54 (by decide) ?_
      refine bm_xcallV (As := [.int (nI zj), .int (nI 0)]) (rest := []) ⟨hx, hb, hml, hown, hts⟩ (x_over  (zj := zj) (zf := 0) ok_pa_n ok_pa_side ok_p0_turn (by omega) (by omega)) (cwV 2 hts gvX4_240 rfl rfl rfl hvX2_overlapped ⟨Nat.le_of_ble_eq_true rfl, Nat.le_of_ble_eq_true rfl⟩) hK hP hD hS hA 8 2 rfl ww_8 rfl hl.1 rfl (Nat.le_of_ble_eq_true rfl) dX4_standsWell_55 ⟨Nat.le_of_ble_eq_true rfl, Nat.le_of_ble_eq_true rfl⟩ (fun ws_9 r_10 h_11 H locs hP hD hS => ?_)
      obtain ⟨rfl, ho_14⟩ := h_11
      have hP : va_P D vwCl (WW ad cJ cI cZ bm pa p0 p1 p2 li wi mt ms ma mp mk mn ou) H := hP
      have hD : va_D A (WW ad cJ cI cZ bm pa p0 p1 p2 li wi mt ms ma mp mk mn ou) := hD
      rcases ho_14 with rfl | ⟨k_12, hk_13, rfl⟩
      · refine lv_iconst (v := -1) hx hb dX4_standsWell_58 (by decide) ?_
        refine lv_icmp_ne (x := (-1)) (y := -1) (tgt := 96) hx hb dX4_standsWell_59 (by decide) (fun c_15 => ?_) (fun c_15 => ?_)
        · exact absurd rfl c_15
        · refine lv_aload_n hx hb dX4_standsWell_62 rfl (lv_at hl 0 rfl) ?_
          refine va_get (D := D) (ci := 4) (v := .ref (ad 23)) (C := RX4) (T := TX4) (N := 10) hx hb hts (inT inX4) hown hK hP 0 ww_0 rfl 3 (by decide) (hts (.fieldLink RX4 23 "BoardMoves" "limits" "LBoardMoves$Limits;") (List.mem_cons_of_mem _ flX4_23)) (fun _ h9 => h9) rfl dX4_standsWell_63 ?_
          refine lv_aload_n hx hb dX4_standsWell_66 rfl (lv_at hl 0 rfl) ?_
          refine va_get (D := D) (ci := 4) (v := .ref (ad 8)) (C := RX4) (T := TX4) (N := 10) hx hb hts (inT inX4) hown hK hP 0 ww_0 rfl 5 (by decide) (hts (.fieldLink RX4 37 "BoardMoves" "now" "LBoardMoves$Placement;") (List.mem_cons_of_mem _ flX4_37)) (fun _ h9 => h9) rfl dX4_standsWell_67 ?_
          refine lv_iload_n hx hb dX4_standsWell_70 rfl (lv_at hl 1 rfl) ?_
          refine bm_xcallV (As := [.ref (ad 8), .int (nI zj)]) (rest := []) ⟨hx, hb, hml, hown, hts⟩ (x_low  (zj := zj) ok_li_keepOuts ok_p0_turn (by omega)) (cwV 2 hts gvX4_243 rfl rfl rfl hvX0_isLowEnough ⟨Nat.le_of_ble_eq_true rfl, Nat.le_of_ble_eq_true rfl⟩) hK hP hD hS hA 23 0 rfl ww_23 rfl hl.1 rfl (Nat.le_of_ble_eq_true rfl) dX4_standsWell_71 ⟨Nat.le_of_ble_eq_true rfl, Nat.le_of_ble_eq_true rfl⟩ (fun ws_16 r_17 h_18 H locs hP hD hS => ?_)
          obtain ⟨rfl, v_19, rfl⟩ := h_18
          have hP : va_P D vwCl (WW ad cJ cI cZ bm pa p0 p1 p2 li wi mt ms ma mp mk mn ou) H := hP
          have hD : va_D A (WW ad cJ cI cZ bm pa p0 p1 p2 li wi mt ms ma mp mk mn ou) := hD
          refine bm_zb_eq (x := v_19) (tgt := 96) hx hb dX4_standsWell_74 (by decide) (fun c_20 => ?_) (fun c_20 => ?_)
          · refine lv_iconst (v := bm_b false) hx hb dX4_standsWell_96 (by decide) ?_
            exact bm_zretX (v := false) hx hb hr hP hD hK hS ⟨rfl, false, rfl⟩ dX4_standsWell_97 hlocks
          · refine lv_aload_n hx hb dX4_standsWell_77 rfl (lv_at hl 0 rfl) ?_
            refine va_get (D := D) (ci := 4) (v := .ref (ad 23)) (C := RX4) (T := TX4) (N := 10) hx hb hts (inT inX4) hown hK hP 0 ww_0 rfl 3 (by decide) (hts (.fieldLink RX4 23 "BoardMoves" "limits" "LBoardMoves$Limits;") (List.mem_cons_of_mem _ flX4_23)) (fun _ h9 => h9) rfl dX4_standsWell_78 ?_
            refine lv_aload_n hx hb dX4_standsWell_81 rfl (lv_at hl 0 rfl) ?_
            refine va_get (D := D) (ci := 4) (v := .ref (ad 8)) (C := RX4) (T := TX4) (N := 10) hx hb hts (inT inX4) hown hK hP 0 ww_0 rfl 5 (by decide) (hts (.fieldLink RX4 37 "BoardMoves" "now" "LBoardMoves$Placement;") (List.mem_cons_of_mem _ flX4_37)) (fun _ h9 => h9) rfl dX4_standsWell_82 ?_
            refine lv_iload_n hx hb dX4_standsWell_85 rfl (lv_at hl 1 rfl) ?_
            refine bm_xcallV (As := [.ref (ad 8), .int (nI zj)]) (rest := []) ⟨hx, hb, hml, hown, hts⟩ (x_nears  (zj := zj) ok_li_nears ok_li_one ok_li_other ok_p0_turn (by omega)) (cwV 2 hts gvX4_247 rfl rfl rfl hvX0_isNearEnough ⟨Nat.le_of_ble_eq_true rfl, Nat.le_of_ble_eq_true rfl⟩) hK hP hD hS hA 23 0 rfl ww_23 rfl hl.1 rfl (Nat.le_of_ble_eq_true rfl) dX4_standsWell_86 ⟨Nat.le_of_ble_eq_true rfl, Nat.le_of_ble_eq_true rfl⟩ (fun ws_21 r_22 h_23 H locs hP hD hS => ?_)
            obtain ⟨rfl, v_24, rfl⟩ := h_23
            have hP : va_P D vwCl (WW ad cJ cI cZ bm pa p0 p1 p2 li wi mt ms ma mp mk mn ou) H := hP
            have hD : va_D A (WW ad cJ cI cZ bm pa p0 p1 p2 li wi mt ms ma mp mk mn ou) := hD
            refine bm_zb_eq (x := v_24) (tgt := 96) hx hb dX4_standsWell_89 (by decide) (fun c_25 => ?_) (fun c_25 => ?_)
            · refine lv_iconst (v := bm_b false) hx hb dX4_standsWell_96 (by decide) ?_
              exact bm_zretX (v := false) hx hb hr hP hD hK hS ⟨rfl, false, rfl⟩ dX4_standsWell_97 hlocks
            · refine lv_iconst (v := bm_b true) hx hb dX4_standsWell_92 (by decide) ?_
              refine lv_goto (tgt := 97) hx hb dX4_standsWell_93 (by decide) ?_
              exact bm_zretX (v := true) hx hb hr hP hD hK hS ⟨rfl, true, rfl⟩ dX4_standsWell_97 hlocks
      · refine lv_iconst (v := -1) hx hb dX4_standsWell_58 (by decide) ?_
        refine lv_icmp_ne (x := (nI k_12)) (y := -1) (tgt := 96) hx hb dX4_standsWell_59 (by decide) (fun c_26 => ?_) (fun c_26 => ?_)
        · refine lv_iconst (v := bm_b false) hx hb dX4_standsWell_96 (by decide) ?_
          exact bm_zretX (v := false) hx hb hr hP hD hK hS ⟨rfl, false, rfl⟩ dX4_standsWell_97 hlocks
        · exact absurd c_26 (bm_nm1 (by omega))
  · refine lv_iconst (v := bm_b true) hx hb dX4_standsWell_12 (by decide) ?_
    exact bm_zretX (v := true) hx hb hr hP hD hK hS ⟨rfl, true, rfl⟩ dX4_standsWell_13 hlocks

set_option maxHeartbeats 8000000 in
set_option maxRecDepth 100000 in
theorem x_all {l : Launch} {D : va_G} {ad : Nat → Nat} {cJ cI cZ : ClassId} {bm : gBM} {pa : gPA} {p0 p1 p2 : gPL} {li : gLI} {wi : gWI} {mt : Nat} {ms : gMS} {ma : gMA} {mp : gMP} {mk : gMK} {mn : gMN} {ou : Nat → Int64}  (ok_pa_n : pa.2.2.2.2.2.2 ≤ 40) (ok_pa_side : ∀ i, pa.2.2.1 i < 40) (ok_p0_turn : ∀ i, p0.2.2.1 i < 40) (ok_li_keepOuts : li.2.2.2.2.2.2.2.2.1 ≤ 10) (ok_li_nears : li.2.2.2.2.2.2.2.2.2 ≤ 20) (ok_li_one : ∀ i, li.2.2.2.2.2.1 i < 40) (ok_li_other : ∀ i, li.2.2.2.2.2.2.1 i < 40)   : bm_Wx l yX4_allStandWell wsX4_allStandWell ({ frames := 4, cells := 0, slots := 0, locals := 98 }) D vwCl [(cJ, .long), (cI, .int), (cZ, .boolean)] (WW ad cJ cI cZ bm pa p0 p1 p2 li wi mt ms ma mp mk mn ou) [.ref (ad 0)] (fun ws9 r9 => ws9 = (WW ad cJ cI cZ bm pa p0 p1 p2 li wi mt ms ma mp mk mn ou) ∧ ∃ b9 : Bool, r9 = some (.int (bm_b b9))) := by
  intro sz
  refine Met.ofW (cc := cX4_allStandWell) (maxL := 2) (ret := (some .boolean)) (by decide) rfl ?_
  intro p e s m args below meth c s₁ B hml hv
  obtain ⟨ha, hsz, hP, hK, hD0⟩ := hv
  have hx := B.exec
  have hb := B.bytes
  have hr := B.returns
  have hts := atoms_spec (ws := wsX4_allStandWell) B.pre
  have hown : s.vm.findClass RX4 = some m.cls := findClass_of_methodNamed B.named
  have hlocks := B.notSynchronized
  subst hsz
  have hD := hD0.self (sz := s.heap.size)
  generalize hAe : va_A (WW ad cJ cI cZ bm pa p0 p1 p2 li wi mt ms ma mp mk mn ou) s.heap.size = A at hD ⊢
  have hA : ∀ q : Nat, s.heap.size ≤ q → A q := fun q h => by rw [← hAe]; exact Or.inr h
  have hS : va_S A s.heap s.heap [] := va_S.rf
  have hl := lv_entry ([.ref (ad 0)]) (n := 2) (Nat.le_of_ble_eq_true rfl)
  refine W.eq (g2 := entryFrame m ([.ref (ad 0)] : List Value).toArray 2) (by rw [ha]) ?_
  rw [lg_entry_eq]
  generalize (lg_sl ([.ref (ad 0)]) ++ List.replicate (2 - (lg_sl ([.ref (ad 0)])).length) Slot.unset).toArray = ls at hl ⊢
  have hl : lv_has ls 2 [(0, .ref (ad 0))] := hl
  refine lv_iconst (v := nI 0) hx hb dX4_allStandWell_0 (by decide) ?_
  refine lv_istore_n (lv' := [(1, .int (nI 0)), (0, .ref (ad 0))]) hx hb dX4_allStandWell_1 rfl hl (by decide) rfl (fun ls hl => ?_)
  have lp_1 : ∀ (k_3 : Nat) (i_2 : Nat) , i_2 ≤ pa.2.2.2.2.2.2 → pa.2.2.2.2.2.2 < i_2 + k_3 → ∀ (H : Heap) (locs : List Loc), va_P D vwCl (WW ad cJ cI cZ bm pa p0 p1 p2 li wi mt ms ma mp mk mn ou) H → va_D A (WW ad cJ cI cZ bm pa p0 p1 p2 li wi mt ms ma mp mk mn ou) → va_S A s.heap H locs → ∀ (ls : Array Slot), lv_has ls 2 [(1, .int (nI i_2)), (0, .ref (ad 0))] → W p l e (headSpec wsX4_allStandWell ({ frames := 4, cells := 0, slots := 0, locals := 98 })).room s m args below meth c H locs 0 0 (MQ below (bm_Wxq D vwCl [(cJ, .long), (cI, .int), (cZ, .boolean)] (fun ws9 r9 => ws9 = (WW ad cJ cI cZ bm pa p0 p1 p2 li wi mt ms ma mp mk mn ou) ∧ ∃ b9 : Bool, r9 = some (.int (bm_b b9))) A) args s 0 0 A) (F0 m 2 ls []) := by
    intro k_3
    induction k_3 with
    | zero => intro i_2 hi_5 hk_6; exfalso; omega
    | succ k_3 ih_4 =>
      intro i_2 hi_5 hk_6  H locs hP hD hS ls hl
      refine lv_iload_n hx hb dX4_allStandWell_2 rfl (lv_at hl 0 rfl) ?_
      refine lv_aload_n hx hb dX4_allStandWell_3 rfl (lv_at hl 1 rfl) ?_
      refine va_get (D := D) (ci := 4) (v := .ref (ad 1)) (C := RX4) (T := TX4) (N := 10) hx hb hts (inT inX4) hown hK hP 0 ww_0 rfl 2 (by decide) (hts (.fieldLink RX4 12 "BoardMoves" "parts" "LBoardMoves$Parts;") (List.mem_cons_of_mem _ flX4_12)) (fun _ h9 => h9) rfl dX4_allStandWell_4 ?_
      refine va_get (D := D) (ci := 1) (v := .int (nI pa.2.2.2.2.2.2)) (C := RX1) (T := TX1) (N := 7) hx hb hts (inT inX1) hown hK hP 1 ww_1 rfl 6 (by decide) (hts (.fieldLink RX4 197 "BoardMoves$Parts" "count" "I") (List.mem_cons_of_mem _ flX4_197)) (fun _ h9 => h9) rfl dX4_allStandWell_7 ?_
      refine bm_ni_ge (x := i_2) (y := pa.2.2.2.2.2.2) (tgt := 29) hx hb (by omega) (by omega) dX4_allStandWell_10 (by decide) (fun c_7 => ?_) (fun c_7 => ?_)
      · refine lv_iconst (v := bm_b true) hx hb dX4_allStandWell_29 (by decide) ?_
        exact bm_zretX (v := true) hx hb hr hP hD hK hS ⟨rfl, true, rfl⟩ dX4_allStandWell_30 hlocks
      · refine lv_aload_n hx hb dX4_allStandWell_13 rfl (lv_at hl 1 rfl) ?_
        refine lv_iload_n hx hb dX4_allStandWell_14 rfl (lv_at hl 0 rfl) ?_
        refine bm_xcallV (As := [.int (nI i_2)]) (rest := []) ⟨hx, hb, hml, hown, hts⟩ (x_well  (zj := i_2) ok_pa_n ok_pa_side ok_p0_turn ok_li_keepOuts ok_li_nears ok_li_one ok_li_other (by omega)) (cwV 1 hts gvX4_220 rfl rfl rfl hvX4_standsWell ⟨Nat.le_of_ble_eq_true rfl, Nat.le_of_ble_eq_true rfl⟩) hK hP hD hS hA 0 4 rfl ww_0 rfl hl.1 rfl (Nat.le_of_ble_eq_true rfl) dX4_allStandWell_15 ⟨Nat.le_of_ble_eq_true rfl, Nat.le_of_ble_eq_true rfl⟩ (fun ws_8 r_9 h_10 H locs hP hD hS => ?_)
        obtain ⟨rfl, v_11, rfl⟩ := h_10
        have hP : va_P D vwCl (WW ad cJ cI cZ bm pa p0 p1 p2 li wi mt ms ma mp mk mn ou) H := hP
        have hD : va_D A (WW ad cJ cI cZ bm pa p0 p1 p2 li wi mt ms ma mp mk mn ou) := hD
        refine bm_zb_ne (x := v_11) (tgt := 23) hx hb dX4_allStandWell_18 (by decide) (fun c_12 => ?_) (fun c_12 => ?_)
        · refine lv_iinc (v := (nI (i_2 + 1))) (lv' := [(1, .int (nI (i_2 + 1))), (0, .ref (ad 0))]) hx hb dX4_allStandWell_23 hl (k := 0) rfl (nI_1 i_2) (by decide) rfl (fun ls hl => ?_)
          refine lv_goto (tgt := 2) hx hb dX4_allStandWell_26 (by decide) ?_
          exact ih_4 (i_2 + 1) (by omega) (by omega)  _ _ hP hD hS _ (lv_sub hl [0, 1] rfl)
        · refine lv_iconst (v := bm_b false) hx hb dX4_allStandWell_21 (by decide) ?_
          exact bm_zretX (v := false) hx hb hr hP hD hK hS ⟨rfl, false, rfl⟩ dX4_allStandWell_22 hlocks
  exact lp_1 (pa.2.2.2.2.2.2 + 1) 0 (by omega) (by omega)  _ _ hP hD hS _ (lv_sub hl [0, 1] rfl)

set_option maxHeartbeats 8000000 in
set_option maxRecDepth 100000 in
theorem x_back {l : Launch} {D : va_G} {ad : Nat → Nat} {cJ cI cZ : ClassId} {bm : gBM} {pa : gPA} {p0 p1 p2 : gPL} {li : gLI} {wi : gWI} {mt : Nat} {ms : gMS} {ma : gMA} {mp : gMP} {mk : gMK} {mn : gMN} {ou : Nat → Int64}  (ok_pa_n : pa.2.2.2.2.2.2 ≤ 40) (ok_p0_turn : ∀ i, p0.2.2.1 i < 40) (ok_p1_turn : ∀ i, p1.2.2.1 i < 40)   : bm_Wx l yX4_takeBack wsX4_takeBack ({ frames := 1, cells := 0, slots := 0, locals := 22 }) D vwCl [(cJ, .long), (cI, .int), (cZ, .boolean)] (WW ad cJ cI cZ bm pa p0 p1 p2 li wi mt ms ma mp mk mn ou) [.ref (ad 0)] (fun ws9 r9 => ∃ (e0 : Nat → Int64) (e1 : Nat → Int64) (e2 : Nat → Nat) (e3 : Nat → Bool) , (∀ i, e2 i < 40) ∧ ws9 = (WW ad cJ cI cZ bm pa (e0, e1, e2, e3) p1 p2 li wi mt ms ma mp mk mn ou) ∧ ∃ b9 : Bool, r9 = some (.int (bm_b b9))) := by
  intro sz
  refine Met.ofW (cc := cX4_takeBack) (maxL := 1) (ret := (some .boolean)) (by decide) rfl ?_
  intro p e s m args below meth c s₁ B hml hv
  obtain ⟨ha, hsz, hP, hK, hD0⟩ := hv
  have hx := B.exec
  have hb := B.bytes
  have hr := B.returns
  have hts := atoms_spec (ws := wsX4_takeBack) B.pre
  have hown : s.vm.findClass RX4 = some m.cls := findClass_of_methodNamed B.named
  have hlocks := B.notSynchronized
  subst hsz
  have hD := hD0.self (sz := s.heap.size)
  generalize hAe : va_A (WW ad cJ cI cZ bm pa p0 p1 p2 li wi mt ms ma mp mk mn ou) s.heap.size = A at hD ⊢
  have hA : ∀ q : Nat, s.heap.size ≤ q → A q := fun q h => by rw [← hAe]; exact Or.inr h
  have hS : va_S A s.heap s.heap [] := va_S.rf
  have hl := lv_entry ([.ref (ad 0)]) (n := 1) (Nat.le_of_ble_eq_true rfl)
  refine W.eq (g2 := entryFrame m ([.ref (ad 0)] : List Value).toArray 1) (by rw [ha]) ?_
  rw [lg_entry_eq]
  generalize (lg_sl ([.ref (ad 0)]) ++ List.replicate (1 - (lg_sl ([.ref (ad 0)])).length) Slot.unset).toArray = ls at hl ⊢
  have hl : lv_has ls 1 [(0, .ref (ad 0))] := hl
  refine lv_aload_n hx hb dX4_takeBack_0 rfl (lv_at hl 0 rfl) ?_
  refine va_get (D := D) (ci := 4) (v := .ref (ad 8)) (C := RX4) (T := TX4) (N := 10) hx hb hts (inT inX4) hown hK hP 0 ww_0 rfl 5 (by decide) (hts (.fieldLink RX4 37 "BoardMoves" "now" "LBoardMoves$Placement;") (List.mem_cons_of_mem _ flX4_37)) (fun _ h9 => h9) rfl dX4_takeBack_1 ?_
  refine lv_aload_n hx hb dX4_takeBack_4 rfl (lv_at hl 0 rfl) ?_
  refine va_get (D := D) (ci := 4) (v := .ref (ad 13)) (C := RX4) (T := TX4) (N := 10) hx hb hts (inT inX4) hown hK hP 0 ww_0 rfl 6 (by decide) (hts (.fieldLink RX4 41 "BoardMoves" "before" "LBoardMoves$Placement;") (List.mem_cons_of_mem _ flX4_41)) (fun _ h9 => h9) rfl dX4_takeBack_5 ?_
  refine bm_xcallV (As := [.ref (ad 13)]) (rest := []) ⟨hx, hb, hml, hown, hts⟩ (x_cp01   ok_pa_n ok_p0_turn ok_p1_turn ) (cwV 1 hts gvX4_108 rfl rfl rfl hvX2_copyFrom ⟨Nat.le_of_ble_eq_true rfl, Nat.le_of_ble_eq_true rfl⟩) hK hP hD hS hA 8 2 rfl ww_8 rfl hl.1 rfl (Nat.le_of_ble_eq_true rfl) dX4_takeBack_8 ⟨Nat.le_of_ble_eq_true rfl, Nat.le_of_ble_eq_true rfl⟩ (fun ws_1 r_2 h_3 H locs hP hD hS => ?_)
  obtain ⟨g_4, g_5, g_6, g_8, ok_7, rfl, rfl⟩ := h_3
  have hP : va_P D vwCl (WW ad cJ cI cZ bm pa (g_4, g_5, g_6, g_8) p1 p2 li wi mt ms ma mp mk mn ou) H := hP
  have hD : va_D A (WW ad cJ cI cZ bm pa (g_4, g_5, g_6, g_8) p1 p2 li wi mt ms ma mp mk mn ou) := hD
  refine lv_iconst (v := bm_b false) hx hb dX4_takeBack_11 (by decide) ?_
  exact bm_zretX (v := false) hx hb hr hP hD hK hS ⟨g_4, g_5, g_6, g_8, ok_7, rfl, false, rfl⟩ dX4_takeBack_12 hlocks

set_option maxHeartbeats 8000000 in
set_option maxRecDepth 100000 in
theorem x_keep {l : Launch} {D : va_G} {ad : Nat → Nat} {cJ cI cZ : ClassId} {bm : gBM} {pa : gPA} {p0 p1 p2 : gPL} {li : gLI} {wi : gWI} {mt : Nat} {ms : gMS} {ma : gMA} {mp : gMP} {mk : gMK} {mn : gMN} {ou : Nat → Int64} {z1 : Int64} (ok_pa_n : pa.2.2.2.2.2.2 ≤ 40) (ok_pa_side : ∀ i, pa.2.2.1 i < 40) (ok_p0_turn : ∀ i, p0.2.2.1 i < 40) (ok_li_keepOuts : li.2.2.2.2.2.2.2.2.1 ≤ 10) (ok_li_nears : li.2.2.2.2.2.2.2.2.2 ≤ 20) (ok_li_one : ∀ i, li.2.2.2.2.2.1 i < 40) (ok_li_other : ∀ i, li.2.2.2.2.2.2.1 i < 40) (ok_p1_turn : ∀ i, p1.2.2.1 i < 40) (ok_wi_nets : wi.2.2.2.2.2.2.2.2.2.1 ≤ 40) (ok_wi_pins : wi.2.2.2.2.2.2.2.2.2.2 ≤ 120) (ok_wi_netOf : ∀ i, wi.1 i < 40) (ok_wi_partOf : ∀ i, wi.2.1 i < 40)   : bm_Wx l yX4_keepChange wsX4_keepChange ({ frames := 4, cells := 0, slots := 0, locals := 98 }) D vwCl [(cJ, .long), (cI, .int), (cZ, .boolean)] (WW ad cJ cI cZ bm pa p0 p1 p2 li wi mt ms ma mp mk mn ou) [.ref (ad 0), .long z1] (fun ws9 r9 => ∃ (e0 : Nat → Int64) (e1 : Nat → Int64) (e2 : Nat → Nat) (e3 : Nat → Bool) (e4 : Nat → Bool) (e5 : Nat → Int64) (e6 : Nat → Int64) (e7 : Nat → Int64) (e8 : Nat → Int64) (e9 : Int64) , (∀ i, e2 i < 40) ∧ ws9 = (WW ad cJ cI cZ (bm.1, bm.2.1, bm.2.2.1, e9) pa (e0, e1, e2, e3) p1 p2 li (wi.1, wi.2.1, wi.2.2.1, wi.2.2.2.1, e4, e5, e6, e7, e8, wi.2.2.2.2.2.2.2.2.2.1, wi.2.2.2.2.2.2.2.2.2.2) mt ms ma mp mk mn ou) ∧ ∃ b9 : Bool, r9 = some (.int (bm_b b9))) := by
  intro sz
  refine Met.ofW (cc := cX4_keepChange) (maxL := 5) (ret := (some .boolean)) (by decide) rfl ?_
  intro p e s m args below meth c s₁ B hml hv
  obtain ⟨ha, hsz, hP, hK, hD0⟩ := hv
  have hx := B.exec
  have hb := B.bytes
  have hr := B.returns
  have hts := atoms_spec (ws := wsX4_keepChange) B.pre
  have hown : s.vm.findClass RX4 = some m.cls := findClass_of_methodNamed B.named
  have hlocks := B.notSynchronized
  subst hsz
  have hD := hD0.self (sz := s.heap.size)
  generalize hAe : va_A (WW ad cJ cI cZ bm pa p0 p1 p2 li wi mt ms ma mp mk mn ou) s.heap.size = A at hD ⊢
  have hA : ∀ q : Nat, s.heap.size ≤ q → A q := fun q h => by rw [← hAe]; exact Or.inr h
  have hS : va_S A s.heap s.heap [] := va_S.rf
  have hl := lv_entry ([.ref (ad 0), .long z1]) (n := 5) (Nat.le_of_ble_eq_true rfl)
  refine W.eq (g2 := entryFrame m ([.ref (ad 0), .long z1] : List Value).toArray 5) (by rw [ha]) ?_
  rw [lg_entry_eq]
  generalize (lg_sl ([.ref (ad 0), .long z1]) ++ List.replicate (5 - (lg_sl ([.ref (ad 0), .long z1])).length) Slot.unset).toArray = ls at hl ⊢
  have hl : lv_has ls 5 [(0, .ref (ad 0)), (1, .long z1)] := hl
  refine lv_iconst (v := nI 0) hx hb dX4_keepChange_0 (by decide) ?_
  refine lv_istore_n (lv' := [(3, .int (nI 0)), (0, .ref (ad 0)), (1, .long z1)]) hx hb dX4_keepChange_1 rfl hl (by decide) rfl (fun ls hl => ?_)
  have lp_1 : ∀ (k_3 : Nat) (i_2 : Nat) , i_2 ≤ pa.2.2.2.2.2.2 → pa.2.2.2.2.2.2 < i_2 + k_3 → ∀ (H : Heap) (locs : List Loc), va_P D vwCl (WW ad cJ cI cZ bm pa p0 p1 p2 li wi mt ms ma mp mk mn ou) H → va_D A (WW ad cJ cI cZ bm pa p0 p1 p2 li wi mt ms ma mp mk mn ou) → va_S A s.heap H locs → ∀ (ls : Array Slot), lv_has ls 5 [(3, .int (nI i_2)), (0, .ref (ad 0)), (1, .long z1)] → W p l e (headSpec wsX4_keepChange ({ frames := 4, cells := 0, slots := 0, locals := 98 })).room s m args below meth c H locs 0 0 (MQ below (bm_Wxq D vwCl [(cJ, .long), (cI, .int), (cZ, .boolean)] (fun ws9 r9 => ∃ (e0 : Nat → Int64) (e1 : Nat → Int64) (e2 : Nat → Nat) (e3 : Nat → Bool) (e4 : Nat → Bool) (e5 : Nat → Int64) (e6 : Nat → Int64) (e7 : Nat → Int64) (e8 : Nat → Int64) (e9 : Int64) , (∀ i, e2 i < 40) ∧ ws9 = (WW ad cJ cI cZ (bm.1, bm.2.1, bm.2.2.1, e9) pa (e0, e1, e2, e3) p1 p2 li (wi.1, wi.2.1, wi.2.2.1, wi.2.2.2.1, e4, e5, e6, e7, e8, wi.2.2.2.2.2.2.2.2.2.1, wi.2.2.2.2.2.2.2.2.2.2) mt ms ma mp mk mn ou) ∧ ∃ b9 : Bool, r9 = some (.int (bm_b b9))) A) args s 0 0 A) (F0 m 2 ls []) := by
    intro k_3
    induction k_3 with
    | zero => intro i_2 hi_5 hk_6; exfalso; omega
    | succ k_3 ih_4 =>
      intro i_2 hi_5 hk_6  H locs hP hD hS ls hl
      refine lv_iload_n hx hb dX4_keepChange_2 rfl (lv_at hl 0 rfl) ?_
      refine lv_aload_n hx hb dX4_keepChange_3 rfl (lv_at hl 1 rfl) ?_
      refine va_get (D := D) (ci := 4) (v := .ref (ad 1)) (C := RX4) (T := TX4) (N := 10) hx hb hts (inT inX4) hown hK hP 0 ww_0 rfl 2 (by decide) (hts (.fieldLink RX4 12 "BoardMoves" "parts" "LBoardMoves$Parts;") (List.mem_cons_of_mem _ flX4_12)) (fun _ h9 => h9) rfl dX4_keepChange_4 ?_
      refine va_get (D := D) (ci := 1) (v := .int (nI pa.2.2.2.2.2.2)) (C := RX1) (T := TX1) (N := 7) hx hb hts (inT inX1) hown hK hP 1 ww_1 rfl 6 (by decide) (hts (.fieldLink RX4 197 "BoardMoves$Parts" "count" "I") (List.mem_cons_of_mem _ flX4_197)) (fun _ h9 => h9) rfl dX4_keepChange_7 ?_
      refine bm_ni_ge (x := i_2) (y := pa.2.2.2.2.2.2) (tgt := 83) hx hb (by omega) (by omega) dX4_keepChange_10 (by decide) (fun c_7 => ?_) (fun c_7 => ?_)
      · refine lv_aload_n hx hb dX4_keepChange_83 rfl (lv_at hl 1 rfl) ?_
        refine va_get (D := D) (ci := 4) (v := .ref (ad 32)) (C := RX4) (T := TX4) (N := 10) hx hb hts (inT inX4) hown hK hP 0 ww_0 rfl 4 (by decide) (hts (.fieldLink RX4 30 "BoardMoves" "wiring" "LBoardMoves$Wiring;") (List.mem_cons_of_mem _ flX4_30)) (fun _ h9 => h9) rfl dX4_keepChange_84 ?_
        refine lv_aload_n hx hb dX4_keepChange_87 rfl (lv_at hl 1 rfl) ?_
        refine va_get (D := D) (ci := 4) (v := .ref (ad 8)) (C := RX4) (T := TX4) (N := 10) hx hb hts (inT inX4) hown hK hP 0 ww_0 rfl 5 (by decide) (hts (.fieldLink RX4 37 "BoardMoves" "now" "LBoardMoves$Placement;") (List.mem_cons_of_mem _ flX4_37)) (fun _ h9 => h9) rfl dX4_keepChange_88 ?_
        refine bm_xcallV (As := [.ref (ad 8)]) (rest := []) ⟨hx, hb, hml, hown, hts⟩ (x_meas   ok_wi_nets ok_wi_pins ok_wi_netOf ok_wi_partOf ok_p0_turn ) (cwV 1 hts gvX4_160 rfl rfl rfl hvX3_measure ⟨Nat.le_of_ble_eq_true rfl, Nat.le_of_ble_eq_true rfl⟩) hK hP hD hS hA 32 3 rfl ww_32 rfl hl.1 rfl (Nat.le_of_ble_eq_true rfl) dX4_keepChange_91 ⟨Nat.le_of_ble_eq_true rfl, Nat.le_of_ble_eq_true rfl⟩ (fun ws_8 r_9 h_10 H locs hP hD hS => ?_)
        obtain ⟨g_11, g_12, g_13, g_14, g_15, rfl, v_16, rfl⟩ := h_10
        have hP : va_P D vwCl (WW ad cJ cI cZ bm pa p0 p1 p2 li (wi.1, wi.2.1, wi.2.2.1, wi.2.2.2.1, g_11, g_12, g_13, g_14, g_15, wi.2.2.2.2.2.2.2.2.2.1, wi.2.2.2.2.2.2.2.2.2.2) mt ms ma mp mk mn ou) H := hP
        have hD : va_D A (WW ad cJ cI cZ bm pa p0 p1 p2 li (wi.1, wi.2.1, wi.2.2.1, wi.2.2.2.1, g_11, g_12, g_13, g_14, g_15, wi.2.2.2.2.2.2.2.2.2.1, wi.2.2.2.2.2.2.2.2.2.2) mt ms ma mp mk mn ou) := hD
        refine lv_lstore_n (lv' := [(3, .long v_16), (0, .ref (ad 0)), (1, .long z1)]) hx hb dX4_keepChange_94 rfl hl (by decide) rfl (fun ls hl => ?_)
        refine lv_lload_n hx hb dX4_keepChange_95 rfl (lv_at hl 0 rfl) ?_
        refine lv_aload_n hx hb dX4_keepChange_96 rfl (lv_at hl 1 rfl) ?_
        refine va_get (D := D) (ci := 4) (v := .long bm.2.2.2) (C := RX4) (T := TX4) (N := 10) hx hb hts (inT inX4) hown hK hP 0 ww_0 rfl 9 (by decide) (hts (.fieldLink RX4 47 "BoardMoves" "keptWire" "J") (List.mem_cons_of_mem _ flX4_47)) (fun _ h9 => h9) rfl dX4_keepChange_97 ?_
        refine lv_lsub hx hb dX4_keepChange_100 ?_
        refine lv_topl (fun t_17 _ => ?_)
        refine lv_lload_n hx hb dX4_keepChange_101 rfl (lv_at hl 2 rfl) ?_
        refine bm_lc_le (x := t_17) (y := z1) (tgt := 111) hx hb dX4_keepChange_102 dX4_keepChange_103 (by decide) (fun c_18 => ?_) (fun c_18 => ?_)
        · refine lv_aload_n hx hb dX4_keepChange_111 rfl (lv_at hl 1 rfl) ?_
          refine lv_lload_n hx hb dX4_keepChange_112 rfl (lv_at hl 0 rfl) ?_
          refine va_put (D := D) (ci := 4) (v := .long v_16) (ty := .long) (C := RX4) (T := TX4) (N := 10) hx hb hts (inT inX4) tyX4 tyX4_ok nmX4 hown hK hP hD hS 0 ww_0 rfl 9 (by decide) (hts (.fieldLink RX4 47 "BoardMoves" "keptWire" "J") (List.mem_cons_of_mem _ flX4_47)) (fun _ h9 => h9) rfl (by decide +kernel) rfl rfl (Nat.le_of_ble_eq_true rfl) dX4_keepChange_113 (fun H locs hP hD hS => ?_)
          have hP : va_P D vwCl (WW ad cJ cI cZ (bm.1, bm.2.1, bm.2.2.1, v_16) pa p0 p1 p2 li (wi.1, wi.2.1, wi.2.2.1, wi.2.2.2.1, g_11, g_12, g_13, g_14, g_15, wi.2.2.2.2.2.2.2.2.2.1, wi.2.2.2.2.2.2.2.2.2.2) mt ms ma mp mk mn ou) H := hP
          have hD : va_D A (WW ad cJ cI cZ (bm.1, bm.2.1, bm.2.2.1, v_16) pa p0 p1 p2 li (wi.1, wi.2.1, wi.2.2.1, wi.2.2.2.1, g_11, g_12, g_13, g_14, g_15, wi.2.2.2.2.2.2.2.2.2.1, wi.2.2.2.2.2.2.2.2.2.2) mt ms ma mp mk mn ou) := hD
          refine lv_iconst (v := bm_b true) hx hb dX4_keepChange_116 (by decide) ?_
          exact bm_zretX (v := true) hx hb hr hP hD hK hS ⟨p0.1, p0.2.1, p0.2.2.1, p0.2.2.2, g_11, g_12, g_13, g_14, g_15, v_16, ok_p0_turn, rfl, true, rfl⟩ dX4_keepChange_117 hlocks
        · refine lv_aload_n hx hb dX4_keepChange_106 rfl (lv_at hl 1 rfl) ?_
          refine bm_xcallV (As := []) (rest := []) ⟨hx, hb, hml, hown, hts⟩ (x_back (wi := (wi.1, wi.2.1, wi.2.2.1, wi.2.2.2.1, g_11, g_12, g_13, g_14, g_15, wi.2.2.2.2.2.2.2.2.2.1, wi.2.2.2.2.2.2.2.2.2.2))  ok_pa_n ok_p0_turn ok_p1_turn ) (cwV 0 hts gvX4_177 rfl rfl rfl hvX4_takeBack ⟨Nat.le_of_ble_eq_true rfl, Nat.le_of_ble_eq_true rfl⟩) hK hP hD hS hA 0 4 rfl ww_0 rfl hl.1 rfl (Nat.le_of_ble_eq_true rfl) dX4_keepChange_107 ⟨Nat.le_of_ble_eq_true rfl, Nat.le_of_ble_eq_true rfl⟩ (fun ws_19 r_20 h_21 H locs hP hD hS => ?_)
          obtain ⟨g_22, g_23, g_24, g_26, ok_25, rfl, v_27, rfl⟩ := h_21
          have hP : va_P D vwCl (WW ad cJ cI cZ bm pa (g_22, g_23, g_24, g_26) p1 p2 li (wi.1, wi.2.1, wi.2.2.1, wi.2.2.2.1, g_11, g_12, g_13, g_14, g_15, wi.2.2.2.2.2.2.2.2.2.1, wi.2.2.2.2.2.2.2.2.2.2) mt ms ma mp mk mn ou) H := hP
          have hD : va_D A (WW ad cJ cI cZ bm pa (g_22, g_23, g_24, g_26) p1 p2 li (wi.1, wi.2.1, wi.2.2.1, wi.2.2.2.1, g_11, g_12, g_13, g_14, g_15, wi.2.2.2.2.2.2.2.2.2.1, wi.2.2.2.2.2.2.2.2.2.2) mt ms ma mp mk mn ou) := hD
          exact bm_zretX (v := v_27) hx hb hr hP hD hK hS ⟨g_22, g_23, g_24, g_26, g_11, g_12, g_13, g_14, g_15, bm.2.2.2, ok_25, rfl, v_27, rfl⟩ dX4_keepChange_110 hlocks
      · refine lv_aload_n hx hb dX4_keepChange_13 rfl (lv_at hl 1 rfl) ?_
        refine va_get (D := D) (ci := 4) (v := .ref (ad 8)) (C := RX4) (T := TX4) (N := 10) hx hb hts (inT inX4) hown hK hP 0 ww_0 rfl 5 (by decide) (hts (.fieldLink RX4 37 "BoardMoves" "now" "LBoardMoves$Placement;") (List.mem_cons_of_mem _ flX4_37)) (fun _ h9 => h9) rfl dX4_keepChange_14 ?_
        refine lv_aload_n hx hb dX4_keepChange_17 rfl (lv_at hl 1 rfl) ?_
        refine va_get (D := D) (ci := 4) (v := .ref (ad 13)) (C := RX4) (T := TX4) (N := 10) hx hb hts (inT inX4) hown hK hP 0 ww_0 rfl 6 (by decide) (hts (.fieldLink RX4 41 "BoardMoves" "before" "LBoardMoves$Placement;") (List.mem_cons_of_mem _ flX4_41)) (fun _ h9 => h9) rfl dX4_keepChange_18 ?_
        refine lv_iload_n hx hb dX4_keepChange_21 rfl (lv_at hl 0 rfl) ?_
        refine bm_xcallV (As := [.ref (ad 13), .int (nI i_2)]) (rest := []) ⟨hx, hb, hml, hown, hts⟩ (x_differs  (zj := i_2) ok_p0_turn ok_p1_turn (by omega)) (cwV 2 hts gvX4_250 rfl rfl rfl hvX2_differs ⟨Nat.le_of_ble_eq_true rfl, Nat.le_of_ble_eq_true rfl⟩) hK hP hD hS hA 8 2 rfl ww_8 rfl hl.1 rfl (Nat.le_of_ble_eq_true rfl) dX4_keepChange_22 ⟨Nat.le_of_ble_eq_true rfl, Nat.le_of_ble_eq_true rfl⟩ (fun ws_28 r_29 h_30 H locs hP hD hS => ?_)
        obtain ⟨rfl, v_31, rfl⟩ := h_30
        have hP : va_P D vwCl (WW ad cJ cI cZ bm pa p0 p1 p2 li wi mt ms ma mp mk mn ou) H := hP
        have hD : va_D A (WW ad cJ cI cZ bm pa p0 p1 p2 li wi mt ms ma mp mk mn ou) := hD
        refine bm_zb_eq (x := v_31) (tgt := 77) hx hb dX4_keepChange_25 (by decide) (fun c_32 => ?_) (fun c_32 => ?_)
        · refine lv_iinc (v := (nI (i_2 + 1))) (lv' := [(3, .int (nI (i_2 + 1))), (0, .ref (ad 0)), (1, .long z1)]) hx hb dX4_keepChange_77 hl (k := 0) rfl (nI_1 i_2) (by decide) rfl (fun ls hl => ?_)
          refine lv_goto (tgt := 2) hx hb dX4_keepChange_80 (by decide) ?_
          exact ih_4 (i_2 + 1) (by omega) (by omega)  _ _ hP hD hS _ (lv_sub hl [0, 1, 2] rfl)
        · refine lv_aload_n hx hb dX4_keepChange_28 rfl (lv_at hl 1 rfl) ?_
          refine va_get (D := D) (ci := 4) (v := .ref (ad 1)) (C := RX4) (T := TX4) (N := 10) hx hb hts (inT inX4) hown hK hP 0 ww_0 rfl 2 (by decide) (hts (.fieldLink RX4 12 "BoardMoves" "parts" "LBoardMoves$Parts;") (List.mem_cons_of_mem _ flX4_12)) (fun _ h9 => h9) rfl dX4_keepChange_29 ?_
          refine va_get (D := D) (ci := 1) (v := .ref (ad 6)) (C := RX1) (T := TX1) (N := 7) hx hb hts (inT inX1) hown hK hP 1 ww_1 rfl 4 (by decide) (hts (.fieldLink RX4 132 "BoardMoves$Parts" "locked" "[Z") (List.mem_cons_of_mem _ flX4_132)) (fun _ h9 => h9) rfl dX4_keepChange_32 ?_
          refine lv_iload_n hx hb dX4_keepChange_35 rfl (lv_at hl 0 rfl) ?_
          refine bm_zald (f := pa.2.2.2.2.1) hx hb hK hP 6 2 ww_6 rfl (j := i_2) (by omega) (by decide) dX4_keepChange_36 ?_
          refine bm_zb_eq (x := (pa.2.2.2.2.1 i_2)) (tgt := 56) hx hb dX4_keepChange_37 (by decide) (fun c_33 => ?_) (fun c_33 => ?_)
          · refine lv_iconst (v := bm_b false) hx hb dX4_keepChange_56 (by decide) ?_
            refine lv_istore (lv' := [(4, .int (bm_b false)), (3, .int (nI i_2)), (0, .ref (ad 0)), (1, .long z1)]) hx hb dX4_keepChange_57 hl (by decide) rfl (fun ls hl => ?_)
            refine lv_iload hx hb dX4_keepChange_59 (lv_at hl 0 rfl) ?_
            refine bm_zb_ne (x := false) (tgt := 72) hx hb dX4_keepChange_61 (by decide) (fun c_34 => ?_) (fun c_34 => ?_)
            · exact absurd c_34 (by decide)
            · refine lv_aload_n hx hb dX4_keepChange_64 rfl (lv_at hl 2 rfl) ?_
              refine lv_iload_n hx hb dX4_keepChange_65 rfl (lv_at hl 1 rfl) ?_
              refine bm_xcallV (As := [.int (nI i_2)]) (rest := []) ⟨hx, hb, hml, hown, hts⟩ (x_well  (zj := i_2) ok_pa_n ok_pa_side ok_p0_turn ok_li_keepOuts ok_li_nears ok_li_one ok_li_other (by omega)) (cwV 1 hts gvX4_220 rfl rfl rfl hvX4_standsWell ⟨Nat.le_of_ble_eq_true rfl, Nat.le_of_ble_eq_true rfl⟩) hK hP hD hS hA 0 4 rfl ww_0 rfl hl.1 rfl (Nat.le_of_ble_eq_true rfl) dX4_keepChange_66 ⟨Nat.le_of_ble_eq_true rfl, Nat.le_of_ble_eq_true rfl⟩ (fun ws_35 r_36 h_37 H locs hP hD hS => ?_)
              obtain ⟨rfl, v_38, rfl⟩ := h_37
              have hP : va_P D vwCl (WW ad cJ cI cZ bm pa p0 p1 p2 li wi mt ms ma mp mk mn ou) H := hP
              have hD : va_D A (WW ad cJ cI cZ bm pa p0 p1 p2 li wi mt ms ma mp mk mn ou) := hD
              refine bm_zb_ne (x := v_38) (tgt := 77) hx hb dX4_keepChange_69 (by decide) (fun c_39 => ?_) (fun c_39 => ?_)
              · refine lv_iinc (v := (nI (i_2 + 1))) (lv' := [(3, .int (nI (i_2 + 1))), (4, .int (bm_b false)), (0, .ref (ad 0)), (1, .long z1)]) hx hb dX4_keepChange_77 hl (k := 1) rfl (nI_1 i_2) (by decide) rfl (fun ls hl => ?_)
                refine lv_goto (tgt := 2) hx hb dX4_keepChange_80 (by decide) ?_
                exact ih_4 (i_2 + 1) (by omega) (by omega)  _ _ hP hD hS _ (lv_sub hl [0, 2, 3] rfl)
              · refine lv_aload_n hx hb dX4_keepChange_72 rfl (lv_at hl 2 rfl) ?_
                refine bm_xcallV (As := []) (rest := []) ⟨hx, hb, hml, hown, hts⟩ (x_back   ok_pa_n ok_p0_turn ok_p1_turn ) (cwV 0 hts gvX4_177 rfl rfl rfl hvX4_takeBack ⟨Nat.le_of_ble_eq_true rfl, Nat.le_of_ble_eq_true rfl⟩) hK hP hD hS hA 0 4 rfl ww_0 rfl hl.1 rfl (Nat.le_of_ble_eq_true rfl) dX4_keepChange_73 ⟨Nat.le_of_ble_eq_true rfl, Nat.le_of_ble_eq_true rfl⟩ (fun ws_40 r_41 h_42 H locs hP hD hS => ?_)
                obtain ⟨g_43, g_44, g_45, g_47, ok_46, rfl, v_48, rfl⟩ := h_42
                have hP : va_P D vwCl (WW ad cJ cI cZ bm pa (g_43, g_44, g_45, g_47) p1 p2 li wi mt ms ma mp mk mn ou) H := hP
                have hD : va_D A (WW ad cJ cI cZ bm pa (g_43, g_44, g_45, g_47) p1 p2 li wi mt ms ma mp mk mn ou) := hD
                exact bm_zretX (v := v_48) hx hb hr hP hD hK hS ⟨g_43, g_44, g_45, g_47, wi.2.2.2.2.1, wi.2.2.2.2.2.1, wi.2.2.2.2.2.2.1, wi.2.2.2.2.2.2.2.1, wi.2.2.2.2.2.2.2.2.1, bm.2.2.2, ok_46, rfl, v_48, rfl⟩ dX4_keepChange_76 hlocks
          · refine lv_aload_n hx hb dX4_keepChange_40 rfl (lv_at hl 1 rfl) ?_
            refine va_get (D := D) (ci := 4) (v := .ref (ad 13)) (C := RX4) (T := TX4) (N := 10) hx hb hts (inT inX4) hown hK hP 0 ww_0 rfl 6 (by decide) (hts (.fieldLink RX4 41 "BoardMoves" "before" "LBoardMoves$Placement;") (List.mem_cons_of_mem _ flX4_41)) (fun _ h9 => h9) rfl dX4_keepChange_41 ?_
            refine va_get (D := D) (ci := 2) (v := .ref (ad 17)) (C := RX2) (T := TX2) (N := 5) hx hb hts (inT inX2) hown hK hP 13 ww_13 rfl 4 (by decide) (hts (.fieldLink RX4 96 "BoardMoves$Placement" "placed" "[Z") (List.mem_cons_of_mem _ flX4_96)) (fun _ h9 => h9) rfl dX4_keepChange_44 ?_
            refine lv_iload_n hx hb dX4_keepChange_47 rfl (lv_at hl 0 rfl) ?_
            refine bm_zald (f := p1.2.2.2) hx hb hK hP 17 2 ww_17 rfl (j := i_2) (by omega) (by decide) dX4_keepChange_48 ?_
            refine bm_zb_eq (x := (p1.2.2.2 i_2)) (tgt := 56) hx hb dX4_keepChange_49 (by decide) (fun c_49 => ?_) (fun c_49 => ?_)
            · refine lv_iconst (v := bm_b false) hx hb dX4_keepChange_56 (by decide) ?_
              refine lv_istore (lv' := [(4, .int (bm_b false)), (3, .int (nI i_2)), (0, .ref (ad 0)), (1, .long z1)]) hx hb dX4_keepChange_57 hl (by decide) rfl (fun ls hl => ?_)
              refine lv_iload hx hb dX4_keepChange_59 (lv_at hl 0 rfl) ?_
              refine bm_zb_ne (x := false) (tgt := 72) hx hb dX4_keepChange_61 (by decide) (fun c_50 => ?_) (fun c_50 => ?_)
              · exact absurd c_50 (by decide)
              · refine lv_aload_n hx hb dX4_keepChange_64 rfl (lv_at hl 2 rfl) ?_
                refine lv_iload_n hx hb dX4_keepChange_65 rfl (lv_at hl 1 rfl) ?_
                refine bm_xcallV (As := [.int (nI i_2)]) (rest := []) ⟨hx, hb, hml, hown, hts⟩ (x_well  (zj := i_2) ok_pa_n ok_pa_side ok_p0_turn ok_li_keepOuts ok_li_nears ok_li_one ok_li_other (by omega)) (cwV 1 hts gvX4_220 rfl rfl rfl hvX4_standsWell ⟨Nat.le_of_ble_eq_true rfl, Nat.le_of_ble_eq_true rfl⟩) hK hP hD hS hA 0 4 rfl ww_0 rfl hl.1 rfl (Nat.le_of_ble_eq_true rfl) dX4_keepChange_66 ⟨Nat.le_of_ble_eq_true rfl, Nat.le_of_ble_eq_true rfl⟩ (fun ws_51 r_52 h_53 H locs hP hD hS => ?_)
                obtain ⟨rfl, v_54, rfl⟩ := h_53
                have hP : va_P D vwCl (WW ad cJ cI cZ bm pa p0 p1 p2 li wi mt ms ma mp mk mn ou) H := hP
                have hD : va_D A (WW ad cJ cI cZ bm pa p0 p1 p2 li wi mt ms ma mp mk mn ou) := hD
                refine bm_zb_ne (x := v_54) (tgt := 77) hx hb dX4_keepChange_69 (by decide) (fun c_55 => ?_) (fun c_55 => ?_)
                · refine lv_iinc (v := (nI (i_2 + 1))) (lv' := [(3, .int (nI (i_2 + 1))), (4, .int (bm_b false)), (0, .ref (ad 0)), (1, .long z1)]) hx hb dX4_keepChange_77 hl (k := 1) rfl (nI_1 i_2) (by decide) rfl (fun ls hl => ?_)
                  refine lv_goto (tgt := 2) hx hb dX4_keepChange_80 (by decide) ?_
                  exact ih_4 (i_2 + 1) (by omega) (by omega)  _ _ hP hD hS _ (lv_sub hl [0, 2, 3] rfl)
                · refine lv_aload_n hx hb dX4_keepChange_72 rfl (lv_at hl 2 rfl) ?_
                  refine bm_xcallV (As := []) (rest := []) ⟨hx, hb, hml, hown, hts⟩ (x_back   ok_pa_n ok_p0_turn ok_p1_turn ) (cwV 0 hts gvX4_177 rfl rfl rfl hvX4_takeBack ⟨Nat.le_of_ble_eq_true rfl, Nat.le_of_ble_eq_true rfl⟩) hK hP hD hS hA 0 4 rfl ww_0 rfl hl.1 rfl (Nat.le_of_ble_eq_true rfl) dX4_keepChange_73 ⟨Nat.le_of_ble_eq_true rfl, Nat.le_of_ble_eq_true rfl⟩ (fun ws_56 r_57 h_58 H locs hP hD hS => ?_)
                  obtain ⟨g_59, g_60, g_61, g_63, ok_62, rfl, v_64, rfl⟩ := h_58
                  have hP : va_P D vwCl (WW ad cJ cI cZ bm pa (g_59, g_60, g_61, g_63) p1 p2 li wi mt ms ma mp mk mn ou) H := hP
                  have hD : va_D A (WW ad cJ cI cZ bm pa (g_59, g_60, g_61, g_63) p1 p2 li wi mt ms ma mp mk mn ou) := hD
                  exact bm_zretX (v := v_64) hx hb hr hP hD hK hS ⟨g_59, g_60, g_61, g_63, wi.2.2.2.2.1, wi.2.2.2.2.2.1, wi.2.2.2.2.2.2.1, wi.2.2.2.2.2.2.2.1, wi.2.2.2.2.2.2.2.2.1, bm.2.2.2, ok_62, rfl, v_64, rfl⟩ dX4_keepChange_76 hlocks
            · refine lv_iconst (v := bm_b true) hx hb dX4_keepChange_52 (by decide) ?_
              refine lv_goto (tgt := 57) hx hb dX4_keepChange_53 (by decide) ?_
              refine lv_istore (lv' := [(4, .int (bm_b true)), (3, .int (nI i_2)), (0, .ref (ad 0)), (1, .long z1)]) hx hb dX4_keepChange_57 hl (by decide) rfl (fun ls hl => ?_)
              refine lv_iload hx hb dX4_keepChange_59 (lv_at hl 0 rfl) ?_
              refine bm_zb_ne (x := true) (tgt := 72) hx hb dX4_keepChange_61 (by decide) (fun c_65 => ?_) (fun c_65 => ?_)
              · refine lv_aload_n hx hb dX4_keepChange_72 rfl (lv_at hl 2 rfl) ?_
                refine bm_xcallV (As := []) (rest := []) ⟨hx, hb, hml, hown, hts⟩ (x_back   ok_pa_n ok_p0_turn ok_p1_turn ) (cwV 0 hts gvX4_177 rfl rfl rfl hvX4_takeBack ⟨Nat.le_of_ble_eq_true rfl, Nat.le_of_ble_eq_true rfl⟩) hK hP hD hS hA 0 4 rfl ww_0 rfl hl.1 rfl (Nat.le_of_ble_eq_true rfl) dX4_keepChange_73 ⟨Nat.le_of_ble_eq_true rfl, Nat.le_of_ble_eq_true rfl⟩ (fun ws_66 r_67 h_68 H locs hP hD hS => ?_)
                obtain ⟨g_69, g_70, g_71, g_73, ok_72, rfl, v_74, rfl⟩ := h_68
                have hP : va_P D vwCl (WW ad cJ cI cZ bm pa (g_69, g_70, g_71, g_73) p1 p2 li wi mt ms ma mp mk mn ou) H := hP
                have hD : va_D A (WW ad cJ cI cZ bm pa (g_69, g_70, g_71, g_73) p1 p2 li wi mt ms ma mp mk mn ou) := hD
                exact bm_zretX (v := v_74) hx hb hr hP hD hK hS ⟨g_69, g_70, g_71, g_73, wi.2.2.2.2.1, wi.2.2.2.2.2.1, wi.2.2.2.2.2.2.1, wi.2.2.2.2.2.2.2.1, wi.2.2.2.2.2.2.2.2.1, bm.2.2.2, ok_72, rfl, v_74, rfl⟩ dX4_keepChange_76 hlocks
              · exact absurd c_65 (by decide)
  exact lp_1 (pa.2.2.2.2.2.2 + 1) 0 (by omega) (by omega)  _ _ hP hD hS _ (lv_sub hl [0, 1, 2] rfl)

set_option maxHeartbeats 8000000 in
set_option maxRecDepth 100000 in
theorem x_changed {l : Launch} {D : va_G} {ad : Nat → Nat} {cJ cI cZ : ClassId} {bm : gBM} {pa : gPA} {p0 p1 p2 : gPL} {li : gLI} {wi : gWI} {mt : Nat} {ms : gMS} {ma : gMA} {mp : gMP} {mk : gMK} {mn : gMN} {ou : Nat → Int64} {zi : Int32} (ok_pa_n : pa.2.2.2.2.2.2 ≤ 40) (ok_p0_turn : ∀ i, p0.2.2.1 i < 40) (ok_p1_turn : ∀ i, p1.2.2.1 i < 40)   : bm_Wx l yX4_countChanged wsX4_countChanged ({ frames := 1, cells := 0, slots := 0, locals := 22 }) D vwCl [(cJ, .long), (cI, .int), (cZ, .boolean)] (WW ad cJ cI cZ bm pa p0 p1 p2 li wi mt ms ma mp mk mn ou) [.ref (ad 0), .int zi] (fun ws9 r9 => ws9 = (WW ad cJ cI cZ bm pa p0 p1 p2 li wi mt ms ma mp mk mn ou) ∧ ∃ v9 : Int32, r9 = some (.int v9)) := by
  intro sz
  refine Met.ofW (cc := cX4_countChanged) (maxL := 4) (ret := (some .int)) (by decide) rfl ?_
  intro p e s m args below meth c s₁ B hml hv
  obtain ⟨ha, hsz, hP, hK, hD0⟩ := hv
  have hx := B.exec
  have hb := B.bytes
  have hr := B.returns
  have hts := atoms_spec (ws := wsX4_countChanged) B.pre
  have hown : s.vm.findClass RX4 = some m.cls := findClass_of_methodNamed B.named
  have hlocks := B.notSynchronized
  subst hsz
  have hD := hD0.self (sz := s.heap.size)
  generalize hAe : va_A (WW ad cJ cI cZ bm pa p0 p1 p2 li wi mt ms ma mp mk mn ou) s.heap.size = A at hD ⊢
  have hA : ∀ q : Nat, s.heap.size ≤ q → A q := fun q h => by rw [← hAe]; exact Or.inr h
  have hS : va_S A s.heap s.heap [] := va_S.rf
  have hl := lv_entry ([.ref (ad 0), .int zi]) (n := 4) (Nat.le_of_ble_eq_true rfl)
  refine W.eq (g2 := entryFrame m ([.ref (ad 0), .int zi] : List Value).toArray 4) (by rw [ha]) ?_
  rw [lg_entry_eq]
  generalize (lg_sl ([.ref (ad 0), .int zi]) ++ List.replicate (4 - (lg_sl ([.ref (ad 0), .int zi])).length) Slot.unset).toArray = ls at hl ⊢
  have hl : lv_has ls 4 [(0, .ref (ad 0)), (1, .int zi)] := hl
  refine lv_iconst (v := nI 0) hx hb dX4_countChanged_0 (by decide) ?_
  refine lv_istore_n (lv' := [(2, .int (nI 0)), (0, .ref (ad 0)), (1, .int zi)]) hx hb dX4_countChanged_1 rfl hl (by decide) rfl (fun ls hl => ?_)
  refine lv_iconst (v := nI 0) hx hb dX4_countChanged_2 (by decide) ?_
  refine lv_istore_n (lv' := [(3, .int (nI 0)), (2, .int (nI 0)), (0, .ref (ad 0)), (1, .int zi)]) hx hb dX4_countChanged_3 rfl hl (by decide) rfl (fun ls hl => ?_)
  have lp_1 : ∀ (k_3 : Nat) (i_2 : Nat) (v_5 : Int32), i_2 ≤ pa.2.2.2.2.2.2 → pa.2.2.2.2.2.2 < i_2 + k_3 → ∀ (H : Heap) (locs : List Loc), va_P D vwCl (WW ad cJ cI cZ bm pa p0 p1 p2 li wi mt ms ma mp mk mn ou) H → va_D A (WW ad cJ cI cZ bm pa p0 p1 p2 li wi mt ms ma mp mk mn ou) → va_S A s.heap H locs → ∀ (ls : Array Slot), lv_has ls 4 [(3, .int (nI i_2)), (2, .int v_5), (0, .ref (ad 0)), (1, .int zi)] → W p l e (headSpec wsX4_countChanged ({ frames := 1, cells := 0, slots := 0, locals := 22 })).room s m args below meth c H locs 0 0 (MQ below (bm_Wxq D vwCl [(cJ, .long), (cI, .int), (cZ, .boolean)] (fun ws9 r9 => ws9 = (WW ad cJ cI cZ bm pa p0 p1 p2 li wi mt ms ma mp mk mn ou) ∧ ∃ v9 : Int32, r9 = some (.int v9)) A) args s 0 0 A) (F0 m 4 ls []) := by
    intro k_3
    induction k_3 with
    | zero => intro i_2 v_5 hi_6 hk_7; exfalso; omega
    | succ k_3 ih_4 =>
      intro i_2 v_5 hi_6 hk_7  H locs hP hD hS ls hl
      refine lv_iload_n hx hb dX4_countChanged_4 rfl (lv_at hl 0 rfl) ?_
      refine lv_aload_n hx hb dX4_countChanged_5 rfl (lv_at hl 2 rfl) ?_
      refine va_get (D := D) (ci := 4) (v := .ref (ad 1)) (C := RX4) (T := TX4) (N := 10) hx hb hts (inT inX4) hown hK hP 0 ww_0 rfl 2 (by decide) (hts (.fieldLink RX4 12 "BoardMoves" "parts" "LBoardMoves$Parts;") (List.mem_cons_of_mem _ flX4_12)) (fun _ h9 => h9) rfl dX4_countChanged_6 ?_
      refine va_get (D := D) (ci := 1) (v := .int (nI pa.2.2.2.2.2.2)) (C := RX1) (T := TX1) (N := 7) hx hb hts (inT inX1) hown hK hP 1 ww_1 rfl 6 (by decide) (hts (.fieldLink RX4 197 "BoardMoves$Parts" "count" "I") (List.mem_cons_of_mem _ flX4_197)) (fun _ h9 => h9) rfl dX4_countChanged_9 ?_
      refine bm_ni_ge (x := i_2) (y := pa.2.2.2.2.2.2) (tgt := 44) hx hb (by omega) (by omega) dX4_countChanged_12 (by decide) (fun c_8 => ?_) (fun c_8 => ?_)
      · refine lv_iload_n hx hb dX4_countChanged_44 rfl (lv_at hl 1 rfl) ?_
        exact bm_iretX (v := v_5) hx hb hr hP hD hK hS ⟨rfl, v_5, rfl⟩ dX4_countChanged_45 hlocks
      · refine lv_iload_n hx hb dX4_countChanged_15 rfl (lv_at hl 0 rfl) ?_
        refine lv_iload_n hx hb dX4_countChanged_16 rfl (lv_at hl 3 rfl) ?_
        refine lv_icmp_eq (x := (nI i_2)) (y := zi) (tgt := 38) hx hb dX4_countChanged_17 (by decide) (fun c_9 => ?_) (fun c_9 => ?_)
        · refine lv_iinc (v := (nI (i_2 + 1))) (lv' := [(3, .int (nI (i_2 + 1))), (2, .int v_5), (0, .ref (ad 0)), (1, .int zi)]) hx hb dX4_countChanged_38 hl (k := 0) rfl (nI_1 i_2) (by decide) rfl (fun ls hl => ?_)
          refine lv_goto (tgt := 4) hx hb dX4_countChanged_41 (by decide) ?_
          exact ih_4 (i_2 + 1) v_5 (by omega) (by omega)  _ _ hP hD hS _ (lv_sub hl [0, 1, 2, 3] rfl)
        · refine lv_aload_n hx hb dX4_countChanged_20 rfl (lv_at hl 2 rfl) ?_
          refine va_get (D := D) (ci := 4) (v := .ref (ad 8)) (C := RX4) (T := TX4) (N := 10) hx hb hts (inT inX4) hown hK hP 0 ww_0 rfl 5 (by decide) (hts (.fieldLink RX4 37 "BoardMoves" "now" "LBoardMoves$Placement;") (List.mem_cons_of_mem _ flX4_37)) (fun _ h9 => h9) rfl dX4_countChanged_21 ?_
          refine lv_aload_n hx hb dX4_countChanged_24 rfl (lv_at hl 2 rfl) ?_
          refine va_get (D := D) (ci := 4) (v := .ref (ad 13)) (C := RX4) (T := TX4) (N := 10) hx hb hts (inT inX4) hown hK hP 0 ww_0 rfl 6 (by decide) (hts (.fieldLink RX4 41 "BoardMoves" "before" "LBoardMoves$Placement;") (List.mem_cons_of_mem _ flX4_41)) (fun _ h9 => h9) rfl dX4_countChanged_25 ?_
          refine lv_iload_n hx hb dX4_countChanged_28 rfl (lv_at hl 0 rfl) ?_
          refine bm_xcallV (As := [.ref (ad 13), .int (nI i_2)]) (rest := []) ⟨hx, hb, hml, hown, hts⟩ (x_differs  (zj := i_2) ok_p0_turn ok_p1_turn (by omega)) (cwV 2 hts gvX4_250 rfl rfl rfl hvX2_differs ⟨Nat.le_of_ble_eq_true rfl, Nat.le_of_ble_eq_true rfl⟩) hK hP hD hS hA 8 2 rfl ww_8 rfl hl.1 rfl (Nat.le_of_ble_eq_true rfl) dX4_countChanged_29 ⟨Nat.le_of_ble_eq_true rfl, Nat.le_of_ble_eq_true rfl⟩ (fun ws_10 r_11 h_12 H locs hP hD hS => ?_)
          obtain ⟨rfl, v_13, rfl⟩ := h_12
          have hP : va_P D vwCl (WW ad cJ cI cZ bm pa p0 p1 p2 li wi mt ms ma mp mk mn ou) H := hP
          have hD : va_D A (WW ad cJ cI cZ bm pa p0 p1 p2 li wi mt ms ma mp mk mn ou) := hD
          refine bm_zb_eq (x := v_13) (tgt := 38) hx hb dX4_countChanged_32 (by decide) (fun c_14 => ?_) (fun c_14 => ?_)
          · refine lv_iinc (v := (nI (i_2 + 1))) (lv' := [(3, .int (nI (i_2 + 1))), (2, .int v_5), (0, .ref (ad 0)), (1, .int zi)]) hx hb dX4_countChanged_38 hl (k := 0) rfl (nI_1 i_2) (by decide) rfl (fun ls hl => ?_)
            refine lv_goto (tgt := 4) hx hb dX4_countChanged_41 (by decide) ?_
            exact ih_4 (i_2 + 1) v_5 (by omega) (by omega)  _ _ hP hD hS _ (lv_sub hl [0, 1, 2, 3] rfl)
          · refine lv_iinc (v := (v_5 + 1)) (lv' := [(2, .int (v_5 + 1)), (3, .int (nI i_2)), (0, .ref (ad 0)), (1, .int zi)]) hx hb dX4_countChanged_35 hl (k := 1) rfl (rfl) (by decide) rfl (fun ls hl => ?_)
            refine lv_iinc (v := (nI (i_2 + 1))) (lv' := [(3, .int (nI (i_2 + 1))), (2, .int (v_5 + 1)), (0, .ref (ad 0)), (1, .int zi)]) hx hb dX4_countChanged_38 hl (k := 1) rfl (nI_1 i_2) (by decide) rfl (fun ls hl => ?_)
            refine lv_goto (tgt := 4) hx hb dX4_countChanged_41 (by decide) ?_
            exact ih_4 (i_2 + 1) (v_5 + 1) (by omega) (by omega)  _ _ hP hD hS _ (lv_sub hl [0, 1, 2, 3] rfl)
  exact lp_1 (pa.2.2.2.2.2.2 + 1) 0 0 (by omega) (by omega)  _ _ hP hD hS _ (lv_sub hl [0, 1, 2, 3] rfl)
