set_option maxHeartbeats 4000000 in
set_option maxRecDepth 100000 in
theorem w_meas {l : Launch} {D : va_G} {ad : Nat → Nat} {cJ cI cZ : ClassId} {bm : gBM} {pa : gPA} {p0 p1 p2 : gPL} {li : gLI} {wi : gWI} (hoL : q_okL p0) (hoW : q_okW wi) : bm_Wr l yX3_measure wsX3_measure ({ frames := 2, cells := 0, slots := 0, locals := 50 }) D vwCl [(cJ, .long), (cI, .int), (cZ, .boolean)] (Wd ad cJ cI cZ bm pa p0 p1 p2 li wi) [.ref (ad 32), .ref (ad 8)] (Wd ad cJ cI cZ bm pa p0 p1 p2 li (q_measW pa p0 wi)) (some (.long (q_meas pa p0 wi))) := by
  obtain ⟨hwn, hwp, hnn, hpn⟩ := hoW
  intro sz
  refine Met.ofW (cc := cX3_measure) (maxL := 5) (ret := (some .long)) (by decide) rfl ?_
  intro p e s m args below meth c s₁ B hml hv
  obtain ⟨ha, hsz, hP, hK, hD0⟩ := hv
  have hx := B.exec
  have hb := B.bytes
  have hr := B.returns
  have hts := atoms_spec (ws := wsX3_measure) B.pre
  have hown : s.vm.findClass RX3 = some m.cls := findClass_of_methodNamed B.named
  have hlocks := B.notSynchronized
  subst hsz
  have hD := hD0.self (sz := s.heap.size)
  generalize hAe : va_A (Wd ad cJ cI cZ bm pa p0 p1 p2 li wi) s.heap.size = A at hD ⊢
  have hA : ∀ q : Nat, s.heap.size ≤ q → A q := fun q h => by rw [← hAe]; exact Or.inr h
  have hS : va_S A s.heap s.heap [] := va_S.rf
  have lpC : ∀ (k : Nat) (i : Nat), i ≤ wi.2.2.2.2.2.2.2.2.2.1 → wi.2.2.2.2.2.2.2.2.2.1 < i + k → ∀ (H : Heap) (locs : List Loc), va_P D vwCl (Wd ad cJ cI cZ bm pa p0 p1 p2 li (wi.1, wi.2.1, wi.2.2.1, wi.2.2.2.1, (q_scan pa p0 wi wi.2.2.2.2.2.2.2.2.2.2).1, (q_scan pa p0 wi wi.2.2.2.2.2.2.2.2.2.2).2.1, (q_scan pa p0 wi wi.2.2.2.2.2.2.2.2.2.2).2.2.1, (q_scan pa p0 wi wi.2.2.2.2.2.2.2.2.2.2).2.2.2.1, (q_scan pa p0 wi wi.2.2.2.2.2.2.2.2.2.2).2.2.2.2, wi.2.2.2.2.2.2.2.2.2.1, wi.2.2.2.2.2.2.2.2.2.2)) H → va_D A (Wd ad cJ cI cZ bm pa p0 p1 p2 li (wi.1, wi.2.1, wi.2.2.1, wi.2.2.2.1, (q_scan pa p0 wi wi.2.2.2.2.2.2.2.2.2.2).1, (q_scan pa p0 wi wi.2.2.2.2.2.2.2.2.2.2).2.1, (q_scan pa p0 wi wi.2.2.2.2.2.2.2.2.2.2).2.2.1, (q_scan pa p0 wi wi.2.2.2.2.2.2.2.2.2.2).2.2.2.1, (q_scan pa p0 wi wi.2.2.2.2.2.2.2.2.2.2).2.2.2.2, wi.2.2.2.2.2.2.2.2.2.1, wi.2.2.2.2.2.2.2.2.2.2)) → va_S A s.heap H locs → ∀ (ls : Array Slot), lv_has ls 5 [(0, .ref (ad 32)), (2, .long (q_total (q_scan pa p0 wi wi.2.2.2.2.2.2.2.2.2.2) i)), (4, .int (nI i))] → W p l e (headSpec wsX3_measure ({ frames := 2, cells := 0, slots := 0, locals := 50 })).room s m args below meth c H locs 0 0 (MQ below (bm_Wq D vwCl [(cJ, .long), (cI, .int), (cZ, .boolean)] (Wd ad cJ cI cZ bm pa p0 p1 p2 li (q_measW pa p0 wi)) (some (.long (q_meas pa p0 wi))) A) args s 0 0 A) (F0 m 108 ls []) := by
    intro k
    induction k with
    | zero => intro i hi hk; exfalso; omega
    | succ k ih =>
      intro i hi hk H locs hP hD hS ls hl
      refine lv_iload hx hb dX3_measure_108 (lv_at hl 2 rfl) ?_
      refine lv_aload_n hx hb dX3_measure_110 rfl (lv_at hl 0 rfl) ?_
      refine va_get (D := D) (ci := 3) (v := .int (nI wi.2.2.2.2.2.2.2.2.2.1)) (C := RX3) (T := TX3) (N := 12) hx hb hts (inT inX3) hown hK hP 32 rfl rfl 10 (by decide) (hts (.fieldLink RX3 41 "BoardMoves$Wiring" "nets" "I") (by decide +kernel)) (fun _ h9 => h9) rfl dX3_measure_111 ?_
      refine bm_ni_ge (x := i) (y := wi.2.2.2.2.2.2.2.2.2.1) (tgt := 167) hx hb (by omega) (by omega) dX3_measure_114 (by decide) (fun c_1 => ?_) (fun c_1 => ?_)
      · refine lv_lload_n hx hb dX3_measure_167 rfl (lv_at hl 1 rfl) ?_
        exact bm_lretW (v := (q_total (q_scan pa p0 wi wi.2.2.2.2.2.2.2.2.2.2) i)) hx hb hr hP hD hK hS ⟨by rw [show i = wi.2.2.2.2.2.2.2.2.2.1 from by omega]; rfl, rfl⟩ dX3_measure_168 hlocks
      · refine lv_aload_n hx hb dX3_measure_117 rfl (lv_at hl 0 rfl) ?_
        refine va_get (D := D) (ci := 3) (v := .ref (ad 37)) (C := RX3) (T := TX3) (N := 12) hx hb hts (inT inX3) hown hK hP 32 rfl rfl 5 (by decide) (hts (.fieldLink RX3 25 "BoardMoves$Wiring" "reached" "[Z") (by decide +kernel)) (fun _ h9 => h9) rfl dX3_measure_118 ?_
        refine lv_iload hx hb dX3_measure_121 (lv_at hl 2 rfl) ?_
        refine bm_zald (f := ((q_scan pa p0 wi wi.2.2.2.2.2.2.2.2.2.2).1)) hx hb hK hP 37 2 rfl rfl (j := i) (by omega) (by decide) dX3_measure_123 ?_
        refine bm_zb_eq (x := (((q_scan pa p0 wi wi.2.2.2.2.2.2.2.2.2.2).1) i)) (tgt := 161) hx hb dX3_measure_124 (by decide) (fun c_2 => ?_) (fun c_2 => ?_)
        · refine lv_iinc (v := (nI (i + 1))) (lv' := [(4, .int (nI (i + 1))), (0, .ref (ad 32)), (2, .long (q_total (q_scan pa p0 wi wi.2.2.2.2.2.2.2.2.2.2) i))]) hx hb dX3_measure_161 hl (k := 2) rfl (nI_1 i) (by decide) rfl (fun ls hl => ?_)
          refine lv_goto (tgt := 108) hx hb dX3_measure_164 (by decide) ?_
          rw [show q_total (q_scan pa p0 wi wi.2.2.2.2.2.2.2.2.2.2) i = q_total (q_scan pa p0 wi wi.2.2.2.2.2.2.2.2.2.2) (i + 1) from q_total_no (sc := q_scan pa p0 wi wi.2.2.2.2.2.2.2.2.2.2) c_2] at hl
          exact ih (i + 1) (by omega) (by omega) _ _ hP hD hS _ (lv_sub hl [1, 2, 0] rfl)
        · refine lv_lload_n hx hb dX3_measure_127 rfl (lv_at hl 1 rfl) ?_
          refine lv_aload_n hx hb dX3_measure_128 rfl (lv_at hl 0 rfl) ?_
          refine va_get (D := D) (ci := 3) (v := .ref (ad 39)) (C := RX3) (T := TX3) (N := 12) hx hb hts (inT inX3) hown hK hP 32 rfl rfl 7 (by decide) (hts (.fieldLink RX3 32 "BoardMoves$Wiring" "highX" "[J") (by decide +kernel)) (fun _ h9 => h9) rfl dX3_measure_129 ?_
          refine lv_iload hx hb dX3_measure_132 (lv_at hl 2 rfl) ?_
          refine bm_lald (f := ((q_scan pa p0 wi wi.2.2.2.2.2.2.2.2.2.2).2.2.1)) hx hb hK hP 39 0 rfl rfl (j := i) (by omega) (by decide) dX3_measure_134 ?_
          refine lv_aload_n hx hb dX3_measure_135 rfl (lv_at hl 0 rfl) ?_
          refine va_get (D := D) (ci := 3) (v := .ref (ad 38)) (C := RX3) (T := TX3) (N := 12) hx hb hts (inT inX3) hown hK hP 32 rfl rfl 6 (by decide) (hts (.fieldLink RX3 29 "BoardMoves$Wiring" "lowX" "[J") (by decide +kernel)) (fun _ h9 => h9) rfl dX3_measure_136 ?_
          refine lv_iload hx hb dX3_measure_139 (lv_at hl 2 rfl) ?_
          refine bm_lald (f := ((q_scan pa p0 wi wi.2.2.2.2.2.2.2.2.2.2).2.1)) hx hb hK hP 38 0 rfl rfl (j := i) (by omega) (by decide) dX3_measure_141 ?_
          refine lv_lsub hx hb dX3_measure_142 ?_
          refine lv_aload_n hx hb dX3_measure_143 rfl (lv_at hl 0 rfl) ?_
          refine va_get (D := D) (ci := 3) (v := .ref (ad 41)) (C := RX3) (T := TX3) (N := 12) hx hb hts (inT inX3) hown hK hP 32 rfl rfl 9 (by decide) (hts (.fieldLink RX3 38 "BoardMoves$Wiring" "highY" "[J") (by decide +kernel)) (fun _ h9 => h9) rfl dX3_measure_144 ?_
          refine lv_iload hx hb dX3_measure_147 (lv_at hl 2 rfl) ?_
          refine bm_lald (f := ((q_scan pa p0 wi wi.2.2.2.2.2.2.2.2.2.2).2.2.2.2)) hx hb hK hP 41 0 rfl rfl (j := i) (by omega) (by decide) dX3_measure_149 ?_
          refine lv_ladd hx hb dX3_measure_150 ?_
          refine lv_aload_n hx hb dX3_measure_151 rfl (lv_at hl 0 rfl) ?_
          refine va_get (D := D) (ci := 3) (v := .ref (ad 40)) (C := RX3) (T := TX3) (N := 12) hx hb hts (inT inX3) hown hK hP 32 rfl rfl 8 (by decide) (hts (.fieldLink RX3 35 "BoardMoves$Wiring" "lowY" "[J") (by decide +kernel)) (fun _ h9 => h9) rfl dX3_measure_152 ?_
          refine lv_iload hx hb dX3_measure_155 (lv_at hl 2 rfl) ?_
          refine bm_lald (f := ((q_scan pa p0 wi wi.2.2.2.2.2.2.2.2.2.2).2.2.2.1)) hx hb hK hP 40 0 rfl rfl (j := i) (by omega) (by decide) dX3_measure_157 ?_
          refine lv_lsub hx hb dX3_measure_158 ?_
          refine lv_ladd hx hb dX3_measure_159 ?_
          refine lv_lstore_n (lv' := [(2, .long ((q_total (q_scan pa p0 wi wi.2.2.2.2.2.2.2.2.2.2) i) + ((((((q_scan pa p0 wi wi.2.2.2.2.2.2.2.2.2.2).2.2.1) i) - (((q_scan pa p0 wi wi.2.2.2.2.2.2.2.2.2.2).2.1) i)) + (((q_scan pa p0 wi wi.2.2.2.2.2.2.2.2.2.2).2.2.2.2) i)) - (((q_scan pa p0 wi wi.2.2.2.2.2.2.2.2.2.2).2.2.2.1) i)))), (0, .ref (ad 32)), (4, .int (nI i))]) hx hb dX3_measure_160 rfl hl (by decide) rfl (fun ls hl => ?_)
          refine lv_iinc (v := (nI (i + 1))) (lv' := [(4, .int (nI (i + 1))), (2, .long ((q_total (q_scan pa p0 wi wi.2.2.2.2.2.2.2.2.2.2) i) + ((((((q_scan pa p0 wi wi.2.2.2.2.2.2.2.2.2.2).2.2.1) i) - (((q_scan pa p0 wi wi.2.2.2.2.2.2.2.2.2.2).2.1) i)) + (((q_scan pa p0 wi wi.2.2.2.2.2.2.2.2.2.2).2.2.2.2) i)) - (((q_scan pa p0 wi wi.2.2.2.2.2.2.2.2.2.2).2.2.2.1) i)))), (0, .ref (ad 32))]) hx hb dX3_measure_161 hl (k := 2) rfl (nI_1 i) (by decide) rfl (fun ls hl => ?_)
          refine lv_goto (tgt := 108) hx hb dX3_measure_164 (by decide) ?_
          rw [show (q_total (q_scan pa p0 wi wi.2.2.2.2.2.2.2.2.2.2) i) + ((((((q_scan pa p0 wi wi.2.2.2.2.2.2.2.2.2.2).2.2.1) i) - (((q_scan pa p0 wi wi.2.2.2.2.2.2.2.2.2.2).2.1) i)) + (((q_scan pa p0 wi wi.2.2.2.2.2.2.2.2.2.2).2.2.2.2) i)) - (((q_scan pa p0 wi wi.2.2.2.2.2.2.2.2.2.2).2.2.2.1) i)) = q_total (q_scan pa p0 wi wi.2.2.2.2.2.2.2.2.2.2) (i + 1) from q_total_yes (sc := q_scan pa p0 wi wi.2.2.2.2.2.2.2.2.2.2) c_2] at hl
          exact ih (i + 1) (by omega) (by omega) _ _ hP hD hS _ (lv_sub hl [2, 1, 0] rfl)
  have lpB : ∀ (k : Nat) (i : Nat), i ≤ wi.2.2.2.2.2.2.2.2.2.2 → wi.2.2.2.2.2.2.2.2.2.2 < i + k → ∀ (H : Heap) (locs : List Loc), va_P D vwCl (Wd ad cJ cI cZ bm pa p0 p1 p2 li (wi.1, wi.2.1, wi.2.2.1, wi.2.2.2.1, (q_scan pa p0 wi i).1, (q_scan pa p0 wi i).2.1, (q_scan pa p0 wi i).2.2.1, (q_scan pa p0 wi i).2.2.2.1, (q_scan pa p0 wi i).2.2.2.2, wi.2.2.2.2.2.2.2.2.2.1, wi.2.2.2.2.2.2.2.2.2.2)) H → va_D A (Wd ad cJ cI cZ bm pa p0 p1 p2 li (wi.1, wi.2.1, wi.2.2.1, wi.2.2.2.1, (q_scan pa p0 wi i).1, (q_scan pa p0 wi i).2.1, (q_scan pa p0 wi i).2.2.1, (q_scan pa p0 wi i).2.2.2.1, (q_scan pa p0 wi i).2.2.2.2, wi.2.2.2.2.2.2.2.2.2.1, wi.2.2.2.2.2.2.2.2.2.2)) → va_S A s.heap H locs → ∀ (ls : Array Slot), lv_has ls 5 [(0, .ref (ad 32)), (1, .ref (ad 8)), (2, .int (nI i))] → W p l e (headSpec wsX3_measure ({ frames := 2, cells := 0, slots := 0, locals := 50 })).room s m args below meth c H locs 0 0 (MQ below (bm_Wq D vwCl [(cJ, .long), (cI, .int), (cZ, .boolean)] (Wd ad cJ cI cZ bm pa p0 p1 p2 li (q_measW pa p0 wi)) (some (.long (q_meas pa p0 wi))) A) args s 0 0 A) (F0 m 25 ls []) := by
    intro k
    induction k with
    | zero => intro i hi hk; exfalso; omega
    | succ k ih =>
      intro i hi hk H locs hP hD hS ls hl
      refine lv_iload_n hx hb dX3_measure_25 rfl (lv_at hl 2 rfl) ?_
      refine lv_aload_n hx hb dX3_measure_26 rfl (lv_at hl 0 rfl) ?_
      refine va_get (D := D) (ci := 3) (v := .int (nI wi.2.2.2.2.2.2.2.2.2.2)) (C := RX3) (T := TX3) (N := 12) hx hb hts (inT inX3) hown hK hP 32 rfl rfl 11 (by decide) (hts (.fieldLink RX3 45 "BoardMoves$Wiring" "pins" "I") (by decide +kernel)) (fun _ h9 => h9) rfl dX3_measure_27 ?_
      refine bm_ni_ge (x := i) (y := wi.2.2.2.2.2.2.2.2.2.2) (tgt := 103) hx hb (by omega) (by omega) dX3_measure_30 (by decide) (fun c_3 => ?_) (fun c_3 => ?_)
      · refine lv_lconst (v := 0) hx hb dX3_measure_103 (by decide) ?_
        refine lv_lstore_n (lv' := [(2, .long 0), (0, .ref (ad 32)), (1, .ref (ad 8))]) hx hb dX3_measure_104 rfl hl (by decide) rfl (fun ls hl => ?_)
        refine lv_iconst (v := nI 0) hx hb dX3_measure_105 (by decide) ?_
        refine lv_istore (lv' := [(4, .int (nI 0)), (2, .long 0), (0, .ref (ad 32)), (1, .ref (ad 8))]) hx hb dX3_measure_106 hl (by decide) rfl (fun ls hl => ?_)
        have ei : i = wi.2.2.2.2.2.2.2.2.2.2 := by omega
        rw [ei] at hP hD
        exact lpC (wi.2.2.2.2.2.2.2.2.2.1 + 1) 0 (by omega) (by omega) _ _ hP hD hS _ (lv_sub hl [2, 1, 0] rfl)
      · refine lv_aload_n hx hb dX3_measure_33 rfl (lv_at hl 0 rfl) ?_
        refine va_get (D := D) (ci := 3) (v := .ref (ad 34)) (C := RX3) (T := TX3) (N := 12) hx hb hts (inT inX3) hown hK hP 32 rfl rfl 2 (by decide) (hts (.fieldLink RX3 15 "BoardMoves$Wiring" "partOf" "[I") (by decide +kernel)) (fun _ h9 => h9) rfl dX3_measure_34 ?_
        refine lv_iload_n hx hb dX3_measure_37 rfl (lv_at hl 2 rfl) ?_
        refine bm_nald (f := wi.2.1) hx hb hK hP 34 1 rfl rfl (j := i) (by omega) (by decide) dX3_measure_38 ?_
        refine lv_istore_n (lv' := [(3, .int (nI (wi.2.1 i))), (0, .ref (ad 32)), (1, .ref (ad 8)), (2, .int (nI i))]) hx hb dX3_measure_39 rfl hl (by decide) rfl (fun ls hl => ?_)
        refine lv_aload_n hx hb dX3_measure_40 rfl (lv_at hl 2 rfl) ?_
        refine va_get (D := D) (ci := 2) (v := .ref (ad 12)) (C := RX2) (T := TX2) (N := 5) hx hb hts (inT inX2) hown hK hP 8 rfl rfl 4 (by decide) (hts (.fieldLink RX3 52 "BoardMoves$Placement" "placed" "[Z") (by decide +kernel)) (fun _ h9 => h9) rfl dX3_measure_41 ?_
        refine lv_iload_n hx hb dX3_measure_44 rfl (lv_at hl 0 rfl) ?_
        refine bm_zald (f := p0.2.2.2) hx hb hK hP 12 2 rfl rfl (j := (wi.2.1 i)) (hwp _) (by decide) dX3_measure_45 ?_
        refine bm_zb_eq (x := (p0.2.2.2 (wi.2.1 i))) (tgt := 97) hx hb dX3_measure_46 (by decide) (fun c_4 => ?_) (fun c_4 => ?_)
        · refine lv_iinc (v := (nI (i + 1))) (lv' := [(2, .int (nI (i + 1))), (3, .int (nI (wi.2.1 i))), (0, .ref (ad 32)), (1, .ref (ad 8))]) hx hb dX3_measure_97 hl (k := 3) rfl (nI_1 i) (by decide) rfl (fun ls hl => ?_)
          refine lv_goto (tgt := 25) hx hb dX3_measure_100 (by decide) ?_
          have e0 : (wi.1, wi.2.1, wi.2.2.1, wi.2.2.2.1, (q_scan pa p0 wi i).1, (q_scan pa p0 wi i).2.1, (q_scan pa p0 wi i).2.2.1, (q_scan pa p0 wi i).2.2.2.1, (q_scan pa p0 wi i).2.2.2.2, wi.2.2.2.2.2.2.2.2.2.1, wi.2.2.2.2.2.2.2.2.2.2) = (wi.1, wi.2.1, wi.2.2.1, wi.2.2.2.1, (q_scan pa p0 wi (i + 1)).1, (q_scan pa p0 wi (i + 1)).2.1, (q_scan pa p0 wi (i + 1)).2.2.1, (q_scan pa p0 wi (i + 1)).2.2.2.1, (q_scan pa p0 wi (i + 1)).2.2.2.2, wi.2.2.2.2.2.2.2.2.2.1, wi.2.2.2.2.2.2.2.2.2.2) := by rw [q_scan_no c_4]
          rw [e0] at hP hD
          exact ih (i + 1) (by omega) (by omega) _ _ hP hD hS _ (lv_sub hl [2, 3, 0] rfl)
        · refine lv_aload_n hx hb dX3_measure_49 rfl (lv_at hl 2 rfl) ?_
          refine va_get (D := D) (ci := 2) (v := .ref (ad 11)) (C := RX2) (T := TX2) (N := 5) hx hb hts (inT inX2) hown hK hP 8 rfl rfl 3 (by decide) (hts (.fieldLink RX3 57 "BoardMoves$Placement" "turn" "[I") (by decide +kernel)) (fun _ h9 => h9) rfl dX3_measure_50 ?_
          refine lv_iload_n hx hb dX3_measure_53 rfl (lv_at hl 0 rfl) ?_
          refine bm_nald (f := p0.2.2.1) hx hb hK hP 11 1 rfl rfl (j := (wi.2.1 i)) (hwp _) (by decide) dX3_measure_54 ?_
          refine lv_istore (lv' := [(4, .int (nI (p0.2.2.1 (wi.2.1 i)))), (3, .int (nI (wi.2.1 i))), (0, .ref (ad 32)), (1, .ref (ad 8)), (2, .int (nI i))]) hx hb dX3_measure_55 hl (by decide) rfl (fun ls hl => ?_)
          refine lv_aload_n hx hb dX3_measure_57 rfl (lv_at hl 2 rfl) ?_
          refine lv_aload_n hx hb dX3_measure_58 rfl (lv_at hl 2 rfl) ?_
          refine va_get (D := D) (ci := 3) (v := .ref (ad 33)) (C := RX3) (T := TX3) (N := 12) hx hb hts (inT inX3) hown hK hP 32 rfl rfl 1 (by decide) (hts (.fieldLink RX3 9 "BoardMoves$Wiring" "netOf" "[I") (by decide +kernel)) (fun _ h9 => h9) rfl dX3_measure_59 ?_
          refine lv_iload_n hx hb dX3_measure_62 rfl (lv_at hl 4 rfl) ?_
          refine bm_nald (f := wi.1) hx hb hK hP 33 1 rfl rfl (j := i) (by omega) (by decide) dX3_measure_63 ?_
          refine lv_aload_n hx hb dX3_measure_64 rfl (lv_at hl 3 rfl) ?_
          refine va_get (D := D) (ci := 2) (v := .ref (ad 9)) (C := RX2) (T := TX2) (N := 5) hx hb hts (inT inX2) hown hK hP 8 rfl rfl 1 (by decide) (hts (.fieldLink RX3 60 "BoardMoves$Placement" "x" "[J") (by decide +kernel)) (fun _ h9 => h9) rfl dX3_measure_65 ?_
          refine lv_iload_n hx hb dX3_measure_68 rfl (lv_at hl 1 rfl) ?_
          refine bm_lald (f := p0.1) hx hb hK hP 9 0 rfl rfl (j := (wi.2.1 i)) (hwp _) (by decide) dX3_measure_69 ?_
          refine lv_aload_n hx hb dX3_measure_70 rfl (lv_at hl 2 rfl) ?_
          refine lv_iload_n hx hb dX3_measure_71 rfl (lv_at hl 4 rfl) ?_
          refine lv_iload_n hx hb dX3_measure_72 rfl (lv_at hl 1 rfl) ?_
          refine lv_iload hx hb dX3_measure_73 (lv_at hl 0 rfl) ?_
          refine bm_rcallV (As := [.int (nI i), .int (nI (wi.2.1 i)), .int (nI (p0.2.2.1 (wi.2.1 i)))]) (rest := [.long (p0.1 (wi.2.1 i)), .int (nI (wi.1 i)), .ref (ad 32)]) ⟨hx, hb, hml, hown, hts⟩ (r_turnedX (a := i) (j := (wi.2.1 i)) (t := (p0.2.2.1 (wi.2.1 i))) (by omega) (hwp _) (bm40 (hoL _))) (cwV 3 hts (gdV (by decide +kernel) (by decide +kernel) (by decide +kernel) (by decide +kernel) (by decide +kernel)) rfl rfl rfl (by decide +kernel) ⟨Nat.le_of_ble_eq_true rfl, Nat.le_of_ble_eq_true rfl⟩) hK hP 32 3 rfl rfl rfl hl.1 rfl (Nat.le_of_ble_eq_true rfl) dX3_measure_75 ⟨Nat.le_of_ble_eq_true rfl, Nat.le_of_ble_eq_true rfl⟩ ?_
          refine lv_ladd hx hb dX3_measure_78 ?_
          refine lv_aload_n hx hb dX3_measure_79 rfl (lv_at hl 3 rfl) ?_
          refine va_get (D := D) (ci := 2) (v := .ref (ad 10)) (C := RX2) (T := TX2) (N := 5) hx hb hts (inT inX2) hown hK hP 8 rfl rfl 2 (by decide) (hts (.fieldLink RX3 67 "BoardMoves$Placement" "y" "[J") (by decide +kernel)) (fun _ h9 => h9) rfl dX3_measure_80 ?_
          refine lv_iload_n hx hb dX3_measure_83 rfl (lv_at hl 1 rfl) ?_
          refine bm_lald (f := p0.2.1) hx hb hK hP 10 0 rfl rfl (j := (wi.2.1 i)) (hwp _) (by decide) dX3_measure_84 ?_
          refine lv_aload_n hx hb dX3_measure_85 rfl (lv_at hl 2 rfl) ?_
          refine lv_iload_n hx hb dX3_measure_86 rfl (lv_at hl 4 rfl) ?_
          refine lv_iload_n hx hb dX3_measure_87 rfl (lv_at hl 1 rfl) ?_
          refine lv_iload hx hb dX3_measure_88 (lv_at hl 0 rfl) ?_
          refine bm_rcallV (As := [.int (nI i), .int (nI (wi.2.1 i)), .int (nI (p0.2.2.1 (wi.2.1 i)))]) (rest := [.long (p0.2.1 (wi.2.1 i)), .long ((p0.1 (wi.2.1 i)) + (q_tx pa (wi.1, wi.2.1, wi.2.2.1, wi.2.2.2.1, (q_scan pa p0 wi i).1, (q_scan pa p0 wi i).2.1, (q_scan pa p0 wi i).2.2.1, (q_scan pa p0 wi i).2.2.2.1, (q_scan pa p0 wi i).2.2.2.2, wi.2.2.2.2.2.2.2.2.2.1, wi.2.2.2.2.2.2.2.2.2.2) i (wi.2.1 i) (p0.2.2.1 (wi.2.1 i)))), .int (nI (wi.1 i)), .ref (ad 32)]) ⟨hx, hb, hml, hown, hts⟩ (r_turnedY (a := i) (j := (wi.2.1 i)) (t := (p0.2.2.1 (wi.2.1 i))) (by omega) (hwp _) (bm40 (hoL _))) (cwV 3 hts (gdV (by decide +kernel) (by decide +kernel) (by decide +kernel) (by decide +kernel) (by decide +kernel)) rfl rfl rfl (by decide +kernel) ⟨Nat.le_of_ble_eq_true rfl, Nat.le_of_ble_eq_true rfl⟩) hK hP 32 3 rfl rfl rfl hl.1 rfl (Nat.le_of_ble_eq_true rfl) dX3_measure_90 ⟨Nat.le_of_ble_eq_true rfl, Nat.le_of_ble_eq_true rfl⟩ ?_
          refine lv_ladd hx hb dX3_measure_93 ?_
          refine bm_wcallV (As := [.int (nI (wi.1 i)), .long ((p0.1 (wi.2.1 i)) + (q_tx pa (wi.1, wi.2.1, wi.2.2.1, wi.2.2.2.1, (q_scan pa p0 wi i).1, (q_scan pa p0 wi i).2.1, (q_scan pa p0 wi i).2.2.1, (q_scan pa p0 wi i).2.2.2.1, (q_scan pa p0 wi i).2.2.2.2, wi.2.2.2.2.2.2.2.2.2.1, wi.2.2.2.2.2.2.2.2.2.2) i (wi.2.1 i) (p0.2.2.1 (wi.2.1 i)))), .long ((p0.2.1 (wi.2.1 i)) + (q_ty pa (wi.1, wi.2.1, wi.2.2.1, wi.2.2.2.1, (q_scan pa p0 wi i).1, (q_scan pa p0 wi i).2.1, (q_scan pa p0 wi i).2.2.1, (q_scan pa p0 wi i).2.2.2.1, (q_scan pa p0 wi i).2.2.2.2, wi.2.2.2.2.2.2.2.2.2.1, wi.2.2.2.2.2.2.2.2.2.2) i (wi.2.1 i) (p0.2.2.1 (wi.2.1 i))))]) (rest := []) ⟨hx, hb, hml, hown, hts⟩ (w_reach (k := (wi.1 i)) (hwn _)) (cwV 3 hts (gdV (by decide +kernel) (by decide +kernel) (by decide +kernel) (by decide +kernel) (by decide +kernel)) rfl rfl rfl (by decide +kernel) ⟨Nat.le_of_ble_eq_true rfl, Nat.le_of_ble_eq_true rfl⟩) hK hP hD hS hA 32 3 rfl rfl rfl hl.1 rfl (Nat.le_of_ble_eq_true rfl) dX3_measure_94 ⟨Nat.le_of_ble_eq_true rfl, Nat.le_of_ble_eq_true rfl⟩ (fun H locs hP hD hS => ?_)
          have hP : va_P D vwCl (Wd ad cJ cI cZ bm pa p0 p1 p2 li (q_sw (wi.1, wi.2.1, wi.2.2.1, wi.2.2.2.1, (q_scan pa p0 wi i).1, (q_scan pa p0 wi i).2.1, (q_scan pa p0 wi i).2.2.1, (q_scan pa p0 wi i).2.2.2.1, (q_scan pa p0 wi i).2.2.2.2, wi.2.2.2.2.2.2.2.2.2.1, wi.2.2.2.2.2.2.2.2.2.2) (q_rch (q_sc (wi.1, wi.2.1, wi.2.2.1, wi.2.2.2.1, (q_scan pa p0 wi i).1, (q_scan pa p0 wi i).2.1, (q_scan pa p0 wi i).2.2.1, (q_scan pa p0 wi i).2.2.2.1, (q_scan pa p0 wi i).2.2.2.2, wi.2.2.2.2.2.2.2.2.2.1, wi.2.2.2.2.2.2.2.2.2.2)) (wi.1 i) ((p0.1 (wi.2.1 i)) + (q_tx pa (wi.1, wi.2.1, wi.2.2.1, wi.2.2.2.1, (q_scan pa p0 wi i).1, (q_scan pa p0 wi i).2.1, (q_scan pa p0 wi i).2.2.1, (q_scan pa p0 wi i).2.2.2.1, (q_scan pa p0 wi i).2.2.2.2, wi.2.2.2.2.2.2.2.2.2.1, wi.2.2.2.2.2.2.2.2.2.2) i (wi.2.1 i) (p0.2.2.1 (wi.2.1 i)))) ((p0.2.1 (wi.2.1 i)) + (q_ty pa (wi.1, wi.2.1, wi.2.2.1, wi.2.2.2.1, (q_scan pa p0 wi i).1, (q_scan pa p0 wi i).2.1, (q_scan pa p0 wi i).2.2.1, (q_scan pa p0 wi i).2.2.2.1, (q_scan pa p0 wi i).2.2.2.2, wi.2.2.2.2.2.2.2.2.2.1, wi.2.2.2.2.2.2.2.2.2.2) i (wi.2.1 i) (p0.2.2.1 (wi.2.1 i))))))) H := hP
          have hD : va_D A (Wd ad cJ cI cZ bm pa p0 p1 p2 li (q_sw (wi.1, wi.2.1, wi.2.2.1, wi.2.2.2.1, (q_scan pa p0 wi i).1, (q_scan pa p0 wi i).2.1, (q_scan pa p0 wi i).2.2.1, (q_scan pa p0 wi i).2.2.2.1, (q_scan pa p0 wi i).2.2.2.2, wi.2.2.2.2.2.2.2.2.2.1, wi.2.2.2.2.2.2.2.2.2.2) (q_rch (q_sc (wi.1, wi.2.1, wi.2.2.1, wi.2.2.2.1, (q_scan pa p0 wi i).1, (q_scan pa p0 wi i).2.1, (q_scan pa p0 wi i).2.2.1, (q_scan pa p0 wi i).2.2.2.1, (q_scan pa p0 wi i).2.2.2.2, wi.2.2.2.2.2.2.2.2.2.1, wi.2.2.2.2.2.2.2.2.2.2)) (wi.1 i) ((p0.1 (wi.2.1 i)) + (q_tx pa (wi.1, wi.2.1, wi.2.2.1, wi.2.2.2.1, (q_scan pa p0 wi i).1, (q_scan pa p0 wi i).2.1, (q_scan pa p0 wi i).2.2.1, (q_scan pa p0 wi i).2.2.2.1, (q_scan pa p0 wi i).2.2.2.2, wi.2.2.2.2.2.2.2.2.2.1, wi.2.2.2.2.2.2.2.2.2.2) i (wi.2.1 i) (p0.2.2.1 (wi.2.1 i)))) ((p0.2.1 (wi.2.1 i)) + (q_ty pa (wi.1, wi.2.1, wi.2.2.1, wi.2.2.2.1, (q_scan pa p0 wi i).1, (q_scan pa p0 wi i).2.1, (q_scan pa p0 wi i).2.2.1, (q_scan pa p0 wi i).2.2.2.1, (q_scan pa p0 wi i).2.2.2.2, wi.2.2.2.2.2.2.2.2.2.1, wi.2.2.2.2.2.2.2.2.2.2) i (wi.2.1 i) (p0.2.2.1 (wi.2.1 i))))))) := hD
          refine lv_iinc (v := (nI (i + 1))) (lv' := [(2, .int (nI (i + 1))), (4, .int (nI (p0.2.2.1 (wi.2.1 i)))), (3, .int (nI (wi.2.1 i))), (0, .ref (ad 32)), (1, .ref (ad 8))]) hx hb dX3_measure_97 hl (k := 4) rfl (nI_1 i) (by decide) rfl (fun ls hl => ?_)
          refine lv_goto (tgt := 25) hx hb dX3_measure_100 (by decide) ?_
          have e0 : (q_sw (wi.1, wi.2.1, wi.2.2.1, wi.2.2.2.1, (q_scan pa p0 wi i).1, (q_scan pa p0 wi i).2.1, (q_scan pa p0 wi i).2.2.1, (q_scan pa p0 wi i).2.2.2.1, (q_scan pa p0 wi i).2.2.2.2, wi.2.2.2.2.2.2.2.2.2.1, wi.2.2.2.2.2.2.2.2.2.2) (q_rch (q_sc (wi.1, wi.2.1, wi.2.2.1, wi.2.2.2.1, (q_scan pa p0 wi i).1, (q_scan pa p0 wi i).2.1, (q_scan pa p0 wi i).2.2.1, (q_scan pa p0 wi i).2.2.2.1, (q_scan pa p0 wi i).2.2.2.2, wi.2.2.2.2.2.2.2.2.2.1, wi.2.2.2.2.2.2.2.2.2.2)) (wi.1 i) ((p0.1 (wi.2.1 i)) + (q_tx pa (wi.1, wi.2.1, wi.2.2.1, wi.2.2.2.1, (q_scan pa p0 wi i).1, (q_scan pa p0 wi i).2.1, (q_scan pa p0 wi i).2.2.1, (q_scan pa p0 wi i).2.2.2.1, (q_scan pa p0 wi i).2.2.2.2, wi.2.2.2.2.2.2.2.2.2.1, wi.2.2.2.2.2.2.2.2.2.2) i (wi.2.1 i) (p0.2.2.1 (wi.2.1 i)))) ((p0.2.1 (wi.2.1 i)) + (q_ty pa (wi.1, wi.2.1, wi.2.2.1, wi.2.2.2.1, (q_scan pa p0 wi i).1, (q_scan pa p0 wi i).2.1, (q_scan pa p0 wi i).2.2.1, (q_scan pa p0 wi i).2.2.2.1, (q_scan pa p0 wi i).2.2.2.2, wi.2.2.2.2.2.2.2.2.2.1, wi.2.2.2.2.2.2.2.2.2.2) i (wi.2.1 i) (p0.2.2.1 (wi.2.1 i)))))) = (wi.1, wi.2.1, wi.2.2.1, wi.2.2.2.1, (q_scan pa p0 wi (i + 1)).1, (q_scan pa p0 wi (i + 1)).2.1, (q_scan pa p0 wi (i + 1)).2.2.1, (q_scan pa p0 wi (i + 1)).2.2.2.1, (q_scan pa p0 wi (i + 1)).2.2.2.2, wi.2.2.2.2.2.2.2.2.2.1, wi.2.2.2.2.2.2.2.2.2.2) := by
            show q_sw wi (q_rch (q_scan pa p0 wi i) (wi.1 i) (q_pinX pa p0 wi i) (q_pinY pa p0 wi i)) = q_sw wi (q_scan pa p0 wi (i + 1))
            rw [q_scan_yes c_4]
          rw [e0] at hP hD
          exact ih (i + 1) (by omega) (by omega) _ _ hP hD hS _ (lv_sub hl [3, 4, 0] rfl)
  have lpA : ∀ (k : Nat) (i : Nat), i ≤ wi.2.2.2.2.2.2.2.2.2.1 → wi.2.2.2.2.2.2.2.2.2.1 < i + k → ∀ (H : Heap) (locs : List Loc), va_P D vwCl (Wd ad cJ cI cZ bm pa p0 p1 p2 li (wi.1, wi.2.1, wi.2.2.1, wi.2.2.2.1, (q_clr (q_sc wi) i).1, (q_clr (q_sc wi) i).2.1, (q_clr (q_sc wi) i).2.2.1, (q_clr (q_sc wi) i).2.2.2.1, (q_clr (q_sc wi) i).2.2.2.2, wi.2.2.2.2.2.2.2.2.2.1, wi.2.2.2.2.2.2.2.2.2.2)) H → va_D A (Wd ad cJ cI cZ bm pa p0 p1 p2 li (wi.1, wi.2.1, wi.2.2.1, wi.2.2.2.1, (q_clr (q_sc wi) i).1, (q_clr (q_sc wi) i).2.1, (q_clr (q_sc wi) i).2.2.1, (q_clr (q_sc wi) i).2.2.2.1, (q_clr (q_sc wi) i).2.2.2.2, wi.2.2.2.2.2.2.2.2.2.1, wi.2.2.2.2.2.2.2.2.2.2)) → va_S A s.heap H locs → ∀ (ls : Array Slot), lv_has ls 5 [(0, .ref (ad 32)), (1, .ref (ad 8)), (2, .int (nI i))] → W p l e (headSpec wsX3_measure ({ frames := 2, cells := 0, slots := 0, locals := 50 })).room s m args below meth c H locs 0 0 (MQ below (bm_Wq D vwCl [(cJ, .long), (cI, .int), (cZ, .boolean)] (Wd ad cJ cI cZ bm pa p0 p1 p2 li (q_measW pa p0 wi)) (some (.long (q_meas pa p0 wi))) A) args s 0 0 A) (F0 m 2 ls []) := by
    intro k
    induction k with
    | zero => intro i hi hk; exfalso; omega
    | succ k ih =>
      intro i hi hk H locs hP hD hS ls hl
      refine lv_iload_n hx hb dX3_measure_2 rfl (lv_at hl 2 rfl) ?_
      refine lv_aload_n hx hb dX3_measure_3 rfl (lv_at hl 0 rfl) ?_
      refine va_get (D := D) (ci := 3) (v := .int (nI wi.2.2.2.2.2.2.2.2.2.1)) (C := RX3) (T := TX3) (N := 12) hx hb hts (inT inX3) hown hK hP 32 rfl rfl 10 (by decide) (hts (.fieldLink RX3 41 "BoardMoves$Wiring" "nets" "I") (by decide +kernel)) (fun _ h9 => h9) rfl dX3_measure_4 ?_
      refine bm_ni_ge (x := i) (y := wi.2.2.2.2.2.2.2.2.2.1) (tgt := 23) hx hb (by omega) (by omega) dX3_measure_7 (by decide) (fun c_5 => ?_) (fun c_5 => ?_)
      · refine lv_iconst (v := nI 0) hx hb dX3_measure_23 (by decide) ?_
        refine lv_istore_n (lv' := [(2, .int (nI 0)), (0, .ref (ad 32)), (1, .ref (ad 8))]) hx hb dX3_measure_24 rfl hl (by decide) rfl (fun ls hl => ?_)
        have ei : i = wi.2.2.2.2.2.2.2.2.2.1 := by omega
        rw [ei] at hP hD
        exact lpB (wi.2.2.2.2.2.2.2.2.2.2 + 1) 0 (by omega) (by omega) _ _ hP hD hS _ (lv_sub hl [1, 2, 0] rfl)
      · refine lv_aload_n hx hb dX3_measure_10 rfl (lv_at hl 0 rfl) ?_
        refine va_get (D := D) (ci := 3) (v := .ref (ad 37)) (C := RX3) (T := TX3) (N := 12) hx hb hts (inT inX3) hown hK hP 32 rfl rfl 5 (by decide) (hts (.fieldLink RX3 25 "BoardMoves$Wiring" "reached" "[Z") (by decide +kernel)) (fun _ h9 => h9) rfl dX3_measure_11 ?_
        refine lv_iload_n hx hb dX3_measure_14 rfl (lv_at hl 2 rfl) ?_
        refine lv_iconst (v := bm_b false) hx hb dX3_measure_15 (by decide) ?_
        refine bm_zast (f := ((q_clr (q_sc wi) i).1)) hx hb hK hP hD hS 37 2 rfl rfl (j := i) (x := false) (by omega) (by decide) dX3_measure_16 (fun H locs hP hD hS => ?_)
        have hP : va_P D vwCl (Wd ad cJ cI cZ bm pa p0 p1 p2 li (wi.1, wi.2.1, wi.2.2.1, wi.2.2.2.1, va_up ((q_clr (q_sc wi) i).1) i false, (q_clr (q_sc wi) i).2.1, (q_clr (q_sc wi) i).2.2.1, (q_clr (q_sc wi) i).2.2.2.1, (q_clr (q_sc wi) i).2.2.2.2, wi.2.2.2.2.2.2.2.2.2.1, wi.2.2.2.2.2.2.2.2.2.2)) H := hP
        have hD : va_D A (Wd ad cJ cI cZ bm pa p0 p1 p2 li (wi.1, wi.2.1, wi.2.2.1, wi.2.2.2.1, va_up ((q_clr (q_sc wi) i).1) i false, (q_clr (q_sc wi) i).2.1, (q_clr (q_sc wi) i).2.2.1, (q_clr (q_sc wi) i).2.2.2.1, (q_clr (q_sc wi) i).2.2.2.2, wi.2.2.2.2.2.2.2.2.2.1, wi.2.2.2.2.2.2.2.2.2.2)) := hD
        refine lv_iinc (v := (nI (i + 1))) (lv' := [(2, .int (nI (i + 1))), (0, .ref (ad 32)), (1, .ref (ad 8))]) hx hb dX3_measure_17 hl (k := 2) rfl (nI_1 i) (by decide) rfl (fun ls hl => ?_)
        refine lv_goto (tgt := 2) hx hb dX3_measure_20 (by decide) ?_
        have e0 : va_up ((q_clr (q_sc wi) i).1) i false = (q_clr (q_sc wi) (i + 1)).1 := congrArg (fun z : gSC => z.1) (q_clr_s (q_sc wi) i)
        rw [e0] at hP hD
        exact ih (i + 1) (by omega) (by omega) _ _ hP hD hS _ (lv_sub hl [1, 2, 0] rfl)
  have hl := lv_entry ([.ref (ad 32), .ref (ad 8)]) (n := 5) (Nat.le_of_ble_eq_true rfl)
  refine W.eq (g2 := entryFrame m ([.ref (ad 32), .ref (ad 8)] : List Value).toArray 5) (by rw [ha]) ?_
  rw [lg_entry_eq]
  generalize (lg_sl ([.ref (ad 32), .ref (ad 8)]) ++ List.replicate (5 - (lg_sl ([.ref (ad 32), .ref (ad 8)])).length) Slot.unset).toArray = ls at hl ⊢
  have hl : lv_has ls 5 [(0, .ref (ad 32)), (1, .ref (ad 8))] := hl
  refine lv_iconst (v := nI 0) hx hb dX3_measure_0 (by decide) ?_
  refine lv_istore_n (lv' := [(2, .int (nI 0)), (0, .ref (ad 32)), (1, .ref (ad 8))]) hx hb dX3_measure_1 rfl hl (by decide) rfl (fun ls hl => ?_)
  have e0 : (wi.1, wi.2.1, wi.2.2.1, wi.2.2.2.1, (q_clr (q_sc wi) 0).1, (q_clr (q_sc wi) 0).2.1, (q_clr (q_sc wi) 0).2.2.1, (q_clr (q_sc wi) 0).2.2.2.1, (q_clr (q_sc wi) 0).2.2.2.2, wi.2.2.2.2.2.2.2.2.2.1, wi.2.2.2.2.2.2.2.2.2.2) = wi := (q_clr_0 wi).symm
  have hP : va_P D vwCl (Wd ad cJ cI cZ bm pa p0 p1 p2 li (wi.1, wi.2.1, wi.2.2.1, wi.2.2.2.1, (q_clr (q_sc wi) 0).1, (q_clr (q_sc wi) 0).2.1, (q_clr (q_sc wi) 0).2.2.1, (q_clr (q_sc wi) 0).2.2.2.1, (q_clr (q_sc wi) 0).2.2.2.2, wi.2.2.2.2.2.2.2.2.2.1, wi.2.2.2.2.2.2.2.2.2.2)) s.heap := by rw [e0]; exact hP
  have hD : va_D A (Wd ad cJ cI cZ bm pa p0 p1 p2 li (wi.1, wi.2.1, wi.2.2.1, wi.2.2.2.1, (q_clr (q_sc wi) 0).1, (q_clr (q_sc wi) 0).2.1, (q_clr (q_sc wi) 0).2.2.1, (q_clr (q_sc wi) 0).2.2.2.1, (q_clr (q_sc wi) 0).2.2.2.2, wi.2.2.2.2.2.2.2.2.2.1, wi.2.2.2.2.2.2.2.2.2.2)) := by rw [e0]; exact hD
  exact lpA (wi.2.2.2.2.2.2.2.2.2.1 + 1) 0 (by omega) (by omega) _ _ hP hD hS _ (lv_sub hl [1, 2, 0] rfl)
