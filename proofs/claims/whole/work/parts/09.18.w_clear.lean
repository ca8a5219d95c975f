set_option maxHeartbeats 4000000 in
set_option maxRecDepth 100000 in
theorem w_clear {l : Launch} {D : va_G} {ad : Nat → Nat} {cJ cI cZ : ClassId} {bm : gBM} {pa : gPA} {p0 p1 p2 : gPL} {li : gLI} {wi : gWI} (hoA : q_okA pa) (hoL : q_okL p0) {pu : Nat} (h1 : pu < 40) {ax up : Bool} : bm_Wr l yX4_clearTheWay wsX4_clearTheWay ({ frames := 4, cells := 0, slots := 0, locals := 98 }) D vwCl [(cJ, .long), (cI, .int), (cZ, .boolean)] (Wd ad cJ cI cZ bm pa p0 p1 p2 li wi) [.ref (ad 0), .int (nI pu), .int (bm_b ax), .int (bm_b up)] (Wd ad cJ cI cZ bm pa ((q_clear pa pu ax up 200 p0).1) p1 p2 li wi) (some (.int (bm_b (q_clear pa pu ax up 200 p0).2))) := by
  obtain ⟨hn, hsd, hlw⟩ := hoA
  intro sz
  refine Met.ofW (cc := cX4_clearTheWay) (maxL := 12) (ret := (some .boolean)) (by decide) rfl ?_
  intro p e s m args below meth c s₁ B hml hv
  obtain ⟨ha, hsz, hP, hK, hD0⟩ := hv
  have hx := B.exec
  have hb := B.bytes
  have hr := B.returns
  have hts := atoms_spec (ws := wsX4_clearTheWay) B.pre
  have hown : s.vm.findClass RX4 = some m.cls := findClass_of_methodNamed B.named
  have hlocks := B.notSynchronized
  subst hsz
  have hD := hD0.self (sz := s.heap.size)
  generalize hAe : va_A (Wd ad cJ cI cZ bm pa p0 p1 p2 li wi) s.heap.size = A at hD ⊢
  have hA : ∀ q : Nat, s.heap.size ≤ q → A q := fun q h => by rw [← hAe]; exact Or.inr h
  have hS : va_S A s.heap s.heap [] := va_S.rf
  have lp : ∀ (k : Nat) (i : Nat) (P : gPL), i ≤ 200 → 200 < i + k → q_okL P → q_clear pa pu ax up (200 - i) P = q_clear pa pu ax up 200 p0 → ∀ (H : Heap) (locs : List Loc), va_P D vwCl (Wd ad cJ cI cZ bm pa P p1 p2 li wi) H → va_D A (Wd ad cJ cI cZ bm pa P p1 p2 li wi) → va_S A s.heap H locs → ∀ (ls : Array Slot), lv_has ls 12 [(0, .ref (ad 0)), (1, .int (nI pu)), (2, .int (bm_b ax)), (3, .int (bm_b up)), (4, .int (nI i))] → W p l e (headSpec wsX4_clearTheWay ({ frames := 4, cells := 0, slots := 0, locals := 98 })).room s m args below meth c H locs 0 0 (MQ below (bm_Wq D vwCl [(cJ, .long), (cI, .int), (cZ, .boolean)] (Wd ad cJ cI cZ bm pa ((q_clear pa pu ax up 200 p0).1) p1 p2 li wi) (some (.int (bm_b (q_clear pa pu ax up 200 p0).2))) A) args s 0 0 A) (F0 m 3 ls []) := by
    intro k
    induction k with
    | zero => intro i P hi hk hoL he; exfalso; omega
    | succ k ih =>
      intro i P hi hk hoL he H locs hP hD hS ls hl
      refine lv_iload hx hb dX4_clearTheWay_3 (lv_at hl 4 rfl) ?_
      refine lv_sipush (v := nI 200) hx hb dX4_clearTheWay_5 (by decide) ?_
      refine bm_ni_ge (x := i) (y := 200) (tgt := 156) hx hb (by omega) (by omega) dX4_clearTheWay_8 (by decide) (fun c_1 => ?_) (fun c_1 => ?_)
      · refine lv_iconst (v := bm_b false) hx hb dX4_clearTheWay_156 (by decide) ?_
        exact bm_zretW (v := false) hx hb hr hP hD hK hS ⟨by rw [← he, show 200 - i = 0 from by omega]; rfl, by rw [← he, show 200 - i = 0 from by omega]; rfl⟩ dX4_clearTheWay_157 hlocks
      · refine lv_aload_n hx hb dX4_clearTheWay_11 rfl (lv_at hl 0 rfl) ?_
        refine va_get (D := D) (ci := 4) (v := .ref (ad 8)) (C := RX4) (T := TX4) (N := 10) hx hb hts (inT inX4) hown hK hP 0 rfl rfl 5 (by decide) (hts (.fieldLink RX4 37 "BoardMoves" "now" "LBoardMoves$Placement;") (by decide +kernel)) (fun _ h9 => h9) rfl dX4_clearTheWay_12 ?_
        refine bm_rcallV (As := []) (rest := []) ⟨hx, hb, hml, hown, hts⟩ (r_first ⟨hn, hsd, hlw⟩ hoL) (cwV 0 hts (gdV (by decide +kernel) (by decide +kernel) (by decide +kernel) (by decide +kernel) (by decide +kernel)) rfl rfl rfl (by decide +kernel) ⟨Nat.le_of_ble_eq_true rfl, Nat.le_of_ble_eq_true rfl⟩) hK hP 8 2 rfl rfl rfl hl.1 rfl (Nat.le_of_ble_eq_true rfl) dX4_clearTheWay_15 ⟨Nat.le_of_ble_eq_true rfl, Nat.le_of_ble_eq_true rfl⟩ ?_
        rcases hO_3 : q_first pa P with _ | o_2
        · refine lv_istore (lv' := [(5, .int (-1)), (0, .ref (ad 0)), (1, .int (nI pu)), (2, .int (bm_b ax)), (3, .int (bm_b up)), (4, .int (nI i))]) hx hb dX4_clearTheWay_18 hl (by decide) rfl (fun ls hl => ?_)
          refine lv_iload hx hb dX4_clearTheWay_20 (lv_at hl 0 rfl) ?_
          refine lv_iconst (v := -1) hx hb dX4_clearTheWay_22 (by decide) ?_
          refine lv_icmp_ne (x := (-1)) (y := -1) (tgt := 28) hx hb dX4_clearTheWay_23 (by decide) (fun c_4 => ?_) (fun c_4 => ?_)
          · exact absurd rfl c_4
          · refine lv_iconst (v := bm_b true) hx hb dX4_clearTheWay_26 (by decide) ?_
            exact bm_zretW (v := true) hx hb hr hP hD hK hS ⟨by rw [← he, show 200 - i = (200 - (i + 1)) + 1 from by omega]; simp [q_clear, hO_3], by rw [← he, show 200 - i = (200 - (i + 1)) + 1 from by omega]; simp [q_clear, hO_3]⟩ dX4_clearTheWay_27 hlocks
        · have hB_hO_3 := q_first_lt hO_3
          refine lv_istore (lv' := [(5, .int (nI o_2)), (0, .ref (ad 0)), (1, .int (nI pu)), (2, .int (bm_b ax)), (3, .int (bm_b up)), (4, .int (nI i))]) hx hb dX4_clearTheWay_18 hl (by decide) rfl (fun ls hl => ?_)
          refine lv_iload hx hb dX4_clearTheWay_20 (lv_at hl 0 rfl) ?_
          refine lv_iconst (v := -1) hx hb dX4_clearTheWay_22 (by decide) ?_
          refine lv_icmp_ne (x := (nI o_2)) (y := -1) (tgt := 28) hx hb dX4_clearTheWay_23 (by decide) (fun c_5 => ?_) (fun c_5 => ?_)
          · refine lv_aload_n hx hb dX4_clearTheWay_28 rfl (lv_at hl 1 rfl) ?_
            refine va_get (D := D) (ci := 4) (v := .ref (ad 8)) (C := RX4) (T := TX4) (N := 10) hx hb hts (inT inX4) hown hK hP 0 rfl rfl 5 (by decide) (hts (.fieldLink RX4 37 "BoardMoves" "now" "LBoardMoves$Placement;") (by decide +kernel)) (fun _ h9 => h9) rfl dX4_clearTheWay_29 ?_
            refine lv_iload hx hb dX4_clearTheWay_32 (lv_at hl 0 rfl) ?_
            refine lv_iload hx hb dX4_clearTheWay_34 (lv_at hl 0 rfl) ?_
            refine lv_iconst (v := nI 1) hx hb dX4_clearTheWay_36 (by decide) ?_
            refine bm_nadd hx hb dX4_clearTheWay_37 ?_
            refine bm_rcallV (As := [.int (nI o_2), .int (nI (o_2 + 1))]) (rest := []) ⟨hx, hb, hml, hown, hts⟩ (r_over (j := o_2) (f := (o_2 + 1)) ⟨hn, hsd, hlw⟩ hoL (by omega) (by omega)) (cwV 2 hts (gdV (by decide +kernel) (by decide +kernel) (by decide +kernel) (by decide +kernel) (by decide +kernel)) rfl rfl rfl (by decide +kernel) ⟨Nat.le_of_ble_eq_true rfl, Nat.le_of_ble_eq_true rfl⟩) hK hP 8 2 rfl rfl rfl hl.1 rfl (Nat.le_of_ble_eq_true rfl) dX4_clearTheWay_38 ⟨Nat.le_of_ble_eq_true rfl, Nat.le_of_ble_eq_true rfl⟩ ?_
            rcases hO_7 : q_over pa P o_2 (o_2 + 1) with _ | o_6
            · refine lv_istore (lv' := [(6, .int (-1)), (5, .int (nI o_2)), (0, .ref (ad 0)), (1, .int (nI pu)), (2, .int (bm_b ax)), (3, .int (bm_b up)), (4, .int (nI i))]) hx hb dX4_clearTheWay_41 hl (by decide) rfl (fun ls hl => ?_)
              refine lv_iload hx hb dX4_clearTheWay_43 (lv_at hl 0 rfl) ?_
              refine lv_iconst (v := -1) hx hb dX4_clearTheWay_45 (by decide) ?_
              refine lv_icmp_eq (x := (-1)) (y := -1) (tgt := 63) hx hb dX4_clearTheWay_46 (by decide) (fun c_8 => ?_) (fun c_8 => ?_)
              · refine lv_iconst (v := bm_b false) hx hb dX4_clearTheWay_63 (by decide) ?_
                exact bm_zretW (v := false) hx hb hr hP hD hK hS ⟨by rw [← he, show 200 - i = (200 - (i + 1)) + 1 from by omega]; simp [q_clear, hO_3, hO_7], by rw [← he, show 200 - i = (200 - (i + 1)) + 1 from by omega]; simp [q_clear, hO_3, hO_7]⟩ dX4_clearTheWay_64 hlocks
              · exact absurd rfl c_8
            · have hB_hO_7 := q_over_lt hO_7
              refine lv_istore (lv' := [(6, .int (nI o_6)), (5, .int (nI o_2)), (0, .ref (ad 0)), (1, .int (nI pu)), (2, .int (bm_b ax)), (3, .int (bm_b up)), (4, .int (nI i))]) hx hb dX4_clearTheWay_41 hl (by decide) rfl (fun ls hl => ?_)
              refine lv_iload hx hb dX4_clearTheWay_43 (lv_at hl 0 rfl) ?_
              refine lv_iconst (v := -1) hx hb dX4_clearTheWay_45 (by decide) ?_
              refine lv_icmp_eq (x := (nI o_6)) (y := -1) (tgt := 63) hx hb dX4_clearTheWay_46 (by decide) (fun c_9 => ?_) (fun c_9 => ?_)
              · exact absurd c_9 (bm_nm1 (by omega))
              · refine lv_aload_n hx hb dX4_clearTheWay_49 rfl (lv_at hl 2 rfl) ?_
                refine va_get (D := D) (ci := 4) (v := .ref (ad 1)) (C := RX4) (T := TX4) (N := 10) hx hb hts (inT inX4) hown hK hP 0 rfl rfl 2 (by decide) (hts (.fieldLink RX4 12 "BoardMoves" "parts" "LBoardMoves$Parts;") (by decide +kernel)) (fun _ h9 => h9) rfl dX4_clearTheWay_50 ?_
                refine lv_iload hx hb dX4_clearTheWay_53 (lv_at hl 1 rfl) ?_
                refine lv_iload hx hb dX4_clearTheWay_55 (lv_at hl 0 rfl) ?_
                refine bm_rcallV (As := [.int (nI o_2), .int (nI o_6)]) (rest := []) ⟨hx, hb, hml, hown, hts⟩ (r_mates (a := o_2) (b := o_6) ⟨hn, hsd, hlw⟩ (by omega) (by omega)) (cwV 2 hts (gdV (by decide +kernel) (by decide +kernel) (by decide +kernel) (by decide +kernel) (by decide +kernel)) rfl rfl rfl (by decide +kernel) ⟨Nat.le_of_ble_eq_true rfl, Nat.le_of_ble_eq_true rfl⟩) hK hP 1 1 rfl rfl rfl hl.1 rfl (Nat.le_of_ble_eq_true rfl) dX4_clearTheWay_57 ⟨Nat.le_of_ble_eq_true rfl, Nat.le_of_ble_eq_true rfl⟩ ?_
                refine bm_zb_eq (x := (q_mates pa o_2 o_6)) (tgt := 65) hx hb dX4_clearTheWay_60 (by decide) (fun c_10 => ?_) (fun c_10 => ?_)
                · refine lv_aload_n hx hb dX4_clearTheWay_65 rfl (lv_at hl 2 rfl) ?_
                  refine lv_iload hx hb dX4_clearTheWay_66 (lv_at hl 1 rfl) ?_
                  refine lv_iload hx hb dX4_clearTheWay_68 (lv_at hl 0 rfl) ?_
                  refine lv_iload_n hx hb dX4_clearTheWay_70 rfl (lv_at hl 3 rfl) ?_
                  refine lv_iload_n hx hb dX4_clearTheWay_71 rfl (lv_at hl 4 rfl) ?_
                  refine lv_iload_n hx hb dX4_clearTheWay_72 rfl (lv_at hl 5 rfl) ?_
                  refine bm_rcallV (As := [.int (nI o_2), .int (nI o_6), .int (nI pu), .int (bm_b ax), .int (bm_b up)]) (rest := []) ⟨hx, hb, hml, hown, hts⟩ (r_goes (lo := o_2) (hi := o_6) (pu := pu) ⟨hn, hsd, hlw⟩ (by omega) (by omega) (by omega)) (cwV 5 hts (gdV (by decide +kernel) (by decide +kernel) (by decide +kernel) (by decide +kernel) (by decide +kernel)) rfl rfl rfl (by decide +kernel) ⟨Nat.le_of_ble_eq_true rfl, Nat.le_of_ble_eq_true rfl⟩) hK hP 0 4 rfl rfl rfl hl.1 rfl (Nat.le_of_ble_eq_true rfl) dX4_clearTheWay_73 ⟨Nat.le_of_ble_eq_true rfl, Nat.le_of_ble_eq_true rfl⟩ ?_
                  refine lv_istore (lv' := [(7, .int (bm_b (q_goes pa P o_2 o_6 pu ax up))), (6, .int (nI o_6)), (5, .int (nI o_2)), (0, .ref (ad 0)), (1, .int (nI pu)), (2, .int (bm_b ax)), (3, .int (bm_b up)), (4, .int (nI i))]) hx hb dX4_clearTheWay_76 hl (by decide) rfl (fun ls hl => ?_)
                  refine lv_iload hx hb dX4_clearTheWay_78 (lv_at hl 0 rfl) ?_
                  refine bm_zb_eq (x := (q_goes pa P o_2 o_6 pu ax up)) (tgt := 88) hx hb dX4_clearTheWay_80 (by decide) (fun c_11 => ?_) (fun c_11 => ?_)
                  · refine lv_iload hx hb dX4_clearTheWay_88 (lv_at hl 1 rfl) ?_
                    refine lv_istore (lv' := [(8, .int (nI o_6)), (7, .int (bm_b (q_goes pa P o_2 o_6 pu ax up))), (6, .int (nI o_6)), (5, .int (nI o_2)), (0, .ref (ad 0)), (1, .int (nI pu)), (2, .int (bm_b ax)), (3, .int (bm_b up)), (4, .int (nI i))]) hx hb dX4_clearTheWay_90 hl (by decide) rfl (fun ls hl => ?_)
                    refine lv_iload hx hb dX4_clearTheWay_92 (lv_at hl 1 rfl) ?_
                    refine bm_zb_eq (x := (q_goes pa P o_2 o_6 pu ax up)) (tgt := 102) hx hb dX4_clearTheWay_94 (by decide) (fun c_12 => ?_) (fun c_12 => ?_)
                    · refine lv_iload hx hb dX4_clearTheWay_102 (lv_at hl 3 rfl) ?_
                      refine lv_istore (lv' := [(9, .int (nI o_2)), (8, .int (nI o_6)), (7, .int (bm_b (q_goes pa P o_2 o_6 pu ax up))), (6, .int (nI o_6)), (5, .int (nI o_2)), (0, .ref (ad 0)), (1, .int (nI pu)), (2, .int (bm_b ax)), (3, .int (bm_b up)), (4, .int (nI i))]) hx hb dX4_clearTheWay_104 hl (by decide) rfl (fun ls hl => ?_)
                      refine lv_aload_n hx hb dX4_clearTheWay_106 rfl (lv_at hl 5 rfl) ?_
                      refine va_get (D := D) (ci := 4) (v := .ref (ad 8)) (C := RX4) (T := TX4) (N := 10) hx hb hts (inT inX4) hown hK hP 0 rfl rfl 5 (by decide) (hts (.fieldLink RX4 37 "BoardMoves" "now" "LBoardMoves$Placement;") (by decide +kernel)) (fun _ h9 => h9) rfl dX4_clearTheWay_107 ?_
                      refine lv_iload hx hb dX4_clearTheWay_110 (lv_at hl 1 rfl) ?_
                      refine lv_iload hx hb dX4_clearTheWay_112 (lv_at hl 0 rfl) ?_
                      refine lv_iload_n hx hb dX4_clearTheWay_114 rfl (lv_at hl 7 rfl) ?_
                      refine lv_iload_n hx hb dX4_clearTheWay_115 rfl (lv_at hl 8 rfl) ?_
                      refine bm_rcallV (As := [.int (nI o_6), .int (nI o_2), .int (bm_b ax), .int (bm_b up)]) (rest := []) ⟨hx, hb, hml, hown, hts⟩ (r_way (g := o_6) (t := o_2) hoL (by omega) (by omega)) (cwV 4 hts (gdV (by decide +kernel) (by decide +kernel) (by decide +kernel) (by decide +kernel) (by decide +kernel)) rfl rfl rfl (by decide +kernel) ⟨Nat.le_of_ble_eq_true rfl, Nat.le_of_ble_eq_true rfl⟩) hK hP 8 2 rfl rfl rfl hl.1 rfl (Nat.le_of_ble_eq_true rfl) dX4_clearTheWay_116 ⟨Nat.le_of_ble_eq_true rfl, Nat.le_of_ble_eq_true rfl⟩ ?_
                      refine lv_lstore (lv' := [(10, .long (q_way pa P o_6 o_2 ax up)), (9, .int (nI o_2)), (8, .int (nI o_6)), (7, .int (bm_b (q_goes pa P o_2 o_6 pu ax up))), (6, .int (nI o_6)), (5, .int (nI o_2)), (0, .ref (ad 0)), (1, .int (nI pu)), (2, .int (bm_b ax)), (3, .int (bm_b up)), (4, .int (nI i))]) hx hb dX4_clearTheWay_119 hl (by decide) rfl (fun ls hl => ?_)
                      refine lv_aload_n hx hb dX4_clearTheWay_121 rfl (lv_at hl 6 rfl) ?_
                      refine va_get (D := D) (ci := 4) (v := .ref (ad 8)) (C := RX4) (T := TX4) (N := 10) hx hb hts (inT inX4) hown hK hP 0 rfl rfl 5 (by decide) (hts (.fieldLink RX4 37 "BoardMoves" "now" "LBoardMoves$Placement;") (by decide +kernel)) (fun _ h9 => h9) rfl dX4_clearTheWay_122 ?_
                      refine lv_iload hx hb dX4_clearTheWay_125 (lv_at hl 2 rfl) ?_
                      refine lv_iload_n hx hb dX4_clearTheWay_127 rfl (lv_at hl 8 rfl) ?_
                      refine bm_zb_eq (x := ax) (tgt := 136) hx hb dX4_clearTheWay_128 (by decide) (fun c_13 => ?_) (fun c_13 => ?_)
                      · refine lv_lconst (v := 0) hx hb dX4_clearTheWay_136 (by decide) ?_
                        refine lv_iload_n hx hb dX4_clearTheWay_137 rfl (lv_at hl 8 rfl) ?_
                        refine bm_zb_eq (x := ax) (tgt := 145) hx hb dX4_clearTheWay_138 (by decide) (fun c_14 => ?_) (fun c_14 => ?_)
                        · refine lv_lload hx hb dX4_clearTheWay_145 (lv_at hl 0 rfl) ?_
                          refine bm_wcallV (As := [.int (nI o_6), .long 0, .long (q_way pa P o_6 o_2 ax up)]) (rest := []) ⟨hx, hb, hml, hown, hts⟩ (w_shift (j := o_6) ⟨hn, hsd, hlw⟩ (by omega)) (cwV 3 hts (gdV (by decide +kernel) (by decide +kernel) (by decide +kernel) (by decide +kernel) (by decide +kernel)) rfl rfl rfl (by decide +kernel) ⟨Nat.le_of_ble_eq_true rfl, Nat.le_of_ble_eq_true rfl⟩) hK hP hD hS hA 8 2 rfl rfl rfl hl.1 rfl (Nat.le_of_ble_eq_true rfl) dX4_clearTheWay_147 ⟨Nat.le_of_ble_eq_true rfl, Nat.le_of_ble_eq_true rfl⟩ (fun H locs hP hD hS => ?_)
                          have hP : va_P D vwCl (Wd ad cJ cI cZ bm pa (q_shift pa P o_6 0 (q_way pa P o_6 o_2 ax up)) p1 p2 li wi) H := hP
                          have hD : va_D A (Wd ad cJ cI cZ bm pa (q_shift pa P o_6 0 (q_way pa P o_6 o_2 ax up)) p1 p2 li wi) := hD
                          refine lv_iinc (v := (nI (i + 1))) (lv' := [(4, .int (nI (i + 1))), (10, .long (q_way pa P o_6 o_2 ax up)), (9, .int (nI o_2)), (8, .int (nI o_6)), (7, .int (bm_b (q_goes pa P o_2 o_6 pu ax up))), (6, .int (nI o_6)), (5, .int (nI o_2)), (0, .ref (ad 0)), (1, .int (nI pu)), (2, .int (bm_b ax)), (3, .int (bm_b up))]) hx hb dX4_clearTheWay_150 hl (k := 10) rfl (nI_1 i) (by decide) rfl (fun ls hl => ?_)
                          refine lv_goto (tgt := 3) hx hb dX4_clearTheWay_153 (by decide) ?_
                          exact ih (i + 1) (q_shift pa P o_6 0 (q_way pa P o_6 o_2 ax up)) (by omega) (by omega) hoL (by rw [← he, show 200 - i = (200 - (i + 1)) + 1 from by omega]; simp [q_clear, hO_3, hO_7, c_10, c_11, c_12, c_13, c_14]) _ _ hP hD hS _ (lv_sub hl [7, 8, 9, 10, 0] rfl)
                        · refine lv_lconst (v := 0) hx hb dX4_clearTheWay_141 (by decide) ?_
                          refine lv_goto (tgt := 147) hx hb dX4_clearTheWay_142 (by decide) ?_
                          refine bm_wcallV (As := [.int (nI o_6), .long 0, .long 0]) (rest := []) ⟨hx, hb, hml, hown, hts⟩ (w_shift (j := o_6) ⟨hn, hsd, hlw⟩ (by omega)) (cwV 3 hts (gdV (by decide +kernel) (by decide +kernel) (by decide +kernel) (by decide +kernel) (by decide +kernel)) rfl rfl rfl (by decide +kernel) ⟨Nat.le_of_ble_eq_true rfl, Nat.le_of_ble_eq_true rfl⟩) hK hP hD hS hA 8 2 rfl rfl rfl hl.1 rfl (Nat.le_of_ble_eq_true rfl) dX4_clearTheWay_147 ⟨Nat.le_of_ble_eq_true rfl, Nat.le_of_ble_eq_true rfl⟩ (fun H locs hP hD hS => ?_)
                          have hP : va_P D vwCl (Wd ad cJ cI cZ bm pa (q_shift pa P o_6 0 0) p1 p2 li wi) H := hP
                          have hD : va_D A (Wd ad cJ cI cZ bm pa (q_shift pa P o_6 0 0) p1 p2 li wi) := hD
                          refine lv_iinc (v := (nI (i + 1))) (lv' := [(4, .int (nI (i + 1))), (10, .long (q_way pa P o_6 o_2 ax up)), (9, .int (nI o_2)), (8, .int (nI o_6)), (7, .int (bm_b (q_goes pa P o_2 o_6 pu ax up))), (6, .int (nI o_6)), (5, .int (nI o_2)), (0, .ref (ad 0)), (1, .int (nI pu)), (2, .int (bm_b ax)), (3, .int (bm_b up))]) hx hb dX4_clearTheWay_150 hl (k := 10) rfl (nI_1 i) (by decide) rfl (fun ls hl => ?_)
                          refine lv_goto (tgt := 3) hx hb dX4_clearTheWay_153 (by decide) ?_
                          exact ih (i + 1) (q_shift pa P o_6 0 0) (by omega) (by omega) hoL (by rw [← he, show 200 - i = (200 - (i + 1)) + 1 from by omega]; simp [q_clear, hO_3, hO_7, c_10, c_11, c_12, c_13, c_14]) _ _ hP hD hS _ (lv_sub hl [7, 8, 9, 10, 0] rfl)
                      · refine lv_lload hx hb dX4_clearTheWay_131 (lv_at hl 0 rfl) ?_
                        refine lv_goto (tgt := 137) hx hb dX4_clearTheWay_133 (by decide) ?_
                        refine lv_iload_n hx hb dX4_clearTheWay_137 rfl (lv_at hl 8 rfl) ?_
                        refine bm_zb_eq (x := ax) (tgt := 145) hx hb dX4_clearTheWay_138 (by decide) (fun c_15 => ?_) (fun c_15 => ?_)
                        · refine lv_lload hx hb dX4_clearTheWay_145 (lv_at hl 0 rfl) ?_
                          refine bm_wcallV (As := [.int (nI o_6), .long (q_way pa P o_6 o_2 ax up), .long (q_way pa P o_6 o_2 ax up)]) (rest := []) ⟨hx, hb, hml, hown, hts⟩ (w_shift (j := o_6) ⟨hn, hsd, hlw⟩ (by omega)) (cwV 3 hts (gdV (by decide +kernel) (by decide +kernel) (by decide +kernel) (by decide +kernel) (by decide +kernel)) rfl rfl rfl (by decide +kernel) ⟨Nat.le_of_ble_eq_true rfl, Nat.le_of_ble_eq_true rfl⟩) hK hP hD hS hA 8 2 rfl rfl rfl hl.1 rfl (Nat.le_of_ble_eq_true rfl) dX4_clearTheWay_147 ⟨Nat.le_of_ble_eq_true rfl, Nat.le_of_ble_eq_true rfl⟩ (fun H locs hP hD hS => ?_)
                          have hP : va_P D vwCl (Wd ad cJ cI cZ bm pa (q_shift pa P o_6 (q_way pa P o_6 o_2 ax up) (q_way pa P o_6 o_2 ax up)) p1 p2 li wi) H := hP
                          have hD : va_D A (Wd ad cJ cI cZ bm pa (q_shift pa P o_6 (q_way pa P o_6 o_2 ax up) (q_way pa P o_6 o_2 ax up)) p1 p2 li wi) := hD
                          refine lv_iinc (v := (nI (i + 1))) (lv' := [(4, .int (nI (i + 1))), (10, .long (q_way pa P o_6 o_2 ax up)), (9, .int (nI o_2)), (8, .int (nI o_6)), (7, .int (bm_b (q_goes pa P o_2 o_6 pu ax up))), (6, .int (nI o_6)), (5, .int (nI o_2)), (0, .ref (ad 0)), (1, .int (nI pu)), (2, .int (bm_b ax)), (3, .int (bm_b up))]) hx hb dX4_clearTheWay_150 hl (k := 10) rfl (nI_1 i) (by decide) rfl (fun ls hl => ?_)
                          refine lv_goto (tgt := 3) hx hb dX4_clearTheWay_153 (by decide) ?_
                          exact ih (i + 1) (q_shift pa P o_6 (q_way pa P o_6 o_2 ax up) (q_way pa P o_6 o_2 ax up)) (by omega) (by omega) hoL (by rw [← he, show 200 - i = (200 - (i + 1)) + 1 from by omega]; simp [q_clear, hO_3, hO_7, c_10, c_11, c_12, c_13, c_15]) _ _ hP hD hS _ (lv_sub hl [7, 8, 9, 10, 0] rfl)
                        · refine lv_lconst (v := 0) hx hb dX4_clearTheWay_141 (by decide) ?_
                          refine lv_goto (tgt := 147) hx hb dX4_clearTheWay_142 (by decide) ?_
                          refine bm_wcallV (As := [.int (nI o_6), .long (q_way pa P o_6 o_2 ax up), .long 0]) (rest := []) ⟨hx, hb, hml, hown, hts⟩ (w_shift (j := o_6) ⟨hn, hsd, hlw⟩ (by omega)) (cwV 3 hts (gdV (by decide +kernel) (by decide +kernel) (by decide +kernel) (by decide +kernel) (by decide +kernel)) rfl rfl rfl (by decide +kernel) ⟨Nat.le_of_ble_eq_true rfl, Nat.le_of_ble_eq_true rfl⟩) hK hP hD hS hA 8 2 rfl rfl rfl hl.1 rfl (Nat.le_of_ble_eq_true rfl) dX4_clearTheWay_147 ⟨Nat.le_of_ble_eq_true rfl, Nat.le_of_ble_eq_true rfl⟩ (fun H locs hP hD hS => ?_)
                          have hP : va_P D vwCl (Wd ad cJ cI cZ bm pa (q_shift pa P o_6 (q_way pa P o_6 o_2 ax up) 0) p1 p2 li wi) H := hP
                          have hD : va_D A (Wd ad cJ cI cZ bm pa (q_shift pa P o_6 (q_way pa P o_6 o_2 ax up) 0) p1 p2 li wi) := hD
                          refine lv_iinc (v := (nI (i + 1))) (lv' := [(4, .int (nI (i + 1))), (10, .long (q_way pa P o_6 o_2 ax up)), (9, .int (nI o_2)), (8, .int (nI o_6)), (7, .int (bm_b (q_goes pa P o_2 o_6 pu ax up))), (6, .int (nI o_6)), (5, .int (nI o_2)), (0, .ref (ad 0)), (1, .int (nI pu)), (2, .int (bm_b ax)), (3, .int (bm_b up))]) hx hb dX4_clearTheWay_150 hl (k := 10) rfl (nI_1 i) (by decide) rfl (fun ls hl => ?_)
                          refine lv_goto (tgt := 3) hx hb dX4_clearTheWay_153 (by decide) ?_
                          exact ih (i + 1) (q_shift pa P o_6 (q_way pa P o_6 o_2 ax up) 0) (by omega) (by omega) hoL (by rw [← he, show 200 - i = (200 - (i + 1)) + 1 from by omega]; simp [q_clear, hO_3, hO_7, c_10, c_11, c_12, c_13, c_15]) _ _ hP hD hS _ (lv_sub hl [7, 8, 9, 10, 0] rfl)
                    · refine lv_iload hx hb dX4_clearTheWay_97 (lv_at hl 2 rfl) ?_
                      refine lv_goto (tgt := 104) hx hb dX4_clearTheWay_99 (by decide) ?_
                      refine lv_istore (lv' := [(9, .int (nI o_6)), (8, .int (nI o_6)), (7, .int (bm_b (q_goes pa P o_2 o_6 pu ax up))), (6, .int (nI o_6)), (5, .int (nI o_2)), (0, .ref (ad 0)), (1, .int (nI pu)), (2, .int (bm_b ax)), (3, .int (bm_b up)), (4, .int (nI i))]) hx hb dX4_clearTheWay_104 hl (by decide) rfl (fun ls hl => ?_)
                      refine lv_aload_n hx hb dX4_clearTheWay_106 rfl (lv_at hl 5 rfl) ?_
                      refine va_get (D := D) (ci := 4) (v := .ref (ad 8)) (C := RX4) (T := TX4) (N := 10) hx hb hts (inT inX4) hown hK hP 0 rfl rfl 5 (by decide) (hts (.fieldLink RX4 37 "BoardMoves" "now" "LBoardMoves$Placement;") (by decide +kernel)) (fun _ h9 => h9) rfl dX4_clearTheWay_107 ?_
                      refine lv_iload hx hb dX4_clearTheWay_110 (lv_at hl 1 rfl) ?_
                      refine lv_iload hx hb dX4_clearTheWay_112 (lv_at hl 0 rfl) ?_
                      refine lv_iload_n hx hb dX4_clearTheWay_114 rfl (lv_at hl 7 rfl) ?_
                      refine lv_iload_n hx hb dX4_clearTheWay_115 rfl (lv_at hl 8 rfl) ?_
                      refine bm_rcallV (As := [.int (nI o_6), .int (nI o_6), .int (bm_b ax), .int (bm_b up)]) (rest := []) ⟨hx, hb, hml, hown, hts⟩ (r_way (g := o_6) (t := o_6) hoL (by omega) (by omega)) (cwV 4 hts (gdV (by decide +kernel) (by decide +kernel) (by decide +kernel) (by decide +kernel) (by decide +kernel)) rfl rfl rfl (by decide +kernel) ⟨Nat.le_of_ble_eq_true rfl, Nat.le_of_ble_eq_true rfl⟩) hK hP 8 2 rfl rfl rfl hl.1 rfl (Nat.le_of_ble_eq_true rfl) dX4_clearTheWay_116 ⟨Nat.le_of_ble_eq_true rfl, Nat.le_of_ble_eq_true rfl⟩ ?_
                      refine lv_lstore (lv' := [(10, .long (q_way pa P o_6 o_6 ax up)), (9, .int (nI o_6)), (8, .int (nI o_6)), (7, .int (bm_b (q_goes pa P o_2 o_6 pu ax up))), (6, .int (nI o_6)), (5, .int (nI o_2)), (0, .ref (ad 0)), (1, .int (nI pu)), (2, .int (bm_b ax)), (3, .int (bm_b up)), (4, .int (nI i))]) hx hb dX4_clearTheWay_119 hl (by decide) rfl (fun ls hl => ?_)
                      refine lv_aload_n hx hb dX4_clearTheWay_121 rfl (lv_at hl 6 rfl) ?_
                      refine va_get (D := D) (ci := 4) (v := .ref (ad 8)) (C := RX4) (T := TX4) (N := 10) hx hb hts (inT inX4) hown hK hP 0 rfl rfl 5 (by decide) (hts (.fieldLink RX4 37 "BoardMoves" "now" "LBoardMoves$Placement;") (by decide +kernel)) (fun _ h9 => h9) rfl dX4_clearTheWay_122 ?_
                      refine lv_iload hx hb dX4_clearTheWay_125 (lv_at hl 2 rfl) ?_
                      refine lv_iload_n hx hb dX4_clearTheWay_127 rfl (lv_at hl 8 rfl) ?_
                      refine bm_zb_eq (x := ax) (tgt := 136) hx hb dX4_clearTheWay_128 (by decide) (fun c_16 => ?_) (fun c_16 => ?_)
                      · refine lv_lconst (v := 0) hx hb dX4_clearTheWay_136 (by decide) ?_
                        refine lv_iload_n hx hb dX4_clearTheWay_137 rfl (lv_at hl 8 rfl) ?_
                        refine bm_zb_eq (x := ax) (tgt := 145) hx hb dX4_clearTheWay_138 (by decide) (fun c_17 => ?_) (fun c_17 => ?_)
                        · refine lv_lload hx hb dX4_clearTheWay_145 (lv_at hl 0 rfl) ?_
                          refine bm_wcallV (As := [.int (nI o_6), .long 0, .long (q_way pa P o_6 o_6 ax up)]) (rest := []) ⟨hx, hb, hml, hown, hts⟩ (w_shift (j := o_6) ⟨hn, hsd, hlw⟩ (by omega)) (cwV 3 hts (gdV (by decide +kernel) (by decide +kernel) (by decide +kernel) (by decide +kernel) (by decide +kernel)) rfl rfl rfl (by decide +kernel) ⟨Nat.le_of_ble_eq_true rfl, Nat.le_of_ble_eq_true rfl⟩) hK hP hD hS hA 8 2 rfl rfl rfl hl.1 rfl (Nat.le_of_ble_eq_true rfl) dX4_clearTheWay_147 ⟨Nat.le_of_ble_eq_true rfl, Nat.le_of_ble_eq_true rfl⟩ (fun H locs hP hD hS => ?_)
                          have hP : va_P D vwCl (Wd ad cJ cI cZ bm pa (q_shift pa P o_6 0 (q_way pa P o_6 o_6 ax up)) p1 p2 li wi) H := hP
                          have hD : va_D A (Wd ad cJ cI cZ bm pa (q_shift pa P o_6 0 (q_way pa P o_6 o_6 ax up)) p1 p2 li wi) := hD
                          refine lv_iinc (v := (nI (i + 1))) (lv' := [(4, .int (nI (i + 1))), (10, .long (q_way pa P o_6 o_6 ax up)), (9, .int (nI o_6)), (8, .int (nI o_6)), (7, .int (bm_b (q_goes pa P o_2 o_6 pu ax up))), (6, .int (nI o_6)), (5, .int (nI o_2)), (0, .ref (ad 0)), (1, .int (nI pu)), (2, .int (bm_b ax)), (3, .int (bm_b up))]) hx hb dX4_clearTheWay_150 hl (k := 10) rfl (nI_1 i) (by decide) rfl (fun ls hl => ?_)
                          refine lv_goto (tgt := 3) hx hb dX4_clearTheWay_153 (by decide) ?_
                          exact ih (i + 1) (q_shift pa P o_6 0 (q_way pa P o_6 o_6 ax up)) (by omega) (by omega) hoL (by rw [← he, show 200 - i = (200 - (i + 1)) + 1 from by omega]; simp [q_clear, hO_3, hO_7, c_10, c_11, c_12, c_16, c_17]) _ _ hP hD hS _ (lv_sub hl [7, 8, 9, 10, 0] rfl)
                        · refine lv_lconst (v := 0) hx hb dX4_clearTheWay_141 (by decide) ?_
                          refine lv_goto (tgt := 147) hx hb dX4_clearTheWay_142 (by decide) ?_
                          refine bm_wcallV (As := [.int (nI o_6), .long 0, .long 0]) (rest := []) ⟨hx, hb, hml, hown, hts⟩ (w_shift (j := o_6) ⟨hn, hsd, hlw⟩ (by omega)) (cwV 3 hts (gdV (by decide +kernel) (by decide +kernel) (by decide +kernel) (by decide +kernel) (by decide +kernel)) rfl rfl rfl (by decide +kernel) ⟨Nat.le_of_ble_eq_true rfl, Nat.le_of_ble_eq_true rfl⟩) hK hP hD hS hA 8 2 rfl rfl rfl hl.1 rfl (Nat.le_of_ble_eq_true rfl) dX4_clearTheWay_147 ⟨Nat.le_of_ble_eq_true rfl, Nat.le_of_ble_eq_true rfl⟩ (fun H locs hP hD hS => ?_)
                          have hP : va_P D vwCl (Wd ad cJ cI cZ bm pa (q_shift pa P o_6 0 0) p1 p2 li wi) H := hP
                          have hD : va_D A (Wd ad cJ cI cZ bm pa (q_shift pa P o_6 0 0) p1 p2 li wi) := hD
                          refine lv_iinc (v := (nI (i + 1))) (lv' := [(4, .int (nI (i + 1))), (10, .long (q_way pa P o_6 o_6 ax up)), (9, .int (nI o_6)), (8, .int (nI o_6)), (7, .int (bm_b (q_goes pa P o_2 o_6 pu ax up))), (6, .int (nI o_6)), (5, .int (nI o_2)), (0, .ref (ad 0)), (1, .int (nI pu)), (2, .int (bm_b ax)), (3, .int (bm_b up))]) hx hb dX4_clearTheWay_150 hl (k := 10) rfl (nI_1 i) (by decide) rfl (fun ls hl => ?_)
                          refine lv_goto (tgt := 3) hx hb dX4_clearTheWay_153 (by decide) ?_
                          exact ih (i + 1) (q_shift pa P o_6 0 0) (by omega) (by omega) hoL (by rw [← he, show 200 - i = (200 - (i + 1)) + 1 from by omega]; simp [q_clear, hO_3, hO_7, c_10, c_11, c_12, c_16, c_17]) _ _ hP hD hS _ (lv_sub hl [7, 8, 9, 10, 0] rfl)
                      · refine lv_lload hx hb dX4_clearTheWay_131 (lv_at hl 0 rfl) ?_
                        refine lv_goto (tgt := 137) hx hb dX4_clearTheWay_133 (by decide) ?_
                        refine lv_iload_n hx hb dX4_clearTheWay_137 rfl (lv_at hl 8 rfl) ?_
                        refine bm_zb_eq (x := ax) (tgt := 145) hx hb dX4_clearTheWay_138 (by decide) (fun c_18 => ?_) (fun c_18 => ?_)
                        · refine lv_lload hx hb dX4_clearTheWay_145 (lv_at hl 0 rfl) ?_
                          refine bm_wcallV (As := [.int (nI o_6), .long (q_way pa P o_6 o_6 ax up), .long (q_way pa P o_6 o_6 ax up)]) (rest := []) ⟨hx, hb, hml, hown, hts⟩ (w_shift (j := o_6) ⟨hn, hsd, hlw⟩ (by omega)) (cwV 3 hts (gdV (by decide +kernel) (by decide +kernel) (by decide +kernel) (by decide +kernel) (by decide +kernel)) rfl rfl rfl (by decide +kernel) ⟨Nat.le_of_ble_eq_true rfl, Nat.le_of_ble_eq_true rfl⟩) hK hP hD hS hA 8 2 rfl rfl rfl hl.1 rfl (Nat.le_of_ble_eq_true rfl) dX4_clearTheWay_147 ⟨Nat.le_of_ble_eq_true rfl, Nat.le_of_ble_eq_true rfl⟩ (fun H locs hP hD hS => ?_)
                          have hP : va_P D vwCl (Wd ad cJ cI cZ bm pa (q_shift pa P o_6 (q_way pa P o_6 o_6 ax up) (q_way pa P o_6 o_6 ax up)) p1 p2 li wi) H := hP
                          have hD : va_D A (Wd ad cJ cI cZ bm pa (q_shift pa P o_6 (q_way pa P o_6 o_6 ax up) (q_way pa P o_6 o_6 ax up)) p1 p2 li wi) := hD
                          refine lv_iinc (v := (nI (i + 1))) (lv' := [(4, .int (nI (i + 1))), (10, .long (q_way pa P o_6 o_6 ax up)), (9, .int (nI o_6)), (8, .int (nI o_6)), (7, .int (bm_b (q_goes pa P o_2 o_6 pu ax up))), (6, .int (nI o_6)), (5, .int (nI o_2)), (0, .ref (ad 0)), (1, .int (nI pu)), (2, .int (bm_b ax)), (3, .int (bm_b up))]) hx hb dX4_clearTheWay_150 hl (k := 10) rfl (nI_1 i) (by decide) rfl (fun ls hl => ?_)
                          refine lv_goto (tgt := 3) hx hb dX4_clearTheWay_153 (by decide) ?_
                          exact ih (i + 1) (q_shift pa P o_6 (q_way pa P o_6 o_6 ax up) (q_way pa P o_6 o_6 ax up)) (by omega) (by omega) hoL (by rw [← he, show 200 - i = (200 - (i + 1)) + 1 from by omega]; simp [q_clear, hO_3, hO_7, c_10, c_11, c_12, c_16, c_18]) _ _ hP hD hS _ (lv_sub hl [7, 8, 9, 10, 0] rfl)
                        · refine lv_lconst (v := 0) hx hb dX4_clearTheWay_141 (by decide) ?_
                          refine lv_goto (tgt := 147) hx hb dX4_clearTheWay_142 (by decide) ?_
                          refine bm_wcallV (As := [.int (nI o_6), .long (q_way pa P o_6 o_6 ax up), .long 0]) (rest := []) ⟨hx, hb, hml, hown, hts⟩ (w_shift (j := o_6) ⟨hn, hsd, hlw⟩ (by omega)) (cwV 3 hts (gdV (by decide +kernel) (by decide +kernel) (by decide +kernel) (by decide +kernel) (by decide +kernel)) rfl rfl rfl (by decide +kernel) ⟨Nat.le_of_ble_eq_true rfl, Nat.le_of_ble_eq_true rfl⟩) hK hP hD hS hA 8 2 rfl rfl rfl hl.1 rfl (Nat.le_of_ble_eq_true rfl) dX4_clearTheWay_147 ⟨Nat.le_of_ble_eq_true rfl, Nat.le_of_ble_eq_true rfl⟩ (fun H locs hP hD hS => ?_)
                          have hP : va_P D vwCl (Wd ad cJ cI cZ bm pa (q_shift pa P o_6 (q_way pa P o_6 o_6 ax up) 0) p1 p2 li wi) H := hP
                          have hD : va_D A (Wd ad cJ cI cZ bm pa (q_shift pa P o_6 (q_way pa P o_6 o_6 ax up) 0) p1 p2 li wi) := hD
                          refine lv_iinc (v := (nI (i + 1))) (lv' := [(4, .int (nI (i + 1))), (10, .long (q_way pa P o_6 o_6 ax up)), (9, .int (nI o_6)), (8, .int (nI o_6)), (7, .int (bm_b (q_goes pa P o_2 o_6 pu ax up))), (6, .int (nI o_6)), (5, .int (nI o_2)), (0, .ref (ad 0)), (1, .int (nI pu)), (2, .int (bm_b ax)), (3, .int (bm_b up))]) hx hb dX4_clearTheWay_150 hl (k := 10) rfl (nI_1 i) (by decide) rfl (fun ls hl => ?_)
                          refine lv_goto (tgt := 3) hx hb dX4_clearTheWay_153 (by decide) ?_
                          exact ih (i + 1) (q_shift pa P o_6 (q_way pa P o_6 o_6 ax up) 0) (by omega) (by omega) hoL (by rw [← he, show 200 - i = (200 - (i + 1)) + 1 from by omega]; simp [q_clear, hO_3, hO_7, c_10, c_11, c_12, c_16, c_18]) _ _ hP hD hS _ (lv_sub hl [7, 8, 9, 10, 0] rfl)
                  · refine lv_iload hx hb dX4_clearTheWay_83 (lv_at hl 2 rfl) ?_
                    refine lv_goto (tgt := 90) hx hb dX4_clearTheWay_85 (by decide) ?_
                    refine lv_istore (lv' := [(8, .int (nI o_2)), (7, .int (bm_b (q_goes pa P o_2 o_6 pu ax up))), (6, .int (nI o_6)), (5, .int (nI o_2)), (0, .ref (ad 0)), (1, .int (nI pu)), (2, .int (bm_b ax)), (3, .int (bm_b up)), (4, .int (nI i))]) hx hb dX4_clearTheWay_90 hl (by decide) rfl (fun ls hl => ?_)
                    refine lv_iload hx hb dX4_clearTheWay_92 (lv_at hl 1 rfl) ?_
                    refine bm_zb_eq (x := (q_goes pa P o_2 o_6 pu ax up)) (tgt := 102) hx hb dX4_clearTheWay_94 (by decide) (fun c_19 => ?_) (fun c_19 => ?_)
                    · refine lv_iload hx hb dX4_clearTheWay_102 (lv_at hl 3 rfl) ?_
                      refine lv_istore (lv' := [(9, .int (nI o_2)), (8, .int (nI o_2)), (7, .int (bm_b (q_goes pa P o_2 o_6 pu ax up))), (6, .int (nI o_6)), (5, .int (nI o_2)), (0, .ref (ad 0)), (1, .int (nI pu)), (2, .int (bm_b ax)), (3, .int (bm_b up)), (4, .int (nI i))]) hx hb dX4_clearTheWay_104 hl (by decide) rfl (fun ls hl => ?_)
                      refine lv_aload_n hx hb dX4_clearTheWay_106 rfl (lv_at hl 5 rfl) ?_
                      refine va_get (D := D) (ci := 4) (v := .ref (ad 8)) (C := RX4) (T := TX4) (N := 10) hx hb hts (inT inX4) hown hK hP 0 rfl rfl 5 (by decide) (hts (.fieldLink RX4 37 "BoardMoves" "now" "LBoardMoves$Placement;") (by decide +kernel)) (fun _ h9 => h9) rfl dX4_clearTheWay_107 ?_
                      refine lv_iload hx hb dX4_clearTheWay_110 (lv_at hl 1 rfl) ?_
                      refine lv_iload hx hb dX4_clearTheWay_112 (lv_at hl 0 rfl) ?_
                      refine lv_iload_n hx hb dX4_clearTheWay_114 rfl (lv_at hl 7 rfl) ?_
                      refine lv_iload_n hx hb dX4_clearTheWay_115 rfl (lv_at hl 8 rfl) ?_
                      refine bm_rcallV (As := [.int (nI o_2), .int (nI o_2), .int (bm_b ax), .int (bm_b up)]) (rest := []) ⟨hx, hb, hml, hown, hts⟩ (r_way (g := o_2) (t := o_2) hoL (by omega) (by omega)) (cwV 4 hts (gdV (by decide +kernel) (by decide +kernel) (by decide +kernel) (by decide +kernel) (by decide +kernel)) rfl rfl rfl (by decide +kernel) ⟨Nat.le_of_ble_eq_true rfl, Nat.le_of_ble_eq_true rfl⟩) hK hP 8 2 rfl rfl rfl hl.1 rfl (Nat.le_of_ble_eq_true rfl) dX4_clearTheWay_116 ⟨Nat.le_of_ble_eq_true rfl, Nat.le_of_ble_eq_true rfl⟩ ?_
                      refine lv_lstore (lv' := [(10, .long (q_way pa P o_2 o_2 ax up)), (9, .int (nI o_2)), (8, .int (nI o_2)), (7, .int (bm_b (q_goes pa P o_2 o_6 pu ax up))), (6, .int (nI o_6)), (5, .int (nI o_2)), (0, .ref (ad 0)), (1, .int (nI pu)), (2, .int (bm_b ax)), (3, .int (bm_b up)), (4, .int (nI i))]) hx hb dX4_clearTheWay_119 hl (by decide) rfl (fun ls hl => ?_)
                      refine lv_aload_n hx hb dX4_clearTheWay_121 rfl (lv_at hl 6 rfl) ?_
                      refine va_get (D := D) (ci := 4) (v := .ref (ad 8)) (C := RX4) (T := TX4) (N := 10) hx hb hts (inT inX4) hown hK hP 0 rfl rfl 5 (by decide) (hts (.fieldLink RX4 37 "BoardMoves" "now" "LBoardMoves$Placement;") (by decide +kernel)) (fun _ h9 => h9) rfl dX4_clearTheWay_122 ?_
                      refine lv_iload hx hb dX4_clearTheWay_125 (lv_at hl 2 rfl) ?_
                      refine lv_iload_n hx hb dX4_clearTheWay_127 rfl (lv_at hl 8 rfl) ?_
                      refine bm_zb_eq (x := ax) (tgt := 136) hx hb dX4_clearTheWay_128 (by decide) (fun c_20 => ?_) (fun c_20 => ?_)
                      · refine lv_lconst (v := 0) hx hb dX4_clearTheWay_136 (by decide) ?_
                        refine lv_iload_n hx hb dX4_clearTheWay_137 rfl (lv_at hl 8 rfl) ?_
                        refine bm_zb_eq (x := ax) (tgt := 145) hx hb dX4_clearTheWay_138 (by decide) (fun c_21 => ?_) (fun c_21 => ?_)
                        · refine lv_lload hx hb dX4_clearTheWay_145 (lv_at hl 0 rfl) ?_
                          refine bm_wcallV (As := [.int (nI o_2), .long 0, .long (q_way pa P o_2 o_2 ax up)]) (rest := []) ⟨hx, hb, hml, hown, hts⟩ (w_shift (j := o_2) ⟨hn, hsd, hlw⟩ (by omega)) (cwV 3 hts (gdV (by decide +kernel) (by decide +kernel) (by decide +kernel) (by decide +kernel) (by decide +kernel)) rfl rfl rfl (by decide +kernel) ⟨Nat.le_of_ble_eq_true rfl, Nat.le_of_ble_eq_true rfl⟩) hK hP hD hS hA 8 2 rfl rfl rfl hl.1 rfl (Nat.le_of_ble_eq_true rfl) dX4_clearTheWay_147 ⟨Nat.le_of_ble_eq_true rfl, Nat.le_of_ble_eq_true rfl⟩ (fun H locs hP hD hS => ?_)
                          have hP : va_P D vwCl (Wd ad cJ cI cZ bm pa (q_shift pa P o_2 0 (q_way pa P o_2 o_2 ax up)) p1 p2 li wi) H := hP
                          have hD : va_D A (Wd ad cJ cI cZ bm pa (q_shift pa P o_2 0 (q_way pa P o_2 o_2 ax up)) p1 p2 li wi) := hD
                          refine lv_iinc (v := (nI (i + 1))) (lv' := [(4, .int (nI (i + 1))), (10, .long (q_way pa P o_2 o_2 ax up)), (9, .int (nI o_2)), (8, .int (nI o_2)), (7, .int (bm_b (q_goes pa P o_2 o_6 pu ax up))), (6, .int (nI o_6)), (5, .int (nI o_2)), (0, .ref (ad 0)), (1, .int (nI pu)), (2, .int (bm_b ax)), (3, .int (bm_b up))]) hx hb dX4_clearTheWay_150 hl (k := 10) rfl (nI_1 i) (by decide) rfl (fun ls hl => ?_)
                          refine lv_goto (tgt := 3) hx hb dX4_clearTheWay_153 (by decide) ?_
                          exact ih (i + 1) (q_shift pa P o_2 0 (q_way pa P o_2 o_2 ax up)) (by omega) (by omega) hoL (by rw [← he, show 200 - i = (200 - (i + 1)) + 1 from by omega]; simp [q_clear, hO_3, hO_7, c_10, c_11, c_19, c_20, c_21]) _ _ hP hD hS _ (lv_sub hl [7, 8, 9, 10, 0] rfl)
                        · refine lv_lconst (v := 0) hx hb dX4_clearTheWay_141 (by decide) ?_
                          refine lv_goto (tgt := 147) hx hb dX4_clearTheWay_142 (by decide) ?_
                          refine bm_wcallV (As := [.int (nI o_2), .long 0, .long 0]) (rest := []) ⟨hx, hb, hml, hown, hts⟩ (w_shift (j := o_2) ⟨hn, hsd, hlw⟩ (by omega)) (cwV 3 hts (gdV (by decide +kernel) (by decide +kernel) (by decide +kernel) (by decide +kernel) (by decide +kernel)) rfl rfl rfl (by decide +kernel) ⟨Nat.le_of_ble_eq_true rfl, Nat.le_of_ble_eq_true rfl⟩) hK hP hD hS hA 8 2 rfl rfl rfl hl.1 rfl (Nat.le_of_ble_eq_true rfl) dX4_clearTheWay_147 ⟨Nat.le_of_ble_eq_true rfl, Nat.le_of_ble_eq_true rfl⟩ (fun H locs hP hD hS => ?_)
                          have hP : va_P D vwCl (Wd ad cJ cI cZ bm pa (q_shift pa P o_2 0 0) p1 p2 li wi) H := hP
                          have hD : va_D A (Wd ad cJ cI cZ bm pa (q_shift pa P o_2 0 0) p1 p2 li wi) := hD
                          refine lv_iinc (v := (nI (i + 1))) (lv' := [(4, .int (nI (i + 1))), (10, .long (q_way pa P o_2 o_2 ax up)), (9, .int (nI o_2)), (8, .int (nI o_2)), (7, .int (bm_b (q_goes pa P o_2 o_6 pu ax up))), (6, .int (nI o_6)), (5, .int (nI o_2)), (0, .ref (ad 0)), (1, .int (nI pu)), (2, .int (bm_b ax)), (3, .int (bm_b up))]) hx hb dX4_clearTheWay_150 hl (k := 10) rfl (nI_1 i) (by decide) rfl (fun ls hl => ?_)
                          refine lv_goto (tgt := 3) hx hb dX4_clearTheWay_153 (by decide) ?_
                          exact ih (i + 1) (q_shift pa P o_2 0 0) (by omega) (by omega) hoL (by rw [← he, show 200 - i = (200 - (i + 1)) + 1 from by omega]; simp [q_clear, hO_3, hO_7, c_10, c_11, c_19, c_20, c_21]) _ _ hP hD hS _ (lv_sub hl [7, 8, 9, 10, 0] rfl)
                      · refine lv_lload hx hb dX4_clearTheWay_131 (lv_at hl 0 rfl) ?_
                        refine lv_goto (tgt := 137) hx hb dX4_clearTheWay_133 (by decide) ?_
                        refine lv_iload_n hx hb dX4_clearTheWay_137 rfl (lv_at hl 8 rfl) ?_
                        refine bm_zb_eq (x := ax) (tgt := 145) hx hb dX4_clearTheWay_138 (by decide) (fun c_22 => ?_) (fun c_22 => ?_)
                        · refine lv_lload hx hb dX4_clearTheWay_145 (lv_at hl 0 rfl) ?_
                          refine bm_wcallV (As := [.int (nI o_2), .long (q_way pa P o_2 o_2 ax up), .long (q_way pa P o_2 o_2 ax up)]) (rest := []) ⟨hx, hb, hml, hown, hts⟩ (w_shift (j := o_2) ⟨hn, hsd, hlw⟩ (by omega)) (cwV 3 hts (gdV (by decide +kernel) (by decide +kernel) (by decide +kernel) (by decide +kernel) (by decide +kernel)) rfl rfl rfl (by decide +kernel) ⟨Nat.le_of_ble_eq_true rfl, Nat.le_of_ble_eq_true rfl⟩) hK hP hD hS hA 8 2 rfl rfl rfl hl.1 rfl (Nat.le_of_ble_eq_true rfl) dX4_clearTheWay_147 ⟨Nat.le_of_ble_eq_true rfl, Nat.le_of_ble_eq_true rfl⟩ (fun H locs hP hD hS => ?_)
                          have hP : va_P D vwCl (Wd ad cJ cI cZ bm pa (q_shift pa P o_2 (q_way pa P o_2 o_2 ax up) (q_way pa P o_2 o_2 ax up)) p1 p2 li wi) H := hP
                          have hD : va_D A (Wd ad cJ cI cZ bm pa (q_shift pa P o_2 (q_way pa P o_2 o_2 ax up) (q_way pa P o_2 o_2 ax up)) p1 p2 li wi) := hD
                          refine lv_iinc (v := (nI (i + 1))) (lv' := [(4, .int (nI (i + 1))), (10, .long (q_way pa P o_2 o_2 ax up)), (9, .int (nI o_2)), (8, .int (nI o_2)), (7, .int (bm_b (q_goes pa P o_2 o_6 pu ax up))), (6, .int (nI o_6)), (5, .int (nI o_2)), (0, .ref (ad 0)), (1, .int (nI pu)), (2, .int (bm_b ax)), (3, .int (bm_b up))]) hx hb dX4_clearTheWay_150 hl (k := 10) rfl (nI_1 i) (by decide) rfl (fun ls hl => ?_)
                          refine lv_goto (tgt := 3) hx hb dX4_clearTheWay_153 (by decide) ?_
                          exact ih (i + 1) (q_shift pa P o_2 (q_way pa P o_2 o_2 ax up) (q_way pa P o_2 o_2 ax up)) (by omega) (by omega) hoL (by rw [← he, show 200 - i = (200 - (i + 1)) + 1 from by omega]; simp [q_clear, hO_3, hO_7, c_10, c_11, c_19, c_20, c_22]) _ _ hP hD hS _ (lv_sub hl [7, 8, 9, 10, 0] rfl)
                        · refine lv_lconst (v := 0) hx hb dX4_clearTheWay_141 (by decide) ?_
                          refine lv_goto (tgt := 147) hx hb dX4_clearTheWay_142 (by decide) ?_
                          refine bm_wcallV (As := [.int (nI o_2), .long (q_way pa P o_2 o_2 ax up), .long 0]) (rest := []) ⟨hx, hb, hml, hown, hts⟩ (w_shift (j := o_2) ⟨hn, hsd, hlw⟩ (by omega)) (cwV 3 hts (gdV (by decide +kernel) (by decide +kernel) (by decide +kernel) (by decide +kernel) (by decide +kernel)) rfl rfl rfl (by decide +kernel) ⟨Nat.le_of_ble_eq_true rfl, Nat.le_of_ble_eq_true rfl⟩) hK hP hD hS hA 8 2 rfl rfl rfl hl.1 rfl (Nat.le_of_ble_eq_true rfl) dX4_clearTheWay_147 ⟨Nat.le_of_ble_eq_true rfl, Nat.le_of_ble_eq_true rfl⟩ (fun H locs hP hD hS => ?_)
                          have hP : va_P D vwCl (Wd ad cJ cI cZ bm pa (q_shift pa P o_2 (q_way pa P o_2 o_2 ax up) 0) p1 p2 li wi) H := hP
                          have hD : va_D A (Wd ad cJ cI cZ bm pa (q_shift pa P o_2 (q_way pa P o_2 o_2 ax up) 0) p1 p2 li wi) := hD
                          refine lv_iinc (v := (nI (i + 1))) (lv' := [(4, .int (nI (i + 1))), (10, .long (q_way pa P o_2 o_2 ax up)), (9, .int (nI o_2)), (8, .int (nI o_2)), (7, .int (bm_b (q_goes pa P o_2 o_6 pu ax up))), (6, .int (nI o_6)), (5, .int (nI o_2)), (0, .ref (ad 0)), (1, .int (nI pu)), (2, .int (bm_b ax)), (3, .int (bm_b up))]) hx hb dX4_clearTheWay_150 hl (k := 10) rfl (nI_1 i) (by decide) rfl (fun ls hl => ?_)
                          refine lv_goto (tgt := 3) hx hb dX4_clearTheWay_153 (by decide) ?_
                          exact ih (i + 1) (q_shift pa P o_2 (q_way pa P o_2 o_2 ax up) 0) (by omega) (by omega) hoL (by rw [← he, show 200 - i = (200 - (i + 1)) + 1 from by omega]; simp [q_clear, hO_3, hO_7, c_10, c_11, c_19, c_20, c_22]) _ _ hP hD hS _ (lv_sub hl [7, 8, 9, 10, 0] rfl)
                    · refine lv_iload hx hb dX4_clearTheWay_97 (lv_at hl 2 rfl) ?_
                      refine lv_goto (tgt := 104) hx hb dX4_clearTheWay_99 (by decide) ?_
                      refine lv_istore (lv' := [(9, .int (nI o_6)), (8, .int (nI o_2)), (7, .int (bm_b (q_goes pa P o_2 o_6 pu ax up))), (6, .int (nI o_6)), (5, .int (nI o_2)), (0, .ref (ad 0)), (1, .int (nI pu)), (2, .int (bm_b ax)), (3, .int (bm_b up)), (4, .int (nI i))]) hx hb dX4_clearTheWay_104 hl (by decide) rfl (fun ls hl => ?_)
                      refine lv_aload_n hx hb dX4_clearTheWay_106 rfl (lv_at hl 5 rfl) ?_
                      refine va_get (D := D) (ci := 4) (v := .ref (ad 8)) (C := RX4) (T := TX4) (N := 10) hx hb hts (inT inX4) hown hK hP 0 rfl rfl 5 (by decide) (hts (.fieldLink RX4 37 "BoardMoves" "now" "LBoardMoves$Placement;") (by decide +kernel)) (fun _ h9 => h9) rfl dX4_clearTheWay_107 ?_
                      refine lv_iload hx hb dX4_clearTheWay_110 (lv_at hl 1 rfl) ?_
                      refine lv_iload hx hb dX4_clearTheWay_112 (lv_at hl 0 rfl) ?_
                      refine lv_iload_n hx hb dX4_clearTheWay_114 rfl (lv_at hl 7 rfl) ?_
                      refine lv_iload_n hx hb dX4_clearTheWay_115 rfl (lv_at hl 8 rfl) ?_
                      refine bm_rcallV (As := [.int (nI o_2), .int (nI o_6), .int (bm_b ax), .int (bm_b up)]) (rest := []) ⟨hx, hb, hml, hown, hts⟩ (r_way (g := o_2) (t := o_6) hoL (by omega) (by omega)) (cwV 4 hts (gdV (by decide +kernel) (by decide +kernel) (by decide +kernel) (by decide +kernel) (by decide +kernel)) rfl rfl rfl (by decide +kernel) ⟨Nat.le_of_ble_eq_true rfl, Nat.le_of_ble_eq_true rfl⟩) hK hP 8 2 rfl rfl rfl hl.1 rfl (Nat.le_of_ble_eq_true rfl) dX4_clearTheWay_116 ⟨Nat.le_of_ble_eq_true rfl, Nat.le_of_ble_eq_true rfl⟩ ?_
                      refine lv_lstore (lv' := [(10, .long (q_way pa P o_2 o_6 ax up)), (9, .int (nI o_6)), (8, .int (nI o_2)), (7, .int (bm_b (q_goes pa P o_2 o_6 pu ax up))), (6, .int (nI o_6)), (5, .int (nI o_2)), (0, .ref (ad 0)), (1, .int (nI pu)), (2, .int (bm_b ax)), (3, .int (bm_b up)), (4, .int (nI i))]) hx hb dX4_clearTheWay_119 hl (by decide) rfl (fun ls hl => ?_)
                      refine lv_aload_n hx hb dX4_clearTheWay_121 rfl (lv_at hl 6 rfl) ?_
                      refine va_get (D := D) (ci := 4) (v := .ref (ad 8)) (C := RX4) (T := TX4) (N := 10) hx hb hts (inT inX4) hown hK hP 0 rfl rfl 5 (by decide) (hts (.fieldLink RX4 37 "BoardMoves" "now" "LBoardMoves$Placement;") (by decide +kernel)) (fun _ h9 => h9) rfl dX4_clearTheWay_122 ?_
                      refine lv_iload hx hb dX4_clearTheWay_125 (lv_at hl 2 rfl) ?_
                      refine lv_iload_n hx hb dX4_clearTheWay_127 rfl (lv_at hl 8 rfl) ?_
                      refine bm_zb_eq (x := ax) (tgt := 136) hx hb dX4_clearTheWay_128 (by decide) (fun c_23 => ?_) (fun c_23 => ?_)
                      · refine lv_lconst (v := 0) hx hb dX4_clearTheWay_136 (by decide) ?_
                        refine lv_iload_n hx hb dX4_clearTheWay_137 rfl (lv_at hl 8 rfl) ?_
                        refine bm_zb_eq (x := ax) (tgt := 145) hx hb dX4_clearTheWay_138 (by decide) (fun c_24 => ?_) (fun c_24 => ?_)
                        · refine lv_lload hx hb dX4_clearTheWay_145 (lv_at hl 0 rfl) ?_
                          refine bm_wcallV (As := [.int (nI o_2), .long 0, .long (q_way pa P o_2 o_6 ax up)]) (rest := []) ⟨hx, hb, hml, hown, hts⟩ (w_shift (j := o_2) ⟨hn, hsd, hlw⟩ (by omega)) (cwV 3 hts (gdV (by decide +kernel) (by decide +kernel) (by decide +kernel) (by decide +kernel) (by decide +kernel)) rfl rfl rfl (by decide +kernel) ⟨Nat.le_of_ble_eq_true rfl, Nat.le_of_ble_eq_true rfl⟩) hK hP hD hS hA 8 2 rfl rfl rfl hl.1 rfl (Nat.le_of_ble_eq_true rfl) dX4_clearTheWay_147 ⟨Nat.le_of_ble_eq_true rfl, Nat.le_of_ble_eq_true rfl⟩ (fun H locs hP hD hS => ?_)
                          have hP : va_P D vwCl (Wd ad cJ cI cZ bm pa (q_shift pa P o_2 0 (q_way pa P o_2 o_6 ax up)) p1 p2 li wi) H := hP
                          have hD : va_D A (Wd ad cJ cI cZ bm pa (q_shift pa P o_2 0 (q_way pa P o_2 o_6 ax up)) p1 p2 li wi) := hD
                          refine lv_iinc (v := (nI (i + 1))) (lv' := [(4, .int (nI (i + 1))), (10, .long (q_way pa P o_2 o_6 ax up)), (9, .int (nI o_6)), (8, .int (nI o_2)), (7, .int (bm_b (q_goes pa P o_2 o_6 pu ax up))), (6, .int (nI o_6)), (5, .int (nI o_2)), (0, .ref (ad 0)), (1, .int (nI pu)), (2, .int (bm_b ax)), (3, .int (bm_b up))]) hx hb dX4_clearTheWay_150 hl (k := 10) rfl (nI_1 i) (by decide) rfl (fun ls hl => ?_)
                          refine lv_goto (tgt := 3) hx hb dX4_clearTheWay_153 (by decide) ?_
                          exact ih (i + 1) (q_shift pa P o_2 0 (q_way pa P o_2 o_6 ax up)) (by omega) (by omega) hoL (by rw [← he, show 200 - i = (200 - (i + 1)) + 1 from by omega]; simp [q_clear, hO_3, hO_7, c_10, c_11, c_19, c_23, c_24]) _ _ hP hD hS _ (lv_sub hl [7, 8, 9, 10, 0] rfl)
                        · refine lv_lconst (v := 0) hx hb dX4_clearTheWay_141 (by decide) ?_
                          refine lv_goto (tgt := 147) hx hb dX4_clearTheWay_142 (by decide) ?_
                          refine bm_wcallV (As := [.int (nI o_2), .long 0, .long 0]) (rest := []) ⟨hx, hb, hml, hown, hts⟩ (w_shift (j := o_2) ⟨hn, hsd, hlw⟩ (by omega)) (cwV 3 hts (gdV (by decide +kernel) (by decide +kernel) (by decide +kernel) (by decide +kernel) (by decide +kernel)) rfl rfl rfl (by decide +kernel) ⟨Nat.le_of_ble_eq_true rfl, Nat.le_of_ble_eq_true rfl⟩) hK hP hD hS hA 8 2 rfl rfl rfl hl.1 rfl (Nat.le_of_ble_eq_true rfl) dX4_clearTheWay_147 ⟨Nat.le_of_ble_eq_true rfl, Nat.le_of_ble_eq_true rfl⟩ (fun H locs hP hD hS => ?_)
                          have hP : va_P D vwCl (Wd ad cJ cI cZ bm pa (q_shift pa P o_2 0 0) p1 p2 li wi) H := hP
                          have hD : va_D A (Wd ad cJ cI cZ bm pa (q_shift pa P o_2 0 0) p1 p2 li wi) := hD
                          refine lv_iinc (v := (nI (i + 1))) (lv' := [(4, .int (nI (i + 1))), (10, .long (q_way pa P o_2 o_6 ax up)), (9, .int (nI o_6)), (8, .int (nI o_2)), (7, .int (bm_b (q_goes pa P o_2 o_6 pu ax up))), (6, .int (nI o_6)), (5, .int (nI o_2)), (0, .ref (ad 0)), (1, .int (nI pu)), (2, .int (bm_b ax)), (3, .int (bm_b up))]) hx hb dX4_clearTheWay_150 hl (k := 10) rfl (nI_1 i) (by decide) rfl (fun ls hl => ?_)
                          refine lv_goto (tgt := 3) hx hb dX4_clearTheWay_153 (by decide) ?_
                          exact ih (i + 1) (q_shift pa P o_2 0 0) (by omega) (by omega) hoL (by rw [← he, show 200 - i = (200 - (i + 1)) + 1 from by omega]; simp [q_clear, hO_3, hO_7, c_10, c_11, c_19, c_23, c_24]) _ _ hP hD hS _ (lv_sub hl [7, 8, 9, 10, 0] rfl)
                      · refine lv_lload hx hb dX4_clearTheWay_131 (lv_at hl 0 rfl) ?_
                        refine lv_goto (tgt := 137) hx hb dX4_clearTheWay_133 (by decide) ?_
                        refine lv_iload_n hx hb dX4_clearTheWay_137 rfl (lv_at hl 8 rfl) ?_
                        refine bm_zb_eq (x := ax) (tgt := 145) hx hb dX4_clearTheWay_138 (by decide) (fun c_25 => ?_) (fun c_25 => ?_)
                        · refine lv_lload hx hb dX4_clearTheWay_145 (lv_at hl 0 rfl) ?_
                          refine bm_wcallV (As := [.int (nI o_2), .long (q_way pa P o_2 o_6 ax up), .long (q_way pa P o_2 o_6 ax up)]) (rest := []) ⟨hx, hb, hml, hown, hts⟩ (w_shift (j := o_2) ⟨hn, hsd, hlw⟩ (by omega)) (cwV 3 hts (gdV (by decide +kernel) (by decide +kernel) (by decide +kernel) (by decide +kernel) (by decide +kernel)) rfl rfl rfl (by decide +kernel) ⟨Nat.le_of_ble_eq_true rfl, Nat.le_of_ble_eq_true rfl⟩) hK hP hD hS hA 8 2 rfl rfl rfl hl.1 rfl (Nat.le_of_ble_eq_true rfl) dX4_clearTheWay_147 ⟨Nat.le_of_ble_eq_true rfl, Nat.le_of_ble_eq_true rfl⟩ (fun H locs hP hD hS => ?_)
                          have hP : va_P D vwCl (Wd ad cJ cI cZ bm pa (q_shift pa P o_2 (q_way pa P o_2 o_6 ax up) (q_way pa P o_2 o_6 ax up)) p1 p2 li wi) H := hP
                          have hD : va_D A (Wd ad cJ cI cZ bm pa (q_shift pa P o_2 (q_way pa P o_2 o_6 ax up) (q_way pa P o_2 o_6 ax up)) p1 p2 li wi) := hD
                          refine lv_iinc (v := (nI (i + 1))) (lv' := [(4, .int (nI (i + 1))), (10, .long (q_way pa P o_2 o_6 ax up)), (9, .int (nI o_6)), (8, .int (nI o_2)), (7, .int (bm_b (q_goes pa P o_2 o_6 pu ax up))), (6, .int (nI o_6)), (5, .int (nI o_2)), (0, .ref (ad 0)), (1, .int (nI pu)), (2, .int (bm_b ax)), (3, .int (bm_b up))]) hx hb dX4_clearTheWay_150 hl (k := 10) rfl (nI_1 i) (by decide) rfl (fun ls hl => ?_)
                          refine lv_goto (tgt := 3) hx hb dX4_clearTheWay_153 (by decide) ?_
                          exact ih (i + 1) (q_shift pa P o_2 (q_way pa P o_2 o_6 ax up) (q_way pa P o_2 o_6 ax up)) (by omega) (by omega) hoL (by rw [← he, show 200 - i = (200 - (i + 1)) + 1 from by omega]; simp [q_clear, hO_3, hO_7, c_10, c_11, c_19, c_23, c_25]) _ _ hP hD hS _ (lv_sub hl [7, 8, 9, 10, 0] rfl)
                        · refine lv_lconst (v := 0) hx hb dX4_clearTheWay_141 (by decide) ?_
                          refine lv_goto (tgt := 147) hx hb dX4_clearTheWay_142 (by decide) ?_
                          refine bm_wcallV (As := [.int (nI o_2), .long (q_way pa P o_2 o_6 ax up), .long 0]) (rest := []) ⟨hx, hb, hml, hown, hts⟩ (w_shift (j := o_2) ⟨hn, hsd, hlw⟩ (by omega)) (cwV 3 hts (gdV (by decide +kernel) (by decide +kernel) (by decide +kernel) (by decide +kernel) (by decide +kernel)) rfl rfl rfl (by decide +kernel) ⟨Nat.le_of_ble_eq_true rfl, Nat.le_of_ble_eq_true rfl⟩) hK hP hD hS hA 8 2 rfl rfl rfl hl.1 rfl (Nat.le_of_ble_eq_true rfl) dX4_clearTheWay_147 ⟨Nat.le_of_ble_eq_true rfl, Nat.le_of_ble_eq_true rfl⟩ (fun H locs hP hD hS => ?_)
                          have hP : va_P D vwCl (Wd ad cJ cI cZ bm pa (q_shift pa P o_2 (q_way pa P o_2 o_6 ax up) 0) p1 p2 li wi) H := hP
                          have hD : va_D A (Wd ad cJ cI cZ bm pa (q_shift pa P o_2 (q_way pa P o_2 o_6 ax up) 0) p1 p2 li wi) := hD
                          refine lv_iinc (v := (nI (i + 1))) (lv' := [(4, .int (nI (i + 1))), (10, .long (q_way pa P o_2 o_6 ax up)), (9, .int (nI o_6)), (8, .int (nI o_2)), (7, .int (bm_b (q_goes pa P o_2 o_6 pu ax up))), (6, .int (nI o_6)), (5, .int (nI o_2)), (0, .ref (ad 0)), (1, .int (nI pu)), (2, .int (bm_b ax)), (3, .int (bm_b up))]) hx hb dX4_clearTheWay_150 hl (k := 10) rfl (nI_1 i) (by decide) rfl (fun ls hl => ?_)
                          refine lv_goto (tgt := 3) hx hb dX4_clearTheWay_153 (by decide) ?_
                          exact ih (i + 1) (q_shift pa P o_2 (q_way pa P o_2 o_6 ax up) 0) (by omega) (by omega) hoL (by rw [← he, show 200 - i = (200 - (i + 1)) + 1 from by omega]; simp [q_clear, hO_3, hO_7, c_10, c_11, c_19, c_23, c_25]) _ _ hP hD hS _ (lv_sub hl [7, 8, 9, 10, 0] rfl)
                · refine lv_iconst (v := bm_b false) hx hb dX4_clearTheWay_63 (by decide) ?_
                  exact bm_zretW (v := false) hx hb hr hP hD hK hS ⟨by rw [← he, show 200 - i = (200 - (i + 1)) + 1 from by omega]; simp [q_clear, hO_3, hO_7, c_10], by rw [← he, show 200 - i = (200 - (i + 1)) + 1 from by omega]; simp [q_clear, hO_3, hO_7, c_10]⟩ dX4_clearTheWay_64 hlocks
          · exact absurd c_5 (bm_nm1 (by omega))
  have hl := lv_entry ([.ref (ad 0), .int (nI pu), .int (bm_b ax), .int (bm_b up)]) (n := 12) (Nat.le_of_ble_eq_true rfl)
  refine W.eq (g2 := entryFrame m ([.ref (ad 0), .int (nI pu), .int (bm_b ax), .int (bm_b up)] : List Value).toArray 12) (by rw [ha]) ?_
  rw [lg_entry_eq]
  generalize (lg_sl ([.ref (ad 0), .int (nI pu), .int (bm_b ax), .int (bm_b up)]) ++ List.replicate (12 - (lg_sl ([.ref (ad 0), .int (nI pu), .int (bm_b ax), .int (bm_b up)])).length) Slot.unset).toArray = ls at hl ⊢
  have hl : lv_has ls 12 [(0, .ref (ad 0)), (1, .int (nI pu)), (2, .int (bm_b ax)), (3, .int (bm_b up))] := hl
  refine lv_iconst (v := nI 0) hx hb dX4_clearTheWay_0 (by decide) ?_
  refine lv_istore (lv' := [(4, .int (nI 0)), (0, .ref (ad 0)), (1, .int (nI pu)), (2, .int (bm_b ax)), (3, .int (bm_b up))]) hx hb dX4_clearTheWay_1 hl (by decide) rfl (fun ls hl => ?_)
  exact lp 201 0 p0 (by omega) (by omega) hoL rfl _ _ hP hD hS _ (lv_sub hl [1, 2, 3, 4, 0] rfl)
