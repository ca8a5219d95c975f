set_option maxHeartbeats 8000000 in
set_option maxRecDepth 100000 in
theorem x_addPin {l : Launch} {D : va_G} {ad : Nat → Nat} {cJ cI cZ : ClassId} {bm : gBM} {pa : gPA} {p0 p1 p2 : gPL} {li : gLI} {wi : gWI} {mt : Nat} {ms : gMS} {ma : gMA} {mp : gMP} {mk : gMK} {mn : gMN} {ou : Nat → Int64} {za : Nat} {zb : Nat} {z1 : Int64} {z2 : Int64} (ok_wi_pins : wi.2.2.2.2.2.2.2.2.2.2 ≤ 120) (ok_wi_netOf : ∀ i, wi.1 i < 40) (ok_wi_partOf : ∀ i, wi.2.1 i < 40) (hp0 : za < 40) (hp1 : zb < 40)  : bm_Wx l yX3_addPin wsX3_addPin ({ frames := 0, cells := 0, slots := 0, locals := 0 }) D vwCl [(cJ, .long), (cI, .int), (cZ, .boolean)] (WW ad cJ cI cZ bm pa p0 p1 p2 li wi mt ms ma mp mk mn ou) [.ref (ad 32), .int (nI za), .int (nI zb), .long z1, .long z2] (fun ws9 r9 => ∃ (e0 : Nat → Nat) (e1 : Nat → Nat) (e2 : Nat → Int64) (e3 : Nat → Int64) (e4 : Nat) , (∀ i, e0 i < 40) ∧ (∀ i, e1 i < 40) ∧ (e4 ≤ 120) ∧ ws9 = (WW ad cJ cI cZ bm pa p0 p1 p2 li (e0, e1, e2, e3, wi.2.2.2.2.1, wi.2.2.2.2.2.1, wi.2.2.2.2.2.2.1, wi.2.2.2.2.2.2.2.1, wi.2.2.2.2.2.2.2.2.1, wi.2.2.2.2.2.2.2.2.2.1, e4) mt ms ma mp mk mn ou) ∧ ∃ b9 : Bool, r9 = some (.int (bm_b b9))) := by
  intro sz
  refine Met.ofW (cc := cX3_addPin) (maxL := 7) (ret := (some .boolean)) (by decide) rfl ?_
  intro p e s m args below meth c s₁ B hml hv
  obtain ⟨ha, hsz, hP, hK, hD0⟩ := hv
  have hx := B.exec
  have hb := B.bytes
  have hr := B.returns
  have hts := atoms_spec (ws := wsX3_addPin) B.pre
  have hown : s.vm.findClass RX3 = some m.cls := findClass_of_methodNamed B.named
  have hlocks := B.notSynchronized
  subst hsz
  have hD := hD0.self (sz := s.heap.size)
  generalize hAe : va_A (WW ad cJ cI cZ bm pa p0 p1 p2 li wi mt ms ma mp mk mn ou) s.heap.size = A at hD ⊢
  have hA : ∀ q : Nat, s.heap.size ≤ q → A q := fun q h => by rw [← hAe]; exact Or.inr h
  have hS : va_S A s.heap s.heap [] := va_S.rf
  have hl := lv_entry ([.ref (ad 32), .int (nI za), .int (nI zb), .long z1, .long z2]) (n := 7) (Nat.le_of_ble_eq_true rfl)
  refine W.eq (g2 := entryFrame m ([.ref (ad 32), .int (nI za), .int (nI zb), .long z1, .long z2] : List Value).toArray 7) (by rw [ha]) ?_
  rw [lg_entry_eq]
  generalize (lg_sl ([.ref (ad 32), .int (nI za), .int (nI zb), .long z1, .long z2]) ++ List.replicate (7 - (lg_sl ([.ref (ad 32), .int (nI za), .int (nI zb), .long z1, .long z2])).length) Slot.unset).toArray = ls at hl ⊢
  have hl : lv_has ls 7 [(0, .ref (ad 32)), (1, .int (nI za)), (2, .int (nI zb)), (3, .long z1), (5, .long z2)] := hl
  refine lv_aload_n hx hb dX3_addPin_0 rfl (lv_at hl 0 rfl) ?_
  refine va_get (D := D) (ci := 3) (v := .int (nI wi.2.2.2.2.2.2.2.2.2.2)) (C := RX3) (T := TX3) (N := 12) hx hb hts (inT inX3) hown hK hP 32 ww_32 rfl 11 (by decide) (hts (.fieldLink RX3 45 "BoardMoves$Wiring" "pins" "I") (List.mem_cons_of_mem _ flX3_45)) (fun _ h9 => h9) rfl dX3_addPin_1 ?_
  refine lv_bipush (v := nI 120) hx hb dX3_addPin_4 (by decide) ?_
  refine bm_ni_lt (x := wi.2.2.2.2.2.2.2.2.2.2) (y := 120) (tgt := 11) hx hb (by omega) (by omega) dX3_addPin_6 (by decide) (fun c_1 => ?_) (fun c_1 => ?_)
  · refine lv_aload_n hx hb dX3_addPin_11 rfl (lv_at hl 0 rfl) ?_
    refine va_get (D := D) (ci := 3) (v := .ref (ad 33)) (C := RX3) (T := TX3) (N := 12) hx hb hts (inT inX3) hown hK hP 32 ww_32 rfl 1 (by decide) (hts (.fieldLink RX3 9 "BoardMoves$Wiring" "netOf" "[I") (List.mem_cons_of_mem _ flX3_9)) (fun _ h9 => h9) rfl dX3_addPin_12 ?_
    refine lv_aload_n hx hb dX3_addPin_15 rfl (lv_at hl 0 rfl) ?_
    refine va_get (D := D) (ci := 3) (v := .int (nI wi.2.2.2.2.2.2.2.2.2.2)) (C := RX3) (T := TX3) (N := 12) hx hb hts (inT inX3) hown hK hP 32 ww_32 rfl 11 (by decide) (hts (.fieldLink RX3 45 "BoardMoves$Wiring" "pins" "I") (List.mem_cons_of_mem _ flX3_45)) (fun _ h9 => h9) rfl dX3_addPin_16 ?_
    refine lv_iload_n hx hb dX3_addPin_19 rfl (lv_at hl 1 rfl) ?_
    refine bm_nast (f := wi.1) hx hb hK hP hD hS 33 1 ww_33 rfl (j := wi.2.2.2.2.2.2.2.2.2.2) (x := za) (by omega) (by decide) dX3_addPin_20 (fun H locs hP hD hS => ?_)
    have hP : va_P D vwCl (WW ad cJ cI cZ bm pa p0 p1 p2 li (va_up wi.1 wi.2.2.2.2.2.2.2.2.2.2 za, wi.2.1, wi.2.2.1, wi.2.2.2.1, wi.2.2.2.2.1, wi.2.2.2.2.2.1, wi.2.2.2.2.2.2.1, wi.2.2.2.2.2.2.2.1, wi.2.2.2.2.2.2.2.2.1, wi.2.2.2.2.2.2.2.2.2.1, wi.2.2.2.2.2.2.2.2.2.2) mt ms ma mp mk mn ou) H := hP
    have hD : va_D A (WW ad cJ cI cZ bm pa p0 p1 p2 li (va_up wi.1 wi.2.2.2.2.2.2.2.2.2.2 za, wi.2.1, wi.2.2.1, wi.2.2.2.1, wi.2.2.2.2.1, wi.2.2.2.2.2.1, wi.2.2.2.2.2.2.1, wi.2.2.2.2.2.2.2.1, wi.2.2.2.2.2.2.2.2.1, wi.2.2.2.2.2.2.2.2.2.1, wi.2.2.2.2.2.2.2.2.2.2) mt ms ma mp mk mn ou) := hD
    refine lv_aload_n hx hb dX3_addPin_21 rfl (lv_at hl 0 rfl) ?_
    refine va_get (D := D) (ci := 3) (v := .ref (ad 34)) (C := RX3) (T := TX3) (N := 12) hx hb hts (inT inX3) hown hK hP 32 ww_32 rfl 2 (by decide) (hts (.fieldLink RX3 15 "BoardMoves$Wiring" "partOf" "[I") (List.mem_cons_of_mem _ flX3_15)) (fun _ h9 => h9) rfl dX3_addPin_22 ?_
    refine lv_aload_n hx hb dX3_addPin_25 rfl (lv_at hl 0 rfl) ?_
    refine va_get (D := D) (ci := 3) (v := .int (nI wi.2.2.2.2.2.2.2.2.2.2)) (C := RX3) (T := TX3) (N := 12) hx hb hts (inT inX3) hown hK hP 32 ww_32 rfl 11 (by decide) (hts (.fieldLink RX3 45 "BoardMoves$Wiring" "pins" "I") (List.mem_cons_of_mem _ flX3_45)) (fun _ h9 => h9) rfl dX3_addPin_26 ?_
    refine lv_iload_n hx hb dX3_addPin_29 rfl (lv_at hl 2 rfl) ?_
    refine bm_nast (f := wi.2.1) hx hb hK hP hD hS 34 1 ww_34 rfl (j := wi.2.2.2.2.2.2.2.2.2.2) (x := zb) (by omega) (by decide) dX3_addPin_30 (fun H locs hP hD hS => ?_)
    have hP : va_P D vwCl (WW ad cJ cI cZ bm pa p0 p1 p2 li (va_up wi.1 wi.2.2.2.2.2.2.2.2.2.2 za, va_up wi.2.1 wi.2.2.2.2.2.2.2.2.2.2 zb, wi.2.2.1, wi.2.2.2.1, wi.2.2.2.2.1, wi.2.2.2.2.2.1, wi.2.2.2.2.2.2.1, wi.2.2.2.2.2.2.2.1, wi.2.2.2.2.2.2.2.2.1, wi.2.2.2.2.2.2.2.2.2.1, wi.2.2.2.2.2.2.2.2.2.2) mt ms ma mp mk mn ou) H := hP
    have hD : va_D A (WW ad cJ cI cZ bm pa p0 p1 p2 li (va_up wi.1 wi.2.2.2.2.2.2.2.2.2.2 za, va_up wi.2.1 wi.2.2.2.2.2.2.2.2.2.2 zb, wi.2.2.1, wi.2.2.2.1, wi.2.2.2.2.1, wi.2.2.2.2.2.1, wi.2.2.2.2.2.2.1, wi.2.2.2.2.2.2.2.1, wi.2.2.2.2.2.2.2.2.1, wi.2.2.2.2.2.2.2.2.2.1, wi.2.2.2.2.2.2.2.2.2.2) mt ms ma mp mk mn ou) := hD
    refine lv_aload_n hx hb dX3_addPin_31 rfl (lv_at hl 0 rfl) ?_
    refine va_get (D := D) (ci := 3) (v := .ref (ad 35)) (C := RX3) (T := TX3) (N := 12) hx hb hts (inT inX3) hown hK hP 32 ww_32 rfl 3 (by decide) (hts (.fieldLink RX3 18 "BoardMoves$Wiring" "dx" "[J") (List.mem_cons_of_mem _ flX3_18)) (fun _ h9 => h9) rfl dX3_addPin_32 ?_
    refine lv_aload_n hx hb dX3_addPin_35 rfl (lv_at hl 0 rfl) ?_
    refine va_get (D := D) (ci := 3) (v := .int (nI wi.2.2.2.2.2.2.2.2.2.2)) (C := RX3) (T := TX3) (N := 12) hx hb hts (inT inX3) hown hK hP 32 ww_32 rfl 11 (by decide) (hts (.fieldLink RX3 45 "BoardMoves$Wiring" "pins" "I") (List.mem_cons_of_mem _ flX3_45)) (fun _ h9 => h9) rfl dX3_addPin_36 ?_
    refine lv_lload_n hx hb dX3_addPin_39 rfl (lv_at hl 3 rfl) ?_
    refine bm_last (f := wi.2.2.1) hx hb hK hP hD hS 35 0 ww_35 rfl (j := wi.2.2.2.2.2.2.2.2.2.2) (x := z1) (by omega) (by decide) dX3_addPin_40 (fun H locs hP hD hS => ?_)
    have hP : va_P D vwCl (WW ad cJ cI cZ bm pa p0 p1 p2 li (va_up wi.1 wi.2.2.2.2.2.2.2.2.2.2 za, va_up wi.2.1 wi.2.2.2.2.2.2.2.2.2.2 zb, va_up wi.2.2.1 wi.2.2.2.2.2.2.2.2.2.2 z1, wi.2.2.2.1, wi.2.2.2.2.1, wi.2.2.2.2.2.1, wi.2.2.2.2.2.2.1, wi.2.2.2.2.2.2.2.1, wi.2.2.2.2.2.2.2.2.1, wi.2.2.2.2.2.2.2.2.2.1, wi.2.2.2.2.2.2.2.2.2.2) mt ms ma mp mk mn ou) H := hP
    have hD : va_D A (WW ad cJ cI cZ bm pa p0 p1 p2 li (va_up wi.1 wi.2.2.2.2.2.2.2.2.2.2 za, va_up wi.2.1 wi.2.2.2.2.2.2.2.2.2.2 zb, va_up wi.2.2.1 wi.2.2.2.2.2.2.2.2.2.2 z1, wi.2.2.2.1, wi.2.2.2.2.1, wi.2.2.2.2.2.1, wi.2.2.2.2.2.2.1, wi.2.2.2.2.2.2.2.1, wi.2.2.2.2.2.2.2.2.1, wi.2.2.2.2.2.2.2.2.2.1, wi.2.2.2.2.2.2.2.2.2.2) mt ms ma mp mk mn ou) := hD
    refine lv_aload_n hx hb dX3_addPin_41 rfl (lv_at hl 0 rfl) ?_
    refine va_get (D := D) (ci := 3) (v := .ref (ad 36)) (C := RX3) (T := TX3) (N := 12) hx hb hts (inT inX3) hown hK hP 32 ww_32 rfl 4 (by decide) (hts (.fieldLink RX3 22 "BoardMoves$Wiring" "dy" "[J") (List.mem_cons_of_mem _ flX3_22)) (fun _ h9 => h9) rfl dX3_addPin_42 ?_
    refine lv_aload_n hx hb dX3_addPin_45 rfl (lv_at hl 0 rfl) ?_
    refine va_get (D := D) (ci := 3) (v := .int (nI wi.2.2.2.2.2.2.2.2.2.2)) (C := RX3) (T := TX3) (N := 12) hx hb hts (inT inX3) hown hK hP 32 ww_32 rfl 11 (by decide) (hts (.fieldLink RX3 45 "BoardMoves$Wiring" "pins" "I") (List.mem_cons_of_mem _ flX3_45)) (fun _ h9 => h9) rfl dX3_addPin_46 ?_
    refine lv_lload hx hb dX3_addPin_49 (lv_at hl 4 rfl) ?_
    refine bm_last (f := wi.2.2.2.1) hx hb hK hP hD hS 36 0 ww_36 rfl (j := wi.2.2.2.2.2.2.2.2.2.2) (x := z2) (by omega) (by decide) dX3_addPin_51 (fun H locs hP hD hS => ?_)
    have hP : va_P D vwCl (WW ad cJ cI cZ bm pa p0 p1 p2 li (va_up wi.1 wi.2.2.2.2.2.2.2.2.2.2 za, va_up wi.2.1 wi.2.2.2.2.2.2.2.2.2.2 zb, va_up wi.2.2.1 wi.2.2.2.2.2.2.2.2.2.2 z1, va_up wi.2.2.2.1 wi.2.2.2.2.2.2.2.2.2.2 z2, wi.2.2.2.2.1, wi.2.2.2.2.2.1, wi.2.2.2.2.2.2.1, wi.2.2.2.2.2.2.2.1, wi.2.2.2.2.2.2.2.2.1, wi.2.2.2.2.2.2.2.2.2.1, wi.2.2.2.2.2.2.2.2.2.2) mt ms ma mp mk mn ou) H := hP
    have hD : va_D A (WW ad cJ cI cZ bm pa p0 p1 p2 li (va_up wi.1 wi.2.2.2.2.2.2.2.2.2.2 za, va_up wi.2.1 wi.2.2.2.2.2.2.2.2.2.2 zb, va_up wi.2.2.1 wi.2.2.2.2.2.2.2.2.2.2 z1, va_up wi.2.2.2.1 wi.2.2.2.2.2.2.2.2.2.2 z2, wi.2.2.2.2.1, wi.2.2.2.2.2.1, wi.2.2.2.2.2.2.1, wi.2.2.2.2.2.2.2.1, wi.2.2.2.2.2.2.2.2.1, wi.2.2.2.2.2.2.2.2.2.1, wi.2.2.2.2.2.2.2.2.2.2) mt ms ma mp mk mn ou) := hD
    refine lv_aload_n hx hb dX3_addPin_52 rfl (lv_at hl 0 rfl) ?_
    refine lv_dup hx hb dX3_addPin_53 rfl ?_
    refine va_get (D := D) (ci := 3) (v := .int (nI wi.2.2.2.2.2.2.2.2.2.2)) (C := RX3) (T := TX3) (N := 12) hx hb hts (inT inX3) hown hK hP 32 ww_32 rfl 11 (by decide) (hts (.fieldLink RX3 45 "BoardMoves$Wiring" "pins" "I") (List.mem_cons_of_mem _ flX3_45)) (fun _ h9 => h9) rfl dX3_addPin_54 ?_
    refine lv_iconst (v := nI 1) hx hb dX3_addPin_57 (by decide) ?_
    refine bm_nadd hx hb dX3_addPin_58 ?_
    refine va_put (D := D) (ci := 3) (v := .int (nI (wi.2.2.2.2.2.2.2.2.2.2 + 1))) (ty := .int) (C := RX3) (T := TX3) (N := 12) hx hb hts (inT inX3) tyX3 tyX3_ok nmX3 hown hK hP hD hS 32 ww_32 rfl 11 (by decide) (hts (.fieldLink RX3 45 "BoardMoves$Wiring" "pins" "I") (List.mem_cons_of_mem _ flX3_45)) (fun _ h9 => h9) rfl (by decide +kernel) rfl rfl (Nat.le_of_ble_eq_true rfl) dX3_addPin_59 (fun H locs hP hD hS => ?_)
    have hP : va_P D vwCl (WW ad cJ cI cZ bm pa p0 p1 p2 li (va_up wi.1 wi.2.2.2.2.2.2.2.2.2.2 za, va_up wi.2.1 wi.2.2.2.2.2.2.2.2.2.2 zb, va_up wi.2.2.1 wi.2.2.2.2.2.2.2.2.2.2 z1, va_up wi.2.2.2.1 wi.2.2.2.2.2.2.2.2.2.2 z2, wi.2.2.2.2.1, wi.2.2.2.2.2.1, wi.2.2.2.2.2.2.1, wi.2.2.2.2.2.2.2.1, wi.2.2.2.2.2.2.2.2.1, wi.2.2.2.2.2.2.2.2.2.1, wi.2.2.2.2.2.2.2.2.2.2 + 1) mt ms ma mp mk mn ou) H := hP
    have hD : va_D A (WW ad cJ cI cZ bm pa p0 p1 p2 li (va_up wi.1 wi.2.2.2.2.2.2.2.2.2.2 za, va_up wi.2.1 wi.2.2.2.2.2.2.2.2.2.2 zb, va_up wi.2.2.1 wi.2.2.2.2.2.2.2.2.2.2 z1, va_up wi.2.2.2.1 wi.2.2.2.2.2.2.2.2.2.2 z2, wi.2.2.2.2.1, wi.2.2.2.2.2.1, wi.2.2.2.2.2.2.1, wi.2.2.2.2.2.2.2.1, wi.2.2.2.2.2.2.2.2.1, wi.2.2.2.2.2.2.2.2.2.1, wi.2.2.2.2.2.2.2.2.2.2 + 1) mt ms ma mp mk mn ou) := hD
    refine lv_iconst (v := bm_b true) hx hb dX3_addPin_62 (by decide) ?_
    exact bm_zretX (v := true) hx hb hr hP hD hK hS ⟨(va_up wi.1 wi.2.2.2.2.2.2.2.2.2.2 za), (va_up wi.2.1 wi.2.2.2.2.2.2.2.2.2.2 zb), (va_up wi.2.2.1 wi.2.2.2.2.2.2.2.2.2.2 z1), (va_up wi.2.2.2.1 wi.2.2.2.2.2.2.2.2.2.2 z2), (wi.2.2.2.2.2.2.2.2.2.2 + 1), (bx_uplt ok_wi_netOf (by omega)), (bx_uplt ok_wi_partOf (by omega)), (by omega), rfl, true, rfl⟩ dX3_addPin_63 hlocks
  · refine lv_iconst (v := bm_b false) hx hb dX3_addPin_9 (by decide) ?_
    exact bm_zretX (v := false) hx hb hr hP hD hK hS ⟨wi.1, wi.2.1, wi.2.2.1, wi.2.2.2.1, wi.2.2.2.2.2.2.2.2.2.2, ok_wi_netOf, ok_wi_partOf, ok_wi_pins, rfl, false, rfl⟩ dX3_addPin_10 hlocks

set_option maxHeartbeats 8000000 in
set_option maxRecDepth 100000 in
theorem x_turnedX {l : Launch} {D : va_G} {ad : Nat → Nat} {cJ cI cZ : ClassId} {bm : gBM} {pa : gPA} {p0 p1 p2 : gPL} {li : gLI} {wi : gWI} {mt : Nat} {ms : gMS} {ma : gMA} {mp : gMP} {mk : gMK} {mn : gMN} {ou : Nat → Int64} {zk : Nat} {zj : Nat} {zt : Nat}  (hp0 : zk < 120) (hp1 : zj < 40) (hp2 : zt < 40)  : bm_Wx l yX3_turnedX wsX3_turnedX ({ frames := 0, cells := 0, slots := 0, locals := 0 }) D vwCl [(cJ, .long), (cI, .int), (cZ, .boolean)] (WW ad cJ cI cZ bm pa p0 p1 p2 li wi mt ms ma mp mk mn ou) [.ref (ad 32), .int (nI zk), .int (nI zj), .int (nI zt)] (fun ws9 r9 => ws9 = (WW ad cJ cI cZ bm pa p0 p1 p2 li wi mt ms ma mp mk mn ou) ∧ ∃ v9 : Int64, r9 = some (.long v9)) := by
  intro sz
  refine Met.ofW (cc := cX3_turnedX) (maxL := 4) (ret := (some .long)) (by decide) rfl ?_
  intro p e s m args below meth c s₁ B hml hv
  obtain ⟨ha, hsz, hP, hK, hD0⟩ := hv
  have hx := B.exec
  have hb := B.bytes
  have hr := B.returns
  have hts := atoms_spec (ws := wsX3_turnedX) B.pre
  have hown : s.vm.findClass RX3 = some m.cls := findClass_of_methodNamed B.named
  have hlocks := B.notSynchronized
  subst hsz
  have hD := hD0.self (sz := s.heap.size)
  generalize hAe : va_A (WW ad cJ cI cZ bm pa p0 p1 p2 li wi mt ms ma mp mk mn ou) s.heap.size = A at hD ⊢
  have hA : ∀ q : Nat, s.heap.size ≤ q → A q := fun q h => by rw [← hAe]; exact Or.inr h
  have hS : va_S A s.heap s.heap [] := va_S.rf
  have hl := lv_entry ([.ref (ad 32), .int (nI zk), .int (nI zj), .int (nI zt)]) (n := 4) (Nat.le_of_ble_eq_true rfl)
  refine W.eq (g2 := entryFrame m ([.ref (ad 32), .int (nI zk), .int (nI zj), .int (nI zt)] : List Value).toArray 4) (by rw [ha]) ?_
  rw [lg_entry_eq]
  generalize (lg_sl ([.ref (ad 32), .int (nI zk), .int (nI zj), .int (nI zt)]) ++ List.replicate (4 - (lg_sl ([.ref (ad 32), .int (nI zk), .int (nI zj), .int (nI zt)])).length) Slot.unset).toArray = ls at hl ⊢
  have hl : lv_has ls 4 [(0, .ref (ad 32)), (1, .int (nI zk)), (2, .int (nI zj)), (3, .int (nI zt))] := hl
  refine lv_iload_n hx hb dX3_turnedX_0 rfl (lv_at hl 3 rfl) ?_
  by_cases ht_1 : zt = 1
  · rw [ht_1]
    refine lv_tableIn (off := 27) (tgt := 28) hx hb dX3_turnedX_1 (by decide) (by decide) (by decide) (by decide) ?_
    refine lv_aload_n hx hb dX3_turnedX_28 rfl (lv_at hl 0 rfl) ?_
    refine va_get (D := D) (ci := 3) (v := .ref (ad 1)) (C := RX3) (T := TX3) (N := 12) hx hb hts (inT inX3) hown hK hP 32 ww_32 rfl 0 (by decide) (hts (.fieldLink RX3 48 "BoardMoves$Wiring" "parts" "LBoardMoves$Parts;") (List.mem_cons_of_mem _ flX3_48)) (fun _ h9 => h9) rfl dX3_turnedX_29 ?_
    refine va_get (D := D) (ci := 1) (v := .ref (ad 3)) (C := RX1) (T := TX1) (N := 7) hx hb hts (inT inX1) hown hK hP 1 ww_1 rfl 1 (by decide) (hts (.fieldLink RX3 86 "BoardMoves$Parts" "h" "[J") (List.mem_cons_of_mem _ flX3_86)) (fun _ h9 => h9) rfl dX3_turnedX_32 ?_
    refine lv_iload_n hx hb dX3_turnedX_35 rfl (lv_at hl 2 rfl) ?_
    refine bm_lald (f := pa.2.1) hx hb hK hP 3 0 ww_3 rfl (j := zj) (by omega) (by decide) dX3_turnedX_36 ?_
    refine lv_topl (fun t_4 _ => ?_)
    refine lv_aload_n hx hb dX3_turnedX_37 rfl (lv_at hl 0 rfl) ?_
    refine va_get (D := D) (ci := 3) (v := .ref (ad 36)) (C := RX3) (T := TX3) (N := 12) hx hb hts (inT inX3) hown hK hP 32 ww_32 rfl 4 (by decide) (hts (.fieldLink RX3 22 "BoardMoves$Wiring" "dy" "[J") (List.mem_cons_of_mem _ flX3_22)) (fun _ h9 => h9) rfl dX3_turnedX_38 ?_
    refine lv_iload_n hx hb dX3_turnedX_41 rfl (lv_at hl 1 rfl) ?_
    refine bm_lald (f := wi.2.2.2.1) hx hb hK hP 36 0 ww_36 rfl (j := zk) (by omega) (by decide) dX3_turnedX_42 ?_
    refine lv_topl (fun t_5 _ => ?_)
    refine lv_lsub hx hb dX3_turnedX_43 ?_
    refine lv_topl (fun t_6 _ => ?_)
    exact bm_lretX (v := t_6) hx hb hr hP hD hK hS ⟨rfl, t_6, rfl⟩ dX3_turnedX_44 hlocks
  · by_cases ht_2 : zt = 2
    · rw [ht_2]
      refine lv_tableIn (off := 44) (tgt := 45) hx hb dX3_turnedX_1 (by decide) (by decide) (by decide) (by decide) ?_
      refine lv_aload_n hx hb dX3_turnedX_45 rfl (lv_at hl 0 rfl) ?_
      refine va_get (D := D) (ci := 3) (v := .ref (ad 1)) (C := RX3) (T := TX3) (N := 12) hx hb hts (inT inX3) hown hK hP 32 ww_32 rfl 0 (by decide) (hts (.fieldLink RX3 48 "BoardMoves$Wiring" "parts" "LBoardMoves$Parts;") (List.mem_cons_of_mem _ flX3_48)) (fun _ h9 => h9) rfl dX3_turnedX_46 ?_
      refine va_get (D := D) (ci := 1) (v := .ref (ad 2)) (C := RX1) (T := TX1) (N := 7) hx hb hts (inT inX1) hown hK hP 1 ww_1 rfl 0 (by decide) (hts (.fieldLink RX3 91 "BoardMoves$Parts" "w" "[J") (List.mem_cons_of_mem _ flX3_91)) (fun _ h9 => h9) rfl dX3_turnedX_49 ?_
      refine lv_iload_n hx hb dX3_turnedX_52 rfl (lv_at hl 2 rfl) ?_
      refine bm_lald (f := pa.1) hx hb hK hP 2 0 ww_2 rfl (j := zj) (by omega) (by decide) dX3_turnedX_53 ?_
      refine lv_topl (fun t_7 _ => ?_)
      refine lv_aload_n hx hb dX3_turnedX_54 rfl (lv_at hl 0 rfl) ?_
      refine va_get (D := D) (ci := 3) (v := .ref (ad 35)) (C := RX3) (T := TX3) (N := 12) hx hb hts (inT inX3) hown hK hP 32 ww_32 rfl 3 (by decide) (hts (.fieldLink RX3 18 "BoardMoves$Wiring" "dx" "[J") (List.mem_cons_of_mem _ flX3_18)) (fun _ h9 => h9) rfl dX3_turnedX_55 ?_
      refine lv_iload_n hx hb dX3_turnedX_58 rfl (lv_at hl 1 rfl) ?_
      refine bm_lald (f := wi.2.2.1) hx hb hK hP 35 0 ww_35 rfl (j := zk) (by omega) (by decide) dX3_turnedX_59 ?_
      refine lv_topl (fun t_8 _ => ?_)
      refine lv_lsub hx hb dX3_turnedX_60 ?_
      refine lv_topl (fun t_9 _ => ?_)
      exact bm_lretX (v := t_9) hx hb hr hP hD hK hS ⟨rfl, t_9, rfl⟩ dX3_turnedX_61 hlocks
    · by_cases ht_3 : zt = 3
      · rw [ht_3]
        refine lv_tableIn (off := 61) (tgt := 62) hx hb dX3_turnedX_1 (by decide) (by decide) (by decide) (by decide) ?_
        refine lv_aload_n hx hb dX3_turnedX_62 rfl (lv_at hl 0 rfl) ?_
        refine va_get (D := D) (ci := 3) (v := .ref (ad 36)) (C := RX3) (T := TX3) (N := 12) hx hb hts (inT inX3) hown hK hP 32 ww_32 rfl 4 (by decide) (hts (.fieldLink RX3 22 "BoardMoves$Wiring" "dy" "[J") (List.mem_cons_of_mem _ flX3_22)) (fun _ h9 => h9) rfl dX3_turnedX_63 ?_
        refine lv_iload_n hx hb dX3_turnedX_66 rfl (lv_at hl 1 rfl) ?_
        refine bm_lald (f := wi.2.2.2.1) hx hb hK hP 36 0 ww_36 rfl (j := zk) (by omega) (by decide) dX3_turnedX_67 ?_
        refine lv_topl (fun t_10 _ => ?_)
        exact bm_lretX (v := t_10) hx hb hr hP hD hK hS ⟨rfl, t_10, rfl⟩ dX3_turnedX_68 hlocks
      · refine lv_tableOut (tgt := 69) hx hb dX3_turnedX_1 (by rw [nI_toInt (by omega)]; omega) (by decide) ?_
        refine lv_aload_n hx hb dX3_turnedX_69 rfl (lv_at hl 0 rfl) ?_
        refine va_get (D := D) (ci := 3) (v := .ref (ad 35)) (C := RX3) (T := TX3) (N := 12) hx hb hts (inT inX3) hown hK hP 32 ww_32 rfl 3 (by decide) (hts (.fieldLink RX3 18 "BoardMoves$Wiring" "dx" "[J") (List.mem_cons_of_mem _ flX3_18)) (fun _ h9 => h9) rfl dX3_turnedX_70 ?_
        refine lv_iload_n hx hb dX3_turnedX_73 rfl (lv_at hl 1 rfl) ?_
        refine bm_lald (f := wi.2.2.1) hx hb hK hP 35 0 ww_35 rfl (j := zk) (by omega) (by decide) dX3_turnedX_74 ?_
        refine lv_topl (fun t_11 _ => ?_)
        exact bm_lretX (v := t_11) hx hb hr hP hD hK hS ⟨rfl, t_11, rfl⟩ dX3_turnedX_75 hlocks

set_option maxHeartbeats 8000000 in
set_option maxRecDepth 100000 in
theorem x_turnedY {l : Launch} {D : va_G} {ad : Nat → Nat} {cJ cI cZ : ClassId} {bm : gBM} {pa : gPA} {p0 p1 p2 : gPL} {li : gLI} {wi : gWI} {mt : Nat} {ms : gMS} {ma : gMA} {mp : gMP} {mk : gMK} {mn : gMN} {ou : Nat → Int64} {zk : Nat} {zj : Nat} {zt : Nat}  (hp0 : zk < 120) (hp1 : zj < 40) (hp2 : zt < 40)  : bm_Wx l yX3_turnedY wsX3_turnedY ({ frames := 0, cells := 0, slots := 0, locals := 0 }) D vwCl [(cJ, .long), (cI, .int), (cZ, .boolean)] (WW ad cJ cI cZ bm pa p0 p1 p2 li wi mt ms ma mp mk mn ou) [.ref (ad 32), .int (nI zk), .int (nI zj), .int (nI zt)] (fun ws9 r9 => ws9 = (WW ad cJ cI cZ bm pa p0 p1 p2 li wi mt ms ma mp mk mn ou) ∧ ∃ v9 : Int64, r9 = some (.long v9)) := by
  intro sz
  refine Met.ofW (cc := cX3_turnedY) (maxL := 4) (ret := (some .long)) (by decide) rfl ?_
  intro p e s m args below meth c s₁ B hml hv
  obtain ⟨ha, hsz, hP, hK, hD0⟩ := hv
  have hx := B.exec
  have hb := B.bytes
  have hr := B.returns
  have hts := atoms_spec (ws := wsX3_turnedY) B.pre
  have hown : s.vm.findClass RX3 = some m.cls := findClass_of_methodNamed B.named
  have hlocks := B.notSynchronized
  subst hsz
  have hD := hD0.self (sz := s.heap.size)
  generalize hAe : va_A (WW ad cJ cI cZ bm pa p0 p1 p2 li wi mt ms ma mp mk mn ou) s.heap.size = A at hD ⊢
  have hA : ∀ q : Nat, s.heap.size ≤ q → A q := fun q h => by rw [← hAe]; exact Or.inr h
  have hS : va_S A s.heap s.heap [] := va_S.rf
  have hl := lv_entry ([.ref (ad 32), .int (nI zk), .int (nI zj), .int (nI zt)]) (n := 4) (Nat.le_of_ble_eq_true rfl)
  refine W.eq (g2 := entryFrame m ([.ref (ad 32), .int (nI zk), .int (nI zj), .int (nI zt)] : List Value).toArray 4) (by rw [ha]) ?_
  rw [lg_entry_eq]
  generalize (lg_sl ([.ref (ad 32), .int (nI zk), .int (nI zj), .int (nI zt)]) ++ List.replicate (4 - (lg_sl ([.ref (ad 32), .int (nI zk), .int (nI zj), .int (nI zt)])).length) Slot.unset).toArray = ls at hl ⊢
  have hl : lv_has ls 4 [(0, .ref (ad 32)), (1, .int (nI zk)), (2, .int (nI zj)), (3, .int (nI zt))] := hl
  refine lv_iload_n hx hb dX3_turnedY_0 rfl (lv_at hl 3 rfl) ?_
  by_cases ht_1 : zt = 1
  · rw [ht_1]
    refine lv_tableIn (off := 27) (tgt := 28) hx hb dX3_turnedY_1 (by decide) (by decide) (by decide) (by decide) ?_
    refine lv_aload_n hx hb dX3_turnedY_28 rfl (lv_at hl 0 rfl) ?_
    refine va_get (D := D) (ci := 3) (v := .ref (ad 35)) (C := RX3) (T := TX3) (N := 12) hx hb hts (inT inX3) hown hK hP 32 ww_32 rfl 3 (by decide) (hts (.fieldLink RX3 18 "BoardMoves$Wiring" "dx" "[J") (List.mem_cons_of_mem _ flX3_18)) (fun _ h9 => h9) rfl dX3_turnedY_29 ?_
    refine lv_iload_n hx hb dX3_turnedY_32 rfl (lv_at hl 1 rfl) ?_
    refine bm_lald (f := wi.2.2.1) hx hb hK hP 35 0 ww_35 rfl (j := zk) (by omega) (by decide) dX3_turnedY_33 ?_
    refine lv_topl (fun t_4 _ => ?_)
    exact bm_lretX (v := t_4) hx hb hr hP hD hK hS ⟨rfl, t_4, rfl⟩ dX3_turnedY_34 hlocks
  · by_cases ht_2 : zt = 2
    · rw [ht_2]
      refine lv_tableIn (off := 34) (tgt := 35) hx hb dX3_turnedY_1 (by decide) (by decide) (by decide) (by decide) ?_
      refine lv_aload_n hx hb dX3_turnedY_35 rfl (lv_at hl 0 rfl) ?_
      refine va_get (D := D) (ci := 3) (v := .ref (ad 1)) (C := RX3) (T := TX3) (N := 12) hx hb hts (inT inX3) hown hK hP 32 ww_32 rfl 0 (by decide) (hts (.fieldLink RX3 48 "BoardMoves$Wiring" "parts" "LBoardMoves$Parts;") (List.mem_cons_of_mem _ flX3_48)) (fun _ h9 => h9) rfl dX3_turnedY_36 ?_
      refine va_get (D := D) (ci := 1) (v := .ref (ad 3)) (C := RX1) (T := TX1) (N := 7) hx hb hts (inT inX1) hown hK hP 1 ww_1 rfl 1 (by decide) (hts (.fieldLink RX3 86 "BoardMoves$Parts" "h" "[J") (List.mem_cons_of_mem _ flX3_86)) (fun _ h9 => h9) rfl dX3_turnedY_39 ?_
      refine lv_iload_n hx hb dX3_turnedY_42 rfl (lv_at hl 2 rfl) ?_
      refine bm_lald (f := pa.2.1) hx hb hK hP 3 0 ww_3 rfl (j := zj) (by omega) (by decide) dX3_turnedY_43 ?_
      refine lv_topl (fun t_5 _ => ?_)
      refine lv_aload_n hx hb dX3_turnedY_44 rfl (lv_at hl 0 rfl) ?_
      refine va_get (D := D) (ci := 3) (v := .ref (ad 36)) (C := RX3) (T := TX3) (N := 12) hx hb hts (inT inX3) hown hK hP 32 ww_32 rfl 4 (by decide) (hts (.fieldLink RX3 22 "BoardMoves$Wiring" "dy" "[J") (List.mem_cons_of_mem _ flX3_22)) (fun _ h9 => h9) rfl dX3_turnedY_45 ?_
      refine lv_iload_n hx hb dX3_turnedY_48 rfl (lv_at hl 1 rfl) ?_
      refine bm_lald (f := wi.2.2.2.1) hx hb hK hP 36 0 ww_36 rfl (j := zk) (by omega) (by decide) dX3_turnedY_49 ?_
      refine lv_topl (fun t_6 _ => ?_)
      refine lv_lsub hx hb dX3_turnedY_50 ?_
      refine lv_topl (fun t_7 _ => ?_)
      exact bm_lretX (v := t_7) hx hb hr hP hD hK hS ⟨rfl, t_7, rfl⟩ dX3_turnedY_51 hlocks
    · by_cases ht_3 : zt = 3
      · rw [ht_3]
        refine lv_tableIn (off := 51) (tgt := 52) hx hb dX3_turnedY_1 (by decide) (by decide) (by decide) (by decide) ?_
        refine lv_aload_n hx hb dX3_turnedY_52 rfl (lv_at hl 0 rfl) ?_
        refine va_get (D := D) (ci := 3) (v := .ref (ad 1)) (C := RX3) (T := TX3) (N := 12) hx hb hts (inT inX3) hown hK hP 32 ww_32 rfl 0 (by decide) (hts (.fieldLink RX3 48 "BoardMoves$Wiring" "parts" "LBoardMoves$Parts;") (List.mem_cons_of_mem _ flX3_48)) (fun _ h9 => h9) rfl dX3_turnedY_53 ?_
        refine va_get (D := D) (ci := 1) (v := .ref (ad 2)) (C := RX1) (T := TX1) (N := 7) hx hb hts (inT inX1) hown hK hP 1 ww_1 rfl 0 (by decide) (hts (.fieldLink RX3 91 "BoardMoves$Parts" "w" "[J") (List.mem_cons_of_mem _ flX3_91)) (fun _ h9 => h9) rfl dX3_turnedY_56 ?_
        refine lv_iload_n hx hb dX3_turnedY_59 rfl (lv_at hl 2 rfl) ?_
        refine bm_lald (f := pa.1) hx hb hK hP 2 0 ww_2 rfl (j := zj) (by omega) (by decide) dX3_turnedY_60 ?_
        refine lv_topl (fun t_8 _ => ?_)
        refine lv_aload_n hx hb dX3_turnedY_61 rfl (lv_at hl 0 rfl) ?_
        refine va_get (D := D) (ci := 3) (v := .ref (ad 35)) (C := RX3) (T := TX3) (N := 12) hx hb hts (inT inX3) hown hK hP 32 ww_32 rfl 3 (by decide) (hts (.fieldLink RX3 18 "BoardMoves$Wiring" "dx" "[J") (List.mem_cons_of_mem _ flX3_18)) (fun _ h9 => h9) rfl dX3_turnedY_62 ?_
        refine lv_iload_n hx hb dX3_turnedY_65 rfl (lv_at hl 1 rfl) ?_
        refine bm_lald (f := wi.2.2.1) hx hb hK hP 35 0 ww_35 rfl (j := zk) (by omega) (by decide) dX3_turnedY_66 ?_
        refine lv_topl (fun t_9 _ => ?_)
        refine lv_lsub hx hb dX3_turnedY_67 ?_
        refine lv_topl (fun t_10 _ => ?_)
        exact bm_lretX (v := t_10) hx hb hr hP hD hK hS ⟨rfl, t_10, rfl⟩ dX3_turnedY_68 hlocks
      · refine lv_tableOut (tgt := 69) hx hb dX3_turnedY_1 (by rw [nI_toInt (by omega)]; omega) (by decide) ?_
        refine lv_aload_n hx hb dX3_turnedY_69 rfl (lv_at hl 0 rfl) ?_
        refine va_get (D := D) (ci := 3) (v := .ref (ad 36)) (C := RX3) (T := TX3) (N := 12) hx hb hts (inT inX3) hown hK hP 32 ww_32 rfl 4 (by decide) (hts (.fieldLink RX3 22 "BoardMoves$Wiring" "dy" "[J") (List.mem_cons_of_mem _ flX3_22)) (fun _ h9 => h9) rfl dX3_turnedY_70 ?_
        refine lv_iload_n hx hb dX3_turnedY_73 rfl (lv_at hl 1 rfl) ?_
        refine bm_lald (f := wi.2.2.2.1) hx hb hK hP 36 0 ww_36 rfl (j := zk) (by omega) (by decide) dX3_turnedY_74 ?_
        refine lv_topl (fun t_11 _ => ?_)
        exact bm_lretX (v := t_11) hx hb hr hP hD hK hS ⟨rfl, t_11, rfl⟩ dX3_turnedY_75 hlocks
