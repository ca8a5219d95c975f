set_option maxHeartbeats 4000000 in
set_option maxRecDepth 100000 in
theorem w_draw {l : Launch} {D : va_G} {ad : Nat → Nat} {cJ cI cZ : ClassId} {bm : gBM} {pa : gPA} {p0 p1 p2 : gPL} {li : gLI} {wi : gWI}  : bm_Wr l yX4_draw wsX4_draw ({ frames := 0, cells := 0, slots := 0, locals := 0 }) D vwCl [(cJ, .long), (cI, .int), (cZ, .boolean)] (Wd ad cJ cI cZ bm pa p0 p1 p2 li wi) [.ref (ad 0)] (Wd ad cJ cI cZ (bm.1, bm.2.1, q_ndraw bm.2.2.1, bm.2.2.2) pa p0 p1 p2 li wi) (some (.long (q_drawn (q_ndraw bm.2.2.1)))) := by
  intro sz
  refine Met.ofW (cc := cX4_draw) (maxL := 1) (ret := (some .long)) (by decide) rfl ?_
  intro p e s m args below meth c s₁ B hml hv
  obtain ⟨ha, hsz, hP, hK, hD0⟩ := hv
  have hx := B.exec
  have hb := B.bytes
  have hr := B.returns
  have hts := atoms_spec (ws := wsX4_draw) B.pre
  have hown : s.vm.findClass RX4 = some m.cls := findClass_of_methodNamed B.named
  have hlocks := B.notSynchronized
  subst hsz
  have hD := hD0.self (sz := s.heap.size)
  generalize hAe : va_A (Wd ad cJ cI cZ bm pa p0 p1 p2 li wi) s.heap.size = A at hD ⊢
  have hA : ∀ q : Nat, s.heap.size ≤ q → A q := fun q h => by rw [← hAe]; exact Or.inr h
  have hS : va_S A s.heap s.heap [] := va_S.rf
  have hl := lv_entry ([.ref (ad 0)]) (n := 1) (Nat.le_of_ble_eq_true rfl)
  refine W.eq (g2 := entryFrame m ([.ref (ad 0)] : List Value).toArray 1) (by rw [ha]) ?_
  rw [lg_entry_eq]
  generalize (lg_sl ([.ref (ad 0)]) ++ List.replicate (1 - (lg_sl ([.ref (ad 0)])).length) Slot.unset).toArray = ls at hl ⊢
  have hl : lv_has ls 1 [(0, .ref (ad 0))] := hl
  refine lv_aload_n hx hb dX4_draw_0 rfl (lv_at hl 0 rfl) ?_
  refine lv_aload_n hx hb dX4_draw_1 rfl (lv_at hl 0 rfl) ?_
  refine va_get (D := D) (ci := 4) (v := .long bm.2.2.1) (C := RX4) (T := TX4) (N := 10) hx hb hts (inT inX4) hown hK hP 0 rfl rfl 8 (by decide) (hts (.fieldLink RX4 68 "BoardMoves" "drawn" "J") (by decide +kernel)) (fun _ h9 => h9) rfl dX4_draw_2 ?_
  refine lv_ldc2 (v := 6364136223846793005) hx hb hown (hts (.constantLong RX4 268 6364136223846793005) (by decide +kernel)) dX4_draw_5 ?_
  refine lv_lmul hx hb dX4_draw_8 ?_
  refine lv_ldc2 (v := 1442695040888963407) hx hb hown (hts (.constantLong RX4 270 1442695040888963407) (by decide +kernel)) dX4_draw_9 ?_
  refine lv_ladd hx hb dX4_draw_12 ?_
  refine va_put (D := D) (ci := 4) (v := .long ((bm.2.2.1 * 6364136223846793005) + 1442695040888963407)) (ty := .long) (C := RX4) (T := TX4) (N := 10) hx hb hts (inT inX4) tyX4 tyX4_ok nmX4 hown hK hP hD hS 0 rfl rfl 8 (by decide) (hts (.fieldLink RX4 68 "BoardMoves" "drawn" "J") (by decide +kernel)) (fun _ h9 => h9) rfl (by decide +kernel) rfl rfl (Nat.le_of_ble_eq_true rfl) dX4_draw_13 (fun H locs hP hD hS => ?_)
  have hP : va_P D vwCl (Wd ad cJ cI cZ (bm.1, bm.2.1, (bm.2.2.1 * 6364136223846793005) + 1442695040888963407, bm.2.2.2) pa p0 p1 p2 li wi) H := hP
  have hD : va_D A (Wd ad cJ cI cZ (bm.1, bm.2.1, (bm.2.2.1 * 6364136223846793005) + 1442695040888963407, bm.2.2.2) pa p0 p1 p2 li wi) := hD
  refine lv_aload_n hx hb dX4_draw_16 rfl (lv_at hl 0 rfl) ?_
  refine va_get (D := D) (ci := 4) (v := .long ((bm.2.2.1 * 6364136223846793005) + 1442695040888963407)) (C := RX4) (T := TX4) (N := 10) hx hb hts (inT inX4) hown hK hP 0 rfl rfl 8 (by decide) (hts (.fieldLink RX4 68 "BoardMoves" "drawn" "J") (by decide +kernel)) (fun _ h9 => h9) rfl dX4_draw_17 ?_
  refine lv_bipush (v := nI 33) hx hb dX4_draw_20 (by decide) ?_
  refine lv_lushr (v := (((bm.2.2.1 * 6364136223846793005) + 1442695040888963407).toUInt64 >>> ((nI 33).toInt64.toUInt64 &&& Int64.toUInt64 63)).toInt64) hx hb dX4_draw_22 rfl ?_
  exact bm_lretW (v := ((((bm.2.2.1 * 6364136223846793005) + 1442695040888963407).toUInt64 >>> ((nI 33).toInt64.toUInt64 &&& Int64.toUInt64 63)).toInt64)) hx hb hr hP hD hK hS ⟨rfl, rfl⟩ dX4_draw_23 hlocks
