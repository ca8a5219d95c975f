set_option maxHeartbeats 4000000 in
set_option maxRecDepth 100000 in
theorem r_len {l : Launch} {D : va_G} {ad : Nat → Nat} {cJ cI cZ : ClassId} {bm : gBM} {pa : gPA} {p0 p1 p2 : gPL} {li : gLI} {wi : gWI} {x : Int64} : bm_Rd l yX4_isLength wsX4_isLength ({ frames := 0, cells := 0, slots := 0, locals := 0 }) D vwCl [(cJ, .long), (cI, .int), (cZ, .boolean)] (Wd ad cJ cI cZ bm pa p0 p1 p2 li wi) [.long x] (.int (bm_b (q_len x))) := by
  refine Met.ofW (cc := cX4_isLength) (maxL := 2) (ret := (some .boolean)) (by decide) rfl ?_
  intro p e s m args below meth c s₁ B hml hv
  obtain ⟨ha, hP, hK⟩ := hv
  have hx := B.exec
  have hb := B.bytes
  have hr := B.returns
  have hts := atoms_spec (ws := wsX4_isLength) B.pre
  have hown : s.vm.findClass RX4 = some m.cls := findClass_of_methodNamed B.named
  have hlocks := B.notSynchronized
  have hl := lv_entry ([.long x]) (n := 2) (Nat.le_of_ble_eq_true rfl)
  refine W.eq (g2 := entryFrame m ([.long x] : List Value).toArray 2) (by rw [ha]) ?_
  rw [lg_entry_eq]
  generalize (lg_sl ([.long x]) ++ List.replicate (2 - (lg_sl ([.long x])).length) Slot.unset).toArray = ls at hl ⊢
  have hl : lv_has ls 2 [(0, .long x)] := hl
  refine lv_lload_n hx hb dX4_isLength_0 rfl (lv_at hl 0 rfl) ?_
  refine lv_lconst (v := 1) hx hb dX4_isLength_1 (by decide) ?_
  refine bm_lc_lt (x := x) (y := 1) (tgt := 18) hx hb dX4_isLength_2 dX4_isLength_3 (by decide) (fun c_1 => ?_) (fun c_1 => ?_)
  · refine lv_iconst (v := bm_b false) hx hb dX4_isLength_18 (by decide) ?_
    exact bm_zretR (v := false) hx hb hr (by simp [q_len, c_1]) dX4_isLength_19 hlocks
  · refine lv_lload_n hx hb dX4_isLength_6 rfl (lv_at hl 0 rfl) ?_
    refine lv_ldc2 (v := 65536) hx hb hown (hts (.constantLong RX4 51 65536) (by decide +kernel)) dX4_isLength_7 ?_
    refine bm_lc_gt (x := x) (y := 65536) (tgt := 18) hx hb dX4_isLength_10 dX4_isLength_11 (by decide) (fun c_2 => ?_) (fun c_2 => ?_)
    · refine lv_iconst (v := bm_b false) hx hb dX4_isLength_18 (by decide) ?_
      exact bm_zretR (v := false) hx hb hr (by simp [q_len, c_1, c_2]) dX4_isLength_19 hlocks
    · refine lv_iconst (v := bm_b true) hx hb dX4_isLength_14 (by decide) ?_
      refine lv_goto (tgt := 19) hx hb dX4_isLength_15 (by decide) ?_
      exact bm_zretR (v := true) hx hb hr (by simp [q_len, c_1, c_2]) dX4_isLength_19 hlocks
