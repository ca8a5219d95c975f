theorem bm_sld {p : Program} {l : Launch} {e : Env} {R : Room} {s : State} {m : MethodId} {args : Array Value} {below : List Frame} {meth : Method} {c : Code} {H : Heap} {locs : List Loc} {cells slots : Nat} {Q : State → Prop} {cc : ByteArray} {pc : Nat} {ls : Array Slot} {rest : List Value} {A : Nat → Prop} {H0 : Heap} (hexec : p.tables.exec = Jvm.exec) (hb : c.code = cc) {b L : Nat} {xs : Nat → Int32} (hX : va_X b L xs s H0) (hbl : b < H0.size) (hbA : ¬ A b) (hS : va_S A H0 H locs) {j : Nat} (hj : j < L) (hL : L < 2 ^ 31) (hdg : decode cc pc = .ok (.iaload, 1))
    (kk : W p l e R s m args below meth c H locs cells slots Q (F0 m (pc + 1) ls (.int (xs j) :: rest))) : W p l e R s m args below meth c H locs cells slots Q (F0 m pc ls (.int (nI j) :: .ref b :: rest)) := by
  refine va_sld hexec hb hX hbl hbA hS (vp_in_nI hj hL) hdg ?_
  rw [nI_clamp (Nat.lt_trans hj hL)]
  exact kk
def bx_cv (L : Nat) (xs : Nat → Int32) (k : Nat) : Int32 := if k < L then xs k else 0
def bx_Lp (b L : Nat) (xs : Nat → Int32) (k : Nat) : Array Value → State → Prop := fun v U => v = ([.ref b, .int (nI k)] : List Value).toArray ∧ va_X b L xs U U.heap ∧ b < U.heap.size
theorem bx_Xat {b L : Nat} {xs : Nat → Int32} {s U : State} (h : va_X b L xs s s.heap) (hvm : s.vm.Alike U.vm) (hq : U.heap[b]? = s.heap[b]?) : va_X b L xs U U.heap := by
  obtain ⟨scr, h1, h2, h3, h4, h5⟩ := h
  exact ⟨scr, by rw [hq]; exact h1, State.isArrayOf_alike hvm h2, h3, h4, h5⟩
theorem bx_Lp.blind {b L : Nat} {xs : Nat → Int32} {k : Nat} : FrameBlind (bx_Lp b L xs k) := by
  intro a U g mk q
  obtain ⟨q0, q1, q2⟩ := q
  exact ⟨q0, bx_Xat (s := U) (U := U.calling g mk a) q1 (Vm.Alike.refl U.vm) rfl, q2⟩
set_option maxHeartbeats 4000000 in
set_option maxRecDepth 100000 in
theorem c_cell {l : Launch} {b L : Nat} {xs : Nat → Int32} {k : Nat} (hk : k < 3) (hL : L ≤ 5635) : Met l yL_cell wsL_cell ({ frames := 0, cells := 0, slots := 0, locals := 0 }) (bx_Lp b L xs k) (k2_QcV (.int (bx_cv L xs k))) 0 0 (fun _ => False) := by
  refine Met.ofW (cc := cL_cell) (maxL := 2) (ret := (some .int)) (by decide) rfl ?_
  intro p e s m args below meth c s₁ B hml hv
  obtain ⟨ha, hXs, hbl⟩ := hv
  have hx := B.exec
  have hb := B.bytes
  have hr := B.returns
  have hlocks := B.notSynchronized
  have hS : va_S (fun q : Nat => s.heap.size ≤ q) s.heap s.heap [] := va_S.rf
  have hbA : ¬ (fun q : Nat => s.heap.size ≤ q) b := Nat.not_le.mpr hbl
  have hl := lv_entry ([.ref b, .int (nI k)]) (n := 2) (Nat.le_of_ble_eq_true rfl)
  refine W.eq (g2 := entryFrame m ([.ref b, .int (nI k)] : List Value).toArray 2) (by rw [ha]) ?_
  rw [lg_entry_eq]
  generalize (lg_sl ([.ref b, .int (nI k)]) ++ List.replicate (2 - (lg_sl ([.ref b, .int (nI k)])).length) Slot.unset).toArray = ls at hl ⊢
  have hl : lv_has ls 2 [(0, .ref b), (1, .int (nI k))] := hl
  refine lv_iload_n hx hb dL_cell_0 rfl (lv_at hl 1 rfl) ?_
  refine lv_aload_n hx hb dL_cell_1 rfl (lv_at hl 0 rfl) ?_
  refine va_slen hx hb hXs hbl hbA hS dL_cell_2 ?_
  refine bm_ni_ge (x := k) (y := L) (tgt := 12) hx hb (by omega) (by omega) dL_cell_3 (by decide) (fun c_1 => ?_) (fun c_1 => ?_)
  · refine lv_iconst (v := 0) hx hb dL_cell_12 (by decide) ?_
    exact bm_iretR (v := 0) hx hb hr (by simp [bx_cv, c_1]) dL_cell_13 hlocks
  · refine lv_aload_n hx hb dL_cell_6 rfl (lv_at hl 0 rfl) ?_
    refine lv_iload_n hx hb dL_cell_7 rfl (lv_at hl 1 rfl) ?_
    refine bm_sld hx hb hXs hbl hbA hS (j := k) c_1 (by omega) dL_cell_8 ?_
    refine lv_goto (tgt := 13) hx hb dL_cell_9 (by decide) ?_
    exact bm_iretR (v := xs k) hx hb hr (by simp [bx_cv, c_1]) dL_cell_13 hlocks
theorem bx_ccall {p : Program} {l : Launch} {e : Env} {R : Room} {s : State} {m : MethodId} {args : Array Value} {below : List Frame} {meth : Method} {c : Code} {H : Heap} {locs : List Loc} {cells slots : Nat} {Q : State → Prop} {cc bytes : ByteArray} {pc nL maxL index : Nat} {ret : Option FieldType} {ls : Array Slot} {rest : List Value} {A : Nat → Prop} {Ts : List Cond} {rm : Room} {own : String} {b L : Nat} {xs : Nat → Int32} {k : Nat}
    (S : CallFix p m c cc nL s args Ts own) (cw : CallB R s args own index yL_cell bytes maxL ret wsL_cell rm 0 0 2 ∧ (Cond.static yL_cell).before args s = true) (hM : Met l yL_cell wsL_cell rm (bx_Lp b L xs k) (k2_QcV (.int (bx_cv L xs k))) 0 0 (fun _ => False)) (hXs : va_X b L xs s s.heap) (hbl : b < s.heap.size) (hS : va_S A s.heap H locs) (hbA : ¬ A b)
    (hsize : ls.size = nL) (hW : (rest.map fun v => v.category).sum ≤ 8) (hdg : decode cc pc = .ok (.invokestatic index, 3)) (hcs : cells ≤ R.cells ∧ slots ≤ R.slots)
    (kk : W p l e R s m args below meth c H locs cells slots Q (F0 m (pc + 3) ls (.int (bx_cv L xs k) :: rest))) : W p l e R s m args below meth c H locs cells slots Q (F0 m pc ls (.int (nI k) :: .ref b :: rest)) :=
  W.callV (W.runS (g := F0 m pc ls (.int (nI k) :: .ref b :: rest)) (As := [.ref b, .int (nI k)]) (rest := rest) S hM cw ⟨bx_Lp.blind, fun U hU hW => ⟨rfl, bx_Xat hXs hW.alike (by rw [hU]; exact hS.2.1 b hbl hbA), by rw [hU]; exact Nat.lt_of_lt_of_le hbl hS.1⟩⟩ rfl rfl hsize rfl (lv_room hW) hdg hcs) kk
def bx_Bp (D : va_G) (cl : List vw_C) (tys : List (ClassId × FieldType)) (ws : va_W) (av : List Value) (sz : Nat) : Array Value → State → Prop := fun v U => v = av.toArray ∧ U.heap.size = sz ∧ va_P D cl ws U.heap ∧ va_K D cl tys U ∧ va_D (fun _ => True) ws ∧ va_Nw (.methodLinkNest RX4 11 yX1_init "BoardMoves") U
theorem bx_Bp.blind {D : va_G} {cl : List vw_C} {tys : List (ClassId × FieldType)} {ws : va_W} {av : List Value} {sz : Nat} : FrameBlind (bx_Bp D cl tys ws av sz) := by
  intro a U g mk q
  obtain ⟨q0, q1, qP, qK, qD, qN⟩ := q
  exact ⟨q0, q1, qP, va_K.moved (u := U) (U := U.calling g mk a) (Vm.Alike.refl U.vm) qK, qD, va_Nw.same rfl rfl qN⟩
theorem bx_max1 {y : Int64} : q_max 1 y ≠ 0 := by
  unfold q_max
  split
  · decide
  · rename_i h
    intro q
    rw [q] at h
    exact absurd (by decide) h
theorem bx_ge1 {x : Int64} (h : ¬ x < 1) : x ≠ 0 := by
  intro q
  rw [q] at h
  exact absurd (by decide) h
theorem bx_N.of {E nm : String} {args : Array Value} {s : State} {a b : ClassId} (h1 : s.vm.findClass E = some a) (h2 : s.vm.findClass nm = some b) (h : (Cond.not (.castable E nm)).before args s = true) : bx_N E nm s :=
  ⟨a, b, h1, h2, by simpa [Cond.before, Cond.holds, Cond.value, h1, h2] using h⟩
theorem okC_part {bm : gBM} {pa : gPA} {p0 p1 p2 : gPL} {li : gLI} {wi : gWI} {zA zB : Int64} {zC : Nat} (h : okC bm pa p0 p1 p2 li wi) (hq : pa.2.2.2.2.2.2 < 40) (hk : zC < 2) : okC bm (va_up pa.1 pa.2.2.2.2.2.2 zA, va_up pa.2.1 pa.2.2.2.2.2.2 zB, va_up pa.2.2.1 pa.2.2.2.2.2.2 zC, pa.2.2.2.1, pa.2.2.2.2.1, va_up pa.2.2.2.2.2.1 pa.2.2.2.2.2.2 pa.2.2.2.2.2.2, pa.2.2.2.2.2.2 + 1) p0 p1 p2 li wi := by
  obtain ⟨h0, h1, h2, h3, h4, h5, h6, h7, h8, h9, h10, h11, h12, h13, h14, h15, hI⟩ := h
  exact ⟨hq, (bx_uplt h1 (Nat.lt_of_lt_of_le hk (by decide))), (bx_uplt h2 hq), h3, h4, h5, h6, h7, h8, h9, h10, h11, h12, h13, h14, h15, (INV_part hI)⟩
