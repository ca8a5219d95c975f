-- WEAK CONTRACTS: what comes behind a method is said by a relation
def bm_Wxq (D : va_G) (cl : List vw_C) (tys : List (ClassId × FieldType)) (PW : va_W → Option Value → Prop) (A : Nat → Prop) : Array Value → State → Outcome → State → Prop := fun _ st oc t => (∃ (ws9 : va_W) (r9 : Option Value), PW ws9 r9 ∧ oc = .returned r9 ∧ va_P D cl ws9 t.heap ∧ va_K D cl tys t ∧ va_D A ws9) ∧ va_F A st t
def bm_Wx (l : Launch) (y : MethodName) (wd : List Cond) (rm : Room) (D : va_G) (cl : List vw_C) (tys : List (ClassId × FieldType)) (ws : va_W) (av : List Value) (PW : va_W → Option Value → Prop) : Prop := ∀ sz : Nat, Met l y wd rm (bm_Wp D cl tys ws av sz) (bm_Wxq D cl tys PW (va_A ws sz)) 0 0 (va_A ws sz)
section BMX
variable {p : Program} {l : Launch} {e : Env} {R : Room} {s : State} {m : MethodId} {args : Array Value} {below : List Frame} {meth : Method} {c : Code} {H : Heap} {locs : List Loc} {cells slots : Nat} {Q : State → Prop}
variable {cc bytes : ByteArray} {pc nL maxL n index : Nat} {ret : Option FieldType} {ls : Array Slot} {st0 As rest : List Value} {D : va_G} {cl : List vw_C} {A : Nat → Prop} {b : Nat} {tys : List (ClassId × FieldType)} {ws : va_W} {H0 : Heap} {Ts wd : List Cond} {rm : Room} {own C : String} {T : u_T} {N : Nat} {y : MethodName} {fs : List Value} {PW : va_W → Option Value → Prop}
theorem bm_xgo (hr : va_Run p l e R s m args below meth c H locs cells slots 0 0 (F0 m pc ls st0) rest (bm_Wxq D cl tys PW (va_A ws H.size) As.toArray) (va_A ws H.size)) (hD : va_D A ws) (hS : va_S A H0 H locs) (hA : ∀ q : Nat, H0.size ≤ q → A q)
    (kk : ∀ (ws9 : va_W) (r9 : Option Value), PW ws9 r9 → ∀ (H1 : Heap) (locs1 : List Loc), va_P D cl ws9 H1 → va_D A ws9 → va_S A H0 H1 locs1 → W p l e R s m args below meth c H1 locs1 cells slots Q (F0 m (pc + 3) ls (r9.toList ++ rest))) : W p l e R s m args below meth c H locs cells slots Q (F0 m pc ls st0) := by
  have hF : ∀ q, va_A ws H.size q → A q := by
    intro q h
    rcases h with ⟨k, e9, h⟩ | h
    · exact hD.2 k (q, e9) h
    · exact hA q (Nat.le_trans hS.1 h)
  intro T hT X
  obtain ⟨v, st₀, t, T', L, h0, X', hL, e1, e2, ⟨⟨ws9, r9, hpw, hv, hP', hK', hD'⟩, hz, hk⟩, st⟩ := hr T hT X
  cases hv
  rw [h0] at hz hk
  obtain ⟨t2, a1, b1⟩ := kk ws9 _ hpw T'.heap (locs ++ L) (by rw [e1]; exact hP') (hD'.weaken (fun _ _ _ h => hF _ h))
    ⟨Nat.le_trans hS.1 (by rw [e1]; exact hz), fun q h1 h2 => by rw [e1, hk q (Nat.lt_of_lt_of_le h1 hS.1) (fun z => h2 (hF q z))]; exact hS.2.1 q h1 h2, fun q hq => by
      rcases List.mem_append.mp hq with h | h
      · exact hS.2.2 q h
      · exact hF _ (hL q h)⟩ T' rfl X'
  exact ⟨t2, st t2 a1, b1⟩
theorem bm_xcallV (S : CallFix p m c cc nL s args Ts own) (hM : bm_Wx l y wd rm D cl tys ws (.ref b :: As) PW) (cw : CallW R s args own C index y bytes maxL ret wd rm 0 0 n) (hK : va_K D cl tys s) (hP : va_P D cl ws H) (hD : va_D A ws) (hS : va_S A H0 H locs) (hA : ∀ q : Nat, H0.size ≤ q → A q) (q0 ci : Nat) (hc : cl[ci]? = some (C, T, N)) (he : ws[q0]? = some (b, .inr (ci, fs)))
    (hn : As.length = n) (hsize : ls.size = nL) (hstack : st0 = As.reverse ++ .ref b :: rest) (hW : (rest.map fun v => v.category).sum ≤ 8) (hdg : decode cc pc = .ok (.invokevirtual index, 3)) (hcs : cells ≤ R.cells ∧ slots ≤ R.slots)
    (kk : ∀ (ws9 : va_W) (r9 : Option Value), PW ws9 r9 → ∀ (H1 : Heap) (locs1 : List Loc), va_P D cl ws9 H1 → va_D A ws9 → va_S A H0 H1 locs1 → W p l e R s m args below meth c H1 locs1 cells slots Q (F0 m (pc + 3) ls (r9.toList ++ rest))) : W p l e R s m args below meth c H locs cells slots Q (F0 m pc ls st0) :=
  bm_xgo (As := .ref b :: As) (va_runV (g := F0 m pc ls st0) (e := e) (below := below) (meth := meth) (locs := locs) (cells := cells) (slots := slots) S (hM H.size) cw ⟨bm_Wp.blind, va_recv hK hP hc he, fun U hU hW => ⟨rfl, by rw [hU], by rw [hU]; exact hP, va_K.moved hW.alike hK, hD.weaken (fun _ _ _ _ => trivial)⟩⟩ rfl hn hsize hstack (lv_room hW) hdg hcs) hD hS hA kk
theorem bm_xcallS (S : CallFix p m c cc nL s args Ts own) (hM : bm_Wx l y wd rm D cl tys ws As PW) (cw : CallB R s args own index y bytes maxL ret wd rm 0 0 n ∧ (Cond.static y).before args s = true) (hK : va_K D cl tys s) (hP : va_P D cl ws H) (hD : va_D A ws) (hS : va_S A H0 H locs) (hA : ∀ q : Nat, H0.size ≤ q → A q)
    (hn : As.length = n) (hsize : ls.size = nL) (hstack : st0 = As.reverse ++ rest) (hW : (rest.map fun v => v.category).sum ≤ 8) (hdg : decode cc pc = .ok (.invokestatic index, 3)) (hcs : cells ≤ R.cells ∧ slots ≤ R.slots)
    (kk : ∀ (ws9 : va_W) (r9 : Option Value), PW ws9 r9 → ∀ (H1 : Heap) (locs1 : List Loc), va_P D cl ws9 H1 → va_D A ws9 → va_S A H0 H1 locs1 → W p l e R s m args below meth c H1 locs1 cells slots Q (F0 m (pc + 3) ls (r9.toList ++ rest))) : W p l e R s m args below meth c H locs cells slots Q (F0 m pc ls st0) :=
  bm_xgo (As := As) (va_runS (g := F0 m pc ls st0) (e := e) (below := below) (meth := meth) (locs := locs) (cells := cells) (slots := slots) S (hM H.size) cw ⟨bm_Wp.blind, fun U hU hW => ⟨rfl, by rw [hU], by rw [hU]; exact hP, va_K.moved hW.alike hK, hD.weaken (fun _ _ _ _ => trivial)⟩⟩ rfl hn hsize hstack (lv_room hW) hdg hcs) hD hS hA kk
theorem bm_vretX (hexec : p.tables.exec = Jvm.exec) (hb : c.code = cc) (hr : meth.sig.returnType = none) (hP : va_P D cl ws H) (hD : va_D A ws) (hK : va_K D cl tys s) (hS : va_S A s.heap H locs) (hp : PW ws none) (hdg : decode cc pc = .ok (.return_, 1)) (hlocks : meth.locks = false) : W p l e R s m args below meth c H locs cells slots (MQ below (bm_Wxq D cl tys PW A) args s cells slots A) (F0 m pc ls []) :=
  W.vret hexec hb hr (fun t ht hW => ⟨⟨ws, none, hp, rfl, by rw [ht]; exact hP, va_K.moved hW.alike hK, hD⟩, hS.F ht⟩) hS.2.2 hdg hlocks
theorem bm_iretX {v : Int32} (hexec : p.tables.exec = Jvm.exec) (hb : c.code = cc) (hr : meth.sig.returnType = some .int) (hP : va_P D cl ws H) (hD : va_D A ws) (hK : va_K D cl tys s) (hS : va_S A s.heap H locs) (hp : PW ws (some (.int v))) (hdg : decode cc pc = .ok (.ireturn, 1)) (hlocks : meth.locks = false) : W p l e R s m args below meth c H locs cells slots (MQ below (bm_Wxq D cl tys PW A) args s cells slots A) (F0 m pc ls [.int v]) :=
  W.iret hexec hb hr (fun t ht hW => ⟨⟨ws, _, hp, rfl, by rw [ht]; exact hP, va_K.moved hW.alike hK, hD⟩, hS.F ht⟩) hS.2.2 hdg hlocks
theorem bm_zretX {v : Bool} (hexec : p.tables.exec = Jvm.exec) (hb : c.code = cc) (hr : meth.sig.returnType = some .boolean) (hP : va_P D cl ws H) (hD : va_D A ws) (hK : va_K D cl tys s) (hS : va_S A s.heap H locs) (hp : PW ws (some (.int (bm_b v)))) (hdg : decode cc pc = .ok (.ireturn, 1)) (hlocks : meth.locks = false) : W p l e R s m args below meth c H locs cells slots (MQ below (bm_Wxq D cl tys PW A) args s cells slots A) (F0 m pc ls [.int (bm_b v)]) :=
  W.zret hexec hb hr (bm_b_narrow v) (fun t ht hW => ⟨⟨ws, _, hp, rfl, by rw [ht]; exact hP, va_K.moved hW.alike hK, hD⟩, hS.F ht⟩) hS.2.2 hdg hlocks
theorem bm_lretX {v : Int64} (hexec : p.tables.exec = Jvm.exec) (hb : c.code = cc) (hr : meth.sig.returnType = some .long) (hP : va_P D cl ws H) (hD : va_D A ws) (hK : va_K D cl tys s) (hS : va_S A s.heap H locs) (hp : PW ws (some (.long v))) (hdg : decode cc pc = .ok (.lreturn, 1)) (hlocks : meth.locks = false) : W p l e R s m args below meth c H locs cells slots (MQ below (bm_Wxq D cl tys PW A) args s cells slots A) (F0 m pc ls [.long v]) :=
  W.lret hexec hb hr (fun t ht hW => ⟨⟨ws, _, hp, rfl, by rw [ht]; exact hP, va_K.moved hW.alike hK, hD⟩, hS.F ht⟩) hS.2.2 hdg hlocks
end BMX
theorem bx_uplt {f : Nat → Nat} {k v B : Nat} (h : ∀ i, f i < B) (hv : v < B) : ∀ i, va_up f k v i < B := by
  intro i
  unfold va_up
  split
  · exact hv
  · exact h i
section BMY
variable {p : Program} {l : Launch} {e : Env} {R : Room} {s : State} {m : MethodId} {args : Array Value} {below : List Frame} {meth : Method} {c : Code} {H : Heap} {locs : List Loc} {cells slots : Nat} {Q : State → Prop}
variable {cc : ByteArray} {pc : Nat} {ls : Array Slot} {rest : List Value}
theorem bm_lN_ne0 {n : Nat} (h0 : 0 < n) (h : n < 2 ^ 63) : lN n ≠ 0 := fun q => by
  have := (pk_lEQ h (by decide : 0 < 2 ^ 63)).mp q
  omega
theorem bm_ndiv (hexec : p.tables.exec = Jvm.exec) (hb : c.code = cc) {x y : Nat} (hx : x < 2 ^ 31) (h0 : 0 < y) (hy : y < 2 ^ 31) (hdg : decode cc pc = .ok (.idiv, 1))
    (k : W p l e R s m args below meth c H locs cells slots Q (F0 m (pc + 1) ls (.int (nI (x / y)) :: rest))) : W p l e R s m args below meth c H locs cells slots Q (F0 m pc ls (.int (nI y) :: .int (nI x) :: rest)) := by
  refine lv_idiv hexec hb hdg (nI_ne0 h0 hy) ?_
  rw [pk_div hx h0 hy]
  exact k
theorem bm_ladd1 (hexec : p.tables.exec = Jvm.exec) (hb : c.code = cc) {x : Nat} (hdg : decode cc pc = .ok (.ladd, 1))
    (k : W p l e R s m args below meth c H locs cells slots Q (F0 m (pc + 1) ls (.long (lN (x + 1)) :: rest))) : W p l e R s m args below meth c H locs cells slots Q (F0 m pc ls (.long 1 :: .long (lN x) :: rest)) := by
  refine lv_ladd hexec hb hdg ?_
  have e : lN x + 1 = lN (x + 1) := (Int64.ofNat_add x 1).symm
  rw [e]
  exact k
theorem bm_lmulN (hexec : p.tables.exec = Jvm.exec) (hb : c.code = cc) {x y : Nat} (hdg : decode cc pc = .ok (.lmul, 1))
    (k : W p l e R s m args below meth c H locs cells slots Q (F0 m (pc + 1) ls (.long (lN (x * y)) :: rest))) : W p l e R s m args below meth c H locs cells slots Q (F0 m pc ls (.long (lN y) :: .long (lN x) :: rest)) := by
  refine lv_lmul hexec hb hdg ?_
  have e : lN x * lN y = lN (x * y) := (Int64.ofNat_mul x y).symm
  rw [e]
  exact k
theorem bm_lNlt {x y : Nat} (hx : x < 2 ^ 63) (hy : y < 2 ^ 63) : lN x < lN y ↔ x < y := by
  rw [Int64.lt_iff_toInt_lt]
  have e : ∀ n : Nat, n < 2 ^ 63 → (lN n).toInt = (n : Int) := fun n h => Int64.toInt_ofNat_of_lt h
  rw [e x hx, e y hy]
  omega
theorem bm_Nlc_ge (hexec : p.tables.exec = Jvm.exec) (hb : c.code = cc) {x y : Nat} (hx : x < 2 ^ 63) (hy : y < 2 ^ 63) {off : Int} {tgt : Nat} (hd1 : decode cc pc = .ok (.lcmp, 1)) (hdg : decode cc (pc + 1) = .ok (.ifCond .ge off, 3)) (ht : ((pc + 1 : Nat) : Int) + off = (tgt : Int))
    (kt : ¬ x < y → W p l e R s m args below meth c H locs cells slots Q (F0 m tgt ls rest)) (kf : x < y → W p l e R s m args below meth c H locs cells slots Q (F0 m (pc + 1 + 3) ls rest)) : W p l e R s m args below meth c H locs cells slots Q (F0 m pc ls (.long (lN y) :: .long (lN x) :: rest)) :=
  bm_lc_ge hexec hb hd1 hdg ht (fun h => kt (fun q => h ((bm_lNlt hx hy).mpr q))) (fun h => kf ((bm_lNlt hx hy).mp h))
theorem bm_ushr (x : Int64) : ∃ z : Nat, z < 2 ^ 31 ∧ (x.toUInt64 >>> ((nI 33).toInt64.toUInt64 &&& Int64.toUInt64 63)).toInt64 = lN z := by
  obtain ⟨n, hn, rfl⟩ := wb_of x
  exact ⟨n / 2 ^ 33, by omega, wb_shr hn (by decide)⟩
theorem bm_ushr33 (hexec : p.tables.exec = Jvm.exec) (hb : c.code = cc) {x : Int64} (hdg : decode cc pc = .ok (.lushr, 1))
    (k : ∀ z : Nat, z < 2 ^ 31 → W p l e R s m args below meth c H locs cells slots Q (F0 m (pc + 1) ls (.long (lN z) :: rest))) : W p l e R s m args below meth c H locs cells slots Q (F0 m pc ls (.int (nI 33) :: .long x :: rest)) := by
  obtain ⟨z, hz, ez⟩ := bm_ushr x
  exact lv_lushr hexec hb hdg ez (k z hz)
end BMY
theorem bm_nm1 {n : Nat} (h : n < 2 ^ 31) : ¬ nI n = -1 := fun q => by
  have h1 := congrArg Int32.toInt q
  rw [nI_toInt h] at h1
  have h2 : (-1 : Int32).toInt = -1 := by decide
  omega
theorem bm40 {a : Nat} (h : a < 40) : a < 2 ^ 31 := Nat.lt_trans h (by decide)
