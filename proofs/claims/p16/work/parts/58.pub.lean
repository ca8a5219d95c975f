-- what a thrower of BoardMoves needs of the tables and of the heap
def bxUp : List String := ["java/lang/RuntimeException", "java/lang/Exception"]
def xA1 : List Cond := Bundle.ownAtoms RX4 79 "java/lang/IllegalArgumentException" bxUp
def xA2 : List Cond := Bundle.ownAtoms RX4 147 "java/lang/IndexOutOfBoundsException" bxUp
def xA3 : List Cond := Bundle.ownAtoms RX4 168 "java/lang/IllegalStateException" bxUp
def xW : List Cond := xA1 ++ (xA2 ++ xA3)
theorem bx_in_79 : ∀ w ∈ Bundle.ownAtoms RX4 79 "java/lang/IllegalArgumentException" bxUp, w ∈ xW := fun w h => List.mem_append_left _ h
theorem bx_in_147 : ∀ w ∈ Bundle.ownAtoms RX4 147 "java/lang/IndexOutOfBoundsException" bxUp, w ∈ xW := fun w h => List.mem_append_right _ (List.mem_append_left _ h)
theorem bx_in_168 : ∀ w ∈ Bundle.ownAtoms RX4 168 "java/lang/IllegalStateException" bxUp, w ∈ xW := fun w h => List.mem_append_right _ (List.mem_append_right _ h)
theorem xW_ok : bx_ok xW = true := by decide +kernel
def xS : List (Nat × String) := [(77, "a part is 1 .. 65,536 wide and high, on side 0 or 1"), (90, "a turn is 0 .. 3"), (145, "no such net"), (154, "a pin lies in its part"), (166, "the part is not placed"), (191, "what is 0 .. 6"), (195, "steps are 0 .. 2,000"), (205, "a gap is not below 0"), (218, "a height is 0 .. 65,536"), (223, "a height is not below 0"), (238, "no such part")]
def bx_Tp (D : va_G) (cl : List vw_C) (tys : List (ClassId × FieldType)) (ws : va_W) (av : List Value) : Array Value → State → Prop := fun v U => v = av.toArray ∧ va_P D cl ws U.heap ∧ va_K D cl tys U ∧ bx_X xW U ∧ bx_S RX4 xS U
def bx_Hp (D : va_G) (cl : List vw_C) (tys : List (ClassId × FieldType)) (ws : va_W) (av : List Value) (sz : Nat) : Array Value → State → Prop := fun v U => v = av.toArray ∧ U.heap.size = sz ∧ va_P D cl ws U.heap ∧ va_K D cl tys U ∧ va_D (fun _ => True) ws ∧ bx_X xW U ∧ bx_S RX4 xS U
theorem bx_Tp.blind {D : va_G} {cl : List vw_C} {tys : List (ClassId × FieldType)} {ws : va_W} {av : List Value} : FrameBlind (bx_Tp D cl tys ws av) := by
  intro a U g mk q
  obtain ⟨q0, qP, qK, qX, qZ⟩ := q
  have hW : U.WarmedH (U.calling g mk a).vm := State.WarmedH.refl U
  exact ⟨q0, qP, va_K.moved (u := U) (U := U.calling g mk a) (Vm.Alike.refl U.vm) qK, bx_X.mv xW_ok hW (fun _ _ => rfl) qX, bx_S.mv hW qZ⟩
theorem bx_Hp.blind {D : va_G} {cl : List vw_C} {tys : List (ClassId × FieldType)} {ws : va_W} {av : List Value} {sz : Nat} : FrameBlind (bx_Hp D cl tys ws av sz) := by
  intro a U g mk q
  obtain ⟨q0, q1, qP, qK, qD, qX, qZ⟩ := q
  have hW : U.WarmedH (U.calling g mk a).vm := State.WarmedH.refl U
  exact ⟨q0, q1, qP, va_K.moved (u := U) (U := U.calling g mk a) (Vm.Alike.refl U.vm) qK, qD, bx_X.mv xW_ok hW (fun _ _ => rfl) qX, bx_S.mv hW qZ⟩
section BXC
variable {p : Program} {l : Launch} {e : Env} {R : Room} {s : State} {m : MethodId} {args : Array Value} {below : List Frame} {meth : Method} {c : Code} {H : Heap} {locs : List Loc} {cells slots : Nat} {Q : State → Prop}
variable {cc bytes : ByteArray} {pc nL maxL n index : Nat} {ret : Option FieldType} {ls : Array Slot} {st0 As rest : List Value} {D : va_G} {cl : List vw_C} {A : Nat → Prop} {b : Nat} {tys : List (ClassId × FieldType)} {ws ws' : va_W} {H0 : Heap} {Ts wd wd' : List Cond} {rm : Room} {own C : String} {T : u_T} {N : Nat} {y : MethodName} {fs : List Value}
theorem bx_tcallV {E : String} (S : CallFix p m c cc nL s args Ts own) (hM : bx_T l y wd rm (bx_Tp D cl tys ws (.ref b :: As)) E) (cw : CallW R s args own C index y bytes maxL ret wd rm 1 6 n) (hK : va_K D cl tys s) (hP : va_P D cl ws s.heap) (hX : bx_X xW s) (hZ : bx_S RX4 xS s) (q0 ci : Nat) (hc : cl[ci]? = some (C, T, N)) (he : ws[q0]? = some (b, .inr (ci, fs)))
    (hn : As.length = n) (hsize : ls.size = nL) (hstack : st0 = As.reverse ++ .ref b :: rest) (hW : (rest.map fun v => v.category).sum ≤ 8) (hdg : decode cc pc = .ok (.invokevirtual index, 3)) (hcs : cells + 1 ≤ R.cells ∧ slots + 6 ≤ R.slots) : bx_Run p l e R s m args below meth c s.heap locs cells slots (F0 m pc ls st0) rest E :=
  bx_runV S hM cw ⟨bx_Tp.blind, va_recv hK hP hc he, fun U hU hW => ⟨rfl, by rw [hU]; exact hP, va_K.moved hW.alike hK, bx_X.mv xW_ok hW (fun q _ => by rw [hU]) hX, bx_S.mv hW hZ⟩⟩ hn hsize hstack hW hdg hcs
theorem bx_hcallS {r : Option Value} {hs : List (Nat × Nat × Nat × Nat)} (S : CallFix p m c cc nL s args Ts own) (hM : Met l y wd rm (bx_Hp D cl tys ws As H.size) (bm_Wq D cl tys ws' r (va_A ws H.size)) 1 6 (va_A ws H.size)) (hrc : rm.cells = 1) (hrs : rm.slots = 6) (hfr : rm.frames + 1 ≤ R.frames) (hlo : 8 + (maxL + 11) + rm.locals ≤ R.locals)
    (hg : GoodIn Ts (Cond.methodLink own index y :: Cond.static y :: Cond.initialized y.cls :: wd)) (hd : (y.cls ≠ "java/lang/invoke/MethodHandle" ∧ y.cls ≠ "java/lang/invoke/VarHandle") ∧ (parseMethodDescriptor y.desc).map (fun d => d.parameters.length) = some n) (hw : wd = Cond.codeWith y bytes maxL ret hs :: wd')
    (hK : va_K D cl tys s) (hP : va_P D cl ws H) (hD : va_D A ws) (hS : va_S A s.heap H locs) (hA : ∀ q : Nat, s.heap.size ≤ q → A q) (hX : bx_X xW s) (hZ : bx_S RX4 xS s) (hAn : ∀ q : Nat, q < s.heap.size → ¬ A q)
    (hn : As.length = n) (hsize : ls.size = nL) (hstack : st0 = As.reverse ++ rest) (hW : (rest.map fun v => v.category).sum ≤ 8) (hdg : decode cc pc = .ok (.invokestatic index, 3)) (hcs : cells + 1 ≤ R.cells ∧ slots + 6 ≤ R.slots)
    (kk : ∀ (H1 : Heap) (locs1 : List Loc), va_P D cl ws' H1 → va_D A ws' → va_S A s.heap H1 locs1 → W p l e R s m args below meth c H1 locs1 (cells + 1) (slots + 6) Q (F0 m (pc + 3) ls (r.toList ++ rest))) : W p l e R s m args below meth c H locs cells slots Q (F0 m pc ls st0) := by
  have hts := S.2.2.2.2
  have hpay := pay_in hts hg
  have hr := bx_runSH (g := F0 m pc ls st0) (e := e) (below := below) (meth := meth) (locs := locs) (cells := cells) (slots := slots) (As := As) (rest := rest) (hs := hs) (bytes := bytes) (maxL := maxL) (ret := ret) S hM hrc hrs hfr hlo (fun w hw => hpay w (List.mem_cons_of_mem _ (List.mem_cons_of_mem _ (List.mem_cons_of_mem _ hw)))) (by rw [hw]; exact List.mem_cons_self)
    (fun a' U hU => hpay (Cond.initialized y.cls) (by simp) a' U hU) (hpay (Cond.static y) (by simp) args s (State.WarmedH.refl s)) (hpay (Cond.methodLink own index y) (by simp) args s (State.WarmedH.refl s)) hd.1 hd.2
    ⟨bx_Hp.blind, fun U hU hW => ⟨rfl, by rw [hU], by rw [hU]; exact hP, va_K.moved hW.alike hK, hD.weaken (fun _ _ _ _ => trivial), bx_X.mv xW_ok hW (fun q hq => by rw [hU]; exact hS.2.1 q hq (hAn q hq)) hX, bx_S.mv hW hZ⟩⟩ rfl hn hsize hstack (lv_room hW) hdg hcs
  have hF : ∀ q, va_A ws H.size q → A q := by
    intro q h
    rcases h with ⟨k, e9, h⟩ | h
    · exact hD.2 k (q, e9) h
    · exact hA q (Nat.le_trans hS.1 h)
  intro T hT X
  obtain ⟨v, st₀, t, T', L, h0, X', hL, e1, e2, ⟨⟨hv, hP', hK', hD'⟩, hz, hk⟩, st⟩ := hr T hT X
  cases hv
  rw [h0] at hz hk
  obtain ⟨t2, a1, b1⟩ := kk T'.heap (locs ++ L) (by rw [e1]; exact hP') (hD'.weaken (fun _ _ _ h => hF _ h))
    ⟨Nat.le_trans hS.1 (by rw [e1]; exact hz), fun q h1 h2 => by rw [e1, hk q (Nat.lt_of_lt_of_le h1 hS.1) (fun z => h2 (hF q z))]; exact hS.2.1 q h1 h2, fun q hq => by
      rcases List.mem_append.mp hq with h | h
      · exact hS.2.2 q h
      · exact hF _ (hL q h)⟩ T' rfl X'
  exact ⟨t2, st t2 a1, b1⟩
end BXC
theorem gdVL {b : Cond} {own C : String} {idx : Nat} {y : MethodName} (h0 : b ∈ bT) (h1 : Cond.methodLink own idx y ∈ bT) (h2 : Cond.instanceMethod y ∈ bT) (h3 : Cond.selects C y y ∈ bT) (h4 : Cond.initialized C ∈ bT) : GoodIn lw_tbl (wsV own idx C y (b :: bT)) := by
  intro w hw
  have hm : w ∈ bT := by
    simp only [wsV, List.cons_append, List.nil_append, List.mem_cons] at hw
    rcases hw with rfl | rfl | rfl | rfl | rfl | h <;> assumption
  exact ⟨(List.mem_filter.mp hm).1, good_of_word (bT_good hm)⟩
theorem gdSL {b : Cond} {own : String} {idx : Nat} {y : MethodName} (h0 : b ∈ bT) (h1 : Cond.methodLink own idx y ∈ bT) (h2 : Cond.static y ∈ bT) (h4 : Cond.initialized own ∈ bT) : GoodIn lw_tbl (wsS own idx y (b :: bT)) := by
  intro w hw
  have hm : w ∈ bT := by
    simp only [wsS, List.cons_append, List.nil_append, List.mem_cons] at hw
    rcases hw with rfl | rfl | rfl | rfl | h <;> assumption
  exact ⟨(List.mem_filter.mp hm).1, good_of_word (bT_good hm)⟩
theorem gdI {a b : Cond} (h0 : b ∈ bT) : GoodIn (a :: bT) (b :: bT) := by
  intro w hw
  have hm : w ∈ bT := by
    rcases List.mem_cons.mp hw with rfl | h <;> assumption
  exact ⟨List.mem_cons_of_mem _ hm, good_of_word (bT_good hm)⟩
theorem gdIL {b : Cond} (h0 : b ∈ bT) : GoodIn lw_tbl (b :: bT) := by
  intro w hw
  have hm : w ∈ bT := by
    rcases List.mem_cons.mp hw with rfl | h <;> assumption
  exact ⟨(List.mem_filter.mp hm).1, good_of_word (bT_good hm)⟩
theorem gdH {a b d e9 : Cond} (h : a ∈ bT ∧ b ∈ bT ∧ d ∈ bT ∧ e9 ∈ bT) : GoodIn lw_tbl (a :: b :: d :: e9 :: bT) := by
  intro w hw
  have hm : w ∈ bT := by
    simp only [List.mem_cons] at hw
    obtain ⟨h1, h2, h3, h4⟩ := h
    rcases hw with rfl | rfl | rfl | rfl | h <;> assumption
  exact ⟨(List.mem_filter.mp hm).1, good_of_word (bT_good hm)⟩
theorem bx_sd {x : Int32} (h0 : ¬ x < 0) (h1 : x ≤ 1) : x = 0 ∨ x = 1 := by
  rw [Int32.lt_iff_toInt_lt] at h0
  rw [Int32.le_iff_toInt_le] at h1
  have e0 : (0 : Int32).toInt = 0 := by decide
  have e1 : (1 : Int32).toInt = 1 := by decide
  rcases (show x.toInt = 0 ∨ x.toInt = 1 by omega) with h | h
  · exact Or.inl (Int32.toInt_inj.mp (h.trans e0.symm))
  · exact Or.inr (Int32.toInt_inj.mp (h.trans e1.symm))
def q_len (x : Int64) : Bool := !decide (x < 1) && !decide (65536 < x)
def q_pv (a b : Int64) (c : Int32) : Bool := q_len a && q_len b && (decide (c = 0) || decide (c = 1))
def q_rn (x : Int64) : Bool := !decide (x < 0) && !decide (2000 < x)
def q_tr (x0 y0 x1 y1 : Int64) : Bool := !decide (x0 < x1) || !decide (y0 < y1)
-- PUBLIC METHODS: indices, void readers, a second row of the table, what the class's and the reference's cells must keep
theorem bx_idx (x : Int32) {n : Nat} (hn : n ≤ 120) : (∃ k, k < n ∧ x = nI k) ∨ ¬ (¬ x < 0 ∧ x < nI n) := by
  by_cases h : ¬ x < 0 ∧ x < nI n
  · obtain ⟨h1, h2⟩ := h
    rw [Int32.lt_iff_toInt_lt] at h1 h2
    rw [nI_toInt (show n < 2 ^ 31 by omega)] at h2
    have e0 : (0 : Int32).toInt = 0 := by decide
    refine Or.inl ⟨x.toInt.toNat, by omega, Int32.toInt_inj.mp ?_⟩
    rw [nI_toInt (show x.toInt.toNat < 2 ^ 31 by omega)]
    omega
  · exact Or.inr h
theorem bx_nn {n : Nat} (h : n < 2 ^ 31) : ¬ nI n < 0 := by
  rw [Int32.lt_iff_toInt_lt, nI_toInt h]
  have e0 : (0 : Int32).toInt = 0 := by decide
  omega
def bm_Rv (l : Launch) (y : MethodName) (wd : List Cond) (rm : Room) (D : va_G) (cl : List vw_C) (tys : List (ClassId × FieldType)) (ws : va_W) (av : List Value) : Prop := Met l y wd rm (bm_Rp D cl tys ws av) (fun _ st oc t => oc = .returned none ∧ t.heap = st.heap) 0 0 (fun _ => False)
section BXV
variable {p : Program} {l : Launch} {e : Env} {R : Room} {s : State} {m : MethodId} {args : Array Value} {below : List Frame} {meth : Method} {c : Code} {H : Heap} {locs : List Loc} {cells slots : Nat} {Q : State → Prop}
variable {cc bytes : ByteArray} {pc nL maxL n index : Nat} {ret : Option FieldType} {ls : Array Slot} {st0 As rest : List Value} {D : va_G} {cl : List vw_C} {A : Nat → Prop} {b : Nat} {tys : List (ClassId × FieldType)} {ws : va_W} {Ts wd : List Cond} {rm : Room} {own C : String} {T : u_T} {N : Nat} {y : MethodName} {fs : List Value}
theorem bm_vcallV (S : CallFix p m c cc nL s args Ts own) (hM : bm_Rv l y wd rm D cl tys ws (.ref b :: As)) (cw : CallW R s args own C index y bytes maxL ret wd rm 0 0 n) (hK : va_K D cl tys s) (hP : va_P D cl ws H) (q0 ci : Nat) (hc : cl[ci]? = some (C, T, N)) (he : ws[q0]? = some (b, .inr (ci, fs)))
    (hn : As.length = n) (hsize : ls.size = nL) (hstack : st0 = As.reverse ++ .ref b :: rest) (hW : (rest.map fun v => v.category).sum ≤ 8) (hdg : decode cc pc = .ok (.invokevirtual index, 3)) (hcs : cells ≤ R.cells ∧ slots ≤ R.slots)
    (kk : W p l e R s m args below meth c H locs cells slots Q (F0 m (pc + 3) ls rest)) : W p l e R s m args below meth c H locs cells slots Q (F0 m pc ls st0) := by
  have hr := W.runV (g := F0 m pc ls st0) (e := e) (below := below) (meth := meth) (locs := locs) (cells := cells) (slots := slots) S hM cw ⟨bm_Rp.blind, va_recv hK hP hc he, fun U hU hW => ⟨rfl, by rw [hU]; exact hP, va_K.moved hW.alike hK⟩⟩ rfl hn hsize hstack (lv_room hW) hdg hcs
  intro T hT X
  obtain ⟨v, st₀, t, T', L, h0, X', hL, e1, ⟨hv, hh⟩, st⟩ := hr T hT X
  cases hv
  obtain ⟨t2, a1, b1⟩ := kk T' (by rw [e1, hh, h0]) (Stand.forget X' (fun q h => (hL q h).elim))
  exact ⟨t2, st t2 a1, b1⟩
theorem bm_vretR (hexec : p.tables.exec = Jvm.exec) (hb : c.code = cc) (hr : meth.sig.returnType = none) (hdg : decode cc pc = .ok (.return_, 1)) (hlocks : meth.locks = false) : W p l e R s m args below meth c s.heap [] cells slots (MQ below (fun _ st oc t => oc = .returned none ∧ t.heap = st.heap) args s cells slots (fun _ => False)) (F0 m pc ls []) :=
  W.vret hexec hb hr (fun t ht hW => ⟨rfl, ht⟩) (fun q h => by cases h) hdg hlocks
end BXV
/-- a class whose objects a row of the table doesn't take -/
def bx_N (E nm : String) (U : State) : Prop := ∃ a b : ClassId, U.vm.findClass E = some a ∧ U.vm.findClass nm = some b ∧ U.vm.assignable a b = false
theorem bx_N.mv {E nm : String} {s U : State} (hal : s.vm.Alike U.vm) (h : bx_N E nm s) : bx_N E nm U := by
  obtain ⟨a, b, h1, h2, h3⟩ := h
  exact ⟨a, b, by rw [hal.findClass]; exact h1, by rw [hal.findClass]; exact h2, by rw [hal.assignable]; exact h3⟩
theorem bx_goNo {Qh : Handler → Pre} {Ec : CtlPost} {e : Env} {d : Bool} {acts : List Action} {s : State} {f : JFrame} {a : Addr} {x : ExceptionTableEntry} {t : List ExceptionTableEntry} {k : ClassId} {cell : Cell} (hx : covers x f.pc = true) (h0 : x.catchType ≠ 0)
    (hlk : s.vm.ClassLinks e.platform f.method.cls x.catchType k) (hcell : s.heap[a]? = some cell) (hobj : ∀ z, cell.vm ≠ .statics z) (hk1 : ∃ z, s.vm.classes[cell.cls]? = some z) (hk2 : ∃ z, s.vm.classes[k]? = some z) (hfit : s.vm.assignable cell.cls k = false) :
    wp (findHandler.go f a (x :: t)) Qh Ec e d acts s ↔ wp (findHandler.go f a t) Qh Ec e d acts (s.setVm (s.vm.noted f.method.cls x.catchType (.cls k))) := by
  have hal : s.vm.Alike (s.vm.noted f.method.cls x.catchType (.cls k)) := (Vm.Alike.refl s.vm).noted _ _ _
  obtain ⟨h1, h2⟩ := (resolveClass_links e.toSetting hlk).op (op := VmOp.resolveClass f.method.cls x.catchType) rfl
  obtain ⟨z1, hz1⟩ := hk1
  obtain ⟨z2, hz2⟩ := hk2
  obtain ⟨y1, hy1, -⟩ := hal.2.2 _ _ hz1
  obtain ⟨y2, hy2, -⟩ := hal.2.2 _ _ hz2
  have hfit' : (s.vm.noted f.method.cls x.catchType (.cls k)).assignable cell.cls k = false := by rw [hal.assignable]; exact hfit
  simp only [covers] at hx
  simp [findHandler.go, hx, h0, h1, h2, hcell, hobj, hy1, hy2, hfit', VmOp.dirties, VmOp.acts]
theorem bx_caught2 {p : Program} {l : Launch} {e : Env} {R : Room} {s : State} {m : MethodId} {args : Array Value} {below : List Frame} {meth : Method} {c : Code} {T : State} {locs : List Loc} {cells slots : Nat} (X : Stand p l e R s m args below meth c T locs cells slots) {q : Addr} {pc : Nat} {ls : Array Slot} {rest : List Value}
    {x0 x : ExceptionTableEntry} {suf : List ExceptionTableEntry} (hsplit : c.exceptionTable.toList = x0 :: x :: suf) (hcov0 : covers x0 pc = true) (h00 : x0.catchType ≠ 0) (hcov : covers x pc = true) (h0 : x.catchType ≠ 0) {own name0 name E : String} (hown : s.vm.findClass own = some m.cls) (hlink0 : (Cond.classLink own x0.catchType name0).before args s = true) (hno : bx_N E name0 s) (hlink : (Cond.classLink own x.catchType name).before args s = true) (hcast : (Cond.castable E name).before args s = true)
    {ce : Cell} (hce : T.heap[q]? = some ce) (hv : ce.vm = .none) (hcl : s.vm.findClass E = some ce.cls) :
    ∃ vm', Stand p l e R s m args below meth c (T.setVm vm') locs cells slots ∧ ∀ target, Steps p.tables e below ((T.setVm vm').setTop (F0 m x.handlerPc ls [.ref q])) target → Steps p.tables e below ((T.setTop (F0 m pc ls rest)).pushFrame (.throwing q)) target := by
  have hpl : e.platform.magicAccessors = ({} : Platform).magicAccessors := by rw [X.admits.platform]
  obtain ⟨cE, cN, hcE, hcN, hasg⟩ := Cond.castable_spec hcast
  cases Option.some.inj (hcE.symm.trans hcl)
  obtain ⟨cE', c0, hcE', hc0, hasg0⟩ := hno
  cases Option.some.inj (hcE'.symm.trans hcl)
  obtain ⟨c4, hc4, hlk0⟩ := Cond.classLink_spec hown hlink0 e.platform hpl
  cases Option.some.inj (hc0.symm.trans hc4)
  obtain ⟨c5, hc5, hlk⟩ := Cond.classLink_spec hown hlink e.platform hpl
  cases Option.some.inj (hcN.symm.trans hc5)
  obtain ⟨dk0, _, _, kt0, hd0, _, _, _, _, hkt0, _, hopen0⟩ := hlk0.here
  obtain ⟨dk, _, _, kt, hd, _, _, _, _, hkt, _, hopen⟩ := hlk.here
  have hW0 : s.WarmedH (T.vm.noted m.cls x0.catchType (.cls c0)) := X.warmed.noted hd0 hopen0 (State.rightAt_cls hlk0)
  have hW' : s.WarmedH ((T.vm.noted m.cls x0.catchType (.cls c0)).noted m.cls x.catchType (.cls cN)) := hW0.noted hd hopen (State.rightAt_cls hlk)
  have hlk0' := X.warmed.classLinks hlk0
  have hlk' := hW0.classLinks hlk
  have hal := X.warmed.alike
  have hal0 := hW0.alike
  obtain ⟨kz0, hkz0, -⟩ := hal.2.2 _ _ hkt0
  obtain ⟨kz, hkz, -⟩ := hal0.2.2 _ _ hkt
  have hE0 : ∃ z, s.vm.classes[ce.cls]? = some z := Vm.classAt_of_findClass hcl
  obtain ⟨ze, hze⟩ := hE0
  obtain ⟨ze1, hze1, -⟩ := hal.2.2 _ _ hze
  obtain ⟨ze2, hze2, -⟩ := hal0.2.2 _ _ hze
  have hfit0 : T.vm.assignable ce.cls c0 = false := by rw [hal.assignable]; exact hasg0
  have hfit : (T.vm.noted m.cls x0.catchType (.cls c0)).assignable ce.cls cN = true := by rw [hal0.assignable]; exact hasg
  refine ⟨_, X.noted hW', fun target hrest => ?_⟩
  have hAt : At T (F0 m pc ls rest).method c below := X.here
  obtain ⟨hgo, hw⟩ := hAt.throwing q
  refine Steps.head hgo hw ?_
  rw [stepThread_throwing (frames_entered hAt.top _)]
  obtain ⟨g₀, hg⟩ := Option.isSome_iff_exists.mp hAt.top
  obtain ⟨r, hr⟩ := State.topJava?_eq_some.mp hg
  have hfind : ∀ (Qh : Handler → Pre) (Ec : CtlPost) (d : Bool) (acts : List Action), wp (findHandler (F0 m pc ls rest) q) Qh Ec e d acts ((T.setTop (F0 m pc ls rest)).pushFrame (.throwing q)) ↔ Qh (.found x.handlerPc) d acts (((T.setTop (F0 m pc ls rest)).pushFrame (.throwing q)).setVm ((T.vm.noted m.cls x0.catchType (.cls c0)).noted m.cls x.catchType (.cls cN))) := by
    intro Qh Ec d acts
    rw [Jvm.W.findHandler_eq (s := (T.setTop (F0 m pc ls rest)).pushFrame (.throwing q)) (f := F0 m pc ls rest) (meth := meth) (code := c) X.method' X.code, hsplit]
    rw [bx_goNo (s := (T.setTop (F0 m pc ls rest)).pushFrame (.throwing q)) (f := F0 m pc ls rest) hcov0 h00 hlk0' hce (VmData.ne_statics_of (by rw [hv]; rfl)) ⟨ze1, hze1⟩ ⟨kz0, hkz0⟩ hfit0]
    exact bx_go (s := ((T.setTop (F0 m pc ls rest)).pushFrame (.throwing q)).setVm (T.vm.noted m.cls x0.catchType (.cls c0))) (f := F0 m pc ls rest) hcov h0 hlk' hce (VmData.ne_statics_of (by rw [hv]; rfl)) ⟨ze2, hze2⟩ ⟨kz, hkz⟩ hfit
  have hstep : (stepThrowing e ((T.setTop (F0 m pc ls rest)).pushFrame (.throwing q)) q (.java (F0 m pc ls rest) :: T.frames.tail)).1 = (((T.setTop (F0 m pc ls rest)).pushFrame (.throwing q)).setVm ((T.vm.noted m.cls x0.catchType (.cls c0)).noted m.cls x.catchType (.cls cN))).setFrames (.java { (F0 m pc ls rest) with pc := x.handlerPc, stack := [.ref q] } :: T.frames.tail) := by
    simp only [stepThrowing, searchFrame, vmDo]
    generalize hres : Sem.go _ e false [] _ = res
    obtain ⟨as, rfl, ha⟩ := Sem.eq_ok_of hres (a := Handler.found x.handlerPc) (s' := ((T.setTop (F0 m pc ls rest)).pushFrame (.throwing q)).setVm ((T.vm.noted m.cls x0.catchType (.cls c0)).noted m.cls x.catchType (.cls cN))) (acts' := []) (by simp [hfind _ _ _ _])
    rfl
  rw [hstep]
  have hr' : (T.setVm ((T.vm.noted m.cls x0.catchType (.cls c0)).noted m.cls x.catchType (.cls cN))).frames = .java g₀ :: r := hr
  rw [State.setTop_of_frames _ hr'] at hrest
  have hsw : ∀ (u : State) (v : Vm) (F G : List Frame), ((u.setFrames F).setVm v).setFrames G = (u.setVm v).setFrames G := by
    intro u v F G
    have e1 : (u.setFrames F).setVm v = (u.setVm v).setFrames F := rfl
    rw [e1, State.setFrames_setFrames]
  rw [hr, List.tail_cons, State.pushFrame, hsw, State.setTop_of_frames _ hr, hsw]
  exact hrest
theorem bx_catch2 {p : Program} {l : Launch} {e : Env} {R : Room} {s : State} {m : MethodId} {args : Array Value} {below : List Frame} {meth : Method} {c : Code} {H : Heap} {locs : List Loc} {cells slots : Nat} {Q : State → Prop} {pc : Nat} {ls : Array Slot} {st0 rest : List Value} {E own name0 name : String} (hr : bx_Run p l e R s m args below meth c H locs cells slots (F0 m pc ls st0) rest E) (hown : s.vm.findClass own = some m.cls) {g1 g2 g3 g4 h1 h2 h3 h4 : Nat} {hs : List (Nat × Nat × Nat × Nat)}
    (hsplit : c.exceptionTable.toList.map (fun h => (h.startPc, h.endPc, h.handlerPc, h.catchType)) = (g1, g2, g3, g4) :: (h1, h2, h3, h4) :: hs) (hcov0 : g1 ≤ pc ∧ pc < g2) (h00 : g4 ≠ 0) (hcov : h1 ≤ pc ∧ pc < h2) (h0 : h4 ≠ 0) (hlink0 : (Cond.classLink own g4 name0).before args s = true) (hno : bx_N E name0 s) (hlink : (Cond.classLink own h4 name).before args s = true) (hcast : (Cond.castable E name).before args s = true)
    (kk : ∀ (q : Nat) (H1 : Heap), H.size ≤ H1.size → (∀ k : Nat, k < H.size → H1[k]? = H[k]?) → W p l e R s m args below meth c H1 locs (cells + 1) (slots + 6) Q (F0 m h3 ls [.ref q])) : W p l e R s m args below meth c H locs cells slots Q (F0 m pc ls st0) := by
  intro T hT X
  obtain ⟨q, ce, T', X', e1, e2, e3, e4, e5, st⟩ := hr T hT X
  match hx : c.exceptionTable.toList, hsplit with
  | x0 :: x :: suf, hsplit =>
    simp only [List.map_cons, List.cons.injEq, Prod.mk.injEq] at hsplit
    obtain ⟨⟨rfl, rfl, rfl, rfl⟩, ⟨rfl, rfl, rfl, rfl⟩, -⟩ := hsplit
    obtain ⟨vm', X2, st2⟩ := bx_caught2 X' (pc := pc) (ls := ls) (rest := rest) hx (by simp [covers, hcov0.1, hcov0.2]) h00 (by simp [covers, hcov.1, hcov.2]) h0 hown hlink0 hno hlink hcast e1 e2 e3
    obtain ⟨t, a1, b1⟩ := kk q (T'.setVm vm').heap e4 e5 (T'.setVm vm') rfl X2
    exact ⟨t, st.trans (st2 t a1), b1⟩
  | [], hsplit => cases hsplit
  | [x0], hsplit => cases hsplit
def q_in (a w b h : Int64) : Bool := !decide (a < 0) && !decide (w < a) && !decide (b < 0) && !decide (h < b)
theorem bx_le3 {x : Int32} (h : x ≤ nI 3) : x < nI 4 := by
  rw [Int32.le_iff_toInt_le, nI_toInt (by decide)] at h
  rw [Int32.lt_iff_toInt_lt, nI_toInt (by decide)]
  omega
theorem bx_nlt {x y : Int32} (h : ¬ y ≤ x) : x < y := Int32.not_le.mp h
theorem bx_stp (x : Int64) : (∃ k : Nat, k ≤ 2000 ∧ x = lN k) ∨ q_rn x = false := by
  by_cases h : ¬ x < 0 ∧ ¬ 2000 < x
  · obtain ⟨h1, h2⟩ := h
    rw [Int64.lt_iff_toInt_lt] at h1 h2
    have e0 : (0 : Int64).toInt = 0 := by decide
    have e2 : (2000 : Int64).toInt = 2000 := by decide
    refine Or.inl ⟨x.toInt.toNat, by omega, Int64.toInt_inj.mp ?_⟩
    have e3 : (lN x.toInt.toNat).toInt = (x.toInt.toNat : Int) := Int64.toInt_ofNat_of_lt (by omega)
    rw [e3]
    omega
  · refine Or.inr ?_
    by_cases h1 : x < 0
    · simp [q_rn, h1]
    · have h2 : 2000 < x := Decidable.byContradiction (fun q => h ⟨h1, q⟩)
      simp [q_rn, h1, h2]
theorem bx_lN0 {n : Nat} (h : n < 2 ^ 63) : ¬ lN n < 0 := by
  have := bm_lNlt (x := n) (y := 0) h (by decide)
  intro q
  have q' : lN n < lN 0 := q
  have := this.mp q'
  omega
theorem bx_lN2000 {n : Nat} (h : n ≤ 2000) : ¬ 2000 < lN n := by
  intro q
  have q' : lN 2000 < lN n := q
  have := (bm_lNlt (x := 2000) (y := n) (by decide) (by omega)).mp q'
  omega

def q_ht (x : Int64) : Bool := !decide (x < 0) && !decide (65536 < x)
theorem bx_out7 {x : Int32} (h : ¬ (¬ x < 0 ∧ x < nI 7)) : x.toInt < 0 ∨ 6 < x.toInt := by
  rw [Int32.lt_iff_toInt_lt, Int32.lt_iff_toInt_lt, nI_toInt (by decide)] at h
  have e0 : (0 : Int32).toInt = 0 := by decide
  omega
theorem bx_lNs (j : Nat) : lN (j + 1) - 1 = lN j := by
  have e : lN (j + 1) = lN j + 1 := Int64.ofNat_add j 1
  rw [e, Int64.add_sub_cancel]
theorem bx_pv (a b : Int64) (c : Int32) : (∃ k : Nat, k < 2 ∧ q_len a = true ∧ q_len b = true ∧ c = nI k) ∨ q_pv a b c = false := by
  cases hv : q_pv a b c with
  | false => exact Or.inr rfl
  | true =>
    simp only [q_pv, Bool.and_eq_true, Bool.or_eq_true, decide_eq_true_eq] at hv
    obtain ⟨⟨h1, h2⟩, h3⟩ := hv
    rcases h3 with h3 | h3
    · exact Or.inl ⟨0, by decide, h1, h2, h3⟩
    · exact Or.inl ⟨1, by decide, h1, h2, h3⟩
theorem bx_gt {L i : Nat} (hL : L ≤ 5635) (hi : i ≤ 6000) : (Int32.ofNat L - nI 11 < nI i) ↔ L < i + 11 := by
  have e1 : (Int32.ofNat L).toInt = (L : Int) := nI_toInt (show L < 2 ^ 31 by omega)
  rw [Int32.lt_iff_toInt_lt, Int32.toInt_sub, e1, nI_toInt (show i < 2 ^ 31 by omega), nI_toInt (show 11 < 2 ^ 31 by omega), Int.bmod_eq_of_le (by omega) (by omega)]
  omega
def bx_Hn (D : va_G) (cl : List vw_C) (tys : List (ClassId × FieldType)) (ws : va_W) (av : List Value) (sz : Nat) : Array Value → State → Prop := fun v U => bx_Hp D cl tys ws av sz v U ∧ bx_N "java/lang/IllegalArgumentException" "java/lang/IndexOutOfBoundsException" U ∧ bx_N "java/lang/IllegalStateException" "java/lang/IndexOutOfBoundsException" U
theorem bx_Hn.blind {D : va_G} {cl : List vw_C} {tys : List (ClassId × FieldType)} {ws : va_W} {av : List Value} {sz : Nat} : FrameBlind (bx_Hn D cl tys ws av sz) := by
  intro a U g mk q
  obtain ⟨q1, q2, q3⟩ := q
  exact ⟨bx_Hp.blind _ _ _ _ q1, bx_N.mv (s := U) (U := U.calling g mk a) (Vm.Alike.refl U.vm) q2, bx_N.mv (s := U) (U := U.calling g mk a) (Vm.Alike.refl U.vm) q3⟩
section BXH
variable {p : Program} {l : Launch} {e : Env} {R : Room} {s : State} {m : MethodId} {args : Array Value} {below : List Frame} {meth : Method} {c : Code} {H : Heap} {locs : List Loc} {cells slots : Nat} {Q : State → Prop}
variable {cc bytes : ByteArray} {pc nL maxL n index : Nat} {ret : Option FieldType} {ls : Array Slot} {st0 As rest : List Value} {D : va_G} {cl : List vw_C} {A : Nat → Prop} {b : Nat} {tys : List (ClassId × FieldType)} {ws : va_W} {Ts wd wd' : List Cond} {rm : Room} {own : String} {y : MethodName} {PW : va_W → Option Value → Prop}
theorem bx_xhcallS {hs : List (Nat × Nat × Nat × Nat)} (S : CallFix p m c cc nL s args Ts own) (hM : Met l y wd rm (bx_Hn D cl tys ws As H.size) (bm_Wxq D cl tys PW (va_A ws H.size)) 1 6 (va_A ws H.size)) (hrc : rm.cells = 1) (hrs : rm.slots = 6) (hfr : rm.frames + 1 ≤ R.frames) (hlo : 8 + (maxL + 11) + rm.locals ≤ R.locals)
    (hg : GoodIn Ts (Cond.methodLink own index y :: Cond.static y :: Cond.initialized y.cls :: wd)) (hd : (y.cls ≠ "java/lang/invoke/MethodHandle" ∧ y.cls ≠ "java/lang/invoke/VarHandle") ∧ (parseMethodDescriptor y.desc).map (fun d => d.parameters.length) = some n) (hw : wd = Cond.codeWith y bytes maxL ret hs :: wd')
    (hK : va_K D cl tys s) (hP : va_P D cl ws H) (hD : va_D A ws) (hS : va_S A s.heap H locs) (hA : ∀ q : Nat, s.heap.size ≤ q → A q) (hX : bx_X xW s) (hZ : bx_S RX4 xS s) (hN1 : bx_N "java/lang/IllegalArgumentException" "java/lang/IndexOutOfBoundsException" s) (hN2 : bx_N "java/lang/IllegalStateException" "java/lang/IndexOutOfBoundsException" s) (hAn : ∀ q : Nat, q < s.heap.size → ¬ A q)
    (hn : As.length = n) (hsize : ls.size = nL) (hstack : st0 = As.reverse ++ rest) (hW : (rest.map fun v => v.category).sum ≤ 8) (hdg : decode cc pc = .ok (.invokestatic index, 3)) (hcs : cells + 1 ≤ R.cells ∧ slots + 6 ≤ R.slots)
    (kk : ∀ (ws9 : va_W) (r9 : Option Value), PW ws9 r9 → ∀ (H1 : Heap) (locs1 : List Loc), va_P D cl ws9 H1 → va_D A ws9 → va_S A s.heap H1 locs1 → W p l e R s m args below meth c H1 locs1 (cells + 1) (slots + 6) Q (F0 m (pc + 3) ls (r9.toList ++ rest))) : W p l e R s m args below meth c H locs cells slots Q (F0 m pc ls st0) := by
  have hts := S.2.2.2.2
  have hpay := pay_in hts hg
  have hr := bx_runSH (g := F0 m pc ls st0) (e := e) (below := below) (meth := meth) (locs := locs) (cells := cells) (slots := slots) (As := As) (rest := rest) (hs := hs) (bytes := bytes) (maxL := maxL) (ret := ret) S hM hrc hrs hfr hlo (fun w hw => hpay w (List.mem_cons_of_mem _ (List.mem_cons_of_mem _ (List.mem_cons_of_mem _ hw)))) (by rw [hw]; exact List.mem_cons_self)
    (fun a' U hU => hpay (Cond.initialized y.cls) (by simp) a' U hU) (hpay (Cond.static y) (by simp) args s (State.WarmedH.refl s)) (hpay (Cond.methodLink own index y) (by simp) args s (State.WarmedH.refl s)) hd.1 hd.2
    ⟨bx_Hn.blind, fun U hU hW => ⟨⟨rfl, by rw [hU], by rw [hU]; exact hP, va_K.moved hW.alike hK, hD.weaken (fun _ _ _ _ => trivial), bx_X.mv xW_ok hW (fun q hq => by rw [hU]; exact hS.2.1 q hq (hAn q hq)) hX, bx_S.mv hW hZ⟩, bx_N.mv hW.alike hN1, bx_N.mv hW.alike hN2⟩⟩ rfl hn hsize hstack (lv_room hW) hdg hcs
  have hF : ∀ q, va_A ws H.size q → A q := by
    intro q h
    rcases h with ⟨k, e9, h⟩ | h
    · exact hD.2 k (q, e9) h
    · exact hA q (Nat.le_trans hS.1 h)
  intro T hT X
  obtain ⟨v, st₀, t, T', L, h0, X', hL, e1, e2, ⟨⟨ws9, r9, hpw, hv, hP', hK', hD'⟩, hz, hk⟩, st⟩ := hr T hT X
  cases hv
  rw [h0] at hz hk
  obtain ⟨t2, a1, b1⟩ := kk ws9 _ hpw T'.heap (locs ++ L) (by rw [e1]; exact hP') (hD'.weaken (fun _ _ _ h => hF _ h))
    ⟨Nat.le_trans hS.1 (by rw [e1]; exact hz), fun q h1 h2 => by rw [e1, hk q (Nat.lt_of_lt_of_le h1 hS.1) (fun z => h2 (hF q z))]; exact hS.2.1 q h1 h2, fun q hq => by
      rcases List.mem_append.mp hq with h | h
      · exact hS.2.2 q h
      · exact hF _ (hL q h)⟩ T' rfl X'
  exact ⟨t2, st t2 a1, b1⟩
end BXH
def okM (ms : gMS) (ma : gMA) (mp : gMP) (mk : gMK) (mn : gMN) : Prop := (ms.2.2.1 ≤ 40) ∧ (ms.2.2.2.1 ≤ 10) ∧ (ms.2.2.2.2.1 ≤ 20) ∧ (ms.2.2.2.2.2.1 ≤ 40) ∧ (ms.2.2.2.2.2.2.1 ≤ 120) ∧ (∀ i, ma.2.2.1 i < 40) ∧ (∀ i, ma.2.2.2.2.2.1 i < 40) ∧ (∀ i, mp.2.2 i < 40) ∧ (∀ i, mk.2.1 i < 40) ∧ (∀ i, mk.2.2.1 i < 40) ∧ (∀ i, mn.1 i < 40) ∧ (∀ i, mn.2.1 i < 40) ∧ ms.1 ≠ 0 ∧ ms.2.1 ≠ 0
def okC (bm : gBM) (pa : gPA) (p0 p1 p2 : gPL) (li : gLI) (wi : gWI) : Prop := (pa.2.2.2.2.2.2 ≤ 40) ∧ (∀ i, pa.2.2.1 i < 40) ∧ (∀ i, pa.2.2.2.2.2.1 i < 40) ∧ (∀ i, p0.2.2.1 i < 40) ∧ (∀ i, p1.2.2.1 i < 40) ∧ (∀ i, p2.2.2.1 i < 40) ∧ (∀ i, li.2.2.2.2.2.1 i < 40) ∧ (∀ i, li.2.2.2.2.2.2.1 i < 40) ∧ (li.2.2.2.2.2.2.2.2.1 ≤ 10) ∧ (li.2.2.2.2.2.2.2.2.2 ≤ 20) ∧ (∀ i, wi.1 i < 40) ∧ (∀ i, wi.2.1 i < 40) ∧ (wi.2.2.2.2.2.2.2.2.2.1 ≤ 40) ∧ (wi.2.2.2.2.2.2.2.2.2.2 ≤ 120) ∧ bm.1 ≠ 0 ∧ bm.2.1 ≠ 0 ∧ INV bm pa p0 li
def PMZ (ad : Nat → Nat) (cJ cI cZ : ClassId) (bm : gBM) (pa : gPA) (p0 p1 p2 : gPL) (li : gLI) (wi : gWI) (mt : Nat) (ms : gMS) (ma : gMA) (mp : gMP) (mk : gMK) (mn : gMN) (ou : Nat → Int64) : va_W → Option Value → Prop := fun ws9 r9 => ∃ (mt9 : Nat) (ms9 : gMS) (ma9 : gMA) (mp9 : gMP) (mk9 : gMK) (mn9 : gMN), okM ms9 ma9 mp9 mk9 mn9 ∧ 0 = 0 ∧ ws9 = WW ad cJ cI cZ bm pa p0 p1 p2 li wi mt9 ms9 ma9 mp9 mk9 mn9 ou ∧ ∃ b9 : Bool, r9 = some (.int (bm_b b9))
def PCZ (ad : Nat → Nat) (cJ cI cZ : ClassId) (bm : gBM) (pa : gPA) (p0 p1 p2 : gPL) (li : gLI) (wi : gWI) (mt : Nat) (ms : gMS) (ma : gMA) (mp : gMP) (mk : gMK) (mn : gMN) (ou : Nat → Int64) : va_W → Option Value → Prop := fun ws9 r9 => ∃ (bm9 : gBM) (pa9 : gPA) (p09 p19 p29 : gPL) (li9 : gLI) (wi9 : gWI) (ou9 : Nat → Int64), okC bm9 pa9 p09 p19 p29 li9 wi9 ∧ 0 = 0 ∧ ws9 = WW ad cJ cI cZ bm9 pa9 p09 p19 p29 li9 wi9 mt ms ma mp mk mn ou9 ∧ ∃ b9 : Bool, r9 = some (.int (bm_b b9))
def PMI (ad : Nat → Nat) (cJ cI cZ : ClassId) (bm : gBM) (pa : gPA) (p0 p1 p2 : gPL) (li : gLI) (wi : gWI) (mt : Nat) (ms : gMS) (ma : gMA) (mp : gMP) (mk : gMK) (mn : gMN) (ou : Nat → Int64) : va_W → Option Value → Prop := fun ws9 r9 => ∃ (mt9 : Nat) (ms9 : gMS) (ma9 : gMA) (mp9 : gMP) (mk9 : gMK) (mn9 : gMN), okM ms9 ma9 mp9 mk9 mn9 ∧ 0 = 0 ∧ ws9 = WW ad cJ cI cZ bm pa p0 p1 p2 li wi mt9 ms9 ma9 mp9 mk9 mn9 ou ∧ ∃ v9 : Int32, r9 = some (.int v9)
def PCI (ad : Nat → Nat) (cJ cI cZ : ClassId) (bm : gBM) (pa : gPA) (p0 p1 p2 : gPL) (li : gLI) (wi : gWI) (mt : Nat) (ms : gMS) (ma : gMA) (mp : gMP) (mk : gMK) (mn : gMN) (ou : Nat → Int64) : va_W → Option Value → Prop := fun ws9 r9 => ∃ (bm9 : gBM) (pa9 : gPA) (p09 p19 p29 : gPL) (li9 : gLI) (wi9 : gWI) (ou9 : Nat → Int64), okC bm9 pa9 p09 p19 p29 li9 wi9 ∧ 0 = 0 ∧ ws9 = WW ad cJ cI cZ bm9 pa9 p09 p19 p29 li9 wi9 mt ms ma mp mk mn ou9 ∧ ∃ v9 : Int32, r9 = some (.int v9)
def PMJ (ad : Nat → Nat) (cJ cI cZ : ClassId) (bm : gBM) (pa : gPA) (p0 p1 p2 : gPL) (li : gLI) (wi : gWI) (mt : Nat) (ms : gMS) (ma : gMA) (mp : gMP) (mk : gMK) (mn : gMN) (ou : Nat → Int64) : va_W → Option Value → Prop := fun ws9 r9 => ∃ (mt9 : Nat) (ms9 : gMS) (ma9 : gMA) (mp9 : gMP) (mk9 : gMK) (mn9 : gMN), okM ms9 ma9 mp9 mk9 mn9 ∧ 0 = 0 ∧ ws9 = WW ad cJ cI cZ bm pa p0 p1 p2 li wi mt9 ms9 ma9 mp9 mk9 mn9 ou ∧ ∃ v9 : Int64, r9 = some (.long v9)
def PCJ (ad : Nat → Nat) (cJ cI cZ : ClassId) (bm : gBM) (pa : gPA) (p0 p1 p2 : gPL) (li : gLI) (wi : gWI) (mt : Nat) (ms : gMS) (ma : gMA) (mp : gMP) (mk : gMK) (mn : gMN) (ou : Nat → Int64) : va_W → Option Value → Prop := fun ws9 r9 => ∃ (bm9 : gBM) (pa9 : gPA) (p09 p19 p29 : gPL) (li9 : gLI) (wi9 : gWI) (ou9 : Nat → Int64), okC bm9 pa9 p09 p19 p29 li9 wi9 ∧ 0 = 0 ∧ ws9 = WW ad cJ cI cZ bm9 pa9 p09 p19 p29 li9 wi9 mt ms ma mp mk mn ou9 ∧ ∃ v9 : Int64, r9 = some (.long v9)
