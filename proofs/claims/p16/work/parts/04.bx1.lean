-- EXCEPTIONS: own rows. A method that throws a new exception and changes nothing that was there; its callers; a catch.
theorem bx_state {U V : State} (hv : U.vm = V.vm) (C n d : String) : U.fieldFound? C n d = V.fieldFound? C n d := by
  unfold State.fieldFound?
  rw [hv]
def bx_tb (w : Cond) : Bool := w.onTables && w.keepsFace
theorem bx_tb_at {a a' : Array Value} {s U : State} {w : Cond} (hW : s.WarmedH U.vm) (hw : bx_tb w = true) (h : w.before a s = true) : w.before a' U = true := by
  simp only [bx_tb, Bool.and_eq_true] at hw
  have h1 : w.before a (s.setVm U.vm) = true := Cond.before_shiftedFace (State.Shifted.of_warmed hW) w hw.2 h
  rw [Cond.onTables_vm (A' := a') (U' := U) U.vm w hw.1, State.setVm_self] at h1
  exact h1
theorem bx_lay_at {C n d : String} {a a' : Array Value} {s U : State} (hW : s.WarmedH U.vm) (hh : ∀ q : Nat, q < s.heap.size → U.heap[q]? = s.heap[q]?) (h : (Cond.laysStatic C n d).before a s = true) : (Cond.laysStatic C n d).before a' U = true := by
  obtain ⟨c, k, i, f, q, cell, h1, h2, h3, h4, h5, h6, h7, h8, h9⟩ := Cond.laysStatic_spec h
  obtain ⟨k', hi', he⟩ := State.fieldFound?_setVm hW.alike h2
  have h5' : U.heap[q]? = some cell := by rw [hh q (Array.getElem?_eq_some_iff.mp h5).1]; exact h5
  show (Cond.laysStatic C n d).holds a' U none U [] = true
  exact Cond.laysStatic_of (by rw [hW.alike.findClass]; exact h1) hi' h3 (by rw [he]; exact h4) h5' h6 h7 h8 (by rw [he]; exact h9)
theorem bx_ref_at {C n d : String} {a a' : Array Value} {s U : State} (hW : s.WarmedH U.vm) (hh : ∀ q : Nat, q < s.heap.size → U.heap[q]? = s.heap[q]?) (hl : (Cond.laysStatic C n d).before a s = true) (hini : (Cond.initialized C).before a s = true) (h : (Cond.isRef (.static C n d)).before a s = true) : (Cond.isRef (.static C n d)).before a' U = true := by
  have z0 : va_Zq C n d (fun _ => False) s s.heap := va_Zqof hl hini h (fun _ _ z => z)
  have z1 : va_Zq C n d (fun _ => False) U U.heap := va_Zq.moved hW.alike (va_Zq.kept z0 (fun q hq _ => hh q hq))
  have key : ∀ v : Value, v.isRef = true → va_Z C n d v (fun _ => False) U U.heap → (Cond.isRef (.static C n d)).before a' U = true := by
    intro v hv hz
    obtain ⟨cf, kf, fi, f, q, cell, h1, h2, h3, h4, h5, h6, h7, -⟩ := hz
    have he : (Term.static C n d).eval a' U none [] U = some v := by simp [Term.eval, State.fieldNamed?, h1, h2, h4, h5, h6, h7]
    simp only [Cond.before, Cond.holds, Cond.value, he]
    cases v <;> simp_all [Value.isRef]
  rcases z1 with h9 | ⟨t, h9⟩
  · exact key _ rfl h9
  · exact key _ rfl h9
/-- the words of a throw that speak of the heap -/
def bx_st : List Cond := [.laysStatic Bundle.tN "UNASSIGNED_STACK" Bundle.steD, .laysStatic Bundle.tN "SUPPRESSED_SENTINEL" Bundle.listD, .isRef (.static Bundle.tN "UNASSIGNED_STACK" Bundle.steD), .isRef (.static Bundle.tN "SUPPRESSED_SENTINEL" Bundle.listD)]
/-- the words xw hold, whatever the arguments -/
def bx_X (xw : List Cond) (U : State) : Prop := ∀ w ∈ xw, ∀ a : Array Value, w.before a U = true
def bx_ok (xw : List Cond) : Bool := xw.all (fun w => bx_tb w || decide (w ∈ bx_st)) && bx_st.all (fun w => decide (w ∈ xw)) && decide (Cond.initialized Bundle.tN ∈ xw)
theorem bx_X.of {xw : List Cond} {s U : State} {a0 : Array Value} (hok : bx_ok xw = true) (hW : s.WarmedH U.vm) (hh : ∀ q : Nat, q < s.heap.size → U.heap[q]? = s.heap[q]?) (h : ∀ w ∈ xw, w.before a0 s = true) : bx_X xw U := by
  simp only [bx_ok, Bool.and_eq_true, List.all_eq_true, decide_eq_true_eq, Bool.or_eq_true] at hok
  obtain ⟨⟨h1, h2⟩, h3⟩ := hok
  intro w hw a
  rcases h1 w hw with h4 | h4
  · exact bx_tb_at hW h4 (h w hw)
  · simp only [bx_st, List.mem_cons, List.not_mem_nil, or_false] at h4
    rcases h4 with rfl | rfl | rfl | rfl
    · exact bx_lay_at hW hh (h _ hw)
    · exact bx_lay_at hW hh (h _ hw)
    · exact bx_ref_at hW hh (h _ (h2 _ (by simp [bx_st]))) (h _ h3) (h _ hw)
    · exact bx_ref_at hW hh (h _ (h2 _ (by simp [bx_st]))) (h _ h3) (h _ hw)
theorem bx_X.mv {xw : List Cond} {s U : State} (hok : bx_ok xw = true) (hW : s.WarmedH U.vm) (hh : ∀ q : Nat, q < s.heap.size → U.heap[q]? = s.heap[q]?) (h : bx_X xw s) : bx_X xw U := bx_X.of (a0 := #[]) hok hW hh (fun w hw => h w hw _)
/-- the strings: each is interned somewhere -/
def bx_S (own : String) (strs : List (Nat × String)) (U : State) : Prop := ∀ q ∈ strs, ∃ sa : Nat, vk_R own q.1 q.2 sa U
theorem bx_S.mv {own : String} {strs : List (Nat × String)} {s U : State} (hW : s.WarmedH U.vm) (h : bx_S own strs s) : bx_S own strs U := fun q hq => by
  obtain ⟨sa, h1⟩ := h q hq
  exact ⟨sa, vk_R.warm hW h1⟩
theorem bx_frame {s U : State} {k n : Nat} (h : s.sameButNew ({ U with vm := s.vm } : State) [] k n) : s.heap.size ≤ U.heap.size ∧ ∀ q : Nat, q < s.heap.size → U.heap[q]? = s.heap[q]? := by
  refine ⟨h.2.1, fun q hq => ?_⟩
  obtain ⟨c9, e1, e2, -, e4⟩ := h.2.2.2.2.2 q _ (Array.getElem?_eq_getElem hq)
  have es : c9.slots = (s.heap[q]).slots := Array.ext_getElem? (fun i => e4 i (by intro z; cases z))
  rw [es] at e2
  have e5 : U.heap[q]? = some c9 := e1
  rw [e5, e2, Array.getElem?_eq_getElem hq]
/-- how a throwing body ends -/
def bx_Tq (E : String) : Array Value → State → Outcome → State → Prop := fun _ st o t => ∃ (q : Addr) (ce : Cell), o = .threw q ∧ t.heap[q]? = some ce ∧ ce.vm = .none ∧ st.vm.findClass E = some ce.cls ∧ st.WarmedH t.vm ∧ st.sameButNew ({ t with vm := st.vm } : State) [] 1 6
def bx_T (l : Launch) (y : MethodName) (ws : List Cond) (rm : Room) (Pc : Array Value → State → Prop) (E : String) : Prop := MetFree l y (headSpec ws rm) Pc (fun _ _ _ _ _ => True) (bx_Tq E)
def bx_MQ (below : List Frame) (E : String) (a : Array Value) (s : State) : State → Prop := fun t => ∃ o, t.status = .running ∧ Ended t below o ∧ bx_Tq E a s o t
theorem bx_ofW {l : Launch} {y : MethodName} {ws ws' : List Cond} {rm : Room} {Pc : Array Value → State → Prop} {E : String} {cc : ByteArray} {maxL : Nat} {ret : Option FieldType}
    (hy : plainName y.cls = true) (hw : ws = Cond.code y cc maxL ret :: ws')
    (body : ∀ p e s m args below meth c s₁, BodyLoose p l y (headSpec ws rm) cc maxL ret e s m args below meth c s₁ → c.maxLocals = maxL → (∀ x ∈ c.exceptionTable.toList, ∀ pc, covers x pc = false) → Pc args s →
      W p l e (headSpec ws rm).room s m args below meth c s.heap [] 0 0 (bx_MQ below E args s) (entryFrame m args maxL)) : bx_T l y ws rm Pc E := by
  have hm : Cond.code y cc maxL ret ∈ ws := by rw [hw]; exact List.mem_cons_self
  refine MetFree.of_bodyS (code := cc) (maxLocals := maxL) (ret := ret) hy ?_ ?_
  · intro args s m h hn
    obtain ⟨meth, c, h1, h2, h3, h4, h5, h6, -, -⟩ := Cond.code_spec hn (atoms_spec (ws := ws) h _ hm)
    exact ⟨meth, c, h1, h2, h3, h4, h5, h6⟩
  · intro p e s m args below meth c s₁ B hml hP _
    have he := B.noHandlers (atoms_spec (ws := ws) B.pre _ hm)
    obtain ⟨t, a1, o, b1, b2, b3⟩ := body p e s m args below meth c s₁ B hml (fun x hx => by
      rw [Array.isEmpty_iff] at he
      rw [he] at hx
      cases hx) hP s₁ (by rw [B.state]; rfl) (Stand.of_body B)
    exact ⟨t, o, a1, b1, b2, b3⟩
section BX1
variable {p : Program} {l : Launch} {e : Env} {R : Room} {s : State} {m : MethodId} {args : Array Value} {below : List Frame} {meth : Method} {c : Code} {H : Heap} {locs : List Loc} {cells slots : Nat} {Q : State → Prop}
/-- throw new cls(text): new, dup, ldc, invokespecial, athrow -/
theorem bx_throw {cc : ByteArray} {pc : Nat} {ls : Array Slot} {rest : List Value} (hx : p.tables.exec = Jvm.exec) (hb : c.code = cc) (hl : l.stackTraces = false) {own cls text : String} {names : List String} {ik is ic sa : Nat}
    (hown : s.vm.findClass own = some m.cls) (hcls : Bundle.fit cls = true) (hnames : ∀ n ∈ names, Bundle.fit n = true) (hk : (Cond.classLink own ik cls).before args s = true) (hini : (Cond.initialized cls).before args s = true)
    (hstr : vk_R own is text sa s) (hat : ∀ w ∈ Bundle.ownAtoms own ic cls names, w.before args s = true) (hsize : ls.size = c.maxLocals)
    (d0 : decode cc pc = .ok (.new ik, 3)) (d3 : decode cc (pc + 3) = .ok (.dup, 1)) (d4 : decode cc (pc + 4) = .ok (.ldc is, 2)) (d6 : decode cc (pc + 6) = .ok (.invokespecial ic, 3)) (d9 : decode cc (pc + 9) = .ok (.athrow, 1))
    (hout : ∀ x ∈ c.exceptionTable.toList, ∀ pc, covers x pc = false) (hF : names.length + 3 < R.frames) (hL : (rest.map fun v => v.category).sum + (13 * (names.length + 1) + 43) ≤ R.locals) (hC : 1 ≤ R.cells) (hS : 6 ≤ R.slots) (hlocks : meth.locks = false) :
    W p l e R s m args below meth c s.heap [] 0 0 (bx_MQ below cls args s) (F0 m pc ls rest) := by
  intro T hT X
  have htr : e.platform.stackTraces = false := (show e.platform.stackTraces = l.stackTraces by rw [X.admits.platform]).trans hl
  have hins : (Cond.instantiable cls 6).before args s = true := hat _ (by simp [Bundle.ownAtoms])
  obtain ⟨vm₁, cX, kX, hfX, hkX, -, -, X₁, st1⟩ := X.newCold hx (own := own) (C := cls) (index := ik) (n := 6) hown hk hins hini (g := F0 m pc ls rest) rfl (by rw [hb]; exact d0) (by omega) (by omega)
  generalize hT1 : (T.setVm vm₁).pushCell { cls := cX, slots := kX.instanceTypes.map defaultValue, vm := .none } = T1 at X₁ st1
  have hcat : (Value.ref T.heap.size).category = 1 := rfl
  have hcellA : T1.heap[T.heap.size]? = some (freshCell cX kX) := by rw [← hT1]; exact State.heap_pushCell_size _ _
  have d3' : decode c.code (pc + 3) = .ok (.dup, 1) := by rw [hb]; exact d3
  have d4' : decode c.code (pc + 4) = .ok (.ldc is, 2) := by rw [hb]; exact d4
  obtain ⟨U, hsteps, hrun, hend, hW, hsame, ce, hce, hO⟩ := X₁.ctorThrowS hx htr (own := own) (cls := cls) (names := names) (ic := ic) hown hcls hnames hat (fun x hx => nomatch hx) hfX hkX hcellA (by rw [hT]; exact Nat.le_refl _) (msg := .ref sa) rfl
    (g := { method := m, pc := pc + 6, locals := ls, stack := .ref sa :: .ref T.heap.size :: .ref T.heap.size :: rest, locked := none }) rfl hsize rfl rfl (rest := rest) rfl
    (by rw [hb]; exact d6) (by rw [hb]; exact d9) (fun x hx => hout x hx _) hF (by simp only [List.map_cons, List.sum_cons, hcat]; omega) hlocks
  refine ⟨U, ?_, .threw T.heap.size, hrun, hend, T.heap.size, ce, rfl, hce, hO.vm, hO.cls, hW, hsame⟩
  refine st1 _ ?_
  show Steps p.tables e below (T1.setTop { method := m, pc := pc + 3, locals := ls, stack := .ref T.heap.size :: rest, locked := none }) _
  jvm_step X₁.here [X₁.here.top, hx, d3', Value.category]
  exact X₁.ldcString hx (own := own) (text := text) (index := is) (a := sa) hown hstr.1 hstr.2
    (g := { method := m, pc := pc + 4, locals := ls, stack := .ref T.heap.size :: .ref T.heap.size :: rest, locked := none }) rfl d4' _ hsteps
/-- what a call of a thrower does: the note lies over the caller's frame -/
def bx_Run (p : Program) (l : Launch) (e : Env) (R : Room) (s : State) (m : MethodId) (args : Array Value) (below : List Frame) (meth : Method) (c : Code) (H : Heap) (locs : List Loc) (cells slots : Nat) (g : JFrame) (rest : List Value) (E : String) : Prop :=
  ∀ T : State, T.heap = H → Stand p l e R s m args below meth c T locs cells slots → ∃ (q : Addr) (ce : Cell) (T' : State), Stand p l e R s m args below meth c T' locs (cells + 1) (slots + 6) ∧ T'.heap[q]? = some ce ∧ ce.vm = .none ∧ s.vm.findClass E = some ce.cls ∧ H.size ≤ T'.heap.size ∧ (∀ k : Nat, k < H.size → T'.heap[k]? = H[k]?) ∧
    Steps p.tables e below (T.setTop g) ((T'.setTop { g with stack := rest }).pushFrame (.throwing q))
theorem bx_core {U : State} (X : Stand p l e R s m args below meth c U locs cells slots) {y : MethodName} {ws : List Cond} {rm : Room} {Pc : Array Value → State → Prop} {E : String} (hM : bx_T l y ws rm Pc E) {bytes : ByteArray} {maxL : Nat} {ret : Option FieldType}
    {g : JFrame} (hg : g.method = m) (hsize : g.locals.size = c.maxLocals) {ig : Instr} {len : Nat} (hdg : decode c.code g.pc = .ok (ig, len)) (hW : 2 * g.monitorRoom + (g.stack.map fun v => v.category).sum ≤ 8) {mk : MethodId} {a : Array Value}
    (hn : U.methodNamed? y = some mk) (hws : ∀ w ∈ ws, w.before a U = true) (hcode : (Cond.code y bytes maxL ret).before a U = true) (hini : (Cond.initialized y.cls).before a U = true) (hP : Pc a (U.calling g mk a))
    (hfr : rm.frames + 1 ≤ R.frames) (hlo : 8 + (maxL + 11) + rm.locals ≤ R.locals) (hrc : rm.cells = 1) (hrs : rm.slots = 6) (hc1 : cells + 1 ≤ R.cells) (hs1 : slots + 6 ≤ R.slots) :
    ∃ (q : Addr) (ce : Cell) (T' : State), Stand p l e R s m args below meth c T' locs (cells + 1) (slots + 6) ∧ T'.heap[q]? = some ce ∧ ce.vm = .none ∧ U.vm.findClass E = some ce.cls ∧ U.heap.size ≤ T'.heap.size ∧ (∀ k : Nat, k < U.heap.size → T'.heap[k]? = U.heap[k]?) ∧
      Steps p.tables e below (doInvoke e (U.setTop g) [] mk a).1 ((T'.setTop g).pushFrame (.throwing q)) := by
  obtain ⟨methY, cY, hmY, hcY, -, hlY, -, -, -, -⟩ := Cond.code_spec hn hcode
  obtain ⟨kY, hkY, -⟩ := className_of_methodNamed hn
  have hAt : At U g.method c below := by rw [hg]; exact X.here
  have happ : (headSpec ws rm).appliesLoose y e.platform (U.calling g mk a) = true :=
    Spec.appliesLoose_calling (g := g) hAt hdg hn hkY (Cond.initialized_spec (findClass_of_methodNamed hn) hkY hini)
      (X.room_calling (g := g) (R' := (headSpec ws rm).room) hsize hmY hcY hfr (by rw [hlY]; show _ + rm.locals ≤ _; omega) (by show cells + rm.cells ≤ _; omega) (by show slots + rm.slots ≤ _; omega)) (atoms_intro hws)
  obtain ⟨mid, hmid⟩ := hAt.above
  have hfrm : (U.setTop g).frames = (.java g :: mid) ++ below := by rw [State.frames_setTop' g hAt.top, hmid]; rfl
  obtain ⟨o, z, hsteps, -, hend, hq⟩ := Steps.callFree hM p X.admits X.cas X.clock (acts := []) hfrm happ hP trivial
  have hq' : bx_Tq E a (U.calling g mk a) o z := hq
  obtain ⟨q, ce, ho, h1, h2, h3, hWm, hsm⟩ := hq'
  subst ho
  have hfm := bx_frame hsm
  rw [State.frames_setTop' g hAt.top] at hend
  have hf2 : z.frames = .throwing q :: .java g :: U.frames.tail := hend
  obtain ⟨e2, q2, q3, q4, q5, q6⟩ := hsm
  have e3 : z = ({ (U.calling g mk a).setFrames z.frames with heap := z.heap, slotsUsed := z.slotsUsed } : State).setVm z.vm := by
    have e4 : z = ({ z with vm := (U.calling g mk a).vm } : State).setVm z.vm := rfl
    rw [e2] at e4
    exact e4
  have hWU : U.WarmedH z.vm := hWm
  obtain ⟨g₀, hg0⟩ := Option.isSome_iff_exists.mp hAt.top
  obtain ⟨r, hr⟩ := State.topJava?_eq_some.mp hg0
  obtain ⟨T', hT'⟩ : ∃ T' : State, T' = ({ U with heap := z.heap, slotsUsed := z.slotsUsed } : State).setVm z.vm := ⟨_, rfl⟩
  have hz : z = (T'.setTop g).pushFrame (.throwing q) := by
    have hr' : T'.frames = .java g₀ :: r := by rw [hT']; exact hr
    rw [State.pushFrame, State.frames_setTop _ hr', State.setTop_of_frames _ hr', State.setFrames_setFrames]
    refine e3.trans ?_
    rw [hf2, State.calling_eq hAt.top, State.setFrames_setFrames, hr, hT']
    rfl
  have hsame : U.sameButNew ({ U with heap := z.heap, slotsUsed := z.slotsUsed } : State) [] 1 6 := by
    refine ⟨?_, q2, q3, q4, q5, q6⟩
    obtain ⟨t, ht, -⟩ := State.frames_cons hr
    show ({ U with heap := z.heap, slotsUsed := z.slotsUsed } : State) = { U.setFrames U.frames with heap := z.heap, slotsUsed := z.slotsUsed }
    rw [State.setFrames_self ht]
  have hall := X.same.trans (hsame.setVm s.vm)
  rw [List.append_nil] at hall
  refine ⟨q, ce, T', ?_, by rw [hT']; exact h1, h2, h3, by rw [hT']; exact hfm.1, by rw [hT']; exact hfm.2, by rw [← hz]; exact hsteps⟩
  subst hT'
  exact ⟨X.admits, X.cas, X.clock, X.frames, X.room, X.hears, X.method, X.code, (X.here.setHeapUsed z.heap z.slotsUsed).setVm hWU.alike, X.tail, State.WarmedH.trans X.warmed hWU, X.limits, X.bytes, hall⟩
theorem bx_runV {cc bytes : ByteArray} {pc nL maxL n index : Nat} {ret : Option FieldType} {ls : Array Slot} {st0 As rest : List Value} {b : Nat} {Ts ws : List Cond} {rm : Room} {own C : String} {y : MethodName} {Pc : Array Value → State → Prop} {E : String}
    (S : CallFix p m c cc nL s args Ts own) (hM : bx_T l y ws rm Pc E) (cw : CallW R s args own C index y bytes maxL ret ws rm 1 6 n) (hp : PreV s H C b Pc As)
    (hn : As.length = n) (hsize : ls.size = nL) (hstack : st0 = As.reverse ++ .ref b :: rest) (hW : (rest.map fun v => v.category).sum ≤ 8) (hdg : decode cc pc = .ok (.invokevirtual index, 3)) (hcs : cells + 1 ≤ R.cells ∧ slots + 6 ≤ R.slots) :
    bx_Run p l e R s m args below meth c H locs cells slots (F0 m pc ls st0) rest E := by
  obtain ⟨⟨hrc, hrs, hfr, hlo, hws, hcw, hcode, hini, hy, hlen, hlk⟩, hin, hse⟩ := cw
  obtain ⟨hx, hb, hml, ho, -⟩ := S
  obtain ⟨hbl, ⟨cellB, hcB, hoB, hclB⟩, hPc⟩ := hp
  intro T hT X
  obtain ⟨mk, methM, hnamed, hmethM, hstM, habM⟩ := Cond.instanceMethod_spec hin
  obtain ⟨methM', cM, hmethM', -, -, -, -, -, -, hsigM⟩ := Cond.code_spec hnamed hcode
  cases hmethM.symm.trans hmethM'
  obtain ⟨c2, r2, m2, q1, q2, q3, q4, kP, hkP, hkPi⟩ := Cond.selects_spec hse
  cases hclB.symm.trans q1
  cases (State.methodFound?_of_named hnamed hy).symm.trans q2
  cases hnamed.symm.trans q3
  have hsel : selectMethod e.platform s.vm cellB.cls mk = .method mk := by rw [Launch.admits_selectMethod X.admits]; exact q4
  obtain ⟨vm₁, X₁, hstep⟩ := X.invokevirtual hx ho hlk hnamed hmethM hstM hkP hkPi hy (a := b) (cell := cellB) (by rw [hT]; exact hcB)
    (fun z h => by rw [h] at hoB; cases hoB) hsel hmethM habM hkP hkPi (g := F0 m pc ls st0) rfl (argsL := As) (rest := rest) (hn.trans (hlen _ hsigM)) hstack (by rw [hb]; exact hdg)
  have hWs : s.WarmedH (T.setVm vm₁).vm := X₁.warmed
  obtain ⟨q, ce, T', X', h1, h2, h3, h4, h5, st⟩ := bx_core X₁ hM (bytes := bytes) (maxL := maxL) (ret := ret) (g := { F0 m pc ls st0 with stack := rest }) rfl (hsize.trans hml.symm) (by rw [hb]; exact hdg) (lv_room hW)
    (mk := mk) (a := (Value.ref b :: As).toArray) (X₁.named hnamed) (fun w hw => hws w hw _ _ hWs) (hws _ hcw _ _ hWs) (word_at hWs (Or.inl (by first | rfl | simp [Cond.onTables, Cond.keeps, Cond.steady])) hini)
    (hbl _ _ _ _ (hPc (T.setVm vm₁) hT hWs)) hfr hlo hrc hrs hcs.1 hcs.2
  refine ⟨q, ce, T', X', h1, h2, by rw [← hWs.alike.findClass]; exact h3, by rw [← hT]; exact h4, by rw [← hT]; exact h5, ?_⟩
  exact hstep _ fun acts => by rw [doInvoke_state]; exact st
/-- not caught here: it goes on to the caller -/
theorem bx_leave {pc : Nat} {ls : Array Slot} {st0 rest : List Value} {E : String} (hr : bx_Run p l e R s m args below meth c s.heap [] 0 0 (F0 m pc ls st0) rest E) (hout : ∀ x ∈ c.exceptionTable.toList, ∀ pc, covers x pc = false) (hlocks : meth.locks = false) :
    W p l e R s m args below meth c s.heap [] 0 0 (bx_MQ below E args s) (F0 m pc ls st0) := by
  intro T hT X
  obtain ⟨q, ce, T', X', h1, h2, h3, h4, h5, st⟩ := hr T hT X
  obtain ⟨l1, l2, l3, l4, l5⟩ := X'.leaveThrown q (g := { F0 m pc ls st0 with stack := rest }) rfl rfl rfl (fun x hx => hout x hx _) hlocks
  exact ⟨_, st.trans l1, .threw q, l2, l3, q, ce, rfl, h1, h2, h3, l4, l5⟩
end BX1
