-- what a thrower of BoardMoves needs of the tables and of the heap
def bxUp : List String := ["java/lang/RuntimeException", "java/lang/Exception"]
def xW : List Cond := Bundle.ownAtoms RX4 79 "java/lang/IllegalArgumentException" bxUp ++ Bundle.ownAtoms RX4 147 "java/lang/IndexOutOfBoundsException" bxUp
theorem bx_in_79 : ∀ w ∈ Bundle.ownAtoms RX4 79 "java/lang/IllegalArgumentException" bxUp, w ∈ xW := fun w h => List.mem_append_left _ h
theorem bx_in_147 : ∀ w ∈ Bundle.ownAtoms RX4 147 "java/lang/IndexOutOfBoundsException" bxUp, w ∈ xW := fun w h => List.mem_append_right _ h
theorem xW_ok : bx_ok xW = true := by decide +kernel
def xS : List (Nat × String) := [(77, "a part is 1 .. 65,536 wide and high, on side 0 or 1"), (90, "a turn is 0 .. 3"), (145, "no such net"), (154, "a pin lies in its part"), (166, "the part is not placed"), (191, "what is 0 .. 6"), (195, "steps are 0 .. 2,000"), (205, "a gap is not below 0"), (218, "a height is 0 .. 65,536"), (223, "a height is not below 0"), (238, "no such part")]
def bx_Tp (D : va_G) (cl : List vw_C) (tys : List (ClassId × FieldType)) (ws : va_W) (av : List Value) : Array Value → State → Prop := fun v U => v = av.toArray ∧ va_P D cl ws U.heap ∧ va_K D cl tys U ∧ bx_X xW U ∧ bx_S RX4 xS U
def bx_Hp (D : va_G) (cl : List vw_C) (tys : List (ClassId × FieldType)) (ws : va_W) (av : List Value) (sz : Nat) : Array Value → State → Prop := fun v U => v = av.toArray ∧ U.heap.size = sz ∧ va_P D cl ws U.heap ∧ va_K D cl tys U ∧ va_D (fun _ => True) ws ∧ bx_X xW U ∧ bx_S RX4 xS U
theorem bx_Tp.blind {D : va_G} {cl : List vw_C} {tys : List (ClassId × FieldType)} {ws : va_W} {av : List Value} : FrameBlind (bx_Tp D cl tys ws av) := by
  intro a U g mk q
  obtain ⟨q0, qP, qK, qX, qZ⟩ := q
  have hW : U.WarmedH (U.calling g mk a).vm := State.WarmedH.refl U
  exact ⟨q0, qP, va_K.moved (u := U) (U := U.calling g mk a) (Vm.Alike.refl U.vm) qK, bx_X.mv xW_ok hW (fun _ _ => rfl) qX, bx_S.mv hW qZ⟩
theorem bx_Hp.blind {D : va_G} {cl : List vw_C} {tys : List (ClassId × FieldType)} {ws : va_W} {av : List Value} {sz : Nat} : FrameBlind (bx_Hp D cl tys ws av sz) := by
  intro a U g mk q
  obtain ⟨q0, q1, qP, qK, qD, qX, qZ⟩ := q
  have hW : U.WarmedH (U.calling g mk a).vm := State.WarmedH.refl U
  exact ⟨q0, q1, qP, va_K.moved (u := U) (U := U.calling g mk a) (Vm.Alike.refl U.vm) qK, qD, bx_X.mv xW_ok hW (fun _ _ => rfl) qX, bx_S.mv hW qZ⟩
section BXC
variable {p : Program} {l : Launch} {e : Env} {R : Room} {s : State} {m : MethodId} {args : Array Value} {below : List Frame} {meth : Method} {c : Code} {H : Heap} {locs : List Loc} {cells slots : Nat} {Q : State → Prop}
variable {cc bytes : ByteArray} {pc nL maxL n index : Nat} {ret : Option FieldType} {ls : Array Slot} {st0 As rest : List Value} {D : va_G} {cl : List vw_C} {A : Nat → Prop} {b : Nat} {tys : List (ClassId × FieldType)} {ws ws' : va_W} {H0 : Heap} {Ts wd wd' : List Cond} {rm : Room} {own C : String} {T : u_T} {N : Nat} {y : MethodName} {fs : List Value}
theorem bx_tcallV {E : String} (S : CallFix p m c cc nL s args Ts own) (hM : bx_T l y wd rm (bx_Tp D cl tys ws (.ref b :: As)) E) (cw : CallW R s args own C index y bytes maxL ret wd rm 1 6 n) (hK : va_K D cl tys s) (hP : va_P D cl ws s.heap) (hX : bx_X xW s) (hZ : bx_S RX4 xS s) (q0 ci : Nat) (hc : cl[ci]? = some (C, T, N)) (he : ws[q0]? = some (b, .inr (ci, fs)))
    (hn : As.length = n) (hsize : ls.size = nL) (hstack : st0 = As.reverse ++ .ref b :: rest) (hW : (rest.map fun v => v.category).sum ≤ 8) (hdg : decode cc pc = .ok (.invokevirtual index, 3)) (hcs : cells + 1 ≤ R.cells ∧ slots + 6 ≤ R.slots) : bx_Run p l e R s m args below meth c s.heap locs cells slots (F0 m pc ls st0) rest E :=
  bx_runV S hM cw ⟨bx_Tp.blind, va_recv hK hP hc he, fun U hU hW => ⟨rfl, by rw [hU]; exact hP, va_K.moved hW.alike hK, bx_X.mv xW_ok hW (fun q _ => by rw [hU]) hX, bx_S.mv hW hZ⟩⟩ hn hsize hstack hW hdg hcs
theorem bx_hcallS {r : Option Value} {hs : List (Nat × Nat × Nat × Nat)} (S : CallFix p m c cc nL s args Ts own) (hM : Met l y wd rm (bx_Hp D cl tys ws As H.size) (bm_Wq D cl tys ws' r (va_A ws H.size)) 1 6 (va_A ws H.size)) (hrc : rm.cells = 1) (hrs : rm.slots = 6) (hfr : rm.frames + 1 ≤ R.frames) (hlo : 8 + (maxL + 11) + rm.locals ≤ R.locals)
    (hg : GoodIn Ts (Cond.methodLink own index y :: Cond.static y :: Cond.initialized y.cls :: wd)) (hd : (y.cls ≠ "java/lang/invoke/MethodHandle" ∧ y.cls ≠ "java/lang/invoke/VarHandle") ∧ (parseMethodDescriptor y.desc).map (fun d => d.parameters.length) = some n) (hw : wd = Cond.codeWith y bytes maxL ret hs :: wd')
    (hK : va_K D cl tys s) (hP : va_P D cl ws H) (hD : va_D A ws) (hS : va_S A s.heap H locs) (hA : ∀ q : Nat, s.heap.size ≤ q → A q) (hX : bx_X xW s) (hZ : bx_S RX4 xS s) (hAn : ∀ q : Nat, q < s.heap.size → ¬ A q)
    (hn : As.length = n) (hsize : ls.size = nL) (hstack : st0 = As.reverse ++ rest) (hW : (rest.map fun v => v.category).sum ≤ 8) (hdg : decode cc pc = .ok (.invokestatic index, 3)) (hcs : cells + 1 ≤ R.cells ∧ slots + 6 ≤ R.slots)
    (kk : ∀ (H1 : Heap) (locs1 : List Loc), va_P D cl ws' H1 → va_D A ws' → va_S A s.heap H1 locs1 → W p l e R s m args below meth c H1 locs1 (cells + 1) (slots + 6) Q (F0 m (pc + 3) ls (r.toList ++ rest))) : W p l e R s m args below meth c H locs cells slots Q (F0 m pc ls st0) := by
  have hts := S.2.2.2.2
  have hpay := pay_in hts hg
  have hr := bx_runSH (g := F0 m pc ls st0) (e := e) (below := below) (meth := meth) (locs := locs) (cells := cells) (slots := slots) (As := As) (rest := rest) (hs := hs) (bytes := bytes) (maxL := maxL) (ret := ret) S hM hrc hrs hfr hlo (fun w hw => hpay w (List.mem_cons_of_mem _ (List.mem_cons_of_mem _ (List.mem_cons_of_mem _ hw)))) (by rw [hw]; exact List.mem_cons_self)
    (fun a' U hU => hpay (Cond.initialized y.cls) (by simp) a' U hU) (hpay (Cond.static y) (by simp) args s (State.WarmedH.refl s)) (hpay (Cond.methodLink own index y) (by simp) args s (State.WarmedH.refl s)) hd.1 hd.2
    ⟨bx_Hp.blind, fun U hU hW => ⟨rfl, by rw [hU], by rw [hU]; exact hP, va_K.moved hW.alike hK, hD.weaken (fun _ _ _ _ => trivial), bx_X.mv xW_ok hW (fun q hq => by rw [hU]; exact hS.2.1 q hq (hAn q hq)) hX, bx_S.mv hW hZ⟩⟩ rfl hn hsize hstack (lv_room hW) hdg hcs
  have hF : ∀ q, va_A ws H.size q → A q := by
    intro q h
    rcases h with ⟨k, e9, h⟩ | h
    · exact hD.2 k (q, e9) h
    · exact hA q (Nat.le_trans hS.1 h)
  intro T hT X
  obtain ⟨v, st₀, t, T', L, h0, X', hL, e1, e2, ⟨⟨hv, hP', hK', hD'⟩, hz, hk⟩, st⟩ := hr T hT X
  cases hv
  rw [h0] at hz hk
  obtain ⟨t2, a1, b1⟩ := kk T'.heap (locs ++ L) (by rw [e1]; exact hP') (hD'.weaken (fun _ _ _ h => hF _ h))
    ⟨Nat.le_trans hS.1 (by rw [e1]; exact hz), fun q h1 h2 => by rw [e1, hk q (Nat.lt_of_lt_of_le h1 hS.1) (fun z => h2 (hF q z))]; exact hS.2.1 q h1 h2, fun q hq => by
      rcases List.mem_append.mp hq with h | h
      · exact hS.2.2 q h
      · exact hF _ (hL q h)⟩ T' rfl X'
  exact ⟨t2, st t2 a1, b1⟩
end BXC
theorem gdVL {b : Cond} {own C : String} {idx : Nat} {y : MethodName} (h0 : b ∈ bT) (h1 : Cond.methodLink own idx y ∈ bT) (h2 : Cond.instanceMethod y ∈ bT) (h3 : Cond.selects C y y ∈ bT) (h4 : Cond.initialized C ∈ bT) : GoodIn lw_tbl (wsV own idx C y (b :: bT)) := by
  intro w hw
  have hm : w ∈ bT := by
    simp only [wsV, List.cons_append, List.nil_append, List.mem_cons] at hw
    rcases hw with rfl | rfl | rfl | rfl | rfl | h <;> assumption
  exact ⟨(List.mem_filter.mp hm).1, good_of_word (bT_good hm)⟩
theorem gdSL {b : Cond} {own : String} {idx : Nat} {y : MethodName} (h0 : b ∈ bT) (h1 : Cond.methodLink own idx y ∈ bT) (h2 : Cond.static y ∈ bT) (h4 : Cond.initialized own ∈ bT) : GoodIn lw_tbl (wsS own idx y (b :: bT)) := by
  intro w hw
  have hm : w ∈ bT := by
    simp only [wsS, List.cons_append, List.nil_append, List.mem_cons] at hw
    rcases hw with rfl | rfl | rfl | rfl | h <;> assumption
  exact ⟨(List.mem_filter.mp hm).1, good_of_word (bT_good hm)⟩
theorem gdI {a b : Cond} (h0 : b ∈ bT) : GoodIn (a :: bT) (b :: bT) := by
  intro w hw
  have hm : w ∈ bT := by
    rcases List.mem_cons.mp hw with rfl | h <;> assumption
  exact ⟨List.mem_cons_of_mem _ hm, good_of_word (bT_good hm)⟩
theorem gdIL {b : Cond} (h0 : b ∈ bT) : GoodIn lw_tbl (b :: bT) := by
  intro w hw
  have hm : w ∈ bT := by
    rcases List.mem_cons.mp hw with rfl | h <;> assumption
  exact ⟨(List.mem_filter.mp hm).1, good_of_word (bT_good hm)⟩
theorem gdH {a b d e9 : Cond} (h : a ∈ bT ∧ b ∈ bT ∧ d ∈ bT ∧ e9 ∈ bT) : GoodIn lw_tbl (a :: b :: d :: e9 :: bT) := by
  intro w hw
  have hm : w ∈ bT := by
    simp only [List.mem_cons] at hw
    obtain ⟨h1, h2, h3, h4⟩ := h
    rcases hw with rfl | rfl | rfl | rfl | h <;> assumption
  exact ⟨(List.mem_filter.mp hm).1, good_of_word (bT_good hm)⟩
theorem bx_sd {x : Int32} (h0 : ¬ x < 0) (h1 : x ≤ 1) : x = 0 ∨ x = 1 := by
  rw [Int32.lt_iff_toInt_lt] at h0
  rw [Int32.le_iff_toInt_le] at h1
  have e0 : (0 : Int32).toInt = 0 := by decide
  have e1 : (1 : Int32).toInt = 1 := by decide
  rcases (show x.toInt = 0 ∨ x.toInt = 1 by omega) with h | h
  · exact Or.inl (Int32.toInt_inj.mp (h.trans e0.symm))
  · exact Or.inr (Int32.toInt_inj.mp (h.trans e1.symm))
def q_len (x : Int64) : Bool := !decide (x < 1) && !decide (65536 < x)
def q_pv (a b : Int64) (c : Int32) : Bool := q_len a && q_len b && (decide (c = 0) || decide (c = 1))
def q_rn (x : Int64) : Bool := !decide (x < 0) && !decide (2000 < x)
def q_tr (x0 y0 x1 y1 : Int64) : Bool := !decide (x0 < x1) || !decide (y0 < y1)
