-- THE STATE OF THE CLASS, in groups: Parts, Placement, Limits, Wiring, the board's own numbers
-- what keeps every index in its array
def q_okA (pa : gPA) : Prop := pa.2.2.2.2.2.2 ≤ 40 ∧ (∀ i, pa.2.2.1 i < 40) ∧ (∀ i, pa.2.2.2.2.2.1 i < 40)
def q_okL (pl : gPL) : Prop := ∀ i, pl.2.2.1 i < 40
def q_okI (li : gLI) : Prop := (∀ i, li.2.2.2.2.2.1 i < 40) ∧ (∀ i, li.2.2.2.2.2.2.1 i < 40) ∧ li.2.2.2.2.2.2.2.2.1 ≤ 10 ∧ li.2.2.2.2.2.2.2.2.2 ≤ 20
def q_okW (wi : gWI) : Prop := (∀ i, wi.1 i < 40) ∧ (∀ i, wi.2.1 i < 40) ∧ wi.2.2.2.2.2.2.2.2.2.1 ≤ 40 ∧ wi.2.2.2.2.2.2.2.2.2.2 ≤ 120
-- searches
def q_find (c : Nat → Bool) : Nat → Nat → Option Nat
  | 0, _ => none
  | k + 1, i => if c i then some i else q_find c k (i + 1)
def q_opt (o : Option Nat) : Int32 := match o with
  | none => -1
  | some i => nI i
theorem q_find_no {c : Nat → Bool} {k i : Nat} (h : c i = false) : q_find c (k + 1) i = q_find c k (i + 1) := by simp [q_find, h]
theorem q_find_yes {c : Nat → Bool} {k i : Nat} (h : c i = true) : q_find c (k + 1) i = some i := by simp [q_find, h]
theorem q_find_end {c : Nat → Bool} {n i : Nat} (h : ¬ i < n) : q_find c (n - i) i = none := by
  have e : n - i = 0 := by omega
  rw [e]; rfl
theorem q_find_go {c : Nat → Bool} {n i : Nat} (h : i < n) (hc : c i = false) : q_find c (n - (i + 1)) (i + 1) = q_find c (n - i) i := by
  have e : n - i = (n - (i + 1)) + 1 := by omega
  rw [e, q_find_no hc]
theorem q_find_hit {c : Nat → Bool} {n i : Nat} (h : i < n) (hc : c i = true) : q_find c (n - i) i = some i := by
  have e : n - i = (n - (i + 1)) + 1 := by omega
  rw [e, q_find_yes hc]
-- readers
def q_mates (pa : gPA) (a b : Nat) : Bool := decide (pa.2.2.2.2.2.1 a = pa.2.2.2.2.2.1 b)
def q_endX (pa : gPA) (pl : gPL) (j : Nat) : Int64 := pl.1 j + (if pl.2.2.1 j % 2 = 0 then pa.1 j else pa.2.1 j)
def q_endY (pa : gPA) (pl : gPL) (j : Nat) : Int64 := pl.2.1 j + (if pl.2.2.1 j % 2 = 0 then pa.2.1 j else pa.1 j)
def q_meets (pa : gPA) (pl : gPL) (j : Nat) (x0 y0 x1 y1 : Int64) : Bool := pl.2.2.2 j && decide (pl.1 j < x1) && decide (x0 < q_endX pa pl j) && decide (pl.2.1 j < y1) && decide (y0 < q_endY pa pl j)
def q_ov (pa : gPA) (pl : gPL) (j i : Nat) : Bool := decide (i ≠ j) && decide (pa.2.2.1 i = pa.2.2.1 j) && q_meets pa pl i (pl.1 j) (pl.2.1 j) (q_endX pa pl j) (q_endY pa pl j)
def q_over (pa : gPA) (pl : gPL) (j from9 : Nat) : Option Nat := q_find (q_ov pa pl j) (pa.2.2.2.2.2.2 - from9) from9
def q_first (pa : gPA) (pl : gPL) : Option Nat := q_find (fun i => pl.2.2.2 i && (q_over pa pl i (i + 1)).isSome) (pa.2.2.2.2.2.2 - 0) 0
def q_mateP (pa : gPA) (pl : gPL) (j i : Nat) : Bool := decide (i ≠ j) && pl.2.2.2 i && q_mates pa i j
def q_hasMate (pa : gPA) (pl : gPL) (j : Nat) : Bool := (q_find (q_mateP pa pl j) (pa.2.2.2.2.2.2 - 0) 0).isSome
def q_differs (pl ql : gPL) (j : Nat) : Bool := decide (¬ pl.1 j = ql.1 j) || decide (¬ pl.2.1 j = ql.2.1 j) || decide (¬ pl.2.2.1 j = ql.2.2.1 j) || decide (¬ pl.2.2.2 j = ql.2.2.2 j)
theorem q_find_lt {c : Nat → Bool} : ∀ {k i o : Nat}, q_find c k i = some o → i ≤ o ∧ o < i + k ∧ c o = true := by
  intro k
  induction k with
  | zero => intro i o h; simp [q_find] at h
  | succ k ih =>
    intro i o h
    by_cases hc : c i = true
    · rw [q_find_yes hc] at h
      cases h
      exact ⟨Nat.le_refl _, by omega, hc⟩
    · have hf : c i = false := by simpa using hc
      rw [q_find_no hf] at h
      obtain ⟨a1, a2, a3⟩ := ih h
      exact ⟨by omega, by omega, a3⟩
theorem q_over_lt {pa : gPA} {pl : gPL} {j f o : Nat} (h : q_over pa pl j f = some o) : o < pa.2.2.2.2.2.2 := by
  have := q_find_lt h
  omega
theorem q_first_lt {pa : gPA} {pl : gPL} {o : Nat} (h : q_first pa pl = some o) : o < pa.2.2.2.2.2.2 := by
  have := q_find_lt h
  omega
def q_way (pa : gPA) (pl : gPL) (g t : Nat) (ax up : Bool) : Int64 := if ax then (if up then q_endX pa pl t - pl.1 g else pl.1 t - q_endX pa pl g) else (if up then q_endY pa pl t - pl.2.1 g else pl.2.1 t - q_endY pa pl g)
def q_near (pa : gPA) (pl : gPL) (a b : Nat) (most : Int64) : Bool := !pl.2.2.2 a || !pl.2.2.2 b || !decide (most < q_max 0 (q_max (pl.1 a) (pl.1 b) - q_min (q_endX pa pl a) (q_endX pa pl b)) + q_max 0 (q_max (pl.2.1 a) (pl.2.1 b) - q_min (q_endY pa pl a) (q_endY pa pl b)))
def q_tooTall (pa : gPA) (pl : gPL) (li : gLI) (j i : Nat) : Bool := decide (li.2.2.2.2.1 i < pa.2.2.2.1 j) && q_meets pa pl j (li.1 i) (li.2.1 i) (li.2.2.1 i) (li.2.2.2.1 i)
def q_low (pa : gPA) (pl : gPL) (li : gLI) (j : Nat) : Bool := (q_find (q_tooTall pa pl li j) (li.2.2.2.2.2.2.2.2.1 - 0) 0).isNone
def q_tooFar (pa : gPA) (pl : gPL) (li : gLI) (j i : Nat) : Bool := (decide (li.2.2.2.2.2.1 i = j) || decide (li.2.2.2.2.2.2.1 i = j)) && !q_near pa pl (li.2.2.2.2.2.1 i) (li.2.2.2.2.2.2.1 i) (li.2.2.2.2.2.2.2.1 i)
def q_nears (pa : gPA) (pl : gPL) (li : gLI) (j : Nat) : Bool := (q_find (q_tooFar pa pl li j) (li.2.2.2.2.2.2.2.2.2 - 0) 0).isNone
def q_fits (bm : gBM) (pa : gPA) (j : Nat) (x y : Int64) (t : Nat) : Bool := !decide (x < 0) && !decide (bm.1 - (if t % 2 = 0 then pa.1 j else pa.2.1 j) < x) && !decide (y < 0) && !decide (bm.2.1 - (if t % 2 = 0 then pa.2.1 j else pa.1 j) < y)
def q_well (bm : gBM) (pa : gPA) (pl : gPL) (li : gLI) (j : Nat) : Bool := !pl.2.2.2 j || (q_fits bm pa j (pl.1 j) (pl.2.1 j) (pl.2.2.1 j) && (q_over pa pl j 0).isNone && q_low pa pl li j && q_nears pa pl li j)
def q_allWell (bm : gBM) (pa : gPA) (pl : gPL) (li : gLI) : Bool := (q_find (fun i => !q_well bm pa pl li i) (pa.2.2.2.2.2.2 - 0) 0).isNone
def q_count (c : Nat → Bool) : Nat → Nat
  | 0 => 0
  | k + 1 => q_count c k + (if c k then 1 else 0)
def q_changed (pl ql : gPL) (x : Int32) (i : Nat) : Bool := decide (¬ nI i = x) && q_differs pl ql i
theorem q_count_le (c : Nat → Bool) : ∀ k, q_count c k ≤ k := by
  intro k
  induction k with
  | zero => exact Nat.le_refl 0
  | succ k ih => simp only [q_count]; split <;> omega
def q_goes (pa : gPA) (pl : gPL) (lo hi pu : Nat) (ax up : Bool) : Bool := if q_mates pa lo pu then false else if q_mates pa hi pu then true else if up then decide ((if ax then pl.1 hi else pl.2.1 hi) < (if ax then pl.1 lo else pl.2.1 lo)) else decide ((if ax then pl.1 lo else pl.2.1 lo) < (if ax then pl.1 hi else pl.2.1 hi))

def q_copyU (f t : gPL) (u : Nat) : gPL := (fun i => if i < u then f.1 i else t.1 i, fun i => if i < u then f.2.1 i else t.2.1 i, fun i => if i < u then f.2.2.1 i else t.2.2.1 i, fun i => if i < u then f.2.2.2 i else t.2.2.2 i)
theorem q_cpy1 {α : Type} (f t : Nat → α) (u : Nat) : va_up (fun i => if i < u then f i else t i) u (f u) = fun i => if i < u + 1 then f i else t i := by
  funext i
  by_cases hi : i = u
  · subst hi; simp [va_up]
  · have e : (i < u + 1) = (i < u) := by simp only [eq_iff_iff]; omega
    simp [va_up, hi, e]
theorem q_copy_0 (f t : gPL) : t = q_copyU f t 0 := by
  unfold q_copyU
  simp
theorem q_copy_s (f t : gPL) (u : Nat) : ((va_up (q_copyU f t u).1 u (f.1 u), va_up (q_copyU f t u).2.1 u (f.2.1 u), va_up (q_copyU f t u).2.2.1 u (f.2.2.1 u), va_up (q_copyU f t u).2.2.2 u (f.2.2.2 u)) : gPL) = q_copyU f t (u + 1) := by
  unfold q_copyU
  simp only [q_cpy1]
theorem q_okL_copy {f t : gPL} {u : Nat} (h1 : q_okL f) (h2 : q_okL t) : q_okL (q_copyU f t u) := by
  intro i
  show (if i < u then f.2.2.1 i else t.2.2.1 i) < 40
  split
  · exact h1 i
  · exact h2 i
-- ALL PARTS STAND WELL: what each call keeps
theorem q_find_none {c : Nat → Bool} : ∀ {k i : Nat}, (q_find c k i).isNone = true ↔ ∀ o, i ≤ o → o < i + k → c o = false := by
  intro k
  induction k with
  | zero => intro i; simp only [q_find, Option.isNone_none, true_iff]; intro o h1 h2; omega
  | succ k ih =>
    intro i
    cases hc : c i with
    | true =>
      rw [q_find_yes hc]
      simp only [Option.isNone_some, Bool.false_eq_true, false_iff]
      intro h
      have := h i (Nat.le_refl _) (by omega)
      rw [hc] at this
      cases this
    | false =>
      rw [q_find_no hc, ih]
      constructor
      · intro h o h1 h2
        rcases Nat.lt_or_eq_of_le h1 with h3 | h3
        · exact h o (by omega) (by omega)
        · rw [← h3]; exact hc
      · intro h o h1 h2
        exact h o (by omega) (by omega)
theorem q_well_iff {bm : gBM} {pa : gPA} {pl : gPL} {li : gLI} {j : Nat} : q_well bm pa pl li j = true ↔ (pl.2.2.2 j = true → q_fits bm pa j (pl.1 j) (pl.2.1 j) (pl.2.2.1 j) = true ∧ (∀ i, i < pa.2.2.2.2.2.2 → q_ov pa pl j i = false) ∧ (∀ k, k < li.2.2.2.2.2.2.2.2.1 → q_tooTall pa pl li j k = false) ∧ (∀ k, k < li.2.2.2.2.2.2.2.2.2 → q_tooFar pa pl li j k = false)) := by
  unfold q_well
  have e1 : (q_over pa pl j 0).isNone = true ↔ ∀ i, i < pa.2.2.2.2.2.2 → q_ov pa pl j i = false := by
    unfold q_over
    rw [q_find_none]
    exact ⟨fun h i hi => h i (Nat.zero_le _) (by omega), fun h o _ h2 => h o (by omega)⟩
  have e2 : q_low pa pl li j = true ↔ ∀ k, k < li.2.2.2.2.2.2.2.2.1 → q_tooTall pa pl li j k = false := by
    unfold q_low
    rw [q_find_none]
    exact ⟨fun h i hi => h i (Nat.zero_le _) (by omega), fun h o _ h2 => h o (by omega)⟩
  have e3 : q_nears pa pl li j = true ↔ ∀ k, k < li.2.2.2.2.2.2.2.2.2 → q_tooFar pa pl li j k = false := by
    unfold q_nears
    rw [q_find_none]
    exact ⟨fun h i hi => h i (Nat.zero_le _) (by omega), fun h o _ h2 => h o (by omega)⟩
  cases hp : pl.2.2.2 j with
  | false => simp
  | true =>
    simp only [Bool.not_true, Bool.false_or, Bool.and_eq_true, e1, e2, e3, true_implies, and_assoc]
/-- every part stands well, a near pair's parts are there, what isn't there isn't placed -/
def INV (bm : gBM) (pa : gPA) (pl : gPL) (li : gLI) : Prop := (∀ j, j < pa.2.2.2.2.2.2 → q_well bm pa pl li j = true) ∧ (∀ k, k < li.2.2.2.2.2.2.2.2.2 → li.2.2.2.2.2.1 k < pa.2.2.2.2.2.2 ∧ li.2.2.2.2.2.2.1 k < pa.2.2.2.2.2.2) ∧ (∀ i, pa.2.2.2.2.2.2 ≤ i → pl.2.2.2 i = false)
def AG (n : Nat) (pl ql : gPL) : Prop := ∀ i, i < n → pl.1 i = ql.1 i ∧ pl.2.1 i = ql.2.1 i ∧ pl.2.2.1 i = ql.2.2.1 i ∧ pl.2.2.2 i = ql.2.2.2 i
theorem ag_endX {pa : gPA} {pl ql : gPL} {n j : Nat} (h : AG n pl ql) (hj : j < n) : q_endX pa pl j = q_endX pa ql j := by
  obtain ⟨a, b, c, d⟩ := h j hj
  unfold q_endX
  rw [a, c]
theorem ag_endY {pa : gPA} {pl ql : gPL} {n j : Nat} (h : AG n pl ql) (hj : j < n) : q_endY pa pl j = q_endY pa ql j := by
  obtain ⟨a, b, c, d⟩ := h j hj
  unfold q_endY
  rw [b, c]
theorem ag_ov {pa : gPA} {pl ql : gPL} {n i j : Nat} (h : AG n pl ql) (hi : i < n) (hj : j < n) : q_ov pa pl j i = q_ov pa ql j i := by
  obtain ⟨a1, b1, c1, d1⟩ := h i hi
  obtain ⟨a2, b2, c2, d2⟩ := h j hj
  unfold q_ov q_meets
  rw [ag_endX h hi, ag_endX h hj, ag_endY h hi, ag_endY h hj, a1, b1, d1, a2, b2]
theorem ag_tall {pa : gPA} {pl ql : gPL} {li : gLI} {n j k : Nat} (h : AG n pl ql) (hj : j < n) : q_tooTall pa pl li j k = q_tooTall pa ql li j k := by
  obtain ⟨a2, b2, c2, d2⟩ := h j hj
  unfold q_tooTall q_meets
  rw [ag_endX h hj, ag_endY h hj, a2, b2, d2]
theorem ag_near {pa : gPA} {pl ql : gPL} {n a b : Nat} {m : Int64} (h : AG n pl ql) (ha : a < n) (hb : b < n) : q_near pa pl a b m = q_near pa ql a b m := by
  obtain ⟨a1, b1, c1, d1⟩ := h a ha
  obtain ⟨a2, b2, c2, d2⟩ := h b hb
  unfold q_near
  rw [ag_endX h ha, ag_endX h hb, ag_endY h ha, ag_endY h hb, a1, b1, d1, a2, b2, d2]
theorem ag_far {pa : gPA} {pl ql : gPL} {li : gLI} {n j k : Nat} (h : AG n pl ql) (hk : li.2.2.2.2.2.1 k < n ∧ li.2.2.2.2.2.2.1 k < n) : q_tooFar pa pl li j k = q_tooFar pa ql li j k := by
  unfold q_tooFar
  rw [ag_near h hk.1 hk.2]
theorem ag_well {bm : gBM} {pa : gPA} {pl ql : gPL} {li : gLI} (h : AG pa.2.2.2.2.2.2 pl ql) (hN : ∀ k, k < li.2.2.2.2.2.2.2.2.2 → li.2.2.2.2.2.1 k < pa.2.2.2.2.2.2 ∧ li.2.2.2.2.2.2.1 k < pa.2.2.2.2.2.2) {j : Nat} (hj : j < pa.2.2.2.2.2.2) (hw : q_well bm pa ql li j = true) : q_well bm pa pl li j = true := by
  rw [q_well_iff] at hw ⊢
  obtain ⟨a, b, c, d⟩ := h j hj
  intro hp
  obtain ⟨w1, w2, w3, w4⟩ := hw (d ▸ hp)
  refine ⟨by rw [a, b, c]; exact w1, fun i hi => ?_, fun k hk => ?_, fun k hk => ?_⟩
  · rw [ag_ov h hi hj]; exact w2 i hi
  · rw [ag_tall h hj]; exact w3 k hk
  · rw [ag_far h (hN k hk)]; exact w4 k hk
theorem ag_copy (f t : gPL) (n : Nat) : AG n (q_copyU f t n) f := by
  intro i hi
  unfold q_copyU
  simp [hi]
theorem q_differs_no {pl ql : gPL} {i : Nat} (h : q_differs pl ql i = false) : pl.1 i = ql.1 i ∧ pl.2.1 i = ql.2.1 i ∧ pl.2.2.1 i = ql.2.2.1 i ∧ pl.2.2.2 i = ql.2.2.2 i := by
  unfold q_differs at h
  simp only [Bool.or_eq_false_iff, decide_eq_false_iff_not, Decidable.not_not] at h
  exact ⟨h.1.1.1, h.1.1.2, h.1.2, h.2⟩
theorem ov_symm {pa : gPA} {pl : gPL} {i j : Nat} (hi : pl.2.2.2 i = true) (hj : pl.2.2.2 j = true) (h : q_ov pa pl i j = false) : q_ov pa pl j i = false := by
  cases hv : q_ov pa pl j i with
  | false => rfl
  | true =>
    exfalso
    unfold q_ov q_meets at hv h
    simp only [Bool.and_eq_true, decide_eq_true_eq, hi, true_and] at hv
    obtain ⟨⟨h1, h2⟩, ⟨⟨h3, h4⟩, h5⟩, h6⟩ := hv
    have : (decide (j ≠ i) && decide (pa.2.2.1 j = pa.2.2.1 i) && (pl.2.2.2 j && decide (pl.1 j < q_endX pa pl i) && decide (pl.1 i < q_endX pa pl j) && decide (pl.2.1 j < q_endY pa pl i) && decide (pl.2.1 i < q_endY pa pl j))) = true := by
      simp [hj, h2, h3, h4, h5, h6, Ne.symm h1]
    rw [this] at h
    cases h
theorem ov_placed {pa : gPA} {pl : gPL} {i j : Nat} (hi : pl.2.2.2 i = false) : q_ov pa pl j i = false := by
  unfold q_ov q_meets
  simp [hi]
/-- what was changed stands well, all stood well before: all stand well -/
theorem all_keep {bm : gBM} {pa : gPA} {pl ql : gPL} {li : gLI} (hW : ∀ j, j < pa.2.2.2.2.2.2 → q_well bm pa ql li j = true) (hN : ∀ k, k < li.2.2.2.2.2.2.2.2.2 → li.2.2.2.2.2.1 k < pa.2.2.2.2.2.2 ∧ li.2.2.2.2.2.2.1 k < pa.2.2.2.2.2.2) (hB : ∀ j, j < pa.2.2.2.2.2.2 → q_differs pl ql j = true → q_well bm pa pl li j = true) : ∀ j, j < pa.2.2.2.2.2.2 → q_well bm pa pl li j = true := by
  intro j hj
  cases hd : q_differs pl ql j with
  | true => exact hB j hj hd
  | false =>
    obtain ⟨a, b, c, d⟩ := q_differs_no hd
    have hw := hW j hj
    rw [q_well_iff] at hw ⊢
    intro hp
    obtain ⟨w1, w2, w3, w4⟩ := hw (d ▸ hp)
    have hAj : AG (j + 1) (pl.1, pl.2.1, pl.2.2.1, pl.2.2.2) (pl.1, pl.2.1, pl.2.2.1, pl.2.2.2) := fun _ _ => ⟨rfl, rfl, rfl, rfl⟩
    have eX : q_endX pa pl j = q_endX pa ql j := by unfold q_endX; rw [a, c]
    have eY : q_endY pa pl j = q_endY pa ql j := by unfold q_endY; rw [b, c]
    refine ⟨by rw [a, b, c]; exact w1, fun i hi => ?_, fun k hk => ?_, fun k hk => ?_⟩
    · cases hpi : pl.2.2.2 i with
      | false => exact ov_placed hpi
      | true =>
        cases hdi : q_differs pl ql i with
        | true =>
          have hwi := hB i hi hdi
          rw [q_well_iff] at hwi
          exact ov_symm hpi hp ((hwi hpi).2.1 j hj)
        | false =>
          obtain ⟨a', b', c', d'⟩ := q_differs_no hdi
          have := w2 i hi
          have eX' : q_endX pa pl i = q_endX pa ql i := by unfold q_endX; rw [a', c']
          have eY' : q_endY pa pl i = q_endY pa ql i := by unfold q_endY; rw [b', c']
          unfold q_ov q_meets at this ⊢
          rw [eX, eY, eX', eY', a, b, a', b', d']
          exact this
    · have := w3 k hk
      unfold q_tooTall q_meets at this ⊢
      rw [eX, eY, a, b, d]
      exact this
    · have h4 := w4 k hk
      obtain ⟨n1, n2⟩ := hN k hk
      cases hfar : q_tooFar pa pl li j k with
      | false => rfl
      | true =>
        exfalso
        unfold q_tooFar at hfar
        simp only [Bool.and_eq_true, Bool.or_eq_true, decide_eq_true_eq, Bool.not_eq_true'] at hfar
        obtain ⟨hjk, hnf⟩ := hfar
        have hplA : pl.2.2.2 (li.2.2.2.2.2.1 k) = true := by
          cases hq : pl.2.2.2 (li.2.2.2.2.2.1 k) with
          | true => rfl
          | false => unfold q_near at hnf; simp [hq] at hnf
        have hplB : pl.2.2.2 (li.2.2.2.2.2.2.1 k) = true := by
          cases hq : pl.2.2.2 (li.2.2.2.2.2.2.1 k) with
          | true => rfl
          | false => unfold q_near at hnf; simp [hq] at hnf
        cases hdA : q_differs pl ql (li.2.2.2.2.2.1 k) with
        | true =>
          have hwA := hB _ n1 hdA
          rw [q_well_iff] at hwA
          have := (hwA hplA).2.2.2 k hk
          unfold q_tooFar at this
          simp [hnf] at this
        | false =>
          cases hdB : q_differs pl ql (li.2.2.2.2.2.2.1 k) with
          | true =>
            have hwB := hB _ n2 hdB
            rw [q_well_iff] at hwB
            have := (hwB hplB).2.2.2 k hk
            unfold q_tooFar at this
            simp [hnf] at this
          | false =>
            obtain ⟨p1, p2, p3, p4⟩ := q_differs_no hdA
            obtain ⟨r1, r2, r3, r4⟩ := q_differs_no hdB
            have e : q_near pa pl (li.2.2.2.2.2.1 k) (li.2.2.2.2.2.2.1 k) (li.2.2.2.2.2.2.2.1 k) = q_near pa ql (li.2.2.2.2.2.1 k) (li.2.2.2.2.2.2.1 k) (li.2.2.2.2.2.2.2.1 k) := by
              have f1 : q_endX pa pl (li.2.2.2.2.2.1 k) = q_endX pa ql (li.2.2.2.2.2.1 k) := by unfold q_endX; rw [p1, p3]
              have f2 : q_endY pa pl (li.2.2.2.2.2.1 k) = q_endY pa ql (li.2.2.2.2.2.1 k) := by unfold q_endY; rw [p2, p3]
              have f3 : q_endX pa pl (li.2.2.2.2.2.2.1 k) = q_endX pa ql (li.2.2.2.2.2.2.1 k) := by unfold q_endX; rw [r1, r3]
              have f4 : q_endY pa pl (li.2.2.2.2.2.2.1 k) = q_endY pa ql (li.2.2.2.2.2.2.1 k) := by unfold q_endY; rw [r2, r3]
              unfold q_near
              rw [f1, f2, f3, f4, p1, p2, p4, r1, r2, r4]
            rw [e] at hnf
            unfold q_tooFar at h4
            simp only [hnf, Bool.not_false, Bool.and_true, Bool.or_eq_false_iff, decide_eq_false_iff_not] at h4
            rcases hjk with h | h
            · exact h4.1 h
            · exact h4.2 h
theorem INV_keep {bm : gBM} {pa : gPA} {pl ql : gPL} {li : gLI} (hW : ∀ j, j < pa.2.2.2.2.2.2 → q_well bm pa ql li j = true) (hN : ∀ k, k < li.2.2.2.2.2.2.2.2.2 → li.2.2.2.2.2.1 k < pa.2.2.2.2.2.2 ∧ li.2.2.2.2.2.2.1 k < pa.2.2.2.2.2.2) (hp : ∀ i, pa.2.2.2.2.2.2 ≤ i → pl.2.2.2 i = false) (hB : ∀ j, j < pa.2.2.2.2.2.2 → q_differs pl ql j = true → q_well bm pa pl li j = true) : INV bm pa pl li :=
  ⟨all_keep hW hN hB, hN, hp⟩
theorem INV_ag {bm : gBM} {pa : gPA} {pl ql : gPL} {li : gLI} (hW : ∀ j, j < pa.2.2.2.2.2.2 → q_well bm pa ql li j = true) (hN : ∀ k, k < li.2.2.2.2.2.2.2.2.2 → li.2.2.2.2.2.1 k < pa.2.2.2.2.2.2 ∧ li.2.2.2.2.2.2.1 k < pa.2.2.2.2.2.2) (hp : ∀ i, pa.2.2.2.2.2.2 ≤ i → pl.2.2.2 i = false) (h : AG pa.2.2.2.2.2.2 pl ql) : INV bm pa pl li :=
  ⟨fun j hj => ag_well h hN hj (hW j hj), hN, hp⟩
theorem copy_out {f t : gPL} {n : Nat} (h : ∀ i, n ≤ i → t.2.2.2 i = false) : ∀ i, n ≤ i → (q_copyU f t n).2.2.2 i = false := by
  intro i hi
  show (if i < n then f.2.2.2 i else t.2.2.2 i) = false
  rw [if_neg (Nat.not_lt.mpr hi)]
  exact h i hi
theorem well_copy {bm : gBM} {pa : gPA} {pl t : gPL} {li : gLI} (h : INV bm pa pl li) : ∀ j, j < pa.2.2.2.2.2.2 → q_well bm pa (q_copyU pl t pa.2.2.2.2.2.2) li j = true :=
  fun j hj => ag_well (ag_copy pl t _) h.2.1 hj (h.1 j hj)
theorem INV_back {bm : gBM} {pa : gPA} {pl ql : gPL} {li : gLI} (hW : ∀ j, j < pa.2.2.2.2.2.2 → q_well bm pa ql li j = true) (hN : ∀ k, k < li.2.2.2.2.2.2.2.2.2 → li.2.2.2.2.2.1 k < pa.2.2.2.2.2.2 ∧ li.2.2.2.2.2.2.1 k < pa.2.2.2.2.2.2) (hp : ∀ i, pa.2.2.2.2.2.2 ≤ i → pl.2.2.2 i = false) : INV bm pa (q_copyU ql pl pa.2.2.2.2.2.2) li :=
  INV_ag hW hN (copy_out hp) (ag_copy ql pl _)
theorem q_count_0 {c : Nat → Bool} : ∀ {n : Nat}, q_count c n = 0 → ∀ i, i < n → c i = false := by
  intro n
  induction n with
  | zero => intro _ i hi; omega
  | succ n ih =>
    intro h i hi
    have h' : q_count c n + (if c n then 1 else 0) = 0 := h
    rcases Nat.lt_or_eq_of_le (Nat.le_of_lt_succ hi) with h1 | h1
    · exact ih (by omega) i h1
    · rw [h1]
      cases hc : c n with
      | false => rfl
      | true => rw [hc] at h'; simp at h'
theorem ag_changed {pl ql : gPL} {n : Nat} (hn : n ≤ 40) (h : q_count (q_changed pl ql (-1)) n = 0) : AG n pl ql := by
  intro i hi
  have := q_count_0 h i hi
  unfold q_changed at this
  have e : ¬ nI i = -1 := bm_nm1 (by omega)
  simp only [e, not_false_eq_true, decide_true, Bool.true_and] at this
  exact q_differs_no this
theorem INV_cg {bm bm' : gBM} {pa pa' : gPA} {pl : gPL} {li : gLI} (b1 : bm'.1 = bm.1) (b2 : bm'.2.1 = bm.2.1) (p1 : pa'.1 = pa.1) (p2 : pa'.2.1 = pa.2.1) (p3 : pa'.2.2.1 = pa.2.2.1) (p4 : pa'.2.2.2.1 = pa.2.2.2.1) (p5 : pa'.2.2.2.2.2.2 = pa.2.2.2.2.2.2) (h : INV bm pa pl li) : INV bm' pa' pl li := by
  have e : ∀ j, q_well bm' pa' pl li j = q_well bm pa pl li j := by
    intro j
    have eX : ∀ j, q_endX pa' pl j = q_endX pa pl j := fun j => by unfold q_endX; rw [p1, p2]
    have eY : ∀ j, q_endY pa' pl j = q_endY pa pl j := fun j => by unfold q_endY; rw [p1, p2]
    have eM : ∀ j x0 y0 x1 y1, q_meets pa' pl j x0 y0 x1 y1 = q_meets pa pl j x0 y0 x1 y1 := fun j _ _ _ _ => by unfold q_meets; rw [eX, eY]
    have eO : q_ov pa' pl j = q_ov pa pl j := by funext i; unfold q_ov; rw [eM, eX, eY, p3]
    have eT : q_tooTall pa' pl li j = q_tooTall pa pl li j := by funext i; unfold q_tooTall; rw [eM, p4]
    have eN : ∀ a b m, q_near pa' pl a b m = q_near pa pl a b m := fun a b m => by unfold q_near; rw [eX, eX, eY, eY]
    have eF : q_tooFar pa' pl li j = q_tooFar pa pl li j := by funext i; unfold q_tooFar; rw [eN]
    unfold q_well q_fits q_over q_low q_nears
    rw [eO, eT, eF, b1, b2, p1, p2, p5]
  obtain ⟨h1, h2, h3⟩ := h
  refine ⟨fun j hj => ?_, ?_, ?_⟩
  · rw [e]; rw [p5] at hj; exact h1 j hj
  · rw [p5]; exact h2
  · rw [p5]; exact h3
theorem inv_all {bm : gBM} {pa : gPA} {pl : gPL} {li : gLI} (h : INV bm pa pl li) : q_allWell bm pa pl li = true := by
  unfold q_allWell
  rw [q_find_none]
  intro o _ h2
  rw [h.1 o (by omega)]
  rfl
theorem all_inv {bm : gBM} {pa : gPA} {pl : gPL} {li : gLI} (h : q_allWell bm pa pl li = true) : ∀ j, j < pa.2.2.2.2.2.2 → q_well bm pa pl li j = true := by
  unfold q_allWell at h
  rw [q_find_none] at h
  intro j hj
  have := h j (Nat.zero_le _) (by omega)
  simpa using this
/-- one part more, not placed -/
theorem INV_part {bm : gBM} {pa : gPA} {pl : gPL} {li : gLI} {a b : Int64} {s : Nat} {lo : Nat → Bool} {lw : Nat → Nat} (h : INV bm pa pl li) : INV bm (va_up pa.1 pa.2.2.2.2.2.2 a, va_up pa.2.1 pa.2.2.2.2.2.2 b, va_up pa.2.2.1 pa.2.2.2.2.2.2 s, pa.2.2.2.1, lo, lw, pa.2.2.2.2.2.2 + 1) pl li := by
  obtain ⟨h1, h2, h3⟩ := h
  generalize hn : pa.2.2.2.2.2.2 = n at *
  have eX : ∀ (f : Nat → Bool) (g : Nat → Nat) (m j : Nat), j < n → q_endX (va_up pa.1 n a, va_up pa.2.1 n b, va_up pa.2.2.1 n s, pa.2.2.2.1, f, g, m) pl j = q_endX pa pl j := by
    intro f g m j hj
    have : ¬ j = n := by omega
    simp [q_endX, va_up, this]
  have eY : ∀ (f : Nat → Bool) (g : Nat → Nat) (m j : Nat), j < n → q_endY (va_up pa.1 n a, va_up pa.2.1 n b, va_up pa.2.2.1 n s, pa.2.2.2.1, f, g, m) pl j = q_endY pa pl j := by
    intro f g m j hj
    have : ¬ j = n := by omega
    simp [q_endY, va_up, this]
  refine ⟨fun j hj => ?_, fun k hk => ?_, fun i hi => h3 i (Nat.le_of_succ_le hi)⟩
  · have hj' : j < n + 1 := hj
    rw [q_well_iff]
    intro hp
    rcases Nat.lt_or_eq_of_le (Nat.le_of_lt_succ hj') with hjn | hjn
    · have hw := h1 j hjn
      rw [q_well_iff] at hw
      obtain ⟨w1, w2, w3, w4⟩ := hw hp
      have hjne : ¬ j = n := by omega
      refine ⟨?_, fun i hi => ?_, fun k hk => ?_, fun k hk => ?_⟩
      · unfold q_fits at w1 ⊢
        simpa [va_up, hjne] using w1
      · have hi' : i < n + 1 := hi
        rcases Nat.lt_or_eq_of_le (Nat.le_of_lt_succ hi') with hin | hin
        · have := w2 i (by rw [hn]; exact hin)
          have hine : ¬ i = n := by omega
          unfold q_ov q_meets at this ⊢
          rw [eX _ _ _ _ hjn, eX _ _ _ _ hin, eY _ _ _ _ hjn, eY _ _ _ _ hin]
          simpa [va_up, hjne, hine] using this
        · exact ov_placed (by rw [hin]; exact h3 n (Nat.le_refl _))
      · have := w3 k hk
        unfold q_tooTall q_meets at this ⊢
        rw [eX _ _ _ _ hjn, eY _ _ _ _ hjn]
        exact this
      · have := w4 k hk
        obtain ⟨n1, n2⟩ := h2 k hk
        unfold q_tooFar q_near at this ⊢
        rw [eX _ _ _ _ n1, eX _ _ _ _ n2, eY _ _ _ _ n1, eY _ _ _ _ n2]
        exact this
    · rw [hjn, h3 n (Nat.le_refl _)] at hp
      cases hp
  · obtain ⟨n1, n2⟩ := h2 k hk
    exact ⟨Nat.lt_succ_of_lt n1, Nat.lt_succ_of_lt n2⟩
/-- a part gets another height and stands well with it -/
theorem INV_tall {bm : gBM} {pa : gPA} {pl : gPL} {li : gLI} {j : Nat} {t : Int64} (h : INV bm pa pl li) (hw : q_well bm (pa.1, pa.2.1, pa.2.2.1, va_up pa.2.2.2.1 j t, pa.2.2.2.2.1, pa.2.2.2.2.2.1, pa.2.2.2.2.2.2) pl li j = true) : INV bm (pa.1, pa.2.1, pa.2.2.1, va_up pa.2.2.2.1 j t, pa.2.2.2.2.1, pa.2.2.2.2.2.1, pa.2.2.2.2.2.2) pl li := by
  obtain ⟨h1, h2, h3⟩ := h
  refine ⟨fun i hi => ?_, h2, h3⟩
  by_cases hij : i = j
  · rw [hij]; exact hw
  · have hx := h1 i hi
    rw [q_well_iff] at hx ⊢
    intro hp
    obtain ⟨w1, w2, w3, w4⟩ := hx hp
    refine ⟨w1, w2, fun k hk => ?_, w4⟩
    have := w3 k hk
    unfold q_tooTall q_meets q_endX q_endY at this ⊢
    simpa [va_up, hij] using this
theorem up_back {f : Nat → Int64} {j : Nat} {t : Int64} : va_up (va_up f j t) j (f j) = f := by
  funext i
  unfold va_up
  by_cases h : i = j
  · simp [h]
  · simp [h]
theorem INV_near {bm : gBM} {pa : gPA} {pl : gPL} {li : gLI} {a b : Nat} {t : Int64} (h : INV bm pa pl li) (ha : a < pa.2.2.2.2.2.2) (hb : b < pa.2.2.2.2.2.2) (hn : q_near pa pl a b t = true) : INV bm pa pl (li.1, li.2.1, li.2.2.1, li.2.2.2.1, li.2.2.2.2.1, va_up li.2.2.2.2.2.1 li.2.2.2.2.2.2.2.2.2 a, va_up li.2.2.2.2.2.2.1 li.2.2.2.2.2.2.2.2.2 b, va_up li.2.2.2.2.2.2.2.1 li.2.2.2.2.2.2.2.2.2 t, li.2.2.2.2.2.2.2.2.1, li.2.2.2.2.2.2.2.2.2 + 1) := by
  obtain ⟨h1, h2, h3⟩ := h
  refine ⟨fun j hj => ?_, fun k hk => ?_, h3⟩
  · have hx := h1 j hj
    rw [q_well_iff] at hx ⊢
    intro hp
    obtain ⟨w1, w2, w3, w4⟩ := hx hp
    refine ⟨w1, w2, w3, fun k hk => ?_⟩
    have hk' : k < li.2.2.2.2.2.2.2.2.2 + 1 := hk
    by_cases e : k = li.2.2.2.2.2.2.2.2.2
    · unfold q_tooFar
      simp [va_up, e, hn]
    · have := w4 k (by omega)
      unfold q_tooFar at this ⊢
      simpa [va_up, e] using this
  · have hk' : k < li.2.2.2.2.2.2.2.2.2 + 1 := hk
    by_cases e : k = li.2.2.2.2.2.2.2.2.2
    · simp [va_up, e, ha, hb]
    · have := h2 k (by omega)
      simpa [va_up, e] using this
theorem INV_ko {bm : gBM} {pa : gPA} {pl : gPL} {li li' : gLI} (h : INV bm pa pl li) (e1 : li'.2.2.2.2.2.1 = li.2.2.2.2.2.1) (e2 : li'.2.2.2.2.2.2.1 = li.2.2.2.2.2.2.1) (e3 : li'.2.2.2.2.2.2.2.2.2 = li.2.2.2.2.2.2.2.2.2) (hw : q_allWell bm pa pl li' = true) : INV bm pa pl li' := by
  refine ⟨all_inv hw, ?_, h.2.2⟩
  rw [e1, e2, e3]
  exact h.2.1
theorem INV_kod {bm : gBM} {pa : gPA} {pl : gPL} {li : gLI} {a b c d t : Int64} (h : INV bm pa pl li) : INV bm pa pl (va_up li.1 li.2.2.2.2.2.2.2.2.1 a, va_up li.2.1 li.2.2.2.2.2.2.2.2.1 b, va_up li.2.2.1 li.2.2.2.2.2.2.2.2.1 c, va_up li.2.2.2.1 li.2.2.2.2.2.2.2.2.1 d, va_up li.2.2.2.2.1 li.2.2.2.2.2.2.2.2.1 t, li.2.2.2.2.2.1, li.2.2.2.2.2.2.1, li.2.2.2.2.2.2.2.1, li.2.2.2.2.2.2.2.2.1, li.2.2.2.2.2.2.2.2.2) := by
  obtain ⟨h1, h2, h3⟩ := h
  refine ⟨fun j hj => ?_, h2, h3⟩
  have hx := h1 j hj
  rw [q_well_iff] at hx ⊢
  intro hp
  obtain ⟨w1, w2, w3, w4⟩ := hx hp
  refine ⟨w1, w2, fun k hk => ?_, w4⟩
  have hk' : k < li.2.2.2.2.2.2.2.2.1 := hk
  have := w3 k hk'
  have e : ¬ k = li.2.2.2.2.2.2.2.2.1 := by omega
  unfold q_tooTall at this ⊢
  simpa [va_up, e] using this
theorem up_out {f : Nat → Bool} {n j : Nat} (h : ∀ i, n ≤ i → f i = false) (hj : j < n) {b : Bool} : ∀ i, n ≤ i → va_up f j b i = false := by
  intro i hi
  unfold va_up
  have e : ¬ i = j := by omega
  simp [e, h i hi]
theorem bx_ext {P : Nat → Prop} {i : Nat} (h : ∀ j, j < i → P j) (hi : P i) : ∀ j, j < i + 1 → P j := by
  intro j hj
  rcases Nat.lt_or_eq_of_le (Nat.le_of_lt_succ hj) with h1 | h1
  · exact h j h1
  · rw [h1]; exact hi
theorem INV_to {bm bm' : gBM} {pa pa' : gPA} {pl : gPL} {li : gLI} (h : INV bm pa pl li) (b1 : bm'.1 = bm.1) (b2 : bm'.2.1 = bm.2.1) (p1 : pa'.1 = pa.1) (p2 : pa'.2.1 = pa.2.1) (p3 : pa'.2.2.1 = pa.2.2.1) (p4 : pa'.2.2.2.1 = pa.2.2.2.1) (p5 : pa'.2.2.2.2.2.2 = pa.2.2.2.2.2.2) : INV bm' pa' pl li :=
  INV_cg b1 b2 p1 p2 p3 p4 p5 h
theorem INV_tallb {bm : gBM} {pa : gPA} {pl : gPL} {li : gLI} {j : Nat} {t : Int64} (h : INV bm pa pl li) : INV bm (pa.1, pa.2.1, pa.2.2.1, va_up (va_up pa.2.2.2.1 j t) j (pa.2.2.2.1 j), pa.2.2.2.2.1, pa.2.2.2.2.2.1, pa.2.2.2.2.2.2) pl li := by
  rw [up_back]
  exact h
theorem copy_same {f t : gPL} {n : Nat} : ∀ i, n ≤ i → (q_copyU f t n).2.2.2 i = t.2.2.2 i := by
  intro i hi
  show (if i < n then f.2.2.2 i else t.2.2.2 i) = t.2.2.2 i
  rw [if_neg (Nat.not_lt.mpr hi)]
theorem INV_fresh {bm : gBM} : INV bm fPA fPL fLI :=
  ⟨fun _ hj => absurd hj (Nat.not_lt_zero _), fun _ hk => absurd hk (Nat.not_lt_zero _), fun _ _ => rfl⟩
