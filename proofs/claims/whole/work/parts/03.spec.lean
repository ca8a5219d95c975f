-- THE STATE OF THE CLASS, in groups: Parts, Placement, Limits, Wiring, the board's own numbers
abbrev gPA : Type := (Nat → Int64) × (Nat → Int64) × (Nat → Nat) × (Nat → Int64) × (Nat → Bool) × (Nat → Nat) × Nat
abbrev gPL : Type := (Nat → Int64) × (Nat → Int64) × (Nat → Nat) × (Nat → Bool)
abbrev gLI : Type := (Nat → Int64) × (Nat → Int64) × (Nat → Int64) × (Nat → Int64) × (Nat → Int64) × (Nat → Nat) × (Nat → Nat) × (Nat → Int64) × Nat × Nat
abbrev gWI : Type := (Nat → Nat) × (Nat → Nat) × (Nat → Int64) × (Nat → Int64) × (Nat → Bool) × (Nat → Int64) × (Nat → Int64) × (Nat → Int64) × (Nat → Int64) × Nat × Nat
abbrev gBM : Type := Int64 × Int64 × Int64 × Int64
-- what keeps every index in its array
def q_okA (pa : gPA) : Prop := pa.2.2.2.2.2.2 ≤ 40 ∧ (∀ i, pa.2.2.1 i < 40) ∧ (∀ i, pa.2.2.2.2.2.1 i < 40)
def q_okL (pl : gPL) : Prop := ∀ i, pl.2.2.1 i < 40
def q_okI (li : gLI) : Prop := (∀ i, li.2.2.2.2.2.1 i < 40) ∧ (∀ i, li.2.2.2.2.2.2.1 i < 40) ∧ li.2.2.2.2.2.2.2.2.1 ≤ 10 ∧ li.2.2.2.2.2.2.2.2.2 ≤ 20
def q_okW (wi : gWI) : Prop := (∀ i, wi.1 i < 40) ∧ (∀ i, wi.2.1 i < 40) ∧ wi.2.2.2.2.2.2.2.2.2.1 ≤ 40 ∧ wi.2.2.2.2.2.2.2.2.2.2 ≤ 120
theorem bm40 {a : Nat} (h : a < 40) : a < 2 ^ 31 := Nat.lt_trans h (by decide)
-- searches
def q_find (c : Nat → Bool) : Nat → Nat → Option Nat
  | 0, _ => none
  | k + 1, i => if c i then some i else q_find c k (i + 1)
def q_opt (o : Option Nat) : Int32 := match o with
  | none => -1
  | some i => nI i
theorem q_find_no {c : Nat → Bool} {k i : Nat} (h : c i = false) : q_find c (k + 1) i = q_find c k (i + 1) := by simp [q_find, h]
theorem q_find_yes {c : Nat → Bool} {k i : Nat} (h : c i = true) : q_find c (k + 1) i = some i := by simp [q_find, h]
theorem q_find_end {c : Nat → Bool} {n i : Nat} (h : ¬ i < n) : q_find c (n - i) i = none := by
  have e : n - i = 0 := by omega
  rw [e]; rfl
theorem q_find_go {c : Nat → Bool} {n i : Nat} (h : i < n) (hc : c i = false) : q_find c (n - (i + 1)) (i + 1) = q_find c (n - i) i := by
  have e : n - i = (n - (i + 1)) + 1 := by omega
  rw [e, q_find_no hc]
theorem q_find_hit {c : Nat → Bool} {n i : Nat} (h : i < n) (hc : c i = true) : q_find c (n - i) i = some i := by
  have e : n - i = (n - (i + 1)) + 1 := by omega
  rw [e, q_find_yes hc]
-- readers
def q_mates (pa : gPA) (a b : Nat) : Bool := decide (pa.2.2.2.2.2.1 a = pa.2.2.2.2.2.1 b)
def q_endX (pa : gPA) (pl : gPL) (j : Nat) : Int64 := pl.1 j + (if pl.2.2.1 j % 2 = 0 then pa.1 j else pa.2.1 j)
def q_endY (pa : gPA) (pl : gPL) (j : Nat) : Int64 := pl.2.1 j + (if pl.2.2.1 j % 2 = 0 then pa.2.1 j else pa.1 j)
def q_meets (pa : gPA) (pl : gPL) (j : Nat) (x0 y0 x1 y1 : Int64) : Bool := pl.2.2.2 j && decide (pl.1 j < x1) && decide (x0 < q_endX pa pl j) && decide (pl.2.1 j < y1) && decide (y0 < q_endY pa pl j)
def q_ov (pa : gPA) (pl : gPL) (j i : Nat) : Bool := decide (i ≠ j) && decide (pa.2.2.1 i = pa.2.2.1 j) && q_meets pa pl i (pl.1 j) (pl.2.1 j) (q_endX pa pl j) (q_endY pa pl j)
def q_over (pa : gPA) (pl : gPL) (j from9 : Nat) : Option Nat := q_find (q_ov pa pl j) (pa.2.2.2.2.2.2 - from9) from9
def q_first (pa : gPA) (pl : gPL) : Option Nat := q_find (fun i => pl.2.2.2 i && (q_over pa pl i (i + 1)).isSome) (pa.2.2.2.2.2.2 - 0) 0
def q_mateP (pa : gPA) (pl : gPL) (j i : Nat) : Bool := decide (i ≠ j) && pl.2.2.2 i && q_mates pa i j
def q_hasMate (pa : gPA) (pl : gPL) (j : Nat) : Bool := (q_find (q_mateP pa pl j) (pa.2.2.2.2.2.2 - 0) 0).isSome
def q_differs (pl ql : gPL) (j : Nat) : Bool := decide (¬ pl.1 j = ql.1 j) || decide (¬ pl.2.1 j = ql.2.1 j) || decide (¬ pl.2.2.1 j = ql.2.2.1 j) || decide (¬ pl.2.2.2 j = ql.2.2.2 j)
theorem q_find_lt {c : Nat → Bool} : ∀ {k i o : Nat}, q_find c k i = some o → i ≤ o ∧ o < i + k ∧ c o = true := by
  intro k
  induction k with
  | zero => intro i o h; simp [q_find] at h
  | succ k ih =>
    intro i o h
    by_cases hc : c i = true
    · rw [q_find_yes hc] at h
      cases h
      exact ⟨Nat.le_refl _, by omega, hc⟩
    · have hf : c i = false := by simpa using hc
      rw [q_find_no hf] at h
      obtain ⟨a1, a2, a3⟩ := ih h
      exact ⟨by omega, by omega, a3⟩
theorem q_over_lt {pa : gPA} {pl : gPL} {j f o : Nat} (h : q_over pa pl j f = some o) : o < pa.2.2.2.2.2.2 := by
  have := q_find_lt h
  omega
theorem q_first_lt {pa : gPA} {pl : gPL} {o : Nat} (h : q_first pa pl = some o) : o < pa.2.2.2.2.2.2 := by
  have := q_find_lt h
  omega
theorem bm_nm1 {a : Nat} (h : a < 2 ^ 31) : ¬ nI a = -1 := by
  intro q
  have h1 := nI_toInt h
  rw [q] at h1
  have h2 : (-1 : Int32).toInt = -1 := by decide
  omega
def q_way (pa : gPA) (pl : gPL) (g t : Nat) (ax up : Bool) : Int64 := if ax then (if up then q_endX pa pl t - pl.1 g else pl.1 t - q_endX pa pl g) else (if up then q_endY pa pl t - pl.2.1 g else pl.2.1 t - q_endY pa pl g)
def q_near (pa : gPA) (pl : gPL) (a b : Nat) (most : Int64) : Bool := !pl.2.2.2 a || !pl.2.2.2 b || !decide (most < q_max 0 (q_max (pl.1 a) (pl.1 b) - q_min (q_endX pa pl a) (q_endX pa pl b)) + q_max 0 (q_max (pl.2.1 a) (pl.2.1 b) - q_min (q_endY pa pl a) (q_endY pa pl b)))
def q_tooTall (pa : gPA) (pl : gPL) (li : gLI) (j i : Nat) : Bool := decide (li.2.2.2.2.1 i < pa.2.2.2.1 j) && q_meets pa pl j (li.1 i) (li.2.1 i) (li.2.2.1 i) (li.2.2.2.1 i)
def q_low (pa : gPA) (pl : gPL) (li : gLI) (j : Nat) : Bool := (q_find (q_tooTall pa pl li j) (li.2.2.2.2.2.2.2.2.1 - 0) 0).isNone
def q_tooFar (pa : gPA) (pl : gPL) (li : gLI) (j i : Nat) : Bool := (decide (li.2.2.2.2.2.1 i = j) || decide (li.2.2.2.2.2.2.1 i = j)) && !q_near pa pl (li.2.2.2.2.2.1 i) (li.2.2.2.2.2.2.1 i) (li.2.2.2.2.2.2.2.1 i)
def q_nears (pa : gPA) (pl : gPL) (li : gLI) (j : Nat) : Bool := (q_find (q_tooFar pa pl li j) (li.2.2.2.2.2.2.2.2.2 - 0) 0).isNone
def q_len (x : Int64) : Bool := !decide (x < 1) && !decide (65536 < x)
def q_fits (bm : gBM) (pa : gPA) (j : Nat) (x y : Int64) (t : Nat) : Bool := !decide (x < 0) && !decide (bm.1 - (if t % 2 = 0 then pa.1 j else pa.2.1 j) < x) && !decide (y < 0) && !decide (bm.2.1 - (if t % 2 = 0 then pa.2.1 j else pa.1 j) < y)
def q_well (bm : gBM) (pa : gPA) (pl : gPL) (li : gLI) (j : Nat) : Bool := !pl.2.2.2 j || (q_fits bm pa j (pl.1 j) (pl.2.1 j) (pl.2.2.1 j) && (q_over pa pl j 0).isNone && q_low pa pl li j && q_nears pa pl li j)
def q_allWell (bm : gBM) (pa : gPA) (pl : gPL) (li : gLI) : Bool := (q_find (fun i => !q_well bm pa pl li i) (pa.2.2.2.2.2.2 - 0) 0).isNone
def q_count (c : Nat → Bool) : Nat → Nat
  | 0 => 0
  | k + 1 => q_count c k + (if c k then 1 else 0)
def q_changed (pl ql : gPL) (x : Int32) (i : Nat) : Bool := decide (¬ nI i = x) && q_differs pl ql i
theorem q_count_le (c : Nat → Bool) : ∀ k, q_count c k ≤ k := by
  intro k
  induction k with
  | zero => exact Nat.le_refl 0
  | succ k ih => simp only [q_count]; split <;> omega
def q_goes (pa : gPA) (pl : gPL) (lo hi pu : Nat) (ax up : Bool) : Bool := if q_mates pa lo pu then false else if q_mates pa hi pu then true else if up then decide ((if ax then pl.1 hi else pl.2.1 hi) < (if ax then pl.1 lo else pl.2.1 lo)) else decide ((if ax then pl.1 lo else pl.2.1 lo) < (if ax then pl.1 hi else pl.2.1 hi))
