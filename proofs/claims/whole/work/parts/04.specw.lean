-- WRITERS: what they make of the groups
def q_shiftU (pa : gPA) (pl : gPL) (j : Nat) (dx dy : Int64) (u : Nat) : gPL := (fun i => if i < u ∧ pl.2.2.2 i = true ∧ q_mates pa i j = true then pl.1 i + dx else pl.1 i, fun i => if i < u ∧ pl.2.2.2 i = true ∧ q_mates pa i j = true then pl.2.1 i + dy else pl.2.1 i, pl.2.2.1, pl.2.2.2)
abbrev q_shift (pa : gPA) (pl : gPL) (j : Nat) (dx dy : Int64) : gPL := q_shiftU pa pl j dx dy pa.2.2.2.2.2.2
theorem q_shift_0 (pa : gPA) (pl : gPL) (j : Nat) (dx dy : Int64) : pl = q_shiftU pa pl j dx dy 0 := by
  unfold q_shiftU
  simp
theorem q_shift_hit {pa : gPA} {pl : gPL} {j : Nat} {dx dy : Int64} {u : Nat} (h1 : pl.2.2.2 u = true) (h2 : q_mates pa u j = true) :
    ((va_up (q_shiftU pa pl j dx dy u).1 u ((q_shiftU pa pl j dx dy u).1 u + dx), va_up (q_shiftU pa pl j dx dy u).2.1 u ((q_shiftU pa pl j dx dy u).2.1 u + dy), (q_shiftU pa pl j dx dy u).2.2.1, (q_shiftU pa pl j dx dy u).2.2.2) : gPL) = q_shiftU pa pl j dx dy (u + 1) := by
  unfold q_shiftU
  simp only [Prod.mk.injEq, and_true]
  constructor
  · funext i
    by_cases hi : i = u
    · subst hi; simp [va_up, h1, h2]
    · have e : (i < u + 1) = (i < u) := by simp only [eq_iff_iff]; omega
      simp [va_up, hi, e]
  · funext i
    by_cases hi : i = u
    · subst hi; simp [va_up, h1, h2]
    · have e : (i < u + 1) = (i < u) := by simp only [eq_iff_iff]; omega
      simp [va_up, hi, e]
theorem q_shift_miss {pa : gPA} {pl : gPL} {j : Nat} {dx dy : Int64} {u : Nat} (h : ¬ (pl.2.2.2 u = true ∧ q_mates pa u j = true)) : q_shiftU pa pl j dx dy u = q_shiftU pa pl j dx dy (u + 1) := by
  unfold q_shiftU
  simp only [Prod.mk.injEq, and_true]
  constructor
  · funext i
    by_cases hi : i = u
    · subst hi; simp [h]
    · have e : (i < u + 1) = (i < u) := by simp only [eq_iff_iff]; omega
      simp [e]
  · funext i
    by_cases hi : i = u
    · subst hi; simp [h]
    · have e : (i < u + 1) = (i < u) := by simp only [eq_iff_iff]; omega
      simp [e]
def q_copyU (f t : gPL) (u : Nat) : gPL := (fun i => if i < u then f.1 i else t.1 i, fun i => if i < u then f.2.1 i else t.2.1 i, fun i => if i < u then f.2.2.1 i else t.2.2.1 i, fun i => if i < u then f.2.2.2 i else t.2.2.2 i)
theorem q_cpy1 {α : Type} (f t : Nat → α) (u : Nat) : va_up (fun i => if i < u then f i else t i) u (f u) = fun i => if i < u + 1 then f i else t i := by
  funext i
  by_cases hi : i = u
  · subst hi; simp [va_up]
  · have e : (i < u + 1) = (i < u) := by simp only [eq_iff_iff]; omega
    simp [va_up, hi, e]
theorem q_copy_0 (f t : gPL) : t = q_copyU f t 0 := by
  unfold q_copyU
  simp
theorem q_copy_s (f t : gPL) (u : Nat) : ((va_up (q_copyU f t u).1 u (f.1 u), va_up (q_copyU f t u).2.1 u (f.2.1 u), va_up (q_copyU f t u).2.2.1 u (f.2.2.1 u), va_up (q_copyU f t u).2.2.2 u (f.2.2.2 u)) : gPL) = q_copyU f t (u + 1) := by
  unfold q_copyU
  simp only [q_cpy1]
theorem q_okL_copy {f t : gPL} {u : Nat} (h1 : q_okL f) (h2 : q_okL t) : q_okL (q_copyU f t u) := by
  intro i
  show (if i < u then f.2.2.1 i else t.2.2.1 i) < 40
  split
  · exact h1 i
  · exact h2 i
-- joining groups
def q_inG (pa : gPA) (a b i : Nat) : Bool := decide (pa.2.2.2.2.2.1 i = a) || decide (pa.2.2.2.2.2.1 i = b)
def q_joinU (pa : gPA) (a b c u : Nat) : gPA := (pa.1, pa.2.1, pa.2.2.1, pa.2.2.2.1, pa.2.2.2.2.1, fun i => if i < u ∧ q_inG pa a b i = true then c else pa.2.2.2.2.2.1 i, pa.2.2.2.2.2.2)
-- measuring
abbrev gSC : Type := (Nat → Bool) × (Nat → Int64) × (Nat → Int64) × (Nat → Int64) × (Nat → Int64)
def q_sw (wi : gWI) (sc : gSC) : gWI := (wi.1, wi.2.1, wi.2.2.1, wi.2.2.2.1, sc.1, sc.2.1, sc.2.2.1, sc.2.2.2.1, sc.2.2.2.2, wi.2.2.2.2.2.2.2.2.2.1, wi.2.2.2.2.2.2.2.2.2.2)
def q_sc (wi : gWI) : gSC := (wi.2.2.2.2.1, wi.2.2.2.2.2.1, wi.2.2.2.2.2.2.1, wi.2.2.2.2.2.2.2.1, wi.2.2.2.2.2.2.2.2.1)
def q_clr (sc : gSC) (u : Nat) : gSC := (fun i => if i < u then false else sc.1 i, sc.2.1, sc.2.2.1, sc.2.2.2.1, sc.2.2.2.2)
theorem q_clr_0 (wi : gWI) : wi = q_sw wi (q_clr (q_sc wi) 0) := by
  unfold q_sw q_clr q_sc
  simp
theorem q_clr_s (sc : gSC) (u : Nat) : ((va_up (q_clr sc u).1 u false, (q_clr sc u).2.1, (q_clr sc u).2.2.1, (q_clr sc u).2.2.2.1, (q_clr sc u).2.2.2.2) : gSC) = q_clr sc (u + 1) := by
  unfold q_clr
  simp only [Prod.mk.injEq, and_true]
  funext i
  by_cases hi : i = u
  · subst hi; simp [va_up]
  · have e : (i < u + 1) = (i < u) := by simp only [eq_iff_iff]; omega
    simp [va_up, hi, e]
def q_rch (sc : gSC) (k : Nat) (x y : Int64) : gSC := (va_up sc.1 k true, va_up sc.2.1 k (if sc.1 k then q_min (sc.2.1 k) x else x), va_up sc.2.2.1 k (if sc.1 k then q_max (sc.2.2.1 k) x else x), va_up sc.2.2.2.1 k (if sc.1 k then q_min (sc.2.2.2.1 k) y else y), va_up sc.2.2.2.2 k (if sc.1 k then q_max (sc.2.2.2.2 k) y else y))
def q_tx (pa : gPA) (wi : gWI) (k j t : Nat) : Int64 := if t = 1 then pa.2.1 j - wi.2.2.2.1 k else if t = 2 then pa.1 j - wi.2.2.1 k else if t = 3 then wi.2.2.2.1 k else wi.2.2.1 k
def q_ty (pa : gPA) (wi : gWI) (k j t : Nat) : Int64 := if t = 1 then wi.2.2.1 k else if t = 2 then pa.2.1 j - wi.2.2.2.1 k else if t = 3 then pa.1 j - wi.2.2.1 k else wi.2.2.2.1 k
def q_pinX (pa : gPA) (pl : gPL) (wi : gWI) (k : Nat) : Int64 := pl.1 (wi.2.1 k) + q_tx pa wi k (wi.2.1 k) (pl.2.2.1 (wi.2.1 k))
def q_pinY (pa : gPA) (pl : gPL) (wi : gWI) (k : Nat) : Int64 := pl.2.1 (wi.2.1 k) + q_ty pa wi k (wi.2.1 k) (pl.2.2.1 (wi.2.1 k))
def q_scan (pa : gPA) (pl : gPL) (wi : gWI) : Nat → gSC
  | 0 => q_clr (q_sc wi) wi.2.2.2.2.2.2.2.2.2.1
  | k + 1 => if pl.2.2.2 (wi.2.1 k) then q_rch (q_scan pa pl wi k) (wi.1 k) (q_pinX pa pl wi k) (q_pinY pa pl wi k) else q_scan pa pl wi k
def q_total (sc : gSC) : Nat → Int64
  | 0 => 0
  | k + 1 => if sc.1 k then q_total sc k + (sc.2.2.1 k - sc.2.1 k + sc.2.2.2.2 k - sc.2.2.2.1 k) else q_total sc k
def q_meas (pa : gPA) (pl : gPL) (wi : gWI) : Int64 := q_total (q_scan pa pl wi wi.2.2.2.2.2.2.2.2.2.2) wi.2.2.2.2.2.2.2.2.2.1
def q_measW (pa : gPA) (pl : gPL) (wi : gWI) : gWI := q_sw wi (q_scan pa pl wi wi.2.2.2.2.2.2.2.2.2.2)
-- a change is kept, or taken back
def q_bad (bm : gBM) (pa : gPA) (pl ql : gPL) (li : gLI) (i : Nat) : Bool := q_differs pl ql i && ((pa.2.2.2.2.1 i && ql.2.2.2 i) || !q_well bm pa pl li i)
def q_ndraw (s : Int64) : Int64 := s * 6364136223846793005 + 1442695040888963407
def q_drawn (s : Int64) : Int64 := (s.toUInt64 >>> ((nI 33).toInt64.toUInt64 &&& Int64.toUInt64 63)).toInt64
theorem q_join_hit {pa : gPA} {a b c u : Nat} (h : q_inG pa a b u = true) : ((pa.1, pa.2.1, pa.2.2.1, pa.2.2.2.1, pa.2.2.2.2.1, va_up (q_joinU pa a b c u).2.2.2.2.2.1 u c, pa.2.2.2.2.2.2) : gPA) = q_joinU pa a b c (u + 1) := by
  unfold q_joinU
  simp only [Prod.mk.injEq, and_true, true_and]
  funext i
  by_cases hi : i = u
  · subst hi; simp [va_up, h]
  · have e : (i < u + 1) = (i < u) := by simp only [eq_iff_iff]; omega
    simp [va_up, hi, e]
theorem q_join_miss {pa : gPA} {a b c u : Nat} (h : q_inG pa a b u = false) : q_joinU pa a b c u = q_joinU pa a b c (u + 1) := by
  unfold q_joinU
  simp only [Prod.mk.injEq, and_true, true_and]
  funext i
  by_cases hi : i = u
  · subst hi; simp [h]
  · have e : (i < u + 1) = (i < u) := by simp only [eq_iff_iff]; omega
    simp [e]
theorem q_scan_yes {pa : gPA} {pl : gPL} {wi : gWI} {k : Nat} (h : pl.2.2.2 (wi.2.1 k) = true) : q_scan pa pl wi (k + 1) = q_rch (q_scan pa pl wi k) (wi.1 k) (q_pinX pa pl wi k) (q_pinY pa pl wi k) := by
  show (if _ then _ else _) = _
  rw [if_pos h]
theorem q_scan_no {pa : gPA} {pl : gPL} {wi : gWI} {k : Nat} (h : pl.2.2.2 (wi.2.1 k) = false) : q_scan pa pl wi (k + 1) = q_scan pa pl wi k := by
  show (if _ then _ else _) = _
  rw [if_neg (by rw [h]; decide)]
theorem q_total_yes {sc : gSC} {k : Nat} (h : sc.1 k = true) : q_total sc k + (sc.2.2.1 k - sc.2.1 k + sc.2.2.2.2 k - sc.2.2.2.1 k) = q_total sc (k + 1) := by
  show _ = (if _ then _ else _)
  rw [if_pos h]
theorem q_total_no {sc : gSC} {k : Nat} (h : sc.1 k = false) : q_total sc k = q_total sc (k + 1) := by
  show _ = (if _ then _ else _)
  rw [if_neg (by rw [h]; decide)]
def q_bads (bm : gBM) (pa : gPA) (pl ql : gPL) (li : gLI) : Option Nat := q_find (q_bad bm pa pl ql li) (pa.2.2.2.2.2.2 - 0) 0
def q_keep (bm : gBM) (pa : gPA) (pl ql : gPL) (li : gLI) (wi : gWI) (more : Int64) : Bool := (q_bads bm pa pl ql li).isNone && !decide (more < q_meas pa pl wi - bm.2.2.2)
def q_keepP (bm : gBM) (pa : gPA) (pl ql : gPL) (li : gLI) (wi : gWI) (more : Int64) : gPL := if q_keep bm pa pl ql li wi more then pl else q_copyU ql pl pa.2.2.2.2.2.2
def q_keepW (bm : gBM) (pa : gPA) (pl ql : gPL) (li : gLI) (wi : gWI) : gWI := if (q_bads bm pa pl ql li).isNone then q_measW pa pl wi else wi
def q_keepB (bm : gBM) (pa : gPA) (pl ql : gPL) (li : gLI) (wi : gWI) (more : Int64) : gBM := if q_keep bm pa pl ql li wi more then (bm.1, bm.2.1, bm.2.2.1, q_meas pa pl wi) else bm
-- pushing
def q_clear (pa : gPA) (pu : Nat) (ax up : Bool) : Nat → gPL → gPL × Bool
  | 0, pl => (pl, false)
  | k + 1, pl => match q_first pa pl with
    | none => (pl, true)
    | some lo => match q_over pa pl lo (lo + 1) with
      | none => (pl, false)
      | some hi => if q_mates pa lo hi then (pl, false) else
        if q_goes pa pl lo hi pu ax up then q_clear pa pu ax up k (q_shift pa pl lo (if ax then q_way pa pl lo hi ax up else 0) (if ax then 0 else q_way pa pl lo hi ax up))
        else q_clear pa pu ax up k (q_shift pa pl hi (if ax then q_way pa pl hi lo ax up else 0) (if ax then 0 else q_way pa pl hi lo ax up))
def q_swap (pa : gPA) (pl : gPL) (a b : Nat) : gPL := if pl.2.2.2 b && !q_mates pa a b then q_shift pa (q_shift pa pl a (pl.1 b - pl.1 a) (pl.2.1 b - pl.2.1 a)) b (-(pl.1 b - pl.1 a)) (-(pl.2.1 b - pl.2.1 a)) else pl
def q_turnA (pa : gPA) (pl : gPL) (a q : Nat) : gPL := if q_hasMate pa pl a then pl else (pl.1, pl.2.1, va_up pl.2.2.1 a ((pl.2.2.1 a + q) % 4), pl.2.2.2)
