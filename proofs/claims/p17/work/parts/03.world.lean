abbrev gPA : Type := (Nat → Int64) × (Nat → Int64) × (Nat → Nat) × (Nat → Int64) × (Nat → Bool) × (Nat → Nat) × Nat
abbrev gPL : Type := (Nat → Int64) × (Nat → Int64) × (Nat → Nat) × (Nat → Bool)
abbrev gLI : Type := (Nat → Int64) × (Nat → Int64) × (Nat → Int64) × (Nat → Int64) × (Nat → Int64) × (Nat → Nat) × (Nat → Nat) × (Nat → Int64) × Nat × Nat
abbrev gWI : Type := (Nat → Nat) × (Nat → Nat) × (Nat → Int64) × (Nat → Int64) × (Nat → Bool) × (Nat → Int64) × (Nat → Int64) × (Nat → Int64) × (Nat → Int64) × Nat × Nat
abbrev gBM : Type := Int64 × Int64 × Int64 × Int64
abbrev gMS : Type := Int64 × Int64 × Nat × Nat × Nat × Nat × Nat × Int64
abbrev gMA : Type := (Nat → Int64) × (Nat → Int64) × (Nat → Nat) × (Nat → Int64) × (Nat → Bool) × (Nat → Nat) × (Nat → Bool)
abbrev gMP : Type := (Nat → Int64) × (Nat → Int64) × (Nat → Nat)
abbrev gMK : Type := (Nat → Int64) × (Nat → Nat) × (Nat → Nat) × (Nat → Int64)
abbrev gMN : Type := (Nat → Nat) × (Nat → Nat) × (Nat → Int64) × (Nat → Int64) × (Nat → Bool)
def WW (ad : Nat → Nat) (cJ cI cZ : ClassId) (bm : gBM) (pa : gPA) (p0 : gPL) (p1 : gPL) (p2 : gPL) (li : gLI) (wi : gWI) (mt : Nat) (ms : gMS) (ma : gMA) (mp : gMP) (mk : gMK) (mn : gMN) (ou : (Nat → Int64)) : va_W := [(ad 0, .inr (4, [.long bm.1, .long bm.2.1, .ref (ad 1), .ref (ad 23), .ref (ad 32), .ref (ad 8), .ref (ad 13), .ref (ad 18), .long bm.2.2.1, .long bm.2.2.2])),
  (ad 1, .inr (1, [.ref (ad 2), .ref (ad 3), .ref (ad 4), .ref (ad 5), .ref (ad 6), .ref (ad 7), .int (nI pa.2.2.2.2.2.2)])),
  (ad 2, .inl (cJ, 40, .inr (.inl pa.1))),
  (ad 3, .inl (cJ, 40, .inr (.inl pa.2.1))),
  (ad 4, .inl (cI, 40, .inl (fun j => nI (pa.2.2.1 j)))),
  (ad 5, .inl (cJ, 40, .inr (.inl pa.2.2.2.1))),
  (ad 6, .inl (cZ, 40, .inl (fun j => bm_b (pa.2.2.2.2.1 j)))),
  (ad 7, .inl (cI, 40, .inl (fun j => nI (pa.2.2.2.2.2.1 j)))),
  (ad 8, .inr (2, [.ref (ad 1), .ref (ad 9), .ref (ad 10), .ref (ad 11), .ref (ad 12)])),
  (ad 9, .inl (cJ, 40, .inr (.inl p0.1))),
  (ad 10, .inl (cJ, 40, .inr (.inl p0.2.1))),
  (ad 11, .inl (cI, 40, .inl (fun j => nI (p0.2.2.1 j)))),
  (ad 12, .inl (cZ, 40, .inl (fun j => bm_b (p0.2.2.2 j)))),
  (ad 13, .inr (2, [.ref (ad 1), .ref (ad 14), .ref (ad 15), .ref (ad 16), .ref (ad 17)])),
  (ad 14, .inl (cJ, 40, .inr (.inl p1.1))),
  (ad 15, .inl (cJ, 40, .inr (.inl p1.2.1))),
  (ad 16, .inl (cI, 40, .inl (fun j => nI (p1.2.2.1 j)))),
  (ad 17, .inl (cZ, 40, .inl (fun j => bm_b (p1.2.2.2 j)))),
  (ad 18, .inr (2, [.ref (ad 1), .ref (ad 19), .ref (ad 20), .ref (ad 21), .ref (ad 22)])),
  (ad 19, .inl (cJ, 40, .inr (.inl p2.1))),
  (ad 20, .inl (cJ, 40, .inr (.inl p2.2.1))),
  (ad 21, .inl (cI, 40, .inl (fun j => nI (p2.2.2.1 j)))),
  (ad 22, .inl (cZ, 40, .inl (fun j => bm_b (p2.2.2.2 j)))),
  (ad 23, .inr (0, [.ref (ad 1), .ref (ad 24), .ref (ad 25), .ref (ad 26), .ref (ad 27), .ref (ad 28), .ref (ad 29), .ref (ad 30), .ref (ad 31), .int (nI li.2.2.2.2.2.2.2.2.1), .int (nI li.2.2.2.2.2.2.2.2.2)])),
  (ad 24, .inl (cJ, 10, .inr (.inl li.1))),
  (ad 25, .inl (cJ, 10, .inr (.inl li.2.1))),
  (ad 26, .inl (cJ, 10, .inr (.inl li.2.2.1))),
  (ad 27, .inl (cJ, 10, .inr (.inl li.2.2.2.1))),
  (ad 28, .inl (cJ, 10, .inr (.inl li.2.2.2.2.1))),
  (ad 29, .inl (cI, 20, .inl (fun j => nI (li.2.2.2.2.2.1 j)))),
  (ad 30, .inl (cI, 20, .inl (fun j => nI (li.2.2.2.2.2.2.1 j)))),
  (ad 31, .inl (cJ, 20, .inr (.inl li.2.2.2.2.2.2.2.1))),
  (ad 32, .inr (3, [.ref (ad 1), .ref (ad 33), .ref (ad 34), .ref (ad 35), .ref (ad 36), .ref (ad 37), .ref (ad 38), .ref (ad 39), .ref (ad 40), .ref (ad 41), .int (nI wi.2.2.2.2.2.2.2.2.2.1), .int (nI wi.2.2.2.2.2.2.2.2.2.2)])),
  (ad 33, .inl (cI, 120, .inl (fun j => nI (wi.1 j)))),
  (ad 34, .inl (cI, 120, .inl (fun j => nI (wi.2.1 j)))),
  (ad 35, .inl (cJ, 120, .inr (.inl wi.2.2.1))),
  (ad 36, .inl (cJ, 120, .inr (.inl wi.2.2.2.1))),
  (ad 37, .inl (cZ, 40, .inl (fun j => bm_b (wi.2.2.2.2.1 j)))),
  (ad 38, .inl (cJ, 40, .inr (.inl wi.2.2.2.2.2.1))),
  (ad 39, .inl (cJ, 40, .inr (.inl wi.2.2.2.2.2.2.1))),
  (ad 40, .inl (cJ, 40, .inr (.inl wi.2.2.2.2.2.2.2.1))),
  (ad 41, .inl (cJ, 40, .inr (.inl wi.2.2.2.2.2.2.2.2.1))),
  (ad 42, .inr (5, [.int (nI mt), .long ms.1, .long ms.2.1, .int (nI ms.2.2.1), .ref (ad 43), .ref (ad 44), .ref (ad 45), .ref (ad 46), .ref (ad 47), .ref (ad 48), .ref (ad 49), .ref (ad 50), .ref (ad 51), .ref (ad 52), .int (nI ms.2.2.2.1), .ref (ad 53), .int (nI ms.2.2.2.2.1), .ref (ad 54), .ref (ad 55), .ref (ad 56), .int (nI ms.2.2.2.2.2.1), .int (nI ms.2.2.2.2.2.2.1), .ref (ad 57), .ref (ad 58), .ref (ad 59), .ref (ad 60), .ref (ad 61), .long ms.2.2.2.2.2.2.2])),
  (ad 43, .inl (cJ, 40, .inr (.inl ma.1))),
  (ad 44, .inl (cJ, 40, .inr (.inl ma.2.1))),
  (ad 45, .inl (cI, 40, .inl (fun j => nI (ma.2.2.1 j)))),
  (ad 46, .inl (cJ, 40, .inr (.inl ma.2.2.2.1))),
  (ad 47, .inl (cZ, 40, .inl (fun j => bm_b (ma.2.2.2.2.1 j)))),
  (ad 48, .inl (cI, 40, .inl (fun j => nI (ma.2.2.2.2.2.1 j)))),
  (ad 49, .inl (cZ, 40, .inl (fun j => bm_b (ma.2.2.2.2.2.2 j)))),
  (ad 50, .inl (cJ, 120, .inr (.inl mp.1))),
  (ad 51, .inl (cJ, 120, .inr (.inl mp.2.1))),
  (ad 52, .inl (cI, 120, .inl (fun j => nI (mp.2.2 j)))),
  (ad 53, .inl (cJ, 50, .inr (.inl mk.1))),
  (ad 54, .inl (cI, 20, .inl (fun j => nI (mk.2.1 j)))),
  (ad 55, .inl (cI, 20, .inl (fun j => nI (mk.2.2.1 j)))),
  (ad 56, .inl (cJ, 20, .inr (.inl mk.2.2.2))),
  (ad 57, .inl (cI, 120, .inl (fun j => nI (mn.1 j)))),
  (ad 58, .inl (cI, 120, .inl (fun j => nI (mn.2.1 j)))),
  (ad 59, .inl (cJ, 120, .inr (.inl mn.2.2.1))),
  (ad 60, .inl (cJ, 120, .inr (.inl mn.2.2.2.1))),
  (ad 61, .inl (cZ, 40, .inl (fun j => bm_b (mn.2.2.2.2 j)))),
  (ad 62, .inl (cJ, 1, .inr (.inl ou)))]
abbrev fPA : gPA := (fun _ => 0, fun _ => 0, fun _ => 0, fun _ => 0, fun _ => false, fun _ => 0, 0)
abbrev fPL : gPL := (fun _ => 0, fun _ => 0, fun _ => 0, fun _ => false)
abbrev fLI : gLI := (fun _ => 0, fun _ => 0, fun _ => 0, fun _ => 0, fun _ => 0, fun _ => 0, fun _ => 0, fun _ => 0, 0, 0)
abbrev fWI : gWI := (fun _ => 0, fun _ => 0, fun _ => 0, fun _ => 0, fun _ => false, fun _ => 0, fun _ => 0, fun _ => 0, fun _ => 0, 0, 0)
abbrev fMA : gMA := (fun _ => 0, fun _ => 0, fun _ => 0, fun _ => 0, fun _ => false, fun _ => 0, fun _ => false)
abbrev fMP : gMP := (fun _ => 0, fun _ => 0, fun _ => 0)
abbrev fMK : gMK := (fun _ => 0, fun _ => 0, fun _ => 0, fun _ => 0)
abbrev fMN : gMN := (fun _ => 0, fun _ => 0, fun _ => 0, fun _ => 0, fun _ => false)
