-- ===== the class's calls
/-- whether a set has one for each deed: fuel, which -/
def exF (g : Nat → Nat) (x : Nat) : Nat → Nat → Bool
  | 0, _ => true
  | m + 1, k => if g k &&& x = 0 then false else exF g x m (k + 1)
def exA (n : Nat) (g : Nat → Nat) (x : Nat) : Bool := exF g x n 0
theorem exF_go {g : Nat → Nat} {x n k : Nat} (hk : k < n) (h : ¬ g k &&& x = 0) : exF g x (n - k) k = exF g x (n - (k + 1)) (k + 1) := by
  rw [show n - k = (n - (k + 1)) + 1 by omega]
  show (if g k &&& x = 0 then _ else _) = _
  rw [if_neg h]
theorem exF_no {g : Nat → Nat} {x n k : Nat} (hk : k < n) (h : g k &&& x = 0) : exF g x (n - k) k = false := by
  rw [show n - k = (n - (k + 1)) + 1 by omega]
  show (if g k &&& x = 0 then _ else _) = _
  rw [if_pos h]
def c_half (X : Nat → St) (i d w : Int) : Int := if isP (X 2 0 0) i && isIn d 0 1 then (if w = 0 then (X 2 1 (2 * i.toNat + d.toNat) : Int) else if w = 1 then (X 4 1 (2 * i.toNat + d.toNat) : Int) else if w = 2 then (if d.toNat = X 4 0 0 &&& 1 then 0 else (X 4 2 i.toNat : Int)) else -1) else -1
def lrn (f : Nat → Nat) (n i x : Nat) : Nat → Nat := upN f (2 * i + (n &&& 1)) (f (2 * i + (n &&& 1)) ||| 1 * 2 ^ x)
def c_seeN (X : Nat → St) (i f : Int) : St := if vSee (X 2 0 0) i f then stR (X 4) 1 (lrn (X 4 1) (X 4 0 0) i.toNat f.toNat) else X 4
def c_see (X : Nat → St) (i f : Int) : Int := if vSee (X 2 0 0) i f then (lrn (X 4 1) (X 4 0 0) i.toNat f.toNat (2 * i.toNat + (X 4 0 0 &&& 1)) : Int) else -1
def cNo (X : Nat → St) (i f : Nat) : Bool := decide (X 4 1 (2 * i + (X 4 0 0 &&& 1)) &&& (1 * 2 ^ f) = 0)
def c_noteN (X : Nat → St) (i f : Int) : St := if vSee (X 2 0 0) i f then (if cNo X i.toNat f.toNat then X 4 else stR (X 4) 2 (upN (X 4 2) i.toNat (X 4 2 i.toNat ||| 1 * 2 ^ f.toNat))) else X 4
def c_note (X : Nat → St) (i f : Int) : Int := if vSee (X 2 0 0) i f then (if cNo X i.toNat f.toNat then -2 else (upN (X 4 2) i.toNat (X 4 2 i.toNat ||| 1 * 2 ^ f.toNat) i.toNat : Int)) else -1
def c_deed (X : Nat → St) (i f : Int) : Int := if vDeed (X 2 0 0) i f then (if hAll (X 4 1 (2 * i.toNat + (X 4 0 0 &&& 1))) f.toNat then 1 else 0) else -1
def vShC (n0 : Nat) (n : Int) : Bool := isIn n 1 40 && decide (n0 + n.toNat ≤ 9999)
abbrev cEs (X : Nat → St) (n : Nat) : Nat × (Nat → Nat) × (Nat → Nat) := sp_es (X 2 0 0) (X 2 10 0) n (X 4 0 0) (X 4 1) (X 4 2)
def c_shiftsN (X : Nat → St) (n : Int) : St := if vShC (X 4 0 0) n then stR (stR (stR (X 4) 0 (fun _ => (cEs X n.toNat).1)) 1 (cEs X n.toNat).2.1) 2 (cEs X n.toNat).2.2 else X 4
def c_shifts (X : Nat → St) (n : Int) : Int := if isIn n 1 40 then (if vShC (X 4 0 0) n then ((cEs X n.toNat).1 : Int) else -2) else -1
def c_done (X : Nat → St) (i j : Int) : Int := if vDone (X 2 0 0) (X 2 3 0) i j then sp_sn (X 2 1) (X 2 4) (X 2 5) (X 2 9 0) i.toNat j.toNat (X 4 0 0) else -1
def c_handed (X : Nat → St) (i j : Int) : Int := if vDone (X 2 0 0) (X 2 3 0) i j then sp_fh (X 2 1) (X 2 4) (X 2 5) i.toNat j.toNat else -1
def cbB (X : Nat → St) (j i : Nat) (a : Int × Int) : Int × Int := if ¬ sp_sn (X 2 1) (X 2 4) (X 2 5) (X 2 9 0) i j (X 4 0 0) = -4 ∧ (a.2 = -4 ∨ sp_sn (X 2 1) (X 2 4) (X 2 5) (X 2 9 0) i j (X 4 0 0) < a.1) then (sp_sn (X 2 1) (X 2 4) (X 2 5) (X 2 9 0) i j (X 4 0 0), (i : Int)) else a
def c_best (X : Nat → St) (j : Int) : Int := if isP (X 2 3 0) j then (lpR (cbB X j.toNat) (X 2 0 0) 0 (-4, -4)).2 else -1
/-- the trial: as now, n shifts on -/
def ctr (X : Nat → St) (n : Nat) : Nat × (Nat → Nat) × (Nat → Nat) := sp_es (X 2 0 0) (X 2 10 0) n (X 4 0 0) (cpN (X 4 1) (X 5 1) 10) (cpN (X 4 2) (X 5 2) 5)
def cTr (X : Nat → St) (n : Nat) : St := stR (stR (stR (X 5) 0 (fun _ => (ctr X n).1)) 1 (ctr X n).2.1) 2 (ctr X n).2.2
def c_knowsR (X : Nat → St) (n i d : Int) : St := if vKnows (X 2 0 0) n i d then cTr X n.toNat else X 5
def c_knows (X : Nat → St) (n i d : Int) : Int := if vKnows (X 2 0 0) n i d then ((ctr X n.toNat).2.1 (2 * i.toNat + d.toNat) : Int) else -1
def c_couldR (X : Nat → St) (n x : Int) : St := if vCould n x then cTr X n.toNat else X 5
def c_could (X : Nat → St) (n x : Int) : Int := if vCould n x then (sp_able x.toNat (X 2 0 0) (ctr X n.toNat).1 (ctr X n.toNat).2.1 : Int) else -1
def c_purse (X : Nat → St) (x y d : Int) : Int := if vPurse x y d then (sp_holds (X 2 11 0) (X 2 12 0) (X 2 13 0) x.toNat y.toNat d.toNat : Int) else -1
