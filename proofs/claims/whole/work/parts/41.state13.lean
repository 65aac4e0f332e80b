-- the most that each can have
abbrev shr (T : St) (x y d : Nat) : Nat := sp_holds (T 11 0) (T 12 0) (T 13 0) x y d
def fmI (T : St) (k y : Nat) (a : (Nat → Nat) × (Nat → Nat)) : (Nat → Nat) × (Nat → Nat) := (upN a.1 k (max (a.1 k) (shr T y k 0)), upN a.2 k (max (a.2 k) (shr T k y 1)))
def fmI0 (T : St) (k : Nat) (f g : Nat → Nat) : (Nat → Nat) × (Nat → Nat) := lpR (fmI T k) 10 0 (upN f k 0, upN g k 0)
def fmO (T : St) (k : Nat) (a : (Nat → Nat) × (Nat → Nat)) : (Nat → Nat) × (Nat → Nat) := fmI0 T k a.1 a.2
def fmR (T : St) (f g : Nat → Nat) : (Nat → Nat) × (Nat → Nat) := lpR (fmO T) 10 0 (f, g)
theorem fmI0_lt {T : St} (hT : Tok T) {k : Nat} (hk : k < 10) {f g : Nat → Nat} (hf : ∀ k, f k < 4096) (hg : ∀ k, g k < 4096) : (∀ j, (fmI0 T k f g).1 j < 4096) ∧ ∀ j, (fmI0 T k f g).2 j < 4096 := by
  have hs := hT.1
  have h0 : (∀ j, (upN f k 0, upN g k 0).1 j < 4096) ∧ ∀ j, (upN f k 0, upN g k 0).2 j < 4096 := ⟨upN_lt (k := k) (v := 0) hf (by decide), upN_lt (k := k) (v := 0) hg (by decide)⟩
  exact lpR_invk (P := fun y (a : (Nat → Nat) × (Nat → Nat)) => (∀ j, a.1 j < 4096) ∧ ∀ j, a.2 j < 4096) (Nat.zero_le 10) (fun y a hy h => by
    have e1 := @holds_le (T 11 0) (T 12 0) (T 13 0) y k 0 (by omega) (by omega) (by omega) hy hk
    have e2 := @holds_le (T 11 0) (T 12 0) (T 13 0) k y 1 (by omega) (by omega) (by omega) hk hy
    have e3 := h.1 k
    have e4 := h.2 k
    have e5 : max (a.1 k) (sp_holds (T 11 0) (T 12 0) (T 13 0) y k 0) < 4096 := by omega
    have e6 : max (a.2 k) (sp_holds (T 11 0) (T 12 0) (T 13 0) k y 1) < 4096 := by omega
    exact ⟨upN_lt (k := k) h.1 e5, upN_lt (k := k) h.2 e6⟩) h0
theorem fm_lt {T : St} (hT : Tok T) {f g : Nat → Nat} (hf : ∀ k, f k < 4096) (hg : ∀ k, g k < 4096) : (∀ k, (fmR T f g).1 k < 4096) ∧ ∀ k, (fmR T f g).2 k < 4096 :=
  lpR_invk (P := fun y (a : (Nat → Nat) × (Nat → Nat)) => (∀ k, a.1 k < 4096) ∧ ∀ k, a.2 k < 4096) (Nat.zero_le 10) (fun y a hy h => fmI0_lt hT hy h.1 h.2) ⟨hf, hg⟩
abbrev cMo (X : Nat → St) : (Nat → Nat) × (Nat → Nat) := fmR (X 2) (X 0 10) (X 0 11)
def crI (X : Nat → St) (x y : Nat) (a : Nat × Int) : Nat × Int := if shr (X 2) x y 0 = (cMo X).1 y ∧ shr (X 2) x y 1 = (cMo X).2 x then (a.1 + 1, if a.1 = 0 then ((10 * x + y : Nat) : Int) else a.2) else a
def crR (X : Nat → St) : Nat × Int := lpR (fun k a => lpR (crI X k) 10 0 a) 10 0 (0, -4)
def c_restsO (X : Nat → St) (w : Int) : St := if isIn w 0 2 then stR (stR (X 0) 10 (cMo X).1) 11 (cMo X).2 else X 0
def c_rests (X : Nat → St) (w : Int) : Int := if isIn w 0 2 then (if w.toNat = 0 then ((crR X).1 : Int) else if (crR X).2 = -4 then -4 else if w.toNat = 1 then (((crR X).2.toNat / 10 : Nat) : Int) else (((crR X).2.toNat % 10 : Nat) : Int)) else -1
def ccB (X : Nat → St) (k : Nat) (a : Nat × Nat) : Nat × Nat := if sp_pg (X 2 8) (X 2 7 0) k < a.2 then (k, sp_pg (X 2 8) (X 2 7 0) k) else a
def ccR (X : Nat → St) : Nat × Nat := lpR (ccB X) (1 * 2 ^ X 2 0 0) 1 (0, sp_pg (X 2 8) (X 2 7 0) 0)
def c_camps (X : Nat → St) (w : Int) : Int := if isIn w 0 1 then (if w.toNat = 0 then ((ccR X).2 : Int) else ((ccR X).1 : Int)) else -1
/-- till both halves know the same: fuel, count, the trial -/
def caF (p N i : Nat) : Nat → Nat → Nat → (Nat → Nat) → (Nat → Nat) → Int × Nat × (Nat → Nat) × (Nat → Nat)
  | 0, _, x, f, g => (-4, x, f, g)
  | m + 1, n, x, f, g => if f (2 * i) = f (2 * i + 1) then ((n : Int), x, f, g) else caF p N i m (n + 1) (sp_es p N 1 x f g).1 (sp_es p N 1 x f g).2.1 (sp_es p N 1 x f g).2.2
theorem caF_eq {p N i n x : Nat} {f g : Nat → Nat} (hn : n < 41) (h : f (2 * i) = f (2 * i + 1)) : caF p N i (41 - n) n x f g = ((n : Int), x, f, g) := by
  rw [show 41 - n = (41 - (n + 1)) + 1 by omega]
  show (if f (2 * i) = f (2 * i + 1) then _ else _) = _
  rw [if_pos h]
theorem caF_go {p N i n x : Nat} {f g : Nat → Nat} (hn : n < 41) (h : ¬ f (2 * i) = f (2 * i + 1)) : caF p N i (41 - n) n x f g = caF p N i (41 - (n + 1)) (n + 1) (sp_es p N 1 x f g).1 (sp_es p N 1 x f g).2.1 (sp_es p N 1 x f g).2.2 := by
  rw [show 41 - n = (41 - (n + 1)) + 1 by omega]
  show (if f (2 * i) = f (2 * i + 1) then _ else _) = _
  rw [if_neg h]
def caR (X : Nat → St) (i : Nat) : Int × Nat × (Nat → Nat) × (Nat → Nat) := caF (X 2 0 0) (X 2 10 0) i 41 0 (X 4 0 0) (cpN (X 4 1) (X 5 1) 10) (cpN (X 4 2) (X 5 2) 5)
def c_alikeR (X : Nat → St) (i : Int) : St := if isP (X 2 0 0) i then stR (stR (stR (X 5) 0 (fun _ => (caR X i.toNat).2.1)) 1 (caR X i.toNat).2.2.1) 2 (caR X i.toNat).2.2.2 else X 5
def c_alike (X : Nat → St) (i : Int) : Int := if isP (X 2 0 0) i then (caR X i.toNat).1 else -1
/-- as it was laid, t shifts on -/
def cSs (X : Nat → St) (t : Nat) : Nat × (Nat → Nat) × (Nat → Nat) := sp_es (X 2 0 0) (X 2 10 0) t 0 (cpN (X 2 2) (X 5 1) 10) (clr5 (X 5 2))
def c_seenR (X : Nat → St) (t f : Int) : St := if vSeen t f then (if X 0 9 0 < 10 then stR (stR (stR (X 5) 0 (fun _ => (cSs X t.toNat).1)) 1 (cSs X t.toNat).2.1) 2 (cSs X t.toNat).2.2 else X 5) else X 5
def c_seenO (X : Nat → St) (t f : Int) : St := if vSeen t f then (if X 0 9 0 < 10 then stR (stR (X 0) 8 (upN (X 0 8) (X 0 9 0) (sp_able f.toNat (X 2 0 0) (cSs X t.toNat).1 (cSs X t.toNat).2.1))) 9 (fun _ => X 0 9 0 + 1) else X 0) else X 0
def c_seen (X : Nat → St) (t f : Int) : Int := if vSeen t f then (if X 0 9 0 < 10 then ((X 0 9 0 + 1 : Nat) : Int) else -3) else -1
def clB (X : Nat → St) (k : Nat) (a : Int × Nat) : Int × Nat := if lnR k < a.2 ∧ exA (X 0 9 0) (X 0 8) k = true then ((k : Int), lnR k) else a
def c_least (X : Nat → St) : Int := (lpR (clB X) (1 * 2 ^ X 2 0 0) 0 (-4, 6)).1
def cmnB (p N z k : Nat) (a : Nat × (Nat → Nat) × (Nat → Nat)) : Nat × (Nat → Nat) × (Nat → Nat) := sp_es p N 1 a.1 (lrn a.2.1 a.1 (sp_pd p (drw z k)) (drw z k % 8)) a.2.2
def cmR2 (X : Nat → St) (z n : Nat) : Nat × (Nat → Nat) × (Nat → Nat) := lpR (cmnB (X 2 0 0) (X 2 10 0) z) n 0 (X 4 0 0, cpN (X 4 1) (X 5 1) 10, cpN (X 4 2) (X 5 2) 5)
def c_monthR (X : Nat → St) (z n i d : Int) : St := if vMonth (X 2 0 0) z n i d then stR (stR (stR (X 5) 0 (fun _ => (cmR2 X z.toNat n.toNat).1)) 1 (cmR2 X z.toNat n.toNat).2.1) 2 (cmR2 X z.toNat n.toNat).2.2 else X 5
def c_month (X : Nat → St) (z n i d : Int) : Int := if vMonth (X 2 0 0) z n i d then ((cmR2 X z.toNat n.toNat).2.1 (2 * i.toNat + d.toNat) : Int) else -1
/-- a standing copied over another -/
def cpS (A B : St) : St := stR (stR (stR B 0 (fun _ => A 0 0)) 1 (cpN (A 1) (B 1) 10)) 2 (cpN (A 2) (B 2) 5)
def c_keep (X : Nat → St) : Int := if X 0 7 0 < 2 then ((X 0 7 0 + 1 : Nat) : Int) else -3
def c_keepN (X : Nat → St) : Nat := if X 0 7 0 < 2 then X 0 7 0 + 1 else X 0 7 0
def c_keep6 (X : Nat → St) : St := if X 0 7 0 < 2 then (if X 0 7 0 = 0 then cpS (X 4) (X 6) else X 6) else X 6
def c_keep7 (X : Nat → St) : St := if X 0 7 0 < 2 then (if X 0 7 0 = 0 then X 7 else cpS (X 4) (X 7)) else X 7
def c_back (X : Nat → St) : Int := if 0 < X 0 7 0 then ((X 0 7 0 - 1 : Nat) : Int) else -2
def c_backN (X : Nat → St) : Nat := if 0 < X 0 7 0 then X 0 7 0 - 1 else X 0 7 0
def c_back4 (X : Nat → St) : St := if 0 < X 0 7 0 then (if X 0 7 0 - 1 = 0 then cpS (X 6) (X 4) else cpS (X 7) (X 4)) else X 4
def c_count (X : Nat → St) (w : Int) : Int := if w = 0 then (X 2 0 0 : Int) else if w = 1 then (X 2 3 0 : Int) else if w = 2 then (X 2 7 0 : Int) else if w = 3 then (X 4 0 0 : Int) else if w = 4 then (X 0 9 0 : Int) else if w = 5 then (X 0 7 0 : Int) else if w = 6 then (X 1 1 0 : Int) else if w = 7 then (X 2 9 0 : Int) else if w = 8 then (X 2 10 0 : Int) else -1
