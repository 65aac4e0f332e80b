-- ===== the model: trades
/-- steps done in one shift: fuel, did, step -/
def dnI (bk : Nat → Nat) (i d j : Nat) : Nat → Nat → Nat → Nat × Nat
  | 0, a, b => (a, b)
  | m + 1, a, b => if a < bk 3 ∧ b < bk (28 + j) ∧ sp_has bk i d j (if b < 8 then b else 7) = true then dnI bk i d j m (a + 1) (b + 1) else (a, b)
/-- shifts: fuel, step, idle, n -/
def dnO (bk : Nat → Nat) (s0 i j : Nat) : Nat → Nat → Nat → Nat → Int
  | 0, _, _, _ => -4
  | m + 1, b, c, n => if b < bk (28 + j) ∧ c < 2 then dnO bk s0 i j m (dnI bk i ((s0 + n) % 2) j (bk 3 + 1) 0 b).2 (if 0 < (dnI bk i ((s0 + n) % 2) j (bk 3 + 1) 0 b).1 then 0 else c + 1) (n + 1) else if b = bk (28 + j) then (n : Int) else -4
def sp_done (bk : Nat → Nat) (s0 i j : Nat) : Int := dnO bk s0 i j 30 0 0 0
theorem dnI_go {bk : Nat → Nat} {i d j m a b : Nat} (h1 : a < bk 3) (h2 : b < bk (28 + j)) (h3 : sp_has bk i d j (if b < 8 then b else 7) = true) : dnI bk i d j (m + 1) a b = dnI bk i d j m (a + 1) (b + 1) := by
  show (if a < bk 3 ∧ b < bk (28 + j) ∧ sp_has bk i d j (if b < 8 then b else 7) = true then _ else _) = _
  rw [if_pos ⟨h1, h2, h3⟩]
theorem dnI_stop {bk : Nat → Nat} {i d j m a b : Nat} (h : ¬ (a < bk 3 ∧ b < bk (28 + j) ∧ sp_has bk i d j (if b < 8 then b else 7) = true)) : dnI bk i d j m a b = (a, b) := by
  cases m with
  | zero => rfl
  | succ m => show (if a < bk 3 ∧ b < bk (28 + j) ∧ sp_has bk i d j (if b < 8 then b else 7) = true then _ else _) = _; rw [if_neg h]
theorem dnO_go {bk : Nat → Nat} {s0 i j m b c n : Nat} (h : b < bk (28 + j) ∧ c < 2) : dnO bk s0 i j (m + 1) b c n = dnO bk s0 i j m (dnI bk i ((s0 + n) % 2) j (bk 3 + 1) 0 b).2 (if 0 < (dnI bk i ((s0 + n) % 2) j (bk 3 + 1) 0 b).1 then 0 else c + 1) (n + 1) := by
  show (if b < bk (28 + j) ∧ c < 2 then _ else _) = _
  rw [if_pos h]
theorem dnO_stop {bk : Nat → Nat} {s0 i j m b c n : Nat} (h : ¬ (b < bk (28 + j) ∧ c < 2)) : dnO bk s0 i j (m + 1) b c n = if b = bk (28 + j) then (n : Int) else -4 := by
  show (if b < bk (28 + j) ∧ c < 2 then _ else _) = _
  rw [if_neg h]
theorem dnO_rng {bk : Nat → Nat} {s0 i j : Nat} : ∀ m b c n, n + m < 100000 → -4 ≤ dnO bk s0 i j m b c n ∧ dnO bk s0 i j m b c n < 100000
  | 0, b, c, n, h => by show -4 ≤ (-4 : Int) ∧ (-4 : Int) < 100000; omega
  | m + 1, b, c, n, h => by
    by_cases hc : b < bk (28 + j) ∧ c < 2
    · rw [dnO_go hc]; exact dnO_rng m _ _ _ (by omega)
    · rw [dnO_stop hc]
      split <;> omega
def vDone (p t : Nat) (i j : Int) : Bool := isP p i && isP t j
def g_done (bk s : Nat → Nat) (i j : Int) : Int := if vDone (bk 0) (bk 1) i j then sp_done bk (s 0) i.toNat j.toNat else -1
def hdB (bk : Nat → Nat) (i j way k : Nat) (a : Bool × Nat) : Bool × Nat := (a.1 && sp_has bk i (way / 2 ^ k &&& 1) j k, a.2 + (if 0 < k ∧ ¬ (way / 2 ^ k &&& 1) = (way / 2 ^ (k - 1) &&& 1) then 1 else 0))
def hdI (bk : Nat → Nat) (i j way : Nat) : Bool × Nat := lpR (hdB bk i j way) (bk (28 + j)) 0 (true, 0)
def hoB (bk : Nat → Nat) (i j way : Nat) (x : Int) : Int := if (hdI bk i j way).1 = true ∧ (x = -4 ∨ ((hdI bk i j way).2 : Int) < x) then ((hdI bk i j way).2 : Int) else x
def sp_handed (bk : Nat → Nat) (i j : Nat) : Int := lpR (hoB bk i j) (1 * 2 ^ bk (28 + j)) 0 (-4)
def g_handed (bk : Nat → Nat) (i j : Int) : Int := if vDone (bk 0) (bk 1) i j then sp_handed bk i.toNat j.toNat else -1
/-- the best, counted down: persons yet to try, found, least -/
def bsF (bk : Nat → Nat) (s0 j : Nat) : Nat → Int → Int → Int
  | 0, a, _ => a
  | i + 1, a, b => if ¬ sp_done bk s0 i j = -4 ∧ (a = -4 ∨ sp_done bk s0 i j ≤ b) then bsF bk s0 j i (i : Int) (sp_done bk s0 i j) else bsF bk s0 j i a b
def g_best (bk s : Nat → Nat) (j : Int) : Int := if isP (bk 1) j then bsF bk (s 0) j.toNat (bk 0) (-4) 0 else -1
def g_seen (M : St) (t f : Int) : Int := if vSeen t f then (if M 11 0 = 10 then -3 else ((M 11 0 + 1 : Nat) : Int)) else -1
def g_seenD (M : St) (t f : Int) : Nat := if vSeen t f then (if M 11 0 = 10 then M 11 0 else M 11 0 + 1) else M 11 0
def g_seenT (M : St) (t f : Int) : Nat → Nat := if vSeen t f then (if M 11 0 = 10 then M 8 else upN (M 8) (M 11 0) t.toNat) else M 8
def g_seenF (M : St) (t f : Int) : Nat → Nat := if vSeen t f then (if M 11 0 = 10 then M 9 else upN (M 9) (M 11 0) f.toNat) else M 9
def g_keep (M : St) : Int := if M 7 0 = 2 then -3 else ((M 7 0 + 1 : Nat) : Int)
def g_keepN (M : St) : Nat := if M 7 0 = 2 then M 7 0 else M 7 0 + 1
def g_keepK (M : St) : Nat → Nat := if M 7 0 = 2 then M 6 else cpK (M 4) (M 7 0) (M 6)
def g_back (M : St) : Int := if M 7 0 = 0 then -2 else ((M 7 0 - 1 : Nat) : Int)
def g_backN (M : St) : Nat := if M 7 0 = 0 then M 7 0 else M 7 0 - 1
def g_backS (M : St) : Nat → Nat := if M 7 0 = 0 then M 4 else cpB (M 6) (M 7 0 - 1) (M 4)
