-- ===== the model: shifts played ahead
def enB (bk : Nat → Nat) (i : Nat) (f : Nat → Nat) : Nat → Nat :=
  let f1 := upN f (1 + 2 * i) (f (1 + 2 * i) ||| sp_tells (bk 4) (f (2 + 2 * i)) (f (1 + 2 * i)))
  let f2 := upN f1 (2 + 2 * i) (f (2 + 2 * i) ||| sp_tells (bk 4) (f (1 + 2 * i)) (f (2 + 2 * i)))
  let f3 := upN f2 (1 + 2 * i + f2 0 % 2) (f2 (1 + 2 * i + f2 0 % 2) ||| f2 (11 + i))
  upN f3 (11 + i) 0
def sp_ends (bk f : Nat → Nat) : Nat → Nat := lpR (enB bk) (bk 0) 0 (upN f 0 (f 0 + 1))
theorem enB_lt {bk f : Nat → Nat} {i : Nat} (h : ∀ k, f k < 65536) : ∀ k, enB bk i f k < 65536 := by
  have h1 : ∀ k, upN f (1 + 2 * i) (f (1 + 2 * i) ||| sp_tells (bk 4) (f (2 + 2 * i)) (f (1 + 2 * i))) k < 65536 := upN_lt h (or16 (h _) (tells_lt (h _)))
  have h2 := upN_lt (k := 2 + 2 * i) h1 (or16 (h (2 + 2 * i)) (tells_lt (N := bk 4) (b := f (2 + 2 * i)) (h (1 + 2 * i))))
  exact upN_lt (upN_lt h2 (or16 (h2 _) (h2 _))) (by decide)
theorem ends_lt {bk f : Nat → Nat} (h : ∀ k, f k < 65536) (h0 : f 0 < 65535) : ∀ k, sp_ends bk f k < 65536 :=
  lpR_inv (P := fun (f : Nat → Nat) => ∀ k, f k < 65536) (fun _ _ h => enB_lt h) (upN_lt h (by omega))
theorem upN_ne {f : Nat → Nat} {k v j : Nat} (h : j ≠ k) : upN f k v j = f j := if_neg h
theorem upN_eq {f : Nat → Nat} {k v : Nat} : upN f k v k = v := if_pos rfl
theorem enB_0 {bk f : Nat → Nat} {i : Nat} : enB bk i f 0 = f 0 := by
  show upN (upN (upN (upN f _ _) _ _) _ _) _ _ 0 = f 0
  rw [upN_ne (by omega), upN_ne (by omega), upN_ne (by omega), upN_ne (by omega)]
theorem ends_0 {bk f : Nat → Nat} : sp_ends bk f 0 = f 0 + 1 :=
  lpR_inv (P := fun (g : Nat → Nat) => g 0 = f 0 + 1) (fun _ _ h => enB_0.trans h) upN_eq
/-- sixteen cells are copied -/
def cp16 (s f : Nat → Nat) : Nat → Nat := lpR (fun k f => upN f k (s k)) 16 0 f
theorem cp16_0 {s f : Nat → Nat} : cp16 s f 0 = s 0 := rfl
theorem cp16_lt {s f : Nat → Nat} (hs : ∀ k, s k < 65536) (h : ∀ k, f k < 65536) : ∀ k, cp16 s f k < 65536 := lpR_inv (P := fun (f : Nat → Nat) => ∀ k, f k < 65536) (fun k _ h => upN_lt h (hs k)) h
def sp_plays (bk s f : Nat → Nat) (n : Nat) : Nat → Nat := lpR (fun _ => sp_ends bk) n 0 (cp16 s f)
theorem plays_all {bk s f : Nat → Nat} {n : Nat} (hs : ∀ k, s k < 65536) (h : ∀ k, f k < 65536) (h0 : s 0 + n < 65535) : (∀ k, sp_plays bk s f n k < 65536) ∧ sp_plays bk s f n 0 = s 0 + n :=
  lpR_invk (P := fun k (g : Nat → Nat) => (∀ j, g j < 65536) ∧ g 0 = s 0 + k) (Nat.zero_le n) (fun k g hk h => ⟨ends_lt h.1 (by omega), by rw [ends_0, h.2]; omega⟩) ⟨cp16_lt hs h, cp16_0⟩
-- ===== the model's calls
def vHalf (p : Nat) (i d w : Int) : Bool := isP p i && isIn d 0 1 && isIn w 0 2
def g_half (bk s : Nat → Nat) (i d w : Int) : Int := if vHalf (bk 0) i d w then (if w.toNat = 0 then (bk (8 + 2 * i.toNat + d.toNat) : Int) else if w.toNat = 1 then (s (1 + 2 * i.toNat + d.toNat) : Int) else if d.toNat = s 0 % 2 then 0 else (s (11 + i.toNat) : Int)) else -1
def vSee (p : Nat) (i f : Int) : Bool := isP p i && isIn f 0 7
def g_seeS (bk s : Nat → Nat) (i f : Int) : Nat → Nat := if vSee (bk 0) i f then upN s (1 + 2 * i.toNat + s 0 % 2) (s (1 + 2 * i.toNat + s 0 % 2) ||| 1 * 2 ^ f.toNat) else s
def g_see (bk s : Nat → Nat) (i f : Int) : Int := if vSee (bk 0) i f then (g_seeS bk s i f (1 + 2 * i.toNat + g_seeS bk s i f 0 % 2) : Int) else -1
def bNote (s : Nat → Nat) (i f : Int) : Bool := decide (s (1 + 2 * i.toNat + s 0 % 2) / 2 ^ f.toNat &&& 1 = 0)
def g_noteS (bk s : Nat → Nat) (i f : Int) : Nat → Nat := if vSee (bk 0) i f then (if bNote s i f then s else upN s (11 + i.toNat) (s (11 + i.toNat) ||| 1 * 2 ^ f.toNat)) else s
def g_note (bk s : Nat → Nat) (i f : Int) : Int := if vSee (bk 0) i f then (if bNote s i f then -2 else (g_noteS bk s i f (11 + i.toNat) : Int)) else -1
def vDeed (p : Nat) (i f : Int) : Bool := isP p i && isIn f 0 255
def g_deed (bk s : Nat → Nat) (i f : Int) : Int := if vDeed (bk 0) i f then (if anot f.toNat (s (1 + 2 * i.toNat + s 0 % 2)) = 0 then 1 else 0) else -1
def vShift (s : Nat → Nat) (n : Int) : Bool := isIn n 1 40 && decide (s 0 + n.toNat ≤ 9999)
def g_shiftsA (bk s f : Nat → Nat) (n : Int) : Nat → Nat := if vShift s n then sp_plays bk s f n.toNat else f
def g_shiftsS (bk s f : Nat → Nat) (n : Int) : Nat → Nat := if vShift s n then cp16 (sp_plays bk s f n.toNat) s else s
def g_shifts (bk s f : Nat → Nat) (n : Int) : Int := if isIn n 1 40 then (if vShift s n then (g_shiftsS bk s f n 0 : Int) else -2) else -1
def vKnows (p : Nat) (n i d : Int) : Bool := isIn n 0 40 && isP p i && isIn d 0 1
def g_knowsA (bk s f : Nat → Nat) (n i d : Int) : Nat → Nat := if vKnows (bk 0) n i d then sp_plays bk s f n.toNat else f
def g_knows (bk s f : Nat → Nat) (n i d : Int) : Int := if vKnows (bk 0) n i d then (sp_plays bk s f n.toNat (1 + 2 * i.toNat + d.toNat) : Int) else -1
def vCould (n f : Int) : Bool := isIn n 0 40 && isIn f 0 255
def g_couldA (bk s f : Nat → Nat) (n x : Int) : Nat → Nat := if vCould n x then sp_plays bk s f n.toNat else f
def g_could (bk s f : Nat → Nat) (n x : Int) : Int := if vCould n x then (sp_who (bk 0) x.toNat (sp_plays bk s f n.toNat) : Int) else -1
/-- how many shifts till both halves know the same: fuel, count, what is known -/
def alF (bk : Nat → Nat) (i : Nat) : Nat → Nat → (Nat → Nat) → Nat × (Nat → Nat)
  | 0, n, f => (n, f)
  | m + 1, n, f => if f (1 + 2 * i) = f (2 + 2 * i) then (n, f) else alF bk i m (n + 1) (sp_ends bk f)
def alR (bk s f : Nat → Nat) (i : Nat) : Nat × (Nat → Nat) := alF bk i 40 0 (sp_plays bk s f 0)
def g_alikeA (bk s f : Nat → Nat) (i : Int) : Nat → Nat := if isP (bk 0) i then (alR bk s f i.toNat).2 else f
def g_alike (bk s f : Nat → Nat) (i : Int) : Int := if isP (bk 0) i then (if (alR bk s f i.toNat).2 (1 + 2 * i.toNat) = (alR bk s f i.toNat).2 (2 + 2 * i.toNat) then ((alR bk s f i.toNat).1 : Int) else -4) else -1
theorem alF_go {bk : Nat → Nat} {i n : Nat} {f : Nat → Nat} (hn : n < 40) (h : ¬ f (1 + 2 * i) = f (2 + 2 * i)) : alF bk i (40 - n) n f = alF bk i (40 - (n + 1)) (n + 1) (sp_ends bk f) := by
  rw [show 40 - n = (40 - (n + 1)) + 1 by omega]
  show (if f (1 + 2 * i) = f (2 + 2 * i) then (n, f) else alF bk i (40 - (n + 1)) (n + 1) (sp_ends bk f)) = _
  rw [if_neg h]
theorem alF_eq {bk : Nat → Nat} {i m n : Nat} {f : Nat → Nat} (h : f (1 + 2 * i) = f (2 + 2 * i)) : alF bk i m n f = (n, f) := by
  cases m with
  | zero => rfl
  | succ m => show (if f (1 + 2 * i) = f (2 + 2 * i) then (n, f) else _) = _; rw [if_pos h]
def vPurse (x y d : Int) : Bool := isIn x 0 9 && isIn y 0 9 && isIn d 0 1
def g_purse (bk : Nat → Nat) (x y d : Int) : Int := if vPurse x y d then (sp_holds (bk 5) (bk 6) (bk 7) x.toNat y.toNat d.toNat : Int) else -1
/-- rests, counted down: places yet to try, how many, the first -/
def rtF (P G H : Nat) : Nat → Nat → Int → Nat × Int
  | 0, a, b => (a, b)
  | j + 1, a, b => if sp_rest P G H (j / 10) (j % 10) then rtF P G H j (a + 1) (j : Int) else rtF P G H j a b
def rtR (bk : Nat → Nat) : Nat × Int := rtF (bk 5) (bk 6) (bk 7) 100 0 (-4)
def g_rests (bk : Nat → Nat) (w : Int) : Int := if isIn w 0 2 then (if w.toNat = 0 then ((rtR bk).1 : Int) else if (rtR bk).2 = -4 then -4 else if w.toNat = 1 then (((rtR bk).2.toNat / 10 : Nat) : Int) else (((rtR bk).2.toNat % 10 : Nat) : Int)) else -1
def cmB (bk : Nat → Nat) (way found : Nat) : Nat := if sp_parts bk way < sp_parts bk found then way else found
def cmR (bk : Nat → Nat) : Nat := lpR (cmB bk) (1 * 2 ^ bk 0) 1 0
def g_camps (bk : Nat → Nat) (w : Int) : Int := if isIn w 0 1 then (if w.toNat = 0 then (sp_parts bk (cmR bk) : Int) else (cmR bk : Int)) else -1
def vSeen (t f : Int) : Bool := isIn t 0 40 && isIn f 0 255
def g_count (M : St) (w : Int) : Int := if isIn w 0 2 then (M 2 w.toNat : Int) else if w = 3 then (M 4 0 : Int) else if w = 4 then (M 11 0 : Int) else if w = 5 then (M 7 0 : Int) else if w = 6 then (M 1 0 : Int) else if w = 7 then (M 2 3 : Int) else if w = 8 then (M 2 4 : Int) else -1
def cpK (s : Nat → Nat) (n : Nat) (f : Nat → Nat) : Nat → Nat := lpR (fun k f => upN f (16 * n + k) (s k)) 16 0 f
def cpB (kp : Nat → Nat) (n : Nat) (s : Nat → Nat) : Nat → Nat := lpR (fun k f => upN f k (kp (16 * n + k))) 16 0 s
