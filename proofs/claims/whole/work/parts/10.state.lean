def stR (M : St) (a : Nat) (f : Nat → Nat) : St := fun b => if b = a then f else M b
theorem upN_lt {f : Nat → Nat} {b k v : Nat} (h : ∀ k, f k < b) (hv : v < b) : ∀ j, upN f k v j < b := by
  intro j
  show (if j = k then v else f j) < b
  by_cases hj : j = k
  · rw [if_pos hj]; exact hv
  · rw [if_neg hj]; exact h j
theorem sx_rng (b : Nat) (h : b < 256) : -128 ≤ sx b ∧ sx b < 128 := by
  unfold sx
  split <;> omega
def wM (q : Nat → Nat) (cI : ClassId) (M : St) : va_W :=
  [(q 0, .inr (4, [.ref (q 1), .int (iI (M 1 0 : Int)), .ref (q 3), .ref (q 4), .ref (q 5), .ref (q 6), .ref (q 7), .int (iI (M 7 0 : Int)), .ref (q 9), .ref (q 10), .ref (q 11), .int (iI (M 11 0 : Int)), .int (iI (M 12 0 : Int)), .ref (q 14)])),
   (q 1, aI cI 300 (M 0)), (q 3, aI cI 80 (M 2)), (q 4, aI cI 80 (M 3)), (q 5, aI cI 16 (M 4)), (q 6, aI cI 16 (M 5)), (q 7, aI cI 32 (M 6)), (q 9, aI cI 10 (M 8)), (q 10, aI cI 10 (M 9)), (q 11, aI cI 10 (M 10)), (q 14, aI cI 4 (M 13))]
/-- a loop from k up to N -/
def lpF {α : Type} (f : Nat → α → α) : Nat → Nat → α → α
  | 0, _, a => a
  | n + 1, k, a => lpF f n (k + 1) (f k a)
def lpR {α : Type} (f : Nat → α → α) (N k : Nat) (a : α) : α := lpF f (N - k) k a
theorem lpR_step {α : Type} {f : Nat → α → α} {N k : Nat} {a : α} (h : k < N) : lpR f N k a = lpR f N (k + 1) (f k a) := by
  unfold lpR
  rw [show N - k = (N - (k + 1)) + 1 by omega]
  rfl
theorem lpR_end {α : Type} {f : Nat → α → α} {N k : Nat} {a : α} (h : ¬ k < N) : lpR f N k a = a := by
  unfold lpR
  rw [show N - k = 0 by omega]
  rfl
