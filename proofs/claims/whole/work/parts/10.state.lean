def stR (M : St) (a : Nat) (f : Nat → Nat) : St := fun b => if b = a then f else M b
theorem upN_lt {f : Nat → Nat} {b k v : Nat} (h : ∀ k, f k < b) (hv : v < b) : ∀ j, upN f k v j < b := by
  intro j
  show (if j = k then v else f j) < b
  by_cases hj : j = k
  · rw [if_pos hj]; exact hv
  · rw [if_neg hj]; exact h j
theorem sx_rng (b : Nat) (h : b < 256) : -128 ≤ sx b ∧ sx b < 128 := by
  unfold sx
  split <;> omega
def wM (q : Nat → Nat) (cI : ClassId) (M : St) : va_W :=
  [(q 0, .inr (4, [.ref (q 1), .int (iI (M 1 0 : Int)), .ref (q 3), .ref (q 4), .ref (q 5), .ref (q 6), .ref (q 7), .int (iI (M 7 0 : Int)), .ref (q 9), .ref (q 10), .ref (q 11), .int (iI (M 11 0 : Int)), .int (iI (M 12 0 : Int)), .ref (q 14)])),
   (q 1, aI cI 300 (M 0)), (q 3, aI cI 80 (M 2)), (q 4, aI cI 80 (M 3)), (q 5, aI cI 16 (M 4)), (q 6, aI cI 16 (M 5)), (q 7, aI cI 32 (M 6)), (q 9, aI cI 10 (M 8)), (q 10, aI cI 10 (M 9)), (q 11, aI cI 10 (M 10)), (q 14, aI cI 4 (M 13))]
/-- a loop from k up to N -/
def lpF {α : Type} (f : Nat → α → α) : Nat → Nat → α → α
  | 0, _, a => a
  | n + 1, k, a => lpF f n (k + 1) (f k a)
def lpR {α : Type} (f : Nat → α → α) (N k : Nat) (a : α) : α := lpF f (N - k) k a
theorem lpR_step {α : Type} {f : Nat → α → α} {N k : Nat} {a : α} (h : k < N) : lpR f N k a = lpR f N (k + 1) (f k a) := by
  unfold lpR
  rw [show N - k = (N - (k + 1)) + 1 by omega]
  rfl
theorem lpR_end {α : Type} {f : Nat → α → α} {N k : Nat} {a : α} (h : ¬ k < N) : lpR f N k a = a := by
  unfold lpR
  rw [show N - k = 0 by omega]
  rfl

theorem or16 {a b : Nat} (ha : a < 65536) (hb : b < 65536) : a ||| b < 65536 := bd_or 16 ha hb
theorem xor16 {a b : Nat} (ha : a < 65536) (hb : b < 65536) : a ^^^ b < 65536 := Nat.xor_lt_two_pow (n := 16) ha hb
theorem anot16 {a b : Nat} (ha : a < 65536) : anot a b < 65536 := bd_anot 16 ha
theorem pw16 : ∀ {i : Nat}, i < 16 → 1 * 2 ^ i < 65536 := by decide +kernel
theorem iI_prd {x : Nat} (h : x < 65536) : iI (x : Int) &&& iI ((x : Int) - (1 : Int)) = iI ((x &&& (x - 1) : Nat) : Int) := by
  rcases Nat.eq_zero_or_pos x with h0 | h0
  · subst h0; decide
  · rw [show ((x : Int) - (1 : Int)) = ((x - 1 : Nat) : Int) from by omega, iI_and]
theorem iI_not (y : Int) : iI y ^^^ iI (-1) = iI (-1 - y) := by
  rw [← iI_sub]
  apply Int32.toBitVec_inj.1
  show BitVec.ofInt 32 y ^^^ BitVec.ofInt 32 (-1) = BitVec.ofInt 32 (-1) - BitVec.ofInt 32 y
  have e : (BitVec.ofInt 32 (-1)) = BitVec.allOnes 32 := by decide
  rw [e, BitVec.xor_allOnes, BitVec.allOnes_sub_eq_not]
theorem iI_low {x : Nat} (h : x < 65536) : iI (x : Int) &&& iI (-(x : Int)) = iI ((anot x (x - 1) : Nat) : Int) := by
  rcases Nat.eq_zero_or_pos x with h0 | h0
  · subst h0; decide
  · rw [← iI_anot, iI_not, show (-1 - ((x - 1 : Nat) : Int)) = -(x : Int) from by omega]
def isIn (v a b : Int) : Bool := decide (a ≤ v ∧ v ≤ b)
def isP (p : Nat) (i : Int) : Bool := decide (0 ≤ i ∧ i < (p : Int))
theorem dec_congr {p q : Prop} [Decidable p] [Decidable q] (h : p ↔ q) : iI (((decide p).toNat : Nat) : Int) = iI (((decide q).toNat : Nat) : Int) := by
  by_cases hp : p
  · rw [decide_eq_true hp, decide_eq_true (h.mp hp)]
  · rw [decide_eq_false hp, decide_eq_false (fun z => hp (h.mpr z))]
theorem lpF_inv {α : Type} {P : α → Prop} {f : Nat → α → α} (hs : ∀ k a, P a → P (f k a)) : ∀ n k a, P a → P (lpF f n k a)
  | 0, _, _, h => h
  | n + 1, k, a, h => lpF_inv hs n (k + 1) (f k a) (hs k a h)
theorem lpR_inv {α : Type} {P : α → Prop} {f : Nat → α → α} (hs : ∀ k a, P a → P (f k a)) {N k : Nat} {a : α} (h : P a) : P (lpR f N k a) := lpF_inv hs _ _ _ h
theorem lpF_invk {α : Type} {P : Nat → α → Prop} {f : Nat → α → α} {N : Nat} (hs : ∀ k a, k < N → P k a → P (k + 1) (f k a)) : ∀ n k a, k + n = N → P k a → P N (lpF f n k a)
  | 0, k, a, e, h => by rw [show k = N by omega] at h; exact h
  | n + 1, k, a, e, h => lpF_invk hs n (k + 1) (f k a) (by omega) (hs k a (by omega) h)
/-- an invariant with the counter -/
theorem lpR_invk {α : Type} {P : Nat → α → Prop} {f : Nat → α → α} {N k : Nat} {a : α} (hk : k ≤ N) (hs : ∀ k a, k < N → P k a → P (k + 1) (f k a)) (h : P k a) : P N (lpR f N k a) := lpF_invk hs _ _ _ (by omega) h
-- ===== the model's questions
def tlB (p : Nat × Nat) : Nat × Nat := (p.1 ||| anot p.2 (p.2 - 1), p.2 &&& (p.2 - 1))
def sp_tells (N a b : Nat) : Nat := (lpR (fun _ => tlB) N 0 (0, anot a b)).1
theorem tells_lt {N a b : Nat} (ha : a < 65536) : sp_tells N a b < 65536 := by
  have h : (lpR (fun _ => tlB) N 0 (0, anot a b)).1 < 65536 ∧ (lpR (fun _ => tlB) N 0 (0, anot a b)).2 < 65536 := lpR_inv (P := fun (p : Nat × Nat) => p.1 < 65536 ∧ p.2 < 65536) (fun k p h => ⟨or16 h.1 (anot16 h.2), Nat.lt_of_le_of_lt Nat.and_le_left h.2⟩) ⟨Nat.zero_lt_succ _, anot16 ha⟩
  exact h.1
def sp_has (bk : Nat → Nat) (i d j k : Nat) : Bool := decide (bk (8 + 2 * i + d) / 2 ^ bk (32 + 8 * j + k) &&& 1 = 1)
def sp_camp (way half : Nat) : Nat := (way / 2 ^ (half / 2) &&& 1) ^^^ half % 2
theorem camp_lt {way half : Nat} : sp_camp way half < 2 := by
  unfold sp_camp
  have h1 : (way / 2 ^ (half / 2) &&& 1) < 2 ^ 1 := Nat.lt_of_le_of_lt Nat.and_le_right (by decide)
  have h2 : half % 2 < 2 ^ 1 := Nat.mod_lt _ (by decide)
  exact Nat.xor_lt_two_pow h1 h2
def sp_holds (P G H x y d : Nat) : Nat := if P < x + y then 0 else (if d = 0 then x * G else y * H) + (P - x - y) / 2
def wkB (facts : Nat) (f : Nat → Nat) (i set : Nat) : Nat := set ||| (if anot facts (f (1 + 2 * i + f 0 % 2)) = 0 then 1 * 2 ^ i else 0)
def sp_who (p facts : Nat) (f : Nat → Nat) : Nat := lpR (wkB facts f) p 0 0
theorem who_lt {p facts : Nat} {f : Nat → Nat} (hp : p ≤ 5) : sp_who p facts f < 32 := by
  have h : sp_who p facts f < 2 ^ 5 := lpR_invk (P := fun k a => a < 2 ^ 5) (Nat.zero_le p) (fun k a hk h => Nat.or_lt_two_pow h (by
    split
    · rw [Nat.one_mul]; exact Nat.pow_lt_pow_right (by decide) (by omega)
    · decide)) (by decide)
  exact h
def ptB (bk : Nat → Nat) (way k n : Nat) : Nat := n + (if sp_camp way (bk (64 + 2 * k)) = sp_camp way (bk (64 + 2 * k + 1)) then 0 else 1)
def sp_parts (bk : Nat → Nat) (way : Nat) : Nat := lpR (ptB bk way) (bk 2) 0 0
theorem parts_le {bk : Nat → Nat} {way : Nat} : sp_parts bk way ≤ bk 2 := lpR_invk (P := fun k a => a ≤ k) (Nat.zero_le _) (fun k a _ h => by unfold ptB; split <;> omega) (Nat.le_refl 0)
def rsB (P G H x y v : Nat) (b : Bool) : Bool := b && decide (sp_holds P G H v y 0 ≤ sp_holds P G H x y 0) && decide (sp_holds P G H x v 1 ≤ sp_holds P G H x y 1)
def sp_rest (P G H x y : Nat) : Bool := lpR (rsB P G H x y) 10 0 true
theorem holds_le {P G H x y d : Nat} (hP : P < 256) (hG : G < 256) (hH : H < 256) (hx : x < 10) (hy : y < 10) : sp_holds P G H x y d < 4096 := by
  unfold sp_holds
  split
  · decide
  · have h1 : x * G ≤ 9 * 255 := Nat.mul_le_mul (by omega) (by omega)
    have h2 : y * H ≤ 9 * 255 := Nat.mul_le_mul (by omega) (by omega)
    split <;> omega
