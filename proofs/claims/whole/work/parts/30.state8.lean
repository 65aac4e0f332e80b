-- ===== the class: worlds
def wS (q : Nat → Nat) (cI : ClassId) (S : St) : va_W :=
  [(q 0, .inr (1, [.int (iI (S 0 0 : Int)), .ref (q 2), .ref (q 3)])), (q 2, aI cI 10 (S 1)), (q 3, aI cI 5 (S 2))]
def wT (q : Nat → Nat) (cI : ClassId) (T : St) : va_W :=
  [(q 0, .inr (2, [.int (iI (T 0 0 : Int)), .ref (q 2), .ref (q 3), .int (iI (T 3 0 : Int)), .ref (q 5), .ref (q 6), .int (iI (T 6 0 : Int)), .int (iI (T 7 0 : Int)), .ref (q 9), .int (iI (T 9 0 : Int)), .int (iI (T 10 0 : Int)), .int (iI (T 11 0 : Int)), .int (iI (T 12 0 : Int)), .int (iI (T 13 0 : Int))])),
   (q 2, aI cI 10 (T 1)), (q 3, aI cI 10 (T 2)), (q 5, aI cI 32 (T 4)), (q 6, aI cI 4 (T 5)), (q 9, aI cI 16 (T 8))]
def wP (q : Nat → Nat) (cI cB : ClassId) (P : St) : va_W :=
  [(q 0, .inr (0, [.ref (q 1), .int (iI (P 1 0 : Int)), .int (iI (P 2 0 : Int)), .ref (q 4)])), (q 1, aB cB 300 (P 0)), (q 4, aI cI 4 (P 3))]
-- ===== the class: how they stand
def hAll (k f : Nat) : Bool := decide (k &&& f = f)
def loF : Nat → Nat → Nat
  | 0, r => r
  | m + 1, r => if r = 0 then r else loF m (r &&& (r - 1))
theorem loF_le : ∀ m r, loF m r ≤ r
  | 0, r => Nat.le_refl r
  | m + 1, r => by
    show (if r = 0 then r else loF m (r &&& (r - 1))) ≤ r
    split
    · exact Nat.le_refl r
    · exact Nat.le_trans (loF_le m _) Nat.and_le_left
def sp_low (x n : Nat) : Nat := anot x (loF n x)
theorem low_lt {x n : Nat} (h : x < 65536) : sp_low x n < 65536 := anot16 h
theorem loF_go {n k r : Nat} (hk : k < n) (h : ¬ r = 0) : loF (n - k) r = loF (n - (k + 1)) (r &&& (r - 1)) := by
  rw [show n - k = (n - (k + 1)) + 1 by omega]
  show (if r = 0 then r else loF (n - (k + 1)) (r &&& (r - 1))) = _
  rw [if_neg h]
theorem loF_stop {m r : Nat} (h : r = 0) : loF m r = r := by
  cases m with
  | zero => rfl
  | succ m => show (if r = 0 then r else _) = _; rw [if_pos h]
def tlK (N i : Nat) (f : Nat → Nat) : Nat → Nat := upN (upN f (2 * i) (f (2 * i) ||| sp_low (anot (f (2 * i + 1)) (f (2 * i))) N)) (2 * i + 1) (f (2 * i + 1) ||| sp_low (anot (f (2 * i)) (f (2 * i + 1))) N)
theorem tlK_lt {N i : Nat} {f : Nat → Nat} (h : ∀ k, f k < 65536) : ∀ k, tlK N i f k < 65536 := upN_lt (upN_lt h (or16 (h _) (low_lt (anot16 (h _))))) (or16 (h _) (low_lt (anot16 (h _))))
def nrK (n i : Nat) (f h : Nat → Nat) : Nat → Nat := upN f (2 * i + 1 - (n &&& 1)) (f (2 * i + 1 - (n &&& 1)) ||| h i)
theorem nrK_lt {n i : Nat} {f h : Nat → Nat} (hf : ∀ k, f k < 65536) (hh : ∀ k, h k < 65536) : ∀ k, nrK n i f h k < 65536 := upN_lt hf (or16 (hf _) (hh _))
/-- one person behind a shift: what is known, what hangs -/
def esI (N n i : Nat) (a : (Nat → Nat) × (Nat → Nat)) : (Nat → Nat) × (Nat → Nat) := (nrK n i (tlK N i a.1) a.2, upN a.2 i 0)
def esP (p N n : Nat) (f h : Nat → Nat) : (Nat → Nat) × (Nat → Nat) := lpR (esI N n) p 0 (f, h)
def esB (p N : Nat) (a : Nat × (Nat → Nat) × (Nat → Nat)) : Nat × (Nat → Nat) × (Nat → Nat) := (a.1 + 1, esP p N a.1 a.2.1 a.2.2)
/-- k shifts end: the shift, what is known, what hangs -/
def sp_es (p N k n : Nat) (f h : Nat → Nat) : Nat × (Nat → Nat) × (Nat → Nat) := lpR (fun _ => esB p N) k 0 (n, f, h)
theorem esP_lt {p N n : Nat} {f h : Nat → Nat} (hf : ∀ k, f k < 65536) (hh : ∀ k, h k < 65536) : (∀ k, (esP p N n f h).1 k < 65536) ∧ ∀ k, (esP p N n f h).2 k < 65536 :=
  lpR_inv (P := fun (a : (Nat → Nat) × (Nat → Nat)) => (∀ k, a.1 k < 65536) ∧ ∀ k, a.2 k < 65536) (fun i a h => ⟨nrK_lt (tlK_lt h.1) h.2, upN_lt h.2 (by decide)⟩) ⟨hf, hh⟩
theorem es_all {p N k n : Nat} {f h : Nat → Nat} (hf : ∀ k, f k < 65536) (hh : ∀ k, h k < 65536) : (sp_es p N k n f h).1 = n + k ∧ (∀ j, (sp_es p N k n f h).2.1 j < 65536) ∧ ∀ j, (sp_es p N k n f h).2.2 j < 65536 :=
  lpR_invk (P := fun k (a : Nat × (Nat → Nat) × (Nat → Nat)) => a.1 = n + k ∧ (∀ j, a.2.1 j < 65536) ∧ ∀ j, a.2.2 j < 65536) (Nat.zero_le k) (fun k a _ h => ⟨by show a.1 + 1 = _; omega, (esP_lt h.2.1 h.2.2).1, (esP_lt h.2.1 h.2.2).2⟩) ⟨rfl, hf, hh⟩
def abB (facts n : Nat) (f : Nat → Nat) (i set : Nat) : Nat := if hAll (f (2 * i + (n &&& 1))) facts then set ||| 1 * 2 ^ i else set
def sp_able (facts p n : Nat) (f : Nat → Nat) : Nat := lpR (abB facts n f) p 0 0
theorem able_lt {facts p n : Nat} {f : Nat → Nat} (hp : p ≤ 5) : sp_able facts p n f < 32 := by
  have h : sp_able facts p n f < 2 ^ 5 := lpR_invk (P := fun k a => a < 2 ^ 5) (Nat.zero_le p) (fun k a hk h => by
    unfold abB
    split
    · exact Nat.or_lt_two_pow h (by rw [Nat.one_mul]; exact Nat.pow_lt_pow_right (by decide) (by omega))
    · exact h) (by decide)
  exact h
def clr5 (h : Nat → Nat) : Nat → Nat := lpR (fun i h => upN h i 0) 5 0 h
theorem clr5_lt {h : Nat → Nat} (hh : ∀ k, h k < 65536) : ∀ k, clr5 h k < 65536 := lpR_inv (P := fun (f : Nat → Nat) => ∀ k, f k < 65536) (fun _ _ h => upN_lt h (by decide)) hh
theorem cpN_lt {f g : Nat → Nat} {n b : Nat} (hf : ∀ k, f k < b) (hg : ∀ k, g k < b) : ∀ k, cpN f g n k < b := by
  intro k
  show (if k < n then f k else g k) < b
  split
  · exact hf k
  · exact hg k
