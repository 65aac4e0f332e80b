-- ===== the class: the town
def Tok (T : St) : Prop := (T 0 0 ≤ 5 ∧ T 3 0 ≤ 4 ∧ T 6 0 ≤ 8 ∧ T 7 0 ≤ 8 ∧ T 9 0 ≤ 8 ∧ T 10 0 ≤ 8 ∧ T 11 0 ≤ 20 ∧ T 12 0 ≤ 9 ∧ T 13 0 ≤ 9) ∧ (∀ k, T 1 k < 256) ∧ (∀ k, T 2 k < 256) ∧ (∀ k, T 4 k < 6) ∧ (∀ k, T 5 k < 9) ∧ (∀ k, T 8 k < 16)
def vAP (p x y : Nat) : Bool := decide (p < 5 ∧ ¬ 63 < x ∧ ¬ 63 < y)
def apS (p x y : Nat) (f : Nat → Nat) : Nat → Nat := if vAP p x y then upN (upN f (2 * p) x) (2 * p + 1) y else f
def apK (p x y : Nat) (f : Nat → Nat) : Nat → Nat := if vAP p x y then upN (upN f (2 * p) 0) (2 * p + 1) 0 else f
def apP (p x y : Nat) : Nat := if vAP p x y then p + 1 else p
def vAS (t o : Nat) (z : Int) : Bool := decide (t < 4 ∧ o < 8 ∧ 0 ≤ z ∧ z ≤ 5)
def asS (t o : Nat) (z : Int) (f : Nat → Nat) : Nat → Nat := if vAS t o z then upN f (8 * t + o) z.toNat else f
def asO (t o : Nat) (z : Int) : Nat := if vAS t o z then o + 1 else o
def vET (t o : Nat) : Bool := decide (t < 4 ∧ ¬ o = 0)
def etL (t o : Nat) (f : Nat → Nat) : Nat → Nat := if vET t o then upN f t o else f
def etO (t o : Nat) : Nat := if vET t o then 0 else o
def etT (t o : Nat) : Nat := if vET t o then t + 1 else t
def vSC (x : Nat) : Bool := decide (1 ≤ x ∧ x ≤ 8)
def vSN (x : Nat) : Bool := decide (x ≤ 8)
def hHere (p i d : Nat) : Bool := decide (i < p ∧ d < 2)
def vSK (p i d f : Nat) : Bool := decide (i < p ∧ d < 2 ∧ f ≤ 255)
def skK (p i d x : Nat) (f : Nat → Nat) : Nat → Nat := if vSK p i d x then upN f (2 * i + d) x else f
def vPR (n p i d j e : Nat) : Bool := decide (n < 8 ∧ (i < p ∧ d < 2) ∧ (j < p ∧ e < 2) ∧ ¬ i = j)
def prH (n p i d j e : Nat) (f : Nat → Nat) : Nat → Nat := if vPR n p i d j e then upN (upN f (2 * n) (2 * i + d)) (2 * n + 1) (2 * j + e) else f
def prN (n p i d j e : Nat) : Nat := if vPR n p i d j e then n + 1 else n
def vPU (x y z : Nat) : Bool := decide (x ≤ 20 ∧ (1 ≤ y ∧ y ≤ 9) ∧ (1 ≤ z ∧ z ≤ 9))
def ifV (b : Bool) (x y : Nat) : Nat := if b then x else y
def cSk (sk st : Nat → Nat) (i d j k : Nat) : Bool := !decide (sk (2 * i + d) / 2 ^ st (8 * j + k) &&& 1 = 0)
/-- steps of one shift: fuel, the next step -/
def saF (sk st : Nat → Nat) (i d j : Nat) : Nat → Nat → Nat
  | 0, b => b
  | m + 1, b => if cSk sk st i d j b then saF sk st i d j m (b + 1) else b
def sp_sa (sk st tl : Nat → Nat) (c i d j b : Nat) : Nat := saF sk st i d j (min (tl j) (b + c) - b) b
theorem saF_go {sk st : Nat → Nat} {i d j n b : Nat} (hb : b < n) (h : cSk sk st i d j b = true) : saF sk st i d j (n - b) b = saF sk st i d j (n - (b + 1)) (b + 1) := by
  rw [show n - b = (n - (b + 1)) + 1 by omega]
  show (if cSk sk st i d j b then _ else _) = _
  rw [if_pos h]
theorem saF_stop {sk st : Nat → Nat} {i d j m b : Nat} (h : cSk sk st i d j b = false) : saF sk st i d j m b = b := by
  cases m with
  | zero => rfl
  | succ m => show (if cSk sk st i d j b then _ else _) = _; rw [if_neg (by rw [h]; decide)]
theorem saF_le {sk st : Nat → Nat} {i d j : Nat} : ∀ m b, b ≤ saF sk st i d j m b ∧ saF sk st i d j m b ≤ b + m
  | 0, b => ⟨Nat.le_refl b, Nat.le_refl b⟩
  | m + 1, b => by
    show b ≤ (if cSk sk st i d j b then _ else _) ∧ (if cSk sk st i d j b then _ else _) ≤ b + (m + 1)
    split
    · have := saF_le (sk := sk) (st := st) (i := i) (d := d) (j := j) m (b + 1); omega
    · omega
theorem sa_le {sk st tl : Nat → Nat} {c i d j b : Nat} (hb : b ≤ tl j) : b ≤ sp_sa sk st tl c i d j b ∧ sp_sa sk st tl c i d j b ≤ tl j := by
  have := saF_le (sk := sk) (st := st) (i := i) (d := d) (j := j) (min (tl j) (b + c) - b) b
  unfold sp_sa
  omega
/-- shifts needed: fuel, shift, the next step -/
def snF (sk st tl : Nat → Nat) (c i j s0 : Nat) : Nat → Nat → Nat → Int
  | 0, _, _ => -4
  | m + 1, n, b => if sp_sa sk st tl c i ((s0 + n) &&& 1) j b < tl j then snF sk st tl c i j s0 m (n + 1) (sp_sa sk st tl c i ((s0 + n) &&& 1) j b) else ((n + 1 : Nat) : Int)
def sp_sn (sk st tl : Nat → Nat) (c i j s0 : Nat) : Int := snF sk st tl c i j s0 16 0 0
theorem snF_go {sk st tl : Nat → Nat} {c i j s0 n b : Nat} (hn : n < 16) (h : sp_sa sk st tl c i ((s0 + n) &&& 1) j b < tl j) : snF sk st tl c i j s0 (16 - n) n b = snF sk st tl c i j s0 (16 - (n + 1)) (n + 1) (sp_sa sk st tl c i ((s0 + n) &&& 1) j b) := by
  rw [show 16 - n = (16 - (n + 1)) + 1 by omega]
  show (if sp_sa sk st tl c i ((s0 + n) &&& 1) j b < tl j then _ else _) = _
  rw [if_pos h]
theorem snF_stop {sk st tl : Nat → Nat} {c i j s0 n b : Nat} (hn : n < 16) (h : ¬ sp_sa sk st tl c i ((s0 + n) &&& 1) j b < tl j) : snF sk st tl c i j s0 (16 - n) n b = ((n + 1 : Nat) : Int) := by
  rw [show 16 - n = (16 - (n + 1)) + 1 by omega]
  show (if sp_sa sk st tl c i ((s0 + n) &&& 1) j b < tl j then _ else _) = _
  rw [if_neg h]
theorem snF_rng {sk st tl : Nat → Nat} {c i j s0 : Nat} : ∀ m n b, n + m < 1000 → -4 ≤ snF sk st tl c i j s0 m n b ∧ snF sk st tl c i j s0 m n b < 1000 ∧ (snF sk st tl c i j s0 m n b = -4 ∨ 0 < snF sk st tl c i j s0 m n b)
  | 0, n, b, h => by show -4 ≤ (-4 : Int) ∧ (-4 : Int) < 1000 ∧ ((-4 : Int) = -4 ∨ 0 < (-4 : Int)); omega
  | m + 1, n, b, h => by
    have ih := snF_rng (sk := sk) (st := st) (tl := tl) (c := c) (i := i) (j := j) (s0 := s0) m (n + 1) (sp_sa sk st tl c i ((s0 + n) &&& 1) j b) (by omega)
    unfold snF
    split <;> omega
theorem sn_rng {sk st tl : Nat → Nat} {c i j s0 : Nat} : -4 ≤ sp_sn sk st tl c i j s0 ∧ sp_sn sk st tl c i j s0 < 1000 ∧ (sp_sn sk st tl c i j s0 = -4 ∨ 0 < sp_sn sk st tl c i j s0) := snF_rng 16 0 0 (by decide)
def fhB (sk st : Nat → Nat) (i j k : Nat) (a : Nat × Nat) : Nat × Nat := (if cSk sk st i 0 j k then min a.1 (a.2 + 1) else 16, if cSk sk st i 1 j k then min a.2 (a.1 + 1) else 16)
def fhR (sk st tl : Nat → Nat) (i j : Nat) : Nat × Nat := lpR (fhB sk st i j) (tl j) 0 (0, 0)
def sp_fh (sk st tl : Nat → Nat) (i j : Nat) : Int := if min (fhR sk st tl i j).1 (fhR sk st tl i j).2 < 16 then ((min (fhR sk st tl i j).1 (fhR sk st tl i j).2 : Nat) : Int) else -4
def cmpO (row way : Nat) : Nat := (way / 2 ^ (row / 2 ^ 1) &&& 1) ^^^ (row &&& 1)
theorem cmpO_lt {row way : Nat} : cmpO row way < 2 := by
  unfold cmpO
  have h1 : (way / 2 ^ (row / 2 ^ 1) &&& 1) < 2 ^ 1 := Nat.lt_of_le_of_lt Nat.and_le_right (by decide)
  have h2 : (row &&& 1) < 2 ^ 1 := Nat.lt_of_le_of_lt Nat.and_le_right (by decide)
  exact Nat.xor_lt_two_pow h1 h2
def pgB (ph : Nat → Nat) (way k n : Nat) : Nat := if cmpO (ph (2 * k)) way = cmpO (ph (2 * k + 1)) way then n else n + 1
def sp_pg (ph : Nat → Nat) (n way : Nat) : Nat := lpR (pgB ph way) n 0 0
theorem pg_le {ph : Nat → Nat} {n way : Nat} : sp_pg ph n way ≤ n := lpR_invk (P := fun k a => a ≤ k) (Nat.zero_le _) (fun k a _ h => by unfold pgB; split <;> omega) (Nat.le_refl 0)
def sp_pd (p d : Nat) : Nat := if 0 < p then d / 8 % p else 0
-- ===== the class: the page
def sp_nx (b : Nat → Nat) (n k : Nat) : Int := if k < n then sx (b k) else -1
theorem nx_val {b : Nat → Nat} {n k : Nat} (h : ∀ k, b k < 256) : (-128 ≤ sx (b k) ∧ sx (b k) < 128) ∧ ((k < n ∧ sp_nx b n k = sx (b k)) ∨ (n ≤ k ∧ sp_nx b n k = -1)) := by
  refine ⟨sx_rng _ (h k), ?_⟩
  unfold sp_nx
  by_cases hk : k < n
  · rw [if_pos hk]; exact Or.inl ⟨hk, rfl⟩
  · rw [if_neg hk]; exact Or.inr ⟨Nat.not_lt.mp hk, rfl⟩
/-- a number: fuel, place, number -/
def rnF (b : Nat → Nat) (n : Nat) : Nat → Nat → Int → Nat × Int
  | 0, a, v => (a, v)
  | m + 1, a, v => if ¬ sp_nx b n a < 48 ∧ ¬ 57 < sp_nx b n a then rnF b n m (a + 1) (max v 0 * 10 + sp_nx b n a - 48) else (a, v)
theorem rnF_go {b : Nat → Nat} {n k a : Nat} {v : Int} (hk : k < 3) (h : ¬ sp_nx b n a < 48 ∧ ¬ 57 < sp_nx b n a) : rnF b n (3 - k) a v = rnF b n (3 - (k + 1)) (a + 1) (max v 0 * 10 + sp_nx b n a - 48) := by
  rw [show 3 - k = (3 - (k + 1)) + 1 by omega]
  show (if ¬ sp_nx b n a < 48 ∧ ¬ 57 < sp_nx b n a then _ else _) = _
  rw [if_pos h]
theorem rnF_stop {b : Nat → Nat} {n m a : Nat} {v : Int} (h : ¬ (¬ sp_nx b n a < 48 ∧ ¬ 57 < sp_nx b n a)) : rnF b n m a v = (a, v) := by
  cases m with
  | zero => rfl
  | succ m => show (if ¬ sp_nx b n a < 48 ∧ ¬ 57 < sp_nx b n a then _ else _) = _; rw [if_neg h]
def sp_rn (b : Nat → Nat) (n a : Nat) : Nat × Int := rnF b n 3 a (-1)
theorem rnF_all {b : Nat → Nat} {n : Nat} (hb : ∀ k, b k < 256) : ∀ m a v, a ≤ n → -1 ≤ v → ((m = 3 ∧ v < 1) ∨ (m = 2 ∧ v < 10) ∨ (m = 1 ∧ v < 100) ∨ (m = 0 ∧ v < 1000)) → (a ≤ (rnF b n m a v).1 ∧ (rnF b n m a v).1 ≤ n) ∧ -1 ≤ (rnF b n m a v).2 ∧ (rnF b n m a v).2 < 1000
  | 0, a, v, h, h1, hv => by show (a ≤ a ∧ a ≤ n) ∧ -1 ≤ v ∧ v < 1000; omega
  | m + 1, a, v, h, h1, hv => by
    by_cases hf : ¬ sp_nx b n a < 48 ∧ ¬ 57 < sp_nx b n a
    · have hq := @nx_val b n a hb
      have ih := rnF_all (b := b) (n := n) hb m (a + 1) (max v 0 * 10 + sp_nx b n a - 48) (by omega) (by omega) (by omega)
      have e : rnF b n (m + 1) a v = rnF b n m (a + 1) (max v 0 * 10 + sp_nx b n a - 48) := by
        show (if ¬ sp_nx b n a < 48 ∧ ¬ 57 < sp_nx b n a then _ else _) = _
        rw [if_pos hf]
      rw [e]
      exact ⟨⟨by omega, ih.1.2⟩, ih.2⟩
    · rw [rnF_stop hf]
      show (a ≤ a ∧ a ≤ n) ∧ -1 ≤ v ∧ v < 1000
      omega
theorem rn_all {b : Nat → Nat} {n a : Nat} (hb : ∀ k, b k < 256) (h : a ≤ n) : (a ≤ (sp_rn b n a).1 ∧ (sp_rn b n a).1 ≤ n) ∧ -1 ≤ (sp_rn b n a).2 ∧ (sp_rn b n a).2 < 1000 := rnF_all hb 3 a (-1) h (by omega) (by omega)
def vRS (b : Nat → Nat) (n a : Nat) (x : Int) : Bool := decide (sp_nx b n a = x)
def rsA (b : Nat → Nat) (n a : Nat) (x : Int) : Nat := if vRS b n a x then a + 1 else a
/-- numbers: fuel, which, place, numbers -/
def rmF (b : Nat → Nat) (n w : Nat) : Nat → Nat → Nat → (Nat → Nat) → Bool × Nat × (Nat → Nat)
  | 0, _, a, g => (true, a, g)
  | m + 1, k, a, g => if (sp_rn b n a).2 < 0 then (false, (sp_rn b n a).1, g) else if vRS b n (sp_rn b n a).1 (if k + 1 < w then 44 else 59) = true then rmF b n w m (k + 1) ((sp_rn b n a).1 + 1) (upN g k (sp_rn b n a).2.toNat) else (false, (sp_rn b n a).1, g)
def sp_rm (b : Nat → Nat) (n w a : Nat) (g : Nat → Nat) : Bool × Nat × (Nat → Nat) := rmF b n w w 0 a g
theorem rmF_bad {b g : Nat → Nat} {n w m k a : Nat} (h : (sp_rn b n a).2 < 0) : rmF b n w (m + 1) k a g = (false, (sp_rn b n a).1, g) := by
  show (if (sp_rn b n a).2 < 0 then _ else _) = _
  rw [if_pos h]
theorem rmF_no {b g : Nat → Nat} {n w m k a : Nat} (h : ¬ (sp_rn b n a).2 < 0) (h2 : vRS b n (sp_rn b n a).1 (if k + 1 < w then 44 else 59) = false) : rmF b n w (m + 1) k a g = (false, (sp_rn b n a).1, g) := by
  show (if (sp_rn b n a).2 < 0 then _ else _) = _
  rw [if_neg h, if_neg (by rw [h2]; decide)]
theorem rmF_go {b g : Nat → Nat} {n w m k a : Nat} (h : ¬ (sp_rn b n a).2 < 0) (h2 : vRS b n (sp_rn b n a).1 (if k + 1 < w then 44 else 59) = true) : rmF b n w (m + 1) k a g = rmF b n w m (k + 1) ((sp_rn b n a).1 + 1) (upN g k (sp_rn b n a).2.toNat) := by
  show (if (sp_rn b n a).2 < 0 then _ else _) = _
  rw [if_neg h, if_pos h2]
theorem vRS_lt {b : Nat → Nat} {n a : Nat} {x : Int} (hx : 0 ≤ x) (h : vRS b n a x = true) : a < n := by
  unfold vRS sp_nx at h
  rw [decide_eq_true_eq] at h
  split at h
  · assumption
  · omega
theorem rmF_all {b : Nat → Nat} {n w : Nat} (hb : ∀ k, b k < 256) : ∀ m k a (g : Nat → Nat), a ≤ n → (∀ j, g j < 1000) → (a ≤ (rmF b n w m k a g).2.1 ∧ (rmF b n w m k a g).2.1 ≤ n) ∧ ∀ j, (rmF b n w m k a g).2.2 j < 1000
  | 0, k, a, g, h, hg => ⟨⟨Nat.le_refl a, h⟩, hg⟩
  | m + 1, k, a, g, h, hg => by
    have hr := rn_all (a := a) hb h
    by_cases h1 : (sp_rn b n a).2 < 0
    · rw [rmF_bad h1]; exact ⟨hr.1, hg⟩
    · cases h2 : vRS b n (sp_rn b n a).1 (if k + 1 < w then 44 else 59)
      · rw [rmF_no h1 h2]; exact ⟨hr.1, hg⟩
      · rw [rmF_go h1 h2]
        have hl := vRS_lt (by split <;> omega) h2
        have ih := rmF_all (b := b) (n := n) (w := w) hb m (k + 1) ((sp_rn b n a).1 + 1) (upN g k (sp_rn b n a).2.toNat) (by omega) (upN_lt hg (by omega))
        exact ⟨⟨by omega, ih.1.2⟩, ih.2⟩
theorem rm_all {b g : Nat → Nat} {n w a : Nat} (hb : ∀ k, b k < 256) (h : a ≤ n) (hg : ∀ j, g j < 1000) : (a ≤ (sp_rm b n w a g).2.1 ∧ (sp_rm b n w a g).2.1 ≤ n) ∧ ∀ j, (sp_rm b n w a g).2.2 j < 1000 := rmF_all hb w 0 a g h hg
