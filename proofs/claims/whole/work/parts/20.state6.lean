-- ===== the model: reading the text
def sp_byte (t : Nat → Nat) (n k : Nat) : Int := if k < n then (t k : Int) else -1
theorem byte_val {t : Nat → Nat} {n k : Nat} (h : ∀ k, t k < 256) : t k < 256 ∧ ((k < n ∧ sp_byte t n k = (t k : Int)) ∨ (n ≤ k ∧ sp_byte t n k = -1)) := by
  refine ⟨h k, ?_⟩
  unfold sp_byte
  by_cases hk : k < n
  · rw [if_pos hk]; exact Or.inl ⟨hk, rfl⟩
  · rw [if_neg hk]; exact Or.inr ⟨Nat.not_lt.mp hk, rfl⟩
def isFig (t : Nat → Nat) (n k : Nat) : Bool := isIn (sp_byte t n k) 48 57
/-- figures of one number: fuel, place, number -/
def nmI (t : Nat → Nat) (n : Nat) : Nat → Nat → Nat → Nat × Nat
  | 0, a, v => (a, v)
  | m + 1, a, v => if isFig t n a then nmI t n m (a + 1) (10 * v + t a - 48) else (a, v)
theorem nmI_go {t : Nat → Nat} {n m a v : Nat} (h : isFig t n a = true) : nmI t n (m + 1) a v = nmI t n m (a + 1) (10 * v + t a - 48) := by
  show (if isFig t n a then _ else _) = _
  rw [if_pos h]
theorem nmI_stop {t : Nat → Nat} {n m a v : Nat} (h : isFig t n a = false) : nmI t n m a v = (a, v) := by
  cases m with
  | zero => rfl
  | succ m => show (if isFig t n a then _ else _) = _; rw [if_neg (by rw [h]; decide)]
/-- numbers: fuel, which, place, told -/
def nmO (t : Nat → Nat) (n w : Nat) : Nat → Nat → Nat → (Nat → Nat) → Bool × Nat × (Nat → Nat)
  | 0, _, a, g => (true, a, g)
  | m + 1, k, a, g => if (nmI t n 3 a 0).1 = a ∨ ¬ sp_byte t n (nmI t n 3 a 0).1 = (if k < w - 1 then 44 else 59) then (false, (nmI t n 3 a 0).1, upN g k (nmI t n 3 a 0).2) else nmO t n w m (k + 1) ((nmI t n 3 a 0).1 + 1) (upN g k (nmI t n 3 a 0).2)
def sp_num (t : Nat → Nat) (n w a : Nat) (g : Nat → Nat) : Bool × Nat × (Nat → Nat) := nmO t n w w 0 a g
theorem nmO_go {t g : Nat → Nat} {n w m k a : Nat} (h : ¬ ((nmI t n 3 a 0).1 = a ∨ ¬ sp_byte t n (nmI t n 3 a 0).1 = (if k < w - 1 then 44 else 59))) : nmO t n w (m + 1) k a g = nmO t n w m (k + 1) ((nmI t n 3 a 0).1 + 1) (upN g k (nmI t n 3 a 0).2) := by
  show (if (nmI t n 3 a 0).1 = a ∨ ¬ sp_byte t n (nmI t n 3 a 0).1 = (if k < w - 1 then 44 else 59) then _ else _) = _
  rw [if_neg h]
theorem nmO_stop {t g : Nat → Nat} {n w m k a : Nat} (h : (nmI t n 3 a 0).1 = a ∨ ¬ sp_byte t n (nmI t n 3 a 0).1 = (if k < w - 1 then 44 else 59)) : nmO t n w (m + 1) k a g = (false, (nmI t n 3 a 0).1, upN g k (nmI t n 3 a 0).2) := by
  show (if (nmI t n 3 a 0).1 = a ∨ ¬ sp_byte t n (nmI t n 3 a 0).1 = (if k < w - 1 then 44 else 59) then _ else _) = _
  rw [if_pos h]
theorem isFig_iff {t : Nat → Nat} {n k : Nat} : isFig t n k = true ↔ k < n ∧ 48 ≤ t k ∧ t k ≤ 57 := by
  unfold isFig isIn sp_byte
  rw [decide_eq_true_eq]
  split <;> omega
theorem nmI_all {t : Nat → Nat} {n : Nat} : ∀ m a v, a ≤ n → ((m = 3 ∧ v < 1) ∨ (m = 2 ∧ v < 10) ∨ (m = 1 ∧ v < 100) ∨ (m = 0 ∧ v < 1000)) → a ≤ (nmI t n m a v).1 ∧ (nmI t n m a v).1 ≤ n ∧ (nmI t n m a v).2 < 1000
  | 0, a, v, h, hv => by show a ≤ a ∧ a ≤ n ∧ v < 1000; omega
  | m + 1, a, v, h, hv => by
    by_cases hf : isFig t n a = true
    · rw [nmI_go hf]
      have h2 := isFig_iff.mp hf
      have h3 := nmI_all (t := t) (n := n) m (a + 1) (10 * v + t a - 48) (by omega) (by omega)
      omega
    · rw [nmI_stop (by cases hx : isFig t n a; rfl; exact absurd hx hf)]
      show a ≤ a ∧ a ≤ n ∧ v < 1000
      omega
theorem nmO_all {t : Nat → Nat} {n w : Nat} : ∀ m k a (g : Nat → Nat), a ≤ n → (∀ j, g j < 1000) → (a ≤ (nmO t n w m k a g).2.1 ∧ (nmO t n w m k a g).2.1 ≤ n) ∧ ∀ j, (nmO t n w m k a g).2.2 j < 1000
  | 0, k, a, g, h, hg => ⟨⟨Nat.le_refl a, h⟩, hg⟩
  | m + 1, k, a, g, h, hg => by
    have hi := nmI_all (t := t) (n := n) 3 a 0 h (by omega)
    by_cases hc : (nmI t n 3 a 0).1 = a ∨ ¬ sp_byte t n (nmI t n 3 a 0).1 = (if k < w - 1 then 44 else 59)
    · rw [nmO_stop hc]
      exact ⟨⟨hi.1, hi.2.1⟩, upN_lt hg hi.2.2⟩
    · rw [nmO_go hc]
      have hb : (nmI t n 3 a 0).1 < n := by
        have h2 : sp_byte t n (nmI t n 3 a 0).1 = (if k < w - 1 then 44 else 59) := Decidable.byContradiction fun z => hc (Or.inr z)
        unfold sp_byte at h2
        split at h2
        · assumption
        · split at h2 <;> omega
      have h3 := nmO_all (t := t) (n := n) (w := w) m (k + 1) ((nmI t n 3 a 0).1 + 1) (upN g k (nmI t n 3 a 0).2) (by omega) (upN_lt hg hi.2.2)
      exact ⟨⟨by omega, h3.1.2⟩, h3.2⟩
theorem num_all {t g : Nat → Nat} {n w a : Nat} (h : a ≤ n) (hg : ∀ j, g j < 1000) : (a ≤ (sp_num t n w a g).2.1 ∧ (sp_num t n w a g).2.1 ≤ n) ∧ ∀ j, (sp_num t n w a g).2.2 j < 1000 := nmO_all w 0 a g h hg
def isH (g d : Nat → Nat) (k : Nat) : Bool := decide (g k < d 0 ∧ g (k + 1) < 2)
/-- an item is read: whether it is so, place, told, draft -/
abbrev PR : Type := Bool × Nat × (Nat → Nat) × (Nat → Nat)
def pr_person (t : Nat → Nat) (n a : Nat) (g d : Nat → Nat) : PR :=
  if d 0 = 5 then (false, a, g, d) else
  if (sp_num t n 2 a g).1 = true ∧ ¬ 63 < (sp_num t n 2 a g).2.2 0 ∧ ¬ 63 < (sp_num t n 2 a g).2.2 1 then
    (true, (sp_num t n 2 a g).2.1, (sp_num t n 2 a g).2.2,
      let d1 := upN d (8 + 2 * d 0) ((sp_num t n 2 a g).2.2 0)
      let d2 := upN d1 (8 + 2 * d1 0 + 1) ((sp_num t n 2 a g).2.2 1)
      upN d2 0 (d2 0 + 1))
  else (false, (sp_num t n 2 a g).2.1, (sp_num t n 2 a g).2.2, d)
/-- steps of a trade: fuel, how many, place, draft -/
def trF (t : Nat → Nat) (n : Nat) : Nat → Nat → Nat → (Nat → Nat) → Nat × Nat × (Nat → Nat)
  | 0, u, a, d => (u, a, d)
  | m + 1, u, a, d => if d 1 < 4 ∧ isIn (sp_byte t n a) 48 53 = true then trF t n m (u + 1) (a + 1) (upN d (32 + 8 * d 1 + u) (t a - 48)) else (u, a, d)
def trR (t : Nat → Nat) (n a : Nat) (d : Nat → Nat) : Nat × Nat × (Nat → Nat) := trF t n 8 0 a d
def pr_trade (t : Nat → Nat) (n a : Nat) (g d : Nat → Nat) : PR :=
  if (trR t n a d).1 = 0 ∨ ¬ sp_byte t n (trR t n a d).2.1 = 59 then (false, (trR t n a d).2.1, g, (trR t n a d).2.2)
  else (true, (trR t n a d).2.1 + 1, g,
      let e1 := upN (trR t n a d).2.2 (28 + (trR t n a d).2.2 1) (trR t n a d).1
      upN e1 1 (e1 1 + 1))
def pr_known (t : Nat → Nat) (n a : Nat) (g d : Nat → Nat) : PR :=
  if (sp_num t n 3 a g).1 = true ∧ isH (sp_num t n 3 a g).2.2 d 0 = true ∧ ¬ 255 < (sp_num t n 3 a g).2.2 2 then
    (true, (sp_num t n 3 a g).2.1, (sp_num t n 3 a g).2.2, upN d (18 + 2 * (sp_num t n 3 a g).2.2 0 + (sp_num t n 3 a g).2.2 1) ((sp_num t n 3 a g).2.2 2))
  else (false, (sp_num t n 3 a g).2.1, (sp_num t n 3 a g).2.2, d)
def pr_married (t : Nat → Nat) (n a : Nat) (g d : Nat → Nat) : PR :=
  if d 2 = 8 then (false, a, g, d) else
  if (sp_num t n 4 a g).1 = true ∧ isH (sp_num t n 4 a g).2.2 d 0 = true ∧ isH (sp_num t n 4 a g).2.2 d 2 = true ∧ ¬ (sp_num t n 4 a g).2.2 0 = (sp_num t n 4 a g).2.2 2 then
    (true, (sp_num t n 4 a g).2.1, (sp_num t n 4 a g).2.2,
      let h := (sp_num t n 4 a g).2.2
      let d1 := upN d (64 + 2 * d 2) (2 * h 0 + h 1)
      let d2 := upN d1 (64 + 2 * d1 2 + 1) (2 * h 2 + h 3)
      upN d2 2 (d2 2 + 1))
  else (false, (sp_num t n 4 a g).2.1, (sp_num t n 4 a g).2.2, d)
def pr_pursed (t : Nat → Nat) (n a : Nat) (g d : Nat → Nat) : PR :=
  if (sp_num t n 3 a g).1 = true ∧ ¬ 20 < (sp_num t n 3 a g).2.2 0 ∧ isIn ((sp_num t n 3 a g).2.2 1 : Int) 1 9 = true ∧ isIn ((sp_num t n 3 a g).2.2 2 : Int) 1 9 = true then
    (true, (sp_num t n 3 a g).2.1, (sp_num t n 3 a g).2.2, upN (upN (upN d 5 ((sp_num t n 3 a g).2.2 0)) 6 ((sp_num t n 3 a g).2.2 1)) 7 ((sp_num t n 3 a g).2.2 2))
  else (false, (sp_num t n 3 a g).2.1, (sp_num t n 3 a g).2.2, d)
def pr_one (t : Nat → Nat) (n a : Nat) (g d : Nat → Nat) (w : Nat) (lo hi : Int) : PR :=
  if (sp_num t n 1 a g).1 = true ∧ isIn ((sp_num t n 1 a g).2.2 0 : Int) lo hi = true then (true, (sp_num t n 1 a g).2.1, (sp_num t n 1 a g).2.2, upN d w ((sp_num t n 1 a g).2.2 0))
  else (false, (sp_num t n 1 a g).2.1, (sp_num t n 1 a g).2.2, d)
def pr_item (t : Nat → Nat) (n a : Nat) (g d : Nat → Nat) : PR :=
  if sp_byte t n a = 112 then pr_person t n (a + 1) g d else
  if sp_byte t n a = 106 then pr_trade t n (a + 1) g d else
  if sp_byte t n a = 99 then pr_one t n (a + 1) g d 3 1 8 else
  if sp_byte t n a = 110 then pr_one t n (a + 1) g d 4 0 8 else
  if sp_byte t n a = 107 then pr_known t n (a + 1) g d else
  if sp_byte t n a = 109 then pr_married t n (a + 1) g d else
  if sp_byte t n a = 117 then pr_pursed t n (a + 1) g d else (false, a + 1, g, d)
/-- what a draft is bounded by: persons, trades, pairs, and every cell -/
def Dok (d : Nat → Nat) : Prop := (d 0 ≤ 5 ∧ d 1 ≤ 4 ∧ d 2 ≤ 8) ∧ ∀ k, d k < 256
theorem trF_go {t d : Nat → Nat} {n m u a : Nat} (h : d 1 < 4 ∧ isIn (sp_byte t n a) 48 53 = true) : trF t n (m + 1) u a d = trF t n m (u + 1) (a + 1) (upN d (32 + 8 * d 1 + u) (t a - 48)) := by
  show (if d 1 < 4 ∧ isIn (sp_byte t n a) 48 53 = true then _ else _) = _
  rw [if_pos h]
theorem trF_stop {t d : Nat → Nat} {n m u a : Nat} (h : ¬ (d 1 < 4 ∧ isIn (sp_byte t n a) 48 53 = true)) : trF t n m u a d = (u, a, d) := by
  cases m with
  | zero => rfl
  | succ m => show (if d 1 < 4 ∧ isIn (sp_byte t n a) 48 53 = true then _ else _) = _; rw [if_neg h]
