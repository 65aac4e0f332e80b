theorem done_rng {bk : Nat → Nat} {s0 i j : Nat} : -4 ≤ sp_done bk s0 i j ∧ sp_done bk s0 i j < 100000 := dnO_rng 30 0 0 0 (by decide)
theorem bsF_yes {bk : Nat → Nat} {s0 j i : Nat} {a b : Int} (h0 : 0 < i) (h : ¬ sp_done bk s0 (i - 1) j = -4 ∧ (a = -4 ∨ sp_done bk s0 (i - 1) j ≤ b)) : bsF bk s0 j i a b = bsF bk s0 j (i - 1) ((i - 1 : Nat) : Int) (sp_done bk s0 (i - 1) j) := by
  obtain ⟨k, rfl⟩ : ∃ k, i = k + 1 := ⟨i - 1, by omega⟩
  rw [Nat.add_sub_cancel] at h ⊢
  show (if ¬ sp_done bk s0 k j = -4 ∧ (a = -4 ∨ sp_done bk s0 k j ≤ b) then _ else _) = _
  rw [if_pos h]
theorem bsF_no {bk : Nat → Nat} {s0 j i : Nat} {a b : Int} (h0 : 0 < i) (h : ¬ (¬ sp_done bk s0 (i - 1) j = -4 ∧ (a = -4 ∨ sp_done bk s0 (i - 1) j ≤ b))) : bsF bk s0 j i a b = bsF bk s0 j (i - 1) a b := by
  obtain ⟨k, rfl⟩ : ∃ k, i = k + 1 := ⟨i - 1, by omega⟩
  rw [Nat.add_sub_cancel] at h ⊢
  show (if ¬ sp_done bk s0 k j = -4 ∧ (a = -4 ∨ sp_done bk s0 k j ≤ b) then _ else _) = _
  rw [if_neg h]
-- ===== the model: deeds that were seen
def stB (bk : Nat → Nat) (c : Nat) (f : Nat → Nat) : Nat → Nat := upN f c (if isIn (c : Int) 1 10 then bk (18 + c - 1) else 0)
def sp_start (bk f : Nat → Nat) : Nat → Nat := lpR (stB bk) 16 0 f
theorem start_lt {bk f : Nat → Nat} (hb : ∀ k, bk k < 256) (h : ∀ k, f k < 65536) : ∀ k, sp_start bk f k < 65536 := lpR_inv (P := fun (f : Nat → Nat) => ∀ k, f k < 65536) (fun c _ h => upN_lt h (by have := hb (18 + c - 1); split <;> omega)) h
theorem start_0 {bk f : Nat → Nat} : sp_start bk f 0 = 0 := rfl
def sp_fah (bk f : Nat → Nat) (n : Nat) : Nat → Nat := lpR (fun _ => sp_ends bk) n 0 (sp_start bk f)
def fdB (bk ds df : Nat → Nat) (k : Nat) (a : (Nat → Nat) × (Nat → Nat)) : (Nat → Nat) × (Nat → Nat) := (upN a.1 k (sp_who (bk 0) (df k) (sp_fah bk a.2 (ds k))), sp_fah bk a.2 (ds k))
def sp_finds (bk ds df : Nat → Nat) (n : Nat) (g f : Nat → Nat) : (Nat → Nat) × (Nat → Nat) := lpR (fdB bk ds df) n 0 (g, f)
theorem fah_all {bk f : Nat → Nat} {n : Nat} (hb : ∀ k, bk k < 256) (h : ∀ k, f k < 65536) (hn : n ≤ 60) : (∀ k, sp_fah bk f n k < 65536) ∧ sp_fah bk f n 0 = n :=
  lpR_invk (P := fun k (g : Nat → Nat) => (∀ j, g j < 65536) ∧ g 0 = k) (Nat.zero_le n) (fun k g hk h => ⟨ends_lt h.1 (by omega), by rw [ends_0, h.2]⟩) ⟨start_lt hb h, start_0⟩
theorem finds_lt {bk ds df g f : Nat → Nat} {n : Nat} (hp : bk 0 ≤ 5) (hb : ∀ k, bk k < 256) (hd : ∀ k, ds k < 41) (hg : ∀ k, g k < 32) (h : ∀ k, f k < 65536) : (∀ k, (sp_finds bk ds df n g f).1 k < 32) ∧ ∀ k, (sp_finds bk ds df n g f).2 k < 65536 :=
  lpR_inv (P := fun (a : (Nat → Nat) × (Nat → Nat)) => (∀ k, a.1 k < 32) ∧ ∀ k, a.2 k < 65536) (fun k a h => ⟨upN_lt h.1 (who_lt hp), (fah_all hb h.2 (by have := hd k; omega)).1⟩) ⟨hg, h⟩
abbrev finR (M : St) : (Nat → Nat) × (Nat → Nat) := sp_finds (M 2) (M 8) (M 9) (M 11 0) (M 10) (M 5)
def sp_fits (p n : Nat) (g : Nat → Nat) : Nat := lpR (fun k a => a &&& g k) n 0 (1 * 2 ^ p - 1)
def laB (g : Nat → Nat) (set k : Nat) (b : Bool) : Bool := b && !decide (g k &&& set = 0)
def laR (n : Nat) (g : Nat → Nat) (set : Nat) : Bool := lpR (laB g set) n 0 true
def lnR (set : Nat) : Nat := lpR (fun i a => a + (set / 2 ^ i &&& 1)) 5 0 0
theorem lnR_le {set : Nat} : lnR set ≤ 5 := lpR_invk (P := fun k a => a ≤ k) (Nat.zero_le 5) (fun k a _ h => by have : (set / 2 ^ k &&& 1) ≤ 1 := Nat.and_le_right; omega) (Nat.le_refl 0)
def leB (n : Nat) (g : Nat → Nat) (set : Nat) (a : Int × Nat) : Int × Nat := if laR n g set = true ∧ lnR set < a.2 then ((set : Int), lnR set) else a
def sp_least (p n : Nat) (g : Nat → Nat) : Int := (lpR (leB n g) (1 * 2 ^ p) 0 (-4, 6)).1
