-- ===== the text is read alike
theorem nx_c {b : Nat → Nat} {n k : Nat} (hb : ∀ k, b k < 256) {c : Int} (h0 : 0 ≤ c) (h1 : c < 128) : sp_nx b n k = c ↔ sp_byte b n k = c := by
  have := hb k
  unfold sp_nx sp_byte sx
  split
  · split <;> omega
  · omega
theorem nx_fig {b : Nat → Nat} {n k : Nat} (hb : ∀ k, b k < 256) : (¬ sp_nx b n k < 48 ∧ ¬ 57 < sp_nx b n k) ↔ isFig b n k = true := by
  have := hb k
  unfold isFig isIn
  rw [decide_eq_true_eq]
  unfold sp_nx sp_byte sx
  split
  · split <;> omega
  · omega
theorem fig_nx {b : Nat → Nat} {n k : Nat} (h : isFig b n k = true) : sp_nx b n k = (b k : Int) ∧ 48 ≤ b k ∧ b k ≤ 57 := by
  unfold isFig isIn at h
  rw [decide_eq_true_eq] at h
  unfold sp_byte at h
  unfold sp_nx sx
  by_cases c : k < n
  · rw [if_pos c] at h ⊢
    rw [if_pos (by omega)]
    exact ⟨rfl, by omega, by omega⟩
  · rw [if_neg c] at h
    omega
theorem nm_rn {b : Nat → Nat} {n : Nat} (hb : ∀ k, b k < 256) : ∀ m a (v : Nat) (v' : Int), max v' 0 = (v : Int) → (rnF b n m a v').1 = (nmI b n m a v).1 ∧ a ≤ (nmI b n m a v).1 ∧ ((nmI b n m a v).1 = a → (rnF b n m a v').2 = v') ∧ (¬ (nmI b n m a v).1 = a → (rnF b n m a v').2 = ((nmI b n m a v).2 : Int))
  | 0, a, v, v', _ => ⟨rfl, Nat.le_refl a, fun _ => rfl, fun z => absurd rfl z⟩
  | m + 1, a, v, v', hv => by
      by_cases c : isFig b n a = true
      · obtain ⟨f1, f2, f3⟩ := fig_nx c
        have e1 : nmI b n (m + 1) a v = nmI b n m (a + 1) (10 * v + b a - 48) := by show (if isFig b n a then _ else _) = _; rw [if_pos c]
        have e2 : rnF b n (m + 1) a v' = rnF b n m (a + 1) (max v' 0 * 10 + sp_nx b n a - 48) := by show (if ¬ sp_nx b n a < 48 ∧ ¬ 57 < sp_nx b n a then _ else _) = _; rw [if_pos ((nx_fig hb).mpr c)]
        have hz : max v' 0 * 10 + sp_nx b n a - 48 = ((10 * v + b a - 48 : Nat) : Int) := by rw [hv, f1]; omega
        obtain ⟨i1, i2, i3, i4⟩ := nm_rn hb m (a + 1) (10 * v + b a - 48) (max v' 0 * 10 + sp_nx b n a - 48) (by omega)
        rw [e1, e2]
        refine ⟨i1, by omega, fun z => absurd z (by omega), fun _ => ?_⟩
        by_cases q : (nmI b n m (a + 1) (10 * v + b a - 48)).1 = a + 1
        · rw [i3 q, hz]
          have e3 : (nmI b n m (a + 1) (10 * v + b a - 48)).2 = 10 * v + b a - 48 := by
            cases m with
            | zero => rfl
            | succ m' =>
                by_cases c2 : isFig b n (a + 1) = true
                · exfalso
                  have e4 : nmI b n (m' + 1) (a + 1) (10 * v + b a - 48) = nmI b n m' (a + 1 + 1) (10 * (10 * v + b a - 48) + b (a + 1) - 48) := by show (if isFig b n (a + 1) then _ else _) = _; rw [if_pos c2]
                  have := (nm_rn (n := n) hb m' (a + 1 + 1) (10 * (10 * v + b a - 48) + b (a + 1) - 48) ((10 * (10 * v + b a - 48) + b (a + 1) - 48 : Nat) : Int) (by omega)).2.1
                  rw [e4] at q
                  omega
                · show (if isFig b n (a + 1) then _ else ((a + 1, 10 * v + b a - 48) : Nat × Nat)).2 = _
                  rw [if_neg c2]
          rw [e3]
        · exact i4 q
      · have e1 : nmI b n (m + 1) a v = (a, v) := by show (if isFig b n a then _ else _) = _; rw [if_neg c]
        have e2 : rnF b n (m + 1) a v' = (a, v') := by show (if ¬ sp_nx b n a < 48 ∧ ¬ 57 < sp_nx b n a then _ else _) = _; rw [if_neg (fun z => c ((nx_fig hb).mp z))]
        rw [e1, e2]
        exact ⟨rfl, Nat.le_refl a, fun _ => rfl, fun z => absurd rfl z⟩
theorem rn_nm {b : Nat → Nat} {n a : Nat} (hb : ∀ k, b k < 256) : (sp_rn b n a).1 = (nmI b n 3 a 0).1 ∧ ((sp_rn b n a).2 < 0 ↔ (nmI b n 3 a 0).1 = a) ∧ (¬ (nmI b n 3 a 0).1 = a → (sp_rn b n a).2.toNat = (nmI b n 3 a 0).2) := by
  obtain ⟨i1, i2, i3, i4⟩ := @nm_rn b n hb 3 a 0 (-1) (by decide)
  have i3' : (nmI b n 3 a 0).1 = a → (sp_rn b n a).2 = -1 := i3
  have i4' : ¬ (nmI b n 3 a 0).1 = a → (sp_rn b n a).2 = ((nmI b n 3 a 0).2 : Int) := i4
  refine ⟨i1, ⟨fun h => ?_, fun h => by rw [i3' h]; decide⟩, fun h => by rw [i4' h]; rfl⟩
  by_cases c : (nmI b n 3 a 0).1 = a
  · exact c
  · rw [i4' c] at h; omega
theorem num_go {b : Nat → Nat} {n w : Nat} (hb : ∀ k, b k < 256) : ∀ m k a (g g' : Nat → Nat), k + m = w → (∀ j, j < k → g' j = g j) → (rmF b n w m k a g').1 = (nmO b n w m k a g).1 ∧ ((nmO b n w m k a g).1 = true → (rmF b n w m k a g').2.1 = (nmO b n w m k a g).2.1 ∧ ∀ j, j < w → (rmF b n w m k a g').2.2 j = (nmO b n w m k a g).2.2 j)
  | 0, k, a, g, g', hk, hg => ⟨rfl, fun _ => ⟨rfl, fun j hj => hg j (by omega)⟩⟩
  | m + 1, k, a, g, g', hk, hg => by
      obtain ⟨r1, r2, r3⟩ := @rn_nm b n a hb
      show (if (sp_rn b n a).2 < 0 then _ else if vRS b n (sp_rn b n a).1 (if k + 1 < w then 44 else 59) = true then _ else _ : Bool × Nat × (Nat → Nat)).1 = (if (nmI b n 3 a 0).1 = a ∨ ¬ sp_byte b n (nmI b n 3 a 0).1 = (if k < w - 1 then 44 else 59) then _ else _ : Bool × Nat × (Nat → Nat)).1 ∧ ((if (nmI b n 3 a 0).1 = a ∨ ¬ sp_byte b n (nmI b n 3 a 0).1 = (if k < w - 1 then 44 else 59) then _ else _ : Bool × Nat × (Nat → Nat)).1 = true → (if (sp_rn b n a).2 < 0 then _ else if vRS b n (sp_rn b n a).1 (if k + 1 < w then 44 else 59) = true then _ else _ : Bool × Nat × (Nat → Nat)).2.1 = (if (nmI b n 3 a 0).1 = a ∨ ¬ sp_byte b n (nmI b n 3 a 0).1 = (if k < w - 1 then 44 else 59) then _ else _ : Bool × Nat × (Nat → Nat)).2.1 ∧ ∀ j, j < w → (if (sp_rn b n a).2 < 0 then _ else if vRS b n (sp_rn b n a).1 (if k + 1 < w then 44 else 59) = true then _ else _ : Bool × Nat × (Nat → Nat)).2.2 j = (if (nmI b n 3 a 0).1 = a ∨ ¬ sp_byte b n (nmI b n 3 a 0).1 = (if k < w - 1 then 44 else 59) then _ else _ : Bool × Nat × (Nat → Nat)).2.2 j)
      have es : (if k + 1 < w then (44 : Int) else 59) = if k < w - 1 then 44 else 59 := by
        by_cases c : k + 1 < w
        · rw [if_pos c, if_pos (by omega)]
        · rw [if_neg c, if_neg (by omega)]
      have hc : (0 : Int) ≤ (if k < w - 1 then 44 else 59) ∧ (if k < w - 1 then (44 : Int) else 59) < 128 := by split <;> decide
      rw [es, r1]
      by_cases c1 : (nmI b n 3 a 0).1 = a
      · rw [if_pos (r2.mpr c1), if_pos (Or.inl c1)]
        exact ⟨rfl, fun z => absurd (show false = true from z) (by decide)⟩
      · rw [if_neg (fun z => c1 (r2.mp z))]
        by_cases c2 : sp_byte b n (nmI b n 3 a 0).1 = (if k < w - 1 then 44 else 59)
        · rw [if_pos (show vRS b n (nmI b n 3 a 0).1 (if k < w - 1 then 44 else 59) = true from decide_eq_true ((nx_c hb hc.1 hc.2).mpr c2)), if_neg (fun z => z.elim c1 (fun y => y c2)), r3 c1]
          exact num_go hb m (k + 1) ((nmI b n 3 a 0).1 + 1) (upN g k (nmI b n 3 a 0).2) (upN g' k (nmI b n 3 a 0).2) (by omega) (fun j hj => by
            by_cases e : j = k
            · subst e; rw [upN_eq, upN_eq]
            · rw [upN_ne e, upN_ne e]; exact hg j (by omega))
        · rw [if_neg (show ¬ vRS b n (nmI b n 3 a 0).1 (if k < w - 1 then 44 else 59) = true from fun z => c2 ((nx_c hb hc.1 hc.2).mp (of_decide_eq_true z))), if_pos (Or.inr c2)]
          exact ⟨rfl, fun z => absurd (show false = true from z) (by decide)⟩
theorem num_rel {b : Nat → Nat} {n w a : Nat} (hb : ∀ k, b k < 256) (g g' : Nat → Nat) : (sp_rm b n w a g').1 = (sp_num b n w a g).1 ∧ ((sp_num b n w a g).1 = true → (sp_rm b n w a g').2.1 = (sp_num b n w a g).2.1 ∧ ∀ j, j < w → (sp_rm b n w a g').2.2 j = (sp_num b n w a g).2.2 j) :=
  num_go hb w 0 a g g' (by omega) (fun j hj => absurd hj (Nat.not_lt_zero j))
