-- ===== an item is read alike
/-- the drafts: the town so far, no more known, no open steps -/
def RTd (T : St) (d : Nat → Nat) : Prop := RT T d ∧ (∀ k, 2 * T 0 0 ≤ k → k < 10 → d (18 + k) = 0) ∧ T 6 0 = 0
def ItR (p : PR) (r : RI) : Prop := r.1 = p.1 ∧ (p.1 = true → r.2.1 = p.2.1 ∧ RTd r.2.2.2 p.2.2.2)
theorem ItR_no {p : PR} {r : RI} (h1 : p.1 = false) (h2 : r.1 = false) : ItR p r := ⟨h2.trans h1.symm, fun z => absurd (h1.symm.trans z) (by decide)⟩
theorem ri1_f {r : Bool × Nat × (Nat → Nat)} {v : Bool} {T' T : St} (h : ¬ (r.1 = true ∧ v = true)) : (ri1 r v T' T).1 = false := by
  unfold ri1
  by_cases c : r.1 = true
  · rw [if_pos c]
    cases v
    · rfl
    · exact absurd ⟨c, rfl⟩ h
  · rw [if_neg c]
theorem ri1_t {r : Bool × Nat × (Nat → Nat)} {v : Bool} {T' T : St} (h : r.1 = true) (hv : v = true) : ri1 r v T' T = (true, r.2.1, r.2.2, T') := by
  unfold ri1
  rw [if_pos h, hv]
theorem it_person {b g g' d : Nat → Nat} {n a : Nat} {T : St} (hb : ∀ k, b k < 256) (hR : RTd T d) (hT : Tok T) : ItR (pr_person b n a g d) (ri1 (sp_rm b n 2 a g') (vAP (T 0 0) ((sp_rm b n 2 a g').2.2 0) ((sp_rm b n 2 a g').2.2 1)) (tAP T ((sp_rm b n 2 a g').2.2 0) ((sp_rm b n 2 a g').2.2 1)) T) := by
  obtain ⟨h, hz, ho⟩ := hR
  have hT0 := hT.1
  obtain ⟨n1, n2⟩ := @num_rel b n 2 a hb g g'
  have e0 : d 0 = T 0 0 := h.1.1
  unfold pr_person
  by_cases c5 : d 0 = 5
  · rw [if_pos c5]
    exact ItR_no rfl (ri1_f (fun z => by have := of_decide_eq_true z.2; omega))
  · rw [if_neg c5]
    by_cases c : (sp_num b n 2 a g).1 = true ∧ ¬ 63 < (sp_num b n 2 a g).2.2 0 ∧ ¬ 63 < (sp_num b n 2 a g).2.2 1
    · obtain ⟨q1, q2⟩ := n2 c.1
      have x0 := q2 0 (by decide)
      have x1 := q2 1 (by decide)
      have hv : vAP (T 0 0) ((sp_rm b n 2 a g').2.2 0) ((sp_rm b n 2 a g').2.2 1) = true := decide_eq_true ⟨by omega, by omega, by omega⟩
      rw [if_pos c, ri1_t (n1.trans c.1) hv]
      refine ⟨rfl, fun _ => ⟨q1, ?_⟩⟩
      generalize (sp_rm b n 2 a g').2.2 0 = x at hv x0 ⊢
      generalize (sp_rm b n 2 a g').2.2 1 = y at hv x1 ⊢
      rw [← x0, ← x1]
      obtain ⟨⟨a0, a1, a2, a3, a4, a5, a6, a7⟩, b1, b2, b3⟩ := h
      dsimp only
      rw [upN_ne (f := d) (show 0 ≠ 8 + 2 * d 0 by omega), a0]
      rw [upN_ne (k := 8 + 2 * T 0 0 + 1) (j := 0) (by omega), upN_ne (k := 8 + 2 * T 0 0) (j := 0) (by omega), a0]
      have y0 : tAP T x y 0 0 = T 0 0 + 1 := by show apP (T 0 0) x y = _; unfold apP; rw [if_pos hv]
      have y1 : tAP T x y 1 = upN (upN (T 1) (2 * T 0 0) x) (2 * T 0 0 + 1) y := by show apS (T 0 0) x y (T 1) = _; unfold apS; rw [if_pos hv]
      have y2 : tAP T x y 2 = upN (upN (T 2) (2 * T 0 0) 0) (2 * T 0 0 + 1) 0 := by show apK (T 0 0) x y (T 2) = _; unfold apK; rw [if_pos hv]
      refine ⟨⟨⟨?_, ?_, ?_, ?_, ?_, ?_, ?_, ?_⟩, fun k hk => ?_, fun j hj => ?_, fun k hk => ?_⟩, fun k h1 h2 => ?_, ho⟩
      · rw [upN_eq, y0]
      · rw [upN_ne (by omega), upN_ne (by omega), upN_ne (by omega)]; exact a1
      · rw [upN_ne (by omega), upN_ne (by omega), upN_ne (by omega)]; exact a2
      · rw [upN_ne (by omega), upN_ne (by omega), upN_ne (by omega)]; exact a3
      · rw [upN_ne (by omega), upN_ne (by omega), upN_ne (by omega)]; exact a4
      · rw [upN_ne (by omega), upN_ne (by omega), upN_ne (by omega)]; exact a5
      · rw [upN_ne (by omega), upN_ne (by omega), upN_ne (by omega)]; exact a6
      · rw [upN_ne (by omega), upN_ne (by omega), upN_ne (by omega)]; exact a7
      · rw [y0] at hk
        rw [y1, y2, upN_ne (k := 0) (by omega), upN_ne (k := 0) (by omega), upN_ne (j := 18 + k) (by omega), upN_ne (j := 18 + k) (by omega)]
        by_cases k1 : k = 2 * T 0 0 + 1
        · subst k1
          rw [show 8 + (2 * T 0 0 + 1) = 8 + 2 * T 0 0 + 1 by omega, upN_eq, upN_eq, upN_eq]
          exact ⟨rfl, hz _ (by omega) (by omega)⟩
        · rw [upN_ne (show 8 + k ≠ 8 + 2 * T 0 0 + 1 by omega), upN_ne k1, upN_ne k1]
          by_cases k2 : k = 2 * T 0 0
          · subst k2
            rw [upN_eq, upN_eq, upN_eq]
            exact ⟨rfl, hz _ (by omega) (by omega)⟩
          · rw [upN_ne (show 8 + k ≠ 8 + 2 * T 0 0 by omega), upN_ne k2, upN_ne k2]
            exact b1 k (by omega)
      · have hj : j < T 3 0 := hj
        obtain ⟨c1, c2, c3⟩ := b2 j hj
        refine ⟨by rw [upN_ne (by omega), upN_ne (by omega), upN_ne (by omega)]; exact c1, c2, fun k hk => ?_⟩
        have hk : k < T 5 j := hk
        rw [upN_ne (by omega), upN_ne (by omega), upN_ne (by omega)]
        exact c3 k hk
      · have hk : k < 2 * T 7 0 := hk
        rw [upN_ne (by omega), upN_ne (by omega), upN_ne (by omega)]; exact b3 k hk
      · rw [y0] at h1
        rw [upN_ne (by omega), upN_ne (by omega), upN_ne (by omega)]; exact hz k (by omega) h2
    · rw [if_neg c]
      refine ItR_no rfl (ri1_f (fun z => c ?_))
      have z1 : (sp_num b n 2 a g).1 = true := n1.symm.trans z.1
      obtain ⟨q1, q2⟩ := n2 z1
      have x0 := q2 0 (by decide)
      have x1 := q2 1 (by decide)
      have := of_decide_eq_true z.2
      exact ⟨z1, by omega, by omega⟩
