-- ===== the other items, and a whole item, are read alike
theorem trF_lo {t : Nat → Nat} {n : Nat} : ∀ m u a (d : Nat → Nat) j, j < 32 → (trF t n m u a d).2.2 j = d j
  | 0, u, a, d, j, hj => rfl
  | m + 1, u, a, d, j, hj => by
    by_cases h : d 1 < 4 ∧ isIn (sp_byte t n a) 48 53 = true
    · rw [trF_go h, trF_lo m (u + 1) (a + 1) _ j hj, upN_ne (by omega)]
    · rw [trF_stop h]
theorem RT_end {T : St} {d : Nat → Nat} {u : Nat} (h : RT T d) (ht : T 3 0 < 4) (hu : 1 ≤ u ∧ u ≤ 8) (ho : T 6 0 = u) (hp : T 0 0 ≤ 5) (hq : T 7 0 ≤ 8) (hI : ∀ k, k < u → d (32 + 8 * d 1 + k) = T 4 (8 * T 3 0 + k)) : RT (tET T) (upN (upN d (28 + d 1) u) 1 (upN d (28 + d 1) u 1 + 1)) ∧ tET T 6 0 = 0 := by
  obtain ⟨⟨a0, a1, a2, a3, a4, a5, a6, a7⟩, b1, b2, b3⟩ := h
  have hv : vET (T 3 0) (T 6 0) = true := decide_eq_true ⟨ht, by omega⟩
  have y3 : tET T 3 0 = T 3 0 + 1 := by show etT (T 3 0) (T 6 0) = _; unfold etT; rw [if_pos hv]
  have y5 : tET T 5 = upN (T 5) (T 3 0) u := by show etL (T 3 0) (T 6 0) (T 5) = _; unfold etL; rw [if_pos hv, ho]
  have y6 : tET T 6 0 = 0 := by show etO (T 3 0) (T 6 0) = _; unfold etO; rw [if_pos hv]
  rw [upN_ne (f := d) (show 1 ≠ 28 + d 1 by omega), a1]
  rw [a1] at hI
  refine ⟨⟨⟨?_, ?_, ?_, ?_, ?_, ?_, ?_, ?_⟩, fun k hk => ?_, fun j hj => ?_, fun k hk => ?_⟩, y6⟩
  · rw [upN_ne (by omega), upN_ne (by omega)]; exact a0
  · rw [upN_eq]; exact y3.symm
  · rw [upN_ne (by omega), upN_ne (by omega)]; exact a2
  · rw [upN_ne (by omega), upN_ne (by omega)]; exact a3
  · rw [upN_ne (by omega), upN_ne (by omega)]; exact a4
  · rw [upN_ne (by omega), upN_ne (by omega)]; exact a5
  · rw [upN_ne (by omega), upN_ne (by omega)]; exact a6
  · rw [upN_ne (by omega), upN_ne (by omega)]; exact a7
  · have hk : k < 2 * T 0 0 := hk
    rw [upN_ne (by omega), upN_ne (by omega), upN_ne (by omega), upN_ne (by omega)]; exact b1 k hk
  · rw [y3] at hj
    rw [y5]
    by_cases e : j = T 3 0
    · have z5 : upN (T 5) (T 3 0) u j = u := by rw [e, upN_eq]
      rw [z5]
      refine ⟨by rw [upN_ne (by omega), e, upN_eq], hu, fun k hk => ?_⟩
      rw [upN_ne (by omega), upN_ne (by omega), e]
      exact hI k hk
    · obtain ⟨c1, c2, c3⟩ := b2 j (by omega)
      have z5 : upN (T 5) (T 3 0) u j = T 5 j := upN_ne e
      rw [z5]
      refine ⟨by rw [upN_ne (by omega), upN_ne (by omega)]; exact c1, c2, fun k hk => ?_⟩
      rw [upN_ne (by omega), upN_ne (by omega)]
      exact c3 k hk
  · have hk : k < 2 * T 7 0 := hk
    rw [upN_ne (by omega), upN_ne (by omega)]; exact b3 k hk
theorem it_trade {b g g' d : Nat → Nat} {n a : Nat} {T : St} (hb : ∀ k, b k < 256) (hR : RTd T d) (hT : Tok T) : ItR (pr_trade b n a g d) (ri2 (sp_st b n a T) g') := by
  obtain ⟨h, hz, ho⟩ := hR
  have hT0 := hT.1
  have e1 : d 1 = T 3 0 := h.1.2.1
  have hs := st_go (n := n) hb 8 0 a d T rfl ho hT0.1 (by omega) (by omega) h (fun k hk => absurd hk (Nat.not_lt_zero k))
  have hlo : ∀ j, j < 32 → (trF b n 8 0 a d).2.2 j = d j := fun j hj => trF_lo (t := b) (n := n) 8 0 a d j hj
  have h4 : ¬ (trF b n 8 0 a d).1 = 0 → (trF b n 8 0 a d).2.2 1 < 4 := fun z => trF_lt4 (t := b) (n := n) 8 0 a d rfl (by omega) z
  have es : sp_st b n a T = stF b n 8 a T := rfl
  have er : trR b n a d = trF b n 8 0 a d := rfl
  unfold pr_trade
  rw [es, er]
  generalize trF b n 8 0 a d = r at hs hlo h4 ⊢
  generalize stF b n 8 a T = q at hs ⊢
  obtain ⟨s1, s2⟩ := hs
  unfold ri2
  by_cases c : r.1 = 0 ∨ ¬ sp_byte b n r.2.1 = 59
  · rw [if_pos c]
    refine ItR_no rfl ?_
    by_cases cq : q.1 = true
    · rw [if_pos cq]
      have c0 : r.1 = 0 := c.elim id (fun z => absurd (s1.mp cq) z)
      have := (s2 cq).2.1
      show vET (q.2.2 3 0) (q.2.2 6 0) = false
      exact decide_eq_false (fun z => z.2 (by omega))
    · rw [if_neg cq]
  · rw [if_neg c]
    have c1 : ¬ r.1 = 0 := fun z => c (Or.inl z)
    have c2 : sp_byte b n r.2.1 = 59 := Decidable.byContradiction fun z => c (Or.inr z)
    have cq := s1.mpr c2
    obtain ⟨t1, t2, t3, ⟨t4, t5, t6⟩, t7, t8⟩ := s2 cq
    have t9 := h4 c1
    have hd1 : r.2.2 1 = q.2.2 3 0 := t7.1.2.1
    have hv : vET (q.2.2 3 0) (q.2.2 6 0) = true := decide_eq_true ⟨by omega, by omega⟩
    rw [if_pos cq]
    refine ⟨hv, fun _ => ⟨t1, ?_⟩⟩
    obtain ⟨x1, x2⟩ := RT_end t7 (u := r.1) (by omega) (by omega) t2 (by omega) (by omega) t8
    refine ⟨x1, fun k h1 h2 => ?_, x2⟩
    have h1 : 2 * q.2.2 0 0 ≤ k := h1
    show upN (upN r.2.2 (28 + r.2.2 1) r.1) 1 _ (18 + k) = 0
    rw [upN_ne (by omega), upN_ne (by omega), hlo (18 + k) (by omega)]
    exact hz k (by omega) h2
theorem it_known {b g g' d : Nat → Nat} {n a : Nat} {T : St} (hb : ∀ k, b k < 256) (hR : RTd T d) (hT : Tok T) : ItR (pr_known b n a g d) (ri1 (sp_rm b n 3 a g') (vSK (T 0 0) ((sp_rm b n 3 a g').2.2 0) ((sp_rm b n 3 a g').2.2 1) ((sp_rm b n 3 a g').2.2 2)) (tSK T ((sp_rm b n 3 a g').2.2 0) ((sp_rm b n 3 a g').2.2 1) ((sp_rm b n 3 a g').2.2 2)) T) := by
  obtain ⟨h, hz, ho⟩ := hR
  have hT0 := hT.1
  have e0 : d 0 = T 0 0 := h.1.1
  obtain ⟨n1, n2⟩ := @num_rel b n 3 a hb g g'
  unfold pr_known
  by_cases c : (sp_num b n 3 a g).1 = true ∧ isH (sp_num b n 3 a g).2.2 d 0 = true ∧ ¬ 255 < (sp_num b n 3 a g).2.2 2
  · obtain ⟨q1, q2⟩ := n2 c.1
    have x0 := q2 0 (by decide)
    have x1 := q2 1 (by decide)
    have x2 := q2 2 (by decide)
    have i1 := isH_iff.mp c.2.1
    simp only [Nat.zero_add] at i1
    have i2 := c.2.2
    have hv : vSK (T 0 0) ((sp_rm b n 3 a g').2.2 0) ((sp_rm b n 3 a g').2.2 1) ((sp_rm b n 3 a g').2.2 2) = true := decide_eq_true ⟨by omega, by omega, by omega⟩
    rw [if_pos c, ri1_t (n1.trans c.1) hv]
    refine ⟨rfl, fun _ => ⟨q1, ?_⟩⟩
    generalize (sp_rm b n 3 a g').2.2 0 = x at hv x0 ⊢
    generalize (sp_rm b n 3 a g').2.2 1 = y at hv x1 ⊢
    generalize (sp_rm b n 3 a g').2.2 2 = v at hv x2 ⊢
    rw [← x0, ← x1] at i1
    rw [← x0, ← x1, ← x2]
    obtain ⟨⟨a0, a1, a2, a3, a4, a5, a6, a7⟩, b1, b2, b3⟩ := h
    dsimp only
    have y2 : tSK T x y v 2 = upN (T 2) (2 * x + y) v := by show skK (T 0 0) x y v (T 2) = _; unfold skK; rw [if_pos hv]
    refine ⟨⟨⟨?_, ?_, ?_, ?_, ?_, ?_, ?_, ?_⟩, fun k hk => ?_, fun j hj => ?_, fun k hk => ?_⟩, fun k h1 h2 => ?_, ho⟩
    · rw [upN_ne (by omega)]; exact a0
    · rw [upN_ne (by omega)]; exact a1
    · rw [upN_ne (by omega)]; exact a2
    · rw [upN_ne (by omega)]; exact a3
    · rw [upN_ne (by omega)]; exact a4
    · rw [upN_ne (by omega)]; exact a5
    · rw [upN_ne (by omega)]; exact a6
    · rw [upN_ne (by omega)]; exact a7
    · have hk : k < 2 * T 0 0 := hk
      rw [y2, upN_ne (show 8 + k ≠ 18 + 2 * x + y by omega)]
      by_cases e : k = 2 * x + y
      · rw [e, show 18 + (2 * x + y) = 18 + 2 * x + y by omega, upN_eq, upN_eq]
        exact ⟨(b1 _ (by omega)).1, rfl⟩
      · rw [upN_ne (by omega), upN_ne e]; exact b1 k hk
    · have hj : j < T 3 0 := hj
      obtain ⟨c1, c2, c3⟩ := b2 j hj
      refine ⟨by rw [upN_ne (by omega)]; exact c1, c2, fun k hk => ?_⟩
      rw [upN_ne (by omega)]
      exact c3 k hk
    · rw [upN_ne (by omega)]; exact b3 k hk
    · have h1 : 2 * T 0 0 ≤ k := h1
      rw [upN_ne (by omega)]; exact hz k h1 h2
  · rw [if_neg c]
    refine ItR_no rfl (ri1_f (fun z => c ?_))
    have z1 : (sp_num b n 3 a g).1 = true := n1.symm.trans z.1
    obtain ⟨q1, q2⟩ := n2 z1
    have x0 := q2 0 (by decide)
    have x1 := q2 1 (by decide)
    have x2 := q2 2 (by decide)
    have := of_decide_eq_true z.2
    exact ⟨z1, isH_iff.mpr (by simp only [Nat.zero_add]; omega), by omega⟩
theorem it_married {b g g' d : Nat → Nat} {n a : Nat} {T : St} (hb : ∀ k, b k < 256) (hR : RTd T d) (hT : Tok T) : ItR (pr_married b n a g d) (ri1 (sp_rm b n 4 a g') (vPR (T 7 0) (T 0 0) ((sp_rm b n 4 a g').2.2 0) ((sp_rm b n 4 a g').2.2 1) ((sp_rm b n 4 a g').2.2 2) ((sp_rm b n 4 a g').2.2 3)) (tPR T ((sp_rm b n 4 a g').2.2 0) ((sp_rm b n 4 a g').2.2 1) ((sp_rm b n 4 a g').2.2 2) ((sp_rm b n 4 a g').2.2 3)) T) := by
  obtain ⟨h, hz, ho⟩ := hR
  have hT0 := hT.1
  have e0 : d 0 = T 0 0 := h.1.1
  have e2 : d 2 = T 7 0 := h.1.2.2.1
  obtain ⟨n1, n2⟩ := @num_rel b n 4 a hb g g'
  have j3 : (2 + 1 : Nat) = 3 := rfl
  unfold pr_married
  by_cases c5 : d 2 = 8
  · rw [if_pos c5]
    exact ItR_no rfl (ri1_f (fun z => by have := of_decide_eq_true z.2; omega))
  · rw [if_neg c5]
    by_cases c : (sp_num b n 4 a g).1 = true ∧ isH (sp_num b n 4 a g).2.2 d 0 = true ∧ isH (sp_num b n 4 a g).2.2 d 2 = true ∧ ¬ (sp_num b n 4 a g).2.2 0 = (sp_num b n 4 a g).2.2 2
    · obtain ⟨q1, q2⟩ := n2 c.1
      have x0 := q2 0 (by decide)
      have x1 := q2 1 (by decide)
      have x2 := q2 2 (by decide)
      have x3 := q2 3 (by decide)
      have i1 := isH_iff.mp c.2.1
      simp only [Nat.zero_add] at i1
      have i2 := isH_iff.mp c.2.2.1
      rw [j3] at i2
      have i3 := c.2.2.2
      have hv : vPR (T 7 0) (T 0 0) ((sp_rm b n 4 a g').2.2 0) ((sp_rm b n 4 a g').2.2 1) ((sp_rm b n 4 a g').2.2 2) ((sp_rm b n 4 a g').2.2 3) = true := decide_eq_true ⟨by omega, by omega, by omega, by omega⟩
      rw [if_pos c, ri1_t (n1.trans c.1) hv]
      refine ⟨rfl, fun _ => ⟨q1, ?_⟩⟩
      generalize (sp_rm b n 4 a g').2.2 0 = x at hv x0 ⊢
      generalize (sp_rm b n 4 a g').2.2 1 = y at hv x1 ⊢
      generalize (sp_rm b n 4 a g').2.2 2 = v at hv x2 ⊢
      generalize (sp_rm b n 4 a g').2.2 3 = w at hv x3 ⊢
      rw [← x0, ← x1] at i1
      rw [← x2, ← x3] at i2
      dsimp only
      rw [← x0, ← x1, ← x2, ← x3]
      obtain ⟨⟨a0, a1, a2, a3, a4, a5, a6, a7⟩, b1, b2, b3⟩ := h
      rw [upN_ne (f := d) (show 2 ≠ 64 + 2 * d 2 by omega), a2]
      rw [upN_ne (k := 64 + 2 * T 7 0 + 1) (j := 2) (by omega), upN_ne (k := 64 + 2 * T 7 0) (j := 2) (by omega), a2]
      have y7 : tPR T x y v w 7 0 = T 7 0 + 1 := by show prN (T 7 0) (T 0 0) x y v w = _; unfold prN; rw [if_pos hv]
      have y8 : tPR T x y v w 8 = upN (upN (T 8) (2 * T 7 0) (2 * x + y)) (2 * T 7 0 + 1) (2 * v + w) := by show prH (T 7 0) (T 0 0) x y v w (T 8) = _; unfold prH; rw [if_pos hv]
      refine ⟨⟨⟨?_, ?_, ?_, ?_, ?_, ?_, ?_, ?_⟩, fun k hk => ?_, fun j hj => ?_, fun k hk => ?_⟩, fun k h1 h2 => ?_, ho⟩
      · rw [upN_ne (by omega), upN_ne (by omega), upN_ne (by omega)]; exact a0
      · rw [upN_ne (by omega), upN_ne (by omega), upN_ne (by omega)]; exact a1
      · rw [upN_eq]; exact y7.symm
      · rw [upN_ne (by omega), upN_ne (by omega), upN_ne (by omega)]; exact a3
      · rw [upN_ne (by omega), upN_ne (by omega), upN_ne (by omega)]; exact a4
      · rw [upN_ne (by omega), upN_ne (by omega), upN_ne (by omega)]; exact a5
      · rw [upN_ne (by omega), upN_ne (by omega), upN_ne (by omega)]; exact a6
      · rw [upN_ne (by omega), upN_ne (by omega), upN_ne (by omega)]; exact a7
      · have hk : k < 2 * T 0 0 := hk
        rw [upN_ne (by omega), upN_ne (by omega), upN_ne (by omega), upN_ne (by omega), upN_ne (by omega), upN_ne (by omega)]; exact b1 k hk
      · have hj : j < T 3 0 := hj
        obtain ⟨c1, c2, c3⟩ := b2 j hj
        refine ⟨by rw [upN_ne (by omega), upN_ne (by omega), upN_ne (by omega)]; exact c1, c2, fun k hk => ?_⟩
        have hk : k < T 5 j := hk
        rw [upN_ne (by omega), upN_ne (by omega), upN_ne (by omega)]
        exact c3 k hk
      · rw [y7] at hk
        rw [y8, upN_ne (k := 2) (by omega)]
        by_cases k1 : k = 2 * T 7 0 + 1
        · rw [k1, show 64 + (2 * T 7 0 + 1) = 64 + 2 * T 7 0 + 1 by omega, upN_eq, upN_eq]
        · rw [upN_ne (show 64 + k ≠ 64 + 2 * T 7 0 + 1 by omega), upN_ne k1]
          by_cases k2 : k = 2 * T 7 0
          · rw [k2, upN_eq, upN_eq]
          · rw [upN_ne (show 64 + k ≠ 64 + 2 * T 7 0 by omega), upN_ne k2]
            exact b3 k (by omega)
      · have h1 : 2 * T 0 0 ≤ k := h1
        rw [upN_ne (by omega), upN_ne (by omega), upN_ne (by omega)]; exact hz k h1 h2
    · rw [if_neg c]
      refine ItR_no rfl (ri1_f (fun z => c ?_))
      have z1 : (sp_num b n 4 a g).1 = true := n1.symm.trans z.1
      obtain ⟨q1, q2⟩ := n2 z1
      have x0 := q2 0 (by decide)
      have x1 := q2 1 (by decide)
      have x2 := q2 2 (by decide)
      have x3 := q2 3 (by decide)
      have := of_decide_eq_true z.2
      exact ⟨z1, isH_iff.mpr (by simp only [Nat.zero_add]; omega), isH_iff.mpr (by rw [j3]; omega), by omega⟩
theorem it_pursed {b g g' d : Nat → Nat} {n a : Nat} {T : St} (hb : ∀ k, b k < 256) (hR : RTd T d) : ItR (pr_pursed b n a g d) (ri1 (sp_rm b n 3 a g') (vPU ((sp_rm b n 3 a g').2.2 0) ((sp_rm b n 3 a g').2.2 1) ((sp_rm b n 3 a g').2.2 2)) (tPU T ((sp_rm b n 3 a g').2.2 0) ((sp_rm b n 3 a g').2.2 1) ((sp_rm b n 3 a g').2.2 2)) T) := by
  obtain ⟨h, hz, ho⟩ := hR
  obtain ⟨n1, n2⟩ := @num_rel b n 3 a hb g g'
  unfold pr_pursed
  by_cases c : (sp_num b n 3 a g).1 = true ∧ ¬ 20 < (sp_num b n 3 a g).2.2 0 ∧ isIn ((sp_num b n 3 a g).2.2 1 : Int) 1 9 = true ∧ isIn ((sp_num b n 3 a g).2.2 2 : Int) 1 9 = true
  · obtain ⟨q1, q2⟩ := n2 c.1
    have x0 := q2 0 (by decide)
    have x1 := q2 1 (by decide)
    have x2 := q2 2 (by decide)
    have i0 := c.2.1
    have i1 := isIn_le c.2.2.1
    have i2 := isIn_le c.2.2.2
    have hv : vPU ((sp_rm b n 3 a g').2.2 0) ((sp_rm b n 3 a g').2.2 1) ((sp_rm b n 3 a g').2.2 2) = true := decide_eq_true ⟨by omega, by omega, by omega⟩
    rw [if_pos c, ri1_t (n1.trans c.1) hv]
    refine ⟨rfl, fun _ => ⟨q1, ?_⟩⟩
    generalize (sp_rm b n 3 a g').2.2 0 = x at hv x0 ⊢
    generalize (sp_rm b n 3 a g').2.2 1 = y at hv x1 ⊢
    generalize (sp_rm b n 3 a g').2.2 2 = v at hv x2 ⊢
    rw [← x0, ← x1, ← x2]
    obtain ⟨⟨a0, a1, a2, a3, a4, a5, a6, a7⟩, b1, b2, b3⟩ := h
    dsimp only
    have w0 : tPU T x y v 11 0 = x := by show ifV (vPU x y v) x (T 11 0) = x; unfold ifV; rw [if_pos hv]
    have w1 : tPU T x y v 12 0 = y := by show ifV (vPU x y v) y (T 12 0) = y; unfold ifV; rw [if_pos hv]
    have w2 : tPU T x y v 13 0 = v := by show ifV (vPU x y v) v (T 13 0) = v; unfold ifV; rw [if_pos hv]
    refine ⟨⟨⟨?_, ?_, ?_, ?_, ?_, ?_, ?_, ?_⟩, fun k hk => ?_, fun j hj => ?_, fun k hk => ?_⟩, fun k h1 h2 => ?_, ho⟩
    · rw [upN_ne (by omega), upN_ne (by omega), upN_ne (by omega)]; exact a0
    · rw [upN_ne (by omega), upN_ne (by omega), upN_ne (by omega)]; exact a1
    · rw [upN_ne (by omega), upN_ne (by omega), upN_ne (by omega)]; exact a2
    · rw [upN_ne (by omega), upN_ne (by omega), upN_ne (by omega)]; exact a3
    · rw [upN_ne (by omega), upN_ne (by omega), upN_ne (by omega)]; exact a4
    · rw [upN_ne (by omega), upN_ne (by omega), upN_eq]; exact w0.symm
    · rw [upN_ne (by omega), upN_eq]; exact w1.symm
    · rw [upN_eq]; exact w2.symm
    · rw [upN_ne (by omega), upN_ne (by omega), upN_ne (by omega), upN_ne (by omega), upN_ne (by omega), upN_ne (by omega)]; exact b1 k hk
    · obtain ⟨c1, c2, c3⟩ := b2 j hj
      refine ⟨by rw [upN_ne (by omega), upN_ne (by omega), upN_ne (by omega)]; exact c1, c2, fun k hk => ?_⟩
      rw [upN_ne (by omega), upN_ne (by omega), upN_ne (by omega)]
      exact c3 k hk
    · rw [upN_ne (by omega), upN_ne (by omega), upN_ne (by omega)]; exact b3 k hk
    · rw [upN_ne (by omega), upN_ne (by omega), upN_ne (by omega)]; exact hz k h1 h2
  · rw [if_neg c]
    refine ItR_no rfl (ri1_f (fun z => c ?_))
    have z1 : (sp_num b n 3 a g).1 = true := n1.symm.trans z.1
    obtain ⟨q1, q2⟩ := n2 z1
    have x0 := q2 0 (by decide)
    have x1 := q2 1 (by decide)
    have x2 := q2 2 (by decide)
    have := of_decide_eq_true z.2
    exact ⟨z1, by omega, decide_eq_true (by omega), decide_eq_true (by omega)⟩
theorem item_rel {b g g' d : Nat → Nat} {n a : Nat} {T : St} (hb : ∀ k, b k < 256) (hR : RTd T d) (hT : Tok T) : ItR (pr_item b n a g d) (ri_item b n a g' T) := by
  have hx : ∀ c : Int, 0 ≤ c → c < 128 → (sp_nx b n a = c ↔ sp_byte b n a = c) := fun c h0 h1 => nx_c hb h0 h1
  unfold pr_item ri_item
  by_cases c1 : sp_byte b n a = 112
  · rw [if_pos c1, if_pos ((hx 112 (by decide) (by decide)).mpr c1)]; exact it_person hb hR hT
  rw [if_neg c1, if_neg (fun z => c1 ((hx 112 (by decide) (by decide)).mp z))]
  by_cases c2 : sp_byte b n a = 106
  · rw [if_pos c2, if_pos ((hx 106 (by decide) (by decide)).mpr c2)]; exact it_trade hb hR hT
  rw [if_neg c2, if_neg (fun z => c2 ((hx 106 (by decide) (by decide)).mp z))]
  by_cases c3 : sp_byte b n a = 99
  · rw [if_pos c3, if_pos ((hx 99 (by decide) (by decide)).mpr c3)]; exact it_c hb hR
  rw [if_neg c3, if_neg (fun z => c3 ((hx 99 (by decide) (by decide)).mp z))]
  by_cases c4 : sp_byte b n a = 110
  · rw [if_pos c4, if_pos ((hx 110 (by decide) (by decide)).mpr c4)]; exact it_n hb hR
  rw [if_neg c4, if_neg (fun z => c4 ((hx 110 (by decide) (by decide)).mp z))]
  by_cases c5 : sp_byte b n a = 107
  · rw [if_pos c5, if_pos ((hx 107 (by decide) (by decide)).mpr c5)]; exact it_known hb hR hT
  rw [if_neg c5, if_neg (fun z => c5 ((hx 107 (by decide) (by decide)).mp z))]
  by_cases c6 : sp_byte b n a = 109
  · rw [if_pos c6, if_pos ((hx 109 (by decide) (by decide)).mpr c6)]; exact it_married hb hR hT
  rw [if_neg c6, if_neg (fun z => c6 ((hx 109 (by decide) (by decide)).mp z))]
  by_cases c7 : sp_byte b n a = 117
  · rw [if_pos c7, if_pos ((hx 117 (by decide) (by decide)).mpr c7)]; exact it_pursed hb hR
  rw [if_neg c7, if_neg (fun z => c7 ((hx 117 (by decide) (by decide)).mp z))]
  exact ItR_no rfl rfl
