-- ===== the whole text is read alike; fault, lay
def RoR (p : Int × Nat × (Nat → Nat) × (Nat → Nat)) (r : Int × Nat × (Nat → Nat) × St) : Prop := r.1 = p.1 ∧ (p.1 = -4 → RTd r.2.2.2 p.2.2.2)
theorem rd_go {b : Nat → Nat} {n : Nat} (hb : ∀ k, b k < 256) : ∀ m a (g g' d : Nat → Nat) (T : St), n ≤ a + m → a ≤ n → (∀ j, g j < 1000) → (∀ j, g' j < 1000) → Dok d → Tok T → RTd T d → RoR (rdF b n (m + 1) a g d) (roF b n m a g' T)
  | 0, a, g, g', d, T, hm, ha, hg, hg', hd, hT, hR => by
      rw [rdF_end (by omega), roF_end (Or.inl rfl)]
      exact ⟨rfl, fun _ => hR⟩
  | m + 1, a, g, g', d, T, hm, ha, hg, hg', hd, hT, hR => by
      by_cases h : a < n
      · have hk := item_ok (t := b) h hg hd
        have hk' := ri_ok (b := b) hb h hg' hT
        obtain ⟨i1, i2⟩ := item_rel (n := n) (a := a) (g := g) (g' := g') hb hR hT
        by_cases hi : (pr_item b n a g d).1 = true
        · obtain ⟨j1, j2⟩ := i2 hi
          have x : roF b n (m + 1) a g' T = roF b n m (ri_item b n a g' T).2.1 (ri_item b n a g' T).2.2.1 (ri_item b n a g' T).2.2.2 := by
            show (if a < n then (if (ri_item b n a g' T).1 then _ else _) else _) = _
            rw [if_pos h, if_pos (i1.trans hi)]
          have hk1 := hk.1
          rw [rdF_go h hi, x, j1]
          exact rd_go hb m _ _ _ _ _ (by omega) hk.1.2 hk.2.1 hk'.2.1 hk.2.2 hk'.2.2 j2
        · have hf : (pr_item b n a g d).1 = false := by
            cases hx : (pr_item b n a g d).1
            · rfl
            · exact absurd hx hi
          have x : roF b n (m + 1) a g' T = ((a : Int), (ri_item b n a g' T).2) := by
            show (if a < n then (if (ri_item b n a g' T).1 then _ else _) else _) = _
            rw [if_pos h, if_neg (by rw [i1, hf]; decide)]
          rw [rdF_bad h hf, x]
          exact ⟨rfl, fun z => absurd (show (a : Int) = -4 from z) (by omega)⟩
      · rw [rdF_end h, roF_end (Or.inr h)]
        exact ⟨rfl, fun _ => hR⟩
theorem clr_at {d : Nat → Nat} {j : Nat} (h : j < 80) : clr d j = 0 := by
  unfold clr
  exact (fill_at (fun _ => 0) d 80 j).trans (if_pos h)
theorem RTd_0 (T : St) (d : Nat → Nat) : RTd (tE T) (dr0 d) := by
  refine ⟨⟨⟨rfl, rfl, rfl, rfl, rfl, rfl, rfl, rfl⟩, fun k hk => absurd (show k < 2 * 0 from hk) (Nat.not_lt_zero k), fun j hj => absurd (show j < 0 from hj) (Nat.not_lt_zero j), fun k hk => absurd (show k < 2 * 0 from hk) (Nat.not_lt_zero k)⟩, fun k _ h2 => ?_, rfl⟩
  unfold dr0
  rw [upN_ne (by omega), upN_ne (by omega), upN_ne (by omega), upN_ne (by omega), upN_ne (by omega), clr_at (by omega)]
theorem read_rel {b : Nat → Nat} {n : Nat} (hb : ∀ k, b k < 256) (hn : n ≤ 300) {g g' d : Nat → Nat} {T : St} (hg : ∀ j, g j < 1000) (hg' : ∀ j, g' j < 1000) (hd : ∀ k, d k < 256) (hT : Tok T) : RoR (rdR b n g d) (sp_ro b n g' T) :=
  rd_go hb 300 0 g g' (dr0 d) (tE T) (by omega) (Nat.zero_le n) hg hg' (dr0_ok hd) (tok_E hT) (RTd_0 T d)
theorem cp80_at {d b : Nat → Nat} {j : Nat} (h : j < 80) : cp80 d b j = d j := by
  unfold cp80
  exact (fill_at d b 80 j).trans (if_pos h)
theorem RT_eq {T : St} {d d' : Nat → Nat} (h : RT T d) (hT : Tok T) (he : ∀ j, j < 80 → d' j = d j) : RT T d' := by
  obtain ⟨⟨a0, a1, a2, a3, a4, a5, a6, a7⟩, b1, b2, b3⟩ := h
  have hT0 := hT.1
  refine ⟨⟨(he 0 (by omega)).trans a0, (he 1 (by omega)).trans a1, (he 2 (by omega)).trans a2, (he 3 (by omega)).trans a3, (he 4 (by omega)).trans a4, (he 5 (by omega)).trans a5, (he 6 (by omega)).trans a6, (he 7 (by omega)).trans a7⟩, fun k hk => ?_, fun j hj => ?_, fun k hk => ?_⟩
  · obtain ⟨x1, x2⟩ := b1 k hk
    exact ⟨(he _ (by omega)).trans x1, (he _ (by omega)).trans x2⟩
  · obtain ⟨c1, c2, c3⟩ := b2 j hj
    exact ⟨(he _ (by omega)).trans c1, c2, fun k hk => (he _ (by omega)).trans (c3 k hk)⟩
  · exact (he _ (by omega)).trans (b3 k hk)
