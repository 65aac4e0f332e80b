-- ===== the fewest handings-over
abbrev bt (w k : Nat) : Nat := w / 2 ^ k &&& 1
def selP (d : Nat) (a : Nat × Nat) : Nat := if d = 0 then a.1 else a.2
theorem bt_lt (w k : Nat) : bt w k < 2 := by unfold bt; rw [and1]; exact Nat.mod_lt _ (by decide)
theorem bt_low {w d k m : Nat} (h : m < k) : bt (w + d * 2 ^ k) m = bt w m := by
  unfold bt
  rw [and1, and1]
  have e : d * 2 ^ k = (2 * (d * 2 ^ (k - m - 1))) * 2 ^ m := by
    have e2 : 2 ^ k = 2 ^ (k - m - 1) * 2 * 2 ^ m := by
      rw [← Nat.pow_succ, ← Nat.pow_add]
      congr 1
      omega
    rw [e2, ← Nat.mul_assoc, ← Nat.mul_assoc, Nat.mul_comm 2 (d * 2 ^ (k - m - 1))]
  rw [e, Nat.add_mul_div_right _ _ (Nat.two_pow_pos m)]
  omega
theorem bt_top {w d k : Nat} (hw : w < 2 ^ k) (hd : d < 2) : bt (w + d * 2 ^ k) k = d := by
  unfold bt
  rw [and1, Nat.add_mul_div_right _ _ (Nat.two_pow_pos k), Nat.div_eq_of_lt hw]
  omega
abbrev hq (bk : Nat → Nat) (i j w k : Nat) : Bool × Nat := lpR (hdB bk i j w) k 0 (true, 0)
abbrev fr (T : St) (i j k : Nat) : Nat × Nat := lpR (fhB (T 1) (T 4) i j) k 0 (0, 0)
theorem hq_congr {bk : Nat → Nat} {i j w w' k : Nat} (h : ∀ m, m < k → bt w m = bt w' m) : hq bk i j w k = hq bk i j w' k :=
  lpR_rel (Rl := fun _ (a b : Bool × Nat) => a = b) (f := hdB bk i j w) (g := hdB bk i j w') (Nat.zero_le k) (fun m a b hm e => by
    subst e
    unfold hdB
    have e1 : w / 2 ^ m &&& 1 = w' / 2 ^ m &&& 1 := h m hm
    have e2 : w / 2 ^ (m - 1) &&& 1 = w' / 2 ^ (m - 1) &&& 1 := h (m - 1) (by omega)
    rw [e1, e2]) rfl
theorem hq_le {bk : Nat → Nat} {i j w k : Nat} : (hq bk i j w k).2 ≤ k :=
  lpR_invk (P := fun m (a : Bool × Nat) => a.2 ≤ m) (f := hdB bk i j w) (Nat.zero_le k) (fun m a _ h => by
    show a.2 + (if _ then 1 else 0) ≤ m + 1
    split <;> omega) (Nat.le_refl 0)
theorem fr_succ {T : St} {i j k : Nat} : fr T i j (k + 1) = (if cSk (T 1) (T 4) i 0 j k then min (fr T i j k).1 ((fr T i j k).2 + 1) else 16, if cSk (T 1) (T 4) i 1 j k then min (fr T i j k).2 ((fr T i j k).1 + 1) else 16) := lpR_succ (Nat.zero_le k)
theorem sel_succ {T : St} {i j k d : Nat} (hd : d < 2) : selP d (fr T i j (k + 1)) = if cSk (T 1) (T 4) i d j k then min (selP d (fr T i j k)) (selP (1 - d) (fr T i j k) + 1) else 16 := by
  rw [fr_succ]
  rcases (show d = 0 ∨ d = 1 by omega) with e | e
  · subst e; rfl
  · subst e; rfl
theorem hq_succ {bk : Nat → Nat} {i j w k : Nat} : hq bk i j w (k + 1) = ((hq bk i j w k).1 && sp_has bk i (bt w k) j k, (hq bk i j w k).2 + (if 0 < k ∧ ¬ bt w k = bt w (k - 1) then 1 else 0)) := lpR_succ (Nat.zero_le k)
theorem hd_comp {T : St} {bk : Nat → Nat} (h : RT T bk) {i j w : Nat} (hi : i < T 0 0) (hj : j < T 3 0) : ∀ k, k ≤ T 5 j → (hq bk i j w k).1 = true → selP (bt w (k - 1)) (fr T i j k) ≤ (hq bk i j w k).2
  | 0, _, _ => by show selP _ (0, 0) ≤ 0; unfold selP; split <;> exact Nat.le_refl 0
  | k + 1, hk, hv => by
      rw [hq_succ] at hv ⊢
      rw [Bool.and_eq_true] at hv
      have hs := has_rel h hi (bt_lt w k) hj (show k < T 5 j by omega)
      rw [hs] at hv
      rw [show k + 1 - 1 = k by omega, sel_succ (bt_lt w k), if_pos hv.2]
      have ih := hd_comp h hi hj k (by omega) hv.1
      dsimp only
      by_cases k0 : k = 0
      · subst k0
        have : selP (bt w 0) (fr T i j 0) = 0 := by show selP _ (0, 0) = 0; unfold selP; split <;> rfl
        omega
      · by_cases e : bt w k = bt w (k - 1)
        · rw [if_neg (fun z => z.2 e), e]; omega
        · rw [if_pos ⟨by omega, e⟩]
          have : bt w (k - 1) = 1 - bt w k := by have := bt_lt w k; have := bt_lt w (k - 1); omega
          rw [this] at ih
          omega
theorem hd_sound {T : St} {bk : Nat → Nat} (h : RT T bk) {i j : Nat} (hi : i < T 0 0) (hj : j < T 3 0) : ∀ k, k + 1 ≤ T 5 j → ∀ d, d < 2 → selP d (fr T i j (k + 1)) < 16 → ∃ w, w < 2 ^ (k + 1) ∧ (hq bk i j w (k + 1)).1 = true ∧ (hq bk i j w (k + 1)).2 = selP d (fr T i j (k + 1)) ∧ bt w k = d
  | 0, hk, d, hd, hv => by
      rw [sel_succ hd] at hv ⊢
      have hc : cSk (T 1) (T 4) i d j 0 = true := by
        by_cases c : cSk (T 1) (T 4) i d j 0 = true
        · exact c
        · rw [if_neg c] at hv; exact absurd hv (by decide)
      have hb : bt d 0 = d := by unfold bt; rw [and1, Nat.pow_zero, Nat.div_one]; omega
      refine ⟨d, by omega, ?_, ?_, hb⟩
      · rw [hq_succ, hb, has_rel h hi hd hj (by omega), hc]; rfl
      · rw [hq_succ, if_pos hc, if_neg (by omega)]
        have e1 : selP d (fr T i j 0) = 0 := by show selP _ (0, 0) = 0; unfold selP; split <;> rfl
        rw [e1]
        show 0 + 0 = min 0 _
        omega
  | k + 1, hk, d, hd, hv => by
      rw [sel_succ hd] at hv ⊢
      have hc : cSk (T 1) (T 4) i d j (k + 1) = true := by
        by_cases c : cSk (T 1) (T 4) i d j (k + 1) = true
        · exact c
        · rw [if_neg c] at hv; exact absurd hv (by decide)
      rw [if_pos hc] at hv ⊢
      have key : ∀ d', d' < 2 → selP d' (fr T i j (k + 1)) < 16 → ∃ w, w < 2 ^ (k + 1 + 1) ∧ (hq bk i j w (k + 1 + 1)).1 = true ∧ (hq bk i j w (k + 1 + 1)).2 = selP d' (fr T i j (k + 1)) + (if d = d' then 0 else 1) ∧ bt w (k + 1) = d := fun d' hd' hv' => by
        obtain ⟨w, w1, w2, w3, w4⟩ := hd_sound h hi hj k (by omega) d' hd' hv'
        have b1 : bt (w + d * 2 ^ (k + 1)) (k + 1) = d := bt_top w1 hd
        have b2 : hq bk i j (w + d * 2 ^ (k + 1)) (k + 1) = hq bk i j w (k + 1) := hq_congr (fun m hm => bt_low hm)
        have b3 : bt (w + d * 2 ^ (k + 1)) (k + 1 - 1) = d' := (bt_low (by omega)).trans w4
        refine ⟨w + d * 2 ^ (k + 1), ?_, ?_, ?_, b1⟩
        · have : d * 2 ^ (k + 1) ≤ 1 * 2 ^ (k + 1) := Nat.mul_le_mul_right _ (by omega)
          rw [Nat.pow_succ 2 (k + 1)]
          omega
        · rw [hq_succ, b1, b2, w2, has_rel h hi hd hj (by omega), hc]; rfl
        · rw [hq_succ, b1, b2, b3, w3]
          dsimp only
          by_cases e : d = d'
          · rw [if_neg (fun z => z.2 e), if_pos e]
          · rw [if_pos ⟨by omega, e⟩, if_neg e]
      by_cases c : selP d (fr T i j (k + 1)) ≤ selP (1 - d) (fr T i j (k + 1)) + 1
      · rw [Nat.min_eq_left c] at hv ⊢
        obtain ⟨w, w1, w2, w3, w4⟩ := key d hd hv
        exact ⟨w, w1, w2, by rw [w3, if_pos rfl]; rfl, w4⟩
      · rw [Nat.min_eq_right (by omega)] at hv ⊢
        obtain ⟨w, w1, w2, w3, w4⟩ := key (1 - d) (by omega) (by omega)
        exact ⟨w, w1, w2, by rw [w3, if_neg (by omega)], w4⟩
theorem handed_rel {T : St} {bk : Nat → Nat} (h : RT T bk) {i j : Nat} (hi : i < T 0 0) (hj : j < T 3 0) : sp_handed bk i j = sp_fh (T 1) (T 4) (T 5) i j := by
  obtain ⟨e28, ⟨l1, l8⟩, -⟩ := h.2.2.1 j hj
  have hI : ∀ w, hdI bk i j w = hq bk i j w (T 5 j) := fun w => by unfold hdI; rw [e28]
  have hx := lpR_invk (P := fun n (x : Int) => (x = -4 ∧ ∀ w, w < n → ¬ (hdI bk i j w).1 = true) ∨ ∃ w, w < n ∧ (hdI bk i j w).1 = true ∧ x = ((hdI bk i j w).2 : Int) ∧ ∀ w', w' < n → (hdI bk i j w').1 = true → (hdI bk i j w).2 ≤ (hdI bk i j w').2) (f := hoB bk i j) (N := 1 * 2 ^ bk (28 + j)) (k := 0) (a := -4) (Nat.zero_le _) (fun n x _ hp => by
    unfold hoB
    by_cases c : (hdI bk i j n).1 = true ∧ (x = -4 ∨ ((hdI bk i j n).2 : Int) < x)
    · rw [if_pos c]
      refine Or.inr ⟨n, by omega, c.1, rfl, fun w' hw' hv => ?_⟩
      by_cases e : w' = n
      · subst e; exact Nat.le_refl _
      · rcases hp with ⟨p1, p2⟩ | ⟨w, p1, p2, p3, p4⟩
        · exact absurd hv (p2 w' (by omega))
        · have := p4 w' (by omega) hv
          have := c.2
          omega
    · rw [if_neg c]
      rcases hp with ⟨p1, p2⟩ | ⟨w, p1, p2, p3, p4⟩
      · refine Or.inl ⟨p1, fun w hw => ?_⟩
        by_cases e : w = n
        · subst e; exact fun z => c ⟨z, Or.inl p1⟩
        · exact p2 w (by omega)
      · refine Or.inr ⟨w, by omega, p2, p3, fun w' hw' hv => ?_⟩
        by_cases e : w' = n
        · subst e
          have : ¬ ((hdI bk i j w').2 : Int) < x := fun z => c ⟨hv, Or.inr z⟩
          omega
        · exact p4 w' (by omega) hv) (Or.inl ⟨rfl, fun w hw => absurd hw (Nat.not_lt_zero w)⟩)
  have hx : _ := hx
  obtain ⟨k, hk⟩ : ∃ k, T 5 j = k + 1 := ⟨T 5 j - 1, by omega⟩
  have hF : fhR (T 1) (T 4) (T 5) i j = fr T i j (k + 1) := by unfold fhR; rw [hk]
  have hsd := hd_sound h hi hj k (by omega)
  have hcm : ∀ w, (hdI bk i j w).1 = true → selP (bt w k) (fr T i j (k + 1)) ≤ (hdI bk i j w).2 := fun w hv => by
    rw [hI, hk] at hv ⊢
    exact hd_comp h hi hj (k + 1) (by omega) hv
  have hle : ∀ w, (hdI bk i j w).2 ≤ 8 := fun w => by rw [hI]; exact Nat.le_trans hq_le l8
  unfold sp_handed sp_fh
  rw [hF]
  generalize hu : fr T i j (k + 1) = u at hsd hcm ⊢
  have hmin : min u.1 u.2 < 16 → ∃ w, w < 1 * 2 ^ bk (28 + j) ∧ (hdI bk i j w).1 = true ∧ (hdI bk i j w).2 = min u.1 u.2 := fun hm => by
    rcases (show (∃ d, d < 2 ∧ selP d u = min u.1 u.2) by
      by_cases c : u.1 ≤ u.2
      · exact ⟨0, by decide, by rw [Nat.min_eq_left c]; rfl⟩
      · exact ⟨1, by decide, by rw [Nat.min_eq_right (by omega)]; rfl⟩) with ⟨d, hd, he⟩
    obtain ⟨w, w1, w2, w3, -⟩ := hsd d hd (by omega)
    refine ⟨w, by rw [Nat.one_mul, e28, hk]; exact w1, ?_, ?_⟩
    · rw [hI, hk]; exact w2
    · rw [hI, hk, w3, he]
  rcases hx with ⟨p1, p2⟩ | ⟨w, p1, p2, p3, p4⟩
  · rw [p1]
    by_cases hm : min u.1 u.2 < 16
    · obtain ⟨w, w1, w2, -⟩ := hmin hm
      exact absurd w2 (p2 w w1)
    · rw [if_neg hm]
  · rw [p3]
    have q1 := hcm w p2
    have q2 := hle w
    have q3 : min u.1 u.2 ≤ selP (bt w k) u := by unfold selP; split <;> omega
    have hm : min u.1 u.2 < 16 := by omega
    obtain ⟨w', w1, w2, w3⟩ := hmin hm
    have q4 := p4 w' w1 w2
    rw [if_pos hm, show (hdI bk i j w).2 = min u.1 u.2 by omega]
theorem c_handed_rel {X : Nat → St} {bk : Nat → Nat} (h : RT (X 2) bk) (i j : Int) : c_handed X i j = g_handed bk i j := by
  unfold c_handed g_handed
  rw [h.1.1, h.1.2.1]
  by_cases e : vDone (X 2 0 0) (X 2 3 0) i j = true
  · rw [if_pos e, if_pos e]
    have e' := e
    unfold vDone at e'
    rw [Bool.and_eq_true] at e'
    exact (handed_rel h (isP_lt e'.1) (isP_lt e'.2)).symm
  · rw [if_neg e, if_neg e]
