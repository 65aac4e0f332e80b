-- ===== how long work takes
theorem has_rel {T : St} {bk : Nat → Nat} (h : RT T bk) {i d j k : Nat} (hi : i < T 0 0) (hd : d < 2) (hj : j < T 3 0) (hk : k < T 5 j) : sp_has bk i d j k = cSk (T 1) (T 4) i d j k := by
  unfold sp_has cSk
  rw [show 8 + 2 * i + d = 8 + (2 * i + d) by omega, (h.2.1 (2 * i + d) (by omega)).1, (h.2.2.1 j hj).2.2 k hk, and1]
  have := Nat.mod_lt (T 1 (2 * i + d) / 2 ^ T 4 (8 * j + k)) (show 0 < 2 by decide)
  by_cases e : T 1 (2 * i + d) / 2 ^ T 4 (8 * j + k) % 2 = 0
  · rw [e]; rfl
  · rw [show T 1 (2 * i + d) / 2 ^ T 4 (8 * j + k) % 2 = 1 by omega]; rfl
theorem saF_ge {sk st : Nat → Nat} {i d j : Nat} : ∀ m b, b ≤ saF sk st i d j m b ∧ saF sk st i d j m b ≤ b + m
  | 0, b => ⟨Nat.le_refl b, Nat.le_refl b⟩
  | m + 1, b => by
      show b ≤ (if cSk sk st i d j b then saF sk st i d j m (b + 1) else b) ∧ (if cSk sk st i d j b then saF sk st i d j m (b + 1) else b) ≤ _
      have := @saF_ge sk st i d j m (b + 1)
      split <;> omega
theorem sa_ge {sk st tl : Nat → Nat} {c i d j b : Nat} (hb : b ≤ tl j) : b ≤ sp_sa sk st tl c i d j b ∧ sp_sa sk st tl c i d j b ≤ tl j := by
  have := @saF_ge sk st i d j (min (tl j) (b + c) - b) b
  unfold sp_sa
  omega
theorem dnI_sa {T : St} {bk : Nat → Nat} (h : RT T bk) {i d j : Nat} (hi : i < T 0 0) (hd : d < 2) (hj : j < T 3 0) : ∀ m a b, T 9 0 - a < m → a ≤ T 9 0 → b ≤ T 5 j → (dnI bk i d j m a b).2 = saF (T 1) (T 4) i d j (min (T 5 j) (b + (T 9 0 - a)) - b) b ∧ (dnI bk i d j m a b).1 = a + ((dnI bk i d j m a b).2 - b)
  | 0, a, b, hm, _, _ => absurd hm (Nat.not_lt_zero _)
  | m + 1, a, b, hm, ha, hb => by
      obtain ⟨e28, ⟨l1, l8⟩, -⟩ := h.2.2.1 j hj
      have e3 := h.1.2.2.2.1
      show (if a < bk 3 ∧ b < bk (28 + j) ∧ sp_has bk i d j (if b < 8 then b else 7) = true then dnI bk i d j m (a + 1) (b + 1) else (a, b)).2 = _ ∧ (if a < bk 3 ∧ b < bk (28 + j) ∧ sp_has bk i d j (if b < 8 then b else 7) = true then dnI bk i d j m (a + 1) (b + 1) else (a, b)).1 = _ + ((if a < bk 3 ∧ b < bk (28 + j) ∧ sp_has bk i d j (if b < 8 then b else 7) = true then dnI bk i d j m (a + 1) (b + 1) else (a, b)).2 - b)
      rw [e3, e28]
      by_cases c1 : a < T 9 0
      · by_cases c2 : b < T 5 j
        · rw [if_pos (show b < 8 by omega), has_rel h hi hd hj c2]
          obtain ⟨n, hn⟩ : ∃ n, min (T 5 j) (b + (T 9 0 - a)) - b = n + 1 := ⟨min (T 5 j) (b + (T 9 0 - a)) - b - 1, by omega⟩
          rw [hn]
          show _ = (if cSk (T 1) (T 4) i d j b then saF (T 1) (T 4) i d j n (b + 1) else b) ∧ _
          by_cases c3 : cSk (T 1) (T 4) i d j b = true
          · rw [if_pos ⟨c1, c2, c3⟩, if_pos c3]
            obtain ⟨q1, q2⟩ := dnI_sa h hi hd hj m (a + 1) (b + 1) (by omega) (by omega) (by omega)
            rw [q2, q1, show min (T 5 j) (b + 1 + (T 9 0 - (a + 1))) - (b + 1) = n by omega]
            have := @saF_ge (T 1) (T 4) i d j n (b + 1)
            exact ⟨rfl, by omega⟩
          · rw [if_neg (fun z => c3 z.2.2), if_neg c3]
            exact ⟨rfl, by show a = a + (b - b); omega⟩
        · rw [if_neg (fun z => c2 z.2.1), show min (T 5 j) (b + (T 9 0 - a)) - b = 0 by omega]
          exact ⟨rfl, by show a = a + (b - b); omega⟩
      · rw [if_neg (fun z => c1 z.1), show min (T 5 j) (b + (T 9 0 - a)) - b = 0 by omega]
        exact ⟨rfl, by show a = a + (b - b); omega⟩
theorem snF_stuck {sk st tl : Nat → Nat} {c i j s0 b : Nat} (hb : b < tl j) (h0 : sp_sa sk st tl c i 0 j b = b) (h1 : sp_sa sk st tl c i 1 j b = b) : ∀ m n, snF sk st tl c i j s0 m n b = -4
  | 0, n => rfl
  | m + 1, n => by
      have e : sp_sa sk st tl c i ((s0 + n) &&& 1) j b = b := by
        rw [and1]
        rcases Nat.mod_two_eq_zero_or_one (s0 + n) with z | z <;> rw [z]
        · exact h0
        · exact h1
      show (if sp_sa sk st tl c i ((s0 + n) &&& 1) j b < tl j then snF sk st tl c i j s0 m (n + 1) (sp_sa sk st tl c i ((s0 + n) &&& 1) j b) else ((n + 1 : Nat) : Int)) = -4
      rw [e, if_pos hb]
      exact snF_stuck hb h0 h1 m (n + 1)
theorem dnO_sn {T : St} {bk : Nat → Nat} (h : RT T bk) {i j s0 : Nat} (hi : i < T 0 0) (hj : j < T 3 0) : ∀ k m b c n, b < T 5 j → c < 2 → (c = 1 → sp_sa (T 1) (T 4) (T 5) (T 9 0) i ((s0 + n + 1) % 2) j b = b) → 2 * (T 5 j - b) - c ≤ m → 2 * (T 5 j - b) - c + 1 ≤ k → dnO bk s0 i j k b c n = snF (T 1) (T 4) (T 5) (T 9 0) i j s0 m n b
  | 0, m, b, c, n, _, _, _, _, hk => by omega
  | k + 1, m, b, c, n, hb, hc, hI, hm, hk => by
      obtain ⟨e28, ⟨l1, l8⟩, -⟩ := h.2.2.1 j hj
      have e3 := h.1.2.2.2.1
      obtain ⟨m, rfl⟩ : ∃ m', m = m' + 1 := ⟨m - 1, by omega⟩
      have hd : (s0 + n) % 2 < 2 := Nat.mod_lt _ (by decide)
      obtain ⟨q1, q2⟩ := dnI_sa h hi hd hj (bk 3 + 1) 0 b (by omega) (Nat.zero_le _) (Nat.le_of_lt hb)
      have q3 : (dnI bk i ((s0 + n) % 2) j (bk 3 + 1) 0 b).2 = sp_sa (T 1) (T 4) (T 5) (T 9 0) i ((s0 + n) % 2) j b := q1
      have hA := @sa_ge (T 1) (T 4) (T 5) (T 9 0) i ((s0 + n) % 2) j b (Nat.le_of_lt hb)
      show (if b < bk (28 + j) ∧ c < 2 then dnO bk s0 i j k (dnI bk i ((s0 + n) % 2) j (bk 3 + 1) 0 b).2 (if 0 < (dnI bk i ((s0 + n) % 2) j (bk 3 + 1) 0 b).1 then 0 else c + 1) (n + 1) else if b = bk (28 + j) then (n : Int) else -4) = (if sp_sa (T 1) (T 4) (T 5) (T 9 0) i ((s0 + n) &&& 1) j b < T 5 j then snF (T 1) (T 4) (T 5) (T 9 0) i j s0 m (n + 1) (sp_sa (T 1) (T 4) (T 5) (T 9 0) i ((s0 + n) &&& 1) j b) else ((n + 1 : Nat) : Int))
      rw [if_pos ⟨by rw [e28]; exact hb, hc⟩, q2, q3, and1]
      generalize hAe : sp_sa (T 1) (T 4) (T 5) (T 9 0) i ((s0 + n) % 2) j b = A at hA ⊢
      by_cases c1 : A < T 5 j
      · rw [if_pos c1]
        by_cases c2 : b < A
        · rw [if_pos (show 0 < 0 + (A - b) by omega)]
          exact dnO_sn h hi hj k m A 0 (n + 1) c1 (by decide) (fun z => absurd z (by decide)) (by omega) (by omega)
        · have eA : A = b := by omega
          rw [if_neg (show ¬ 0 < 0 + (A - b) by omega), eA]
          by_cases c3 : c = 0
          · subst c3
            exact dnO_sn h hi hj k m b 1 (n + 1) hb (by decide) (fun _ => by rw [show (s0 + (n + 1) + 1) % 2 = (s0 + n) % 2 by omega, hAe]; exact eA) (by omega) (by omega)
          · have c4 : c = 1 := by omega
            subst c4
            have z1 := hI rfl
            rw [eA] at hAe
            have z : sp_sa (T 1) (T 4) (T 5) (T 9 0) i 0 j b = b ∧ sp_sa (T 1) (T 4) (T 5) (T 9 0) i 1 j b = b := by
              rcases Nat.mod_two_eq_zero_or_one (s0 + n) with y | y
              · rw [y] at hAe; rw [show (s0 + n + 1) % 2 = 1 by omega] at z1; exact ⟨hAe, z1⟩
              · rw [y] at hAe; rw [show (s0 + n + 1) % 2 = 0 by omega] at z1; exact ⟨z1, hAe⟩
            rw [snF_stuck hb z.1 z.2]
            obtain ⟨k, rfl⟩ : ∃ k', k = k' + 1 := ⟨k - 1, by omega⟩
            show (if b < bk (28 + j) ∧ 1 + 1 < 2 then _ else if b = bk (28 + j) then _ else (-4 : Int)) = -4
            rw [if_neg (by omega), if_neg (by omega)]
      · have eA : A = T 5 j := by omega
        rw [if_neg c1, if_pos (show 0 < 0 + (A - b) by omega), eA]
        obtain ⟨k, rfl⟩ : ∃ k', k = k' + 1 := ⟨k - 1, by omega⟩
        show (if T 5 j < bk (28 + j) ∧ 0 < 2 then _ else if T 5 j = bk (28 + j) then ((n + 1 : Nat) : Int) else -4) = _
        rw [if_neg (by omega), if_pos e28.symm]
theorem done_rel {T : St} {bk : Nat → Nat} (h : RT T bk) {i j s0 : Nat} (hi : i < T 0 0) (hj : j < T 3 0) : sp_done bk s0 i j = sp_sn (T 1) (T 4) (T 5) (T 9 0) i j s0 := by
  obtain ⟨-, ⟨l1, l8⟩, -⟩ := h.2.2.1 j hj
  exact dnO_sn h hi hj 30 16 0 0 0 (by omega) (by decide) (fun z => absurd z (by decide)) (by omega) (by omega)
theorem isP_lt {p : Nat} {i : Int} (h : isP p i = true) : i.toNat < p := by
  have := of_decide_eq_true h
  omega
theorem c_done_rel {X : Nat → St} {bk s : Nat → Nat} (h : RT (X 2) bk) (hs : s 0 = X 4 0 0) (i j : Int) : c_done X i j = g_done bk s i j := by
  unfold c_done g_done
  rw [h.1.1, h.1.2.1, hs]
  by_cases e : vDone (X 2 0 0) (X 2 3 0) i j = true
  · rw [if_pos e, if_pos e]
    have e' := e
    unfold vDone at e'
    rw [Bool.and_eq_true] at e'
    exact (done_rel h (isP_lt e'.1) (isP_lt e'.2)).symm
  · rw [if_neg e, if_neg e]
theorem best_go {X : Nat → St} {bk : Nat → Nat} (h : RT (X 2) bk) {j s0 : Nat} (hs : s0 = X 4 0 0) (hj : j < X 2 3 0) : ∀ n, n ≤ X 2 0 0 → ∀ a b : Int, (lpR (cbB X j) n 0 (-4, -4)).2 < (n : Int) ∧ bsF bk s0 j n a b = if (lpR (cbB X j) n 0 (-4, -4)).2 = -4 then a else if a = -4 ∨ (lpR (cbB X j) n 0 (-4, -4)).1 ≤ b then (lpR (cbB X j) n 0 (-4, -4)).2 else a
  | 0, _, a, b => ⟨by show (-4 : Int) < 0; decide, rfl⟩
  | n + 1, hn, a, b => by
      rw [lpR_succ (Nat.zero_le n)]
      have ih := best_go h hs hj n (by omega)
      have hD : sp_done bk s0 n j = sp_sn (X 2 1) (X 2 4) (X 2 5) (X 2 9 0) n j (X 4 0 0) := by rw [hs]; exact done_rel h (by omega) hj
      generalize lpR (cbB X j) n 0 (-4, -4) = u at ih ⊢
      show _ ∧ (if ¬ sp_done bk s0 n j = -4 ∧ (a = -4 ∨ sp_done bk s0 n j ≤ b) then bsF bk s0 j n (n : Int) (sp_done bk s0 n j) else bsF bk s0 j n a b) = _
      have ih1 := (ih a b).1
      rw [(ih a b).2, (ih (n : Int) (sp_done bk s0 n j)).2]
      unfold cbB
      rw [← hD]
      generalize sp_done bk s0 n j = D
      by_cases c1 : D = -4
      · rw [if_neg (fun z => z.1 c1), if_neg (fun z => z.1 c1)]
        exact ⟨by omega, rfl⟩
      · by_cases c2 : u.2 = -4 ∨ D < u.1
        · rw [if_pos (show ¬ D = -4 ∧ (u.2 = -4 ∨ D < u.1) from ⟨c1, c2⟩)]
          refine ⟨by show (n : Int) < _; omega, ?_⟩
          dsimp only
          rw [if_neg (show ¬ ((n : Int) = -4) by omega)]
          by_cases c3 : a = -4 ∨ D ≤ b
          · rw [if_pos ⟨c1, c3⟩, if_pos c3]
            by_cases c4 : u.2 = -4
            · rw [if_pos c4]
            · rw [if_neg c4, if_neg (by omega)]
          · rw [if_neg (fun z => c3 z.2), if_neg c3]
            by_cases c4 : u.2 = -4
            · rw [if_pos c4]
            · rw [if_neg c4, if_neg (by omega)]
        · rw [if_neg (show ¬ (¬ D = -4 ∧ (u.2 = -4 ∨ D < u.1)) from fun z => c2 z.2)]
          refine ⟨by omega, ?_⟩
          rw [if_neg (show ¬ u.2 = -4 by omega)]
          by_cases c3 : a = -4 ∨ D ≤ b
          · rw [if_pos ⟨c1, c3⟩, if_pos (show (n : Int) = -4 ∨ u.1 ≤ D by omega), if_pos (show a = -4 ∨ u.1 ≤ b by omega), if_neg (show ¬ u.2 = -4 by omega)]
          · rw [if_neg (fun z => c3 z.2)]
theorem best_rel {X : Nat → St} {bk s : Nat → Nat} (h : RT (X 2) bk) (hs : s 0 = X 4 0 0) (j : Int) : c_best X j = g_best bk s j := by
  unfold c_best g_best
  rw [h.1.2.1, h.1.1]
  by_cases e : isP (X 2 3 0) j = true
  · rw [if_pos e, if_pos e, (best_go h hs (isP_lt e) (X 2 0 0) (Nat.le_refl _) (-4) 0).2]
    split
    · rename_i z; exact z
    · rw [if_pos (Or.inl rfl)]
  · rw [if_neg e, if_neg e]
