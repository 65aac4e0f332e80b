-- ===== deeds that were seen; what is kept
theorem fah_rel {X : Nat → St} {bk : Nat → Nat} (h : RT (X 2) bk) (hp : X 2 0 0 ≤ 5) (t : Nat) (z : Nat → Nat) : RS (X 2 0 0) (cSs X t).1 (cSs X t).2.1 (cSs X t).2.2 (sp_fah bk z t) :=
  es_rel (k := t) hp h.1.1 h.1.2.2.2.2.1 (RS_st hp (fun k hk => (h.2.1 k hk).2))
/-- who could have done the deeds: the class's row, the model's rows -/
def RD (bk ds df : Nat → Nat) (n : Nat) (g : Nat → Nat) : Prop := ∀ k, k < n → ∀ z : Nat → Nat, g k = sp_who (bk 0) (df k) (sp_fah bk z (ds k))
theorem finds_at {bk ds df : Nat → Nat} {n : Nat} {g f : Nat → Nat} : ∀ k, k < n → ∃ z : Nat → Nat, (sp_finds bk ds df n g f).1 k = sp_who (bk 0) (df k) (sp_fah bk z (ds k)) :=
  lpR_invk (P := fun k (a : (Nat → Nat) × (Nat → Nat)) => ∀ j, j < k → ∃ z : Nat → Nat, a.1 j = sp_who (bk 0) (df j) (sp_fah bk z (ds j))) (f := fdB bk ds df) (Nat.zero_le n) (fun k a _ hq j hj => by
    show ∃ z : Nat → Nat, upN a.1 k _ j = _
    by_cases e : j = k
    · subst e; exact ⟨a.2, upN_eq⟩
    · rw [upN_ne e]; exact hq j (by omega)) (fun j hj => absurd hj (Nat.not_lt_zero j))
theorem finds_rel {bk ds df : Nat → Nat} {n : Nat} {g0 g f : Nat → Nat} (h : RD bk ds df n g0) : ∀ k, k < n → (sp_finds bk ds df n g f).1 k = g0 k := fun k hk => by
  obtain ⟨z, hz⟩ := @finds_at bk ds df n g f k hk
  rw [hz, h k hk z]
theorem fits_eq {p n : Nat} {g g' : Nat → Nat} (h : ∀ k, k < n → g k = g' k) : sp_fits p n g = sp_fits p n g' :=
  lpR_rel (Rl := fun _ (a b : Nat) => a = b) (f := fun k a => a &&& g k) (g := fun k a => a &&& g' k) (Nat.zero_le n) (fun k a b hk e => by subst e; show a &&& g k = a &&& g' k; rw [h k hk]) rfl
theorem exF_la {g : Nat → Nat} {x : Nat} : ∀ m k, lpF (laB g x) m k true = exF g x m k
  | 0, _ => rfl
  | m + 1, k => by
      show lpF (laB g x) m (k + 1) (laB g x k true) = if g k &&& x = 0 then false else exF g x m (k + 1)
      by_cases e : g k &&& x = 0
      · rw [if_pos e, show laB g x k true = false by unfold laB; rw [decide_eq_true e]; rfl]
        exact lpF_inv (P := fun b => b = false) (f := laB g x) (fun k a ha => by subst ha; rfl) m (k + 1) false rfl
      · rw [if_neg e, show laB g x k true = true by unfold laB; rw [decide_eq_false e]; rfl]
        exact exF_la m (k + 1)
theorem ex_la {n : Nat} {g : Nat → Nat} {x : Nat} : laR n g x = exA n g x := exF_la n 0
theorem exF_eq {g g' : Nat → Nat} {x n : Nat} (h : ∀ k, k < n → g k = g' k) : ∀ m k, k + m ≤ n → exF g x m k = exF g' x m k
  | 0, _, _ => rfl
  | m + 1, k, hk => by
      show (if g k &&& x = 0 then false else exF g x m (k + 1)) = if g' k &&& x = 0 then false else exF g' x m (k + 1)
      rw [h k (by omega), exF_eq h m (k + 1) (by omega)]
theorem least_rel {X : Nat → St} {n : Nat} {g : Nat → Nat} (hn : X 0 9 0 = n) (h : ∀ k, k < n → g k = X 0 8 k) : c_least X = sp_least (X 2 0 0) n g := by
  unfold c_least sp_least
  exact congrArg Prod.fst (lpR_rel (Rl := fun _ (a b : Int × Nat) => a = b) (f := clB X) (g := leB n g) (Nat.zero_le _) (fun k a b _ e => by
    subst e
    unfold clB leB
    have e1 : exA (X 0 9 0) (X 0 8) k = laR n g k := by rw [ex_la, hn]; exact (exF_eq h n 0 (by omega)).symm
    rw [e1]
    by_cases c : laR n g k = true ∧ lnR k < a.2
    · rw [if_pos c, if_pos ⟨c.2, c.1⟩]
    · rw [if_neg c, if_neg (fun z => c ⟨z.2, z.1⟩)]) rfl)
theorem seen_rd {X : Nat → St} {M : St} (h : RT (X 2) (M 2)) (hp : X 2 0 0 ≤ 5) (hn : X 0 9 0 = M 11 0) (hD : RD (M 2) (M 8) (M 9) (M 11 0) (X 0 8)) (h10 : M 11 0 ≤ 10) (t f : Int) :
    c_seen X t f = g_seen M t f ∧ (c_seenO X t f 9 0 = g_seenD M t f) ∧ RD (M 2) (g_seenT M t f) (g_seenF M t f) (g_seenD M t f) (c_seenO X t f 8) := by
  unfold c_seen g_seen c_seenO g_seenD g_seenT g_seenF
  by_cases e : vSeen t f = true
  · simp only [if_pos e]
    by_cases c : X 0 9 0 < 10
    · have c' : ¬ M 11 0 = 10 := by omega
      simp only [if_pos c, if_neg c']
      refine ⟨by rw [hn], hn ▸ rfl, fun k hk z => ?_⟩
      show upN (X 0 8) (X 0 9 0) _ k = _
      rw [hn]
      by_cases e2 : k = M 11 0
      · subst e2
        rw [upN_eq, upN_eq, upN_eq, h.1.1]
        exact (who_able (fah_rel h hp t.toNat z)).symm
      · rw [upN_ne e2, upN_ne e2, upN_ne e2]
        exact hD k (by omega) z
    · have c' : M 11 0 = 10 := by omega
      simp only [if_neg c, if_pos c']
      exact ⟨by trivial, by omega, fun k hk z => hD k (by omega) z⟩
  · simp only [if_neg e]
    exact ⟨by trivial, hn, hD⟩
theorem cpK_at {s f : Nat → Nat} {n j : Nat} : cpK s n f j = if 16 * n ≤ j ∧ j < 16 * n + 16 then s (j - 16 * n) else f j := by
  have hz := lpR_invk (P := fun k (g : Nat → Nat) => ∀ j, g j = if 16 * n ≤ j ∧ j < 16 * n + k then s (j - 16 * n) else f j) (f := fun k f => upN f (16 * n + k) (s k)) (N := 16) (k := 0) (a := f) (Nat.zero_le 16) (fun k a hk hq j => by
    by_cases e : j = 16 * n + k
    · subst e; rw [upN_eq, if_pos (by omega), show 16 * n + k - 16 * n = k by omega]
    · rw [upN_ne e, hq j]
      by_cases c : 16 * n ≤ j ∧ j < 16 * n + k
      · rw [if_pos c, if_pos (by omega)]
      · rw [if_neg c, if_neg (by omega)]) (fun j => by rw [if_neg (by omega)])
  exact hz j
theorem cpB_at {kp s : Nat → Nat} {n j : Nat} (h : j < 16) : cpB kp n s j = kp (16 * n + j) := by
  unfold cpB
  exact (fill_at (fun k => kp (16 * n + k)) s 16 j).trans (if_pos h)
/-- what is kept: the class's two places, the model's row -/
def RK (p n : Nat) (A B : St) (kp : Nat → Nat) : Prop := (1 ≤ n → RS p (A 0 0) (A 1) (A 2) (fun k => kp k)) ∧ (2 ≤ n → RS p (B 0 0) (B 1) (B 2) (fun k => kp (16 + k)))
theorem cpS_rel {p : Nat} {A B : St} {s s' : Nat → Nat} (hp : p ≤ 5) (hR : RS p (A 0 0) (A 1) (A 2) s) (hs : ∀ j, j < 16 → s' j = s j) : RS p (cpS A B 0 0) (cpS A B 1) (cpS A B 2) s' :=
  RS_eq (f' := cpN (A 1) (B 1) 10) (h' := cpN (A 2) (B 2) 5) hp hR hs (fun k hk => cpN_at (by omega)) (fun i hi => cpN_at (by omega))
theorem keep_rel {X : Nat → St} {M : St} (hp : X 2 0 0 ≤ 5) (hs : RX X (M 4)) (hn : X 0 7 0 = M 7 0) (h2 : M 7 0 ≤ 2) (hK : RK (X 2 0 0) (M 7 0) (X 6) (X 7) (M 6)) :
    c_keep X = g_keep M ∧ c_keepN X = g_keepN M ∧ RK (X 2 0 0) (g_keepN M) (c_keep6 X) (c_keep7 X) (g_keepK M) := by
  unfold c_keep g_keep c_keepN g_keepN c_keep6 c_keep7 g_keepK
  by_cases c : M 7 0 = 2
  · have c' : ¬ X 0 7 0 < 2 := by omega
    simp only [if_pos c, if_neg c']
    exact ⟨by trivial, hn, hK⟩
  · have c' : X 0 7 0 < 2 := by omega
    simp only [if_neg c, if_pos c']
    refine ⟨by rw [hn], by rw [hn], ?_⟩
    by_cases z : X 0 7 0 = 0
    · have z' : M 7 0 = 0 := by omega
      simp only [if_pos z, z']
      refine ⟨fun _ => cpS_rel hp hs (fun j hj => by rw [cpK_at, if_pos (by omega)]; rfl), fun q => absurd q (by decide)⟩
    · have z' : M 7 0 = 1 := by omega
      simp only [if_neg z, z']
      refine ⟨fun _ => RS_eq hp (hK.1 (by omega)) (fun j hj => by rw [cpK_at, if_neg (by omega)]) (fun _ _ => rfl) (fun _ _ => rfl), fun _ => cpS_rel hp hs (fun j hj => by rw [cpK_at, if_pos (by omega), show 16 + j - 16 * 1 = j by omega])⟩
theorem back_rel {X : Nat → St} {M : St} (hp : X 2 0 0 ≤ 5) (hs : RX X (M 4)) (hn : X 0 7 0 = M 7 0) (h2 : M 7 0 ≤ 2) (hK : RK (X 2 0 0) (M 7 0) (X 6) (X 7) (M 6)) :
    c_back X = g_back M ∧ c_backN X = g_backN M ∧ RK (X 2 0 0) (g_backN M) (X 6) (X 7) (M 6) ∧ RS (X 2 0 0) (c_back4 X 0 0) (c_back4 X 1) (c_back4 X 2) (g_backS M) := by
  unfold c_back g_back c_backN g_backN c_back4 g_backS
  by_cases c : M 7 0 = 0
  · have c' : ¬ 0 < X 0 7 0 := by omega
    simp only [if_pos c, if_neg c']
    exact ⟨by trivial, hn, hK, hs⟩
  · have c' : 0 < X 0 7 0 := by omega
    simp only [if_neg c, if_pos c']
    refine ⟨by rw [hn], by rw [hn], ⟨fun _ => hK.1 (by omega), fun q => absurd q (by omega)⟩, ?_⟩
    by_cases z : X 0 7 0 - 1 = 0
    · have z' : M 7 0 - 1 = 0 := by omega
      simp only [if_pos z, z']
      exact cpS_rel hp (hK.1 (by omega)) (fun j hj => by rw [cpB_at hj, show 16 * 0 + j = j by omega])
    · have z' : M 7 0 - 1 = 1 := by omega
      simp only [if_neg z, z']
      exact cpS_rel hp (hK.2 (by omega)) (fun j hj => by rw [cpB_at hj])
