/-- what holds behind an item: its place goes on, and the bounds stand -/
def Pok (n a : Nat) (r : PR) : Prop := (a ≤ r.2.1 ∧ r.2.1 ≤ n) ∧ (∀ j, r.2.2.1 j < 1000) ∧ Dok r.2.2.2
theorem Dok.up {d : Nat → Nat} (h : Dok d) {k v : Nat} (hk : 3 ≤ k) (hv : v < 256) : Dok (upN d k v) :=
  ⟨by rw [upN_ne (by omega), upN_ne (by omega), upN_ne (by omega)]; exact h.1, upN_lt h.2 hv⟩
theorem Dok.lt {d : Nat → Nat} (h : Dok d) : ∀ k, d k < 256 := h.2
theorem person_ok {t g d : Nat → Nat} {n a : Nat} (ha : a ≤ n) (hg : ∀ j, g j < 1000) (hd : Dok d) : Pok n a (pr_person t n a g d) := by
  have hn := num_all (t := t) (w := 2) ha hg
  unfold pr_person
  by_cases h5 : d 0 = 5
  · rw [if_pos h5]; exact ⟨⟨Nat.le_refl a, ha⟩, hg, hd⟩
  · rw [if_neg h5]
    split
    · rename_i h
      have h0 := hd.1
      refine ⟨hn.1, hn.2, ?_⟩
      show Dok (upN (upN (upN d (8 + 2 * d 0) _) (8 + 2 * upN d (8 + 2 * d 0) _ 0 + 1) _) 0 _)
      have e1 : upN d (8 + 2 * d 0) ((sp_num t n 2 a g).2.2 0) 0 = d 0 := upN_ne (by omega)
      rw [e1]
      have e2 : upN (upN d (8 + 2 * d 0) ((sp_num t n 2 a g).2.2 0)) (8 + 2 * d 0 + 1) ((sp_num t n 2 a g).2.2 1) 0 = d 0 := by rw [upN_ne (by omega), e1]
      rw [e2]
      have hk : Dok (upN (upN d (8 + 2 * d 0) ((sp_num t n 2 a g).2.2 0)) (8 + 2 * d 0 + 1) ((sp_num t n 2 a g).2.2 1)) := (hd.up (by omega) (by omega)).up (by omega) (by omega)
      refine ⟨?_, upN_lt hk.2 (by omega)⟩
      have h3 := hk.1
      rw [upN_eq, upN_ne (by omega), upN_ne (k := 0) (by omega)]
      omega
    · exact ⟨hn.1, hn.2, hd⟩
theorem trF_all {t : Nat → Nat} {n : Nat} : ∀ m u a (d : Nat → Nat), a ≤ n → u + m = 8 → Dok d → (u ≤ (trF t n m u a d).1 ∧ (trF t n m u a d).1 ≤ 8) ∧ (a ≤ (trF t n m u a d).2.1 ∧ (trF t n m u a d).2.1 ≤ n) ∧ Dok (trF t n m u a d).2.2 ∧ (d 1 = 4 → (trF t n m u a d).1 = u)
  | 0, u, a, d, ha, hu, hd => ⟨⟨Nat.le_refl u, by show u ≤ 8; omega⟩, ⟨Nat.le_refl a, ha⟩, hd, fun _ => rfl⟩
  | m + 1, u, a, d, ha, hu, hd => by
    by_cases h : d 1 < 4 ∧ isIn (sp_byte t n a) 48 53 = true
    · rw [trF_go h]
      have hb : a < n ∧ 48 ≤ t a ∧ t a ≤ 53 := by
        have h2 := h.2
        unfold isIn sp_byte at h2
        rw [decide_eq_true_eq] at h2
        split at h2 <;> omega
      have h3 := trF_all (t := t) (n := n) m (u + 1) (a + 1) (upN d (32 + 8 * d 1 + u) (t a - 48)) (by omega) (by omega) (hd.up (by omega) (by omega))
      exact ⟨⟨by omega, h3.1.2⟩, ⟨by omega, h3.2.1.2⟩, h3.2.2.1, fun z => by omega⟩
    · rw [trF_stop h]
      exact ⟨⟨Nat.le_refl u, by show u ≤ 8; omega⟩, ⟨Nat.le_refl a, ha⟩, hd, fun _ => rfl⟩
theorem trF_same {t : Nat → Nat} {n : Nat} : ∀ m u a (d : Nat → Nat), u + m = 8 → d 1 < 4 → (trF t n m u a d).2.2 1 < 4
  | 0, u, a, d, hu, h => h
  | m + 1, u, a, d, hu, h => by
    by_cases hc : d 1 < 4 ∧ isIn (sp_byte t n a) 48 53 = true
    · rw [trF_go hc]
      have e1 : upN d (32 + 8 * d 1 + u) (t a - 48) 1 = d 1 := upN_ne (by omega)
      exact trF_same m (u + 1) (a + 1) _ (by omega) (by rw [e1]; exact h)
    · rw [trF_stop hc]; exact h
theorem trF_lt4 {t : Nat → Nat} {n : Nat} : ∀ m u a (d : Nat → Nat), u + m = 8 → d 1 ≤ 4 → ¬ (trF t n m u a d).1 = u → (trF t n m u a d).2.2 1 < 4
  | 0, u, a, d, hu, hd, h => absurd rfl h
  | m + 1, u, a, d, hu, hd, h => by
    by_cases hc : d 1 < 4 ∧ isIn (sp_byte t n a) 48 53 = true
    · rw [trF_go hc] at h ⊢
      have e1 : upN d (32 + 8 * d 1 + u) (t a - 48) 1 = d 1 := upN_ne (by omega)
      by_cases h2 : (trF t n m (u + 1) (a + 1) (upN d (32 + 8 * d 1 + u) (t a - 48))).1 = u + 1
      · exact trF_same m (u + 1) (a + 1) _ (by omega) (by rw [e1]; exact hc.1)
      · exact trF_lt4 m (u + 1) (a + 1) _ (by omega) (by rw [e1]; exact hd) h2
    · rw [trF_stop hc] at h
      exact absurd rfl h
theorem tr_lt4 {t d : Nat → Nat} {n a : Nat} (ha : a ≤ n) (hd : Dok d) (h : ¬ (trF t n 8 0 a d).1 = 0) : (trF t n 8 0 a d).2.2 1 < 4 := trF_lt4 8 0 a d rfl hd.1.2.1 h
theorem trade_ok {t g d : Nat → Nat} {n a : Nat} (ha : a ≤ n) (hg : ∀ j, g j < 1000) (hd : Dok d) : Pok n a (pr_trade t n a g d) := by
  have hn := trF_all (t := t) (n := n) 8 0 a d ha rfl hd
  have e : trR t n a d = trF t n 8 0 a d := rfl
  unfold pr_trade
  rw [e]
  split
  · exact ⟨hn.2.1, hg, hn.2.2.1⟩
  · rename_i h
    have hb : (trF t n 8 0 a d).2.1 < n := by
      have h2 : sp_byte t n (trF t n 8 0 a d).2.1 = 59 := Decidable.byContradiction fun z => h (Or.inr z)
      unfold sp_byte at h2
      split at h2
      · assumption
      · omega
    have h0 : ¬ (trF t n 8 0 a d).1 = 0 := fun z => h (Or.inl z)
    refine ⟨⟨by show a ≤ _ + 1; omega, by show _ + 1 ≤ n; omega⟩, hg, ?_⟩
    have hk := hn.2.2.1
    have h1 := hk.1
    show Dok (upN (upN (trF t n 8 0 a d).2.2 (28 + (trF t n 8 0 a d).2.2 1) (trF t n 8 0 a d).1) 1 _)
    have e1 : upN (trF t n 8 0 a d).2.2 (28 + (trF t n 8 0 a d).2.2 1) (trF t n 8 0 a d).1 1 = (trF t n 8 0 a d).2.2 1 := upN_ne (by omega)
    rw [e1]
    have hk2 : Dok (upN (trF t n 8 0 a d).2.2 (28 + (trF t n 8 0 a d).2.2 1) (trF t n 8 0 a d).1) := hk.up (by omega) (by omega)
    have h4 := tr_lt4 ha hd h0
    refine ⟨?_, upN_lt hk2.2 (by omega)⟩
    have h3 := hk2.1
    rw [upN_eq, upN_ne (k := 1) (by omega), upN_ne (k := 1) (by omega)]
    omega
theorem known_ok {t g d : Nat → Nat} {n a : Nat} (ha : a ≤ n) (hg : ∀ j, g j < 1000) (hd : Dok d) : Pok n a (pr_known t n a g d) := by
  have hn := num_all (t := t) (w := 3) ha hg
  unfold pr_known
  split
  · rename_i h
    exact ⟨hn.1, hn.2, hd.up (by omega) (by omega)⟩
  · exact ⟨hn.1, hn.2, hd⟩
theorem isH_iff {g d : Nat → Nat} {k : Nat} : isH g d k = true ↔ g k < d 0 ∧ g (k + 1) < 2 := by unfold isH; rw [decide_eq_true_eq]
theorem married_ok {t g d : Nat → Nat} {n a : Nat} (ha : a ≤ n) (hg : ∀ j, g j < 1000) (hd : Dok d) : Pok n a (pr_married t n a g d) := by
  have hn := num_all (t := t) (w := 4) ha hg
  unfold pr_married
  by_cases h5 : d 2 = 8
  · rw [if_pos h5]; exact ⟨⟨Nat.le_refl a, ha⟩, hg, hd⟩
  · rw [if_neg h5]
    split
    · rename_i h
      have h0 := hd.1
      have i1 := isH_iff.mp h.2.1
      have i2 := isH_iff.mp h.2.2.1
      simp only [Nat.zero_add] at i1
      have i3 : (sp_num t n 4 a g).2.2 (2 + 1) = (sp_num t n 4 a g).2.2 3 := rfl
      rw [i3] at i2
      refine ⟨hn.1, hn.2, ?_⟩
      show Dok (upN (upN (upN d (64 + 2 * d 2) _) (64 + 2 * upN d (64 + 2 * d 2) _ 2 + 1) _) 2 _)
      have e1 : upN d (64 + 2 * d 2) (2 * (sp_num t n 4 a g).2.2 0 + (sp_num t n 4 a g).2.2 1) 2 = d 2 := upN_ne (by omega)
      rw [e1]
      have e2 : upN (upN d (64 + 2 * d 2) (2 * (sp_num t n 4 a g).2.2 0 + (sp_num t n 4 a g).2.2 1)) (64 + 2 * d 2 + 1) (2 * (sp_num t n 4 a g).2.2 2 + (sp_num t n 4 a g).2.2 3) 2 = d 2 := by rw [upN_ne (by omega), e1]
      rw [e2]
      have hk : Dok (upN (upN d (64 + 2 * d 2) (2 * (sp_num t n 4 a g).2.2 0 + (sp_num t n 4 a g).2.2 1)) (64 + 2 * d 2 + 1) (2 * (sp_num t n 4 a g).2.2 2 + (sp_num t n 4 a g).2.2 3)) := (hd.up (by omega) (by omega)).up (by omega) (by omega)
      refine ⟨?_, upN_lt hk.2 (by omega)⟩
      have h3 := hk.1
      rw [upN_eq, upN_ne (k := 2) (by omega), upN_ne (k := 2) (by omega)]
      omega
    · exact ⟨hn.1, hn.2, hd⟩
theorem isIn_iff {v a b : Int} : isIn v a b = true ↔ a ≤ v ∧ v ≤ b := by unfold isIn; rw [decide_eq_true_eq]
theorem pursed_ok {t g d : Nat → Nat} {n a : Nat} (ha : a ≤ n) (hg : ∀ j, g j < 1000) (hd : Dok d) : Pok n a (pr_pursed t n a g d) := by
  have hn := num_all (t := t) (w := 3) ha hg
  unfold pr_pursed
  split
  · rename_i h
    have i1 := isIn_iff.mp h.2.2.1
    have i2 := isIn_iff.mp h.2.2.2
    exact ⟨hn.1, hn.2, ((hd.up (by omega) (by omega)).up (by omega) (by omega)).up (by omega) (by omega)⟩
  · exact ⟨hn.1, hn.2, hd⟩
theorem one_ok {t g d : Nat → Nat} {n a w : Nat} {lo hi : Int} (hw : 3 ≤ w) (hh : hi ≤ 8) (ha : a ≤ n) (hg : ∀ j, g j < 1000) (hd : Dok d) : Pok n a (pr_one t n a g d w lo hi) := by
  have hn := num_all (t := t) (w := 1) ha hg
  unfold pr_one
  split
  · rename_i h
    have i1 := isIn_iff.mp h.2
    exact ⟨hn.1, hn.2, hd.up hw (by omega)⟩
  · exact ⟨hn.1, hn.2, hd⟩
theorem Pok.more {n a b : Nat} {r : PR} (h : Pok n b r) (hab : a ≤ b) : Pok n a r := ⟨⟨Nat.le_trans hab h.1.1, h.1.2⟩, h.2⟩
theorem item_ok {t g d : Nat → Nat} {n a : Nat} (ha : a < n) (hg : ∀ j, g j < 1000) (hd : Dok d) : Pok n (a + 1) (pr_item t n a g d) := by
  unfold pr_item
  split
  · exact person_ok ha hg hd
  · split
    · exact trade_ok ha hg hd
    · split
      · exact one_ok (by decide) (by decide) ha hg hd
      · split
        · exact one_ok (by decide) (by decide) ha hg hd
        · split
          · exact known_ok ha hg hd
          · split
            · exact married_ok ha hg hd
            · split
              · exact pursed_ok ha hg hd
              · exact ⟨⟨Nat.le_refl _, ha⟩, hg, hd⟩
/-- reading: fuel, place, told, draft -/
def rdF (t : Nat → Nat) (n : Nat) : Nat → Nat → (Nat → Nat) → (Nat → Nat) → Int × Nat × (Nat → Nat) × (Nat → Nat)
  | 0, a, g, d => (-4, a, g, d)
  | m + 1, a, g, d => if a < n then (if (pr_item t n a g d).1 then rdF t n m (pr_item t n a g d).2.1 (pr_item t n a g d).2.2.1 (pr_item t n a g d).2.2.2 else ((a : Int), (pr_item t n a g d).2)) else (-4, a, g, d)
def clr (d : Nat → Nat) : Nat → Nat := lpR (fun k d => upN d k 0) 80 0 d
def dr0 (d : Nat → Nat) : Nat → Nat := upN (upN (upN (upN (upN (clr d) 3 3) 4 2) 5 9) 6 1) 7 1
def rdR (t : Nat → Nat) (n : Nat) (g d : Nat → Nat) : Int × Nat × (Nat → Nat) × (Nat → Nat) := rdF t n 301 0 g (dr0 d)
theorem clr_lt {d : Nat → Nat} (h : ∀ k, d k < 256) : ∀ k, clr d k < 256 := lpR_inv (P := fun (f : Nat → Nat) => ∀ k, f k < 256) (fun _ _ h => upN_lt h (by decide)) h
theorem dr0_ok {d : Nat → Nat} (h : ∀ k, d k < 256) : Dok (dr0 d) :=
  ⟨⟨show (0 : Nat) ≤ 5 by decide, show (0 : Nat) ≤ 4 by decide, show (0 : Nat) ≤ 8 by decide⟩, upN_lt (upN_lt (upN_lt (upN_lt (upN_lt (clr_lt h) (by decide)) (by decide)) (by decide)) (by decide)) (by decide)⟩
theorem rdF_go {t g d : Nat → Nat} {n m a : Nat} (h : a < n) (hi : (pr_item t n a g d).1 = true) : rdF t n (m + 1) a g d = rdF t n m (pr_item t n a g d).2.1 (pr_item t n a g d).2.2.1 (pr_item t n a g d).2.2.2 := by
  show (if a < n then (if (pr_item t n a g d).1 then _ else _) else _) = _
  rw [if_pos h, if_pos hi]
theorem rdF_bad {t g d : Nat → Nat} {n m a : Nat} (h : a < n) (hi : (pr_item t n a g d).1 = false) : rdF t n (m + 1) a g d = ((a : Int), (pr_item t n a g d).2) := by
  show (if a < n then (if (pr_item t n a g d).1 then _ else _) else _) = _
  rw [if_pos h, if_neg (by rw [hi]; decide)]
theorem rdF_end {t g d : Nat → Nat} {n m a : Nat} (h : ¬ a < n) : rdF t n m a g d = (-4, a, g, d) := by
  cases m with
  | zero => rfl
  | succ m => show (if a < n then _ else _) = _; rw [if_neg h]
theorem rdF_ok {t : Nat → Nat} {n : Nat} : ∀ m a (g d : Nat → Nat), a ≤ n → (∀ j, g j < 1000) → Dok d → (-4 ≤ (rdF t n m a g d).1 ∧ (rdF t n m a g d).1 < n + 1) ∧ (rdF t n m a g d).2.1 ≤ n ∧ (∀ j, (rdF t n m a g d).2.2.1 j < 1000) ∧ Dok (rdF t n m a g d).2.2.2
  | 0, a, g, d, ha, hg, hd => ⟨⟨Int.le_refl _, by show (-4 : Int) < n + 1; omega⟩, ha, hg, hd⟩
  | m + 1, a, g, d, ha, hg, hd => by
    by_cases h : a < n
    · have hk := item_ok (t := t) h hg hd
      by_cases hi : (pr_item t n a g d).1 = true
      · rw [rdF_go h hi]
        exact rdF_ok m _ _ _ hk.1.2 hk.2.1 hk.2.2
      · rw [rdF_bad h (by cases hx : (pr_item t n a g d).1; rfl; exact absurd hx hi)]
        exact ⟨⟨by show -4 ≤ (a : Int); omega, by show (a : Int) < n + 1; omega⟩, hk.1.2, hk.2.1, hk.2.2⟩
    · rw [rdF_end h]
      exact ⟨⟨Int.le_refl _, by show (-4 : Int) < n + 1; omega⟩, ha, hg, hd⟩
abbrev reR (M : St) : Int × Nat × (Nat → Nat) × (Nat → Nat) := rdR (M 0) (M 1 0) (M 13) (M 3)
theorem re_ok {M : St} (hg : ∀ j, M 13 j < 1000) (hd : ∀ k, M 3 k < 256) : (-4 ≤ (reR M).1 ∧ (reR M).1 < M 1 0 + 1) ∧ (reR M).2.1 ≤ M 1 0 ∧ (∀ j, (reR M).2.2.1 j < 1000) ∧ Dok (reR M).2.2.2 := rdF_ok 301 0 _ _ (Nat.zero_le _) hg (dr0_ok hd)
def bLay (M : St) : Bool := decide ((reR M).1 = -4) && !decide ((reR M).2.2.2 0 = 0)
def cp80 (d b : Nat → Nat) : Nat → Nat := lpR (fun k b => upN b k (d k)) 80 0 b
def g_layB (M : St) : Nat → Nat := if bLay M then cp80 (reR M).2.2.2 (M 2) else M 2
def g_layS (M : St) : Nat → Nat := if bLay M then sp_start (cp80 (reR M).2.2.2 (M 2)) (M 4) else M 4
def g_layD (M : St) : Nat := if bLay M then 0 else M 11 0
def g_layK (M : St) : Nat := if bLay M then 0 else M 7 0
def g_lay (M : St) : Int := if bLay M then (cp80 (reR M).2.2.2 (M 2) 0 : Int) else -2
