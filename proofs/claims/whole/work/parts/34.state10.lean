def vAp (n : Nat) : Bool := decide (n < 300)
def apBy (n v : Nat) (f : Nat → Nat) : Nat → Nat := if vAp n then upN f n v else f
def apLn (n : Nat) : Nat := if vAp n then n + 1 else n
-- the town behind its deeds
def tAP (T : St) (x y : Nat) : St := stR (stR (stR T 1 (apS (T 0 0) x y (T 1))) 2 (apK (T 0 0) x y (T 2))) 0 (fun _ => apP (T 0 0) x y)
def tAS (T : St) (z : Int) : St := stR (stR T 4 (asS (T 3 0) (T 6 0) z (T 4))) 6 (fun _ => asO (T 3 0) (T 6 0) z)
def tET (T : St) : St := stR (stR (stR T 5 (etL (T 3 0) (T 6 0) (T 5))) 6 (fun _ => etO (T 3 0) (T 6 0))) 3 (fun _ => etT (T 3 0) (T 6 0))
def tSC (T : St) (x : Nat) : St := stR T 9 (fun _ => ifV (vSC x) x (T 9 0))
def tSN (T : St) (x : Nat) : St := stR T 10 (fun _ => ifV (vSN x) x (T 10 0))
def tSK (T : St) (i d x : Nat) : St := stR T 2 (skK (T 0 0) i d x (T 2))
def tPR (T : St) (i d j e : Nat) : St := stR (stR T 8 (prH (T 7 0) (T 0 0) i d j e (T 8))) 7 (fun _ => prN (T 7 0) (T 0 0) i d j e)
def tPU (T : St) (x y z : Nat) : St := stR (stR (stR T 11 (fun _ => ifV (vPU x y z) x (T 11 0))) 12 (fun _ => ifV (vPU x y z) y (T 12 0))) 13 (fun _ => ifV (vPU x y z) z (T 13 0))
theorem tok_AP {T : St} (h : Tok T) (x y : Nat) : Tok (tAP T x y) := by
  obtain ⟨hs, h1, h2, h4, h5, h8⟩ := h
  cases hv : vAP (T 0 0) x y
  · refine ⟨?_, ?_, ?_, h4, h5, h8⟩
    · show apP (T 0 0) x y ≤ 5 ∧ _; unfold apP; rw [hv]; exact hs
    · show ∀ k, apS (T 0 0) x y (T 1) k < 256; unfold apS; rw [hv]; exact h1
    · show ∀ k, apK (T 0 0) x y (T 2) k < 256; unfold apK; rw [hv]; exact h2
  · have hv2 := hv
    unfold vAP at hv2
    rw [decide_eq_true_eq] at hv2
    refine ⟨?_, ?_, ?_, h4, h5, h8⟩
    · show apP (T 0 0) x y ≤ 5 ∧ _; unfold apP; rw [hv, if_pos rfl]; exact ⟨by omega, hs.2⟩
    · show ∀ k, apS (T 0 0) x y (T 1) k < 256; unfold apS; rw [hv, if_pos rfl]; exact upN_lt (upN_lt h1 (by omega)) (by omega)
    · show ∀ k, apK (T 0 0) x y (T 2) k < 256; unfold apK; rw [hv, if_pos rfl]; exact upN_lt (upN_lt h2 (by decide)) (by decide)
theorem tok_AS {T : St} (h : Tok T) (z : Int) : Tok (tAS T z) := by
  obtain ⟨hs, h1, h2, h4, h5, h8⟩ := h
  cases hv : vAS (T 3 0) (T 6 0) z
  · refine ⟨?_, h1, h2, ?_, h5, h8⟩
    · show T 0 0 ≤ 5 ∧ T 3 0 ≤ 4 ∧ asO (T 3 0) (T 6 0) z ≤ 8 ∧ _; unfold asO; rw [hv]; exact hs
    · show ∀ k, asS (T 3 0) (T 6 0) z (T 4) k < 6; unfold asS; rw [hv]; exact h4
  · have hv2 := hv
    unfold vAS at hv2
    rw [decide_eq_true_eq] at hv2
    refine ⟨?_, h1, h2, ?_, h5, h8⟩
    · show T 0 0 ≤ 5 ∧ T 3 0 ≤ 4 ∧ asO (T 3 0) (T 6 0) z ≤ 8 ∧ _; unfold asO; rw [hv, if_pos rfl]; exact ⟨hs.1, hs.2.1, by omega, hs.2.2.2⟩
    · show ∀ k, asS (T 3 0) (T 6 0) z (T 4) k < 6; unfold asS; rw [hv, if_pos rfl]; exact upN_lt h4 (by omega)
theorem tok_ET {T : St} (h : Tok T) : Tok (tET T) := by
  obtain ⟨hs, h1, h2, h4, h5, h8⟩ := h
  cases hv : vET (T 3 0) (T 6 0)
  · refine ⟨?_, h1, h2, h4, ?_, h8⟩
    · show T 0 0 ≤ 5 ∧ etT (T 3 0) (T 6 0) ≤ 4 ∧ etO (T 3 0) (T 6 0) ≤ 8 ∧ _; unfold etT etO; rw [hv]; exact hs
    · show ∀ k, etL (T 3 0) (T 6 0) (T 5) k < 9; unfold etL; rw [hv]; exact h5
  · have hv2 := hv
    unfold vET at hv2
    rw [decide_eq_true_eq] at hv2
    refine ⟨?_, h1, h2, h4, ?_, h8⟩
    · show T 0 0 ≤ 5 ∧ etT (T 3 0) (T 6 0) ≤ 4 ∧ etO (T 3 0) (T 6 0) ≤ 8 ∧ _; unfold etT etO; rw [hv, if_pos rfl, if_pos rfl]; exact ⟨hs.1, by omega, by omega, hs.2.2.2⟩
    · show ∀ k, etL (T 3 0) (T 6 0) (T 5) k < 9; unfold etL; rw [hv, if_pos rfl]; exact upN_lt h5 (by omega)
theorem tok_SC {T : St} (h : Tok T) (x : Nat) : Tok (tSC T x) := by
  obtain ⟨hs, h1, h2, h4, h5, h8⟩ := h
  refine ⟨?_, h1, h2, h4, h5, h8⟩
  show T 0 0 ≤ 5 ∧ T 3 0 ≤ 4 ∧ T 6 0 ≤ 8 ∧ T 7 0 ≤ 8 ∧ ifV (vSC x) x (T 9 0) ≤ 8 ∧ _
  refine ⟨hs.1, hs.2.1, hs.2.2.1, hs.2.2.2.1, ?_, hs.2.2.2.2.2⟩
  unfold ifV
  split
  · rename_i hv; unfold vSC at hv; rw [decide_eq_true_eq] at hv; omega
  · omega
theorem tok_SN {T : St} (h : Tok T) (x : Nat) : Tok (tSN T x) := by
  obtain ⟨hs, h1, h2, h4, h5, h8⟩ := h
  refine ⟨?_, h1, h2, h4, h5, h8⟩
  show T 0 0 ≤ 5 ∧ T 3 0 ≤ 4 ∧ T 6 0 ≤ 8 ∧ T 7 0 ≤ 8 ∧ T 9 0 ≤ 8 ∧ ifV (vSN x) x (T 10 0) ≤ 8 ∧ _
  refine ⟨hs.1, hs.2.1, hs.2.2.1, hs.2.2.2.1, hs.2.2.2.2.1, ?_, hs.2.2.2.2.2.2⟩
  unfold ifV
  split
  · rename_i hv; unfold vSN at hv; rw [decide_eq_true_eq] at hv; omega
  · omega
theorem tok_SK {T : St} (h : Tok T) (i d x : Nat) : Tok (tSK T i d x) := by
  obtain ⟨hs, h1, h2, h4, h5, h8⟩ := h
  refine ⟨hs, h1, ?_, h4, h5, h8⟩
  show ∀ k, skK (T 0 0) i d x (T 2) k < 256
  unfold skK
  split
  · rename_i hv; unfold vSK at hv; rw [decide_eq_true_eq] at hv; exact upN_lt h2 (by omega)
  · exact h2
theorem tok_PR {T : St} (h : Tok T) (i d j e : Nat) : Tok (tPR T i d j e) := by
  obtain ⟨hs, h1, h2, h4, h5, h8⟩ := h
  cases hv : vPR (T 7 0) (T 0 0) i d j e
  · refine ⟨?_, h1, h2, h4, h5, ?_⟩
    · show T 0 0 ≤ 5 ∧ T 3 0 ≤ 4 ∧ T 6 0 ≤ 8 ∧ prN (T 7 0) (T 0 0) i d j e ≤ 8 ∧ _; unfold prN; rw [hv]; exact hs
    · show ∀ k, prH (T 7 0) (T 0 0) i d j e (T 8) k < 16; unfold prH; rw [hv]; exact h8
  · have hv2 := hv
    unfold vPR at hv2
    rw [decide_eq_true_eq] at hv2
    refine ⟨?_, h1, h2, h4, h5, ?_⟩
    · show T 0 0 ≤ 5 ∧ T 3 0 ≤ 4 ∧ T 6 0 ≤ 8 ∧ prN (T 7 0) (T 0 0) i d j e ≤ 8 ∧ _; unfold prN; rw [hv, if_pos rfl]; exact ⟨hs.1, hs.2.1, hs.2.2.1, by omega, hs.2.2.2.2⟩
    · show ∀ k, prH (T 7 0) (T 0 0) i d j e (T 8) k < 16; unfold prH; rw [hv, if_pos rfl]; exact upN_lt (upN_lt h8 (by omega)) (by omega)
theorem tok_PU {T : St} (h : Tok T) (x y z : Nat) : Tok (tPU T x y z) := by
  obtain ⟨hs, h1, h2, h4, h5, h8⟩ := h
  refine ⟨?_, h1, h2, h4, h5, h8⟩
  show T 0 0 ≤ 5 ∧ T 3 0 ≤ 4 ∧ T 6 0 ≤ 8 ∧ T 7 0 ≤ 8 ∧ T 9 0 ≤ 8 ∧ T 10 0 ≤ 8 ∧ ifV (vPU x y z) x (T 11 0) ≤ 20 ∧ ifV (vPU x y z) y (T 12 0) ≤ 9 ∧ ifV (vPU x y z) z (T 13 0) ≤ 9
  cases hv : vPU x y z
  · exact hs
  · unfold vPU at hv; rw [decide_eq_true_eq] at hv
    show T 0 0 ≤ 5 ∧ T 3 0 ≤ 4 ∧ T 6 0 ≤ 8 ∧ T 7 0 ≤ 8 ∧ T 9 0 ≤ 8 ∧ T 10 0 ≤ 8 ∧ x ≤ 20 ∧ y ≤ 9 ∧ z ≤ 9
    omega
def tE (T : St) : St := stR (stR (stR (stR (stR (stR (stR (stR (stR T 0 (fun _ => 0)) 3 (fun _ => 0)) 6 (fun _ => 0)) 7 (fun _ => 0)) 9 (fun _ => 3)) 10 (fun _ => 2)) 11 (fun _ => 9)) 12 (fun _ => 1)) 13 (fun _ => 1)
theorem tok_E {T : St} (h : Tok T) : Tok (tE T) := ⟨⟨show (0 : Nat) ≤ 5 by decide, show (0 : Nat) ≤ 4 by decide, show (0 : Nat) ≤ 8 by decide, show (0 : Nat) ≤ 8 by decide, show (3 : Nat) ≤ 8 by decide, show (2 : Nat) ≤ 8 by decide, show (9 : Nat) ≤ 20 by decide, show (1 : Nat) ≤ 9 by decide, show (1 : Nat) ≤ 9 by decide⟩, h.2.1, h.2.2.1, h.2.2.2.1, h.2.2.2.2.1, h.2.2.2.2.2⟩
/-- steps of a trade: fuel, place, town -/
def stF (b : Nat → Nat) (n : Nat) : Nat → Nat → St → Bool × Nat × St
  | 0, a, T => (vRS b n a 59, rsA b n a 59, T)
  | m + 1, a, T => if sp_nx b n a = 59 then (vRS b n a 59, rsA b n a 59, T) else if vAS (T 3 0) (T 6 0) (sp_nx b n a - 48) then stF b n m (a + 1) (tAS T (sp_nx b n a - 48)) else (false, a, tAS T (sp_nx b n a - 48))
def sp_st (b : Nat → Nat) (n a : Nat) (T : St) : Bool × Nat × St := stF b n 8 a T
theorem stF_end {b : Nat → Nat} {n m a : Nat} {T : St} (h : m = 0 ∨ sp_nx b n a = 59) : stF b n m a T = (vRS b n a 59, rsA b n a 59, T) := by
  cases m with
  | zero => rfl
  | succ m =>
    have h2 : sp_nx b n a = 59 := h.elim (fun z => by omega) id
    show (if sp_nx b n a = 59 then _ else _) = _
    rw [if_pos h2]
theorem stF_go {b : Nat → Nat} {n k a : Nat} {T : St} (hk : k < 8) (h : ¬ sp_nx b n a = 59) (h2 : vAS (T 3 0) (T 6 0) (sp_nx b n a - 48) = true) : stF b n (8 - k) a T = stF b n (8 - (k + 1)) (a + 1) (tAS T (sp_nx b n a - 48)) := by
  rw [show 8 - k = (8 - (k + 1)) + 1 by omega]
  show (if sp_nx b n a = 59 then _ else if vAS (T 3 0) (T 6 0) (sp_nx b n a - 48) then _ else _) = _
  rw [if_neg h, if_pos h2]
theorem stF_no {b : Nat → Nat} {n k a : Nat} {T : St} (hk : k < 8) (h : ¬ sp_nx b n a = 59) (h2 : vAS (T 3 0) (T 6 0) (sp_nx b n a - 48) = false) : stF b n (8 - k) a T = (false, a, tAS T (sp_nx b n a - 48)) := by
  rw [show 8 - k = (8 - (k + 1)) + 1 by omega]
  show (if sp_nx b n a = 59 then _ else if vAS (T 3 0) (T 6 0) (sp_nx b n a - 48) then _ else _) = _
  rw [if_neg h, if_neg (by rw [h2]; decide)]
theorem vAS_lt {t o n a : Nat} {b : Nat → Nat} (h : vAS t o (sp_nx b n a - 48) = true) : a < n := by
  unfold vAS sp_nx at h
  rw [decide_eq_true_eq] at h
  by_cases ha : a < n
  · exact ha
  · rw [if_neg ha] at h; omega
theorem stF_all {b : Nat → Nat} {n : Nat} : ∀ m a (T : St), a ≤ n → Tok T → (a ≤ (stF b n m a T).2.1 ∧ (stF b n m a T).2.1 ≤ n) ∧ Tok (stF b n m a T).2.2
  | 0, a, T, ha, hT => by
    refine ⟨?_, hT⟩
    show a ≤ rsA b n a 59 ∧ rsA b n a 59 ≤ n
    unfold rsA
    split
    · rename_i h; have := vRS_lt (by omega) h; omega
    · omega
  | m + 1, a, T, ha, hT => by
    unfold stF
    split
    · refine ⟨?_, hT⟩
      show a ≤ rsA b n a 59 ∧ rsA b n a 59 ≤ n
      unfold rsA
      split
      · rename_i h; have := vRS_lt (by omega) h; omega
      · omega
    · split
      · rename_i h
        have hl := vAS_lt h
        have ih := stF_all (b := b) (n := n) m (a + 1) (tAS T (sp_nx b n a - 48)) (by omega) (tok_AS hT _)
        exact ⟨⟨by omega, ih.1.2⟩, ih.2⟩
      · exact ⟨⟨Nat.le_refl a, ha⟩, tok_AS hT _⟩
/-- an item: whether it is so, place, numbers, town -/
abbrev RI : Type := Bool × Nat × (Nat → Nat) × St
def ri1 (r : Bool × Nat × (Nat → Nat)) (v : Bool) (T' T : St) : RI := if r.1 then (v, r.2.1, r.2.2, T') else (false, r.2.1, r.2.2, T)
def ri2 (r : Bool × Nat × St) (g : Nat → Nat) : RI := if r.1 then (vET (r.2.2 3 0) (r.2.2 6 0), r.2.1, g, tET r.2.2) else (false, r.2.1, g, r.2.2)
def ri_item (b : Nat → Nat) (n a : Nat) (g : Nat → Nat) (T : St) : RI :=
  if sp_nx b n a = 112 then ri1 (sp_rm b n 2 (a + 1) g) (vAP (T 0 0) ((sp_rm b n 2 (a + 1) g).2.2 0) ((sp_rm b n 2 (a + 1) g).2.2 1)) (tAP T ((sp_rm b n 2 (a + 1) g).2.2 0) ((sp_rm b n 2 (a + 1) g).2.2 1)) T else
  if sp_nx b n a = 106 then ri2 (sp_st b n (a + 1) T) g else
  if sp_nx b n a = 99 then ri1 (sp_rm b n 1 (a + 1) g) (vSC ((sp_rm b n 1 (a + 1) g).2.2 0)) (tSC T ((sp_rm b n 1 (a + 1) g).2.2 0)) T else
  if sp_nx b n a = 110 then ri1 (sp_rm b n 1 (a + 1) g) (vSN ((sp_rm b n 1 (a + 1) g).2.2 0)) (tSN T ((sp_rm b n 1 (a + 1) g).2.2 0)) T else
  if sp_nx b n a = 107 then ri1 (sp_rm b n 3 (a + 1) g) (vSK (T 0 0) ((sp_rm b n 3 (a + 1) g).2.2 0) ((sp_rm b n 3 (a + 1) g).2.2 1) ((sp_rm b n 3 (a + 1) g).2.2 2)) (tSK T ((sp_rm b n 3 (a + 1) g).2.2 0) ((sp_rm b n 3 (a + 1) g).2.2 1) ((sp_rm b n 3 (a + 1) g).2.2 2)) T else
  if sp_nx b n a = 109 then ri1 (sp_rm b n 4 (a + 1) g) (vPR (T 7 0) (T 0 0) ((sp_rm b n 4 (a + 1) g).2.2 0) ((sp_rm b n 4 (a + 1) g).2.2 1) ((sp_rm b n 4 (a + 1) g).2.2 2) ((sp_rm b n 4 (a + 1) g).2.2 3)) (tPR T ((sp_rm b n 4 (a + 1) g).2.2 0) ((sp_rm b n 4 (a + 1) g).2.2 1) ((sp_rm b n 4 (a + 1) g).2.2 2) ((sp_rm b n 4 (a + 1) g).2.2 3)) T else
  if sp_nx b n a = 117 then ri1 (sp_rm b n 3 (a + 1) g) (vPU ((sp_rm b n 3 (a + 1) g).2.2 0) ((sp_rm b n 3 (a + 1) g).2.2 1) ((sp_rm b n 3 (a + 1) g).2.2 2)) (tPU T ((sp_rm b n 3 (a + 1) g).2.2 0) ((sp_rm b n 3 (a + 1) g).2.2 1) ((sp_rm b n 3 (a + 1) g).2.2 2)) T else (false, a + 1, g, T)
def Rok (n a : Nat) (r : RI) : Prop := (a ≤ r.2.1 ∧ r.2.1 ≤ n) ∧ (∀ j, r.2.2.1 j < 1000) ∧ Tok r.2.2.2
theorem ri1_ok {n a w : Nat} {b g : Nat → Nat} {v : Bool} {T' T : St} (hb : ∀ k, b k < 256) (ha : a ≤ n) (hg : ∀ j, g j < 1000) (h1 : Tok T') (h2 : Tok T) : Rok n a (ri1 (sp_rm b n w a g) v T' T) := by
  have h := rm_all (w := w) hb ha hg
  unfold ri1
  split
  · exact ⟨h.1, h.2, h1⟩
  · exact ⟨h.1, h.2, h2⟩
theorem ri_ok {n a : Nat} {b g : Nat → Nat} {T : St} (hb : ∀ k, b k < 256) (ha : a < n) (hg : ∀ j, g j < 1000) (hT : Tok T) : Rok n (a + 1) (ri_item b n a g T) := by
  unfold ri_item
  split
  · exact ri1_ok hb ha hg (tok_AP hT _ _) hT
  · split
    · have h := stF_all (b := b) (n := n) 8 (a + 1) T ha hT
      unfold ri2
      split
      · exact ⟨h.1, hg, tok_ET h.2⟩
      · exact ⟨h.1, hg, h.2⟩
    · split
      · exact ri1_ok hb ha hg (tok_SC hT _) hT
      · split
        · exact ri1_ok hb ha hg (tok_SN hT _) hT
        · split
          · exact ri1_ok hb ha hg (tok_SK hT _ _ _) hT
          · split
            · exact ri1_ok hb ha hg (tok_PR hT _ _ _ _) hT
            · split
              · exact ri1_ok hb ha hg (tok_PU hT _ _ _) hT
              · exact ⟨⟨Nat.le_refl _, ha⟩, hg, hT⟩
/-- reading: fuel, place, numbers, town -/
def roF (b : Nat → Nat) (n : Nat) : Nat → Nat → (Nat → Nat) → St → Int × Nat × (Nat → Nat) × St
  | 0, a, g, T => (-4, a, g, T)
  | m + 1, a, g, T => if a < n then (if (ri_item b n a g T).1 then roF b n m (ri_item b n a g T).2.1 (ri_item b n a g T).2.2.1 (ri_item b n a g T).2.2.2 else ((a : Int), (ri_item b n a g T).2)) else (-4, a, g, T)
theorem roF_go {b g : Nat → Nat} {n k a : Nat} {T : St} (hk : k < 300) (h : a < n) (hi : (ri_item b n a g T).1 = true) : roF b n (300 - k) a g T = roF b n (300 - (k + 1)) (ri_item b n a g T).2.1 (ri_item b n a g T).2.2.1 (ri_item b n a g T).2.2.2 := by
  rw [show 300 - k = (300 - (k + 1)) + 1 by omega]
  show (if a < n then (if (ri_item b n a g T).1 then _ else _) else _) = _
  rw [if_pos h, if_pos hi]
theorem roF_bad {b g : Nat → Nat} {n k a : Nat} {T : St} (hk : k < 300) (h : a < n) (hi : (ri_item b n a g T).1 = false) : roF b n (300 - k) a g T = ((a : Int), (ri_item b n a g T).2) := by
  rw [show 300 - k = (300 - (k + 1)) + 1 by omega]
  show (if a < n then (if (ri_item b n a g T).1 then _ else _) else _) = _
  rw [if_pos h, if_neg (by rw [hi]; decide)]
theorem roF_end {b g : Nat → Nat} {n m a : Nat} {T : St} (h : m = 0 ∨ ¬ a < n) : roF b n m a g T = (-4, a, g, T) := by
  cases m with
  | zero => rfl
  | succ m =>
    have h2 : ¬ a < n := h.elim (fun z => by omega) id
    show (if a < n then _ else _) = _
    rw [if_neg h2]
theorem roF_ok {b : Nat → Nat} {n : Nat} (hb : ∀ k, b k < 256) : ∀ m a (g : Nat → Nat) (T : St), a ≤ n → (∀ j, g j < 1000) → Tok T → (-4 ≤ (roF b n m a g T).1 ∧ (roF b n m a g T).1 < n + 1) ∧ (roF b n m a g T).2.1 ≤ n ∧ (∀ j, (roF b n m a g T).2.2.1 j < 1000) ∧ Tok (roF b n m a g T).2.2.2
  | 0, a, g, T, ha, hg, hT => ⟨⟨Int.le_refl _, by show (-4 : Int) < n + 1; omega⟩, ha, hg, hT⟩
  | m + 1, a, g, T, ha, hg, hT => by
    unfold roF
    split
    · rename_i h
      have hk := ri_ok (b := b) hb h hg hT
      split
      · exact roF_ok hb m _ _ _ hk.1.2 hk.2.1 hk.2.2
      · exact ⟨⟨by show -4 ≤ (a : Int); omega, by show (a : Int) < n + 1; omega⟩, hk.1.2, hk.2.1, hk.2.2⟩
    · exact ⟨⟨Int.le_refl _, by show (-4 : Int) < n + 1; omega⟩, ha, hg, hT⟩
def sp_ro (b : Nat → Nat) (n : Nat) (g : Nat → Nat) (T : St) : Int × Nat × (Nat → Nat) × St := roF b n 300 0 g (tE T)
theorem ro_ok {b g : Nat → Nat} {n : Nat} {T : St} (hb : ∀ k, b k < 256) (hg : ∀ j, g j < 1000) (hT : Tok T) : (-4 ≤ (sp_ro b n g T).1 ∧ (sp_ro b n g T).1 < n + 1) ∧ (sp_ro b n g T).2.1 ≤ n ∧ (∀ j, (sp_ro b n g T).2.2.1 j < 1000) ∧ Tok (sp_ro b n g T).2.2.2 := roF_ok hb 300 0 g _ (Nat.zero_le n) hg (tok_E hT)
