theorem vRS_c {b : Nat → Nat} {n a : Nat} (hb : ∀ k, b k < 256) : vRS b n a 59 = true ↔ sp_byte b n a = 59 := by
  unfold vRS
  rw [decide_eq_true_eq]
  exact nx_c hb (by decide) (by decide)
/-- what holds of the steps that were read -/
def StR (b : Nat → Nat) (n : Nat) (T : St) (r : Nat × Nat × (Nat → Nat)) (q : Bool × Nat × St) : Prop :=
  (q.1 = true ↔ sp_byte b n r.2.1 = 59) ∧ (q.1 = true → q.2.1 = r.2.1 + 1 ∧ q.2.2 6 0 = r.1 ∧ r.1 ≤ 8 ∧ (q.2.2 3 0 = T 3 0 ∧ q.2.2 0 0 = T 0 0 ∧ q.2.2 7 0 = T 7 0) ∧ RT q.2.2 r.2.2 ∧ ∀ k, k < r.1 → r.2.2 (32 + 8 * r.2.2 1 + k) = q.2.2 4 (8 * q.2.2 3 0 + k))
theorem st_stop {b : Nat → Nat} {n u a : Nat} {d : Nat → Nat} {T : St} (hb : ∀ k, b k < 256) (hu : u ≤ 8) (ho : T 6 0 = u) (h : RT T d) (hI : ∀ k, k < u → d (32 + 8 * d 1 + k) = T 4 (8 * T 3 0 + k)) : StR b n T (u, a, d) (vRS b n a 59, rsA b n a 59, T) :=
  ⟨vRS_c hb, fun q => ⟨by show rsA b n a 59 = a + 1; unfold rsA; rw [if_pos q], ho, hu, ⟨rfl, rfl, rfl⟩, h, hI⟩⟩
theorem st_go {b : Nat → Nat} {n : Nat} (hb : ∀ k, b k < 256) : ∀ m u a (d : Nat → Nat) (T : St), u + m = 8 → T 6 0 = u → T 0 0 ≤ 5 → T 7 0 ≤ 8 → T 3 0 ≤ 4 → RT T d → (∀ k, k < u → d (32 + 8 * d 1 + k) = T 4 (8 * T 3 0 + k)) → StR b n T (trF b n m u a d) (stF b n m a T)
  | 0, u, a, d, T, hm, ho, _, _, _, h, hI => st_stop hb (by omega) ho h hI
  | m + 1, u, a, d, T, hm, ho, hp, hq, ht, h, hI => by
      have e1 : d 1 = T 3 0 := h.1.2.1
      by_cases c1 : sp_nx b n a = 59
      · have c1' : sp_byte b n a = 59 := (nx_c hb (by decide) (by decide)).mp c1
        have x1 : trF b n (m + 1) u a d = (u, a, d) := by
          show (if d 1 < 4 ∧ isIn (sp_byte b n a) 48 53 = true then _ else _) = _
          rw [if_neg (fun z => by have := isIn_le z.2; omega)]
        have x2 : stF b n (m + 1) a T = (vRS b n a 59, rsA b n a 59, T) := by
          show (if sp_nx b n a = 59 then _ else _) = _
          rw [if_pos c1]
        rw [x1, x2]
        exact st_stop hb (by omega) ho h hI
      · have c1' : ¬ sp_byte b n a = 59 := fun z => c1 ((nx_c hb (by decide) (by decide)).mpr z)
        by_cases c2 : T 3 0 < 4 ∧ isIn (sp_byte b n a) 48 53 = true
        · have hz := (nx_st hb).mpr c2.2
          have hv : vAS (T 3 0) (T 6 0) (sp_nx b n a - 48) = true := decide_eq_true ⟨c2.1, by omega, hz.1, hz.2⟩
          have x1 : trF b n (m + 1) u a d = trF b n m (u + 1) (a + 1) (upN d (32 + 8 * d 1 + u) (b a - 48)) := by
            show (if d 1 < 4 ∧ isIn (sp_byte b n a) 48 53 = true then _ else _) = _
            rw [if_pos ⟨by omega, c2.2⟩]
          have x2 : stF b n (m + 1) a T = stF b n m (a + 1) (tAS T (sp_nx b n a - 48)) := by
            show (if sp_nx b n a = 59 then _ else if vAS (T 3 0) (T 6 0) (sp_nx b n a - 48) then _ else _) = _
            rw [if_neg c1, if_pos hv]
          obtain ⟨r1, r2, r3, r4, r5, r6⟩ := RT_step h (u := u) (by omega) c2.1 (sp_nx b n a - 48) hz ho (st_nx c2.2).1 hp hq hI
          have e2 : upN d (32 + 8 * d 1 + u) (b a - 48) 1 = d 1 := upN_ne (by omega)
          have ih := st_go (n := n) hb m (u + 1) (a + 1) (upN d (32 + 8 * d 1 + u) (b a - 48)) (tAS T (sp_nx b n a - 48)) (by omega) r2 (by omega) (by omega) (by omega) r1 (fun k hk => by rw [e2, r3]; exact r6 k hk)
          rw [x1, x2]
          exact ⟨ih.1, fun q => ⟨(ih.2 q).1, (ih.2 q).2.1, (ih.2 q).2.2.1, ⟨(ih.2 q).2.2.2.1.1.trans r3, (ih.2 q).2.2.2.1.2.1.trans r4, (ih.2 q).2.2.2.1.2.2.trans r5⟩, (ih.2 q).2.2.2.2⟩⟩
        · have hv : ¬ vAS (T 3 0) (T 6 0) (sp_nx b n a - 48) = true := fun z => by
            have z := of_decide_eq_true z
            exact c2 ⟨z.1, (nx_st hb).mp ⟨z.2.2.1, z.2.2.2⟩⟩
          have x1 : trF b n (m + 1) u a d = (u, a, d) := by
            show (if d 1 < 4 ∧ isIn (sp_byte b n a) 48 53 = true then _ else _) = _
            rw [if_neg (fun z => c2 ⟨by omega, z.2⟩)]
          have x2 : stF b n (m + 1) a T = (false, a, tAS T (sp_nx b n a - 48)) := by
            show (if sp_nx b n a = 59 then _ else if vAS (T 3 0) (T 6 0) (sp_nx b n a - 48) then _ else _) = _
            rw [if_neg c1, if_neg hv]
          rw [x1, x2]
          exact ⟨⟨fun z => absurd (show false = true from z) (by decide), fun z => absurd z c1'⟩, fun z => absurd (show false = true from z) (by decide)⟩
