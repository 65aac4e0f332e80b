-- ===== calls on the standing
abbrev RX (X : Nat → St) (s : Nat → Nat) : Prop := RS (X 2 0 0) (X 4 0 0) (X 4 1) (X 4 2) s
theorem isIn_le {v a b : Int} (h : isIn v a b = true) : a ≤ v ∧ v ≤ b := of_decide_eq_true h
theorem half_rel {X : Nat → St} {bk s : Nat → Nat} (h : RT (X 2) bk) (hp : X 2 0 0 ≤ 5) (hs : RX X s) (i d w : Int) : c_half X i d w = g_half bk s i d w := by
  unfold c_half g_half vHalf
  rw [h.1.1]
  by_cases e : (isP (X 2 0 0) i && isIn d 0 1) = true
  · have e' := e
    rw [Bool.and_eq_true] at e'
    have hi := isP_lt e'.1
    have hd : d.toNat < 2 := by have := isIn_le e'.2; omega
    rw [if_pos e, e, Bool.true_and]
    by_cases ew : isIn w 0 2 = true
    · rw [if_pos ew]
      have hw := isIn_le ew
      rw [show 8 + 2 * i.toNat + d.toNat = 8 + (2 * i.toNat + d.toNat) by omega, (h.2.1 (2 * i.toNat + d.toNat) (by omega)).1, show 1 + 2 * i.toNat + d.toNat = 1 + (2 * i.toNat + d.toNat) by omega, hs.2.1 (2 * i.toNat + d.toNat) (by omega), hs.2.2 i.toNat hi, hs.1, and1]
      rcases (show w = 0 ∨ w = 1 ∨ w = 2 by omega) with z | z | z <;> subst z <;> rfl
    · rw [if_neg ew]
      have hw : ¬ (0 ≤ w ∧ w ≤ 2) := fun z => ew (decide_eq_true z)
      rw [if_neg (show ¬ w = 0 by omega), if_neg (show ¬ w = 1 by omega), if_neg (show ¬ w = 2 by omega)]
  · have e2 : (isP (X 2 0 0) i && isIn d 0 1) = false := by cases hq : (isP (X 2 0 0) i && isIn d 0 1) <;> simp_all
    rw [if_neg e, e2, Bool.false_and, if_neg (by decide)]
theorem see_ix {X : Nat → St} {s : Nat → Nat} (hs : RX X s) {i : Nat} (hi : i < X 2 0 0) : 1 + 2 * i + s 0 % 2 = 1 + (2 * i + (X 4 0 0 &&& 1)) ∧ s (1 + (2 * i + (X 4 0 0 &&& 1))) = X 4 1 (2 * i + (X 4 0 0 &&& 1)) := by
  rw [hs.1, and1]
  exact ⟨by omega, hs.2.1 _ (by omega)⟩
theorem learn_rel {p n i x : Nat} {f h s : Nat → Nat} (hp : p ≤ 5) (hR : RS p n f h s) (hi : i < p) : RS p n (lrn f n i x) h (upN s (1 + 2 * i + s 0 % 2) (s (1 + 2 * i + s 0 % 2) ||| 1 * 2 ^ x)) := by
  unfold lrn
  rw [hR.1, show 1 + 2 * i + n % 2 = 1 + (2 * i + (n &&& 1)) by rw [and1]; omega, hR.2.1 (2 * i + (n &&& 1)) (by rw [and1]; omega)]
  exact RS_upk hR hp (by rw [and1]; omega)
theorem see_rel {X : Nat → St} {bk s : Nat → Nat} (h : RT (X 2) bk) (hp : X 2 0 0 ≤ 5) (hs : RX X s) (i f : Int) : c_see X i f = g_see bk s i f ∧ RS (X 2 0 0) (c_seeN X i f 0 0) (c_seeN X i f 1) (c_seeN X i f 2) (g_seeS bk s i f) := by
  unfold c_see g_see c_seeN g_seeS
  rw [h.1.1]
  by_cases e : vSee (X 2 0 0) i f = true
  · have e' := e
    unfold vSee at e'
    rw [Bool.and_eq_true] at e'
    have hi := isP_lt e'.1
    have r := learn_rel (x := f.toNat) hp hs hi
    simp only [if_pos e]
    refine ⟨?_, r⟩
    rw [r.1, show 1 + 2 * i.toNat + X 4 0 0 % 2 = 1 + (2 * i.toNat + (X 4 0 0 &&& 1)) by rw [and1]; omega, r.2.1 _ (by rw [and1]; omega)]
  · simp only [if_neg e]
    exact ⟨by trivial, hs⟩
theorem bit_z (x n : Nat) : (x / 2 ^ n &&& 1 = 0) ↔ (x &&& (1 * 2 ^ n) = 0) := by
  have e : (x / 2 ^ n &&& 1 = 0) ↔ x.testBit n = false := by
    rw [and1, Nat.testBit_eq_decide_div_mod_eq]
    have := Nat.mod_lt (x / 2 ^ n) (show 0 < 2 by decide)
    rw [decide_eq_false_iff_not]
    omega
  rw [e, Nat.one_mul]
  constructor
  · intro hb
    apply Nat.eq_of_testBit_eq
    intro i
    rw [Nat.testBit_and, Nat.testBit_two_pow, Nat.zero_testBit]
    by_cases c : n = i
    · subst c; rw [hb]; rfl
    · rw [decide_eq_false c, Bool.and_false]
  · intro hz
    have h2 : (x &&& 2 ^ n).testBit n = false := by rw [hz]; exact Nat.zero_testBit n
    rw [Nat.testBit_and, Nat.testBit_two_pow, decide_eq_true rfl, Bool.and_true] at h2
    exact h2
theorem note_rel {X : Nat → St} {bk s : Nat → Nat} (h : RT (X 2) bk) (hp : X 2 0 0 ≤ 5) (hs : RX X s) (i f : Int) : c_note X i f = g_note bk s i f ∧ RS (X 2 0 0) (c_noteN X i f 0 0) (c_noteN X i f 1) (c_noteN X i f 2) (g_noteS bk s i f) := by
  unfold c_note g_note c_noteN g_noteS
  rw [h.1.1]
  by_cases e : vSee (X 2 0 0) i f = true
  · have e' := e
    unfold vSee at e'
    rw [Bool.and_eq_true] at e'
    have hi := isP_lt e'.1
    have q := see_ix hs hi
    have eb : bNote s i f = cNo X i.toNat f.toNat := by
      unfold bNote cNo
      rw [q.1, q.2]
      exact decide_eq_decide.mpr (bit_z _ _)
    simp only [if_pos e, eb]
    by_cases c : cNo X i.toNat f.toNat = true
    · simp only [if_pos c]; exact ⟨by trivial, hs⟩
    · simp only [if_neg c]
      have r := RS_uph (i := i.toNat) (v := X 4 2 i.toNat ||| 1 * 2 ^ f.toNat) hs hp hi
      rw [hs.2.2 i.toNat hi]
      exact ⟨by rw [upN_eq, upN_eq], r⟩
  · simp only [if_neg e]
    exact ⟨by trivial, hs⟩
theorem deed_rel {X : Nat → St} {bk s : Nat → Nat} (h : RT (X 2) bk) (hs : RX X s) (i f : Int) : c_deed X i f = g_deed bk s i f := by
  unfold c_deed g_deed
  rw [h.1.1]
  by_cases e : vDeed (X 2 0 0) i f = true
  · have e' := e
    unfold vDeed at e'
    rw [Bool.and_eq_true] at e'
    have q := see_ix hs (isP_lt e'.1)
    rw [if_pos e, if_pos e, q.1, q.2]
    by_cases hz : anot f.toNat (X 4 1 (2 * i.toNat + (X 4 0 0 &&& 1))) = 0
    · rw [if_pos hz, if_pos (show hAll (X 4 1 (2 * i.toNat + (X 4 0 0 &&& 1))) f.toNat = true from decide_eq_true (anot_z.mp hz))]
    · rw [if_neg hz, if_neg (show ¬ hAll (X 4 1 (2 * i.toNat + (X 4 0 0 &&& 1))) f.toNat = true from fun z => hz (anot_z.mpr (of_decide_eq_true z)))]
  · rw [if_neg e, if_neg e]
theorem shifts_rel {X : Nat → St} {bk s f : Nat → Nat} (h : RT (X 2) bk) (hp : X 2 0 0 ≤ 5) (hs : RX X s) (n : Int) : c_shifts X n = g_shifts bk s f n ∧ RS (X 2 0 0) (c_shiftsN X n 0 0) (c_shiftsN X n 1) (c_shiftsN X n 2) (g_shiftsS bk s f n) := by
  have r := es_rel (k := n.toNat) hp h.1.1 h.1.2.2.2.2.1 (RS_eq (s' := cp16 s f) hp hs (fun j hj => cp16_at hj) (fun _ _ => rfl) (fun _ _ => rfl))
  have r2 := RS_eq (s' := cp16 (sp_plays bk s f n.toNat) s) hp r (fun j hj => cp16_at hj) (fun _ _ => rfl) (fun _ _ => rfl)
  have ev : vShift s n = vShC (X 4 0 0) n := by unfold vShift vShC; rw [hs.1]
  unfold c_shifts g_shifts c_shiftsN g_shiftsS
  rw [ev]
  by_cases e : vShC (X 4 0 0) n = true
  · simp only [if_pos e]
    exact ⟨by rw [r2.1], r2⟩
  · simp only [if_neg e]
    exact ⟨by trivial, hs⟩
theorem plays_rel {X : Nat → St} {bk s f : Nat → Nat} (h : RT (X 2) bk) (hp : X 2 0 0 ≤ 5) (hs : RX X s) (n : Nat) : RS (X 2 0 0) (ctr X n).1 (ctr X n).2.1 (ctr X n).2.2 (sp_plays bk s f n) :=
  es_rel (k := n) hp h.1.1 h.1.2.2.2.2.1 (RS_cp hp hs)
theorem knows_rel {X : Nat → St} {bk s f : Nat → Nat} (h : RT (X 2) bk) (hp : X 2 0 0 ≤ 5) (hs : RX X s) (n i d : Int) : c_knows X n i d = g_knows bk s f n i d := by
  unfold c_knows g_knows
  rw [h.1.1]
  by_cases e : vKnows (X 2 0 0) n i d = true
  · have e' := e
    unfold vKnows at e'
    rw [Bool.and_eq_true, Bool.and_eq_true] at e'
    have hi := isP_lt e'.1.2
    have hd := isIn_le e'.2
    rw [if_pos e, if_pos e, show 1 + 2 * i.toNat + d.toNat = 1 + (2 * i.toNat + d.toNat) by omega, (plays_rel h hp hs n.toNat).2.1 _ (by omega)]
  · rw [if_neg e, if_neg e]
theorem could_rel {X : Nat → St} {bk s f : Nat → Nat} (h : RT (X 2) bk) (hp : X 2 0 0 ≤ 5) (hs : RX X s) (n x : Int) : c_could X n x = g_could bk s f n x := by
  unfold c_could g_could
  rw [h.1.1, who_able (plays_rel h hp hs n.toNat)]
theorem al_go {p N i : Nat} {bk : Nat → Nat} (hp : p ≤ 5) (h0 : bk 0 = p) (h4 : bk 4 = N) (hi : i < p) : ∀ m n x (f h s : Nat → Nat), RS p x f h s → (caF p N i (m + 1) n x f h).1 = if (alF bk i m n s).2 (1 + 2 * i) = (alF bk i m n s).2 (2 + 2 * i) then ((alF bk i m n s).1 : Int) else -4
  | 0, n, x, f, h, s, hR => by
      show (if f (2 * i) = f (2 * i + 1) then ((n : Int), x, f, h) else (-4, _)).1 = if s (1 + 2 * i) = s (2 + 2 * i) then (n : Int) else -4
      rw [hR.2.1 (2 * i) (by omega), show 2 + 2 * i = 1 + (2 * i + 1) by omega, hR.2.1 (2 * i + 1) (by omega)]
      split <;> rfl
  | m + 1, n, x, f, h, s, hR => by
      have e1 := hR.2.1 (2 * i) (by omega)
      have e2 : s (2 + 2 * i) = f (2 * i + 1) := by rw [show 2 + 2 * i = 1 + (2 * i + 1) by omega]; exact hR.2.1 (2 * i + 1) (by omega)
      have ih := al_go hp h0 h4 hi m (n + 1) (sp_es p N 1 x f h).1 (sp_es p N 1 x f h).2.1 (sp_es p N 1 x f h).2.2 (sp_ends bk s) (es_rel (k := 1) hp h0 h4 hR)
      show (if f (2 * i) = f (2 * i + 1) then ((n : Int), x, f, h) else caF p N i (m + 1) (n + 1) (sp_es p N 1 x f h).1 (sp_es p N 1 x f h).2.1 (sp_es p N 1 x f h).2.2).1 = _
      by_cases c : f (2 * i) = f (2 * i + 1)
      · have ez : alF bk i (m + 1) n s = (n, s) := by
          show (if s (1 + 2 * i) = s (2 + 2 * i) then (n, s) else _) = _
          rw [if_pos (by rw [e1, e2]; exact c)]
        rw [if_pos c, ez, if_pos (show s (1 + 2 * i) = s (2 + 2 * i) by rw [e1, e2]; exact c)]
      · have ez : alF bk i (m + 1) n s = alF bk i m (n + 1) (sp_ends bk s) := by
          show (if s (1 + 2 * i) = s (2 + 2 * i) then (n, s) else _) = _
          rw [if_neg (by rw [e1, e2]; exact c)]
        rw [if_neg c, ez]
        exact ih
theorem alike_rel {X : Nat → St} {bk s f : Nat → Nat} (h : RT (X 2) bk) (hp : X 2 0 0 ≤ 5) (hs : RX X s) (i : Int) : c_alike X i = g_alike bk s f i := by
  unfold c_alike g_alike
  rw [h.1.1]
  by_cases e : isP (X 2 0 0) i = true
  · rw [if_pos e, if_pos e]
    exact al_go hp h.1.1 h.1.2.2.2.2.1 (isP_lt e) 40 0 _ _ _ _ (RS_cp hp hs)
  · rw [if_neg e, if_neg e]
theorem month_go {X : Nat → St} {bk s f : Nat → Nat} (h : RT (X 2) bk) (hp : X 2 0 0 ≤ 5) (h1 : 1 ≤ X 2 0 0) (hs : RX X s) (z n : Nat) : RS (X 2 0 0) (cmR2 X z n).1 (cmR2 X z n).2.1 (cmR2 X z n).2.2 (sp_month bk s f z n) :=
  lpR_rel (Rl := fun _ (a : Nat × (Nat → Nat) × (Nat → Nat)) b => RS (X 2 0 0) a.1 a.2.1 a.2.2 b) (f := cmnB (X 2 0 0) (X 2 10 0) z) (g := mnB bk z) (Nat.zero_le n) (fun k a b _ hR => by
    have ed : sp_pd (X 2 0 0) (drw z k) = drw z k / 8 % bk 0 := by unfold sp_pd; rw [if_pos (by omega), h.1.1]
    have hl : drw z k / 8 % bk 0 < X 2 0 0 := by rw [h.1.1]; exact Nat.mod_lt _ (by omega)
    unfold cmnB mnB
    rw [ed]
    exact es_rel (k := 1) hp h.1.1 h.1.2.2.2.2.1 (learn_rel hp hR hl)) (RS_cp hp hs)
theorem month_rel {X : Nat → St} {bk s f : Nat → Nat} (h : RT (X 2) bk) (hp : X 2 0 0 ≤ 5) (h1 : 1 ≤ X 2 0 0) (hs : RX X s) (z n i d : Int) : c_month X z n i d = g_month bk s f z n i d := by
  unfold c_month g_month
  rw [h.1.1]
  by_cases e : vMonth (X 2 0 0) z n i d = true
  · have e' := e
    unfold vMonth at e'
    rw [Bool.and_eq_true, Bool.and_eq_true] at e'
    have hi := isP_lt e'.1.2
    have hd := isIn_le e'.2
    rw [if_pos e, if_pos e, show 1 + 2 * i.toNat + d.toNat = 1 + (2 * i.toNat + d.toNat) by omega, (month_go h hp h1 hs z.toNat n.toNat).2.1 _ (by omega)]
  · rw [if_neg e, if_neg e]
