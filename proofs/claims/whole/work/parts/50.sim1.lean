-- ===== the two sides, held against one another
theorem lpF_rel {α β : Type} {Rl : Nat → α → β → Prop} {f : Nat → α → α} {g : Nat → β → β} {N : Nat} (hs : ∀ k a b, k < N → Rl k a b → Rl (k + 1) (f k a) (g k b)) : ∀ n k a b, k + n = N → Rl k a b → Rl N (lpF f n k a) (lpF g n k b)
  | 0, k, a, b, e, h => by rw [show N = k by omega]; exact h
  | n + 1, k, a, b, e, h => lpF_rel hs n (k + 1) (f k a) (g k b) (by omega) (hs k a b (by omega) h)
theorem lpR_rel {α β : Type} {Rl : Nat → α → β → Prop} {f : Nat → α → α} {g : Nat → β → β} {N k : Nat} {a : α} {b : β} (hk : k ≤ N) (hs : ∀ k a b, k < N → Rl k a b → Rl (k + 1) (f k a) (g k b)) (h : Rl k a b) : Rl N (lpR f N k a) (lpR g N k b) := lpF_rel hs _ _ _ _ (by omega) h
theorem anot_tb (a b i : Nat) : (anot a b).testBit i = (a.testBit i && !b.testBit i) := by
  unfold anot
  rw [Nat.testBit_xor, Nat.testBit_and]
  cases a.testBit i <;> cases b.testBit i <;> rfl
theorem loF_z : ∀ n, loF n 0 = 0
  | 0 => rfl
  | n + 1 => by show (if (0 : Nat) = 0 then 0 else _) = 0; rw [if_pos rfl]
theorem tells_low_go (x : Nat) : ∀ n k u v, (∀ i, u.testBit i = (x.testBit i && !v.testBit i)) → (∀ i, v.testBit i = true → x.testBit i = true) → (lpF (fun _ => tlB) n k (u, v)).1 = anot x (loF n v)
  | 0, k, u, v, h1, h2 => by
      show u = anot x v
      apply Nat.eq_of_testBit_eq
      intro i
      rw [anot_tb, h1 i]
  | n + 1, k, u, v, h1, h2 => by
      show (lpF (fun _ => tlB) n (k + 1) (tlB (u, v))).1 = anot x (if v = 0 then v else loF n (v &&& (v - 1)))
      have key := tells_low_go x n (k + 1) (u ||| anot v (v - 1)) (v &&& (v - 1)) (fun i => by
        rw [Nat.testBit_or, anot_tb, Nat.testBit_and, h1 i]
        have h3 := h2 i
        cases hv : v.testBit i <;> cases hx : x.testBit i <;> cases (v - 1).testBit i <;> simp_all) (fun i hi => by
        rw [Nat.testBit_and] at hi
        exact h2 i (by cases hv : v.testBit i <;> simp_all))
      refine Eq.trans key ?_
      by_cases hv : v = 0
      · subst hv
        rw [if_pos rfl]
        rw [show (0 &&& (0 - 1) : Nat) = 0 from rfl, loF_z]
      · rw [if_neg hv]
theorem tells_low (N a b : Nat) : sp_tells N a b = sp_low (anot a b) N := by
  have h := tells_low_go (anot a b) N 0 0 (anot a b) (fun i => by cases (anot a b).testBit i <;> simp) (fun i hi => hi)
  exact h
theorem anot_z {k f : Nat} : anot f k = 0 ↔ k &&& f = f := by
  constructor
  · intro h
    apply Nat.eq_of_testBit_eq
    intro i
    have h2 : (anot f k).testBit i = false := by rw [h]; exact Nat.zero_testBit i
    rw [anot_tb] at h2
    rw [Nat.testBit_and]
    cases hf : f.testBit i <;> cases hk : k.testBit i <;> simp_all
  · intro h
    apply Nat.eq_of_testBit_eq
    intro i
    have h2 : (k &&& f).testBit i = f.testBit i := by rw [h]
    rw [Nat.testBit_and] at h2
    rw [anot_tb, Nat.zero_testBit]
    cases hf : f.testBit i <;> cases hk : k.testBit i <;> simp_all
/-- how they stand: the class's rows, the model's row -/
def RS (p n : Nat) (f h s : Nat → Nat) : Prop := s 0 = n ∧ (∀ k, k < 2 * p → s (1 + k) = f k) ∧ ∀ i, i < p → s (11 + i) = h i
theorem RS_upk {p n k v : Nat} {f h s : Nat → Nat} (hR : RS p n f h s) (hp : p ≤ 5) (hk : k < 2 * p) : RS p n (upN f k v) h (upN s (1 + k) v) := by
  refine ⟨by rw [upN_ne (by omega)]; exact hR.1, fun j hj => ?_, fun i hi => by rw [upN_ne (by omega)]; exact hR.2.2 i hi⟩
  by_cases e : j = k
  · subst e; rw [upN_eq, upN_eq]
  · rw [upN_ne e, upN_ne (by omega)]; exact hR.2.1 j hj
theorem RS_uph {p n i v : Nat} {f h s : Nat → Nat} (hR : RS p n f h s) (hp : p ≤ 5) (hi : i < p) : RS p n f (upN h i v) (upN s (11 + i) v) := by
  refine ⟨by rw [upN_ne (by omega)]; exact hR.1, fun j hj => by rw [upN_ne (by omega)]; exact hR.2.1 j hj, fun j hj => ?_⟩
  by_cases e : j = i
  · subst e; rw [upN_eq, upN_eq]
  · rw [upN_ne e, upN_ne (by omega)]; exact hR.2.2 j hj
theorem RS_up0 {p n v : Nat} {f h s : Nat → Nat} (hR : RS p n f h s) : RS p v f h (upN s 0 v) :=
  ⟨upN_eq, fun j hj => by rw [upN_ne (by omega)]; exact hR.2.1 j hj, fun j hj => by rw [upN_ne (by omega)]; exact hR.2.2 j hj⟩
theorem and1 (n : Nat) : n &&& 1 = n % 2 := Nat.and_one_is_mod n
theorem enB_rel {p N n i : Nat} {f h s bk : Nat → Nat} (hp : p ≤ 5) (h4 : bk 4 = N) (hi : i < p) (hR : RS p (n + 1) f h s) : RS p (n + 1) (esI N n i (f, h)).1 (esI N n i (f, h)).2 (enB bk i s) := by
  have e0 : s (1 + 2 * i) = f (2 * i) := hR.2.1 (2 * i) (by omega)
  have e1 : s (2 + 2 * i) = f (2 * i + 1) := by rw [show 2 + 2 * i = 1 + (2 * i + 1) by omega]; exact hR.2.1 (2 * i + 1) (by omega)
  have r1 := RS_upk (k := 2 * i) (v := f (2 * i) ||| sp_low (anot (f (2 * i + 1)) (f (2 * i))) N) hR hp (by omega)
  have r2 := RS_upk (k := 2 * i + 1) (v := f (2 * i + 1) ||| sp_low (anot (f (2 * i)) (f (2 * i + 1))) N) r1 hp (by omega)
  have r2' : RS p (n + 1) (tlK N i f) h (upN (upN s (1 + 2 * i) (s (1 + 2 * i) ||| sp_tells (bk 4) (s (2 + 2 * i)) (s (1 + 2 * i)))) (2 + 2 * i) (s (2 + 2 * i) ||| sp_tells (bk 4) (s (1 + 2 * i)) (s (2 + 2 * i)))) := by
    rw [e0, e1, tells_low, tells_low, h4, show 2 + 2 * i = 1 + (2 * i + 1) by omega]
    exact r2
  have hk : 2 * i + 1 - (n &&& 1) < 2 * p := by omega
  have r3 := RS_upk (k := 2 * i + 1 - (n &&& 1)) (v := tlK N i f (2 * i + 1 - (n &&& 1)) ||| h i) r2' hp hk
  have r4 := RS_uph (i := i) (v := 0) r3 hp hi
  have e2 := r2'.1
  have e3 := r2'.2.1 (2 * i + 1 - (n &&& 1)) hk
  have e4 := r2'.2.2 i hi
  show RS p (n + 1) (nrK n i (tlK N i f) h) (upN h i 0) (enB bk i s)
  unfold nrK enB
  dsimp only
  rw [e2, show 1 + 2 * i + (n + 1) % 2 = 1 + (2 * i + 1 - (n &&& 1)) by rw [and1]; omega, e3, e4]
  exact r4
theorem ends_rel {p N n : Nat} {f h s bk : Nat → Nat} (hp : p ≤ 5) (h0 : bk 0 = p) (h4 : bk 4 = N) (hR : RS p n f h s) : RS p (n + 1) (esP p N n f h).1 (esP p N n f h).2 (sp_ends bk s) := by
  unfold sp_ends
  rw [hR.1, h0]
  exact lpR_rel (Rl := fun _ (a : (Nat → Nat) × (Nat → Nat)) b => RS p (n + 1) a.1 a.2 b) (f := esI N n) (g := enB bk) (Nat.zero_le p) (fun k a b hk h => enB_rel hp h4 hk h) (RS_up0 hR)
theorem es_rel {p N n k : Nat} {f h s bk : Nat → Nat} (hp : p ≤ 5) (h0 : bk 0 = p) (h4 : bk 4 = N) (hR : RS p n f h s) : RS p (sp_es p N k n f h).1 (sp_es p N k n f h).2.1 (sp_es p N k n f h).2.2 (lpR (fun _ => sp_ends bk) k 0 s) :=
  lpR_rel (Rl := fun _ (a : Nat × (Nat → Nat) × (Nat → Nat)) b => RS p a.1 a.2.1 a.2.2 b) (f := fun _ => esB p N) (g := fun _ => sp_ends bk) (Nat.zero_le k) (fun _ a b _ h => ends_rel hp h0 h4 h) hR
theorem es_n {p N n k : Nat} {f h : Nat → Nat} : (sp_es p N k n f h).1 = n + k :=
  lpR_invk (P := fun j (a : Nat × (Nat → Nat) × (Nat → Nat)) => a.1 = n + j) (f := fun _ => esB p N) (Nat.zero_le k) (fun j a _ h => by show a.1 + 1 = _; omega) rfl
theorem fill_at (v f : Nat → Nat) (N j : Nat) : lpR (fun k f => upN f k (v k)) N 0 f j = if j < N then v j else f j := by
  have h := lpR_invk (P := fun k (g : Nat → Nat) => ∀ j, g j = if j < k then v j else f j) (f := fun k f => upN f k (v k)) (N := N) (k := 0) (a := f) (Nat.zero_le N) (fun k a hk h j => by
    by_cases e : j = k
    · subst e; rw [upN_eq, if_pos (by omega)]
    · rw [upN_ne e, h j]
      by_cases e2 : j < k
      · rw [if_pos e2, if_pos (by omega)]
      · rw [if_neg e2, if_neg (by omega)]) (fun j => by rw [if_neg (by omega)])
  exact h j
theorem cp16_at {s f : Nat → Nat} {j : Nat} (h : j < 16) : cp16 s f j = s j := by unfold cp16; rw [fill_at, if_pos h]
theorem RS_eq {p n : Nat} {f h s f' h' s' : Nat → Nat} (hp : p ≤ 5) (hR : RS p n f h s) (hs : ∀ j, j < 16 → s' j = s j) (hf : ∀ k, k < 2 * p → f' k = f k) (hh : ∀ i, i < p → h' i = h i) : RS p n f' h' s' :=
  ⟨(hs 0 (by omega)).trans hR.1, fun k hk => by rw [hs _ (by omega), hf k hk]; exact hR.2.1 k hk, fun i hi => by rw [hs _ (by omega), hh i hi]; exact hR.2.2 i hi⟩
theorem cpN_at {f g : Nat → Nat} {n k : Nat} (h : k < n) : cpN f g n k = f k := if_pos h
theorem RS_cp {p n : Nat} {f h s f0 h0 s0 : Nat → Nat} (hp : p ≤ 5) (hR : RS p n f h s) : RS p n (cpN f f0 10) (cpN h h0 5) (cp16 s s0) :=
  RS_eq hp hR (fun j hj => cp16_at hj) (fun k hk => cpN_at (by omega)) (fun i hi => cpN_at (by omega))
theorem RS_st {p : Nat} {f f0 h0 s0 bk : Nat → Nat} (hp : p ≤ 5) (hk : ∀ k, k < 2 * p → bk (18 + k) = f k) : RS p 0 (cpN f f0 10) (clr5 h0) (sp_start bk s0) := by
  have hz : ∀ j, j < 16 → sp_start bk s0 j = if isIn (j : Int) 1 10 then bk (18 + j - 1) else 0 := fun j hj => by unfold sp_start; exact (fill_at (fun c => if isIn (c : Int) 1 10 then bk (18 + c - 1) else 0) s0 16 j).trans (if_pos hj)
  refine ⟨by rw [hz 0 (by omega)]; rfl, fun k h => ?_, fun i h => ?_⟩
  · rw [hz (1 + k) (by omega), show isIn ((1 + k : Nat) : Int) 1 10 = true from decide_eq_true (by omega), cpN_at (by omega), ← hk k h]
    rw [if_pos rfl, show 18 + (1 + k) - 1 = 18 + k by omega]
  · rw [hz (11 + i) (by omega), show isIn ((11 + i : Nat) : Int) 1 10 = false from decide_eq_false (by omega)]
    rw [if_neg (by decide)]
    exact ((fill_at (fun _ => 0) h0 5 i).trans (if_pos (by omega))).symm
theorem who_able {p n facts : Nat} {f h s : Nat → Nat} (hR : RS p n f h s) : sp_who p facts s = sp_able facts p n f :=
  lpR_rel (Rl := fun _ (a b : Nat) => a = b) (f := wkB facts s) (g := abB facts n f) (Nat.zero_le p) (fun i a b hi h => by
    subst h
    have e : s (1 + 2 * i + s 0 % 2) = f (2 * i + (n &&& 1)) := by
      rw [hR.1, and1, show 1 + 2 * i + n % 2 = 1 + (2 * i + n % 2) by omega]
      exact hR.2.1 _ (by omega)
    unfold wkB abB
    rw [e]
    by_cases hz : anot facts (f (2 * i + (n &&& 1))) = 0
    · rw [if_pos hz, if_pos (show hAll (f (2 * i + (n &&& 1))) facts = true from decide_eq_true (anot_z.mp hz))]
    · rw [if_neg hz, if_neg (show ¬ hAll (f (2 * i + (n &&& 1))) facts = true from fun h => hz (anot_z.mpr (of_decide_eq_true h))), Nat.or_zero]) rfl
