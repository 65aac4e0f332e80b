/-- the town as it is laid: the class's rows, the model's book -/
def RT (T : St) (bk : Nat → Nat) : Prop :=
  (bk 0 = T 0 0 ∧ bk 1 = T 3 0 ∧ bk 2 = T 7 0 ∧ bk 3 = T 9 0 ∧ bk 4 = T 10 0 ∧ bk 5 = T 11 0 ∧ bk 6 = T 12 0 ∧ bk 7 = T 13 0) ∧ (∀ k, k < 2 * T 0 0 → bk (8 + k) = T 1 k ∧ bk (18 + k) = T 2 k) ∧ (∀ j, j < T 3 0 → bk (28 + j) = T 5 j ∧ (1 ≤ T 5 j ∧ T 5 j ≤ 8) ∧ ∀ k, k < T 5 j → bk (32 + 8 * j + k) = T 4 (8 * j + k)) ∧ ∀ k, k < 2 * T 7 0 → bk (64 + k) = T 8 k
theorem lpF_succ {α : Type} {f : Nat → α → α} : ∀ n k a, lpF f (n + 1) k a = f (k + n) (lpF f n k a)
  | 0, k, a => rfl
  | n + 1, k, a => by
      show lpF f (n + 1) (k + 1) (f k a) = f (k + (n + 1)) (lpF f n (k + 1) (f k a))
      rw [lpF_succ n (k + 1) (f k a), show k + 1 + n = k + (n + 1) by omega]
theorem lpR_succ {α : Type} {f : Nat → α → α} {n k : Nat} {a : α} (h : k ≤ n) : lpR f (n + 1) k a = f n (lpR f n k a) := by
  unfold lpR
  rw [show n + 1 - k = (n - k) + 1 by omega, lpF_succ, show k + (n - k) = n by omega]
-- camps
theorem cmp_eq (row way : Nat) : cmpO row way = sp_camp way row := by
  unfold cmpO sp_camp
  rw [and1 row, Nat.pow_one]
theorem parts_rel {T : St} {bk : Nat → Nat} (h : RT T bk) (way : Nat) : sp_parts bk way = sp_pg (T 8) (T 7 0) way := by
  unfold sp_parts sp_pg
  rw [h.1.2.2.1]
  exact lpR_rel (Rl := fun _ (a b : Nat) => a = b) (f := ptB bk way) (g := pgB (T 8) way) (Nat.zero_le _) (fun k a b hk e => by
    subst e
    unfold ptB pgB
    rw [cmp_eq, cmp_eq, h.2.2.2 (2 * k) (by omega), show 64 + 2 * k + 1 = 64 + (2 * k + 1) by omega, h.2.2.2 (2 * k + 1) (by omega)]
    split <;> rfl) rfl
theorem camps_rel {X : Nat → St} {bk : Nat → Nat} (h : RT (X 2) bk) (w : Int) : c_camps X w = g_camps bk w := by
  have e : (ccR X).1 = cmR bk ∧ (ccR X).2 = sp_parts bk (cmR bk) := by
    unfold ccR cmR
    rw [h.1.1]
    exact lpR_rel (Rl := fun _ (a : Nat × Nat) b => a.1 = b ∧ a.2 = sp_parts bk b) (f := ccB X) (g := cmB bk) (by have := Nat.two_pow_pos (X 2 0 0); omega) (fun k a b hk e => by
      obtain ⟨e1, e2⟩ := e
      unfold ccB cmB
      rw [e2, parts_rel h k]
      by_cases hz : sp_pg (X 2 8) (X 2 7 0) k < sp_parts bk b
      · rw [if_pos hz, if_pos hz]; exact ⟨rfl, (parts_rel h k).symm⟩
      · rw [if_neg hz, if_neg hz]; exact ⟨e1, e2⟩) ⟨rfl, (parts_rel h 0).symm⟩
  unfold c_camps g_camps
  rw [e.1, e.2]
-- rests
def mxB (T : St) (k y : Nat) (b : Nat × Nat) : Nat × Nat := (max b.1 (shr T y k 0), max b.2 (shr T k y 1))
def mxT (T : St) (k : Nat) : Nat × Nat := lpR (mxB T k) 10 0 (0, 0)
theorem fmI0_mx (T : St) (k : Nat) (f g : Nat → Nat) : ((fmI0 T k f g).1 k = (mxT T k).1 ∧ (fmI0 T k f g).2 k = (mxT T k).2) ∧ ∀ j, j ≠ k → (fmI0 T k f g).1 j = f j ∧ (fmI0 T k f g).2 j = g j :=
  lpR_rel (Rl := fun _ (a : (Nat → Nat) × (Nat → Nat)) (b : Nat × Nat) => (a.1 k = b.1 ∧ a.2 k = b.2) ∧ ∀ j, j ≠ k → a.1 j = f j ∧ a.2 j = g j) (f := fmI T k) (g := mxB T k) (Nat.zero_le 10) (fun y a b _ h => by
    refine ⟨⟨?_, ?_⟩, fun j hj => ⟨?_, ?_⟩⟩
    · show upN a.1 k _ k = _; rw [upN_eq, h.1.1]; rfl
    · show upN a.2 k _ k = _; rw [upN_eq, h.1.2]; rfl
    · show upN a.1 k _ j = _; rw [upN_ne hj]; exact (h.2 j hj).1
    · show upN a.2 k _ j = _; rw [upN_ne hj]; exact (h.2 j hj).2) ⟨⟨upN_eq, upN_eq⟩, fun j hj => ⟨upN_ne hj, upN_ne hj⟩⟩
theorem fmR_mx (T : St) (f g : Nat → Nat) : ∀ j, j < 10 → (fmR T f g).1 j = (mxT T j).1 ∧ (fmR T f g).2 j = (mxT T j).2 :=
  lpR_invk (P := fun k (a : (Nat → Nat) × (Nat → Nat)) => ∀ j, j < k → a.1 j = (mxT T j).1 ∧ a.2 j = (mxT T j).2) (f := fmO T) (Nat.zero_le 10) (fun k a _ h j hj => by
    have q := fmI0_mx T k a.1 a.2
    show (fmI0 T k a.1 a.2).1 j = _ ∧ (fmI0 T k a.1 a.2).2 j = _
    by_cases e : j = k
    · subst e; exact q.1
    · rw [(q.2 j e).1, (q.2 j e).2]; exact h j (by omega)) (fun j hj => absurd hj (Nat.not_lt_zero j))
theorem mx_ub (T : St) (k : Nat) : ∀ v, v < 10 → shr T v k 0 ≤ (mxT T k).1 ∧ shr T k v 1 ≤ (mxT T k).2 :=
  lpR_invk (P := fun y (b : Nat × Nat) => ∀ v, v < y → shr T v k 0 ≤ b.1 ∧ shr T k v 1 ≤ b.2) (f := mxB T k) (Nat.zero_le 10) (fun y b _ h v hv => by
    show shr T v k 0 ≤ max b.1 (shr T y k 0) ∧ shr T k v 1 ≤ max b.2 (shr T k y 1)
    by_cases e : v = y
    · subst e; omega
    · have := h v (by omega); omega) (fun v hv => absurd hv (Nat.not_lt_zero v))
theorem mx_le1 (T : St) (k c : Nat) (h : ∀ v, v < 10 → shr T v k 0 ≤ c) : (mxT T k).1 ≤ c :=
  lpR_invk (P := fun _ (b : Nat × Nat) => b.1 ≤ c) (f := mxB T k) (Nat.zero_le 10) (fun y b hy hb => by
    have := h y hy
    show max b.1 (shr T y k 0) ≤ c; omega) (Nat.zero_le c)
theorem mx_le2 (T : St) (k c : Nat) (h : ∀ v, v < 10 → shr T k v 1 ≤ c) : (mxT T k).2 ≤ c :=
  lpR_invk (P := fun _ (b : Nat × Nat) => b.2 ≤ c) (f := mxB T k) (Nat.zero_le 10) (fun y b hy hb => by
    have := h y hy
    show max b.2 (shr T k y 1) ≤ c; omega) (Nat.zero_le c)
theorem rest_iff (P G H x y : Nat) : sp_rest P G H x y = true ↔ ∀ v, v < 10 → sp_holds P G H v y 0 ≤ sp_holds P G H x y 0 ∧ sp_holds P G H x v 1 ≤ sp_holds P G H x y 1 := by
  have h := lpR_invk (P := fun k (b : Bool) => b = true ↔ ∀ v, v < k → sp_holds P G H v y 0 ≤ sp_holds P G H x y 0 ∧ sp_holds P G H x v 1 ≤ sp_holds P G H x y 1) (f := rsB P G H x y) (N := 10) (k := 0) (a := true) (Nat.zero_le 10) (fun k b _ h => by
    unfold rsB
    rw [Bool.and_eq_true, Bool.and_eq_true, decide_eq_true_eq, decide_eq_true_eq, h]
    constructor
    · intro q v hv
      by_cases e : v = k
      · subst e; exact ⟨q.1.2, q.2⟩
      · exact q.1.1 v (by omega)
    · intro q
      exact ⟨⟨fun v hv => q v (by omega), (q k (by omega)).1⟩, (q k (by omega)).2⟩) ⟨fun _ v hv => absurd hv (Nat.not_lt_zero v), fun _ => rfl⟩
  exact h
theorem rest_cond {X : Nat → St} {x y : Nat} (hx : x < 10) (hy : y < 10) : (shr (X 2) x y 0 = (cMo X).1 y ∧ shr (X 2) x y 1 = (cMo X).2 x) ↔ sp_rest (X 2 11 0) (X 2 12 0) (X 2 13 0) x y = true := by
  rw [(fmR_mx (X 2) (X 0 10) (X 0 11) y hy).1, (fmR_mx (X 2) (X 0 10) (X 0 11) x hx).2, rest_iff]
  constructor
  · intro q v hv
    have a1 := (mx_ub (X 2) y v hv).1
    have a2 := (mx_ub (X 2) x v hv).2
    exact ⟨by rw [← q.1] at a1; exact a1, by rw [← q.2] at a2; exact a2⟩
  · intro q
    exact ⟨Nat.le_antisymm (mx_ub (X 2) y x hx).1 (mx_le1 (X 2) y _ (fun v hv => (q v hv).1)), Nat.le_antisymm (mx_ub (X 2) x y hy).2 (mx_le2 (X 2) x _ (fun v hv => (q v hv).2))⟩
/-- how many, and the first -/
def zF (p : Nat → Bool) : Nat → Nat × Int
  | 0 => (0, -4)
  | n + 1 => if p n then ((zF p n).1 + 1, if (zF p n).1 = 0 then (n : Int) else (zF p n).2) else zF p n
theorem zF_0 (p : Nat → Bool) : ∀ n, (zF p n).1 = 0 → (zF p n).2 = -4
  | 0, _ => rfl
  | n + 1, h => by
      unfold zF at h ⊢
      by_cases e : p n = true
      · rw [if_pos e] at h; exact absurd h (Nat.succ_ne_zero _)
      · rw [if_neg e] at h ⊢; exact zF_0 p n h
theorem zF_t {p : Nat → Bool} {n : Nat} (h : p n = true) : zF p (n + 1) = ((zF p n).1 + 1, if (zF p n).1 = 0 then (n : Int) else (zF p n).2) := by
  show (if p n then _ else _) = _
  rw [if_pos h]
theorem zF_f {p : Nat → Bool} {n : Nat} (h : ¬ p n = true) : zF p (n + 1) = zF p n := by
  show (if p n then _ else _) = _
  rw [if_neg h]
theorem rtF_z (P G H : Nat) : ∀ n a b, rtF P G H n a b = (a + (zF (fun j => sp_rest P G H (j / 10) (j % 10)) n).1, if (zF (fun j => sp_rest P G H (j / 10) (j % 10)) n).1 = 0 then b else (zF (fun j => sp_rest P G H (j / 10) (j % 10)) n).2)
  | 0, a, b => rfl
  | n + 1, a, b => by
      show (if sp_rest P G H (n / 10) (n % 10) then rtF P G H n (a + 1) (n : Int) else rtF P G H n a b) = _
      rw [rtF_z P G H n (a + 1) (n : Int), rtF_z P G H n a b]
      by_cases e : sp_rest P G H (n / 10) (n % 10) = true
      · rw [if_pos e, zF_t (p := fun j => sp_rest P G H (j / 10) (j % 10)) e]
        refine Prod.ext ?_ ?_
        · show a + 1 + _ = a + (_ + 1); omega
        · dsimp only
          rw [if_neg (Nat.succ_ne_zero _)]
      · rw [if_neg e, zF_f (p := fun j => sp_rest P G H (j / 10) (j % 10)) e]
/-- two loops of ten as one of a hundred -/
theorem flat_go {α : Type} (f : Nat → Nat → α → α) (a : α) : ∀ k j, j ≤ 10 → lpR (fun n b => f (n / 10) (n % 10) b) (10 * k + j) 0 a = lpR (f k) j 0 (lpR (fun x b => lpR (f x) 10 0 b) k 0 a)
  | 0, 0, _ => rfl
  | k + 1, 0, _ => by
      rw [show 10 * (k + 1) + 0 = 10 * k + 10 by omega, flat_go f a k 10 (Nat.le_refl 10), lpR_succ (Nat.zero_le k)]
      rfl
  | k, j + 1, h => by
      rw [show 10 * k + (j + 1) = (10 * k + j) + 1 by omega, lpR_succ (Nat.zero_le _), flat_go f a k j (by omega), lpR_succ (Nat.zero_le j), show (10 * k + j) / 10 = k by omega, show (10 * k + j) % 10 = j by omega]
theorem crR_z {X : Nat → St} : crR X = zF (fun j => sp_rest (X 2 11 0) (X 2 12 0) (X 2 13 0) (j / 10) (j % 10)) 100 := by
  have h1 : crR X = lpR (fun n b => crI X (n / 10) (n % 10) b) 100 0 (0, -4) := (flat_go (crI X) (0, -4) 10 0 (by omega)).symm
  rw [h1]
  exact lpR_invk (P := fun k (a : Nat × Int) => a = zF (fun j => sp_rest (X 2 11 0) (X 2 12 0) (X 2 13 0) (j / 10) (j % 10)) k) (f := fun n b => crI X (n / 10) (n % 10) b) (Nat.zero_le 100) (fun k a hk e => by
    subst e
    unfold crI
    by_cases q : sp_rest (X 2 11 0) (X 2 12 0) (X 2 13 0) (k / 10) (k % 10) = true
    · rw [if_pos ((rest_cond (by omega) (by omega)).mpr q), zF_t (p := fun j => sp_rest (X 2 11 0) (X 2 12 0) (X 2 13 0) (j / 10) (j % 10)) q, show 10 * (k / 10) + k % 10 = k by omega]
    · rw [if_neg (fun z => q ((rest_cond (by omega) (by omega)).mp z)), zF_f (p := fun j => sp_rest (X 2 11 0) (X 2 12 0) (X 2 13 0) (j / 10) (j % 10)) q]) rfl
theorem rests_rel {X : Nat → St} {bk : Nat → Nat} (h : RT (X 2) bk) (w : Int) : c_rests X w = g_rests bk w := by
  have e : rtR bk = crR X := by
    unfold rtR
    rw [rtF_z, crR_z, h.1.2.2.2.2.2.1, h.1.2.2.2.2.2.2.1, h.1.2.2.2.2.2.2.2]
    refine Prod.ext (Nat.zero_add _) ?_
    show (if _ = 0 then (-4 : Int) else _) = _
    split
    · rename_i z; exact (zF_0 _ _ z).symm
    · rfl
  unfold c_rests g_rests
  rw [e]
theorem purse_rel {X : Nat → St} {bk : Nat → Nat} (h : RT (X 2) bk) (x y d : Int) : c_purse X x y d = g_purse bk x y d := by
  unfold c_purse g_purse
  rw [h.1.2.2.2.2.2.1, h.1.2.2.2.2.2.2.1, h.1.2.2.2.2.2.2.2]
