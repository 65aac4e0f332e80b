-- ===== bounds of the model's book, cell by cell
def bdAt (k : Nat) : Nat := if k = 3 then 9 else if 28 ≤ k ∧ k < 32 then 9 else if 32 ≤ k ∧ k < 64 then 6 else if 64 ≤ k ∧ k < 80 then 16 else 256
def Dbd (d : Nat → Nat) : Prop := ∀ k, d k < bdAt k
theorem bd_lo {k : Nat} (h3 : k ≠ 3) (h : k < 28 ∨ 80 ≤ k) : bdAt k = 256 := by
  unfold bdAt
  rw [if_neg h3, if_neg (by omega), if_neg (by omega), if_neg (by omega)]
theorem bd_ln {k : Nat} (h : 28 ≤ k ∧ k < 32) : bdAt k = 9 := by
  unfold bdAt
  rw [if_neg (by omega), if_pos h]
theorem bd_st6 {k : Nat} (h : 32 ≤ k ∧ k < 64) : bdAt k = 6 := by
  unfold bdAt
  rw [if_neg (by omega), if_neg (by omega), if_pos h]
theorem bd_pr {k : Nat} (h : 64 ≤ k ∧ k < 80) : bdAt k = 16 := by
  unfold bdAt
  rw [if_neg (by omega), if_neg (by omega), if_neg (by omega), if_pos h]
theorem bd_le (k : Nat) : bdAt k ≤ 256 ∧ 0 < bdAt k := by
  unfold bdAt
  split
  · omega
  · split
    · omega
    · split
      · omega
      · split <;> omega
theorem Dbd.lt {d : Nat → Nat} (h : Dbd d) : ∀ k, d k < 256 := fun k => Nat.lt_of_lt_of_le (h k) (bd_le k).1
theorem Dbd.up {d : Nat → Nat} (h : Dbd d) {k v : Nat} (hv : v < bdAt k) : Dbd (upN d k v) := fun j => by
  by_cases e : j = k
  · subst e; rw [upN_eq]; exact hv
  · rw [upN_ne e]; exact h j
theorem bd_person {t g d : Nat → Nat} {n a : Nat} (hd : Dok d) (hb : Dbd d) : Dbd (pr_person t n a g d).2.2.2 := by
  unfold pr_person
  by_cases h5 : d 0 = 5
  · rw [if_pos h5]; exact hb
  · rw [if_neg h5]
    split
    · rename_i h
      have h0 := hd.1
      show Dbd (upN (upN (upN d (8 + 2 * d 0) _) (8 + 2 * upN d (8 + 2 * d 0) _ 0 + 1) _) 0 _)
      have e1 : upN d (8 + 2 * d 0) ((sp_num t n 2 a g).2.2 0) 0 = d 0 := upN_ne (by omega)
      rw [e1]
      have e2 : upN (upN d (8 + 2 * d 0) ((sp_num t n 2 a g).2.2 0)) (8 + 2 * d 0 + 1) ((sp_num t n 2 a g).2.2 1) 0 = d 0 := by rw [upN_ne (by omega), e1]
      rw [e2]
      exact ((hb.up (by rw [bd_lo (by omega) (by omega)]; omega)).up (by rw [bd_lo (by omega) (by omega)]; omega)).up (by rw [bd_lo (by omega) (by omega)]; omega)
    · exact hb
theorem bd_trF {t : Nat → Nat} {n : Nat} : ∀ m u a (d : Nat → Nat), u + m = 8 → Dbd d → Dbd (trF t n m u a d).2.2
  | 0, u, a, d, hu, hd => hd
  | m + 1, u, a, d, hu, hd => by
    by_cases h : d 1 < 4 ∧ isIn (sp_byte t n a) 48 53 = true
    · have hb : 48 ≤ t a ∧ t a ≤ 53 := by
        have h2 := of_decide_eq_true h.2
        unfold sp_byte at h2
        split at h2 <;> omega
      rw [trF_go h]
      exact bd_trF m (u + 1) (a + 1) _ (by omega) (hd.up (by rw [bd_st6 (by omega)]; omega))
    · rw [trF_stop h]; exact hd
theorem bd_trade {t g d : Nat → Nat} {n a : Nat} (ha : a ≤ n) (hd : Dok d) (hb : Dbd d) : Dbd (pr_trade t n a g d).2.2.2 := by
  have hn := trF_all (t := t) (n := n) 8 0 a d ha rfl hd
  have hx := bd_trF (t := t) (n := n) 8 0 a d rfl hb
  have e : trR t n a d = trF t n 8 0 a d := rfl
  unfold pr_trade
  rw [e]
  split
  · exact hx
  · rename_i h
    have h0 : ¬ (trF t n 8 0 a d).1 = 0 := fun z => h (Or.inl z)
    have h4 := tr_lt4 ha hd h0
    show Dbd (upN (upN (trF t n 8 0 a d).2.2 (28 + (trF t n 8 0 a d).2.2 1) (trF t n 8 0 a d).1) 1 _)
    have e1 : upN (trF t n 8 0 a d).2.2 (28 + (trF t n 8 0 a d).2.2 1) (trF t n 8 0 a d).1 1 = (trF t n 8 0 a d).2.2 1 := upN_ne (by omega)
    rw [e1]
    exact (hx.up (by rw [bd_ln (by omega)]; omega)).up (by rw [bd_lo (by omega) (by omega)]; omega)
theorem bd_known {t g d : Nat → Nat} {n a : Nat} (hd : Dok d) (hb : Dbd d) : Dbd (pr_known t n a g d).2.2.2 := by
  unfold pr_known
  split
  · rename_i h
    have h0 := hd.1
    have i1 := isH_iff.mp h.2.1
    simp only [Nat.zero_add] at i1
    exact hb.up (by rw [bd_lo (by omega) (by omega)]; omega)
  · exact hb
theorem bd_married {t g d : Nat → Nat} {n a : Nat} (hd : Dok d) (hb : Dbd d) : Dbd (pr_married t n a g d).2.2.2 := by
  unfold pr_married
  by_cases h5 : d 2 = 8
  · rw [if_pos h5]; exact hb
  · rw [if_neg h5]
    split
    · rename_i h
      have h0 := hd.1
      have i1 := isH_iff.mp h.2.1
      have i2 := isH_iff.mp h.2.2.1
      simp only [Nat.zero_add] at i1
      have i3 : (sp_num t n 4 a g).2.2 (2 + 1) = (sp_num t n 4 a g).2.2 3 := rfl
      rw [i3] at i2
      show Dbd (upN (upN (upN d (64 + 2 * d 2) _) (64 + 2 * upN d (64 + 2 * d 2) _ 2 + 1) _) 2 _)
      have e1 : upN d (64 + 2 * d 2) (2 * (sp_num t n 4 a g).2.2 0 + (sp_num t n 4 a g).2.2 1) 2 = d 2 := upN_ne (by omega)
      rw [e1]
      have e2 : upN (upN d (64 + 2 * d 2) (2 * (sp_num t n 4 a g).2.2 0 + (sp_num t n 4 a g).2.2 1)) (64 + 2 * d 2 + 1) (2 * (sp_num t n 4 a g).2.2 2 + (sp_num t n 4 a g).2.2 3) 2 = d 2 := by rw [upN_ne (by omega), e1]
      rw [e2]
      exact ((hb.up (by rw [bd_pr (by omega)]; omega)).up (by rw [bd_pr (by omega)]; omega)).up (by rw [bd_lo (by omega) (by omega)]; omega)
    · exact hb
theorem bd_pursed {t g d : Nat → Nat} {n a : Nat} (hb : Dbd d) : Dbd (pr_pursed t n a g d).2.2.2 := by
  unfold pr_pursed
  split
  · rename_i h
    have i1 := isIn_iff.mp h.2.2.1
    have i2 := isIn_iff.mp h.2.2.2
    exact ((hb.up (by rw [bd_lo (by omega) (by omega)]; omega)).up (by rw [bd_lo (by omega) (by omega)]; omega)).up (by rw [bd_lo (by omega) (by omega)]; omega)
  · exact hb
theorem bd_one {t g d : Nat → Nat} {n a w : Nat} {lo hi : Int} (hw : 9 ≤ bdAt w) (hh : hi ≤ 8) (hb : Dbd d) : Dbd (pr_one t n a g d w lo hi).2.2.2 := by
  unfold pr_one
  split
  · rename_i h
    have i1 := isIn_iff.mp h.2
    exact hb.up (by omega)
  · exact hb
theorem bd_item {t g d : Nat → Nat} {n a : Nat} (ha : a < n) (hd : Dok d) (hb : Dbd d) : Dbd (pr_item t n a g d).2.2.2 := by
  unfold pr_item
  split
  · exact bd_person hd hb
  · split
    · exact bd_trade ha hd hb
    · split
      · exact bd_one (by decide) (by decide) hb
      · split
        · exact bd_one (by decide) (by decide) hb
        · split
          · exact bd_known hd hb
          · split
            · exact bd_married hd hb
            · split
              · exact bd_pursed hb
              · exact hb
theorem bd_rdF {t : Nat → Nat} {n : Nat} : ∀ m a (g d : Nat → Nat), a ≤ n → (∀ j, g j < 1000) → Dok d → Dbd d → Dbd (rdF t n m a g d).2.2.2
  | 0, a, g, d, ha, hg, hd, hb => hb
  | m + 1, a, g, d, ha, hg, hd, hb => by
    by_cases h : a < n
    · have hk := item_ok (t := t) h hg hd
      have hx := bd_item (t := t) (g := g) h hd hb
      by_cases hi : (pr_item t n a g d).1 = true
      · rw [rdF_go h hi]
        exact bd_rdF m _ _ _ hk.1.2 hk.2.1 hk.2.2 hx
      · rw [rdF_bad h (by cases hx : (pr_item t n a g d).1; rfl; exact absurd hx hi)]
        exact hx
    · rw [rdF_end h]; exact hb
theorem bd_dr0 {d : Nat → Nat} (h : ∀ k, d k < 256) : Dbd (dr0 d) := by
  have h0 : Dbd (clr d) := fun k => by
    by_cases c : k < 80
    · rw [clr_at c]; exact (bd_le k).2
    · rw [bd_lo (by omega) (by omega)]; exact clr_lt h k
  exact ((((h0.up (k := 3) (v := 3) (by decide)).up (k := 4) (v := 2) (by decide)).up (k := 5) (v := 9) (by decide)).up (k := 6) (v := 1) (by decide)).up (k := 7) (v := 1) (by decide)
theorem bd_re {M : St} (hg : ∀ j, M 13 j < 1000) (hd : ∀ k, M 3 k < 256) : Dbd (reR M).2.2.2 := bd_rdF 301 0 _ _ (Nat.zero_le _) hg (dr0_ok hd) (bd_dr0 hd)
theorem bd_cp80 {d b : Nat → Nat} (hd : Dbd d) (hb : Dbd b) : Dbd (cp80 d b) := lpR_inv (P := fun (f : Nat → Nat) => Dbd f) (fun k _ h => h.up (hd k)) hb
-- ===== bounds of what the calls leave
theorem sp_lt65 {f : Nat → Nat} {k v : Nat} (h : ∀ k, f k < 65536) (hv : v < 65536) : ∀ j, upN f k v j < 65536 := upN_lt h hv
theorem pw_lt {n : Nat} {z : Int} (h : isIn z 0 n = true) (hn : n < 16) : 1 * 2 ^ z.toNat < 65536 := pw16 (by have := isIn_le h; omega)
theorem vSee_f {p : Nat} {i f : Int} (h : vSee p i f = true) : 1 * 2 ^ f.toNat < 65536 := by
  unfold vSee at h
  rw [Bool.and_eq_true] at h
  have := isIn_le h.2
  exact pw16 (by omega)
theorem seeS_lt {bk s : Nat → Nat} {i f : Int} (h : ∀ k, s k < 65536) : ∀ k, g_seeS bk s i f k < 65536 := by
  unfold g_seeS
  split
  · rename_i c; exact upN_lt h (or16 (h _) (vSee_f c))
  · exact h
theorem noteS_lt {bk s : Nat → Nat} {i f : Int} (h : ∀ k, s k < 65536) : ∀ k, g_noteS bk s i f k < 65536 := by
  unfold g_noteS
  split
  · rename_i c
    split
    · exact h
    · exact upN_lt h (or16 (h _) (vSee_f c))
  · exact h
theorem isIn_nat {z : Int} {a b : Nat} (h : isIn z a b = true) : a ≤ z.toNat ∧ z.toNat ≤ b := by
  have := isIn_le h
  omega
theorem vShift_le {s : Nat → Nat} {n : Int} (h : vShift s n = true) : s 0 + n.toNat ≤ 9999 := by
  unfold vShift at h
  rw [Bool.and_eq_true] at h
  exact of_decide_eq_true h.2
theorem shiftsA_lt {bk s f : Nat → Nat} {n : Int} (hs : ∀ k, s k < 65536) (h : ∀ k, f k < 65536) : ∀ k, g_shiftsA bk s f n k < 65536 := by
  unfold g_shiftsA
  split
  · rename_i c
    have := vShift_le c
    exact (plays_all hs h (by omega)).1
  · exact h
theorem shiftsS_lt {bk s f : Nat → Nat} {n : Int} (hs : ∀ k, s k < 65536) (h : ∀ k, f k < 65536) : ∀ k, g_shiftsS bk s f n k < 65536 := by
  unfold g_shiftsS
  split
  · rename_i c
    have := vShift_le c
    exact cp16_lt (plays_all hs h (by omega)).1 hs
  · exact hs
theorem knowsA_lt {bk s f : Nat → Nat} {n i d : Int} (h0 : s 0 ≤ 9999) (hs : ∀ k, s k < 65536) (h : ∀ k, f k < 65536) : ∀ k, g_knowsA bk s f n i d k < 65536 := by
  unfold g_knowsA
  split
  · rename_i c
    unfold vKnows at c
    rw [Bool.and_eq_true, Bool.and_eq_true] at c
    have := isIn_le c.1.1
    exact (plays_all hs h (by omega)).1
  · exact h
theorem couldA_lt {bk s f : Nat → Nat} {n x : Int} (h0 : s 0 ≤ 9999) (hs : ∀ k, s k < 65536) (h : ∀ k, f k < 65536) : ∀ k, g_couldA bk s f n x k < 65536 := by
  unfold g_couldA
  split
  · rename_i c
    unfold vCould at c
    rw [Bool.and_eq_true] at c
    have := isIn_le c.1
    exact (plays_all hs h (by omega)).1
  · exact h
theorem alF_lt {bk : Nat → Nat} {i : Nat} : ∀ m n (f : Nat → Nat), (∀ k, f k < 65536) → f 0 + m < 65535 → ∀ k, (alF bk i m n f).2 k < 65536
  | 0, n, f, h, h0 => h
  | m + 1, n, f, h, h0 => by
    show ∀ k, (if f (1 + 2 * i) = f (2 + 2 * i) then (n, f) else alF bk i m (n + 1) (sp_ends bk f)).2 k < 65536
    split
    · exact h
    · exact alF_lt m (n + 1) _ (ends_lt h (by omega)) (by rw [ends_0]; omega)
theorem alikeA_lt {bk s f : Nat → Nat} {i : Int} (h0 : s 0 ≤ 9999) (hs : ∀ k, s k < 65536) (h : ∀ k, f k < 65536) : ∀ k, g_alikeA bk s f i k < 65536 := by
  unfold g_alikeA
  split
  · have hp := plays_all (bk := bk) (n := 0) hs h (by omega)
    exact alF_lt 40 0 _ hp.1 (by rw [hp.2]; omega)
  · exact h
theorem mn_all {bk s f : Nat → Nat} {z n : Nat} (h0 : s 0 + n < 65535) (hs : ∀ k, s k < 65536) (h : ∀ k, f k < 65536) : ∀ k, sp_month bk s f z n k < 65536 := by
  have hp := plays_all (bk := bk) (n := 0) hs h (by omega)
  have hx := lpR_invk (P := fun k (g : Nat → Nat) => (∀ j, g j < 65536) ∧ g 0 = s 0 + k) (f := mnB bk z) (N := n) (k := 0) (a := sp_plays bk s f 0) (Nat.zero_le n) (fun k g hk hg => by
    have hq : ∀ j, upN g (1 + 2 * (drw z k / 8 % bk 0) + g 0 % 2) (g (1 + 2 * (drw z k / 8 % bk 0) + g 0 % 2) ||| 1 * 2 ^ (drw z k % 8)) j < 65536 := upN_lt hg.1 (or16 (hg.1 _) (pw16 (Nat.lt_of_lt_of_le (Nat.mod_lt _ (by decide)) (by decide))))
    have hq0 : upN g (1 + 2 * (drw z k / 8 % bk 0) + g 0 % 2) (g (1 + 2 * (drw z k / 8 % bk 0) + g 0 % 2) ||| 1 * 2 ^ (drw z k % 8)) 0 = g 0 := upN_ne (by omega)
    have hg2 := hg.2
    refine ⟨ends_lt hq (by rw [hq0]; omega), ?_⟩
    show sp_ends bk _ 0 = _
    rw [ends_0, hq0]
    omega) ⟨hp.1, hp.2⟩
  exact hx.1
theorem monthA_lt {bk s f : Nat → Nat} {z n i d : Int} (h0 : s 0 ≤ 9999) (hs : ∀ k, s k < 65536) (h : ∀ k, f k < 65536) : ∀ k, g_monthA bk s f z n i d k < 65536 := by
  unfold g_monthA
  split
  · rename_i c
    unfold vMonth at c
    rw [Bool.and_eq_true, Bool.and_eq_true, Bool.and_eq_true] at c
    have := isIn_le c.1.1.2
    exact mn_all (by omega) hs h
  · exact h
theorem cpK_lt {s f : Nat → Nat} {n : Nat} (hs : ∀ k, s k < 65536) (h : ∀ k, f k < 65536) : ∀ k, cpK s n f k < 65536 := lpR_inv (P := fun (f : Nat → Nat) => ∀ k, f k < 65536) (fun k _ h => upN_lt h (hs k)) h
theorem cpB_lt {kp s : Nat → Nat} {n : Nat} (hs : ∀ k, kp k < 65536) (h : ∀ k, s k < 65536) : ∀ k, cpB kp n s k < 65536 := lpR_inv (P := fun (f : Nat → Nat) => ∀ k, f k < 65536) (fun k _ h => upN_lt h (hs _)) h
theorem keepK_lt {M : St} (hs : ∀ k, M 4 k < 65536) (h : ∀ k, M 6 k < 65536) : ∀ k, g_keepK M k < 65536 := by
  unfold g_keepK
  split
  · exact h
  · exact cpK_lt hs h
theorem backS_lt {M : St} (hs : ∀ k, M 4 k < 65536) (h : ∀ k, M 6 k < 65536) : ∀ k, g_backS M k < 65536 := by
  unfold g_backS
  split
  · exact hs
  · exact cpB_lt h hs
theorem seenT_lt {M : St} {t f : Int} (h : ∀ k, M 8 k < 41) : ∀ k, g_seenT M t f k < 41 := by
  unfold g_seenT
  split
  · rename_i c
    split
    · exact h
    · unfold vSeen at c
      rw [Bool.and_eq_true] at c
      have := isIn_le c.1
      exact upN_lt h (by omega)
  · exact h
theorem seenF_lt {M : St} {t f : Int} (h : ∀ k, M 9 k < 256) : ∀ k, g_seenF M t f k < 256 := by
  unfold g_seenF
  split
  · rename_i c
    split
    · exact h
    · unfold vSeen at c
      rw [Bool.and_eq_true] at c
      have := isIn_le c.2
      exact upN_lt h (by omega)
  · exact h
theorem wrF_all {v : Int64} : ∀ n (t : Nat → Nat) len, (∀ k, t k < 256) → (∀ k, (wrF v n t len).1 k < 256) ∧ (wrF v n t len).2 = len + n
  | 0, t, len, h => ⟨h, rfl⟩
  | n + 1, t, len, h => by
    have ih := wrF_all (v := v) n (upN t len (byteOf v n)) (len + 1) (upN_lt h (byteOf_lt v n))
    exact ⟨ih.1, by show (wrF v n (upN t len (byteOf v n)) (len + 1)).2 = _; rw [ih.2]; omega⟩
theorem writeT_lt {t : Nat → Nat} {len : Nat} {n : Int} {v : Int64} (h : ∀ k, t k < 256) : ∀ k, g_writeT t len n v k < 256 := by
  unfold g_writeT
  split
  · exact (wrF_all _ _ _ h).1
  · exact h
theorem writeL_le {t : Nat → Nat} {len : Nat} {n : Int} {v : Int64} (h : ∀ k, t k < 256) (hl : len ≤ 300) : g_writeL t len n v ≤ 300 := by
  unfold g_writeL
  split
  · rename_i c
    unfold vWrite at c
    rw [Bool.and_eq_true] at c
    have := of_decide_eq_true c.2
    rw [(wrF_all _ _ _ h).2]
    omega
  · exact hl
