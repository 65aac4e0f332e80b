-- ===== a trade's steps are read alike
theorem nx_st {b : Nat → Nat} {n k : Nat} (hb : ∀ k, b k < 256) : (0 ≤ sp_nx b n k - 48 ∧ sp_nx b n k - 48 ≤ 5) ↔ isIn (sp_byte b n k) 48 53 = true := by
  have := hb k
  unfold isIn
  rw [decide_eq_true_eq]
  unfold sp_nx sp_byte sx
  split
  · split <;> omega
  · omega
theorem st_nx {b : Nat → Nat} {n k : Nat} (h : isIn (sp_byte b n k) 48 53 = true) : (sp_nx b n k - 48).toNat = b k - 48 ∧ b k < 128 := by
  have h := of_decide_eq_true h
  unfold sp_byte at h
  unfold sp_nx sx
  by_cases c : k < n
  · rw [if_pos c] at h ⊢
    rw [if_pos (by omega)]
    omega
  · rw [if_neg c] at h
    omega
theorem RT_step {T : St} {d : Nat → Nat} (h : RT T d) {u v : Nat} (hu : u < 8) (ht : T 3 0 < 4) (z : Int) (hz : 0 ≤ z ∧ z ≤ 5) (ho : T 6 0 = u) (hv : z.toNat = v) (hp : T 0 0 ≤ 5) (hq : T 7 0 ≤ 8) (hI : ∀ k, k < u → d (32 + 8 * d 1 + k) = T 4 (8 * T 3 0 + k)) :
    RT (tAS T z) (upN d (32 + 8 * d 1 + u) v) ∧ tAS T z 6 0 = u + 1 ∧ tAS T z 3 0 = T 3 0 ∧ tAS T z 0 0 = T 0 0 ∧ tAS T z 7 0 = T 7 0 ∧ ∀ k, k < u + 1 → upN d (32 + 8 * d 1 + u) v (32 + 8 * d 1 + k) = tAS T z 4 (8 * T 3 0 + k) := by
  obtain ⟨⟨a0, a1, a2, a3, a4, a5, a6, a7⟩, b1, b2, b3⟩ := h
  have hv2 : vAS (T 3 0) (T 6 0) z = true := decide_eq_true ⟨ht, by omega, hz.1, hz.2⟩
  have e4 : tAS T z 4 = upN (T 4) (8 * T 3 0 + u) v := by show asS (T 3 0) (T 6 0) z (T 4) = _; unfold asS; rw [if_pos hv2, ho, hv]
  have e6 : tAS T z 6 0 = u + 1 := by show asO (T 3 0) (T 6 0) z = _; unfold asO; rw [if_pos hv2, ho]
  refine ⟨⟨⟨?_, ?_, ?_, ?_, ?_, ?_, ?_, ?_⟩, fun k hk => ?_, fun j hj => ?_, fun k hk => ?_⟩, e6, rfl, rfl, rfl, fun k hk => ?_⟩
  · rw [upN_ne (by omega)]; exact a0
  · rw [upN_ne (by omega)]; exact a1
  · rw [upN_ne (by omega)]; exact a2
  · rw [upN_ne (by omega)]; exact a3
  · rw [upN_ne (by omega)]; exact a4
  · rw [upN_ne (by omega)]; exact a5
  · rw [upN_ne (by omega)]; exact a6
  · rw [upN_ne (by omega)]; exact a7
  · have hk : k < 2 * T 0 0 := hk
    rw [upN_ne (by omega), upN_ne (by omega)]; exact b1 k hk
  · have hj : j < T 3 0 := hj
    obtain ⟨c1, c2, c3⟩ := b2 j hj
    refine ⟨by rw [upN_ne (by omega)]; exact c1, c2, fun k hk => ?_⟩
    have hk : k < T 5 j := hk
    rw [e4, upN_ne (by omega), upN_ne (by omega)]
    exact c3 k hk
  · have hk : k < 2 * T 7 0 := hk
    rw [upN_ne (by omega)]; exact b3 k hk
  · rw [e4]
    by_cases e : k = u
    · subst e; rw [upN_eq, upN_eq]
    · rw [upN_ne (by omega), upN_ne (by omega)]; exact hI k (by omega)
