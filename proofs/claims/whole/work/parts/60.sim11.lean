theorem it_c {b g g' d : Nat → Nat} {n a : Nat} {T : St} (hb : ∀ k, b k < 256) (hR : RTd T d) : ItR (pr_one b n a g d 3 1 8) (ri1 (sp_rm b n 1 a g') (vSC ((sp_rm b n 1 a g').2.2 0)) (tSC T ((sp_rm b n 1 a g').2.2 0)) T) := by
  obtain ⟨h, hz, ho⟩ := hR
  obtain ⟨n1, n2⟩ := @num_rel b n 1 a hb g g'
  unfold pr_one
  by_cases c : (sp_num b n 1 a g).1 = true ∧ isIn ((sp_num b n 1 a g).2.2 0 : Int) 1 8 = true
  · obtain ⟨q1, q2⟩ := n2 c.1
    have x0 := q2 0 (by decide)
    have hc := isIn_le c.2
    have hv : vSC ((sp_rm b n 1 a g').2.2 0) = true := decide_eq_true ⟨by omega, by omega⟩
    rw [if_pos c, ri1_t (n1.trans c.1) hv]
    refine ⟨rfl, fun _ => ⟨q1, ?_⟩⟩
    generalize (sp_rm b n 1 a g').2.2 0 = x at hv x0 ⊢
    rw [← x0]
    obtain ⟨⟨a0, a1, a2, a3, a4, a5, a6, a7⟩, b1, b2, b3⟩ := h
    dsimp only
    have y0 : tSC T x 9 0 = x := by show ifV (vSC x) x (T 9 0) = x; unfold ifV; rw [if_pos hv]
    refine ⟨⟨⟨?_, ?_, ?_, ?_, ?_, ?_, ?_, ?_⟩, fun k hk => ?_, fun j hj => ?_, fun k hk => ?_⟩, fun k h1 h2 => ?_, ho⟩
    · rw [upN_ne (by omega)]; exact a0
    · rw [upN_ne (by omega)]; exact a1
    · rw [upN_ne (by omega)]; exact a2
    · rw [upN_eq]; exact y0.symm
    · rw [upN_ne (by omega)]; exact a4
    · rw [upN_ne (by omega)]; exact a5
    · rw [upN_ne (by omega)]; exact a6
    · rw [upN_ne (by omega)]; exact a7
    · rw [upN_ne (by omega), upN_ne (by omega)]; exact b1 k hk
    · obtain ⟨c1, c2, c3⟩ := b2 j hj
      refine ⟨by rw [upN_ne (by omega)]; exact c1, c2, fun k hk => ?_⟩
      rw [upN_ne (by omega)]
      exact c3 k hk
    · rw [upN_ne (by omega)]; exact b3 k hk
    · rw [upN_ne (by omega)]; exact hz k h1 h2
  · rw [if_neg c]
    refine ItR_no rfl (ri1_f (fun z => c ?_))
    have z1 : (sp_num b n 1 a g).1 = true := n1.symm.trans z.1
    obtain ⟨q1, q2⟩ := n2 z1
    have x0 := q2 0 (by decide)
    have := of_decide_eq_true z.2
    exact ⟨z1, decide_eq_true (by omega)⟩
theorem it_n {b g g' d : Nat → Nat} {n a : Nat} {T : St} (hb : ∀ k, b k < 256) (hR : RTd T d) : ItR (pr_one b n a g d 4 0 8) (ri1 (sp_rm b n 1 a g') (vSN ((sp_rm b n 1 a g').2.2 0)) (tSN T ((sp_rm b n 1 a g').2.2 0)) T) := by
  obtain ⟨h, hz, ho⟩ := hR
  obtain ⟨n1, n2⟩ := @num_rel b n 1 a hb g g'
  unfold pr_one
  by_cases c : (sp_num b n 1 a g).1 = true ∧ isIn ((sp_num b n 1 a g).2.2 0 : Int) 0 8 = true
  · obtain ⟨q1, q2⟩ := n2 c.1
    have x0 := q2 0 (by decide)
    have hc := isIn_le c.2
    have hv : vSN ((sp_rm b n 1 a g').2.2 0) = true := decide_eq_true (by omega)
    rw [if_pos c, ri1_t (n1.trans c.1) hv]
    refine ⟨rfl, fun _ => ⟨q1, ?_⟩⟩
    generalize (sp_rm b n 1 a g').2.2 0 = x at hv x0 ⊢
    rw [← x0]
    obtain ⟨⟨a0, a1, a2, a3, a4, a5, a6, a7⟩, b1, b2, b3⟩ := h
    dsimp only
    have y0 : tSN T x 10 0 = x := by show ifV (vSN x) x (T 10 0) = x; unfold ifV; rw [if_pos hv]
    refine ⟨⟨⟨?_, ?_, ?_, ?_, ?_, ?_, ?_, ?_⟩, fun k hk => ?_, fun j hj => ?_, fun k hk => ?_⟩, fun k h1 h2 => ?_, ho⟩
    · rw [upN_ne (by omega)]; exact a0
    · rw [upN_ne (by omega)]; exact a1
    · rw [upN_ne (by omega)]; exact a2
    · rw [upN_ne (by omega)]; exact a3
    · rw [upN_eq]; exact y0.symm
    · rw [upN_ne (by omega)]; exact a5
    · rw [upN_ne (by omega)]; exact a6
    · rw [upN_ne (by omega)]; exact a7
    · rw [upN_ne (by omega), upN_ne (by omega)]; exact b1 k hk
    · obtain ⟨c1, c2, c3⟩ := b2 j hj
      refine ⟨by rw [upN_ne (by omega)]; exact c1, c2, fun k hk => ?_⟩
      rw [upN_ne (by omega)]
      exact c3 k hk
    · rw [upN_ne (by omega)]; exact b3 k hk
    · rw [upN_ne (by omega)]; exact hz k h1 h2
  · rw [if_neg c]
    refine ItR_no rfl (ri1_f (fun z => c ?_))
    have z1 : (sp_num b n 1 a g).1 = true := n1.symm.trans z.1
    obtain ⟨q1, q2⟩ := n2 z1
    have x0 := q2 0 (by decide)
    have := of_decide_eq_true z.2
    exact ⟨z1, decide_eq_true (by omega)⟩
