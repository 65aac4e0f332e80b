abbrev rm_X4_in : Room := { frames := 0, cells := 0, slots := 0, locals := 0 }
set_option maxHeartbeats 4000000 in
set_option maxRecDepth 100000 in
theorem k_X4_in (l : Launch) (D : va_G) (cI cB : ClassId) (v a b : Int) (hv : (-2147483648 ≤ v ∧ v < 2147483648)) (ha : (-2147483648 ≤ a ∧ a < 2147483648)) (hb : (-2147483648 ≤ b ∧ b < 2147483648)) : CtQ l yX4_in cX4_in 3 (some .boolean) rm_X4_in D cI cB [.int (iI (v)), .int (iI (a)), .int (iI (b))] ([]) ((iI ((Bool.toNat (decide (a ≤ v ∧ v ≤ b)) : Nat) : Int))) := by
  refine CtQ.of RX4 (by decide) rfl (Nat.le_of_ble_eq_true rfl) ?_
  intro p e s m args below meth c H ls hH F hr hlk P hl
  have hl : lv_has ls 3 [(0, .int (iI (v))), (1, .int (iI (a))), (2, .int (iI (b)))] := hl
  refine r_iln F hl 0 rfl dX4_in_0 rfl ?_
  refine r_iln F hl 1 rfl dX4_in_1 rfl ?_
  refine r_cltz 14 F dX4_in_2 (by decide) (by omega) (fun c_1 => ?_) (fun c_1 => ?_)
  · refine r_icb F false dX4_in_14 rfl ?_
    exact r_retQb F hr hlk hH dX4_in_15 (by first | rfl | (simp only [c_1, (Int.not_le.mpr c_1), if_true, if_false, Bool.toNat_true, Bool.toNat_false, decide_true, decide_false]; done) | (simp [c_1, (Int.not_le.mpr c_1)]; done) | (simp [c_1, (Int.not_le.mpr c_1)]; omega))
  · refine r_iln F hl 0 rfl dX4_in_5 rfl ?_
    refine r_iln F hl 2 rfl dX4_in_6 rfl ?_
    refine r_cgtz 14 F dX4_in_7 (by decide) (by omega) (fun c_2 => ?_) (fun c_2 => ?_)
    · refine r_icb F false dX4_in_14 rfl ?_
      exact r_retQb F hr hlk hH dX4_in_15 (by first | rfl | (simp only [c_1, (Int.not_lt.mp c_1), c_2, (Int.not_le.mpr c_2), if_true, if_false, Bool.toNat_true, Bool.toNat_false, decide_true, decide_false]; done) | (simp [c_1, (Int.not_lt.mp c_1), c_2, (Int.not_le.mpr c_2)]; done) | (simp [c_1, (Int.not_lt.mp c_1), c_2, (Int.not_le.mpr c_2)]; omega))
    · refine r_icb F true dX4_in_10 rfl ?_
      refine r_goto 15 F dX4_in_11 (by decide) ?_
      exact r_retQb F hr hlk hH dX4_in_15 (by first | rfl | (simp only [c_1, (Int.not_lt.mp c_1), c_2, (Int.not_lt.mp c_2), if_true, if_false, Bool.toNat_true, Bool.toNat_false, decide_true, decide_false]; done) | (simp [c_1, (Int.not_lt.mp c_1), c_2, (Int.not_lt.mp c_2)]; done) | (simp [c_1, (Int.not_lt.mp c_1), c_2, (Int.not_lt.mp c_2)]; omega))
