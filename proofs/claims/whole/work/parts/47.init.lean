/-- all fields and elements at 0 -/
def z0 : St := fun _ _ => 0
def adr (L : List Nat) : Nat → Nat := fun k => L.getD k 0
abbrev dfX0 : List Value := [.null, .int (iI ((0 : Nat) : Int)), .int (iI ((0 : Nat) : Int)), .null]
theorem dfX0_ok : ∀ j, j < 4 → defaultValue (tyX0 j) = vp_V dfX0 j := by
  intro j hj
  rcases (show j = 0 ∨ j = 1 ∨ j = 2 ∨ j = 3 from by omega) with rfl | rfl | rfl | rfl <;> rfl
abbrev dfX1 : List Value := [.int (iI ((0 : Nat) : Int)), .null, .null]
theorem dfX1_ok : ∀ j, j < 3 → defaultValue (tyX1 j) = vp_V dfX1 j := by
  intro j hj
  rcases (show j = 0 ∨ j = 1 ∨ j = 2 from by omega) with rfl | rfl | rfl <;> rfl
abbrev dfX2 : List Value := [.int (iI ((0 : Nat) : Int)), .null, .null, .int (iI ((0 : Nat) : Int)), .null, .null, .int (iI ((0 : Nat) : Int)), .int (iI ((0 : Nat) : Int)), .null, .int (iI ((0 : Nat) : Int)), .int (iI ((0 : Nat) : Int)), .int (iI ((0 : Nat) : Int)), .int (iI ((0 : Nat) : Int)), .int (iI ((0 : Nat) : Int))]
theorem dfX2_ok : ∀ j, j < 14 → defaultValue (tyX2 j) = vp_V dfX2 j := by
  intro j hj
  rcases (show j = 0 ∨ j = 1 ∨ j = 2 ∨ j = 3 ∨ j = 4 ∨ j = 5 ∨ j = 6 ∨ j = 7 ∨ j = 8 ∨ j = 9 ∨ j = 10 ∨ j = 11 ∨ j = 12 ∨ j = 13 from by omega) with rfl | rfl | rfl | rfl | rfl | rfl | rfl | rfl | rfl | rfl | rfl | rfl | rfl | rfl <;> rfl
abbrev dfX3 : List Value := [.null, .null, .null, .null, .null, .null, .null, .int (iI ((0 : Nat) : Int)), .null, .int (iI ((0 : Nat) : Int)), .null, .null]
theorem dfX3_ok : ∀ j, j < 12 → defaultValue (tyX3 j) = vp_V dfX3 j := by
  intro j hj
  rcases (show j = 0 ∨ j = 1 ∨ j = 2 ∨ j = 3 ∨ j = 4 ∨ j = 5 ∨ j = 6 ∨ j = 7 ∨ j = 8 ∨ j = 9 ∨ j = 10 ∨ j = 11 from by omega) with rfl | rfl | rfl | rfl | rfl | rfl | rfl | rfl | rfl | rfl | rfl | rfl <;> rfl
abbrev dfX4 : List Value := [.null, .int (iI ((0 : Nat) : Int)), .null, .null, .null, .null, .null, .int (iI ((0 : Nat) : Int)), .null, .null, .null, .int (iI ((0 : Nat) : Int)), .int (iI ((0 : Nat) : Int)), .null]
theorem dfX4_ok : ∀ j, j < 14 → defaultValue (tyX4 j) = vp_V dfX4 j := by
  intro j hj
  rcases (show j = 0 ∨ j = 1 ∨ j = 2 ∨ j = 3 ∨ j = 4 ∨ j = 5 ∨ j = 6 ∨ j = 7 ∨ j = 8 ∨ j = 9 ∨ j = 10 ∨ j = 11 ∨ j = 12 ∨ j = 13 from by omega) with rfl | rfl | rfl | rfl | rfl | rfl | rfl | rfl | rfl | rfl | rfl | rfl | rfl | rfl <;> rfl
abbrev rm_X0_init : Room := { frames := 1, cells := 2, slots := 304, locals := 12 }
set_option maxHeartbeats 4000000 in
set_option maxRecDepth 100000 in
theorem k_X0_init (l : Launch) (D : va_G) (cI cB : ClassId) (a : Nat) : CtI l yX0_init cX0_init 1 rm_X0_init D cI cB a [(a, .inr (0, dfX0))] (fun q : Nat → Nat => q 0 = a) (fun q => wP q cI cB z0) 2 304 := by
  refine CtI.of RX0 (by decide) rfl rfl (Nat.le_of_ble_eq_true rfl) ?_
  intro p e s m args below meth c H0 ls A hH hA F hr hlk hme B hl
  have hl : lv_has ls 1 [(0, .ref a)] := hl
  refine r_aln F hl 0 rfl dX0_init_0 rfl ?_
  refine r_oi F ko_X0 hl.1 (Nat.le_of_ble_eq_true rfl) (Nat.le_of_ble_eq_true rfl) dX0_init_1 ?_
  refine r_aln F hl 0 rfl dX0_init_4 rfl ?_
  refine r_sp F 300 dX0_init_5 rfl ?_
  refine r_nwB 300 F hA B (by decide) (Nat.le_of_ble_eq_true rfl) (Nat.le_of_ble_eq_true rfl) dX0_init_8 (fun q1 H B => ?_)
  refine r_pfF F hme uX0 rfl tyX0_ok nmX0 0 (by decide) kf_X0_9 rfl rfl B 0 ([(a, .inr (0, [.ref q1, .int (iI ((0 : Nat) : Int)), .int (iI ((0 : Nat) : Int)), .null])), (q1, aB cB 300 (fun _ => 0))]) rfl rfl rfl (Nat.le_of_ble_eq_true rfl) rfl dX0_init_10 (fun H locs B => ?_)
  refine r_aln F hl 0 rfl dX0_init_13 rfl ?_
  refine r_ic F 4 dX0_init_14 rfl ?_
  refine r_nwI 4 F hA B (by decide) (Nat.le_of_ble_eq_true rfl) (Nat.le_of_ble_eq_true rfl) dX0_init_15 (fun q2 H B => ?_)
  refine r_pfF F hme uX0 rfl tyX0_ok nmX0 3 (by decide) kf_X0_15 rfl rfl B 0 ([(a, .inr (0, [.ref q1, .int (iI ((0 : Nat) : Int)), .int (iI ((0 : Nat) : Int)), .ref q2])), (q1, aB cB 300 (fun _ => 0)), (q2, aI cI 4 (fun _ => 0))]) rfl rfl rfl (Nat.le_of_ble_eq_true rfl) rfl dX0_init_17 (fun H locs B => ?_)
  exact r_retI (adr [a, q1, 0, 0, q2]) F hr hlk hH B dX0_init_20 rfl rfl
abbrev rm_X1_init : Room := { frames := 1, cells := 2, slots := 15, locals := 12 }
set_option maxHeartbeats 4000000 in
set_option maxRecDepth 100000 in
theorem k_X1_init (l : Launch) (D : va_G) (cI cB : ClassId) (a : Nat) : CtI l yX1_init cX1_init 1 rm_X1_init D cI cB a [(a, .inr (1, dfX1))] (fun q : Nat → Nat => q 0 = a) (fun q => wS q cI z0) 2 15 := by
  refine CtI.of RX1 (by decide) rfl rfl (Nat.le_of_ble_eq_true rfl) ?_
  intro p e s m args below meth c H0 ls A hH hA F hr hlk hme B hl
  have hl : lv_has ls 1 [(0, .ref a)] := hl
  refine r_aln F hl 0 rfl dX1_init_0 rfl ?_
  refine r_oi F ko_X1 hl.1 (Nat.le_of_ble_eq_true rfl) (Nat.le_of_ble_eq_true rfl) dX1_init_1 ?_
  refine r_aln F hl 0 rfl dX1_init_4 rfl ?_
  refine r_bp F 10 dX1_init_5 rfl ?_
  refine r_nwI 10 F hA B (by decide) (Nat.le_of_ble_eq_true rfl) (Nat.le_of_ble_eq_true rfl) dX1_init_7 (fun q1 H B => ?_)
  refine r_pfF F hme uX1 rfl tyX1_ok nmX1 1 (by decide) kf_X1_9 rfl rfl B 0 ([(a, .inr (1, [.int (iI ((0 : Nat) : Int)), .ref q1, .null])), (q1, aI cI 10 (fun _ => 0))]) rfl rfl rfl (Nat.le_of_ble_eq_true rfl) rfl dX1_init_9 (fun H locs B => ?_)
  refine r_aln F hl 0 rfl dX1_init_12 rfl ?_
  refine r_ic F 5 dX1_init_13 rfl ?_
  refine r_nwI 5 F hA B (by decide) (Nat.le_of_ble_eq_true rfl) (Nat.le_of_ble_eq_true rfl) dX1_init_14 (fun q2 H B => ?_)
  refine r_pfF F hme uX1 rfl tyX1_ok nmX1 2 (by decide) kf_X1_15 rfl rfl B 0 ([(a, .inr (1, [.int (iI ((0 : Nat) : Int)), .ref q1, .ref q2])), (q1, aI cI 10 (fun _ => 0)), (q2, aI cI 5 (fun _ => 0))]) rfl rfl rfl (Nat.le_of_ble_eq_true rfl) rfl dX1_init_16 (fun H locs B => ?_)
  exact r_retI (adr [a, 0, q1, q2]) F hr hlk hH B dX1_init_19 rfl rfl
abbrev rm_X2_init : Room := { frames := 1, cells := 5, slots := 72, locals := 20 }
set_option maxHeartbeats 4000000 in
set_option maxRecDepth 100000 in
theorem k_X2_init (l : Launch) (D : va_G) (cI cB : ClassId) (a : Nat) : CtI l yX2_init cX2_init 1 rm_X2_init D cI cB a [(a, .inr (2, dfX2))] (fun q : Nat → Nat => q 0 = a) (fun q => wT q cI (tE z0)) 5 72 := by
  refine CtI.of RX2 (by decide) rfl rfl (Nat.le_of_ble_eq_true rfl) ?_
  intro p e s m args below meth c H0 ls A hH hA F hr hlk hme B hl
  have hl : lv_has ls 1 [(0, .ref a)] := hl
  refine r_aln F hl 0 rfl dX2_init_0 rfl ?_
  refine r_oi F ko_X2 hl.1 (Nat.le_of_ble_eq_true rfl) (Nat.le_of_ble_eq_true rfl) dX2_init_1 ?_
  refine r_aln F hl 0 rfl dX2_init_4 rfl ?_
  refine r_bp F 10 dX2_init_5 rfl ?_
  refine r_nwI 10 F hA B (by decide) (Nat.le_of_ble_eq_true rfl) (Nat.le_of_ble_eq_true rfl) dX2_init_7 (fun q1 H B => ?_)
  refine r_pfF F hme uX2 rfl tyX2_ok nmX2 1 (by decide) kf_X2_9 rfl rfl B 0 ([(a, .inr (2, [.int (iI ((0 : Nat) : Int)), .ref q1, .null, .int (iI ((0 : Nat) : Int)), .null, .null, .int (iI ((0 : Nat) : Int)), .int (iI ((0 : Nat) : Int)), .null, .int (iI ((0 : Nat) : Int)), .int (iI ((0 : Nat) : Int)), .int (iI ((0 : Nat) : Int)), .int (iI ((0 : Nat) : Int)), .int (iI ((0 : Nat) : Int))])), (q1, aI cI 10 (fun _ => 0))]) rfl rfl rfl (Nat.le_of_ble_eq_true rfl) rfl dX2_init_9 (fun H locs B => ?_)
  refine r_aln F hl 0 rfl dX2_init_12 rfl ?_
  refine r_bp F 10 dX2_init_13 rfl ?_
  refine r_nwI 10 F hA B (by decide) (Nat.le_of_ble_eq_true rfl) (Nat.le_of_ble_eq_true rfl) dX2_init_15 (fun q2 H B => ?_)
  refine r_pfF F hme uX2 rfl tyX2_ok nmX2 2 (by decide) kf_X2_15 rfl rfl B 0 ([(a, .inr (2, [.int (iI ((0 : Nat) : Int)), .ref q1, .ref q2, .int (iI ((0 : Nat) : Int)), .null, .null, .int (iI ((0 : Nat) : Int)), .int (iI ((0 : Nat) : Int)), .null, .int (iI ((0 : Nat) : Int)), .int (iI ((0 : Nat) : Int)), .int (iI ((0 : Nat) : Int)), .int (iI ((0 : Nat) : Int)), .int (iI ((0 : Nat) : Int))])), (q1, aI cI 10 (fun _ => 0)), (q2, aI cI 10 (fun _ => 0))]) rfl rfl rfl (Nat.le_of_ble_eq_true rfl) rfl dX2_init_17 (fun H locs B => ?_)
  refine r_aln F hl 0 rfl dX2_init_20 rfl ?_
  refine r_bp F 32 dX2_init_21 rfl ?_
  refine r_nwI 32 F hA B (by decide) (Nat.le_of_ble_eq_true rfl) (Nat.le_of_ble_eq_true rfl) dX2_init_23 (fun q3 H B => ?_)
  refine r_pfF F hme uX2 rfl tyX2_ok nmX2 4 (by decide) kf_X2_18 rfl rfl B 0 ([(a, .inr (2, [.int (iI ((0 : Nat) : Int)), .ref q1, .ref q2, .int (iI ((0 : Nat) : Int)), .ref q3, .null, .int (iI ((0 : Nat) : Int)), .int (iI ((0 : Nat) : Int)), .null, .int (iI ((0 : Nat) : Int)), .int (iI ((0 : Nat) : Int)), .int (iI ((0 : Nat) : Int)), .int (iI ((0 : Nat) : Int)), .int (iI ((0 : Nat) : Int))])), (q1, aI cI 10 (fun _ => 0)), (q2, aI cI 10 (fun _ => 0)), (q3, aI cI 32 (fun _ => 0))]) rfl rfl rfl (Nat.le_of_ble_eq_true rfl) rfl dX2_init_25 (fun H locs B => ?_)
  refine r_aln F hl 0 rfl dX2_init_28 rfl ?_
  refine r_ic F 4 dX2_init_29 rfl ?_
  refine r_nwI 4 F hA B (by decide) (Nat.le_of_ble_eq_true rfl) (Nat.le_of_ble_eq_true rfl) dX2_init_30 (fun q4 H B => ?_)
  refine r_pfF F hme uX2 rfl tyX2_ok nmX2 5 (by decide) kf_X2_21 rfl rfl B 0 ([(a, .inr (2, [.int (iI ((0 : Nat) : Int)), .ref q1, .ref q2, .int (iI ((0 : Nat) : Int)), .ref q3, .ref q4, .int (iI ((0 : Nat) : Int)), .int (iI ((0 : Nat) : Int)), .null, .int (iI ((0 : Nat) : Int)), .int (iI ((0 : Nat) : Int)), .int (iI ((0 : Nat) : Int)), .int (iI ((0 : Nat) : Int)), .int (iI ((0 : Nat) : Int))])), (q1, aI cI 10 (fun _ => 0)), (q2, aI cI 10 (fun _ => 0)), (q3, aI cI 32 (fun _ => 0)), (q4, aI cI 4 (fun _ => 0))]) rfl rfl rfl (Nat.le_of_ble_eq_true rfl) rfl dX2_init_32 (fun H locs B => ?_)
  refine r_aln F hl 0 rfl dX2_init_35 rfl ?_
  refine r_bp F 16 dX2_init_36 rfl ?_
  refine r_nwI 16 F hA B (by decide) (Nat.le_of_ble_eq_true rfl) (Nat.le_of_ble_eq_true rfl) dX2_init_38 (fun q5 H B => ?_)
  refine r_pfF F hme uX2 rfl tyX2_ok nmX2 8 (by decide) kf_X2_24 rfl rfl B 0 ([(a, .inr (2, [.int (iI ((0 : Nat) : Int)), .ref q1, .ref q2, .int (iI ((0 : Nat) : Int)), .ref q3, .ref q4, .int (iI ((0 : Nat) : Int)), .int (iI ((0 : Nat) : Int)), .ref q5, .int (iI ((0 : Nat) : Int)), .int (iI ((0 : Nat) : Int)), .int (iI ((0 : Nat) : Int)), .int (iI ((0 : Nat) : Int)), .int (iI ((0 : Nat) : Int))])), (q1, aI cI 10 (fun _ => 0)), (q2, aI cI 10 (fun _ => 0)), (q3, aI cI 32 (fun _ => 0)), (q4, aI cI 4 (fun _ => 0)), (q5, aI cI 16 (fun _ => 0))]) rfl rfl rfl (Nat.le_of_ble_eq_true rfl) rfl dX2_init_40 (fun H locs B => ?_)
  have B : Bx D A H0 (wT (adr [a, 0, q1, q2, 0, q3, q4, 0, 0, q5]) cI z0) H locs := B
  refine r_aln F hl 0 rfl dX2_init_43 rfl ?_
  refine r_cvW (wc' := wT (adr [a, 0, q1, q2, 0, q3, q4, 0, 0, q5]) cI (tE z0)) F hA B (k_X2_empty l D cI cB (adr [a, 0, q1, q2, 0, q3, q4, 0, 0, q5]) z0) gw_X2_27 rfl rfl ⟨⟨rfl, rfl⟩, Nat.le_of_ble_eq_true rfl, Nat.le_of_ble_eq_true rfl⟩ ⟨Nat.le_of_ble_eq_true rfl, Nat.le_of_ble_eq_true rfl⟩ hl.1 rfl [] rfl (Nat.le_of_ble_eq_true rfl) dX2_init_44 (fun H locs B => ?_)
  exact r_retI (adr [a, 0, q1, q2, 0, q3, q4, 0, 0, q5]) F hr hlk hH B dX2_init_47 rfl rfl
/-- the model as it is made -/
def mz0 : St := stR z0 2 (upN (upN (upN (upN (upN (upN (upN (upN (upN (upN (upN (z0 2) (0) (1)) (1) (1)) (3) (3)) (4) (2)) (5) (9)) (6) (1)) (7) (1)) (8) (1)) (9) (2)) (28) (2)) (33) (1))
abbrev rm_X4_init : Room := { frames := 1, cells := 10, slots := 558, locals := 12 }
set_option maxHeartbeats 4000000 in
set_option maxRecDepth 100000 in
theorem k_X4_init (l : Launch) (D : va_G) (cI cB : ClassId) (a : Nat) : CtI l yX4_init cX4_init 1 rm_X4_init D cI cB a [(a, .inr (4, dfX4))] (fun q : Nat → Nat => q 0 = a) (fun q => wM q cI mz0) 10 558 := by
  refine CtI.of RX4 (by decide) rfl rfl (Nat.le_of_ble_eq_true rfl) ?_
  intro p e s m args below meth c H0 ls A hH hA F hr hlk hme B hl
  have hl : lv_has ls 1 [(0, .ref a)] := hl
  refine r_aln F hl 0 rfl dX4_init_0 rfl ?_
  refine r_oi F ko_X4 hl.1 (Nat.le_of_ble_eq_true rfl) (Nat.le_of_ble_eq_true rfl) dX4_init_1 ?_
  refine r_aln F hl 0 rfl dX4_init_4 rfl ?_
  refine r_sp F 300 dX4_init_5 rfl ?_
  refine r_nwI 300 F hA B (by decide) (Nat.le_of_ble_eq_true rfl) (Nat.le_of_ble_eq_true rfl) dX4_init_8 (fun q1 H B => ?_)
  refine r_pfF F hme uX4 rfl tyX4_ok nmX4 0 (by decide) kf_X4_7 rfl rfl B 0 ([(a, .inr (4, [.ref q1, .int (iI ((0 : Nat) : Int)), .null, .null, .null, .null, .null, .int (iI ((0 : Nat) : Int)), .null, .null, .null, .int (iI ((0 : Nat) : Int)), .int (iI ((0 : Nat) : Int)), .null])), (q1, aI cI 300 (fun _ => 0))]) rfl rfl rfl (Nat.le_of_ble_eq_true rfl) rfl dX4_init_10 (fun H locs B => ?_)
  refine r_aln F hl 0 rfl dX4_init_13 rfl ?_
  refine r_bp F 80 dX4_init_14 rfl ?_
  refine r_nwI 80 F hA B (by decide) (Nat.le_of_ble_eq_true rfl) (Nat.le_of_ble_eq_true rfl) dX4_init_16 (fun q2 H B => ?_)
  refine r_pfF F hme uX4 rfl tyX4_ok nmX4 2 (by decide) kf_X4_13 rfl rfl B 0 ([(a, .inr (4, [.ref q1, .int (iI ((0 : Nat) : Int)), .ref q2, .null, .null, .null, .null, .int (iI ((0 : Nat) : Int)), .null, .null, .null, .int (iI ((0 : Nat) : Int)), .int (iI ((0 : Nat) : Int)), .null])), (q1, aI cI 300 (fun _ => 0)), (q2, aI cI 80 (fun _ => 0))]) rfl rfl rfl (Nat.le_of_ble_eq_true rfl) rfl dX4_init_18 (fun H locs B => ?_)
  refine r_aln F hl 0 rfl dX4_init_21 rfl ?_
  refine r_bp F 80 dX4_init_22 rfl ?_
  refine r_nwI 80 F hA B (by decide) (Nat.le_of_ble_eq_true rfl) (Nat.le_of_ble_eq_true rfl) dX4_init_24 (fun q3 H B => ?_)
  refine r_pfF F hme uX4 rfl tyX4_ok nmX4 3 (by decide) kf_X4_16 rfl rfl B 0 ([(a, .inr (4, [.ref q1, .int (iI ((0 : Nat) : Int)), .ref q2, .ref q3, .null, .null, .null, .int (iI ((0 : Nat) : Int)), .null, .null, .null, .int (iI ((0 : Nat) : Int)), .int (iI ((0 : Nat) : Int)), .null])), (q1, aI cI 300 (fun _ => 0)), (q2, aI cI 80 (fun _ => 0)), (q3, aI cI 80 (fun _ => 0))]) rfl rfl rfl (Nat.le_of_ble_eq_true rfl) rfl dX4_init_26 (fun H locs B => ?_)
  refine r_aln F hl 0 rfl dX4_init_29 rfl ?_
  refine r_bp F 16 dX4_init_30 rfl ?_
  refine r_nwI 16 F hA B (by decide) (Nat.le_of_ble_eq_true rfl) (Nat.le_of_ble_eq_true rfl) dX4_init_32 (fun q4 H B => ?_)
  refine r_pfF F hme uX4 rfl tyX4_ok nmX4 4 (by decide) kf_X4_19 rfl rfl B 0 ([(a, .inr (4, [.ref q1, .int (iI ((0 : Nat) : Int)), .ref q2, .ref q3, .ref q4, .null, .null, .int (iI ((0 : Nat) : Int)), .null, .null, .null, .int (iI ((0 : Nat) : Int)), .int (iI ((0 : Nat) : Int)), .null])), (q1, aI cI 300 (fun _ => 0)), (q2, aI cI 80 (fun _ => 0)), (q3, aI cI 80 (fun _ => 0)), (q4, aI cI 16 (fun _ => 0))]) rfl rfl rfl (Nat.le_of_ble_eq_true rfl) rfl dX4_init_34 (fun H locs B => ?_)
  refine r_aln F hl 0 rfl dX4_init_37 rfl ?_
  refine r_bp F 16 dX4_init_38 rfl ?_
  refine r_nwI 16 F hA B (by decide) (Nat.le_of_ble_eq_true rfl) (Nat.le_of_ble_eq_true rfl) dX4_init_40 (fun q5 H B => ?_)
  refine r_pfF F hme uX4 rfl tyX4_ok nmX4 5 (by decide) kf_X4_22 rfl rfl B 0 ([(a, .inr (4, [.ref q1, .int (iI ((0 : Nat) : Int)), .ref q2, .ref q3, .ref q4, .ref q5, .null, .int (iI ((0 : Nat) : Int)), .null, .null, .null, .int (iI ((0 : Nat) : Int)), .int (iI ((0 : Nat) : Int)), .null])), (q1, aI cI 300 (fun _ => 0)), (q2, aI cI 80 (fun _ => 0)), (q3, aI cI 80 (fun _ => 0)), (q4, aI cI 16 (fun _ => 0)), (q5, aI cI 16 (fun _ => 0))]) rfl rfl rfl (Nat.le_of_ble_eq_true rfl) rfl dX4_init_42 (fun H locs B => ?_)
  refine r_aln F hl 0 rfl dX4_init_45 rfl ?_
  refine r_bp F 32 dX4_init_46 rfl ?_
  refine r_nwI 32 F hA B (by decide) (Nat.le_of_ble_eq_true rfl) (Nat.le_of_ble_eq_true rfl) dX4_init_48 (fun q6 H B => ?_)
  refine r_pfF F hme uX4 rfl tyX4_ok nmX4 6 (by decide) kf_X4_25 rfl rfl B 0 ([(a, .inr (4, [.ref q1, .int (iI ((0 : Nat) : Int)), .ref q2, .ref q3, .ref q4, .ref q5, .ref q6, .int (iI ((0 : Nat) : Int)), .null, .null, .null, .int (iI ((0 : Nat) : Int)), .int (iI ((0 : Nat) : Int)), .null])), (q1, aI cI 300 (fun _ => 0)), (q2, aI cI 80 (fun _ => 0)), (q3, aI cI 80 (fun _ => 0)), (q4, aI cI 16 (fun _ => 0)), (q5, aI cI 16 (fun _ => 0)), (q6, aI cI 32 (fun _ => 0))]) rfl rfl rfl (Nat.le_of_ble_eq_true rfl) rfl dX4_init_50 (fun H locs B => ?_)
  refine r_aln F hl 0 rfl dX4_init_53 rfl ?_
  refine r_bp F 10 dX4_init_54 rfl ?_
  refine r_nwI 10 F hA B (by decide) (Nat.le_of_ble_eq_true rfl) (Nat.le_of_ble_eq_true rfl) dX4_init_56 (fun q7 H B => ?_)
  refine r_pfF F hme uX4 rfl tyX4_ok nmX4 8 (by decide) kf_X4_28 rfl rfl B 0 ([(a, .inr (4, [.ref q1, .int (iI ((0 : Nat) : Int)), .ref q2, .ref q3, .ref q4, .ref q5, .ref q6, .int (iI ((0 : Nat) : Int)), .ref q7, .null, .null, .int (iI ((0 : Nat) : Int)), .int (iI ((0 : Nat) : Int)), .null])), (q1, aI cI 300 (fun _ => 0)), (q2, aI cI 80 (fun _ => 0)), (q3, aI cI 80 (fun _ => 0)), (q4, aI cI 16 (fun _ => 0)), (q5, aI cI 16 (fun _ => 0)), (q6, aI cI 32 (fun _ => 0)), (q7, aI cI 10 (fun _ => 0))]) rfl rfl rfl (Nat.le_of_ble_eq_true rfl) rfl dX4_init_58 (fun H locs B => ?_)
  refine r_aln F hl 0 rfl dX4_init_61 rfl ?_
  refine r_bp F 10 dX4_init_62 rfl ?_
  refine r_nwI 10 F hA B (by decide) (Nat.le_of_ble_eq_true rfl) (Nat.le_of_ble_eq_true rfl) dX4_init_64 (fun q8 H B => ?_)
  refine r_pfF F hme uX4 rfl tyX4_ok nmX4 9 (by decide) kf_X4_31 rfl rfl B 0 ([(a, .inr (4, [.ref q1, .int (iI ((0 : Nat) : Int)), .ref q2, .ref q3, .ref q4, .ref q5, .ref q6, .int (iI ((0 : Nat) : Int)), .ref q7, .ref q8, .null, .int (iI ((0 : Nat) : Int)), .int (iI ((0 : Nat) : Int)), .null])), (q1, aI cI 300 (fun _ => 0)), (q2, aI cI 80 (fun _ => 0)), (q3, aI cI 80 (fun _ => 0)), (q4, aI cI 16 (fun _ => 0)), (q5, aI cI 16 (fun _ => 0)), (q6, aI cI 32 (fun _ => 0)), (q7, aI cI 10 (fun _ => 0)), (q8, aI cI 10 (fun _ => 0))]) rfl rfl rfl (Nat.le_of_ble_eq_true rfl) rfl dX4_init_66 (fun H locs B => ?_)
  refine r_aln F hl 0 rfl dX4_init_69 rfl ?_
  refine r_bp F 10 dX4_init_70 rfl ?_
  refine r_nwI 10 F hA B (by decide) (Nat.le_of_ble_eq_true rfl) (Nat.le_of_ble_eq_true rfl) dX4_init_72 (fun q9 H B => ?_)
  refine r_pfF F hme uX4 rfl tyX4_ok nmX4 10 (by decide) kf_X4_34 rfl rfl B 0 ([(a, .inr (4, [.ref q1, .int (iI ((0 : Nat) : Int)), .ref q2, .ref q3, .ref q4, .ref q5, .ref q6, .int (iI ((0 : Nat) : Int)), .ref q7, .ref q8, .ref q9, .int (iI ((0 : Nat) : Int)), .int (iI ((0 : Nat) : Int)), .null])), (q1, aI cI 300 (fun _ => 0)), (q2, aI cI 80 (fun _ => 0)), (q3, aI cI 80 (fun _ => 0)), (q4, aI cI 16 (fun _ => 0)), (q5, aI cI 16 (fun _ => 0)), (q6, aI cI 32 (fun _ => 0)), (q7, aI cI 10 (fun _ => 0)), (q8, aI cI 10 (fun _ => 0)), (q9, aI cI 10 (fun _ => 0))]) rfl rfl rfl (Nat.le_of_ble_eq_true rfl) rfl dX4_init_74 (fun H locs B => ?_)
  refine r_aln F hl 0 rfl dX4_init_77 rfl ?_
  refine r_ic F 4 dX4_init_78 rfl ?_
  refine r_nwI 4 F hA B (by decide) (Nat.le_of_ble_eq_true rfl) (Nat.le_of_ble_eq_true rfl) dX4_init_79 (fun q10 H B => ?_)
  refine r_pfF F hme uX4 rfl tyX4_ok nmX4 13 (by decide) kf_X4_37 rfl rfl B 0 ([(a, .inr (4, [.ref q1, .int (iI ((0 : Nat) : Int)), .ref q2, .ref q3, .ref q4, .ref q5, .ref q6, .int (iI ((0 : Nat) : Int)), .ref q7, .ref q8, .ref q9, .int (iI ((0 : Nat) : Int)), .int (iI ((0 : Nat) : Int)), .ref q10])), (q1, aI cI 300 (fun _ => 0)), (q2, aI cI 80 (fun _ => 0)), (q3, aI cI 80 (fun _ => 0)), (q4, aI cI 16 (fun _ => 0)), (q5, aI cI 16 (fun _ => 0)), (q6, aI cI 32 (fun _ => 0)), (q7, aI cI 10 (fun _ => 0)), (q8, aI cI 10 (fun _ => 0)), (q9, aI cI 10 (fun _ => 0)), (q10, aI cI 4 (fun _ => 0))]) rfl rfl rfl (Nat.le_of_ble_eq_true rfl) rfl dX4_init_81 (fun H locs B => ?_)
  have B : Bx D A H0 (wM (adr [a, q1, 0, q2, q3, q4, q5, q6, 0, q7, q8, q9, 0, 0, q10]) cI z0) H locs := B
  refine r_aln F hl 0 rfl dX4_init_84 rfl ?_
  refine gf_X4_13 F B.1 0 rfl (.ref ((adr [a, q1, 0, q2, q3, q4, q5, q6, 0, q7, q8, q9, 0, 0, q10]) 3)) rfl dX4_init_85 ?_
  refine r_ic F 0 dX4_init_88 rfl ?_
  refine r_ic F 1 dX4_init_89 rfl ?_
  refine r_ast (f := z0 2) F B 2 (wM (adr [a, q1, 0, q2, q3, q4, q5, q6, 0, q7, q8, q9, 0, 0, q10]) cI (stR z0 2 (upN (z0 2) (0) (1)))) rfl dX4_init_90 (by decide) (by omega) rfl (fun H locs B => ?_)
  refine r_aln F hl 0 rfl dX4_init_91 rfl ?_
  refine gf_X4_13 F B.1 0 rfl (.ref ((adr [a, q1, 0, q2, q3, q4, q5, q6, 0, q7, q8, q9, 0, 0, q10]) 3)) rfl dX4_init_92 ?_
  refine r_ic F 1 dX4_init_95 rfl ?_
  refine r_ic F 1 dX4_init_96 rfl ?_
  refine r_ast (f := upN (z0 2) (0) (1)) F B 2 (wM (adr [a, q1, 0, q2, q3, q4, q5, q6, 0, q7, q8, q9, 0, 0, q10]) cI (stR z0 2 (upN (upN (z0 2) (0) (1)) (1) (1)))) rfl dX4_init_97 (by decide) (by omega) rfl (fun H locs B => ?_)
  refine r_aln F hl 0 rfl dX4_init_98 rfl ?_
  refine gf_X4_13 F B.1 0 rfl (.ref ((adr [a, q1, 0, q2, q3, q4, q5, q6, 0, q7, q8, q9, 0, 0, q10]) 3)) rfl dX4_init_99 ?_
  refine r_ic F 3 dX4_init_102 rfl ?_
  refine r_ic F 3 dX4_init_103 rfl ?_
  refine r_ast (f := upN (upN (z0 2) (0) (1)) (1) (1)) F B 2 (wM (adr [a, q1, 0, q2, q3, q4, q5, q6, 0, q7, q8, q9, 0, 0, q10]) cI (stR z0 2 (upN (upN (upN (z0 2) (0) (1)) (1) (1)) (3) (3)))) rfl dX4_init_104 (by decide) (by omega) rfl (fun H locs B => ?_)
  refine r_aln F hl 0 rfl dX4_init_105 rfl ?_
  refine gf_X4_13 F B.1 0 rfl (.ref ((adr [a, q1, 0, q2, q3, q4, q5, q6, 0, q7, q8, q9, 0, 0, q10]) 3)) rfl dX4_init_106 ?_
  refine r_ic F 4 dX4_init_109 rfl ?_
  refine r_ic F 2 dX4_init_110 rfl ?_
  refine r_ast (f := upN (upN (upN (z0 2) (0) (1)) (1) (1)) (3) (3)) F B 2 (wM (adr [a, q1, 0, q2, q3, q4, q5, q6, 0, q7, q8, q9, 0, 0, q10]) cI (stR z0 2 (upN (upN (upN (upN (z0 2) (0) (1)) (1) (1)) (3) (3)) (4) (2)))) rfl dX4_init_111 (by decide) (by omega) rfl (fun H locs B => ?_)
  refine r_aln F hl 0 rfl dX4_init_112 rfl ?_
  refine gf_X4_13 F B.1 0 rfl (.ref ((adr [a, q1, 0, q2, q3, q4, q5, q6, 0, q7, q8, q9, 0, 0, q10]) 3)) rfl dX4_init_113 ?_
  refine r_ic F 5 dX4_init_116 rfl ?_
  refine r_bp F 9 dX4_init_117 rfl ?_
  refine r_ast (f := upN (upN (upN (upN (z0 2) (0) (1)) (1) (1)) (3) (3)) (4) (2)) F B 2 (wM (adr [a, q1, 0, q2, q3, q4, q5, q6, 0, q7, q8, q9, 0, 0, q10]) cI (stR z0 2 (upN (upN (upN (upN (upN (z0 2) (0) (1)) (1) (1)) (3) (3)) (4) (2)) (5) (9)))) rfl dX4_init_119 (by decide) (by omega) rfl (fun H locs B => ?_)
  refine r_aln F hl 0 rfl dX4_init_120 rfl ?_
  refine gf_X4_13 F B.1 0 rfl (.ref ((adr [a, q1, 0, q2, q3, q4, q5, q6, 0, q7, q8, q9, 0, 0, q10]) 3)) rfl dX4_init_121 ?_
  refine r_bp F 6 dX4_init_124 rfl ?_
  refine r_ic F 1 dX4_init_126 rfl ?_
  refine r_ast (f := upN (upN (upN (upN (upN (z0 2) (0) (1)) (1) (1)) (3) (3)) (4) (2)) (5) (9)) F B 2 (wM (adr [a, q1, 0, q2, q3, q4, q5, q6, 0, q7, q8, q9, 0, 0, q10]) cI (stR z0 2 (upN (upN (upN (upN (upN (upN (z0 2) (0) (1)) (1) (1)) (3) (3)) (4) (2)) (5) (9)) (6) (1)))) rfl dX4_init_127 (by decide) (by omega) rfl (fun H locs B => ?_)
  refine r_aln F hl 0 rfl dX4_init_128 rfl ?_
  refine gf_X4_13 F B.1 0 rfl (.ref ((adr [a, q1, 0, q2, q3, q4, q5, q6, 0, q7, q8, q9, 0, 0, q10]) 3)) rfl dX4_init_129 ?_
  refine r_bp F 7 dX4_init_132 rfl ?_
  refine r_ic F 1 dX4_init_134 rfl ?_
  refine r_ast (f := upN (upN (upN (upN (upN (upN (z0 2) (0) (1)) (1) (1)) (3) (3)) (4) (2)) (5) (9)) (6) (1)) F B 2 (wM (adr [a, q1, 0, q2, q3, q4, q5, q6, 0, q7, q8, q9, 0, 0, q10]) cI (stR z0 2 (upN (upN (upN (upN (upN (upN (upN (z0 2) (0) (1)) (1) (1)) (3) (3)) (4) (2)) (5) (9)) (6) (1)) (7) (1)))) rfl dX4_init_135 (by decide) (by omega) rfl (fun H locs B => ?_)
  refine r_aln F hl 0 rfl dX4_init_136 rfl ?_
  refine gf_X4_13 F B.1 0 rfl (.ref ((adr [a, q1, 0, q2, q3, q4, q5, q6, 0, q7, q8, q9, 0, 0, q10]) 3)) rfl dX4_init_137 ?_
  refine r_bp F 8 dX4_init_140 rfl ?_
  refine r_ic F 1 dX4_init_142 rfl ?_
  refine r_ast (f := upN (upN (upN (upN (upN (upN (upN (z0 2) (0) (1)) (1) (1)) (3) (3)) (4) (2)) (5) (9)) (6) (1)) (7) (1)) F B 2 (wM (adr [a, q1, 0, q2, q3, q4, q5, q6, 0, q7, q8, q9, 0, 0, q10]) cI (stR z0 2 (upN (upN (upN (upN (upN (upN (upN (upN (z0 2) (0) (1)) (1) (1)) (3) (3)) (4) (2)) (5) (9)) (6) (1)) (7) (1)) (8) (1)))) rfl dX4_init_143 (by decide) (by omega) rfl (fun H locs B => ?_)
  refine r_aln F hl 0 rfl dX4_init_144 rfl ?_
  refine gf_X4_13 F B.1 0 rfl (.ref ((adr [a, q1, 0, q2, q3, q4, q5, q6, 0, q7, q8, q9, 0, 0, q10]) 3)) rfl dX4_init_145 ?_
  refine r_bp F 9 dX4_init_148 rfl ?_
  refine r_ic F 2 dX4_init_150 rfl ?_
  refine r_ast (f := upN (upN (upN (upN (upN (upN (upN (upN (z0 2) (0) (1)) (1) (1)) (3) (3)) (4) (2)) (5) (9)) (6) (1)) (7) (1)) (8) (1)) F B 2 (wM (adr [a, q1, 0, q2, q3, q4, q5, q6, 0, q7, q8, q9, 0, 0, q10]) cI (stR z0 2 (upN (upN (upN (upN (upN (upN (upN (upN (upN (z0 2) (0) (1)) (1) (1)) (3) (3)) (4) (2)) (5) (9)) (6) (1)) (7) (1)) (8) (1)) (9) (2)))) rfl dX4_init_151 (by decide) (by omega) rfl (fun H locs B => ?_)
  refine r_aln F hl 0 rfl dX4_init_152 rfl ?_
  refine gf_X4_13 F B.1 0 rfl (.ref ((adr [a, q1, 0, q2, q3, q4, q5, q6, 0, q7, q8, q9, 0, 0, q10]) 3)) rfl dX4_init_153 ?_
  refine r_bp F 28 dX4_init_156 rfl ?_
  refine r_ic F 2 dX4_init_158 rfl ?_
  refine r_ast (f := upN (upN (upN (upN (upN (upN (upN (upN (upN (z0 2) (0) (1)) (1) (1)) (3) (3)) (4) (2)) (5) (9)) (6) (1)) (7) (1)) (8) (1)) (9) (2)) F B 2 (wM (adr [a, q1, 0, q2, q3, q4, q5, q6, 0, q7, q8, q9, 0, 0, q10]) cI (stR z0 2 (upN (upN (upN (upN (upN (upN (upN (upN (upN (upN (z0 2) (0) (1)) (1) (1)) (3) (3)) (4) (2)) (5) (9)) (6) (1)) (7) (1)) (8) (1)) (9) (2)) (28) (2)))) rfl dX4_init_159 (by decide) (by omega) rfl (fun H locs B => ?_)
  refine r_aln F hl 0 rfl dX4_init_160 rfl ?_
  refine gf_X4_13 F B.1 0 rfl (.ref ((adr [a, q1, 0, q2, q3, q4, q5, q6, 0, q7, q8, q9, 0, 0, q10]) 3)) rfl dX4_init_161 ?_
  refine r_bp F 33 dX4_init_164 rfl ?_
  refine r_ic F 1 dX4_init_166 rfl ?_
  refine r_ast (f := upN (upN (upN (upN (upN (upN (upN (upN (upN (upN (z0 2) (0) (1)) (1) (1)) (3) (3)) (4) (2)) (5) (9)) (6) (1)) (7) (1)) (8) (1)) (9) (2)) (28) (2)) F B 2 (wM (adr [a, q1, 0, q2, q3, q4, q5, q6, 0, q7, q8, q9, 0, 0, q10]) cI (stR z0 2 (upN (upN (upN (upN (upN (upN (upN (upN (upN (upN (upN (z0 2) (0) (1)) (1) (1)) (3) (3)) (4) (2)) (5) (9)) (6) (1)) (7) (1)) (8) (1)) (9) (2)) (28) (2)) (33) (1)))) rfl dX4_init_167 (by decide) (by omega) rfl (fun H locs B => ?_)
  exact r_retI ((adr [a, q1, 0, q2, q3, q4, q5, q6, 0, q7, q8, q9, 0, 0, q10])) F hr hlk hH B dX4_init_168 rfl rfl
