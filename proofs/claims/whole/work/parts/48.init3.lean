def adq (q0 u1 u2 u3 u4 u5 u6 u7 : Nat → Nat) : Nat → Nat → Nat := fun k => match k with
  | 0 => q0 | 1 => u1 | 2 => u2 | 3 => u3 | 4 => u4 | 5 => u5 | 6 => u6 | _ => u7
theorem tok_z0 : Tok z0 := ⟨by decide, fun _ => Nat.le_of_ble_eq_true rfl, fun _ => Nat.le_of_ble_eq_true rfl, fun _ => Nat.le_of_ble_eq_true rfl, fun _ => Nat.le_of_ble_eq_true rfl, fun _ => Nat.le_of_ble_eq_true rfl⟩
def tz0 : St := tE z0
def tz1 : St := tAP tz0 1 2
def tz2 : St := tAS tz1 0
def tz3 : St := tAS tz2 1
def tz4 : St := tET tz3
theorem tok_tz0 : Tok tz0 := tok_E tok_z0
theorem tok_tz1 : Tok tz1 := tok_AP tok_tz0 1 2
theorem tok_tz2 : Tok tz2 := tok_AS tok_tz1 0
theorem tok_tz3 : Tok tz3 := tok_AS tok_tz2 1
theorem tok_tz4 : Tok tz4 := tok_ET tok_tz3
def sz4 : St := stR (stR (stR z0 0 (fun _ => 0)) 1 (cpN (tz4 2) (z0 1) 10)) 2 (clr5 (z0 2))
/-- the class as it is made -/
def xz1 : Nat → St := fun k => match k with
  | 2 => tz4 | 3 => tz0 | 4 => sz4 | _ => z0
abbrev rm_X3_init : Room := { frames := 2, cells := 30, slots := 582, locals := 62 }
set_option maxHeartbeats 4000000 in
set_option maxRecDepth 100000 in
theorem k_X3_init (l : Launch) (D : va_G) (cI cB : ClassId) (a : Nat) : CtI l yX3_init cX3_init 1 rm_X3_init D cI cB a [(a, .inr (3, dfX3))] (fun Q : Nat → Nat → Nat => Q 0 0 = a) (fun Q => wH Q cI cB xz1) 30 582 := by
  refine CtI.of RX3 (by decide) rfl rfl (Nat.le_of_ble_eq_true rfl) ?_
  intro p e s m args below meth c H0 ls A hH hA F hr hlk hme B hl
  have hl : lv_has ls 1 [(0, .ref a)] := hl
  refine r_aln F hl 0 rfl dX3_init_0 rfl ?_
  refine r_oi F ko_X3 hl.1 (Nat.le_of_ble_eq_true rfl) (Nat.le_of_ble_eq_true rfl) dX3_init_1 ?_
  refine r_aln F hl 0 rfl dX3_init_4 rfl ?_
  refine r_nw (ci := 0) F uX0 rfl tyX0_ok kl_X3_9 kb_X0 ki_X0 hA B dfX0 dfX0_ok (Nat.le_of_ble_eq_true rfl) (Nat.le_of_ble_eq_true rfl) dX3_init_5 (fun q1 H B => ?_)
  refine r_dup F dX3_init_8 rfl ?_
  refine r_ciN F hA B (k_X0_init l D cI cB q1) kmN_X3_11 kn_X0_init ki_X0 kc_X0_init rfl (by decide +kernel) [1] rfl rfl [0] ([(a, .inr (3, [.null, .null, .null, .null, .null, .null, .null, .int (iI ((0 : Nat) : Int)), .null, .int (iI ((0 : Nat) : Int)), .null, .null]))]) rfl rfl (by decide) ⟨⟨rfl, rfl⟩, (Nat.le_of_ble_eq_true rfl), (Nat.le_of_ble_eq_true rfl)⟩ ⟨(Nat.le_of_ble_eq_true rfl), (Nat.le_of_ble_eq_true rfl)⟩ hl.1 (Nat.le_of_ble_eq_true rfl) dX3_init_9 (fun u1 H locs hp B_ => ?_)
  obtain rfl : u1 0 = q1 := hp
  have B := B_
  refine r_pfF F hme uX3 rfl tyX3_ok nmX3 0 (by decide) kf_X3_12 rfl rfl B 0 ([(a, .inr (3, [.ref (u1 0), .null, .null, .null, .null, .null, .null, .int (iI ((0 : Nat) : Int)), .null, .int (iI ((0 : Nat) : Int)), .null, .null]))] ++ wP u1 cI cB z0) rfl rfl rfl (Nat.le_of_ble_eq_true rfl) rfl dX3_init_12 (fun H locs B => ?_)
  refine r_aln F hl 0 rfl dX3_init_15 rfl ?_
  refine r_nw (ci := 2) F uX2 rfl tyX2_ok kl_X3_16 kb_X2 ki_X2 hA B dfX2 dfX2_ok (Nat.le_of_ble_eq_true rfl) (Nat.le_of_ble_eq_true rfl) dX3_init_16 (fun q2 H B => ?_)
  refine r_dup F dX3_init_19 rfl ?_
  refine r_ci F hA B (k_X2_init l D cI cB q2) km_X3_18 kn_X2_init ki_X2 kc_X2_init rfl (by decide +kernel) [4] rfl rfl [0, 1, 2, 3] ([(a, .inr (3, [.ref (u1 0), .null, .null, .null, .null, .null, .null, .int (iI ((0 : Nat) : Int)), .null, .int (iI ((0 : Nat) : Int)), .null, .null]))] ++ wP u1 cI cB z0) rfl rfl (by decide) ⟨⟨rfl, rfl⟩, (Nat.le_of_ble_eq_true rfl), (Nat.le_of_ble_eq_true rfl)⟩ ⟨(Nat.le_of_ble_eq_true rfl), (Nat.le_of_ble_eq_true rfl)⟩ hl.1 (Nat.le_of_ble_eq_true rfl) dX3_init_20 (fun u2 H locs hp B_ => ?_)
  obtain rfl : u2 0 = q2 := hp
  have B := B_
  refine pf_X3_19 F B 0 ([(a, .inr (3, [.ref (u1 0), .ref (u2 0), .null, .null, .null, .null, .null, .int (iI ((0 : Nat) : Int)), .null, .int (iI ((0 : Nat) : Int)), .null, .null]))] ++ wP u1 cI cB z0 ++ wT u2 cI tz0) rfl rfl rfl (Nat.le_of_ble_eq_true rfl) rfl dX3_init_23 (fun H locs B => ?_)
  refine r_aln F hl 0 rfl dX3_init_26 rfl ?_
  refine r_nw (ci := 2) F uX2 rfl tyX2_ok kl_X3_16 kb_X2 ki_X2 hA B dfX2 dfX2_ok (Nat.le_of_ble_eq_true rfl) (Nat.le_of_ble_eq_true rfl) dX3_init_27 (fun q3 H B => ?_)
  refine r_dup F dX3_init_30 rfl ?_
  refine r_ci F hA B (k_X2_init l D cI cB q3) km_X3_18 kn_X2_init ki_X2 kc_X2_init rfl (by decide +kernel) [10] rfl rfl [0, 1, 2, 3, 4, 5, 6, 7, 8, 9] ([(a, .inr (3, [.ref (u1 0), .ref (u2 0), .null, .null, .null, .null, .null, .int (iI ((0 : Nat) : Int)), .null, .int (iI ((0 : Nat) : Int)), .null, .null]))] ++ wP u1 cI cB z0 ++ wT u2 cI tz0) rfl rfl (by decide) ⟨⟨rfl, rfl⟩, (Nat.le_of_ble_eq_true rfl), (Nat.le_of_ble_eq_true rfl)⟩ ⟨(Nat.le_of_ble_eq_true rfl), (Nat.le_of_ble_eq_true rfl)⟩ hl.1 (Nat.le_of_ble_eq_true rfl) dX3_init_31 (fun u3 H locs hp B_ => ?_)
  obtain rfl : u3 0 = q3 := hp
  have B := B_
  refine pf_X3_23 F B 0 ([(a, .inr (3, [.ref (u1 0), .ref (u2 0), .ref (u3 0), .null, .null, .null, .null, .int (iI ((0 : Nat) : Int)), .null, .int (iI ((0 : Nat) : Int)), .null, .null]))] ++ wP u1 cI cB z0 ++ wT u2 cI tz0 ++ wT u3 cI tz0) rfl rfl rfl (Nat.le_of_ble_eq_true rfl) rfl dX3_init_34 (fun H locs B => ?_)
  refine r_aln F hl 0 rfl dX3_init_37 rfl ?_
  refine r_nw (ci := 1) F uX1 rfl tyX1_ok kl_X3_26 kb_X1 ki_X1 hA B dfX1 dfX1_ok (Nat.le_of_ble_eq_true rfl) (Nat.le_of_ble_eq_true rfl) dX3_init_38 (fun q4 H B => ?_)
  refine r_dup F dX3_init_41 rfl ?_
  refine r_ciN F hA B (k_X1_init l D cI cB q4) kmN_X3_28 kn_X1_init ki_X1 kc_X1_init rfl (by decide +kernel) [16] rfl rfl [0, 1, 2, 3, 4, 5, 6, 7, 8, 9, 10, 11, 12, 13, 14, 15] ([(a, .inr (3, [.ref (u1 0), .ref (u2 0), .ref (u3 0), .null, .null, .null, .null, .int (iI ((0 : Nat) : Int)), .null, .int (iI ((0 : Nat) : Int)), .null, .null]))] ++ wP u1 cI cB z0 ++ wT u2 cI tz0 ++ wT u3 cI tz0) rfl rfl (by decide) ⟨⟨rfl, rfl⟩, (Nat.le_of_ble_eq_true rfl), (Nat.le_of_ble_eq_true rfl)⟩ ⟨(Nat.le_of_ble_eq_true rfl), (Nat.le_of_ble_eq_true rfl)⟩ hl.1 (Nat.le_of_ble_eq_true rfl) dX3_init_42 (fun u4 H locs hp B_ => ?_)
  obtain rfl : u4 0 = q4 := hp
  have B := B_
  refine r_pfF F hme uX3 rfl tyX3_ok nmX3 3 (by decide) kf_X3_29 rfl rfl B 0 ([(a, .inr (3, [.ref (u1 0), .ref (u2 0), .ref (u3 0), .ref (u4 0), .null, .null, .null, .int (iI ((0 : Nat) : Int)), .null, .int (iI ((0 : Nat) : Int)), .null, .null]))] ++ wP u1 cI cB z0 ++ wT u2 cI tz0 ++ wT u3 cI tz0 ++ wS u4 cI z0) rfl rfl rfl (Nat.le_of_ble_eq_true rfl) rfl dX3_init_45 (fun H locs B => ?_)
  refine r_aln F hl 0 rfl dX3_init_48 rfl ?_
  refine r_nw (ci := 1) F uX1 rfl tyX1_ok kl_X3_26 kb_X1 ki_X1 hA B dfX1 dfX1_ok (Nat.le_of_ble_eq_true rfl) (Nat.le_of_ble_eq_true rfl) dX3_init_49 (fun q5 H B => ?_)
  refine r_dup F dX3_init_52 rfl ?_
  refine r_ciN F hA B (k_X1_init l D cI cB q5) kmN_X3_28 kn_X1_init ki_X1 kc_X1_init rfl (by decide +kernel) [19] rfl rfl [0, 1, 2, 3, 4, 5, 6, 7, 8, 9, 10, 11, 12, 13, 14, 15, 16, 17, 18] ([(a, .inr (3, [.ref (u1 0), .ref (u2 0), .ref (u3 0), .ref (u4 0), .null, .null, .null, .int (iI ((0 : Nat) : Int)), .null, .int (iI ((0 : Nat) : Int)), .null, .null]))] ++ wP u1 cI cB z0 ++ wT u2 cI tz0 ++ wT u3 cI tz0 ++ wS u4 cI z0) rfl rfl (by decide) ⟨⟨rfl, rfl⟩, (Nat.le_of_ble_eq_true rfl), (Nat.le_of_ble_eq_true rfl)⟩ ⟨(Nat.le_of_ble_eq_true rfl), (Nat.le_of_ble_eq_true rfl)⟩ hl.1 (Nat.le_of_ble_eq_true rfl) dX3_init_53 (fun u5 H locs hp B_ => ?_)
  obtain rfl : u5 0 = q5 := hp
  have B := B_
  refine r_pfF F hme uX3 rfl tyX3_ok nmX3 4 (by decide) kf_X3_33 rfl rfl B 0 ([(a, .inr (3, [.ref (u1 0), .ref (u2 0), .ref (u3 0), .ref (u4 0), .ref (u5 0), .null, .null, .int (iI ((0 : Nat) : Int)), .null, .int (iI ((0 : Nat) : Int)), .null, .null]))] ++ wP u1 cI cB z0 ++ wT u2 cI tz0 ++ wT u3 cI tz0 ++ wS u4 cI z0 ++ wS u5 cI z0) rfl rfl rfl (Nat.le_of_ble_eq_true rfl) rfl dX3_init_56 (fun H locs B => ?_)
  refine r_aln F hl 0 rfl dX3_init_59 rfl ?_
  refine r_nw (ci := 1) F uX1 rfl tyX1_ok kl_X3_26 kb_X1 ki_X1 hA B dfX1 dfX1_ok (Nat.le_of_ble_eq_true rfl) (Nat.le_of_ble_eq_true rfl) dX3_init_60 (fun q6 H B => ?_)
  refine r_dup F dX3_init_63 rfl ?_
  refine r_ciN F hA B (k_X1_init l D cI cB q6) kmN_X3_28 kn_X1_init ki_X1 kc_X1_init rfl (by decide +kernel) [22] rfl rfl [0, 1, 2, 3, 4, 5, 6, 7, 8, 9, 10, 11, 12, 13, 14, 15, 16, 17, 18, 19, 20, 21] ([(a, .inr (3, [.ref (u1 0), .ref (u2 0), .ref (u3 0), .ref (u4 0), .ref (u5 0), .null, .null, .int (iI ((0 : Nat) : Int)), .null, .int (iI ((0 : Nat) : Int)), .null, .null]))] ++ wP u1 cI cB z0 ++ wT u2 cI tz0 ++ wT u3 cI tz0 ++ wS u4 cI z0 ++ wS u5 cI z0) rfl rfl (by decide) ⟨⟨rfl, rfl⟩, (Nat.le_of_ble_eq_true rfl), (Nat.le_of_ble_eq_true rfl)⟩ ⟨(Nat.le_of_ble_eq_true rfl), (Nat.le_of_ble_eq_true rfl)⟩ hl.1 (Nat.le_of_ble_eq_true rfl) dX3_init_64 (fun u6 H locs hp B_ => ?_)
  obtain rfl : u6 0 = q6 := hp
  have B := B_
  refine r_pfF F hme uX3 rfl tyX3_ok nmX3 5 (by decide) kf_X3_36 rfl rfl B 0 ([(a, .inr (3, [.ref (u1 0), .ref (u2 0), .ref (u3 0), .ref (u4 0), .ref (u5 0), .ref (u6 0), .null, .int (iI ((0 : Nat) : Int)), .null, .int (iI ((0 : Nat) : Int)), .null, .null]))] ++ wP u1 cI cB z0 ++ wT u2 cI tz0 ++ wT u3 cI tz0 ++ wS u4 cI z0 ++ wS u5 cI z0 ++ wS u6 cI z0) rfl rfl rfl (Nat.le_of_ble_eq_true rfl) rfl dX3_init_67 (fun H locs B => ?_)
  refine r_aln F hl 0 rfl dX3_init_70 rfl ?_
  refine r_nw (ci := 1) F uX1 rfl tyX1_ok kl_X3_26 kb_X1 ki_X1 hA B dfX1 dfX1_ok (Nat.le_of_ble_eq_true rfl) (Nat.le_of_ble_eq_true rfl) dX3_init_71 (fun q7 H B => ?_)
  refine r_dup F dX3_init_74 rfl ?_
  refine r_ciN F hA B (k_X1_init l D cI cB q7) kmN_X3_28 kn_X1_init ki_X1 kc_X1_init rfl (by decide +kernel) [25] rfl rfl [0, 1, 2, 3, 4, 5, 6, 7, 8, 9, 10, 11, 12, 13, 14, 15, 16, 17, 18, 19, 20, 21, 22, 23, 24] ([(a, .inr (3, [.ref (u1 0), .ref (u2 0), .ref (u3 0), .ref (u4 0), .ref (u5 0), .ref (u6 0), .null, .int (iI ((0 : Nat) : Int)), .null, .int (iI ((0 : Nat) : Int)), .null, .null]))] ++ wP u1 cI cB z0 ++ wT u2 cI tz0 ++ wT u3 cI tz0 ++ wS u4 cI z0 ++ wS u5 cI z0 ++ wS u6 cI z0) rfl rfl (by decide) ⟨⟨rfl, rfl⟩, (Nat.le_of_ble_eq_true rfl), (Nat.le_of_ble_eq_true rfl)⟩ ⟨(Nat.le_of_ble_eq_true rfl), (Nat.le_of_ble_eq_true rfl)⟩ hl.1 (Nat.le_of_ble_eq_true rfl) dX3_init_75 (fun u7 H locs hp B_ => ?_)
  obtain rfl : u7 0 = q7 := hp
  have B := B_
  refine r_pfF F hme uX3 rfl tyX3_ok nmX3 6 (by decide) kf_X3_39 rfl rfl B 0 ([(a, .inr (3, [.ref (u1 0), .ref (u2 0), .ref (u3 0), .ref (u4 0), .ref (u5 0), .ref (u6 0), .ref (u7 0), .int (iI ((0 : Nat) : Int)), .null, .int (iI ((0 : Nat) : Int)), .null, .null]))] ++ wP u1 cI cB z0 ++ wT u2 cI tz0 ++ wT u3 cI tz0 ++ wS u4 cI z0 ++ wS u5 cI z0 ++ wS u6 cI z0 ++ wS u7 cI z0) rfl rfl rfl (Nat.le_of_ble_eq_true rfl) rfl dX3_init_78 (fun H locs B => ?_)
  refine r_aln F hl 0 rfl dX3_init_81 rfl ?_
  refine r_bp F 10 dX3_init_82 rfl ?_
  refine r_nwI 10 F hA B (by decide) (Nat.le_of_ble_eq_true rfl) (Nat.le_of_ble_eq_true rfl) dX3_init_84 (fun q8 H B => ?_)
  refine r_pfF F hme uX3 rfl tyX3_ok nmX3 8 (by decide) kf_X3_42 rfl rfl B 0 ([(a, .inr (3, [.ref (u1 0), .ref (u2 0), .ref (u3 0), .ref (u4 0), .ref (u5 0), .ref (u6 0), .ref (u7 0), .int (iI ((0 : Nat) : Int)), .ref q8, .int (iI ((0 : Nat) : Int)), .null, .null]))] ++ wP u1 cI cB z0 ++ wT u2 cI tz0 ++ wT u3 cI tz0 ++ wS u4 cI z0 ++ wS u5 cI z0 ++ wS u6 cI z0 ++ wS u7 cI z0 ++ [(q8, aI cI 10 (fun _ => 0))]) rfl rfl rfl (Nat.le_of_ble_eq_true rfl) rfl dX3_init_86 (fun H locs B => ?_)
  refine r_aln F hl 0 rfl dX3_init_89 rfl ?_
  refine r_bp F 10 dX3_init_90 rfl ?_
  refine r_nwI 10 F hA B (by decide) (Nat.le_of_ble_eq_true rfl) (Nat.le_of_ble_eq_true rfl) dX3_init_92 (fun q9 H B => ?_)
  refine r_pfF F hme uX3 rfl tyX3_ok nmX3 10 (by decide) kf_X3_46 rfl rfl B 0 ([(a, .inr (3, [.ref (u1 0), .ref (u2 0), .ref (u3 0), .ref (u4 0), .ref (u5 0), .ref (u6 0), .ref (u7 0), .int (iI ((0 : Nat) : Int)), .ref q8, .int (iI ((0 : Nat) : Int)), .ref q9, .null]))] ++ wP u1 cI cB z0 ++ wT u2 cI tz0 ++ wT u3 cI tz0 ++ wS u4 cI z0 ++ wS u5 cI z0 ++ wS u6 cI z0 ++ wS u7 cI z0 ++ [(q8, aI cI 10 (fun _ => 0))] ++ [(q9, aI cI 10 (fun _ => 0))]) rfl rfl rfl (Nat.le_of_ble_eq_true rfl) rfl dX3_init_94 (fun H locs B => ?_)
  refine r_aln F hl 0 rfl dX3_init_97 rfl ?_
  refine r_bp F 10 dX3_init_98 rfl ?_
  refine r_nwI 10 F hA B (by decide) (Nat.le_of_ble_eq_true rfl) (Nat.le_of_ble_eq_true rfl) dX3_init_100 (fun q10 H B => ?_)
  refine r_pfF F hme uX3 rfl tyX3_ok nmX3 11 (by decide) kf_X3_49 rfl rfl B 0 ([(a, .inr (3, [.ref (u1 0), .ref (u2 0), .ref (u3 0), .ref (u4 0), .ref (u5 0), .ref (u6 0), .ref (u7 0), .int (iI ((0 : Nat) : Int)), .ref q8, .int (iI ((0 : Nat) : Int)), .ref q9, .ref q10]))] ++ wP u1 cI cB z0 ++ wT u2 cI tz0 ++ wT u3 cI tz0 ++ wS u4 cI z0 ++ wS u5 cI z0 ++ wS u6 cI z0 ++ wS u7 cI z0 ++ [(q8, aI cI 10 (fun _ => 0))] ++ [(q9, aI cI 10 (fun _ => 0))] ++ [(q10, aI cI 10 (fun _ => 0))]) rfl rfl rfl (Nat.le_of_ble_eq_true rfl) rfl dX3_init_102 (fun H locs B => ?_)
  have B := bx_perm B [0, 28, 29, 30, 1, 2, 3, 4, 5, 6, 7, 8, 9, 10, 11, 12, 13, 14, 15, 16, 17, 18, 19, 20, 21, 22, 23, 24, 25, 26, 27] (ws' := wO (adr [a, 0, 0, 0, 0, 0, 0, 0, 0, q8, 0, q9, q10]) (u1 0) (u2 0) (u3 0) (u4 0) (u5 0) (u6 0) (u7 0) cI z0 ++ wP u1 cI cB z0 ++ wT u2 cI tz0 ++ wT u3 cI tz0 ++ wS u4 cI z0 ++ wS u5 cI z0 ++ wS u6 cI z0 ++ wS u7 cI z0) rfl (by decide)
  refine r_aln F hl 0 rfl dX3_init_105 rfl ?_
  refine gf_X3_19 F B.1 0 rfl (.ref (u2 0)) rfl dX3_init_106 ?_
  refine r_ic F 1 dX3_init_109 rfl ?_
  refine r_ic F 2 dX3_init_110 rfl ?_
  refine r_cu (r := iI ((Bool.toNat (vAP (tz0 0 0) 1 2) : Nat) : Int)) F hA B (k_X2_addPerson l D cI cB u2 tz0 1 2 (by decide) tok_tz0) gw_X3_52 [7, 8, 9, 10, 11, 12] rfl rfl [0, 1, 2, 3, 4, 5, 6, 13, 14, 15, 16, 17, 18, 19, 20, 21, 22, 23, 24, 25, 26, 27, 28, 29, 30] (wO (adr [a, 0, 0, 0, 0, 0, 0, 0, 0, q8, 0, q9, q10]) (u1 0) (u2 0) (u3 0) (u4 0) (u5 0) (u6 0) (u7 0) cI z0 ++ wP u1 cI cB z0 ++ wT u3 cI tz0 ++ wS u4 cI z0 ++ wS u5 cI z0 ++ wS u6 cI z0 ++ wS u7 cI z0) rfl rfl (by decide) [0, 1, 2, 3, 4, 5, 6, 25, 26, 27, 28, 29, 30, 7, 8, 9, 10, 11, 12, 13, 14, 15, 16, 17, 18, 19, 20, 21, 22, 23, 24] (wO (adr [a, 0, 0, 0, 0, 0, 0, 0, 0, q8, 0, q9, q10]) (u1 0) (u2 0) (u3 0) (u4 0) (u5 0) (u6 0) (u7 0) cI z0 ++ wP u1 cI cB z0 ++ wT u2 cI tz1 ++ wT u3 cI tz0 ++ wS u4 cI z0 ++ wS u5 cI z0 ++ wS u6 cI z0 ++ wS u7 cI z0) rfl rfl rfl rfl ⟨⟨rfl, rfl⟩, Nat.le_of_ble_eq_true rfl, Nat.le_of_ble_eq_true rfl⟩ ⟨Nat.le_of_ble_eq_true rfl, Nat.le_of_ble_eq_true rfl⟩ hl.1 rfl [] rfl (Nat.le_of_ble_eq_true rfl) dX3_init_111 (fun H locs B => ?_)
  refine r_pop F dX3_init_114 rfl ?_
  refine r_aln F hl 0 rfl dX3_init_115 rfl ?_
  refine gf_X3_19 F B.1 0 rfl (.ref (u2 0)) rfl dX3_init_116 ?_
  refine r_icz F 0 dX3_init_119 rfl ?_
  refine r_cu (r := iI ((Bool.toNat (vAS (tz1 3 0) (tz1 6 0) 0) : Nat) : Int)) F hA B (k_X2_addStep l D cI cB u2 tz1 0 (by decide) tok_tz1) gw_X3_56 [7, 8, 9, 10, 11, 12] rfl rfl [0, 1, 2, 3, 4, 5, 6, 13, 14, 15, 16, 17, 18, 19, 20, 21, 22, 23, 24, 25, 26, 27, 28, 29, 30] (wO (adr [a, 0, 0, 0, 0, 0, 0, 0, 0, q8, 0, q9, q10]) (u1 0) (u2 0) (u3 0) (u4 0) (u5 0) (u6 0) (u7 0) cI z0 ++ wP u1 cI cB z0 ++ wT u3 cI tz0 ++ wS u4 cI z0 ++ wS u5 cI z0 ++ wS u6 cI z0 ++ wS u7 cI z0) rfl rfl (by decide) [0, 1, 2, 3, 4, 5, 6, 25, 26, 27, 28, 29, 30, 7, 8, 9, 10, 11, 12, 13, 14, 15, 16, 17, 18, 19, 20, 21, 22, 23, 24] (wO (adr [a, 0, 0, 0, 0, 0, 0, 0, 0, q8, 0, q9, q10]) (u1 0) (u2 0) (u3 0) (u4 0) (u5 0) (u6 0) (u7 0) cI z0 ++ wP u1 cI cB z0 ++ wT u2 cI tz2 ++ wT u3 cI tz0 ++ wS u4 cI z0 ++ wS u5 cI z0 ++ wS u6 cI z0 ++ wS u7 cI z0) rfl rfl rfl rfl ⟨⟨rfl, rfl⟩, Nat.le_of_ble_eq_true rfl, Nat.le_of_ble_eq_true rfl⟩ ⟨Nat.le_of_ble_eq_true rfl, Nat.le_of_ble_eq_true rfl⟩ hl.1 rfl [] rfl (Nat.le_of_ble_eq_true rfl) dX3_init_120 (fun H locs B => ?_)
  refine r_pop F dX3_init_123 rfl ?_
  refine r_aln F hl 0 rfl dX3_init_124 rfl ?_
  refine gf_X3_19 F B.1 0 rfl (.ref (u2 0)) rfl dX3_init_125 ?_
  refine r_icz F 1 dX3_init_128 rfl ?_
  refine r_cu (r := iI ((Bool.toNat (vAS (tz2 3 0) (tz2 6 0) 1) : Nat) : Int)) F hA B (k_X2_addStep l D cI cB u2 tz2 1 (by decide) tok_tz2) gw_X3_56 [7, 8, 9, 10, 11, 12] rfl rfl [0, 1, 2, 3, 4, 5, 6, 13, 14, 15, 16, 17, 18, 19, 20, 21, 22, 23, 24, 25, 26, 27, 28, 29, 30] (wO (adr [a, 0, 0, 0, 0, 0, 0, 0, 0, q8, 0, q9, q10]) (u1 0) (u2 0) (u3 0) (u4 0) (u5 0) (u6 0) (u7 0) cI z0 ++ wP u1 cI cB z0 ++ wT u3 cI tz0 ++ wS u4 cI z0 ++ wS u5 cI z0 ++ wS u6 cI z0 ++ wS u7 cI z0) rfl rfl (by decide) [0, 1, 2, 3, 4, 5, 6, 25, 26, 27, 28, 29, 30, 7, 8, 9, 10, 11, 12, 13, 14, 15, 16, 17, 18, 19, 20, 21, 22, 23, 24] (wO (adr [a, 0, 0, 0, 0, 0, 0, 0, 0, q8, 0, q9, q10]) (u1 0) (u2 0) (u3 0) (u4 0) (u5 0) (u6 0) (u7 0) cI z0 ++ wP u1 cI cB z0 ++ wT u2 cI tz3 ++ wT u3 cI tz0 ++ wS u4 cI z0 ++ wS u5 cI z0 ++ wS u6 cI z0 ++ wS u7 cI z0) rfl rfl rfl rfl ⟨⟨rfl, rfl⟩, Nat.le_of_ble_eq_true rfl, Nat.le_of_ble_eq_true rfl⟩ ⟨Nat.le_of_ble_eq_true rfl, Nat.le_of_ble_eq_true rfl⟩ hl.1 rfl [] rfl (Nat.le_of_ble_eq_true rfl) dX3_init_129 (fun H locs B => ?_)
  refine r_pop F dX3_init_132 rfl ?_
  refine r_aln F hl 0 rfl dX3_init_133 rfl ?_
  refine gf_X3_19 F B.1 0 rfl (.ref (u2 0)) rfl dX3_init_134 ?_
  refine r_cu (r := iI ((Bool.toNat (vET (tz3 3 0) (tz3 6 0)) : Nat) : Int)) F hA B (k_X2_endTrade l D cI cB u2 tz3 tok_tz3) gw_X3_60 [7, 8, 9, 10, 11, 12] rfl rfl [0, 1, 2, 3, 4, 5, 6, 13, 14, 15, 16, 17, 18, 19, 20, 21, 22, 23, 24, 25, 26, 27, 28, 29, 30] (wO (adr [a, 0, 0, 0, 0, 0, 0, 0, 0, q8, 0, q9, q10]) (u1 0) (u2 0) (u3 0) (u4 0) (u5 0) (u6 0) (u7 0) cI z0 ++ wP u1 cI cB z0 ++ wT u3 cI tz0 ++ wS u4 cI z0 ++ wS u5 cI z0 ++ wS u6 cI z0 ++ wS u7 cI z0) rfl rfl (by decide) [0, 1, 2, 3, 4, 5, 6, 25, 26, 27, 28, 29, 30, 7, 8, 9, 10, 11, 12, 13, 14, 15, 16, 17, 18, 19, 20, 21, 22, 23, 24] (wO (adr [a, 0, 0, 0, 0, 0, 0, 0, 0, q8, 0, q9, q10]) (u1 0) (u2 0) (u3 0) (u4 0) (u5 0) (u6 0) (u7 0) cI z0 ++ wP u1 cI cB z0 ++ wT u2 cI tz4 ++ wT u3 cI tz0 ++ wS u4 cI z0 ++ wS u5 cI z0 ++ wS u6 cI z0 ++ wS u7 cI z0) rfl rfl rfl rfl ⟨⟨rfl, rfl⟩, Nat.le_of_ble_eq_true rfl, Nat.le_of_ble_eq_true rfl⟩ ⟨Nat.le_of_ble_eq_true rfl, Nat.le_of_ble_eq_true rfl⟩ hl.1 rfl [] rfl (Nat.le_of_ble_eq_true rfl) dX3_init_137 (fun H locs B => ?_)
  refine r_pop F dX3_init_140 rfl ?_
  refine r_aln F hl 0 rfl dX3_init_141 rfl ?_
  refine gf_X3_29 F B.1 0 rfl (.ref (u4 0)) rfl dX3_init_142 ?_
  refine r_aln F hl 0 rfl dX3_init_145 rfl ?_
  refine gf_X3_19 F B.1 0 rfl (.ref (u2 0)) rfl dX3_init_146 ?_
  refine r_cv F hA B (k_X1_startFrom l D cI cB u4 z0 u2 tz4) gw_X3_64 [19, 20, 21, 7, 8, 9, 10, 11, 12] rfl rfl [0, 1, 2, 3, 4, 5, 6, 13, 14, 15, 16, 17, 18, 22, 23, 24, 25, 26, 27, 28, 29, 30] (wO (adr [a, 0, 0, 0, 0, 0, 0, 0, 0, q8, 0, q9, q10]) (u1 0) (u2 0) (u3 0) (u4 0) (u5 0) (u6 0) (u7 0) cI z0 ++ wP u1 cI cB z0 ++ wT u3 cI tz0 ++ wS u5 cI z0 ++ wS u6 cI z0 ++ wS u7 cI z0) rfl rfl (by decide) [0, 1, 2, 3, 4, 5, 6, 25, 26, 27, 28, 29, 30, 7, 8, 9, 10, 11, 12, 22, 23, 24, 13, 14, 15, 16, 17, 18, 19, 20, 21] (wO (adr [a, 0, 0, 0, 0, 0, 0, 0, 0, q8, 0, q9, q10]) (u1 0) (u2 0) (u3 0) (u4 0) (u5 0) (u6 0) (u7 0) cI z0 ++ wP u1 cI cB z0 ++ wT u2 cI tz4 ++ wT u3 cI tz0 ++ wS u4 cI sz4 ++ wS u5 cI z0 ++ wS u6 cI z0 ++ wS u7 cI z0) rfl rfl rfl rfl ⟨⟨rfl, rfl⟩, Nat.le_of_ble_eq_true rfl, Nat.le_of_ble_eq_true rfl⟩ ⟨Nat.le_of_ble_eq_true rfl, Nat.le_of_ble_eq_true rfl⟩ hl.1 rfl [] rfl (Nat.le_of_ble_eq_true rfl) dX3_init_149 (fun H locs B => ?_)
  exact r_retI (adq (adr [a, 0, 0, 0, 0, 0, 0, 0, 0, q8, 0, q9, q10]) u1 u2 u3 u4 u5 u6 u7) F hr hlk hH B dX3_init_152 rfl rfl
