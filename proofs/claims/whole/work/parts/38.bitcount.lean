abbrev rm_J6_bitCount_0f7a4 : Room := { frames := 0, cells := 0, slots := 0, locals := 0 }
set_option maxHeartbeats 4000000 in
set_option maxRecDepth 100000 in
theorem k_J6_bitCount_0f7a4 (l : Launch) (D : va_G) (cI cB : ClassId) (n : Nat) (hn : n < 32) : CtQ l yJ6_bitCount_0f7a4 cJ6_bitCount_0f7a4 1 (some .int) rm_J6_bitCount_0f7a4 D cI cB [.int (iI (n : Int))] [] (iI ((lnR n : Nat) : Int)) := by
  refine CtQ.of RJ6 (by decide) rfl (Nat.le_of_ble_eq_true rfl) ?_
  intro p e s m args below meth c H ls hH F hr hlk P hl
  rw [← bcE_ok n hn]
  have hl : lv_has ls 1 [(0, .int (iI (n : Int)))] := hl
  refine r_iln F hl 0 rfl dJ6_bitCount_0f7a4_0 rfl ?_
  refine r_iln F hl 0 rfl dJ6_bitCount_0f7a4_1 rfl ?_
  refine r_ic F 1 dJ6_bitCount_0f7a4_2 rfl ?_
  refine lv_iushr F.1.1 F.1.2.1 dJ6_bitCount_0f7a4_3 rfl ?_
  refine lv_ldcw (v := 1431655765) F.1.1 F.1.2.1 F.1.2.2.2.1 (F.1.2.2.2.2 _ kJ_265) dJ6_bitCount_0f7a4_4 ?_
  refine lv_iand F.1.1 F.1.2.1 dJ6_bitCount_0f7a4_7 ?_
  refine lv_isub F.1.1 F.1.2.1 dJ6_bitCount_0f7a4_8 ?_
  obtain ⟨x1, ex1⟩ : ∃ y : Int32, y = (iI (n : Int) - (((iI (n : Int)).toUInt32 >>> ((iI ((1 : Nat) : Int)).toUInt32 &&& Int32.toUInt32 31)).toInt32 &&& 1431655765)) := ⟨_, rfl⟩
  refine r_top x1 ex1.symm ?_
  refine r_isn (lv' := [(0, .int x1)]) F hl dJ6_bitCount_0f7a4_9 rfl (by decide) [0] rfl (fun ls hl => ?_)
  refine r_iln F hl 0 rfl dJ6_bitCount_0f7a4_10 rfl ?_
  refine lv_ldcw (v := 858993459) F.1.1 F.1.2.1 F.1.2.2.2.1 (F.1.2.2.2.2 _ kJ_266) dJ6_bitCount_0f7a4_11 ?_
  refine lv_iand F.1.1 F.1.2.1 dJ6_bitCount_0f7a4_14 ?_
  refine r_iln F hl 0 rfl dJ6_bitCount_0f7a4_15 rfl ?_
  refine r_ic F 2 dJ6_bitCount_0f7a4_16 rfl ?_
  refine lv_iushr F.1.1 F.1.2.1 dJ6_bitCount_0f7a4_17 rfl ?_
  refine lv_ldcw (v := 858993459) F.1.1 F.1.2.1 F.1.2.2.2.1 (F.1.2.2.2.2 _ kJ_266) dJ6_bitCount_0f7a4_18 ?_
  refine lv_iand F.1.1 F.1.2.1 dJ6_bitCount_0f7a4_21 ?_
  refine lv_iadd F.1.1 F.1.2.1 dJ6_bitCount_0f7a4_22 ?_
  obtain ⟨x2, ex2⟩ : ∃ y : Int32, y = ((x1 &&& 858993459) + (((x1).toUInt32 >>> ((iI ((2 : Nat) : Int)).toUInt32 &&& Int32.toUInt32 31)).toInt32 &&& 858993459)) := ⟨_, rfl⟩
  refine r_top x2 ex2.symm ?_
  refine r_isn (lv' := [(0, .int x2)]) F hl dJ6_bitCount_0f7a4_23 rfl (by decide) [0] rfl (fun ls hl => ?_)
  refine r_iln F hl 0 rfl dJ6_bitCount_0f7a4_24 rfl ?_
  refine r_iln F hl 0 rfl dJ6_bitCount_0f7a4_25 rfl ?_
  refine r_ic F 4 dJ6_bitCount_0f7a4_26 rfl ?_
  refine lv_iushr F.1.1 F.1.2.1 dJ6_bitCount_0f7a4_27 rfl ?_
  refine lv_iadd F.1.1 F.1.2.1 dJ6_bitCount_0f7a4_28 ?_
  refine lv_ldcw (v := 252645135) F.1.1 F.1.2.1 F.1.2.2.2.1 (F.1.2.2.2.2 _ kJ_267) dJ6_bitCount_0f7a4_29 ?_
  refine lv_iand F.1.1 F.1.2.1 dJ6_bitCount_0f7a4_32 ?_
  obtain ⟨x3, ex3⟩ : ∃ y : Int32, y = ((x2 + ((x2).toUInt32 >>> ((iI ((4 : Nat) : Int)).toUInt32 &&& Int32.toUInt32 31)).toInt32) &&& 252645135) := ⟨_, rfl⟩
  refine r_top x3 ex3.symm ?_
  refine r_isn (lv' := [(0, .int x3)]) F hl dJ6_bitCount_0f7a4_33 rfl (by decide) [0] rfl (fun ls hl => ?_)
  refine r_iln F hl 0 rfl dJ6_bitCount_0f7a4_34 rfl ?_
  refine r_iln F hl 0 rfl dJ6_bitCount_0f7a4_35 rfl ?_
  refine r_bp F 8 dJ6_bitCount_0f7a4_36 rfl ?_
  refine lv_iushr F.1.1 F.1.2.1 dJ6_bitCount_0f7a4_38 rfl ?_
  refine lv_iadd F.1.1 F.1.2.1 dJ6_bitCount_0f7a4_39 ?_
  obtain ⟨x4, ex4⟩ : ∃ y : Int32, y = (x3 + ((x3).toUInt32 >>> ((iI ((8 : Nat) : Int)).toUInt32 &&& Int32.toUInt32 31)).toInt32) := ⟨_, rfl⟩
  refine r_top x4 ex4.symm ?_
  refine r_isn (lv' := [(0, .int x4)]) F hl dJ6_bitCount_0f7a4_40 rfl (by decide) [0] rfl (fun ls hl => ?_)
  refine r_iln F hl 0 rfl dJ6_bitCount_0f7a4_41 rfl ?_
  refine r_iln F hl 0 rfl dJ6_bitCount_0f7a4_42 rfl ?_
  refine r_bp F 16 dJ6_bitCount_0f7a4_43 rfl ?_
  refine lv_iushr F.1.1 F.1.2.1 dJ6_bitCount_0f7a4_45 rfl ?_
  refine lv_iadd F.1.1 F.1.2.1 dJ6_bitCount_0f7a4_46 ?_
  obtain ⟨x5, ex5⟩ : ∃ y : Int32, y = (x4 + ((x4).toUInt32 >>> ((iI ((16 : Nat) : Int)).toUInt32 &&& Int32.toUInt32 31)).toInt32) := ⟨_, rfl⟩
  refine r_top x5 ex5.symm ?_
  refine r_isn (lv' := [(0, .int x5)]) F hl dJ6_bitCount_0f7a4_47 rfl (by decide) [0] rfl (fun ls hl => ?_)
  refine r_iln F hl 0 rfl dJ6_bitCount_0f7a4_48 rfl ?_
  refine r_bp F 63 dJ6_bitCount_0f7a4_49 rfl ?_
  refine lv_iand F.1.1 F.1.2.1 dJ6_bitCount_0f7a4_51 ?_
  exact r_retQ F hr hlk hH dJ6_bitCount_0f7a4_52 (by subst ex5 ex4 ex3 ex2 ex1; rfl)
