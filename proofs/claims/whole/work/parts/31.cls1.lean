abbrev rm_X3_isHalf : Room := { frames := 0, cells := 0, slots := 0, locals := 0 }
set_option maxHeartbeats 4000000 in
set_option maxRecDepth 100000 in
theorem k_X3_isHalf (l : Launch) (D : va_G) (cI cB : ClassId) (d : Int) (hv : (-2147483648 ≤ d ∧ d < 2147483648)) : CtQ l yX3_isHalf cX3_isHalf 1 (some .boolean) rm_X3_isHalf D cI cB [.int (iI (d))] ([]) ((iI ((Bool.toNat (isIn d 0 1) : Nat) : Int))) := by
  refine CtQ.of RX3 (by decide) rfl (Nat.le_of_ble_eq_true rfl) ?_
  intro p e s m args below meth c H ls hH F hr hlk P hl
  have hl : lv_has ls 1 [(0, .int (iI (d)))] := hl
  refine r_iln F hl 0 rfl dX3_isHalf_0 rfl ?_
  refine r_zeqz (a := d) 9 F dX3_isHalf_1 (by decide) (by omega) (fun c_1 => ?_) (fun c_1 => ?_)
  · refine r_icb F true dX3_isHalf_9 rfl ?_
    refine r_goto 14 F dX3_isHalf_10 (by decide) ?_
    exact r_retQb F hr hlk hH dX3_isHalf_14 (by rw [show isIn d 0 1 = true from decide_eq_true (by omega)])
  · refine r_iln F hl 0 rfl dX3_isHalf_4 rfl ?_
    refine r_ic F 1 dX3_isHalf_5 rfl ?_
    refine r_cnez (a := d) (b := (1 : Int)) 13 F dX3_isHalf_6 (by decide) (by omega) (fun c_2 => ?_) (fun c_2 => ?_)
    · refine r_icb F false dX3_isHalf_13 rfl ?_
      exact r_retQb F hr hlk hH dX3_isHalf_14 (by rw [show isIn d 0 1 = false from decide_eq_false (by omega)])
    · refine r_icb F true dX3_isHalf_9 rfl ?_
      refine r_goto 14 F dX3_isHalf_10 (by decide) ?_
      exact r_retQb F hr hlk hH dX3_isHalf_14 (by rw [show isIn d 0 1 = true from decide_eq_true (by omega)])
abbrev rm_X3_isFact : Room := { frames := 0, cells := 0, slots := 0, locals := 0 }
set_option maxHeartbeats 4000000 in
set_option maxRecDepth 100000 in
theorem k_X3_isFact (l : Launch) (D : va_G) (cI cB : ClassId) (f : Int) (hv : (-2147483648 ≤ f ∧ f < 2147483648)) : CtQ l yX3_isFact cX3_isFact 1 (some .boolean) rm_X3_isFact D cI cB [.int (iI (f))] ([]) ((iI ((Bool.toNat (isIn f 0 7) : Nat) : Int))) := by
  refine CtQ.of RX3 (by decide) rfl (Nat.le_of_ble_eq_true rfl) ?_
  intro p e s m args below meth c H ls hH F hr hlk P hl
  have hl : lv_has ls 1 [(0, .int (iI (f)))] := hl
  refine r_iln F hl 0 rfl dX3_isFact_0 rfl ?_
  refine r_zltz (a := f) 14 F dX3_isFact_1 (by decide) (by omega) (fun c_1 => ?_) (fun c_1 => ?_)
  · refine r_icb F false dX3_isFact_14 rfl ?_
    exact r_retQb F hr hlk hH dX3_isFact_15 (by rw [show isIn f 0 7 = false from decide_eq_false (by omega)])
  · refine r_iln F hl 0 rfl dX3_isFact_4 rfl ?_
    refine r_bp F 8 dX3_isFact_5 rfl ?_
    refine r_cgez (a := f) (b := (8 : Int)) 14 F dX3_isFact_7 (by decide) (by omega) (fun c_2 => ?_) (fun c_2 => ?_)
    · refine r_icb F false dX3_isFact_14 rfl ?_
      exact r_retQb F hr hlk hH dX3_isFact_15 (by rw [show isIn f 0 7 = false from decide_eq_false (by omega)])
    · refine r_icb F true dX3_isFact_10 rfl ?_
      refine r_goto 15 F dX3_isFact_11 (by decide) ?_
      exact r_retQb F hr hlk hH dX3_isFact_15 (by rw [show isIn f 0 7 = true from decide_eq_true (by omega)])
abbrev rm_X3_areFacts : Room := { frames := 0, cells := 0, slots := 0, locals := 0 }
set_option maxHeartbeats 4000000 in
set_option maxRecDepth 100000 in
theorem k_X3_areFacts (l : Launch) (D : va_G) (cI cB : ClassId) (f : Int) (hv : (-2147483648 ≤ f ∧ f < 2147483648)) : CtQ l yX3_areFacts cX3_areFacts 1 (some .boolean) rm_X3_areFacts D cI cB [.int (iI (f))] ([]) ((iI ((Bool.toNat (isIn f 0 255) : Nat) : Int))) := by
  refine CtQ.of RX3 (by decide) rfl (Nat.le_of_ble_eq_true rfl) ?_
  intro p e s m args below meth c H ls hH F hr hlk P hl
  have hl : lv_has ls 1 [(0, .int (iI (f)))] := hl
  refine r_iln F hl 0 rfl dX3_areFacts_0 rfl ?_
  refine r_zltz (a := f) 15 F dX3_areFacts_1 (by decide) (by omega) (fun c_1 => ?_) (fun c_1 => ?_)
  · refine r_icb F false dX3_areFacts_15 rfl ?_
    exact r_retQb F hr hlk hH dX3_areFacts_16 (by rw [show isIn f 0 255 = false from decide_eq_false (by omega)])
  · refine r_iln F hl 0 rfl dX3_areFacts_4 rfl ?_
    refine r_sp F 255 dX3_areFacts_5 rfl ?_
    refine r_cgtz (a := f) (b := (255 : Int)) 15 F dX3_areFacts_8 (by decide) (by omega) (fun c_2 => ?_) (fun c_2 => ?_)
    · refine r_icb F false dX3_areFacts_15 rfl ?_
      exact r_retQb F hr hlk hH dX3_areFacts_16 (by rw [show isIn f 0 255 = false from decide_eq_false (by omega)])
    · refine r_icb F true dX3_areFacts_11 rfl ?_
      refine r_goto 16 F dX3_areFacts_12 (by decide) ?_
      exact r_retQb F hr hlk hH dX3_areFacts_16 (by rw [show isIn f 0 255 = true from decide_eq_true (by omega)])
abbrev rm_X3_isAhead : Room := { frames := 0, cells := 0, slots := 0, locals := 0 }
set_option maxHeartbeats 4000000 in
set_option maxRecDepth 100000 in
theorem k_X3_isAhead (l : Launch) (D : va_G) (cI cB : ClassId) (n : Int) (hv : (-2147483648 ≤ n ∧ n < 2147483648)) : CtQ l yX3_isAhead cX3_isAhead 1 (some .boolean) rm_X3_isAhead D cI cB [.int (iI (n))] ([]) ((iI ((Bool.toNat (isIn n 0 40) : Nat) : Int))) := by
  refine CtQ.of RX3 (by decide) rfl (Nat.le_of_ble_eq_true rfl) ?_
  intro p e s m args below meth c H ls hH F hr hlk P hl
  have hl : lv_has ls 1 [(0, .int (iI (n)))] := hl
  refine r_iln F hl 0 rfl dX3_isAhead_0 rfl ?_
  refine r_zltz (a := n) 14 F dX3_isAhead_1 (by decide) (by omega) (fun c_1 => ?_) (fun c_1 => ?_)
  · refine r_icb F false dX3_isAhead_14 rfl ?_
    exact r_retQb F hr hlk hH dX3_isAhead_15 (by rw [show isIn n 0 40 = false from decide_eq_false (by omega)])
  · refine r_iln F hl 0 rfl dX3_isAhead_4 rfl ?_
    refine r_bp F 40 dX3_isAhead_5 rfl ?_
    refine r_cgtz (a := n) (b := (40 : Int)) 14 F dX3_isAhead_7 (by decide) (by omega) (fun c_2 => ?_) (fun c_2 => ?_)
    · refine r_icb F false dX3_isAhead_14 rfl ?_
      exact r_retQb F hr hlk hH dX3_isAhead_15 (by rw [show isIn n 0 40 = false from decide_eq_false (by omega)])
    · refine r_icb F true dX3_isAhead_10 rfl ?_
      refine r_goto 15 F dX3_isAhead_11 (by decide) ?_
      exact r_retQb F hr hlk hH dX3_isAhead_15 (by rw [show isIn n 0 40 = true from decide_eq_true (by omega)])
abbrev rm_X3_isTake : Room := { frames := 0, cells := 0, slots := 0, locals := 0 }
set_option maxHeartbeats 4000000 in
set_option maxRecDepth 100000 in
theorem k_X3_isTake (l : Launch) (D : va_G) (cI cB : ClassId) (x : Int) (hv : (-2147483648 ≤ x ∧ x < 2147483648)) : CtQ l yX3_isTake cX3_isTake 1 (some .boolean) rm_X3_isTake D cI cB [.int (iI (x))] ([]) ((iI ((Bool.toNat (isIn x 0 9) : Nat) : Int))) := by
  refine CtQ.of RX3 (by decide) rfl (Nat.le_of_ble_eq_true rfl) ?_
  intro p e s m args below meth c H ls hH F hr hlk P hl
  have hl : lv_has ls 1 [(0, .int (iI (x)))] := hl
  refine r_iln F hl 0 rfl dX3_isTake_0 rfl ?_
  refine r_zltz (a := x) 14 F dX3_isTake_1 (by decide) (by omega) (fun c_1 => ?_) (fun c_1 => ?_)
  · refine r_icb F false dX3_isTake_14 rfl ?_
    exact r_retQb F hr hlk hH dX3_isTake_15 (by rw [show isIn x 0 9 = false from decide_eq_false (by omega)])
  · refine r_iln F hl 0 rfl dX3_isTake_4 rfl ?_
    refine r_bp F 10 dX3_isTake_5 rfl ?_
    refine r_cgez (a := x) (b := (10 : Int)) 14 F dX3_isTake_7 (by decide) (by omega) (fun c_2 => ?_) (fun c_2 => ?_)
    · refine r_icb F false dX3_isTake_14 rfl ?_
      exact r_retQb F hr hlk hH dX3_isTake_15 (by rw [show isIn x 0 9 = false from decide_eq_false (by omega)])
    · refine r_icb F true dX3_isTake_10 rfl ?_
      refine r_goto 15 F dX3_isTake_11 (by decide) ?_
      exact r_retQb F hr hlk hH dX3_isTake_15 (by rw [show isIn x 0 9 = true from decide_eq_true (by omega)])
abbrev rm_X3_holdsAll : Room := { frames := 0, cells := 0, slots := 0, locals := 0 }
set_option maxHeartbeats 4000000 in
set_option maxRecDepth 100000 in
theorem k_X3_holdsAll (l : Launch) (D : va_G) (cI cB : ClassId) (x y : Nat) (hx : x < 65536 ∧ y < 65536) : CtQ l yX3_holdsAll cX3_holdsAll 2 (some .boolean) rm_X3_holdsAll D cI cB [.int (iI ((x : Nat) : Int)), .int (iI ((y : Nat) : Int))] ([]) ((iI ((Bool.toNat (hAll x y) : Nat) : Int))) := by
  refine CtQ.of RX3 (by decide) rfl (Nat.le_of_ble_eq_true rfl) ?_
  intro p e s m args below meth c H ls hH F hr hlk P hl
  have hl : lv_has ls 2 [(0, .int (iI ((x : Nat) : Int))), (1, .int (iI ((y : Nat) : Int)))] := hl
  refine r_iln F hl 0 rfl dX3_holdsAll_0 rfl ?_
  refine r_iln F hl 1 rfl dX3_holdsAll_1 rfl ?_
  refine r_and F dX3_holdsAll_2 ?_
  have b_1 : (x &&& y) ≤ y := Nat.and_le_right
  refine r_iln F hl 1 rfl dX3_holdsAll_3 rfl ?_
  refine r_cne 11 F dX3_holdsAll_4 (by decide) (by omega) (fun c_2 => ?_) (fun c_2 => ?_)
  · refine r_icb F false dX3_holdsAll_11 rfl ?_
    exact r_retQb F hr hlk hH dX3_holdsAll_12 (by first | rfl | (simp only [hAll, if_true, if_false, Bool.and_true, Bool.true_and, Bool.and_false, Bool.false_and, Bool.and_self, Bool.false_eq_true, ↓reduceIte, decide_true, decide_false, Int.toNat_natCast, Bool.toNat_true, Bool.toNat_false, true_and, and_true, false_and, and_false, not_true_eq_false, not_false_eq_true, true_or, or_true, false_or, or_false]; first | done | rfl | (simp only [c_2, if_true, if_false, Bool.and_true, Bool.true_and, Bool.and_false, Bool.false_and, Bool.and_self, Bool.false_eq_true, ↓reduceIte, decide_true, decide_false, Int.toNat_natCast, Bool.toNat_true, Bool.toNat_false, true_and, and_true, false_and, and_false, not_true_eq_false, not_false_eq_true, true_or, or_true, false_or, or_false]; first | done | rfl) | (simp only [if_neg c_2]; first | done | rfl) | (simp [c_2]; done) | (simp [c_2]; first | rfl | omega)) | (simp [hAll, c_2]; done) | (simp [hAll, c_2]; omega) | (simp only [hAll, if_true, if_false, Bool.and_true, Bool.true_and, Bool.and_false, Bool.false_and, Bool.and_self, Bool.false_eq_true, ↓reduceIte, decide_true, decide_false, Int.toNat_natCast, Bool.toNat_true, Bool.toNat_false, true_and, and_true, false_and, and_false, not_true_eq_false, not_false_eq_true, true_or, or_true, false_or, or_false]; try simp only [c_2, if_true, if_false, Bool.and_true, Bool.true_and, Bool.and_false, Bool.false_and, Bool.and_self, Bool.false_eq_true, ↓reduceIte, decide_true, decide_false, Int.toNat_natCast, Bool.toNat_true, Bool.toNat_false, true_and, and_true, false_and, and_false, not_true_eq_false, not_false_eq_true, true_or, or_true, false_or, or_false]; rfl))
  · refine r_icb F true dX3_holdsAll_7 rfl ?_
    refine r_goto 12 F dX3_holdsAll_8 (by decide) ?_
    exact r_retQb F hr hlk hH dX3_holdsAll_12 (by first | rfl | (simp only [hAll, if_true, if_false, Bool.and_true, Bool.true_and, Bool.and_false, Bool.false_and, Bool.and_self, Bool.false_eq_true, ↓reduceIte, decide_true, decide_false, Int.toNat_natCast, Bool.toNat_true, Bool.toNat_false, true_and, and_true, false_and, and_false, not_true_eq_false, not_false_eq_true, true_or, or_true, false_or, or_false]; first | done | rfl | (simp only [c_2, if_true, if_false, Bool.and_true, Bool.true_and, Bool.and_false, Bool.false_and, Bool.and_self, Bool.false_eq_true, ↓reduceIte, decide_true, decide_false, Int.toNat_natCast, Bool.toNat_true, Bool.toNat_false, true_and, and_true, false_and, and_false, not_true_eq_false, not_false_eq_true, true_or, or_true, false_or, or_false]; first | done | rfl) | (simp only [if_pos c_2]; first | done | rfl) | (simp [c_2]; done) | (simp [c_2]; first | rfl | omega)) | (simp [hAll, c_2]; done) | (simp [hAll, c_2]; omega) | (simp only [hAll, if_true, if_false, Bool.and_true, Bool.true_and, Bool.and_false, Bool.false_and, Bool.and_self, Bool.false_eq_true, ↓reduceIte, decide_true, decide_false, Int.toNat_natCast, Bool.toNat_true, Bool.toNat_false, true_and, and_true, false_and, and_false, not_true_eq_false, not_false_eq_true, true_or, or_true, false_or, or_false]; try simp only [c_2, if_true, if_false, Bool.and_true, Bool.true_and, Bool.and_false, Bool.false_and, Bool.and_self, Bool.false_eq_true, ↓reduceIte, decide_true, decide_false, Int.toNat_natCast, Bool.toNat_true, Bool.toNat_false, true_and, and_true, false_and, and_false, not_true_eq_false, not_false_eq_true, true_or, or_true, false_or, or_false]; rfl))
abbrev rm_X1_awake : Room := { frames := 0, cells := 0, slots := 0, locals := 0 }
set_option maxHeartbeats 4000000 in
set_option maxRecDepth 100000 in
theorem k_X1_awake (l : Launch) (D : va_G) (cI cB : ClassId) (q : Nat → Nat) (S : St) (hsh : S 0 0 < 65000) : CtQ l yX1_awake cX1_awake 1 (some .int) rm_X1_awake D cI cB [.ref (q 0)] (wS q cI S) ((iI (((S 0 0 &&& 1) : Nat) : Int))) := by
  refine CtQ.of RX1 (by decide) rfl (Nat.le_of_ble_eq_true rfl) ?_
  intro p e s m args below meth c H ls hH F hr hlk P hl
  have hl : lv_has ls 1 [(0, .ref (q 0))] := hl
  refine r_aln F hl 0 rfl dX1_awake_0 rfl ?_
  refine gf_X1_18 F P 0 rfl (.int (iI ((S 0 0 : Nat) : Int))) rfl dX1_awake_1 ?_
  refine r_ic F 1 dX1_awake_4 rfl ?_
  refine r_and F dX1_awake_5 ?_
  have b_1 : (S 0 0 &&& 1) ≤ 1 := Nat.and_le_right
  exact r_retQ F hr hlk hH dX1_awake_6 (by first | rfl | (simp only [if_true, if_false, Bool.and_true, Bool.true_and, Bool.and_false, Bool.false_and, Bool.and_self, Bool.false_eq_true, ↓reduceIte, decide_true, decide_false, Int.toNat_natCast, Bool.toNat_true, Bool.toNat_false, true_and, and_true, false_and, and_false, not_true_eq_false, not_false_eq_true, true_or, or_true, false_or, or_false]; first | done | rfl | (simp only [if_true, if_true, if_false, Bool.and_true, Bool.true_and, Bool.and_false, Bool.false_and, Bool.and_self, Bool.false_eq_true, ↓reduceIte, decide_true, decide_false, Int.toNat_natCast, Bool.toNat_true, Bool.toNat_false, true_and, and_true, false_and, and_false, not_true_eq_false, not_false_eq_true, true_or, or_true, false_or, or_false]; first | done | rfl) | (simp only [if_true]; first | done | rfl) | (simp [if_true]; done) | (simp [if_true]; first | rfl | omega)) | (simp [if_true]; done) | (simp [if_true]; omega) | (simp only [if_true, if_false, Bool.and_true, Bool.true_and, Bool.and_false, Bool.false_and, Bool.and_self, Bool.false_eq_true, ↓reduceIte, decide_true, decide_false, Int.toNat_natCast, Bool.toNat_true, Bool.toNat_false, true_and, and_true, false_and, and_false, not_true_eq_false, not_false_eq_true, true_or, or_true, false_or, or_false]; try simp only [if_true, if_true, if_false, Bool.and_true, Bool.true_and, Bool.and_false, Bool.false_and, Bool.and_self, Bool.false_eq_true, ↓reduceIte, decide_true, decide_false, Int.toNat_natCast, Bool.toNat_true, Bool.toNat_false, true_and, and_true, false_and, and_false, not_true_eq_false, not_false_eq_true, true_or, or_true, false_or, or_false]; rfl))
abbrev rm_X1_awakeKnows : Room := { frames := 1, cells := 0, slots := 0, locals := 20 }
set_option maxHeartbeats 4000000 in
set_option maxRecDepth 100000 in
theorem k_X1_awakeKnows (l : Launch) (D : va_G) (cI cB : ClassId) (q : Nat → Nat) (S : St) (i : Nat) (hi : i < 5) (hsh : S 0 0 < 65000) (hkn : ∀ k, S 1 k < 65536) : CtQ l yX1_awakeKnows cX1_awakeKnows 2 (some .int) rm_X1_awakeKnows D cI cB [.ref (q 0), .int (iI ((i : Nat) : Int))] (wS q cI S) ((iI ((S 1 (2 * i + (S 0 0 &&& 1)) : Nat) : Int))) := by
  refine CtQ.of RX1 (by decide) rfl (Nat.le_of_ble_eq_true rfl) ?_
  intro p e s m args below meth c H ls hH F hr hlk P hl
  have hl : lv_has ls 2 [(0, .ref (q 0)), (1, .int (iI ((i : Nat) : Int)))] := hl
  refine r_aln F hl 0 rfl dX1_awakeKnows_0 rfl ?_
  refine gf_X1_9 F P 0 rfl (.ref (q 2)) rfl dX1_awakeKnows_1 ?_
  refine r_ic F 2 dX1_awakeKnows_4 rfl ?_
  refine r_iln F hl 1 rfl dX1_awakeKnows_5 rfl ?_
  refine r_mul F dX1_awakeKnows_6 ?_
  refine r_aln F hl 0 rfl dX1_awakeKnows_7 rfl ?_
  refine r_cq (r := (iI (((S 0 0 &&& 1) : Nat) : Int))) F P (k_X1_awake l D cI cB (q) (S)  (show S 0 0 < 65000 from by omega)) gw_X1_33 [0, 1, 2] rfl rfl rfl ⟨⟨rfl, rfl⟩, Nat.le_of_ble_eq_true rfl, Nat.le_of_ble_eq_true rfl⟩ ⟨Nat.le_of_ble_eq_true rfl, Nat.le_of_ble_eq_true rfl⟩ hl.1 rfl [.int (iI (((2 * i) : Nat) : Int)), .ref (q 2)] rfl (Nat.le_of_ble_eq_true rfl) dX1_awakeKnows_8 ?_
  have hq_ : (S 0 0 &&& 1) ≤ 1 := Nat.and_le_right
  refine r_add F dX1_awakeKnows_11 ?_
  refine r_ald (f := S 1) F P 1 rfl dX1_awakeKnows_12 (by decide) (by omega) ?_
  have b_1 : S 1 (((2 * i) + (S 0 0 &&& 1))) < 65536 := hkn (((2 * i) + (S 0 0 &&& 1)))
  exact r_retQ F hr hlk hH dX1_awakeKnows_13 (by first | rfl | (simp only [if_true, if_false, Bool.and_true, Bool.true_and, Bool.and_false, Bool.false_and, Bool.and_self, Bool.false_eq_true, ↓reduceIte, decide_true, decide_false, Int.toNat_natCast, Bool.toNat_true, Bool.toNat_false, true_and, and_true, false_and, and_false, not_true_eq_false, not_false_eq_true, true_or, or_true, false_or, or_false]; first | done | rfl | (simp only [if_true, if_true, if_false, Bool.and_true, Bool.true_and, Bool.and_false, Bool.false_and, Bool.and_self, Bool.false_eq_true, ↓reduceIte, decide_true, decide_false, Int.toNat_natCast, Bool.toNat_true, Bool.toNat_false, true_and, and_true, false_and, and_false, not_true_eq_false, not_false_eq_true, true_or, or_true, false_or, or_false]; first | done | rfl) | (simp only [if_true]; first | done | rfl) | (simp [if_true]; done) | (simp [if_true]; first | rfl | omega)) | (simp [if_true]; done) | (simp [if_true]; omega) | (simp only [if_true, if_false, Bool.and_true, Bool.true_and, Bool.and_false, Bool.false_and, Bool.and_self, Bool.false_eq_true, ↓reduceIte, decide_true, decide_false, Int.toNat_natCast, Bool.toNat_true, Bool.toNat_false, true_and, and_true, false_and, and_false, not_true_eq_false, not_false_eq_true, true_or, or_true, false_or, or_false]; try simp only [if_true, if_true, if_false, Bool.and_true, Bool.true_and, Bool.and_false, Bool.false_and, Bool.and_self, Bool.false_eq_true, ↓reduceIte, decide_true, decide_false, Int.toNat_natCast, Bool.toNat_true, Bool.toNat_false, true_and, and_true, false_and, and_false, not_true_eq_false, not_false_eq_true, true_or, or_true, false_or, or_false]; rfl))
abbrev rm_X1_learn : Room := { frames := 1, cells := 0, slots := 0, locals := 20 }
set_option maxHeartbeats 4000000 in
set_option maxRecDepth 100000 in
theorem k_X1_learn (l : Launch) (D : va_G) (cI cB : ClassId) (q : Nat → Nat) (S : St) (i x : Nat) (hi : i < 5 ∧ x < 8) (hsh : S 0 0 < 65000) (hkn : ∀ k, S 1 k < 65536) : CtV l yX1_learn cX1_learn 3 rm_X1_learn D cI cB [.ref (q 0), .int (iI ((i : Nat) : Int)), .int (iI ((x : Nat) : Int))] (wS q cI S) (wS q cI (stR S 1 (upN (S 1) (2 * i + (S 0 0 &&& 1)) ((S 1) (2 * i + (S 0 0 &&& 1)) ||| 1 * 2 ^ x)))) := by
  refine CtV.of RX1 (by decide) rfl (Nat.le_of_ble_eq_true rfl) ?_
  intro p e s m args below meth c H0 ls A hH hA F hr hlk B hl
  have hl : lv_has ls 3 [(0, .ref (q 0)), (1, .int (iI ((i : Nat) : Int))), (2, .int (iI ((x : Nat) : Int)))] := hl
  refine r_aln F hl 0 rfl dX1_learn_0 rfl ?_
  refine gf_X1_9 F B.1 0 rfl (.ref (q 2)) rfl dX1_learn_1 ?_
  refine r_ic F 2 dX1_learn_4 rfl ?_
  refine r_iln F hl 1 rfl dX1_learn_5 rfl ?_
  refine r_mul F dX1_learn_6 ?_
  refine r_aln F hl 0 rfl dX1_learn_7 rfl ?_
  refine r_cq (r := (iI (((S 0 0 &&& 1) : Nat) : Int))) F B.1 (k_X1_awake l D cI cB (q) (S)  (show S 0 0 < 65000 from by omega)) gw_X1_33 [0, 1, 2] rfl rfl rfl ⟨⟨rfl, rfl⟩, Nat.le_of_ble_eq_true rfl, Nat.le_of_ble_eq_true rfl⟩ ⟨Nat.le_of_ble_eq_true rfl, Nat.le_of_ble_eq_true rfl⟩ hl.1 rfl [.int (iI (((2 * i) : Nat) : Int)), .ref (q 2)] rfl (Nat.le_of_ble_eq_true rfl) dX1_learn_8 ?_
  have hq_ : (S 0 0 &&& 1) ≤ 1 := Nat.and_le_right
  refine r_add F dX1_learn_11 ?_
  refine r_dup2 F dX1_learn_12 rfl rfl ?_
  refine r_ald (f := S 1) F B.1 1 rfl dX1_learn_13 (by decide) (by omega) ?_
  have b_1 : S 1 (((2 * i) + (S 0 0 &&& 1))) < 65536 := hkn (((2 * i) + (S 0 0 &&& 1)))
  refine r_ic F 1 dX1_learn_14 rfl ?_
  refine r_iln F hl 2 rfl dX1_learn_15 rfl ?_
  have b_2 : 1 * 2 ^ (x) < 65536 := pw16 (by omega)
  refine r_shl F dX1_learn_16 ⟨by omega, by omega⟩ ?_
  refine r_or F dX1_learn_17 ?_
  have b_3 : (S 1 (((2 * i) + (S 0 0 &&& 1))) ||| (1 * 2 ^ x)) < 65536 := or16 (by omega) (by omega)
  have hb_4 : ∀ j_, upN (S 1) (((2 * i) + (S 0 0 &&& 1))) ((S 1 (((2 * i) + (S 0 0 &&& 1))) ||| (1 * 2 ^ x))) j_ < 65536 := upN_lt hkn (by omega)
  refine r_ast (f := S 1) F B 1 (wS q cI (stR S 1 (upN (S 1) (((2 * i) + (S 0 0 &&& 1))) ((S 1 (((2 * i) + (S 0 0 &&& 1))) ||| (1 * 2 ^ x)))))) rfl dX1_learn_18 (by decide) (by omega) rfl (fun H locs B => ?_)
  exact r_retV F hr hlk hH B dX1_learn_19 (by first | rfl | (simp only [if_true, if_false, Bool.and_true, Bool.true_and, Bool.and_false, Bool.false_and, Bool.and_self, Bool.false_eq_true, ↓reduceIte, decide_true, decide_false, Int.toNat_natCast, Bool.toNat_true, Bool.toNat_false, true_and, and_true, false_and, and_false, not_true_eq_false, not_false_eq_true, true_or, or_true, false_or, or_false]; first | done | rfl | (simp only [if_true, if_true, if_false, Bool.and_true, Bool.true_and, Bool.and_false, Bool.false_and, Bool.and_self, Bool.false_eq_true, ↓reduceIte, decide_true, decide_false, Int.toNat_natCast, Bool.toNat_true, Bool.toNat_false, true_and, and_true, false_and, and_false, not_true_eq_false, not_false_eq_true, true_or, or_true, false_or, or_false]; first | done | rfl) | (simp only [if_true]; first | done | rfl) | (simp [if_true]; done) | (simp [if_true]; first | rfl | omega)) | (simp [if_true]; done) | (simp [if_true]; omega) | (simp only [if_true, if_false, Bool.and_true, Bool.true_and, Bool.and_false, Bool.false_and, Bool.and_self, Bool.false_eq_true, ↓reduceIte, decide_true, decide_false, Int.toNat_natCast, Bool.toNat_true, Bool.toNat_false, true_and, and_true, false_and, and_false, not_true_eq_false, not_false_eq_true, true_or, or_true, false_or, or_false]; try simp only [if_true, if_true, if_false, Bool.and_true, Bool.true_and, Bool.and_false, Bool.false_and, Bool.and_self, Bool.false_eq_true, ↓reduceIte, decide_true, decide_false, Int.toNat_natCast, Bool.toNat_true, Bool.toNat_false, true_and, and_true, false_and, and_false, not_true_eq_false, not_false_eq_true, true_or, or_true, false_or, or_false]; rfl))
abbrev rm_X1_ableTo : Room := { frames := 2, cells := 0, slots := 0, locals := 41 }
set_option maxHeartbeats 4000000 in
set_option maxRecDepth 100000 in
theorem k_X1_ableTo (l : Launch) (D : va_G) (cI cB : ClassId) (q : Nat → Nat) (S : St) (x p0 : Nat) (hx : x < 65536 ∧ p0 ≤ 5) (hsh : S 0 0 < 65000) (hkn : ∀ k, S 1 k < 65536) : CtQ l yX1_ableTo cX1_ableTo 5 (some .int) rm_X1_ableTo D cI cB [.ref (q 0), .int (iI ((x : Nat) : Int)), .int (iI ((p0 : Nat) : Int))] (wS q cI S) ((iI ((sp_able x p0 (S 0 0) (S 1) : Nat) : Int))) := by
  refine CtQ.of RX1 (by decide) rfl (Nat.le_of_ble_eq_true rfl) ?_
  intro p e s m args below meth c H ls hH F hr hlk P hl
  have hl : lv_has ls 5 [(0, .ref (q 0)), (1, .int (iI ((x : Nat) : Int))), (2, .int (iI ((p0 : Nat) : Int)))] := hl
  refine r_ic F 0 dX1_ableTo_0 rfl ?_
  refine r_isn (lv' := [(0, .ref (q 0)), (1, .int (iI ((x : Nat) : Int))), (2, .int (iI ((p0 : Nat) : Int))), (3, .int (iI ((0 : Nat) : Int)))]) F hl dX1_ableTo_1 rfl (by decide) [1, 2, 3, 0] rfl (fun ls hl => ?_)
  refine r_ic F 0 dX1_ableTo_2 rfl ?_
  refine r_is (lv' := [(0, .ref (q 0)), (1, .int (iI ((x : Nat) : Int))), (2, .int (iI ((p0 : Nat) : Int))), (3, .int (iI ((0 : Nat) : Int))), (4, .int (iI ((0 : Nat) : Int)))]) F hl dX1_ableTo_3 (by decide) [1, 2, 3, 4, 0] rfl (fun ls hl => ?_)
  have lp_1 : ∀ (nn_ : Nat) (y : Nat) (i : Nat) (ls : Array Slot), p0 - i < nn_ → (lpR (abB x (S 0 0) (S 1)) p0 i y = sp_able x p0 (S 0 0) (S 1)) → (y < 65536) → (i ≤ p0) → lv_has ls 5 [(0, .ref (q 0)), (1, .int (iI ((x : Nat) : Int))), (2, .int (iI ((p0 : Nat) : Int))), (3, .int (iI ((y : Nat) : Int))), (4, .int (iI ((i : Nat) : Int)))] → W p l e rm_X1_ableTo s m args below meth c H [] 0 0 (Qq below args s ((iI ((sp_able x p0 (S 0 0) (S 1) : Nat) : Int)))) (F0 m 5 ls []) := by
    intro nn_
    induction nn_ with
    | zero => intro y i ls hlt; exact absurd hlt (Nat.not_lt_zero _)
    | succ nn_ ih =>
      have ih_2 := ih; clear ih
      intro y i ls hlt hI hy hk hl
      have hlt_3 := hlt
      refine r_il F hl 4 rfl dX1_ableTo_5 ?_
      refine r_iln F hl 2 rfl dX1_ableTo_7 rfl ?_
      refine r_cge 37 F dX1_ableTo_8 (by decide) (by omega) (fun c_4 => ?_) (fun c_4 => ?_)
      · refine r_iln F hl 3 rfl dX1_ableTo_37 rfl ?_
        exact r_retQ F hr hlk hH dX1_ableTo_38 (by rw [← hI, lpR_end (by omega)])
      · refine r_aln F hl 0 rfl dX1_ableTo_11 rfl ?_
        refine r_il F hl 4 rfl dX1_ableTo_12 ?_
        refine r_cq (r := (iI (((S 1) (2 * (i) + (S 0 0 &&& 1)) : Nat) : Int))) F P (k_X1_awakeKnows l D cI cB (q) (S) (i) (by omega) (show S 0 0 < 65000 from by omega) hkn) gw_X1_37 [0, 1, 2] rfl rfl rfl ⟨⟨rfl, rfl⟩, Nat.le_of_ble_eq_true rfl, Nat.le_of_ble_eq_true rfl⟩ ⟨Nat.le_of_ble_eq_true rfl, Nat.le_of_ble_eq_true rfl⟩ hl.1 rfl [] rfl (Nat.le_of_ble_eq_true rfl) dX1_ableTo_14 ?_
        have hq_ := hkn (2 * (i) + (S 0 0 &&& 1))
        refine r_iln F hl 1 rfl dX1_ableTo_17 rfl ?_
        refine r_sqN (r := (iI ((Bool.toNat (hAll ((S 1) (2 * (i) + (S 0 0 &&& 1))) (x)) : Nat) : Int))) F P (k_X3_holdsAll l D cI cB ((S 1) (2 * (i) + (S 0 0 &&& 1))) (x) (by omega)) gw_X1_41 [] rfl ⟨⟨rfl, rfl⟩, Nat.le_of_ble_eq_true rfl, Nat.le_of_ble_eq_true rfl⟩ ⟨Nat.le_of_ble_eq_true rfl, Nat.le_of_ble_eq_true rfl⟩ hl.1 rfl [] rfl (Nat.le_of_ble_eq_true rfl) dX1_ableTo_18 ?_
        refine r_zeqb 31 F dX1_ableTo_21 (by decide) (fun c_5 => ?_) (fun c_5 => ?_)
        · refine r_inc (lv' := [(0, .ref (q 0)), (1, .int (iI ((x : Nat) : Int))), (2, .int (iI ((p0 : Nat) : Int))), (3, .int (iI ((y : Nat) : Int))), (4, .int (iI (((i + 1) : Nat) : Int)))]) F hl 4 rfl dX1_ableTo_31 1 rfl (by decide) [1, 2, 3, 4, 0] rfl (fun ls hl => ?_)
          refine r_goto 5 F dX1_ableTo_34 (by decide) ?_
          exact ih_2 (y) ((i + 1)) ls (by omega) (by have h_ := hI; rw [lpR_step (by omega)] at h_; refine Eq.trans ?_ h_; first | rfl | (simp only [abB, c_4, (Nat.not_le.mpr c_4), c_5, if_true, if_false, Bool.and_true, Bool.true_and, Bool.and_false, Bool.false_and, Bool.and_self, Bool.false_eq_true, ↓reduceIte, decide_true, decide_false, Int.toNat_natCast, Bool.toNat_true, Bool.toNat_false, true_and, and_true, false_and, and_false, not_true_eq_false, not_false_eq_true, true_or, or_true, false_or, or_false]; done) | (simp [abB, c_4, (Nat.not_le.mpr c_4), c_5]; done)) (by omega) (by omega) hl
        · refine r_iln F hl 3 rfl dX1_ableTo_24 rfl ?_
          refine r_ic F 1 dX1_ableTo_25 rfl ?_
          refine r_il F hl 4 rfl dX1_ableTo_26 ?_
          have b_6 : 1 * 2 ^ (i) < 65536 := pw16 (by omega)
          refine r_shl F dX1_ableTo_28 ⟨by omega, by omega⟩ ?_
          refine r_or F dX1_ableTo_29 ?_
          have b_7 : (y ||| (1 * 2 ^ i)) < 65536 := or16 (by omega) (by omega)
          refine r_isn (lv' := [(0, .ref (q 0)), (1, .int (iI ((x : Nat) : Int))), (2, .int (iI ((p0 : Nat) : Int))), (3, .int (iI (((y ||| (1 * 2 ^ i)) : Nat) : Int))), (4, .int (iI ((i : Nat) : Int)))]) F hl dX1_ableTo_30 rfl (by decide) [1, 2, 3, 0, 4] rfl (fun ls hl => ?_)
          refine r_inc (lv' := [(0, .ref (q 0)), (1, .int (iI ((x : Nat) : Int))), (2, .int (iI ((p0 : Nat) : Int))), (3, .int (iI (((y ||| (1 * 2 ^ i)) : Nat) : Int))), (4, .int (iI (((i + 1) : Nat) : Int)))]) F hl 4 rfl dX1_ableTo_31 1 rfl (by decide) [1, 2, 3, 4, 0] rfl (fun ls hl => ?_)
          refine r_goto 5 F dX1_ableTo_34 (by decide) ?_
          exact ih_2 ((y ||| (1 * 2 ^ i))) ((i + 1)) ls (by omega) (by have h_ := hI; rw [lpR_step (by omega)] at h_; refine Eq.trans ?_ h_; first | rfl | (simp only [abB, c_4, (Nat.not_le.mpr c_4), c_5, if_true, if_false, Bool.and_true, Bool.true_and, Bool.and_false, Bool.false_and, Bool.and_self, Bool.false_eq_true, ↓reduceIte, decide_true, decide_false, Int.toNat_natCast, Bool.toNat_true, Bool.toNat_false, true_and, and_true, false_and, and_false, not_true_eq_false, not_false_eq_true, true_or, or_true, false_or, or_false]; done) | (simp [abB, c_4, (Nat.not_le.mpr c_4), c_5]; done)) (by omega) (by omega) hl
  exact lp_1 _ (0) (0) ls (Nat.lt_succ_self _) rfl (by omega) (by omega) hl
abbrev rm_X1_lowest : Room := { frames := 0, cells := 0, slots := 0, locals := 0 }
set_option maxHeartbeats 4000000 in
set_option maxRecDepth 100000 in
theorem k_X1_lowest (l : Launch) (D : va_G) (cI cB : ClassId) (x n : Nat) (hx : x < 65536 ∧ n < 65536) : CtQ l yX1_lowest cX1_lowest 4 (some .int) rm_X1_lowest D cI cB [.int (iI ((x : Nat) : Int)), .int (iI ((n : Nat) : Int))] ([]) ((iI ((sp_low x n : Nat) : Int))) := by
  refine CtQ.of RX1 (by decide) rfl (Nat.le_of_ble_eq_true rfl) ?_
  intro p e s m args below meth c H ls hH F hr hlk P hl
  have hl : lv_has ls 4 [(0, .int (iI ((x : Nat) : Int))), (1, .int (iI ((n : Nat) : Int)))] := hl
  refine r_iln F hl 0 rfl dX1_lowest_0 rfl ?_
  refine r_isn (lv' := [(0, .int (iI ((x : Nat) : Int))), (1, .int (iI ((n : Nat) : Int))), (2, .int (iI ((x : Nat) : Int)))]) F hl dX1_lowest_1 rfl (by decide) [1, 2, 0] rfl (fun ls hl => ?_)
  refine r_ic F 0 dX1_lowest_2 rfl ?_
  refine r_isn (lv' := [(0, .int (iI ((x : Nat) : Int))), (1, .int (iI ((n : Nat) : Int))), (2, .int (iI ((x : Nat) : Int))), (3, .int (iI ((0 : Nat) : Int)))]) F hl dX1_lowest_3 rfl (by decide) [1, 2, 3, 0] rfl (fun ls hl => ?_)
  have lp_1 : ∀ (nn_ : Nat) (y : Nat) (k : Nat) (ls : Array Slot), n - k < nn_ → (loF (n - k) y = loF n x) → (y < 65536) → (k ≤ n) → lv_has ls 4 [(0, .int (iI ((x : Nat) : Int))), (1, .int (iI ((n : Nat) : Int))), (2, .int (iI ((y : Nat) : Int))), (3, .int (iI ((k : Nat) : Int)))] → W p l e rm_X1_lowest s m args below meth c H [] 0 0 (Qq below args s ((iI ((sp_low x n : Nat) : Int)))) (F0 m 4 ls []) := by
    intro nn_
    induction nn_ with
    | zero => intro y k ls hlt; exact absurd hlt (Nat.not_lt_zero _)
    | succ nn_ ih =>
      have ih_2 := ih; clear ih
      intro y k ls hlt hI hy hk hl
      have hlt_3 := hlt
      refine r_iln F hl 3 rfl dX1_lowest_4 rfl ?_
      refine r_iln F hl 1 rfl dX1_lowest_5 rfl ?_
      refine r_cge 25 F dX1_lowest_6 (by decide) (by omega) (fun c_4 => ?_) (fun c_4 => ?_)
      · have he_ : loF n x = y := by rw [← hI]; rw [show n - k = 0 from by omega]; rfl
        refine r_iln F hl 0 rfl dX1_lowest_25 rfl ?_
        refine r_iln F hl 2 rfl dX1_lowest_26 rfl ?_
        refine r_icz F (-1) dX1_lowest_27 rfl ?_
        refine r_xorr F dX1_lowest_28 (iI (((y : Nat) : Int)) ^^^ iI (-1)) rfl ?_
        refine r_andr F dX1_lowest_29 _ (iI_anot _ _) ?_
        have b_5 : anot (x) (y) < 65536 := anot16 (by omega)
        exact r_retQ F hr hlk hH dX1_lowest_30 (by unfold sp_low; rw [he_])
      · refine r_iln F hl 2 rfl dX1_lowest_9 rfl ?_
        refine r_zeq 25 F dX1_lowest_10 (by decide) (by omega) (fun c_6 => ?_) (fun c_6 => ?_)
        · have he_ : loF n x = y := by rw [← hI]; exact loF_stop c_6
          refine r_iln F hl 0 rfl dX1_lowest_25 rfl ?_
          refine r_iln F hl 2 rfl dX1_lowest_26 rfl ?_
          refine r_icz F (-1) dX1_lowest_27 rfl ?_
          refine r_xorr F dX1_lowest_28 (iI (((y : Nat) : Int)) ^^^ iI (-1)) rfl ?_
          refine r_andr F dX1_lowest_29 _ (iI_anot _ _) ?_
          have b_7 : anot (x) (y) < 65536 := anot16 (by omega)
          exact r_retQ F hr hlk hH dX1_lowest_30 (by unfold sp_low; rw [he_])
        · refine r_iln F hl 2 rfl dX1_lowest_13 rfl ?_
          refine r_iln F hl 2 rfl dX1_lowest_14 rfl ?_
          refine r_ic F 1 dX1_lowest_15 rfl ?_
          refine r_subz F dX1_lowest_16 ?_
          refine r_andr F dX1_lowest_17 _ (iI_prd (by omega)) ?_
          have b_8 : (y &&& (y - 1)) ≤ y := Nat.and_le_left
          refine r_isn (lv' := [(0, .int (iI ((x : Nat) : Int))), (1, .int (iI ((n : Nat) : Int))), (2, .int (iI (((y &&& (y - 1)) : Nat) : Int))), (3, .int (iI ((k : Nat) : Int)))]) F hl dX1_lowest_18 rfl (by decide) [1, 2, 0, 3] rfl (fun ls hl => ?_)
          refine r_inc (lv' := [(0, .int (iI ((x : Nat) : Int))), (1, .int (iI ((n : Nat) : Int))), (2, .int (iI (((y &&& (y - 1)) : Nat) : Int))), (3, .int (iI (((k + 1) : Nat) : Int)))]) F hl 3 rfl dX1_lowest_19 1 rfl (by decide) [1, 2, 3, 0] rfl (fun ls hl => ?_)
          refine r_goto 4 F dX1_lowest_22 (by decide) ?_
          exact ih_2 ((y &&& (y - 1))) ((k + 1)) ls (by omega) (by rw [← hI]; exact (loF_go (by omega) c_6).symm) (by omega) (by omega) hl
  exact lp_1 _ (x) (0) ls (Nat.lt_succ_self _) rfl (by omega) (by omega) hl
abbrev rm_X1_tellOneAnother : Room := { frames := 1, cells := 0, slots := 0, locals := 23 }
set_option maxHeartbeats 4000000 in
set_option maxRecDepth 100000 in
theorem k_X1_tellOneAnother (l : Launch) (D : va_G) (cI cB : ClassId) (q : Nat → Nat) (S : St) (i n : Nat) (hi : i < 5 ∧ n < 256) (hkn : ∀ k, S 1 k < 65536) : CtV l yX1_tellOneAnother cX1_tellOneAnother 5 rm_X1_tellOneAnother D cI cB [.ref (q 0), .int (iI ((i : Nat) : Int)), .int (iI ((n : Nat) : Int))] (wS q cI S) (wS q cI (stR S 1 (tlK n i (S 1)))) := by
  refine CtV.of RX1 (by decide) rfl (Nat.le_of_ble_eq_true rfl) ?_
  intro p e s m args below meth c H0 ls A hH hA F hr hlk B hl
  have hl : lv_has ls 5 [(0, .ref (q 0)), (1, .int (iI ((i : Nat) : Int))), (2, .int (iI ((n : Nat) : Int)))] := hl
  refine r_aln F hl 0 rfl dX1_tellOneAnother_0 rfl ?_
  refine gf_X1_9 F B.1 0 rfl (.ref (q 2)) rfl dX1_tellOneAnother_1 ?_
  refine r_ic F 2 dX1_tellOneAnother_4 rfl ?_
  refine r_iln F hl 1 rfl dX1_tellOneAnother_5 rfl ?_
  refine r_mul F dX1_tellOneAnother_6 ?_
  refine r_ald (f := S 1) F B.1 1 rfl dX1_tellOneAnother_7 (by decide) (by omega) ?_
  have b_1 : S 1 ((2 * i)) < 65536 := hkn ((2 * i))
  refine r_isn (lv' := [(0, .ref (q 0)), (1, .int (iI ((i : Nat) : Int))), (2, .int (iI ((n : Nat) : Int))), (3, .int (iI ((S 1 ((2 * i)) : Nat) : Int)))]) F hl dX1_tellOneAnother_8 rfl (by decide) [1, 2, 3, 0] rfl (fun ls hl => ?_)
  refine r_aln F hl 0 rfl dX1_tellOneAnother_9 rfl ?_
  refine gf_X1_9 F B.1 0 rfl (.ref (q 2)) rfl dX1_tellOneAnother_10 ?_
  refine r_ic F 2 dX1_tellOneAnother_13 rfl ?_
  refine r_iln F hl 1 rfl dX1_tellOneAnother_14 rfl ?_
  refine r_mul F dX1_tellOneAnother_15 ?_
  refine r_ic F 1 dX1_tellOneAnother_16 rfl ?_
  refine r_add F dX1_tellOneAnother_17 ?_
  refine r_ald (f := S 1) F B.1 1 rfl dX1_tellOneAnother_18 (by decide) (by omega) ?_
  have b_2 : S 1 (((2 * i) + 1)) < 65536 := hkn (((2 * i) + 1))
  refine r_is (lv' := [(0, .ref (q 0)), (1, .int (iI ((i : Nat) : Int))), (2, .int (iI ((n : Nat) : Int))), (3, .int (iI ((S 1 ((2 * i)) : Nat) : Int))), (4, .int (iI ((S 1 (((2 * i) + 1)) : Nat) : Int)))]) F hl dX1_tellOneAnother_19 (by decide) [1, 2, 3, 4, 0] rfl (fun ls hl => ?_)
  refine r_aln F hl 0 rfl dX1_tellOneAnother_21 rfl ?_
  refine gf_X1_9 F B.1 0 rfl (.ref (q 2)) rfl dX1_tellOneAnother_22 ?_
  refine r_ic F 2 dX1_tellOneAnother_25 rfl ?_
  refine r_iln F hl 1 rfl dX1_tellOneAnother_26 rfl ?_
  refine r_mul F dX1_tellOneAnother_27 ?_
  refine r_iln F hl 3 rfl dX1_tellOneAnother_28 rfl ?_
  refine r_il F hl 4 rfl dX1_tellOneAnother_29 ?_
  refine r_iln F hl 3 rfl dX1_tellOneAnother_31 rfl ?_
  refine r_icz F (-1) dX1_tellOneAnother_32 rfl ?_
  refine r_xorr F dX1_tellOneAnother_33 (iI (((S 1 ((2 * i)) : Nat) : Int)) ^^^ iI (-1)) rfl ?_
  refine r_andr F dX1_tellOneAnother_34 _ (iI_anot _ _) ?_
  have b_3 : anot (S 1 (((2 * i) + 1))) (S 1 ((2 * i))) < 65536 := anot16 (by omega)
  refine r_iln F hl 2 rfl dX1_tellOneAnother_35 rfl ?_
  refine r_sq (r := (iI ((sp_low (anot (S 1 (((2 * i) + 1))) (S 1 ((2 * i)))) (n) : Nat) : Int))) F B.1 (k_X1_lowest l D cI cB (anot (S 1 (((2 * i) + 1))) (S 1 ((2 * i)))) (n) (by omega)) gw_X1_59 [] rfl ⟨⟨rfl, rfl⟩, Nat.le_of_ble_eq_true rfl, Nat.le_of_ble_eq_true rfl⟩ ⟨Nat.le_of_ble_eq_true rfl, Nat.le_of_ble_eq_true rfl⟩ hl.1 rfl [.int (iI ((S 1 ((2 * i)) : Nat) : Int)), .int (iI (((2 * i) : Nat) : Int)), .ref (q 2)] rfl (Nat.le_of_ble_eq_true rfl) dX1_tellOneAnother_36 ?_
  have hq_ := @low_lt (anot (S 1 (((2 * i) + 1))) (S 1 ((2 * i)))) (n) (by omega)
  refine r_or F dX1_tellOneAnother_39 ?_
  have b_4 : (S 1 ((2 * i)) ||| sp_low (anot (S 1 (((2 * i) + 1))) (S 1 ((2 * i)))) (n)) < 65536 := or16 (by omega) (by omega)
  have hb_5 : ∀ j_, upN (S 1) ((2 * i)) ((S 1 ((2 * i)) ||| sp_low (anot (S 1 (((2 * i) + 1))) (S 1 ((2 * i)))) (n))) j_ < 65536 := upN_lt hkn (by omega)
  refine r_ast (f := S 1) F B 1 (wS q cI (stR S 1 (upN (S 1) ((2 * i)) ((S 1 ((2 * i)) ||| sp_low (anot (S 1 (((2 * i) + 1))) (S 1 ((2 * i)))) (n)))))) rfl dX1_tellOneAnother_40 (by decide) (by omega) rfl (fun H locs B => ?_)
  refine r_aln F hl 0 rfl dX1_tellOneAnother_41 rfl ?_
  refine gf_X1_9 F B.1 0 rfl (.ref (q 2)) rfl dX1_tellOneAnother_42 ?_
  refine r_ic F 2 dX1_tellOneAnother_45 rfl ?_
  refine r_iln F hl 1 rfl dX1_tellOneAnother_46 rfl ?_
  refine r_mul F dX1_tellOneAnother_47 ?_
  refine r_ic F 1 dX1_tellOneAnother_48 rfl ?_
  refine r_add F dX1_tellOneAnother_49 ?_
  refine r_il F hl 4 rfl dX1_tellOneAnother_50 ?_
  refine r_iln F hl 3 rfl dX1_tellOneAnother_52 rfl ?_
  refine r_il F hl 4 rfl dX1_tellOneAnother_53 ?_
  refine r_icz F (-1) dX1_tellOneAnother_55 rfl ?_
  refine r_xorr F dX1_tellOneAnother_56 (iI (((S 1 (((2 * i) + 1)) : Nat) : Int)) ^^^ iI (-1)) rfl ?_
  refine r_andr F dX1_tellOneAnother_57 _ (iI_anot _ _) ?_
  have b_6 : anot (S 1 ((2 * i))) (S 1 (((2 * i) + 1))) < 65536 := anot16 (by omega)
  refine r_iln F hl 2 rfl dX1_tellOneAnother_58 rfl ?_
  refine r_sq (r := (iI ((sp_low (anot (S 1 ((2 * i))) (S 1 (((2 * i) + 1)))) (n) : Nat) : Int))) F B.1 (k_X1_lowest l D cI cB (anot (S 1 ((2 * i))) (S 1 (((2 * i) + 1)))) (n) (by omega)) gw_X1_59 [] rfl ⟨⟨rfl, rfl⟩, Nat.le_of_ble_eq_true rfl, Nat.le_of_ble_eq_true rfl⟩ ⟨Nat.le_of_ble_eq_true rfl, Nat.le_of_ble_eq_true rfl⟩ hl.1 rfl [.int (iI ((S 1 (((2 * i) + 1)) : Nat) : Int)), .int (iI ((((2 * i) + 1) : Nat) : Int)), .ref (q 2)] rfl (Nat.le_of_ble_eq_true rfl) dX1_tellOneAnother_59 ?_
  have hq_ := @low_lt (anot (S 1 ((2 * i))) (S 1 (((2 * i) + 1)))) (n) (by omega)
  refine r_or F dX1_tellOneAnother_62 ?_
  have b_7 : (S 1 (((2 * i) + 1)) ||| sp_low (anot (S 1 ((2 * i))) (S 1 (((2 * i) + 1)))) (n)) < 65536 := or16 (by omega) (by omega)
  have hb_8 : ∀ j_, upN (upN (S 1) ((2 * i)) ((S 1 ((2 * i)) ||| sp_low (anot (S 1 (((2 * i) + 1))) (S 1 ((2 * i)))) (n)))) (((2 * i) + 1)) ((S 1 (((2 * i) + 1)) ||| sp_low (anot (S 1 ((2 * i))) (S 1 (((2 * i) + 1)))) (n))) j_ < 65536 := upN_lt hb_5 (by omega)
  refine r_ast (f := upN (S 1) ((2 * i)) ((S 1 ((2 * i)) ||| sp_low (anot (S 1 (((2 * i) + 1))) (S 1 ((2 * i)))) (n)))) F B 1 (wS q cI (stR S 1 (upN (upN (S 1) ((2 * i)) ((S 1 ((2 * i)) ||| sp_low (anot (S 1 (((2 * i) + 1))) (S 1 ((2 * i)))) (n)))) (((2 * i) + 1)) ((S 1 (((2 * i) + 1)) ||| sp_low (anot (S 1 ((2 * i))) (S 1 (((2 * i) + 1)))) (n)))))) rfl dX1_tellOneAnother_63 (by decide) (by omega) rfl (fun H locs B => ?_)
  exact r_retV F hr hlk hH B dX1_tellOneAnother_64 (by first | rfl | (simp only [if_true, if_false, Bool.and_true, Bool.true_and, Bool.and_false, Bool.false_and, Bool.and_self, Bool.false_eq_true, ↓reduceIte, decide_true, decide_false, Int.toNat_natCast, Bool.toNat_true, Bool.toNat_false, true_and, and_true, false_and, and_false, not_true_eq_false, not_false_eq_true, true_or, or_true, false_or, or_false]; first | done | rfl | (simp only [if_true, if_true, if_false, Bool.and_true, Bool.true_and, Bool.and_false, Bool.false_and, Bool.and_self, Bool.false_eq_true, ↓reduceIte, decide_true, decide_false, Int.toNat_natCast, Bool.toNat_true, Bool.toNat_false, true_and, and_true, false_and, and_false, not_true_eq_false, not_false_eq_true, true_or, or_true, false_or, or_false]; first | done | rfl) | (simp only [if_true]; first | done | rfl) | (simp [if_true]; done) | (simp [if_true]; first | rfl | omega)) | (simp [if_true]; done) | (simp [if_true]; omega) | (simp only [if_true, if_false, Bool.and_true, Bool.true_and, Bool.and_false, Bool.false_and, Bool.and_self, Bool.false_eq_true, ↓reduceIte, decide_true, decide_false, Int.toNat_natCast, Bool.toNat_true, Bool.toNat_false, true_and, and_true, false_and, and_false, not_true_eq_false, not_false_eq_true, true_or, or_true, false_or, or_false]; try simp only [if_true, if_true, if_false, Bool.and_true, Bool.true_and, Bool.and_false, Bool.false_and, Bool.and_self, Bool.false_eq_true, ↓reduceIte, decide_true, decide_false, Int.toNat_natCast, Bool.toNat_true, Bool.toNat_false, true_and, and_true, false_and, and_false, not_true_eq_false, not_false_eq_true, true_or, or_true, false_or, or_false]; rfl))
abbrev rm_X1_readNotes : Room := { frames := 1, cells := 0, slots := 0, locals := 20 }
set_option maxHeartbeats 4000000 in
set_option maxRecDepth 100000 in
theorem k_X1_readNotes (l : Launch) (D : va_G) (cI cB : ClassId) (q : Nat → Nat) (S : St) (i : Nat) (hi : i < 5) (hsh : S 0 0 < 65000) (hkn : ∀ k, S 1 k < 65536) (hhu : ∀ k, S 2 k < 65536) : CtV l yX1_readNotes cX1_readNotes 2 rm_X1_readNotes D cI cB [.ref (q 0), .int (iI ((i : Nat) : Int))] (wS q cI S) (wS q cI (stR (stR S 1 (nrK (S 0 0) i (S 1) (S 2))) 2 (upN (S 2) i 0))) := by
  refine CtV.of RX1 (by decide) rfl (Nat.le_of_ble_eq_true rfl) ?_
  intro p e s m args below meth c H0 ls A hH hA F hr hlk B hl
  have hl : lv_has ls 2 [(0, .ref (q 0)), (1, .int (iI ((i : Nat) : Int)))] := hl
  refine r_aln F hl 0 rfl dX1_readNotes_0 rfl ?_
  refine gf_X1_9 F B.1 0 rfl (.ref (q 2)) rfl dX1_readNotes_1 ?_
  refine r_ic F 2 dX1_readNotes_4 rfl ?_
  refine r_iln F hl 1 rfl dX1_readNotes_5 rfl ?_
  refine r_mul F dX1_readNotes_6 ?_
  refine r_ic F 1 dX1_readNotes_7 rfl ?_
  refine r_add F dX1_readNotes_8 ?_
  refine r_aln F hl 0 rfl dX1_readNotes_9 rfl ?_
  refine r_cq (r := (iI (((S 0 0 &&& 1) : Nat) : Int))) F B.1 (k_X1_awake l D cI cB (q) (S)  (show S 0 0 < 65000 from by omega)) gw_X1_33 [0, 1, 2] rfl rfl rfl ⟨⟨rfl, rfl⟩, Nat.le_of_ble_eq_true rfl, Nat.le_of_ble_eq_true rfl⟩ ⟨Nat.le_of_ble_eq_true rfl, Nat.le_of_ble_eq_true rfl⟩ hl.1 rfl [.int (iI ((((2 * i) + 1) : Nat) : Int)), .ref (q 2)] rfl (Nat.le_of_ble_eq_true rfl) dX1_readNotes_10 ?_
  have hq_ : (S 0 0 &&& 1) ≤ 1 := Nat.and_le_right
  refine r_sub F dX1_readNotes_13 (by omega) ?_
  refine r_dup2 F dX1_readNotes_14 rfl rfl ?_
  refine r_ald (f := S 1) F B.1 1 rfl dX1_readNotes_15 (by decide) (by omega) ?_
  have b_1 : S 1 ((((2 * i) + 1) - (S 0 0 &&& 1))) < 65536 := hkn ((((2 * i) + 1) - (S 0 0 &&& 1)))
  refine r_aln F hl 0 rfl dX1_readNotes_16 rfl ?_
  refine gf_X1_15 F B.1 0 rfl (.ref (q 3)) rfl dX1_readNotes_17 ?_
  refine r_iln F hl 1 rfl dX1_readNotes_20 rfl ?_
  refine r_ald (f := S 2) F B.1 2 rfl dX1_readNotes_21 (by decide) (by omega) ?_
  have b_2 : S 2 (i) < 65536 := hhu (i)
  refine r_or F dX1_readNotes_22 ?_
  have b_3 : (S 1 ((((2 * i) + 1) - (S 0 0 &&& 1))) ||| S 2 (i)) < 65536 := or16 (by omega) (by omega)
  have hb_4 : ∀ j_, upN (S 1) ((((2 * i) + 1) - (S 0 0 &&& 1))) ((S 1 ((((2 * i) + 1) - (S 0 0 &&& 1))) ||| S 2 (i))) j_ < 65536 := upN_lt hkn (by omega)
  refine r_ast (f := S 1) F B 1 (wS q cI (stR S 1 (upN (S 1) ((((2 * i) + 1) - (S 0 0 &&& 1))) ((S 1 ((((2 * i) + 1) - (S 0 0 &&& 1))) ||| S 2 (i)))))) rfl dX1_readNotes_23 (by decide) (by omega) rfl (fun H locs B => ?_)
  refine r_aln F hl 0 rfl dX1_readNotes_24 rfl ?_
  refine gf_X1_15 F B.1 0 rfl (.ref (q 3)) rfl dX1_readNotes_25 ?_
  refine r_iln F hl 1 rfl dX1_readNotes_28 rfl ?_
  refine r_ic F 0 dX1_readNotes_29 rfl ?_
  have hb_5 : ∀ j_, upN (S 2) (i) (0) j_ < 65536 := upN_lt hhu (by omega)
  refine r_ast (f := S 2) F B 2 (wS q cI (stR (stR S 1 (upN (S 1) ((((2 * i) + 1) - (S 0 0 &&& 1))) ((S 1 ((((2 * i) + 1) - (S 0 0 &&& 1))) ||| S 2 (i))))) 2 (upN (S 2) (i) (0)))) rfl dX1_readNotes_30 (by decide) (by omega) rfl (fun H locs B => ?_)
  exact r_retV F hr hlk hH B dX1_readNotes_31 (by first | rfl | (simp only [if_true, if_false, Bool.and_true, Bool.true_and, Bool.and_false, Bool.false_and, Bool.and_self, Bool.false_eq_true, ↓reduceIte, decide_true, decide_false, Int.toNat_natCast, Bool.toNat_true, Bool.toNat_false, true_and, and_true, false_and, and_false, not_true_eq_false, not_false_eq_true, true_or, or_true, false_or, or_false]; first | done | rfl | (simp only [if_true, if_true, if_false, Bool.and_true, Bool.true_and, Bool.and_false, Bool.false_and, Bool.and_self, Bool.false_eq_true, ↓reduceIte, decide_true, decide_false, Int.toNat_natCast, Bool.toNat_true, Bool.toNat_false, true_and, and_true, false_and, and_false, not_true_eq_false, not_false_eq_true, true_or, or_true, false_or, or_false]; first | done | rfl) | (simp only [if_true]; first | done | rfl) | (simp [if_true]; done) | (simp [if_true]; first | rfl | omega)) | (simp [if_true]; done) | (simp [if_true]; omega) | (simp only [if_true, if_false, Bool.and_true, Bool.true_and, Bool.and_false, Bool.false_and, Bool.and_self, Bool.false_eq_true, ↓reduceIte, decide_true, decide_false, Int.toNat_natCast, Bool.toNat_true, Bool.toNat_false, true_and, and_true, false_and, and_false, not_true_eq_false, not_false_eq_true, true_or, or_true, false_or, or_false]; try simp only [if_true, if_true, if_false, Bool.and_true, Bool.true_and, Bool.and_false, Bool.false_and, Bool.and_self, Bool.false_eq_true, ↓reduceIte, decide_true, decide_false, Int.toNat_natCast, Bool.toNat_true, Bool.toNat_false, true_and, and_true, false_and, and_false, not_true_eq_false, not_false_eq_true, true_or, or_true, false_or, or_false]; rfl))
abbrev rm_X1_endShifts : Room := { frames := 2, cells := 0, slots := 0, locals := 47 }
set_option maxHeartbeats 4000000 in
set_option maxRecDepth 100000 in
theorem k_X1_endShifts (l : Launch) (D : va_G) (cI cB : ClassId) (q : Nat → Nat) (S : St) (r : Nat → Nat) (T : St) (n : Nat) (hn : n ≤ 60) (hsh : S 0 0 < 64000) (hkn : ∀ k, S 1 k < 65536) (hhu : ∀ k, S 2 k < 65536) (ht0 : T 0 0 ≤ 5) (ht10 : T 10 0 ≤ 8) : CtV l yX1_endShifts cX1_endShifts 5 rm_X1_endShifts D cI cB [.ref (q 0), .ref (r 0), .int (iI ((n : Nat) : Int))] (wS q cI S ++ wT r cI T) (wS q cI (stR (stR (stR S 0 (fun _ => (sp_es (T 0 0) (T 10 0) n (S 0 0) (S 1) (S 2)).1)) 1 ((sp_es (T 0 0) (T 10 0) n (S 0 0) (S 1) (S 2)).2.1)) 2 ((sp_es (T 0 0) (T 10 0) n (S 0 0) (S 1) (S 2)).2.2)) ++ wT r cI T) := by
  refine CtV.of RX1 (by decide) rfl (Nat.le_of_ble_eq_true rfl) ?_
  intro p e s m args below meth c H0 ls A hH hA F hr hlk B hl
  have hl : lv_has ls 5 [(0, .ref (q 0)), (1, .ref (r 0)), (2, .int (iI ((n : Nat) : Int)))] := hl
  refine r_ic F 0 dX1_endShifts_0 rfl ?_
  refine r_isn (lv' := [(0, .ref (q 0)), (1, .ref (r 0)), (2, .int (iI ((n : Nat) : Int))), (3, .int (iI ((0 : Nat) : Int)))]) F hl dX1_endShifts_1 rfl (by decide) [1, 2, 3, 0] rfl (fun ls hl => ?_)
  have lp_1 : ∀ (nn_ : Nat) (k : Nat) (x : Nat) (f : Nat → Nat) (g : Nat → Nat) (H : Heap) (locs : List Loc) (ls : Array Slot), n - k < nn_ → (lpR (fun _ => esB (T 0 0) (T 10 0)) n k (x, f, g) = sp_es (T 0 0) (T 10 0) n (S 0 0) (S 1) (S 2)) → (x = S 0 0 + k) → (∀ j, f j < 65536) → (∀ j, g j < 65536) → (k ≤ n) → Bx D A H0 (wS q cI (stR (stR (stR S 0 (fun _ => x)) 1 (f)) 2 (g)) ++ wT r cI T) H locs → lv_has ls 5 [(0, .ref (q 0)), (1, .ref (r 0)), (2, .int (iI ((n : Nat) : Int))), (3, .int (iI ((k : Nat) : Int)))] → W p l e rm_X1_endShifts s m args below meth c H locs 0 0 (Qw below args s D (wS q cI (stR (stR (stR S 0 (fun _ => (sp_es (T 0 0) (T 10 0) n (S 0 0) (S 1) (S 2)).1)) 1 ((sp_es (T 0 0) (T 10 0) n (S 0 0) (S 1) (S 2)).2.1)) 2 ((sp_es (T 0 0) (T 10 0) n (S 0 0) (S 1) (S 2)).2.2)) ++ wT r cI T) A) (F0 m 2 ls []) := by
    intro nn_
    induction nn_ with
    | zero => intro k x f g H locs ls hlt; exact absurd hlt (Nat.not_lt_zero _)
    | succ nn_ ih =>
      have ih_2 := ih; clear ih
      intro k x f g H locs ls hlt hI hx hf hg hk B hl
      have hlt_3 := hlt
      refine r_iln F hl 3 rfl dX1_endShifts_2 rfl ?_
      refine r_iln F hl 2 rfl dX1_endShifts_3 rfl ?_
      refine r_cge 57 F dX1_endShifts_4 (by decide) (by omega) (fun c_4 => ?_) (fun c_4 => ?_)
      · exact r_retV F hr hlk hH B dX1_endShifts_57 (by rw [show sp_es (T 0 0) (T 10 0) n (S 0 0) (S 1) (S 2) = (x, f, g) from by rw [← hI, lpR_end (by omega)]])
      · refine r_ic F 0 dX1_endShifts_7 rfl ?_
        refine r_is (lv' := [(0, .ref (q 0)), (1, .ref (r 0)), (2, .int (iI ((n : Nat) : Int))), (3, .int (iI ((k : Nat) : Int))), (4, .int (iI ((0 : Nat) : Int)))]) F hl dX1_endShifts_8 (by decide) [1, 2, 3, 4, 0] rfl (fun ls hl => ?_)
        have lp_5 : ∀ (nn_ : Nat) (i : Nat) (f1 : Nat → Nat) (g1 : Nat → Nat) (H : Heap) (locs : List Loc) (ls : Array Slot), T 0 0 - i < nn_ → (lpR (esI (T 10 0) x) (T 0 0) i (f1, g1) = esP (T 0 0) (T 10 0) x f g) → (∀ j, f1 j < 65536) → (∀ j, g1 j < 65536) → (i ≤ T 0 0) → Bx D A H0 (wS q cI (stR (stR (stR S 0 (fun _ => x)) 1 (f1)) 2 (g1)) ++ wT r cI T) H locs → lv_has ls 5 [(0, .ref (q 0)), (1, .ref (r 0)), (2, .int (iI ((n : Nat) : Int))), (3, .int (iI ((k : Nat) : Int))), (4, .int (iI ((i : Nat) : Int)))] → W p l e rm_X1_endShifts s m args below meth c H locs 0 0 (Qw below args s D (wS q cI (stR (stR (stR S 0 (fun _ => (sp_es (T 0 0) (T 10 0) n (S 0 0) (S 1) (S 2)).1)) 1 ((sp_es (T 0 0) (T 10 0) n (S 0 0) (S 1) (S 2)).2.1)) 2 ((sp_es (T 0 0) (T 10 0) n (S 0 0) (S 1) (S 2)).2.2)) ++ wT r cI T) A) (F0 m 10 ls []) := by
          intro nn_
          induction nn_ with
          | zero => intro i f1 g1 H locs ls hlt; exact absurd hlt (Nat.not_lt_zero _)
          | succ nn_ ih =>
            have ih_6 := ih; clear ih
            intro i f1 g1 H locs ls hlt hJ hf1 hg1 hk1 B hl
            have hlt_7 := hlt
            refine r_il F hl 4 rfl dX1_endShifts_10 ?_
            refine r_aln F hl 1 rfl dX1_endShifts_12 rfl ?_
            refine gf_X1_45 F B.1 3 rfl (.int (iI ((T 0 0 : Nat) : Int))) rfl dX1_endShifts_13 ?_
            refine r_cge 41 F dX1_endShifts_16 (by decide) (by omega) (fun c_8 => ?_) (fun c_8 => ?_)
            · have hz_ : esP (T 0 0) (T 10 0) x f g = (f1, g1) := by rw [← hJ, lpR_end (by omega)]
              obtain rfl : f1 = (esP (T 0 0) (T 10 0) x f g).1 := by rw [hz_]
              obtain rfl : g1 = (esP (T 0 0) (T 10 0) x f g).2 := by rw [hz_]
              refine r_aln F hl 0 rfl dX1_endShifts_41 rfl ?_
              refine r_dup F dX1_endShifts_42 rfl ?_
              refine gf_X1_18 F B.1 0 rfl (.int (iI ((x : Nat) : Int))) rfl dX1_endShifts_43 ?_
              refine r_ic F 1 dX1_endShifts_46 rfl ?_
              refine r_add F dX1_endShifts_47 ?_
              refine pf_X1_18 F B 0 (wS q cI (stR (stR (stR S 0 (fun _ => (x + 1))) 1 (((esP (T 0 0) (T 10 0) x f g).1))) 2 (((esP (T 0 0) (T 10 0) x f g).2))) ++ wT r cI T) rfl rfl rfl (Nat.le_of_ble_eq_true rfl) rfl dX1_endShifts_48 (fun H locs B => ?_)
              refine r_inc (lv' := [(0, .ref (q 0)), (1, .ref (r 0)), (2, .int (iI ((n : Nat) : Int))), (3, .int (iI (((k + 1) : Nat) : Int))), (4, .int (iI ((i : Nat) : Int)))]) F hl 3 rfl dX1_endShifts_51 1 rfl (by decide) [1, 2, 3, 0, 4] rfl (fun ls hl => ?_)
              refine r_goto 2 F dX1_endShifts_54 (by decide) ?_
              exact ih_2 ((k + 1)) ((x + 1)) (((esP (T 0 0) (T 10 0) x f g).1)) (((esP (T 0 0) (T 10 0) x f g).2)) _ _ ls (by omega) (by have h_ := hI; rw [lpR_step (by omega)] at h_; refine Eq.trans ?_ h_; first | rfl | (simp only [esB, c_4, (Nat.not_le.mpr c_4), c_8, (Nat.not_lt.mp c_8), if_true, if_false, Bool.and_true, Bool.true_and, Bool.and_false, Bool.false_and, Bool.and_self, Bool.false_eq_true, ↓reduceIte, decide_true, decide_false, Int.toNat_natCast, Bool.toNat_true, Bool.toNat_false, true_and, and_true, false_and, and_false, not_true_eq_false, not_false_eq_true, true_or, or_true, false_or, or_false]; done) | (simp [esB, c_4, (Nat.not_le.mpr c_4), c_8, (Nat.not_lt.mp c_8)]; done)) (by omega) hf1 hg1 (by omega) B (lv_sub hl [0, 1, 2, 3] rfl)
            · refine r_aln F hl 0 rfl dX1_endShifts_19 rfl ?_
              refine r_il F hl 4 rfl dX1_endShifts_20 ?_
              refine r_aln F hl 1 rfl dX1_endShifts_22 rfl ?_
              refine gf_X1_48 F B.1 3 rfl (.int (iI ((T 10 0 : Nat) : Int))) rfl dX1_endShifts_23 ?_
              refine r_cv F hA B (k_X1_tellOneAnother l D cI cB (q) ((stR (stR (stR S 0 (fun _ => x)) 1 (f1)) 2 (g1))) (i) (T 10 0) (by omega) hf1) gw_X1_51 [0, 1, 2] rfl rfl [3, 4, 5, 6, 7, 8] (wT r cI T) rfl rfl (by decide) [6, 7, 8, 0, 1, 2, 3, 4, 5] (wS q cI (stR (stR (stR S 0 (fun _ => x)) 1 (tlK (T 10 0) (i) (f1))) 2 (g1)) ++ wT r cI T) rfl rfl rfl rfl ⟨⟨rfl, rfl⟩, Nat.le_of_ble_eq_true rfl, Nat.le_of_ble_eq_true rfl⟩ ⟨Nat.le_of_ble_eq_true rfl, Nat.le_of_ble_eq_true rfl⟩ hl.1 rfl [] rfl (Nat.le_of_ble_eq_true rfl) dX1_endShifts_26 (fun H locs B => ?_)
              have hb_9 : ∀ j_, (tlK (T 10 0) (i) (f1)) j_ < 65536 := tlK_lt hf1
              refine r_aln F hl 0 rfl dX1_endShifts_29 rfl ?_
              refine r_il F hl 4 rfl dX1_endShifts_30 ?_
              refine r_cv F hA B (k_X1_readNotes l D cI cB (q) ((stR (stR (stR S 0 (fun _ => x)) 1 (tlK (T 10 0) (i) (f1))) 2 (g1))) (i) (by omega) (show x < 65000 from by omega) hb_9 hg1) gw_X1_55 [0, 1, 2] rfl rfl [3, 4, 5, 6, 7, 8] (wT r cI T) rfl rfl (by decide) [6, 7, 8, 0, 1, 2, 3, 4, 5] (wS q cI (stR (stR (stR S 0 (fun _ => x)) 1 (nrK (x) (i) (tlK (T 10 0) (i) (f1)) (g1))) 2 (upN (g1) (i) 0)) ++ wT r cI T) rfl rfl rfl rfl ⟨⟨rfl, rfl⟩, Nat.le_of_ble_eq_true rfl, Nat.le_of_ble_eq_true rfl⟩ ⟨Nat.le_of_ble_eq_true rfl, Nat.le_of_ble_eq_true rfl⟩ hl.1 rfl [] rfl (Nat.le_of_ble_eq_true rfl) dX1_endShifts_32 (fun H locs B => ?_)
              have hb_10 : ∀ j_, (nrK (x) (i) (tlK (T 10 0) (i) (f1)) (g1)) j_ < 65536 := nrK_lt hb_9 hg1
              have hb_11 : ∀ j_, (upN (g1) (i) 0) j_ < 65536 := upN_lt hg1 (by decide)
              refine r_inc (lv' := [(0, .ref (q 0)), (1, .ref (r 0)), (2, .int (iI ((n : Nat) : Int))), (3, .int (iI ((k : Nat) : Int))), (4, .int (iI (((i + 1) : Nat) : Int)))]) F hl 4 rfl dX1_endShifts_35 1 rfl (by decide) [1, 2, 3, 4, 0] rfl (fun ls hl => ?_)
              refine r_goto 10 F dX1_endShifts_38 (by decide) ?_
              exact ih_6 ((i + 1)) (nrK (x) (i) (tlK (T 10 0) (i) (f1)) (g1)) (upN (g1) (i) 0) _ _ ls (by omega) (by have h_ := hJ; rw [lpR_step (by omega)] at h_; refine Eq.trans ?_ h_; first | rfl | (simp only [esI, c_4, (Nat.not_le.mpr c_4), c_8, (Nat.not_le.mpr c_8), if_true, if_false, Bool.and_true, Bool.true_and, Bool.and_false, Bool.false_and, Bool.and_self, Bool.false_eq_true, ↓reduceIte, decide_true, decide_false, Int.toNat_natCast, Bool.toNat_true, Bool.toNat_false, true_and, and_true, false_and, and_false, not_true_eq_false, not_false_eq_true, true_or, or_true, false_or, or_false]; done) | (simp [esI, c_4, (Nat.not_le.mpr c_4), c_8, (Nat.not_le.mpr c_8)]; done)) hb_10 hb_11 (by omega) B hl
        exact lp_5 _ (0) (f) (g) _ _ ls (Nat.lt_succ_self _) rfl hf hg (by omega) B hl
  exact lp_1 _ (0) (S 0 0) (S 1) (S 2) _ _ ls (Nat.lt_succ_self _) rfl (by omega) hkn hhu (by omega) B hl
abbrev rm_X1_startFrom : Room := { frames := 1, cells := 0, slots := 0, locals := 40 }
set_option maxHeartbeats 4000000 in
set_option maxRecDepth 100000 in
theorem k_X1_startFrom (l : Launch) (D : va_G) (cI cB : ClassId) (q : Nat → Nat) (S : St) (r : Nat → Nat) (T : St)  : CtV l yX1_startFrom cX1_startFrom 3 rm_X1_startFrom D cI cB [.ref (q 0), .ref (r 0)] (wS q cI S ++ wT r cI T) (wS q cI (stR (stR (stR S 0 (fun _ => 0)) 1 (cpN (T 2) (S 1) 10)) 2 (clr5 (S 2))) ++ wT r cI T) := by
  refine CtV.of RX1 (by decide) rfl (Nat.le_of_ble_eq_true rfl) ?_
  intro p e s m args below meth c H0 ls A hH hA F hr hlk B hl
  have hl : lv_has ls 3 [(0, .ref (q 0)), (1, .ref (r 0))] := hl
  refine r_aln F hl 0 rfl dX1_startFrom_0 rfl ?_
  refine r_ic F 0 dX1_startFrom_1 rfl ?_
  refine pf_X1_18 F B 0 (wS q cI (stR S 0 (fun _ => 0)) ++ wT r cI T) rfl rfl rfl (Nat.le_of_ble_eq_true rfl) rfl dX1_startFrom_2 (fun H locs B => ?_)
  refine r_aln F hl 1 rfl dX1_startFrom_5 rfl ?_
  refine gf_X1_22 F B.1 3 rfl (.ref (r 3)) rfl dX1_startFrom_6 ?_
  refine r_ic F 0 dX1_startFrom_9 rfl ?_
  refine r_aln F hl 0 rfl dX1_startFrom_10 rfl ?_
  refine gf_X1_9 F B.1 0 rfl (.ref (q 2)) rfl dX1_startFrom_11 ?_
  refine r_ic F 0 dX1_startFrom_14 rfl ?_
  refine r_bp F 10 dX1_startFrom_15 rfl ?_
  refine r_cpy (f := T 2) (g := S 1) F km_X1_27 hl.1 (Nat.le_of_ble_eq_true rfl) (Nat.le_of_ble_eq_true rfl) B 5 1 (wS q cI (stR (stR S 0 (fun _ => 0)) 1 (cpN (T 2) (S 1) 10)) ++ wT r cI T) rfl rfl (by decide) (by decide) (by decide) rfl dX1_startFrom_17 (fun H locs B => ?_)
  refine r_ic F 0 dX1_startFrom_20 rfl ?_
  refine r_isn (lv' := [(0, .ref (q 0)), (1, .ref (r 0)), (2, .int (iI ((0 : Nat) : Int)))]) F hl dX1_startFrom_21 rfl (by decide) [1, 2, 0] rfl (fun ls hl => ?_)
  have lp_1 : ∀ (nn_ : Nat) (i : Nat) (g : Nat → Nat) (H : Heap) (locs : List Loc) (ls : Array Slot), 5 - i < nn_ → (lpR (fun i h => upN h i 0) 5 i g = clr5 (S 2)) → (i ≤ 5) → Bx D A H0 (wS q cI (stR (stR (stR S 0 (fun _ => 0)) 1 (cpN (T 2) (S 1) 10)) 2 (g)) ++ wT r cI T) H locs → lv_has ls 3 [(0, .ref (q 0)), (1, .ref (r 0)), (2, .int (iI ((i : Nat) : Int)))] → W p l e rm_X1_startFrom s m args below meth c H locs 0 0 (Qw below args s D (wS q cI (stR (stR (stR S 0 (fun _ => 0)) 1 (cpN (T 2) (S 1) 10)) 2 (clr5 (S 2))) ++ wT r cI T) A) (F0 m 22 ls []) := by
    intro nn_
    induction nn_ with
    | zero => intro i g H locs ls hlt; exact absurd hlt (Nat.not_lt_zero _)
    | succ nn_ ih =>
      have ih_2 := ih; clear ih
      intro i g H locs ls hlt hI hk B hl
      have hlt_3 := hlt
      refine r_iln F hl 2 rfl dX1_startFrom_22 rfl ?_
      refine r_ic F 5 dX1_startFrom_23 rfl ?_
      refine r_cge 40 F dX1_startFrom_24 (by decide) (by omega) (fun c_4 => ?_) (fun c_4 => ?_)
      · exact r_retV F hr hlk hH B dX1_startFrom_40 (by rw [show g = clr5 (S 2) from by rw [← hI, lpR_end (by omega)]])
      · refine r_aln F hl 0 rfl dX1_startFrom_27 rfl ?_
        refine gf_X1_15 F B.1 0 rfl (.ref (q 3)) rfl dX1_startFrom_28 ?_
        refine r_iln F hl 2 rfl dX1_startFrom_31 rfl ?_
        refine r_ic F 0 dX1_startFrom_32 rfl ?_
        refine r_ast (f := g) F B 2 (wS q cI (stR (stR (stR S 0 (fun _ => 0)) 1 (cpN (T 2) (S 1) 10)) 2 (upN (g) (i) (0))) ++ wT r cI T) rfl dX1_startFrom_33 (by decide) (by omega) rfl (fun H locs B => ?_)
        refine r_inc (lv' := [(0, .ref (q 0)), (1, .ref (r 0)), (2, .int (iI (((i + 1) : Nat) : Int)))]) F hl 2 rfl dX1_startFrom_34 1 rfl (by decide) [1, 2, 0] rfl (fun ls hl => ?_)
        refine r_goto 22 F dX1_startFrom_37 (by decide) ?_
        exact ih_2 ((i + 1)) (upN (g) (i) (0)) _ _ ls (by omega) (by have h_ := hI; rw [lpR_step (by omega)] at h_; refine Eq.trans ?_ h_; first | rfl | (simp only [c_4, (Nat.not_le.mpr c_4), if_true, if_false, Bool.and_true, Bool.true_and, Bool.and_false, Bool.false_and, Bool.and_self, Bool.false_eq_true, ↓reduceIte, decide_true, decide_false, Int.toNat_natCast, Bool.toNat_true, Bool.toNat_false, true_and, and_true, false_and, and_false, not_true_eq_false, not_false_eq_true, true_or, or_true, false_or, or_false]; done) | (simp [c_4, (Nat.not_le.mpr c_4)]; done)) (by omega) B hl
  exact lp_1 _ (0) (S 2) _ _ ls (Nat.lt_succ_self _) rfl (by omega) B hl
abbrev rm_X1_copyFrom : Room := { frames := 1, cells := 0, slots := 0, locals := 40 }
set_option maxHeartbeats 4000000 in
set_option maxRecDepth 100000 in
theorem k_X1_copyFrom (l : Launch) (D : va_G) (cI cB : ClassId) (q : Nat → Nat) (S : St) (u : Nat → Nat) (S2 : St)  : CtV l yX1_copyFrom cX1_copyFrom 2 rm_X1_copyFrom D cI cB [.ref (q 0), .ref (u 0)] (wS q cI S ++ wS u cI S2) (wS q cI (stR (stR (stR S 0 (fun _ => S2 0 0)) 1 (cpN (S2 1) (S 1) 10)) 2 (cpN (S2 2) (S 2) 5)) ++ wS u cI S2) := by
  refine CtV.of RX1 (by decide) rfl (Nat.le_of_ble_eq_true rfl) ?_
  intro p e s m args below meth c H0 ls A hH hA F hr hlk B hl
  have hl : lv_has ls 2 [(0, .ref (q 0)), (1, .ref (u 0))] := hl
  refine r_aln F hl 0 rfl dX1_copyFrom_0 rfl ?_
  refine r_aln F hl 1 rfl dX1_copyFrom_1 rfl ?_
  refine gf_X1_18 F B.1 3 rfl (.int (iI ((S2 0 0 : Nat) : Int))) rfl dX1_copyFrom_2 ?_
  refine pf_X1_18 F B 0 (wS q cI (stR S 0 (fun _ => S2 0 0)) ++ wS u cI S2) rfl rfl rfl (Nat.le_of_ble_eq_true rfl) rfl dX1_copyFrom_5 (fun H locs B => ?_)
  refine r_aln F hl 1 rfl dX1_copyFrom_8 rfl ?_
  refine gf_X1_9 F B.1 3 rfl (.ref (u 2)) rfl dX1_copyFrom_9 ?_
  refine r_ic F 0 dX1_copyFrom_12 rfl ?_
  refine r_aln F hl 0 rfl dX1_copyFrom_13 rfl ?_
  refine gf_X1_9 F B.1 0 rfl (.ref (q 2)) rfl dX1_copyFrom_14 ?_
  refine r_ic F 0 dX1_copyFrom_17 rfl ?_
  refine r_bp F 10 dX1_copyFrom_18 rfl ?_
  refine r_cpy (f := S2 1) (g := S 1) F km_X1_27 hl.1 (Nat.le_of_ble_eq_true rfl) (Nat.le_of_ble_eq_true rfl) B 4 1 (wS q cI (stR (stR S 0 (fun _ => S2 0 0)) 1 (cpN (S2 1) (S 1) 10)) ++ wS u cI S2) rfl rfl (by decide) (by decide) (by decide) rfl dX1_copyFrom_20 (fun H locs B => ?_)
  refine r_aln F hl 1 rfl dX1_copyFrom_23 rfl ?_
  refine gf_X1_15 F B.1 3 rfl (.ref (u 3)) rfl dX1_copyFrom_24 ?_
  refine r_ic F 0 dX1_copyFrom_27 rfl ?_
  refine r_aln F hl 0 rfl dX1_copyFrom_28 rfl ?_
  refine gf_X1_15 F B.1 0 rfl (.ref (q 3)) rfl dX1_copyFrom_29 ?_
  refine r_ic F 0 dX1_copyFrom_32 rfl ?_
  refine r_ic F 5 dX1_copyFrom_33 rfl ?_
  refine r_cpy (f := S2 2) (g := S 2) F km_X1_27 hl.1 (Nat.le_of_ble_eq_true rfl) (Nat.le_of_ble_eq_true rfl) B 5 2 (wS q cI (stR (stR (stR S 0 (fun _ => S2 0 0)) 1 (cpN (S2 1) (S 1) 10)) 2 (cpN (S2 2) (S 2) 5)) ++ wS u cI S2) rfl rfl (by decide) (by decide) (by decide) rfl dX1_copyFrom_34 (fun H locs B => ?_)
  exact r_retV F hr hlk hH B dX1_copyFrom_37 (by first | rfl | (simp only [if_true, if_false, Bool.and_true, Bool.true_and, Bool.and_false, Bool.false_and, Bool.and_self, Bool.false_eq_true, ↓reduceIte, decide_true, decide_false, Int.toNat_natCast, Bool.toNat_true, Bool.toNat_false, true_and, and_true, false_and, and_false, not_true_eq_false, not_false_eq_true, true_or, or_true, false_or, or_false]; first | done | rfl | (simp only [if_true, if_true, if_false, Bool.and_true, Bool.true_and, Bool.and_false, Bool.false_and, Bool.and_self, Bool.false_eq_true, ↓reduceIte, decide_true, decide_false, Int.toNat_natCast, Bool.toNat_true, Bool.toNat_false, true_and, and_true, false_and, and_false, not_true_eq_false, not_false_eq_true, true_or, or_true, false_or, or_false]; first | done | rfl) | (simp only [if_true]; first | done | rfl) | (simp [if_true]; done) | (simp [if_true]; first | rfl | omega)) | (simp [if_true]; done) | (simp [if_true]; omega) | (simp only [if_true, if_false, Bool.and_true, Bool.true_and, Bool.and_false, Bool.false_and, Bool.and_self, Bool.false_eq_true, ↓reduceIte, decide_true, decide_false, Int.toNat_natCast, Bool.toNat_true, Bool.toNat_false, true_and, and_true, false_and, and_false, not_true_eq_false, not_false_eq_true, true_or, or_true, false_or, or_false]; try simp only [if_true, if_true, if_false, Bool.and_true, Bool.true_and, Bool.and_false, Bool.false_and, Bool.and_self, Bool.false_eq_true, ↓reduceIte, decide_true, decide_false, Int.toNat_natCast, Bool.toNat_true, Bool.toNat_false, true_and, and_true, false_and, and_false, not_true_eq_false, not_false_eq_true, true_or, or_true, false_or, or_false]; rfl))
