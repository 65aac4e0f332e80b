abbrev rm_X4_byteAt : Room := { frames := 0, cells := 0, slots := 0, locals := 0 }
set_option maxHeartbeats 4000000 in
set_option maxRecDepth 100000 in
theorem k_X4_byteAt (l : Launch) (D : va_G) (cI cB : ClassId) (q : Nat → Nat) (M : St) (k : Nat) (hk : k < 65536) (hlen : M 1 0 ≤ 300) (htx : ∀ k, M 0 k < 256) : CtQ l yX4_byteAt cX4_byteAt 2 (some .int) rm_X4_byteAt D cI cB [.ref (q 0), .int (iI ((k : Nat) : Int))] (wM q cI M) ((iI (sp_byte (M 0) (M 1 0) k))) := by
  refine CtQ.of RX4 (by decide) rfl (Nat.le_of_ble_eq_true rfl) ?_
  intro p e s m args below meth c H ls hH F hr hlk P hl
  have hl : lv_has ls 2 [(0, .ref (q 0)), (1, .int (iI ((k : Nat) : Int)))] := hl
  refine r_iln F hl 1 rfl dX4_byteAt_0 rfl ?_
  refine r_aln F hl 0 rfl dX4_byteAt_1 rfl ?_
  refine gf_X4_44 F P 0 rfl (.int (iI ((M 1 0 : Nat) : Int))) rfl dX4_byteAt_2 ?_
  refine r_cge 17 F dX4_byteAt_5 (by decide) (by omega) (fun c_1 => ?_) (fun c_1 => ?_)
  · refine r_icz F (-1) dX4_byteAt_17 rfl ?_
    exact r_retQ F hr hlk hH dX4_byteAt_18 (by first | rfl | (simp only [sp_byte, if_true, if_false, Bool.and_true, Bool.true_and, Bool.and_false, Bool.false_and, Bool.and_self, Bool.false_eq_true, ↓reduceIte, decide_true, decide_false, Int.toNat_natCast, Bool.toNat_true, Bool.toNat_false]; first | done | rfl | (simp only [c_1, (Nat.not_lt.mp c_1), if_true, if_false, Bool.and_true, Bool.true_and, Bool.and_false, Bool.false_and, Bool.and_self, Bool.false_eq_true, ↓reduceIte, decide_true, decide_false, Int.toNat_natCast, Bool.toNat_true, Bool.toNat_false]; first | done | rfl) | (simp only [if_neg c_1, if_pos (Nat.not_lt.mp c_1)]; first | done | rfl) | (simp [c_1, (Nat.not_lt.mp c_1)]; done) | (simp [c_1, (Nat.not_lt.mp c_1)]; first | rfl | omega)) | (simp [sp_byte, c_1, (Nat.not_lt.mp c_1)]; done) | (simp [sp_byte, c_1, (Nat.not_lt.mp c_1)]; omega) | (simp only [sp_byte, if_true, if_false, Bool.and_true, Bool.true_and, Bool.and_false, Bool.false_and, Bool.and_self, Bool.false_eq_true, ↓reduceIte, decide_true, decide_false, Int.toNat_natCast, Bool.toNat_true, Bool.toNat_false]; try simp only [c_1, (Nat.not_lt.mp c_1), if_true, if_false, Bool.and_true, Bool.true_and, Bool.and_false, Bool.false_and, Bool.and_self, Bool.false_eq_true, ↓reduceIte, decide_true, decide_false, Int.toNat_natCast, Bool.toNat_true, Bool.toNat_false]; rfl))
  · refine r_aln F hl 0 rfl dX4_byteAt_8 rfl ?_
    refine gf_X4_7 F P 0 rfl (.ref (q 1)) rfl dX4_byteAt_9 ?_
    refine r_iln F hl 1 rfl dX4_byteAt_12 rfl ?_
    refine r_ald (f := M 0) F P 1 rfl dX4_byteAt_13 (by decide) (by omega) ?_
    have b_2 : M 0 (k) < 256 := htx (k)
    refine r_goto 18 F dX4_byteAt_14 (by decide) ?_
    exact r_retQ F hr hlk hH dX4_byteAt_18 (by first | rfl | (simp only [sp_byte, if_true, if_false, Bool.and_true, Bool.true_and, Bool.and_false, Bool.false_and, Bool.and_self, Bool.false_eq_true, ↓reduceIte, decide_true, decide_false, Int.toNat_natCast, Bool.toNat_true, Bool.toNat_false]; first | done | rfl | (simp only [c_1, (Nat.not_le.mpr c_1), if_true, if_false, Bool.and_true, Bool.true_and, Bool.and_false, Bool.false_and, Bool.and_self, Bool.false_eq_true, ↓reduceIte, decide_true, decide_false, Int.toNat_natCast, Bool.toNat_true, Bool.toNat_false]; first | done | rfl) | (simp only [if_pos c_1, if_neg (Nat.not_le.mpr c_1)]; first | done | rfl) | (simp [c_1, (Nat.not_le.mpr c_1)]; done) | (simp [c_1, (Nat.not_le.mpr c_1)]; first | rfl | omega)) | (simp [sp_byte, c_1, (Nat.not_le.mpr c_1)]; done) | (simp [sp_byte, c_1, (Nat.not_le.mpr c_1)]; omega) | (simp only [sp_byte, if_true, if_false, Bool.and_true, Bool.true_and, Bool.and_false, Bool.false_and, Bool.and_self, Bool.false_eq_true, ↓reduceIte, decide_true, decide_false, Int.toNat_natCast, Bool.toNat_true, Bool.toNat_false]; try simp only [c_1, (Nat.not_le.mpr c_1), if_true, if_false, Bool.and_true, Bool.true_and, Bool.and_false, Bool.false_and, Bool.and_self, Bool.false_eq_true, ↓reduceIte, decide_true, decide_false, Int.toNat_natCast, Bool.toNat_true, Bool.toNat_false]; rfl))
abbrev rm_X4_isFigure : Room := { frames := 1, cells := 0, slots := 0, locals := 22 }
set_option maxHeartbeats 4000000 in
set_option maxRecDepth 100000 in
theorem k_X4_isFigure (l : Launch) (D : va_G) (cI cB : ClassId) (q : Nat → Nat) (M : St) (hk : M 12 0 < 65536) (hlen : M 1 0 ≤ 300) (htx : ∀ k, M 0 k < 256) : CtQ l yX4_isFigure cX4_isFigure 1 (some .boolean) rm_X4_isFigure D cI cB [.ref (q 0)] (wM q cI M) ((iI ((Bool.toNat (isFig (M 0) (M 1 0) (M 12 0)) : Nat) : Int))) := by
  refine CtQ.of RX4 (by decide) rfl (Nat.le_of_ble_eq_true rfl) ?_
  intro p e s m args below meth c H ls hH F hr hlk P hl
  have hl : lv_has ls 1 [(0, .ref (q 0))] := hl
  refine r_aln F hl 0 rfl dX4_isFigure_0 rfl ?_
  refine r_aln F hl 0 rfl dX4_isFigure_1 rfl ?_
  refine gf_X4_50 F P 0 rfl (.int (iI ((M 12 0 : Nat) : Int))) rfl dX4_isFigure_2 ?_
  refine r_cq (r := (iI (sp_byte (M 0) (M 1 0) (M 12 0)))) F P (k_X4_byteAt l D cI cB (q) (M) (M 12 0) (by omega) hlen htx) gw_X4_53 [0, 1, 2, 3, 4, 5, 6, 7, 8, 9, 10] rfl rfl rfl ⟨⟨rfl, rfl⟩, Nat.le_of_ble_eq_true rfl, Nat.le_of_ble_eq_true rfl⟩ ⟨Nat.le_of_ble_eq_true rfl, Nat.le_of_ble_eq_true rfl⟩ hl.1 rfl [] rfl (Nat.le_of_ble_eq_true rfl) dX4_isFigure_5 ?_
  have hq_ := @byte_val (M 0) (M 1 0) (M 12 0) htx
  refine r_bp F 48 dX4_isFigure_8 rfl ?_
  refine r_bp F 57 dX4_isFigure_10 rfl ?_
  refine r_sq (r := (iI ((Bool.toNat (isIn (sp_byte (M 0) (M 1 0) (M 12 0)) ((48 : Int)) ((57 : Int))) : Nat) : Int))) F P (k_X4_in l D cI cB (sp_byte (M 0) (M 1 0) (M 12 0)) ((48 : Int)) ((57 : Int)) (by omega) (by omega) (by omega)) gw_X4_40 [] rfl ⟨⟨rfl, rfl⟩, Nat.le_of_ble_eq_true rfl, Nat.le_of_ble_eq_true rfl⟩ ⟨Nat.le_of_ble_eq_true rfl, Nat.le_of_ble_eq_true rfl⟩ hl.1 rfl [] rfl (Nat.le_of_ble_eq_true rfl) dX4_isFigure_12 ?_
  exact r_retQb F hr hlk hH dX4_isFigure_15 rfl
abbrev rm_X4_isHalf : Room := { frames := 0, cells := 0, slots := 0, locals := 0 }
set_option maxHeartbeats 4000000 in
set_option maxRecDepth 100000 in
theorem k_X4_isHalf (l : Launch) (D : va_G) (cI cB : ClassId) (q : Nat → Nat) (M : St) (k : Nat) (hk : k ≤ 2) (htd : ∀ k, M 13 k < 1000) (hdr : ∀ k, M 3 k < 256) : CtQ l yX4_isHalf cX4_isHalf 2 (some .boolean) rm_X4_isHalf D cI cB [.ref (q 0), .int (iI ((k : Nat) : Int))] (wM q cI M) ((iI ((Bool.toNat (isH (M 13) (M 3) k) : Nat) : Int))) := by
  refine CtQ.of RX4 (by decide) rfl (Nat.le_of_ble_eq_true rfl) ?_
  intro p e s m args below meth c H ls hH F hr hlk P hl
  have hl : lv_has ls 2 [(0, .ref (q 0)), (1, .int (iI ((k : Nat) : Int)))] := hl
  refine r_aln F hl 0 rfl dX4_isHalf_0 rfl ?_
  refine gf_X4_37 F P 0 rfl (.ref (q 14)) rfl dX4_isHalf_1 ?_
  refine r_iln F hl 1 rfl dX4_isHalf_4 rfl ?_
  refine r_ald (f := M 13) F P 10 rfl dX4_isHalf_5 (by decide) (by omega) ?_
  have b_1 : M 13 (k) < 1000 := htd (k)
  refine r_aln F hl 0 rfl dX4_isHalf_6 rfl ?_
  refine gf_X4_16 F P 0 rfl (.ref (q 4)) rfl dX4_isHalf_7 ?_
  refine r_ic F 0 dX4_isHalf_10 rfl ?_
  refine r_ald (f := M 3) F P 3 rfl dX4_isHalf_11 (by decide) (by omega) ?_
  have b_2 : M 3 (0) < 256 := hdr (0)
  refine r_cge 31 F dX4_isHalf_12 (by decide) (by omega) (fun c_3 => ?_) (fun c_3 => ?_)
  · refine r_icb F false dX4_isHalf_31 rfl ?_
    exact r_retQb F hr hlk hH dX4_isHalf_32 (by first | rfl | (simp only [isH, if_true, if_false, Bool.and_true, Bool.true_and, Bool.and_false, Bool.false_and, Bool.and_self, Bool.false_eq_true, ↓reduceIte, decide_true, decide_false, Int.toNat_natCast, Bool.toNat_true, Bool.toNat_false]; first | done | rfl | (simp only [c_3, (Nat.not_lt.mp c_3), if_true, if_false, Bool.and_true, Bool.true_and, Bool.and_false, Bool.false_and, Bool.and_self, Bool.false_eq_true, ↓reduceIte, decide_true, decide_false, Int.toNat_natCast, Bool.toNat_true, Bool.toNat_false]; first | done | rfl) | (simp only [if_neg c_3, if_pos (Nat.not_lt.mp c_3)]; first | done | rfl) | (simp [c_3, (Nat.not_lt.mp c_3)]; done) | (simp [c_3, (Nat.not_lt.mp c_3)]; first | rfl | omega)) | (simp [isH, c_3, (Nat.not_lt.mp c_3)]; done) | (simp [isH, c_3, (Nat.not_lt.mp c_3)]; omega) | (simp only [isH, if_true, if_false, Bool.and_true, Bool.true_and, Bool.and_false, Bool.false_and, Bool.and_self, Bool.false_eq_true, ↓reduceIte, decide_true, decide_false, Int.toNat_natCast, Bool.toNat_true, Bool.toNat_false]; try simp only [c_3, (Nat.not_lt.mp c_3), if_true, if_false, Bool.and_true, Bool.true_and, Bool.and_false, Bool.false_and, Bool.and_self, Bool.false_eq_true, ↓reduceIte, decide_true, decide_false, Int.toNat_natCast, Bool.toNat_true, Bool.toNat_false]; rfl))
  · refine r_aln F hl 0 rfl dX4_isHalf_15 rfl ?_
    refine gf_X4_37 F P 0 rfl (.ref (q 14)) rfl dX4_isHalf_16 ?_
    refine r_iln F hl 1 rfl dX4_isHalf_19 rfl ?_
    refine r_ic F 1 dX4_isHalf_20 rfl ?_
    refine r_add F dX4_isHalf_21 ?_
    refine r_ald (f := M 13) F P 10 rfl dX4_isHalf_22 (by decide) (by omega) ?_
    have b_4 : M 13 ((k + 1)) < 1000 := htd ((k + 1))
    refine r_ic F 2 dX4_isHalf_23 rfl ?_
    refine r_cge 31 F dX4_isHalf_24 (by decide) (by omega) (fun c_5 => ?_) (fun c_5 => ?_)
    · refine r_icb F false dX4_isHalf_31 rfl ?_
      exact r_retQb F hr hlk hH dX4_isHalf_32 (by first | rfl | (simp only [isH, if_true, if_false, Bool.and_true, Bool.true_and, Bool.and_false, Bool.false_and, Bool.and_self, Bool.false_eq_true, ↓reduceIte, decide_true, decide_false, Int.toNat_natCast, Bool.toNat_true, Bool.toNat_false]; first | done | rfl | (simp only [c_3, (Nat.not_le.mpr c_3), c_5, (Nat.not_lt.mp c_5), if_true, if_false, Bool.and_true, Bool.true_and, Bool.and_false, Bool.false_and, Bool.and_self, Bool.false_eq_true, ↓reduceIte, decide_true, decide_false, Int.toNat_natCast, Bool.toNat_true, Bool.toNat_false]; first | done | rfl) | (simp only [if_pos c_3, if_neg (Nat.not_le.mpr c_3), if_neg c_5, if_pos (Nat.not_lt.mp c_5)]; first | done | rfl) | (simp [c_3, (Nat.not_le.mpr c_3), c_5, (Nat.not_lt.mp c_5)]; done) | (simp [c_3, (Nat.not_le.mpr c_3), c_5, (Nat.not_lt.mp c_5)]; first | rfl | omega)) | (simp [isH, c_3, (Nat.not_le.mpr c_3), c_5, (Nat.not_lt.mp c_5)]; done) | (simp [isH, c_3, (Nat.not_le.mpr c_3), c_5, (Nat.not_lt.mp c_5)]; omega) | (simp only [isH, if_true, if_false, Bool.and_true, Bool.true_and, Bool.and_false, Bool.false_and, Bool.and_self, Bool.false_eq_true, ↓reduceIte, decide_true, decide_false, Int.toNat_natCast, Bool.toNat_true, Bool.toNat_false]; try simp only [c_3, (Nat.not_le.mpr c_3), c_5, (Nat.not_lt.mp c_5), if_true, if_false, Bool.and_true, Bool.true_and, Bool.and_false, Bool.false_and, Bool.and_self, Bool.false_eq_true, ↓reduceIte, decide_true, decide_false, Int.toNat_natCast, Bool.toNat_true, Bool.toNat_false]; rfl))
    · refine r_icb F true dX4_isHalf_27 rfl ?_
      refine r_goto 32 F dX4_isHalf_28 (by decide) ?_
      exact r_retQb F hr hlk hH dX4_isHalf_32 (by first | rfl | (simp only [isH, if_true, if_false, Bool.and_true, Bool.true_and, Bool.and_false, Bool.false_and, Bool.and_self, Bool.false_eq_true, ↓reduceIte, decide_true, decide_false, Int.toNat_natCast, Bool.toNat_true, Bool.toNat_false]; first | done | rfl | (simp only [c_3, (Nat.not_le.mpr c_3), c_5, (Nat.not_le.mpr c_5), if_true, if_false, Bool.and_true, Bool.true_and, Bool.and_false, Bool.false_and, Bool.and_self, Bool.false_eq_true, ↓reduceIte, decide_true, decide_false, Int.toNat_natCast, Bool.toNat_true, Bool.toNat_false]; first | done | rfl) | (simp only [if_pos c_3, if_neg (Nat.not_le.mpr c_3), if_pos c_5, if_neg (Nat.not_le.mpr c_5)]; first | done | rfl) | (simp [c_3, (Nat.not_le.mpr c_3), c_5, (Nat.not_le.mpr c_5)]; done) | (simp [c_3, (Nat.not_le.mpr c_3), c_5, (Nat.not_le.mpr c_5)]; first | rfl | omega)) | (simp [isH, c_3, (Nat.not_le.mpr c_3), c_5, (Nat.not_le.mpr c_5)]; done) | (simp [isH, c_3, (Nat.not_le.mpr c_3), c_5, (Nat.not_le.mpr c_5)]; omega) | (simp only [isH, if_true, if_false, Bool.and_true, Bool.true_and, Bool.and_false, Bool.false_and, Bool.and_self, Bool.false_eq_true, ↓reduceIte, decide_true, decide_false, Int.toNat_natCast, Bool.toNat_true, Bool.toNat_false]; try simp only [c_3, (Nat.not_le.mpr c_3), c_5, (Nat.not_le.mpr c_5), if_true, if_false, Bool.and_true, Bool.true_and, Bool.and_false, Bool.false_and, Bool.and_self, Bool.false_eq_true, ↓reduceIte, decide_true, decide_false, Int.toNat_natCast, Bool.toNat_true, Bool.toNat_false]; rfl))
abbrev rm_X4_numbers : Room := { frames := 2, cells := 0, slots := 0, locals := 42 }
set_option maxHeartbeats 4000000 in
set_option maxRecDepth 100000 in
theorem k_X4_numbers (l : Launch) (D : va_G) (cI cB : ClassId) (q : Nat → Nat) (M : St) (w : Nat) (hw : 1 ≤ w ∧ w ≤ 4) (hlen : M 1 0 ≤ 300) (htx : ∀ k, M 0 k < 256) (hat : M 12 0 ≤ M 1 0) (htd : ∀ k, M 13 k < 1000) : CtU l yX4_numbers cX4_numbers 5 (some .boolean) rm_X4_numbers D cI cB [.ref (q 0), .int (iI ((w : Nat) : Int))] (wM q cI M) (wM q cI (stR (stR M 12 (fun _ => (sp_num (M 0) (M 1 0) w (M 12 0) (M 13)).2.1)) 13 ((sp_num (M 0) (M 1 0) w (M 12 0) (M 13)).2.2))) ((iI ((Bool.toNat ((sp_num (M 0) (M 1 0) w (M 12 0) (M 13)).1) : Nat) : Int))) := by
  refine CtU.of RX4 (by decide) rfl (Nat.le_of_ble_eq_true rfl) ?_
  intro p e s m args below meth c H0 ls A hH hA F hr hlk B hl
  have hl : lv_has ls 5 [(0, .ref (q 0)), (1, .int (iI ((w : Nat) : Int)))] := hl
  refine r_ic F 0 dX4_numbers_0 rfl ?_
  refine r_isn (lv' := [(0, .ref (q 0)), (1, .int (iI ((w : Nat) : Int))), (2, .int (iI ((0 : Nat) : Int)))]) F hl dX4_numbers_1 rfl (by decide) [1, 2, 0] rfl (fun ls hl => ?_)
  have lp_1 : ∀ (nn_ : Nat) (mu : Nat) (k : Nat) (a : Nat) (g : Nat → Nat) (H : Heap) (locs : List Loc) (ls : Array Slot), mu < nn_ → (nmO (M 0) (M 1 0) w mu k a g = sp_num (M 0) (M 1 0) w (M 12 0) (M 13)) → (a ≤ M 1 0) → (∀ j, g j < 1000) → (k + mu = w) → Bx D A H0 (wM q cI (stR (stR M 12 (fun _ => a)) 13 (g))) H locs → lv_has ls 5 [(0, .ref (q 0)), (1, .int (iI ((w : Nat) : Int))), (2, .int (iI ((k : Nat) : Int)))] → W p l e rm_X4_numbers s m args below meth c H locs 0 0 (Qu below args s D ((iI ((Bool.toNat ((sp_num (M 0) (M 1 0) w (M 12 0) (M 13)).1) : Nat) : Int))) (wM q cI (stR (stR M 12 (fun _ => (sp_num (M 0) (M 1 0) w (M 12 0) (M 13)).2.1)) 13 ((sp_num (M 0) (M 1 0) w (M 12 0) (M 13)).2.2))) A) (F0 m 2 ls []) := by
    intro nn_
    induction nn_ with
    | zero => intro mu k a g H locs ls hlt; exact absurd hlt (Nat.not_lt_zero _)
    | succ nn_ ih =>
      have ih_2 := ih; clear ih
      intro mu k a g H locs ls hlt hI ha hg hk B hl
      have hlt_3 := hlt
      refine r_iln F hl 2 rfl dX4_numbers_2 rfl ?_
      refine r_iln F hl 1 rfl dX4_numbers_3 rfl ?_
      refine r_cge 123 F dX4_numbers_4 (by decide) (by omega) (fun c_4 => ?_) (fun c_4 => ?_)
      · have hz_ : sp_num (M 0) (M 1 0) w (M 12 0) (M 13) = (true, a, g) := by rw [← hI, show mu = 0 from by omega]; rfl
        refine r_icb F true dX4_numbers_123 rfl ?_
        exact r_retUb F hr hlk hH B dX4_numbers_124 (by rw [hz_]) (by rw [hz_])
      · obtain ⟨mu2, rfl⟩ : ∃ x, mu = x + 1 := ⟨mu - 1, by omega⟩
        refine r_aln F hl 0 rfl dX4_numbers_7 rfl ?_
        refine gf_X4_50 F B.1 0 rfl (.int (iI ((a : Nat) : Int))) rfl dX4_numbers_8 ?_
        refine r_isn (lv' := [(0, .ref (q 0)), (1, .int (iI ((w : Nat) : Int))), (2, .int (iI ((k : Nat) : Int))), (3, .int (iI ((a : Nat) : Int)))]) F hl dX4_numbers_11 rfl (by decide) [1, 2, 3, 0] rfl (fun ls hl => ?_)
        refine r_ic F 0 dX4_numbers_12 rfl ?_
        refine r_is (lv' := [(0, .ref (q 0)), (1, .int (iI ((w : Nat) : Int))), (2, .int (iI ((k : Nat) : Int))), (3, .int (iI ((a : Nat) : Int))), (4, .int (iI ((0 : Nat) : Int)))]) F hl dX4_numbers_13 (by decide) [1, 2, 3, 4, 0] rfl (fun ls hl => ?_)
        have lp_5 : ∀ (nn_ : Nat) (mm : Nat) (a2 : Nat) (v : Nat) (H : Heap) (locs : List Loc) (ls : Array Slot), mm < nn_ → (nmI (M 0) (M 1 0) mm a2 v = nmI (M 0) (M 1 0) 3 a 0) → (a2 + mm = a + 3) → (a ≤ a2 ∧ a2 ≤ M 1 0) → ((mm = 3 ∧ v < 1) ∨ (mm = 2 ∧ v < 10) ∨ (mm = 1 ∧ v < 100) ∨ (mm = 0 ∧ v < 1000)) → Bx D A H0 (wM q cI (stR (stR M 12 (fun _ => a2)) 13 (g))) H locs → lv_has ls 5 [(0, .ref (q 0)), (1, .int (iI ((w : Nat) : Int))), (2, .int (iI ((k : Nat) : Int))), (3, .int (iI ((a : Nat) : Int))), (4, .int (iI ((v : Nat) : Int)))] → W p l e rm_X4_numbers s m args below meth c H locs 0 0 (Qu below args s D ((iI ((Bool.toNat ((sp_num (M 0) (M 1 0) w (M 12 0) (M 13)).1) : Nat) : Int))) (wM q cI (stR (stR M 12 (fun _ => (sp_num (M 0) (M 1 0) w (M 12 0) (M 13)).2.1)) 13 ((sp_num (M 0) (M 1 0) w (M 12 0) (M 13)).2.2))) A) (F0 m 15 ls []) := by
          intro nn_
          induction nn_ with
          | zero => intro mm a2 v H locs ls hlt; exact absurd hlt (Nat.not_lt_zero _)
          | succ nn_ ih =>
            have ih_6 := ih; clear ih
            intro mm a2 v H locs ls hlt hJ hm ha2 hv B hl
            have hlt_7 := hlt
            refine r_aln F hl 0 rfl dX4_numbers_15 rfl ?_
            refine gf_X4_50 F B.1 0 rfl (.int (iI ((a2 : Nat) : Int))) rfl dX4_numbers_16 ?_
            refine r_iln F hl 3 rfl dX4_numbers_19 rfl ?_
            refine r_ic F 3 dX4_numbers_20 rfl ?_
            refine r_add F dX4_numbers_21 ?_
            refine r_cge 64 F dX4_numbers_22 (by decide) (by omega) (fun c_8 => ?_) (fun c_8 => ?_)
            · have he_ : nmI (M 0) (M 1 0) 3 a 0 = (a2, v) := by rw [← hJ, show mm = 0 from by omega]; rfl
              refine r_aln F hl 0 rfl dX4_numbers_64 rfl ?_
              refine gf_X4_37 F B.1 0 rfl (.ref (q 14)) rfl dX4_numbers_65 ?_
              refine r_iln F hl 2 rfl dX4_numbers_68 rfl ?_
              refine r_il F hl 4 rfl dX4_numbers_69 ?_
              have hb_9 : ∀ j_, upN (g) (k) (v) j_ < 1000 := upN_lt hg (by omega)
              refine r_ast (f := g) F B 10 (wM q cI (stR (stR M 12 (fun _ => a2)) 13 (upN (g) (k) (v)))) rfl dX4_numbers_71 (by decide) (by omega) rfl (fun H locs B => ?_)
              refine r_aln F hl 0 rfl dX4_numbers_72 rfl ?_
              refine gf_X4_50 F B.1 0 rfl (.int (iI ((a2 : Nat) : Int))) rfl dX4_numbers_73 ?_
              refine r_iln F hl 3 rfl dX4_numbers_76 rfl ?_
              refine r_ceq 105 F dX4_numbers_77 (by decide) (by omega) (fun c_10 => ?_) (fun c_10 => ?_)
              · have hz_ : sp_num (M 0) (M 1 0) w (M 12 0) (M 13) = (false, a2, upN g k v) := by rw [← hI, nmO_stop (by rw [he_]; simp only; omega), he_]
                refine r_icb F false dX4_numbers_105 rfl ?_
                exact r_retUb F hr hlk hH B dX4_numbers_106 (by rw [hz_]) (by rw [hz_])
              · refine r_aln F hl 0 rfl dX4_numbers_80 rfl ?_
                refine r_aln F hl 0 rfl dX4_numbers_81 rfl ?_
                refine gf_X4_50 F B.1 0 rfl (.int (iI ((a2 : Nat) : Int))) rfl dX4_numbers_82 ?_
                refine r_cq (r := (iI (sp_byte (M 0) (M 1 0) (a2)))) F B.1 (k_X4_byteAt l D cI cB (q) ((stR (stR M 12 (fun _ => a2)) 13 (upN (g) (k) (v)))) (a2) (by omega) hlen htx) gw_X4_53 [0, 1, 2, 3, 4, 5, 6, 7, 8, 9, 10] rfl rfl rfl ⟨⟨rfl, rfl⟩, Nat.le_of_ble_eq_true rfl, Nat.le_of_ble_eq_true rfl⟩ ⟨Nat.le_of_ble_eq_true rfl, Nat.le_of_ble_eq_true rfl⟩ hl.1 rfl [] rfl (Nat.le_of_ble_eq_true rfl) dX4_numbers_85 ?_
                have hq_ := @byte_val (M 0) (M 1 0) (a2) htx
                refine r_iln F hl 2 rfl dX4_numbers_88 rfl ?_
                refine r_iln F hl 1 rfl dX4_numbers_89 rfl ?_
                refine r_ic F 1 dX4_numbers_90 rfl ?_
                refine r_subz F dX4_numbers_91 ?_
                refine r_cgez (a := ((k : Nat) : Int)) (b := (((w : Nat) : Int) - (1 : Int))) 100 F dX4_numbers_92 (by decide) (by omega) (fun c_11 => ?_) (fun c_11 => ?_)
                · refine r_bp F 59 dX4_numbers_100 rfl ?_
                  refine r_ceqz (a := sp_byte (M 0) (M 1 0) (a2)) (b := (59 : Int)) 107 F dX4_numbers_102 (by decide) (by omega) (fun c_12 => ?_) (fun c_12 => ?_)
                  · refine r_aln F hl 0 rfl dX4_numbers_107 rfl ?_
                    refine r_dup F dX4_numbers_108 rfl ?_
                    refine gf_X4_50 F B.1 0 rfl (.int (iI ((a2 : Nat) : Int))) rfl dX4_numbers_109 ?_
                    refine r_ic F 1 dX4_numbers_112 rfl ?_
                    refine r_add F dX4_numbers_113 ?_
                    refine pf_X4_50 F B 0 (wM q cI (stR (stR M 12 (fun _ => (a2 + 1))) 13 (upN (g) (k) (v)))) rfl rfl rfl (Nat.le_of_ble_eq_true rfl) rfl dX4_numbers_114 (fun H locs B => ?_)
                    refine r_inc (lv' := [(0, .ref (q 0)), (1, .int (iI ((w : Nat) : Int))), (2, .int (iI (((k + 1) : Nat) : Int))), (3, .int (iI ((a : Nat) : Int))), (4, .int (iI ((v : Nat) : Int)))]) F hl 2 rfl dX4_numbers_117 1 rfl (by decide) [1, 2, 0, 3, 4] rfl (fun ls hl => ?_)
                    refine r_goto 2 F dX4_numbers_120 (by decide) ?_
                    exact ih_2 (mu2) ((k + 1)) ((a2 + 1)) (upN (g) (k) (v)) _ _ ls (by omega) (by have h_ := hI; rw [nmO_go (by rw [he_]; simp only; rw [show (if k < w - 1 then (44 : Int) else 59) = 59 from if_neg (by omega)]; omega), he_] at h_; exact h_) (by omega) hb_9 (by omega) B (lv_sub hl [0, 1, 2] rfl)
                  · have hz_ : sp_num (M 0) (M 1 0) w (M 12 0) (M 13) = (false, a2, upN g k v) := by rw [← hI, nmO_stop (by rw [he_]; simp only; rw [show (if k < w - 1 then (44 : Int) else 59) = 59 from if_neg (by omega)]; omega), he_]
                    refine r_icb F false dX4_numbers_105 rfl ?_
                    exact r_retUb F hr hlk hH B dX4_numbers_106 (by rw [hz_]) (by rw [hz_])
                · refine r_bp F 44 dX4_numbers_95 rfl ?_
                  refine r_goto 102 F dX4_numbers_97 (by decide) ?_
                  refine r_ceqz (a := sp_byte (M 0) (M 1 0) (a2)) (b := (44 : Int)) 107 F dX4_numbers_102 (by decide) (by omega) (fun c_13 => ?_) (fun c_13 => ?_)
                  · refine r_aln F hl 0 rfl dX4_numbers_107 rfl ?_
                    refine r_dup F dX4_numbers_108 rfl ?_
                    refine gf_X4_50 F B.1 0 rfl (.int (iI ((a2 : Nat) : Int))) rfl dX4_numbers_109 ?_
                    refine r_ic F 1 dX4_numbers_112 rfl ?_
                    refine r_add F dX4_numbers_113 ?_
                    refine pf_X4_50 F B 0 (wM q cI (stR (stR M 12 (fun _ => (a2 + 1))) 13 (upN (g) (k) (v)))) rfl rfl rfl (Nat.le_of_ble_eq_true rfl) rfl dX4_numbers_114 (fun H locs B => ?_)
                    refine r_inc (lv' := [(0, .ref (q 0)), (1, .int (iI ((w : Nat) : Int))), (2, .int (iI (((k + 1) : Nat) : Int))), (3, .int (iI ((a : Nat) : Int))), (4, .int (iI ((v : Nat) : Int)))]) F hl 2 rfl dX4_numbers_117 1 rfl (by decide) [1, 2, 0, 3, 4] rfl (fun ls hl => ?_)
                    refine r_goto 2 F dX4_numbers_120 (by decide) ?_
                    exact ih_2 (mu2) ((k + 1)) ((a2 + 1)) (upN (g) (k) (v)) _ _ ls (by omega) (by have h_ := hI; rw [nmO_go (by rw [he_]; simp only; rw [show (if k < w - 1 then (44 : Int) else 59) = 44 from if_pos (by omega)]; omega), he_] at h_; exact h_) (by omega) hb_9 (by omega) B (lv_sub hl [0, 1, 2] rfl)
                  · have hz_ : sp_num (M 0) (M 1 0) w (M 12 0) (M 13) = (false, a2, upN g k v) := by rw [← hI, nmO_stop (by rw [he_]; simp only; rw [show (if k < w - 1 then (44 : Int) else 59) = 44 from if_pos (by omega)]; omega), he_]
                    refine r_icb F false dX4_numbers_105 rfl ?_
                    exact r_retUb F hr hlk hH B dX4_numbers_106 (by rw [hz_]) (by rw [hz_])
            · refine r_aln F hl 0 rfl dX4_numbers_25 rfl ?_
              refine r_cq (r := (iI ((Bool.toNat (isFig (M 0) (M 1 0) (a2)) : Nat) : Int))) F B.1 (k_X4_isFigure l D cI cB (q) ((stR (stR M 12 (fun _ => a2)) 13 (g)))  (show a2 < 65536 from by omega) hlen htx) gw_X4_57 [0, 1, 2, 3, 4, 5, 6, 7, 8, 9, 10] rfl rfl rfl ⟨⟨rfl, rfl⟩, Nat.le_of_ble_eq_true rfl, Nat.le_of_ble_eq_true rfl⟩ ⟨Nat.le_of_ble_eq_true rfl, Nat.le_of_ble_eq_true rfl⟩ hl.1 rfl [] rfl (Nat.le_of_ble_eq_true rfl) dX4_numbers_26 ?_
              refine r_zeqb 64 F dX4_numbers_29 (by decide) (fun c_14 => ?_) (fun c_14 => ?_)
              · have he_ : nmI (M 0) (M 1 0) 3 a 0 = (a2, v) := by rw [← hJ, nmI_stop c_14]
                refine r_aln F hl 0 rfl dX4_numbers_64 rfl ?_
                refine gf_X4_37 F B.1 0 rfl (.ref (q 14)) rfl dX4_numbers_65 ?_
                refine r_iln F hl 2 rfl dX4_numbers_68 rfl ?_
                refine r_il F hl 4 rfl dX4_numbers_69 ?_
                have hb_15 : ∀ j_, upN (g) (k) (v) j_ < 1000 := upN_lt hg (by omega)
                refine r_ast (f := g) F B 10 (wM q cI (stR (stR M 12 (fun _ => a2)) 13 (upN (g) (k) (v)))) rfl dX4_numbers_71 (by decide) (by omega) rfl (fun H locs B => ?_)
                refine r_aln F hl 0 rfl dX4_numbers_72 rfl ?_
                refine gf_X4_50 F B.1 0 rfl (.int (iI ((a2 : Nat) : Int))) rfl dX4_numbers_73 ?_
                refine r_iln F hl 3 rfl dX4_numbers_76 rfl ?_
                refine r_ceq 105 F dX4_numbers_77 (by decide) (by omega) (fun c_16 => ?_) (fun c_16 => ?_)
                · have hz_ : sp_num (M 0) (M 1 0) w (M 12 0) (M 13) = (false, a2, upN g k v) := by rw [← hI, nmO_stop (by rw [he_]; simp only; omega), he_]
                  refine r_icb F false dX4_numbers_105 rfl ?_
                  exact r_retUb F hr hlk hH B dX4_numbers_106 (by rw [hz_]) (by rw [hz_])
                · refine r_aln F hl 0 rfl dX4_numbers_80 rfl ?_
                  refine r_aln F hl 0 rfl dX4_numbers_81 rfl ?_
                  refine gf_X4_50 F B.1 0 rfl (.int (iI ((a2 : Nat) : Int))) rfl dX4_numbers_82 ?_
                  refine r_cq (r := (iI (sp_byte (M 0) (M 1 0) (a2)))) F B.1 (k_X4_byteAt l D cI cB (q) ((stR (stR M 12 (fun _ => a2)) 13 (upN (g) (k) (v)))) (a2) (by omega) hlen htx) gw_X4_53 [0, 1, 2, 3, 4, 5, 6, 7, 8, 9, 10] rfl rfl rfl ⟨⟨rfl, rfl⟩, Nat.le_of_ble_eq_true rfl, Nat.le_of_ble_eq_true rfl⟩ ⟨Nat.le_of_ble_eq_true rfl, Nat.le_of_ble_eq_true rfl⟩ hl.1 rfl [] rfl (Nat.le_of_ble_eq_true rfl) dX4_numbers_85 ?_
                  have hq_ := @byte_val (M 0) (M 1 0) (a2) htx
                  refine r_iln F hl 2 rfl dX4_numbers_88 rfl ?_
                  refine r_iln F hl 1 rfl dX4_numbers_89 rfl ?_
                  refine r_ic F 1 dX4_numbers_90 rfl ?_
                  refine r_subz F dX4_numbers_91 ?_
                  refine r_cgez (a := ((k : Nat) : Int)) (b := (((w : Nat) : Int) - (1 : Int))) 100 F dX4_numbers_92 (by decide) (by omega) (fun c_17 => ?_) (fun c_17 => ?_)
                  · refine r_bp F 59 dX4_numbers_100 rfl ?_
                    refine r_ceqz (a := sp_byte (M 0) (M 1 0) (a2)) (b := (59 : Int)) 107 F dX4_numbers_102 (by decide) (by omega) (fun c_18 => ?_) (fun c_18 => ?_)
                    · refine r_aln F hl 0 rfl dX4_numbers_107 rfl ?_
                      refine r_dup F dX4_numbers_108 rfl ?_
                      refine gf_X4_50 F B.1 0 rfl (.int (iI ((a2 : Nat) : Int))) rfl dX4_numbers_109 ?_
                      refine r_ic F 1 dX4_numbers_112 rfl ?_
                      refine r_add F dX4_numbers_113 ?_
                      refine pf_X4_50 F B 0 (wM q cI (stR (stR M 12 (fun _ => (a2 + 1))) 13 (upN (g) (k) (v)))) rfl rfl rfl (Nat.le_of_ble_eq_true rfl) rfl dX4_numbers_114 (fun H locs B => ?_)
                      refine r_inc (lv' := [(0, .ref (q 0)), (1, .int (iI ((w : Nat) : Int))), (2, .int (iI (((k + 1) : Nat) : Int))), (3, .int (iI ((a : Nat) : Int))), (4, .int (iI ((v : Nat) : Int)))]) F hl 2 rfl dX4_numbers_117 1 rfl (by decide) [1, 2, 0, 3, 4] rfl (fun ls hl => ?_)
                      refine r_goto 2 F dX4_numbers_120 (by decide) ?_
                      exact ih_2 (mu2) ((k + 1)) ((a2 + 1)) (upN (g) (k) (v)) _ _ ls (by omega) (by have h_ := hI; rw [nmO_go (by rw [he_]; simp only; rw [show (if k < w - 1 then (44 : Int) else 59) = 59 from if_neg (by omega)]; omega), he_] at h_; exact h_) (by omega) hb_15 (by omega) B (lv_sub hl [0, 1, 2] rfl)
                    · have hz_ : sp_num (M 0) (M 1 0) w (M 12 0) (M 13) = (false, a2, upN g k v) := by rw [← hI, nmO_stop (by rw [he_]; simp only; rw [show (if k < w - 1 then (44 : Int) else 59) = 59 from if_neg (by omega)]; omega), he_]
                      refine r_icb F false dX4_numbers_105 rfl ?_
                      exact r_retUb F hr hlk hH B dX4_numbers_106 (by rw [hz_]) (by rw [hz_])
                  · refine r_bp F 44 dX4_numbers_95 rfl ?_
                    refine r_goto 102 F dX4_numbers_97 (by decide) ?_
                    refine r_ceqz (a := sp_byte (M 0) (M 1 0) (a2)) (b := (44 : Int)) 107 F dX4_numbers_102 (by decide) (by omega) (fun c_19 => ?_) (fun c_19 => ?_)
                    · refine r_aln F hl 0 rfl dX4_numbers_107 rfl ?_
                      refine r_dup F dX4_numbers_108 rfl ?_
                      refine gf_X4_50 F B.1 0 rfl (.int (iI ((a2 : Nat) : Int))) rfl dX4_numbers_109 ?_
                      refine r_ic F 1 dX4_numbers_112 rfl ?_
                      refine r_add F dX4_numbers_113 ?_
                      refine pf_X4_50 F B 0 (wM q cI (stR (stR M 12 (fun _ => (a2 + 1))) 13 (upN (g) (k) (v)))) rfl rfl rfl (Nat.le_of_ble_eq_true rfl) rfl dX4_numbers_114 (fun H locs B => ?_)
                      refine r_inc (lv' := [(0, .ref (q 0)), (1, .int (iI ((w : Nat) : Int))), (2, .int (iI (((k + 1) : Nat) : Int))), (3, .int (iI ((a : Nat) : Int))), (4, .int (iI ((v : Nat) : Int)))]) F hl 2 rfl dX4_numbers_117 1 rfl (by decide) [1, 2, 0, 3, 4] rfl (fun ls hl => ?_)
                      refine r_goto 2 F dX4_numbers_120 (by decide) ?_
                      exact ih_2 (mu2) ((k + 1)) ((a2 + 1)) (upN (g) (k) (v)) _ _ ls (by omega) (by have h_ := hI; rw [nmO_go (by rw [he_]; simp only; rw [show (if k < w - 1 then (44 : Int) else 59) = 44 from if_pos (by omega)]; omega), he_] at h_; exact h_) (by omega) hb_15 (by omega) B (lv_sub hl [0, 1, 2] rfl)
                    · have hz_ : sp_num (M 0) (M 1 0) w (M 12 0) (M 13) = (false, a2, upN g k v) := by rw [← hI, nmO_stop (by rw [he_]; simp only; rw [show (if k < w - 1 then (44 : Int) else 59) = 44 from if_pos (by omega)]; omega), he_]
                      refine r_icb F false dX4_numbers_105 rfl ?_
                      exact r_retUb F hr hlk hH B dX4_numbers_106 (by rw [hz_]) (by rw [hz_])
              · have hf_ := isFig_iff.mp c_14
                refine r_bp F 10 dX4_numbers_32 rfl ?_
                refine r_il F hl 4 rfl dX4_numbers_34 ?_
                refine r_mul F dX4_numbers_36 ?_
                refine r_aln F hl 0 rfl dX4_numbers_37 rfl ?_
                refine r_aln F hl 0 rfl dX4_numbers_38 rfl ?_
                refine gf_X4_50 F B.1 0 rfl (.int (iI ((a2 : Nat) : Int))) rfl dX4_numbers_39 ?_
                refine r_cq (r := (iI (sp_byte (M 0) (M 1 0) (a2)))) F B.1 (k_X4_byteAt l D cI cB (q) ((stR (stR M 12 (fun _ => a2)) 13 (g))) (a2) (by omega) hlen htx) gw_X4_53 [0, 1, 2, 3, 4, 5, 6, 7, 8, 9, 10] rfl rfl rfl ⟨⟨rfl, rfl⟩, Nat.le_of_ble_eq_true rfl, Nat.le_of_ble_eq_true rfl⟩ ⟨Nat.le_of_ble_eq_true rfl, Nat.le_of_ble_eq_true rfl⟩ hl.1 rfl [.int (iI (((10 * v) : Nat) : Int))] rfl (Nat.le_of_ble_eq_true rfl) dX4_numbers_42 ?_
                have hq_ := @byte_val (M 0) (M 1 0) (a2) htx
                refine r_addz F dX4_numbers_45 ?_
                refine r_bp F 48 dX4_numbers_46 rfl ?_
                refine r_subz F dX4_numbers_48 ?_
                refine r_is (lv' := [(0, .ref (q 0)), (1, .int (iI ((w : Nat) : Int))), (2, .int (iI ((k : Nat) : Int))), (3, .int (iI ((a : Nat) : Int))), (4, .int (iI ((((((10 * v) : Nat) : Int) + sp_byte (M 0) (M 1 0) (a2)) - (48 : Int)))))]) F hl dX4_numbers_49 (by decide) [1, 2, 3, 4, 0] rfl (fun ls hl => ?_)
                have hl : lv_has ls 5 [(0, .ref (q 0)), (1, .int (iI ((w : Nat) : Int))), (2, .int (iI ((k : Nat) : Int))), (3, .int (iI ((a : Nat) : Int))), (4, .int (iI (((10 * v + M 0 a2 - 48) : Nat) : Int)))] := by
                  rw [show (((((10 * v) : Nat) : Int) + sp_byte (M 0) (M 1 0) (a2)) - (48 : Int)) = (((10 * v + M 0 a2 - 48) : Nat) : Int) from by omega] at hl
                  exact hl
                refine r_aln F hl 0 rfl dX4_numbers_51 rfl ?_
                refine r_dup F dX4_numbers_52 rfl ?_
                refine gf_X4_50 F B.1 0 rfl (.int (iI ((a2 : Nat) : Int))) rfl dX4_numbers_53 ?_
                refine r_ic F 1 dX4_numbers_56 rfl ?_
                refine r_add F dX4_numbers_57 ?_
                refine pf_X4_50 F B 0 (wM q cI (stR (stR M 12 (fun _ => (a2 + 1))) 13 (g))) rfl rfl rfl (Nat.le_of_ble_eq_true rfl) rfl dX4_numbers_58 (fun H locs B => ?_)
                refine r_goto 15 F dX4_numbers_61 (by decide) ?_
                exact ih_6 (mm - 1) ((a2 + 1)) ((10 * v + M 0 a2 - 48)) _ _ ls (by omega) (by rw [← hJ]; obtain ⟨m3, rfl⟩ : ∃ x, mm = x + 1 := ⟨mm - 1, by omega⟩; exact (nmI_go c_14).symm) (by omega) (by omega) (by omega) B hl
        exact lp_5 _ (3) (a) (0) _ _ ls (Nat.lt_succ_self _) rfl (by omega) (by omega) (by omega) B hl
  exact lp_1 _ (w) (0) (M 12 0) (M 13) _ _ ls (Nat.lt_succ_self _) rfl (by omega) htd (by omega) B hl
