abbrev rm_X2_addPerson : Room := { frames := 0, cells := 0, slots := 0, locals := 0 }
set_option maxHeartbeats 4000000 in
set_option maxRecDepth 100000 in
theorem k_X2_addPerson (l : Launch) (D : va_G) (cI cB : ClassId) (q : Nat → Nat) (T : St) (x y : Nat) (hx : x < 1000 ∧ y < 1000) (hT : Tok T) : CtU l yX2_addPerson cX2_addPerson 3 (some .boolean) rm_X2_addPerson D cI cB [.ref (q 0), .int (iI ((x : Nat) : Int)), .int (iI ((y : Nat) : Int))] (wT q cI T) (wT q cI (stR (stR (stR T 1 (apS (T 0 0) x y (T 1))) 2 (apK (T 0 0) x y (T 2))) 0 (fun _ => apP (T 0 0) x y))) ((iI ((Bool.toNat (vAP (T 0 0) x y) : Nat) : Int))) := by
  obtain ⟨hTs, hT1, hT2, hT4, hT5, hT8⟩ := id hT
  refine CtU.of RX2 (by decide) rfl (Nat.le_of_ble_eq_true rfl) ?_
  intro p e s m args below meth c H0 ls A hH hA F hr hlk B hl
  have hl : lv_has ls 3 [(0, .ref (q 0)), (1, .int (iI ((x : Nat) : Int))), (2, .int (iI ((y : Nat) : Int)))] := hl
  refine r_aln F hl 0 rfl dX2_addPerson_0 rfl ?_
  refine gf_X2_30 F B.1 0 rfl (.int (iI ((T 0 0 : Nat) : Int))) rfl dX2_addPerson_1 ?_
  refine r_ic F 5 dX2_addPerson_4 rfl ?_
  refine r_cge 28 F dX2_addPerson_5 (by decide) (by omega) (fun c_1 => ?_) (fun c_1 => ?_)
  · have hv_ : vAP (T 0 0) x y = false := decide_eq_false (by omega)
    refine r_icb F false dX2_addPerson_28 rfl ?_
    exact r_retUb F hr hlk hH B dX2_addPerson_29 (by rw [hv_]) (by first | rfl | (simp only [apS, apK, apP, hv_, if_true, if_false, Bool.and_true, Bool.true_and, Bool.and_false, Bool.false_and, Bool.and_self, Bool.false_eq_true, ↓reduceIte, decide_true, decide_false, Int.toNat_natCast, Bool.toNat_true, Bool.toNat_false, true_and, and_true, false_and, and_false, not_true_eq_false, not_false_eq_true, true_or, or_true, false_or, or_false]; first | done | rfl | (simp only [c_1, (Nat.not_lt.mp c_1), if_true, if_false, Bool.and_true, Bool.true_and, Bool.and_false, Bool.false_and, Bool.and_self, Bool.false_eq_true, ↓reduceIte, decide_true, decide_false, Int.toNat_natCast, Bool.toNat_true, Bool.toNat_false, true_and, and_true, false_and, and_false, not_true_eq_false, not_false_eq_true, true_or, or_true, false_or, or_false]; first | done | rfl) | (simp only [if_neg c_1, if_pos (Nat.not_lt.mp c_1)]; first | done | rfl) | (simp [c_1, (Nat.not_lt.mp c_1)]; done) | (simp [c_1, (Nat.not_lt.mp c_1)]; first | rfl | omega)) | (simp [apS, apK, apP, c_1, (Nat.not_lt.mp c_1), hv_]; done) | (simp [apS, apK, apP, c_1, (Nat.not_lt.mp c_1), hv_]; omega) | (simp only [apS, apK, apP, hv_, if_true, if_false, Bool.and_true, Bool.true_and, Bool.and_false, Bool.false_and, Bool.and_self, Bool.false_eq_true, ↓reduceIte, decide_true, decide_false, Int.toNat_natCast, Bool.toNat_true, Bool.toNat_false, true_and, and_true, false_and, and_false, not_true_eq_false, not_false_eq_true, true_or, or_true, false_or, or_false]; try simp only [c_1, (Nat.not_lt.mp c_1), if_true, if_false, Bool.and_true, Bool.true_and, Bool.and_false, Bool.false_and, Bool.and_self, Bool.false_eq_true, ↓reduceIte, decide_true, decide_false, Int.toNat_natCast, Bool.toNat_true, Bool.toNat_false, true_and, and_true, false_and, and_false, not_true_eq_false, not_false_eq_true, true_or, or_true, false_or, or_false]; rfl))
  · refine r_iln F hl 1 rfl dX2_addPerson_8 rfl ?_
    refine r_zlt 28 F dX2_addPerson_9 (by decide) (by omega) (fun c_2 => ?_) (fun c_2 => ?_)
    · exfalso; omega
    · refine r_iln F hl 1 rfl dX2_addPerson_12 rfl ?_
      refine r_bp F 63 dX2_addPerson_13 rfl ?_
      refine r_cgt 28 F dX2_addPerson_15 (by decide) (by omega) (fun c_3 => ?_) (fun c_3 => ?_)
      · have hv_ : vAP (T 0 0) x y = false := decide_eq_false (by omega)
        refine r_icb F false dX2_addPerson_28 rfl ?_
        exact r_retUb F hr hlk hH B dX2_addPerson_29 (by rw [hv_]) (by first | rfl | (simp only [apS, apK, apP, hv_, if_true, if_false, Bool.and_true, Bool.true_and, Bool.and_false, Bool.false_and, Bool.and_self, Bool.false_eq_true, ↓reduceIte, decide_true, decide_false, Int.toNat_natCast, Bool.toNat_true, Bool.toNat_false, true_and, and_true, false_and, and_false, not_true_eq_false, not_false_eq_true, true_or, or_true, false_or, or_false]; first | done | rfl | (simp only [c_1, (Nat.not_le.mpr c_1), c_2, (Nat.not_lt.mp c_2), c_3, (Nat.not_le.mpr c_3), if_true, if_false, Bool.and_true, Bool.true_and, Bool.and_false, Bool.false_and, Bool.and_self, Bool.false_eq_true, ↓reduceIte, decide_true, decide_false, Int.toNat_natCast, Bool.toNat_true, Bool.toNat_false, true_and, and_true, false_and, and_false, not_true_eq_false, not_false_eq_true, true_or, or_true, false_or, or_false]; first | done | rfl) | (simp only [if_pos c_1, if_neg (Nat.not_le.mpr c_1), if_neg c_2, if_pos (Nat.not_lt.mp c_2), if_pos c_3, if_neg (Nat.not_le.mpr c_3)]; first | done | rfl) | (simp [c_1, (Nat.not_le.mpr c_1), c_2, (Nat.not_lt.mp c_2), c_3, (Nat.not_le.mpr c_3)]; done) | (simp [c_1, (Nat.not_le.mpr c_1), c_2, (Nat.not_lt.mp c_2), c_3, (Nat.not_le.mpr c_3)]; first | rfl | omega)) | (simp [apS, apK, apP, c_1, (Nat.not_le.mpr c_1), c_2, (Nat.not_lt.mp c_2), c_3, (Nat.not_le.mpr c_3), hv_]; done) | (simp [apS, apK, apP, c_1, (Nat.not_le.mpr c_1), c_2, (Nat.not_lt.mp c_2), c_3, (Nat.not_le.mpr c_3), hv_]; omega) | (simp only [apS, apK, apP, hv_, if_true, if_false, Bool.and_true, Bool.true_and, Bool.and_false, Bool.false_and, Bool.and_self, Bool.false_eq_true, ↓reduceIte, decide_true, decide_false, Int.toNat_natCast, Bool.toNat_true, Bool.toNat_false, true_and, and_true, false_and, and_false, not_true_eq_false, not_false_eq_true, true_or, or_true, false_or, or_false]; try simp only [c_1, (Nat.not_le.mpr c_1), c_2, (Nat.not_lt.mp c_2), c_3, (Nat.not_le.mpr c_3), if_true, if_false, Bool.and_true, Bool.true_and, Bool.and_false, Bool.false_and, Bool.and_self, Bool.false_eq_true, ↓reduceIte, decide_true, decide_false, Int.toNat_natCast, Bool.toNat_true, Bool.toNat_false, true_and, and_true, false_and, and_false, not_true_eq_false, not_false_eq_true, true_or, or_true, false_or, or_false]; rfl))
      · refine r_iln F hl 2 rfl dX2_addPerson_18 rfl ?_
        refine r_zlt 28 F dX2_addPerson_19 (by decide) (by omega) (fun c_4 => ?_) (fun c_4 => ?_)
        · exfalso; omega
        · refine r_iln F hl 2 rfl dX2_addPerson_22 rfl ?_
          refine r_bp F 63 dX2_addPerson_23 rfl ?_
          refine r_cle 30 F dX2_addPerson_25 (by decide) (by omega) (fun c_5 => ?_) (fun c_5 => ?_)
          · have hv_ : vAP (T 0 0) x y = true := decide_eq_true (by omega)
            refine r_aln F hl 0 rfl dX2_addPerson_30 rfl ?_
            refine gf_X2_9 F B.1 0 rfl (.ref (q 2)) rfl dX2_addPerson_31 ?_
            refine r_ic F 2 dX2_addPerson_34 rfl ?_
            refine r_aln F hl 0 rfl dX2_addPerson_35 rfl ?_
            refine gf_X2_30 F B.1 0 rfl (.int (iI ((T 0 0 : Nat) : Int))) rfl dX2_addPerson_36 ?_
            refine r_mul F dX2_addPerson_39 ?_
            refine r_iln F hl 1 rfl dX2_addPerson_40 rfl ?_
            have hb_6 : ∀ j_, upN (T 1) ((2 * T 0 0)) (x) j_ < 256 := upN_lt hT1 (by omega)
            refine r_ast (f := T 1) F B 1 (wT q cI (stR T 1 (upN (T 1) ((2 * T 0 0)) (x)))) rfl dX2_addPerson_41 (by decide) (by omega) rfl (fun H locs B => ?_)
            refine r_aln F hl 0 rfl dX2_addPerson_42 rfl ?_
            refine gf_X2_9 F B.1 0 rfl (.ref (q 2)) rfl dX2_addPerson_43 ?_
            refine r_ic F 2 dX2_addPerson_46 rfl ?_
            refine r_aln F hl 0 rfl dX2_addPerson_47 rfl ?_
            refine gf_X2_30 F B.1 0 rfl (.int (iI ((T 0 0 : Nat) : Int))) rfl dX2_addPerson_48 ?_
            refine r_mul F dX2_addPerson_51 ?_
            refine r_ic F 1 dX2_addPerson_52 rfl ?_
            refine r_add F dX2_addPerson_53 ?_
            refine r_iln F hl 2 rfl dX2_addPerson_54 rfl ?_
            have hb_7 : ∀ j_, upN (upN (T 1) ((2 * T 0 0)) (x)) (((2 * T 0 0) + 1)) (y) j_ < 256 := upN_lt hb_6 (by omega)
            refine r_ast (f := upN (T 1) ((2 * T 0 0)) (x)) F B 1 (wT q cI (stR T 1 (upN (upN (T 1) ((2 * T 0 0)) (x)) (((2 * T 0 0) + 1)) (y)))) rfl dX2_addPerson_55 (by decide) (by omega) rfl (fun H locs B => ?_)
            refine r_aln F hl 0 rfl dX2_addPerson_56 rfl ?_
            refine gf_X2_15 F B.1 0 rfl (.ref (q 3)) rfl dX2_addPerson_57 ?_
            refine r_ic F 2 dX2_addPerson_60 rfl ?_
            refine r_aln F hl 0 rfl dX2_addPerson_61 rfl ?_
            refine gf_X2_30 F B.1 0 rfl (.int (iI ((T 0 0 : Nat) : Int))) rfl dX2_addPerson_62 ?_
            refine r_mul F dX2_addPerson_65 ?_
            refine r_ic F 0 dX2_addPerson_66 rfl ?_
            have hb_8 : ∀ j_, upN (T 2) ((2 * T 0 0)) (0) j_ < 256 := upN_lt hT2 (by omega)
            refine r_ast (f := T 2) F B 2 (wT q cI (stR (stR T 1 (upN (upN (T 1) ((2 * T 0 0)) (x)) (((2 * T 0 0) + 1)) (y))) 2 (upN (T 2) ((2 * T 0 0)) (0)))) rfl dX2_addPerson_67 (by decide) (by omega) rfl (fun H locs B => ?_)
            refine r_aln F hl 0 rfl dX2_addPerson_68 rfl ?_
            refine gf_X2_15 F B.1 0 rfl (.ref (q 3)) rfl dX2_addPerson_69 ?_
            refine r_ic F 2 dX2_addPerson_72 rfl ?_
            refine r_aln F hl 0 rfl dX2_addPerson_73 rfl ?_
            refine gf_X2_30 F B.1 0 rfl (.int (iI ((T 0 0 : Nat) : Int))) rfl dX2_addPerson_74 ?_
            refine r_mul F dX2_addPerson_77 ?_
            refine r_ic F 1 dX2_addPerson_78 rfl ?_
            refine r_add F dX2_addPerson_79 ?_
            refine r_ic F 0 dX2_addPerson_80 rfl ?_
            have hb_9 : ∀ j_, upN (upN (T 2) ((2 * T 0 0)) (0)) (((2 * T 0 0) + 1)) (0) j_ < 256 := upN_lt hb_8 (by omega)
            refine r_ast (f := upN (T 2) ((2 * T 0 0)) (0)) F B 2 (wT q cI (stR (stR T 1 (upN (upN (T 1) ((2 * T 0 0)) (x)) (((2 * T 0 0) + 1)) (y))) 2 (upN (upN (T 2) ((2 * T 0 0)) (0)) (((2 * T 0 0) + 1)) (0)))) rfl dX2_addPerson_81 (by decide) (by omega) rfl (fun H locs B => ?_)
            refine r_aln F hl 0 rfl dX2_addPerson_82 rfl ?_
            refine r_dup F dX2_addPerson_83 rfl ?_
            refine gf_X2_30 F B.1 0 rfl (.int (iI ((T 0 0 : Nat) : Int))) rfl dX2_addPerson_84 ?_
            refine r_ic F 1 dX2_addPerson_87 rfl ?_
            refine r_add F dX2_addPerson_88 ?_
            refine pf_X2_30 F B 0 (wT q cI (stR (stR (stR T 1 (upN (upN (T 1) ((2 * T 0 0)) (x)) (((2 * T 0 0) + 1)) (y))) 2 (upN (upN (T 2) ((2 * T 0 0)) (0)) (((2 * T 0 0) + 1)) (0))) 0 (fun _ => (T 0 0 + 1)))) rfl rfl rfl (Nat.le_of_ble_eq_true rfl) rfl dX2_addPerson_89 (fun H locs B => ?_)
            refine r_icb F true dX2_addPerson_92 rfl ?_
            exact r_retUb F hr hlk hH B dX2_addPerson_93 (by rw [hv_]) (by first | rfl | (simp only [apS, apK, apP, hv_, if_true, if_false, Bool.and_true, Bool.true_and, Bool.and_false, Bool.false_and, Bool.and_self, Bool.false_eq_true, ↓reduceIte, decide_true, decide_false, Int.toNat_natCast, Bool.toNat_true, Bool.toNat_false, true_and, and_true, false_and, and_false, not_true_eq_false, not_false_eq_true, true_or, or_true, false_or, or_false]; first | done | rfl | (simp only [c_1, (Nat.not_le.mpr c_1), c_2, (Nat.not_lt.mp c_2), c_3, (Nat.not_lt.mp c_3), c_4, (Nat.not_lt.mp c_4), c_5, (Nat.not_lt.mp c_5), if_true, if_false, Bool.and_true, Bool.true_and, Bool.and_false, Bool.false_and, Bool.and_self, Bool.false_eq_true, ↓reduceIte, decide_true, decide_false, Int.toNat_natCast, Bool.toNat_true, Bool.toNat_false, true_and, and_true, false_and, and_false, not_true_eq_false, not_false_eq_true, true_or, or_true, false_or, or_false]; first | done | rfl) | (simp only [if_pos c_1, if_neg (Nat.not_le.mpr c_1), if_neg c_2, if_pos (Nat.not_lt.mp c_2), if_neg c_3, if_pos (Nat.not_lt.mp c_3), if_neg c_4, if_pos (Nat.not_lt.mp c_4), if_neg c_5, if_pos (Nat.not_lt.mp c_5)]; first | done | rfl) | (simp [c_1, (Nat.not_le.mpr c_1), c_2, (Nat.not_lt.mp c_2), c_3, (Nat.not_lt.mp c_3), c_4, (Nat.not_lt.mp c_4), c_5, (Nat.not_lt.mp c_5)]; done) | (simp [c_1, (Nat.not_le.mpr c_1), c_2, (Nat.not_lt.mp c_2), c_3, (Nat.not_lt.mp c_3), c_4, (Nat.not_lt.mp c_4), c_5, (Nat.not_lt.mp c_5)]; first | rfl | omega)) | (simp [apS, apK, apP, c_1, (Nat.not_le.mpr c_1), c_2, (Nat.not_lt.mp c_2), c_3, (Nat.not_lt.mp c_3), c_4, (Nat.not_lt.mp c_4), c_5, (Nat.not_lt.mp c_5), hv_]; done) | (simp [apS, apK, apP, c_1, (Nat.not_le.mpr c_1), c_2, (Nat.not_lt.mp c_2), c_3, (Nat.not_lt.mp c_3), c_4, (Nat.not_lt.mp c_4), c_5, (Nat.not_lt.mp c_5), hv_]; omega) | (simp only [apS, apK, apP, hv_, if_true, if_false, Bool.and_true, Bool.true_and, Bool.and_false, Bool.false_and, Bool.and_self, Bool.false_eq_true, ↓reduceIte, decide_true, decide_false, Int.toNat_natCast, Bool.toNat_true, Bool.toNat_false, true_and, and_true, false_and, and_false, not_true_eq_false, not_false_eq_true, true_or, or_true, false_or, or_false]; try simp only [c_1, (Nat.not_le.mpr c_1), c_2, (Nat.not_lt.mp c_2), c_3, (Nat.not_lt.mp c_3), c_4, (Nat.not_lt.mp c_4), c_5, (Nat.not_lt.mp c_5), if_true, if_false, Bool.and_true, Bool.true_and, Bool.and_false, Bool.false_and, Bool.and_self, Bool.false_eq_true, ↓reduceIte, decide_true, decide_false, Int.toNat_natCast, Bool.toNat_true, Bool.toNat_false, true_and, and_true, false_and, and_false, not_true_eq_false, not_false_eq_true, true_or, or_true, false_or, or_false]; rfl))
          · have hv_ : vAP (T 0 0) x y = false := decide_eq_false (by omega)
            refine r_icb F false dX2_addPerson_28 rfl ?_
            exact r_retUb F hr hlk hH B dX2_addPerson_29 (by rw [hv_]) (by first | rfl | (simp only [apS, apK, apP, hv_, if_true, if_false, Bool.and_true, Bool.true_and, Bool.and_false, Bool.false_and, Bool.and_self, Bool.false_eq_true, ↓reduceIte, decide_true, decide_false, Int.toNat_natCast, Bool.toNat_true, Bool.toNat_false, true_and, and_true, false_and, and_false, not_true_eq_false, not_false_eq_true, true_or, or_true, false_or, or_false]; first | done | rfl | (simp only [c_1, (Nat.not_le.mpr c_1), c_2, (Nat.not_lt.mp c_2), c_3, (Nat.not_lt.mp c_3), c_4, (Nat.not_lt.mp c_4), c_5, (Nat.not_le.mpr c_5), if_true, if_false, Bool.and_true, Bool.true_and, Bool.and_false, Bool.false_and, Bool.and_self, Bool.false_eq_true, ↓reduceIte, decide_true, decide_false, Int.toNat_natCast, Bool.toNat_true, Bool.toNat_false, true_and, and_true, false_and, and_false, not_true_eq_false, not_false_eq_true, true_or, or_true, false_or, or_false]; first | done | rfl) | (simp only [if_pos c_1, if_neg (Nat.not_le.mpr c_1), if_neg c_2, if_pos (Nat.not_lt.mp c_2), if_neg c_3, if_pos (Nat.not_lt.mp c_3), if_neg c_4, if_pos (Nat.not_lt.mp c_4), if_pos c_5, if_neg (Nat.not_le.mpr c_5)]; first | done | rfl) | (simp [c_1, (Nat.not_le.mpr c_1), c_2, (Nat.not_lt.mp c_2), c_3, (Nat.not_lt.mp c_3), c_4, (Nat.not_lt.mp c_4), c_5, (Nat.not_le.mpr c_5)]; done) | (simp [c_1, (Nat.not_le.mpr c_1), c_2, (Nat.not_lt.mp c_2), c_3, (Nat.not_lt.mp c_3), c_4, (Nat.not_lt.mp c_4), c_5, (Nat.not_le.mpr c_5)]; first | rfl | omega)) | (simp [apS, apK, apP, c_1, (Nat.not_le.mpr c_1), c_2, (Nat.not_lt.mp c_2), c_3, (Nat.not_lt.mp c_3), c_4, (Nat.not_lt.mp c_4), c_5, (Nat.not_le.mpr c_5), hv_]; done) | (simp [apS, apK, apP, c_1, (Nat.not_le.mpr c_1), c_2, (Nat.not_lt.mp c_2), c_3, (Nat.not_lt.mp c_3), c_4, (Nat.not_lt.mp c_4), c_5, (Nat.not_le.mpr c_5), hv_]; omega) | (simp only [apS, apK, apP, hv_, if_true, if_false, Bool.and_true, Bool.true_and, Bool.and_false, Bool.false_and, Bool.and_self, Bool.false_eq_true, ↓reduceIte, decide_true, decide_false, Int.toNat_natCast, Bool.toNat_true, Bool.toNat_false, true_and, and_true, false_and, and_false, not_true_eq_false, not_false_eq_true, true_or, or_true, false_or, or_false]; try simp only [c_1, (Nat.not_le.mpr c_1), c_2, (Nat.not_lt.mp c_2), c_3, (Nat.not_lt.mp c_3), c_4, (Nat.not_lt.mp c_4), c_5, (Nat.not_le.mpr c_5), if_true, if_false, Bool.and_true, Bool.true_and, Bool.and_false, Bool.false_and, Bool.and_self, Bool.false_eq_true, ↓reduceIte, decide_true, decide_false, Int.toNat_natCast, Bool.toNat_true, Bool.toNat_false, true_and, and_true, false_and, and_false, not_true_eq_false, not_false_eq_true, true_or, or_true, false_or, or_false]; rfl))
abbrev rm_X2_addStep : Room := { frames := 0, cells := 0, slots := 0, locals := 0 }
set_option maxHeartbeats 4000000 in
set_option maxRecDepth 100000 in
theorem k_X2_addStep (l : Launch) (D : va_G) (cI cB : ClassId) (q : Nat → Nat) (T : St) (z : Int) (hz : -1000 ≤ z ∧ z < 1000) (hT : Tok T) : CtU l yX2_addStep cX2_addStep 2 (some .boolean) rm_X2_addStep D cI cB [.ref (q 0), .int (iI (z))] (wT q cI T) (wT q cI (stR (stR T 4 (asS (T 3 0) (T 6 0) z (T 4))) 6 (fun _ => asO (T 3 0) (T 6 0) z))) ((iI ((Bool.toNat (vAS (T 3 0) (T 6 0) z) : Nat) : Int))) := by
  obtain ⟨hTs, hT1, hT2, hT4, hT5, hT8⟩ := id hT
  refine CtU.of RX2 (by decide) rfl (Nat.le_of_ble_eq_true rfl) ?_
  intro p e s m args below meth c H0 ls A hH hA F hr hlk B hl
  have hl : lv_has ls 2 [(0, .ref (q 0)), (1, .int (iI (z)))] := hl
  refine r_aln F hl 0 rfl dX2_addStep_0 rfl ?_
  refine gf_X2_34 F B.1 0 rfl (.int (iI ((T 3 0 : Nat) : Int))) rfl dX2_addStep_1 ?_
  refine r_ic F 4 dX2_addStep_4 rfl ?_
  refine r_cge 26 F dX2_addStep_5 (by decide) (by omega) (fun c_1 => ?_) (fun c_1 => ?_)
  · have hv_ : vAS (T 3 0) (T 6 0) z = false := decide_eq_false (by omega)
    refine r_icb F false dX2_addStep_26 rfl ?_
    exact r_retUb F hr hlk hH B dX2_addStep_27 (by rw [hv_]) (by first | rfl | (simp only [asS, asO, hv_, if_true, if_false, Bool.and_true, Bool.true_and, Bool.and_false, Bool.false_and, Bool.and_self, Bool.false_eq_true, ↓reduceIte, decide_true, decide_false, Int.toNat_natCast, Bool.toNat_true, Bool.toNat_false, true_and, and_true, false_and, and_false, not_true_eq_false, not_false_eq_true, true_or, or_true, false_or, or_false]; first | done | rfl | (simp only [c_1, (Nat.not_lt.mp c_1), if_true, if_false, Bool.and_true, Bool.true_and, Bool.and_false, Bool.false_and, Bool.and_self, Bool.false_eq_true, ↓reduceIte, decide_true, decide_false, Int.toNat_natCast, Bool.toNat_true, Bool.toNat_false, true_and, and_true, false_and, and_false, not_true_eq_false, not_false_eq_true, true_or, or_true, false_or, or_false]; first | done | rfl) | (simp only [if_neg c_1, if_pos (Nat.not_lt.mp c_1)]; first | done | rfl) | (simp [c_1, (Nat.not_lt.mp c_1)]; done) | (simp [c_1, (Nat.not_lt.mp c_1)]; first | rfl | omega)) | (simp [asS, asO, c_1, (Nat.not_lt.mp c_1), hv_]; done) | (simp [asS, asO, c_1, (Nat.not_lt.mp c_1), hv_]; omega) | (simp only [asS, asO, hv_, if_true, if_false, Bool.and_true, Bool.true_and, Bool.and_false, Bool.false_and, Bool.and_self, Bool.false_eq_true, ↓reduceIte, decide_true, decide_false, Int.toNat_natCast, Bool.toNat_true, Bool.toNat_false, true_and, and_true, false_and, and_false, not_true_eq_false, not_false_eq_true, true_or, or_true, false_or, or_false]; try simp only [c_1, (Nat.not_lt.mp c_1), if_true, if_false, Bool.and_true, Bool.true_and, Bool.and_false, Bool.false_and, Bool.and_self, Bool.false_eq_true, ↓reduceIte, decide_true, decide_false, Int.toNat_natCast, Bool.toNat_true, Bool.toNat_false, true_and, and_true, false_and, and_false, not_true_eq_false, not_false_eq_true, true_or, or_true, false_or, or_false]; rfl))
  · refine r_aln F hl 0 rfl dX2_addStep_8 rfl ?_
    refine gf_X2_37 F B.1 0 rfl (.int (iI ((T 6 0 : Nat) : Int))) rfl dX2_addStep_9 ?_
    refine r_bp F 8 dX2_addStep_12 rfl ?_
    refine r_cge 26 F dX2_addStep_14 (by decide) (by omega) (fun c_2 => ?_) (fun c_2 => ?_)
    · have hv_ : vAS (T 3 0) (T 6 0) z = false := decide_eq_false (by omega)
      refine r_icb F false dX2_addStep_26 rfl ?_
      exact r_retUb F hr hlk hH B dX2_addStep_27 (by rw [hv_]) (by first | rfl | (simp only [asS, asO, hv_, if_true, if_false, Bool.and_true, Bool.true_and, Bool.and_false, Bool.false_and, Bool.and_self, Bool.false_eq_true, ↓reduceIte, decide_true, decide_false, Int.toNat_natCast, Bool.toNat_true, Bool.toNat_false, true_and, and_true, false_and, and_false, not_true_eq_false, not_false_eq_true, true_or, or_true, false_or, or_false]; first | done | rfl | (simp only [c_1, (Nat.not_le.mpr c_1), c_2, (Nat.not_lt.mp c_2), if_true, if_false, Bool.and_true, Bool.true_and, Bool.and_false, Bool.false_and, Bool.and_self, Bool.false_eq_true, ↓reduceIte, decide_true, decide_false, Int.toNat_natCast, Bool.toNat_true, Bool.toNat_false, true_and, and_true, false_and, and_false, not_true_eq_false, not_false_eq_true, true_or, or_true, false_or, or_false]; first | done | rfl) | (simp only [if_pos c_1, if_neg (Nat.not_le.mpr c_1), if_neg c_2, if_pos (Nat.not_lt.mp c_2)]; first | done | rfl) | (simp [c_1, (Nat.not_le.mpr c_1), c_2, (Nat.not_lt.mp c_2)]; done) | (simp [c_1, (Nat.not_le.mpr c_1), c_2, (Nat.not_lt.mp c_2)]; first | rfl | omega)) | (simp [asS, asO, c_1, (Nat.not_le.mpr c_1), c_2, (Nat.not_lt.mp c_2), hv_]; done) | (simp [asS, asO, c_1, (Nat.not_le.mpr c_1), c_2, (Nat.not_lt.mp c_2), hv_]; omega) | (simp only [asS, asO, hv_, if_true, if_false, Bool.and_true, Bool.true_and, Bool.and_false, Bool.false_and, Bool.and_self, Bool.false_eq_true, ↓reduceIte, decide_true, decide_false, Int.toNat_natCast, Bool.toNat_true, Bool.toNat_false, true_and, and_true, false_and, and_false, not_true_eq_false, not_false_eq_true, true_or, or_true, false_or, or_false]; try simp only [c_1, (Nat.not_le.mpr c_1), c_2, (Nat.not_lt.mp c_2), if_true, if_false, Bool.and_true, Bool.true_and, Bool.and_false, Bool.false_and, Bool.and_self, Bool.false_eq_true, ↓reduceIte, decide_true, decide_false, Int.toNat_natCast, Bool.toNat_true, Bool.toNat_false, true_and, and_true, false_and, and_false, not_true_eq_false, not_false_eq_true, true_or, or_true, false_or, or_false]; rfl))
    · refine r_iln F hl 1 rfl dX2_addStep_17 rfl ?_
      refine r_zltz (a := z) 26 F dX2_addStep_18 (by decide) (by omega) (fun c_3 => ?_) (fun c_3 => ?_)
      · have hv_ : vAS (T 3 0) (T 6 0) z = false := decide_eq_false (by omega)
        refine r_icb F false dX2_addStep_26 rfl ?_
        exact r_retUb F hr hlk hH B dX2_addStep_27 (by rw [hv_]) (by first | rfl | (simp only [asS, asO, hv_, if_true, if_false, Bool.and_true, Bool.true_and, Bool.and_false, Bool.false_and, Bool.and_self, Bool.false_eq_true, ↓reduceIte, decide_true, decide_false, Int.toNat_natCast, Bool.toNat_true, Bool.toNat_false, true_and, and_true, false_and, and_false, not_true_eq_false, not_false_eq_true, true_or, or_true, false_or, or_false]; first | done | rfl | (simp only [c_1, (Nat.not_le.mpr c_1), c_2, (Nat.not_le.mpr c_2), c_3, (Int.not_le.mpr c_3), if_true, if_false, Bool.and_true, Bool.true_and, Bool.and_false, Bool.false_and, Bool.and_self, Bool.false_eq_true, ↓reduceIte, decide_true, decide_false, Int.toNat_natCast, Bool.toNat_true, Bool.toNat_false, true_and, and_true, false_and, and_false, not_true_eq_false, not_false_eq_true, true_or, or_true, false_or, or_false]; first | done | rfl) | (simp only [if_pos c_1, if_neg (Nat.not_le.mpr c_1), if_pos c_2, if_neg (Nat.not_le.mpr c_2), if_pos c_3, if_neg (Int.not_le.mpr c_3)]; first | done | rfl) | (simp [c_1, (Nat.not_le.mpr c_1), c_2, (Nat.not_le.mpr c_2), c_3, (Int.not_le.mpr c_3)]; done) | (simp [c_1, (Nat.not_le.mpr c_1), c_2, (Nat.not_le.mpr c_2), c_3, (Int.not_le.mpr c_3)]; first | rfl | omega)) | (simp [asS, asO, c_1, (Nat.not_le.mpr c_1), c_2, (Nat.not_le.mpr c_2), c_3, (Int.not_le.mpr c_3), hv_]; done) | (simp [asS, asO, c_1, (Nat.not_le.mpr c_1), c_2, (Nat.not_le.mpr c_2), c_3, (Int.not_le.mpr c_3), hv_]; omega) | (simp only [asS, asO, hv_, if_true, if_false, Bool.and_true, Bool.true_and, Bool.and_false, Bool.false_and, Bool.and_self, Bool.false_eq_true, ↓reduceIte, decide_true, decide_false, Int.toNat_natCast, Bool.toNat_true, Bool.toNat_false, true_and, and_true, false_and, and_false, not_true_eq_false, not_false_eq_true, true_or, or_true, false_or, or_false]; try simp only [c_1, (Nat.not_le.mpr c_1), c_2, (Nat.not_le.mpr c_2), c_3, (Int.not_le.mpr c_3), if_true, if_false, Bool.and_true, Bool.true_and, Bool.and_false, Bool.false_and, Bool.and_self, Bool.false_eq_true, ↓reduceIte, decide_true, decide_false, Int.toNat_natCast, Bool.toNat_true, Bool.toNat_false, true_and, and_true, false_and, and_false, not_true_eq_false, not_false_eq_true, true_or, or_true, false_or, or_false]; rfl))
      · refine r_iln F hl 1 rfl dX2_addStep_21 rfl ?_
        refine r_ic F 5 dX2_addStep_22 rfl ?_
        refine r_clez (a := z) (b := (5 : Int)) 28 F dX2_addStep_23 (by decide) (by omega) (fun c_4 => ?_) (fun c_4 => ?_)
        · obtain ⟨z_, rfl⟩ : ∃ k : Nat, z = (k : Int) := ⟨z.toNat, by omega⟩
          have hl : lv_has ls 2 [(0, .ref (q 0)), (1, .int (iI ((z_ : Nat) : Int)))] := hl
          have hv_ : vAS (T 3 0) (T 6 0) (z_ : Int) = true := decide_eq_true (by omega)
          refine r_aln F hl 0 rfl dX2_addStep_28 rfl ?_
          refine gf_X2_18 F B.1 0 rfl (.ref (q 5)) rfl dX2_addStep_29 ?_
          refine r_bp F 8 dX2_addStep_32 rfl ?_
          refine r_aln F hl 0 rfl dX2_addStep_34 rfl ?_
          refine gf_X2_34 F B.1 0 rfl (.int (iI ((T 3 0 : Nat) : Int))) rfl dX2_addStep_35 ?_
          refine r_mul F dX2_addStep_38 ?_
          refine r_aln F hl 0 rfl dX2_addStep_39 rfl ?_
          refine gf_X2_37 F B.1 0 rfl (.int (iI ((T 6 0 : Nat) : Int))) rfl dX2_addStep_40 ?_
          refine r_add F dX2_addStep_43 ?_
          refine r_iln F hl 1 rfl dX2_addStep_44 rfl ?_
          have hb_5 : ∀ j_, upN (T 4) (((8 * T 3 0) + T 6 0)) (z_) j_ < 6 := upN_lt hT4 (by omega)
          refine r_ast (f := T 4) F B 3 (wT q cI (stR T 4 (upN (T 4) (((8 * T 3 0) + T 6 0)) (z_)))) rfl dX2_addStep_45 (by decide) (by omega) rfl (fun H locs B => ?_)
          refine r_aln F hl 0 rfl dX2_addStep_46 rfl ?_
          refine r_dup F dX2_addStep_47 rfl ?_
          refine gf_X2_37 F B.1 0 rfl (.int (iI ((T 6 0 : Nat) : Int))) rfl dX2_addStep_48 ?_
          refine r_ic F 1 dX2_addStep_51 rfl ?_
          refine r_add F dX2_addStep_52 ?_
          refine pf_X2_37 F B 0 (wT q cI (stR (stR T 4 (upN (T 4) (((8 * T 3 0) + T 6 0)) (z_))) 6 (fun _ => (T 6 0 + 1)))) rfl rfl rfl (Nat.le_of_ble_eq_true rfl) rfl dX2_addStep_53 (fun H locs B => ?_)
          refine r_icb F true dX2_addStep_56 rfl ?_
          exact r_retUb F hr hlk hH B dX2_addStep_57 (by rw [hv_]) (by first | rfl | (simp only [asS, asO, hv_, if_true, if_false, Bool.and_true, Bool.true_and, Bool.and_false, Bool.false_and, Bool.and_self, Bool.false_eq_true, ↓reduceIte, decide_true, decide_false, Int.toNat_natCast, Bool.toNat_true, Bool.toNat_false, true_and, and_true, false_and, and_false, not_true_eq_false, not_false_eq_true, true_or, or_true, false_or, or_false]; first | done | rfl | (simp only [c_1, (Nat.not_le.mpr c_1), c_2, (Nat.not_le.mpr c_2), c_3, (Int.not_lt.mp c_3), c_4, (Int.not_lt.mp c_4), if_true, if_false, Bool.and_true, Bool.true_and, Bool.and_false, Bool.false_and, Bool.and_self, Bool.false_eq_true, ↓reduceIte, decide_true, decide_false, Int.toNat_natCast, Bool.toNat_true, Bool.toNat_false, true_and, and_true, false_and, and_false, not_true_eq_false, not_false_eq_true, true_or, or_true, false_or, or_false]; first | done | rfl) | (simp only [if_pos c_1, if_neg (Nat.not_le.mpr c_1), if_pos c_2, if_neg (Nat.not_le.mpr c_2), if_neg c_3, if_pos (Int.not_lt.mp c_3), if_neg c_4, if_pos (Int.not_lt.mp c_4)]; first | done | rfl) | (simp [c_1, (Nat.not_le.mpr c_1), c_2, (Nat.not_le.mpr c_2), c_3, (Int.not_lt.mp c_3), c_4, (Int.not_lt.mp c_4)]; done) | (simp [c_1, (Nat.not_le.mpr c_1), c_2, (Nat.not_le.mpr c_2), c_3, (Int.not_lt.mp c_3), c_4, (Int.not_lt.mp c_4)]; first | rfl | omega)) | (simp [asS, asO, c_1, (Nat.not_le.mpr c_1), c_2, (Nat.not_le.mpr c_2), c_3, (Int.not_lt.mp c_3), c_4, (Int.not_lt.mp c_4), hv_]; done) | (simp [asS, asO, c_1, (Nat.not_le.mpr c_1), c_2, (Nat.not_le.mpr c_2), c_3, (Int.not_lt.mp c_3), c_4, (Int.not_lt.mp c_4), hv_]; omega) | (simp only [asS, asO, hv_, if_true, if_false, Bool.and_true, Bool.true_and, Bool.and_false, Bool.false_and, Bool.and_self, Bool.false_eq_true, ↓reduceIte, decide_true, decide_false, Int.toNat_natCast, Bool.toNat_true, Bool.toNat_false, true_and, and_true, false_and, and_false, not_true_eq_false, not_false_eq_true, true_or, or_true, false_or, or_false]; try simp only [c_1, (Nat.not_le.mpr c_1), c_2, (Nat.not_le.mpr c_2), c_3, (Int.not_lt.mp c_3), c_4, (Int.not_lt.mp c_4), if_true, if_false, Bool.and_true, Bool.true_and, Bool.and_false, Bool.false_and, Bool.and_self, Bool.false_eq_true, ↓reduceIte, decide_true, decide_false, Int.toNat_natCast, Bool.toNat_true, Bool.toNat_false, true_and, and_true, false_and, and_false, not_true_eq_false, not_false_eq_true, true_or, or_true, false_or, or_false]; rfl))
        · have hv_ : vAS (T 3 0) (T 6 0) z = false := decide_eq_false (by omega)
          refine r_icb F false dX2_addStep_26 rfl ?_
          exact r_retUb F hr hlk hH B dX2_addStep_27 (by rw [hv_]) (by first | rfl | (simp only [asS, asO, hv_, if_true, if_false, Bool.and_true, Bool.true_and, Bool.and_false, Bool.false_and, Bool.and_self, Bool.false_eq_true, ↓reduceIte, decide_true, decide_false, Int.toNat_natCast, Bool.toNat_true, Bool.toNat_false, true_and, and_true, false_and, and_false, not_true_eq_false, not_false_eq_true, true_or, or_true, false_or, or_false]; first | done | rfl | (simp only [c_1, (Nat.not_le.mpr c_1), c_2, (Nat.not_le.mpr c_2), c_3, (Int.not_lt.mp c_3), c_4, (Int.not_le.mpr c_4), if_true, if_false, Bool.and_true, Bool.true_and, Bool.and_false, Bool.false_and, Bool.and_self, Bool.false_eq_true, ↓reduceIte, decide_true, decide_false, Int.toNat_natCast, Bool.toNat_true, Bool.toNat_false, true_and, and_true, false_and, and_false, not_true_eq_false, not_false_eq_true, true_or, or_true, false_or, or_false]; first | done | rfl) | (simp only [if_pos c_1, if_neg (Nat.not_le.mpr c_1), if_pos c_2, if_neg (Nat.not_le.mpr c_2), if_neg c_3, if_pos (Int.not_lt.mp c_3), if_pos c_4, if_neg (Int.not_le.mpr c_4)]; first | done | rfl) | (simp [c_1, (Nat.not_le.mpr c_1), c_2, (Nat.not_le.mpr c_2), c_3, (Int.not_lt.mp c_3), c_4, (Int.not_le.mpr c_4)]; done) | (simp [c_1, (Nat.not_le.mpr c_1), c_2, (Nat.not_le.mpr c_2), c_3, (Int.not_lt.mp c_3), c_4, (Int.not_le.mpr c_4)]; first | rfl | omega)) | (simp [asS, asO, c_1, (Nat.not_le.mpr c_1), c_2, (Nat.not_le.mpr c_2), c_3, (Int.not_lt.mp c_3), c_4, (Int.not_le.mpr c_4), hv_]; done) | (simp [asS, asO, c_1, (Nat.not_le.mpr c_1), c_2, (Nat.not_le.mpr c_2), c_3, (Int.not_lt.mp c_3), c_4, (Int.not_le.mpr c_4), hv_]; omega) | (simp only [asS, asO, hv_, if_true, if_false, Bool.and_true, Bool.true_and, Bool.and_false, Bool.false_and, Bool.and_self, Bool.false_eq_true, ↓reduceIte, decide_true, decide_false, Int.toNat_natCast, Bool.toNat_true, Bool.toNat_false, true_and, and_true, false_and, and_false, not_true_eq_false, not_false_eq_true, true_or, or_true, false_or, or_false]; try simp only [c_1, (Nat.not_le.mpr c_1), c_2, (Nat.not_le.mpr c_2), c_3, (Int.not_lt.mp c_3), c_4, (Int.not_le.mpr c_4), if_true, if_false, Bool.and_true, Bool.true_and, Bool.and_false, Bool.false_and, Bool.and_self, Bool.false_eq_true, ↓reduceIte, decide_true, decide_false, Int.toNat_natCast, Bool.toNat_true, Bool.toNat_false, true_and, and_true, false_and, and_false, not_true_eq_false, not_false_eq_true, true_or, or_true, false_or, or_false]; rfl))
abbrev rm_X2_endTrade : Room := { frames := 0, cells := 0, slots := 0, locals := 0 }
set_option maxHeartbeats 4000000 in
set_option maxRecDepth 100000 in
theorem k_X2_endTrade (l : Launch) (D : va_G) (cI cB : ClassId) (q : Nat → Nat) (T : St) (hT : Tok T) : CtU l yX2_endTrade cX2_endTrade 1 (some .boolean) rm_X2_endTrade D cI cB [.ref (q 0)] (wT q cI T) (wT q cI (stR (stR (stR T 5 (etL (T 3 0) (T 6 0) (T 5))) 6 (fun _ => etO (T 3 0) (T 6 0))) 3 (fun _ => etT (T 3 0) (T 6 0)))) ((iI ((Bool.toNat (vET (T 3 0) (T 6 0)) : Nat) : Int))) := by
  obtain ⟨hTs, hT1, hT2, hT4, hT5, hT8⟩ := id hT
  refine CtU.of RX2 (by decide) rfl (Nat.le_of_ble_eq_true rfl) ?_
  intro p e s m args below meth c H0 ls A hH hA F hr hlk B hl
  have hl : lv_has ls 1 [(0, .ref (q 0))] := hl
  refine r_aln F hl 0 rfl dX2_endTrade_0 rfl ?_
  refine gf_X2_34 F B.1 0 rfl (.int (iI ((T 3 0 : Nat) : Int))) rfl dX2_endTrade_1 ?_
  refine r_ic F 4 dX2_endTrade_4 rfl ?_
  refine r_cge 15 F dX2_endTrade_5 (by decide) (by omega) (fun c_1 => ?_) (fun c_1 => ?_)
  · have hv_ : vET (T 3 0) (T 6 0) = false := decide_eq_false (by omega)
    refine r_icb F false dX2_endTrade_15 rfl ?_
    exact r_retUb F hr hlk hH B dX2_endTrade_16 (by rw [hv_]) (by first | rfl | (simp only [etL, etO, etT, hv_, if_true, if_false, Bool.and_true, Bool.true_and, Bool.and_false, Bool.false_and, Bool.and_self, Bool.false_eq_true, ↓reduceIte, decide_true, decide_false, Int.toNat_natCast, Bool.toNat_true, Bool.toNat_false, true_and, and_true, false_and, and_false, not_true_eq_false, not_false_eq_true, true_or, or_true, false_or, or_false]; first | done | rfl | (simp only [c_1, (Nat.not_lt.mp c_1), if_true, if_false, Bool.and_true, Bool.true_and, Bool.and_false, Bool.false_and, Bool.and_self, Bool.false_eq_true, ↓reduceIte, decide_true, decide_false, Int.toNat_natCast, Bool.toNat_true, Bool.toNat_false, true_and, and_true, false_and, and_false, not_true_eq_false, not_false_eq_true, true_or, or_true, false_or, or_false]; first | done | rfl) | (simp only [if_neg c_1, if_pos (Nat.not_lt.mp c_1)]; first | done | rfl) | (simp [c_1, (Nat.not_lt.mp c_1)]; done) | (simp [c_1, (Nat.not_lt.mp c_1)]; first | rfl | omega)) | (simp [etL, etO, etT, c_1, (Nat.not_lt.mp c_1), hv_]; done) | (simp [etL, etO, etT, c_1, (Nat.not_lt.mp c_1), hv_]; omega) | (simp only [etL, etO, etT, hv_, if_true, if_false, Bool.and_true, Bool.true_and, Bool.and_false, Bool.false_and, Bool.and_self, Bool.false_eq_true, ↓reduceIte, decide_true, decide_false, Int.toNat_natCast, Bool.toNat_true, Bool.toNat_false, true_and, and_true, false_and, and_false, not_true_eq_false, not_false_eq_true, true_or, or_true, false_or, or_false]; try simp only [c_1, (Nat.not_lt.mp c_1), if_true, if_false, Bool.and_true, Bool.true_and, Bool.and_false, Bool.false_and, Bool.and_self, Bool.false_eq_true, ↓reduceIte, decide_true, decide_false, Int.toNat_natCast, Bool.toNat_true, Bool.toNat_false, true_and, and_true, false_and, and_false, not_true_eq_false, not_false_eq_true, true_or, or_true, false_or, or_false]; rfl))
  · refine r_aln F hl 0 rfl dX2_endTrade_8 rfl ?_
    refine gf_X2_37 F B.1 0 rfl (.int (iI ((T 6 0 : Nat) : Int))) rfl dX2_endTrade_9 ?_
    refine r_zne 17 F dX2_endTrade_12 (by decide) (by omega) (fun c_2 => ?_) (fun c_2 => ?_)
    · have hv_ : vET (T 3 0) (T 6 0) = true := decide_eq_true (by omega)
      refine r_aln F hl 0 rfl dX2_endTrade_17 rfl ?_
      refine gf_X2_21 F B.1 0 rfl (.ref (q 6)) rfl dX2_endTrade_18 ?_
      refine r_aln F hl 0 rfl dX2_endTrade_21 rfl ?_
      refine gf_X2_34 F B.1 0 rfl (.int (iI ((T 3 0 : Nat) : Int))) rfl dX2_endTrade_22 ?_
      refine r_aln F hl 0 rfl dX2_endTrade_25 rfl ?_
      refine gf_X2_37 F B.1 0 rfl (.int (iI ((T 6 0 : Nat) : Int))) rfl dX2_endTrade_26 ?_
      have hb_3 : ∀ j_, upN (T 5) (T 3 0) (T 6 0) j_ < 9 := upN_lt hT5 (by omega)
      refine r_ast (f := T 5) F B 4 (wT q cI (stR T 5 (upN (T 5) (T 3 0) (T 6 0)))) rfl dX2_endTrade_29 (by decide) (by omega) rfl (fun H locs B => ?_)
      refine r_aln F hl 0 rfl dX2_endTrade_30 rfl ?_
      refine r_ic F 0 dX2_endTrade_31 rfl ?_
      refine pf_X2_37 F B 0 (wT q cI (stR (stR T 5 (upN (T 5) (T 3 0) (T 6 0))) 6 (fun _ => 0))) rfl rfl rfl (Nat.le_of_ble_eq_true rfl) rfl dX2_endTrade_32 (fun H locs B => ?_)
      refine r_aln F hl 0 rfl dX2_endTrade_35 rfl ?_
      refine r_dup F dX2_endTrade_36 rfl ?_
      refine gf_X2_34 F B.1 0 rfl (.int (iI ((T 3 0 : Nat) : Int))) rfl dX2_endTrade_37 ?_
      refine r_ic F 1 dX2_endTrade_40 rfl ?_
      refine r_add F dX2_endTrade_41 ?_
      refine pf_X2_34 F B 0 (wT q cI (stR (stR (stR T 5 (upN (T 5) (T 3 0) (T 6 0))) 6 (fun _ => 0)) 3 (fun _ => (T 3 0 + 1)))) rfl rfl rfl (Nat.le_of_ble_eq_true rfl) rfl dX2_endTrade_42 (fun H locs B => ?_)
      refine r_icb F true dX2_endTrade_45 rfl ?_
      exact r_retUb F hr hlk hH B dX2_endTrade_46 (by rw [hv_]) (by first | rfl | (simp only [etL, etO, etT, hv_, if_true, if_false, Bool.and_true, Bool.true_and, Bool.and_false, Bool.false_and, Bool.and_self, Bool.false_eq_true, ↓reduceIte, decide_true, decide_false, Int.toNat_natCast, Bool.toNat_true, Bool.toNat_false, true_and, and_true, false_and, and_false, not_true_eq_false, not_false_eq_true, true_or, or_true, false_or, or_false]; first | done | rfl | (simp only [c_1, (Nat.not_le.mpr c_1), c_2, if_true, if_false, Bool.and_true, Bool.true_and, Bool.and_false, Bool.false_and, Bool.and_self, Bool.false_eq_true, ↓reduceIte, decide_true, decide_false, Int.toNat_natCast, Bool.toNat_true, Bool.toNat_false, true_and, and_true, false_and, and_false, not_true_eq_false, not_false_eq_true, true_or, or_true, false_or, or_false]; first | done | rfl) | (simp only [if_pos c_1, if_neg (Nat.not_le.mpr c_1), if_neg c_2]; first | done | rfl) | (simp [c_1, (Nat.not_le.mpr c_1), c_2]; done) | (simp [c_1, (Nat.not_le.mpr c_1), c_2]; first | rfl | omega)) | (simp [etL, etO, etT, c_1, (Nat.not_le.mpr c_1), c_2, hv_]; done) | (simp [etL, etO, etT, c_1, (Nat.not_le.mpr c_1), c_2, hv_]; omega) | (simp only [etL, etO, etT, hv_, if_true, if_false, Bool.and_true, Bool.true_and, Bool.and_false, Bool.false_and, Bool.and_self, Bool.false_eq_true, ↓reduceIte, decide_true, decide_false, Int.toNat_natCast, Bool.toNat_true, Bool.toNat_false, true_and, and_true, false_and, and_false, not_true_eq_false, not_false_eq_true, true_or, or_true, false_or, or_false]; try simp only [c_1, (Nat.not_le.mpr c_1), c_2, if_true, if_false, Bool.and_true, Bool.true_and, Bool.and_false, Bool.false_and, Bool.and_self, Bool.false_eq_true, ↓reduceIte, decide_true, decide_false, Int.toNat_natCast, Bool.toNat_true, Bool.toNat_false, true_and, and_true, false_and, and_false, not_true_eq_false, not_false_eq_true, true_or, or_true, false_or, or_false]; rfl))
    · have hv_ : vET (T 3 0) (T 6 0) = false := decide_eq_false (by omega)
      refine r_icb F false dX2_endTrade_15 rfl ?_
      exact r_retUb F hr hlk hH B dX2_endTrade_16 (by rw [hv_]) (by first | rfl | (simp only [etL, etO, etT, hv_, if_true, if_false, Bool.and_true, Bool.true_and, Bool.and_false, Bool.false_and, Bool.and_self, Bool.false_eq_true, ↓reduceIte, decide_true, decide_false, Int.toNat_natCast, Bool.toNat_true, Bool.toNat_false, true_and, and_true, false_and, and_false, not_true_eq_false, not_false_eq_true, true_or, or_true, false_or, or_false]; first | done | rfl | (simp only [c_1, (Nat.not_le.mpr c_1), c_2, if_true, if_false, Bool.and_true, Bool.true_and, Bool.and_false, Bool.false_and, Bool.and_self, Bool.false_eq_true, ↓reduceIte, decide_true, decide_false, Int.toNat_natCast, Bool.toNat_true, Bool.toNat_false, true_and, and_true, false_and, and_false, not_true_eq_false, not_false_eq_true, true_or, or_true, false_or, or_false]; first | done | rfl) | (simp only [if_pos c_1, if_neg (Nat.not_le.mpr c_1), if_pos c_2]; first | done | rfl) | (simp [c_1, (Nat.not_le.mpr c_1), c_2]; done) | (simp [c_1, (Nat.not_le.mpr c_1), c_2]; first | rfl | omega)) | (simp [etL, etO, etT, c_1, (Nat.not_le.mpr c_1), c_2, hv_]; done) | (simp [etL, etO, etT, c_1, (Nat.not_le.mpr c_1), c_2, hv_]; omega) | (simp only [etL, etO, etT, hv_, if_true, if_false, Bool.and_true, Bool.true_and, Bool.and_false, Bool.false_and, Bool.and_self, Bool.false_eq_true, ↓reduceIte, decide_true, decide_false, Int.toNat_natCast, Bool.toNat_true, Bool.toNat_false, true_and, and_true, false_and, and_false, not_true_eq_false, not_false_eq_true, true_or, or_true, false_or, or_false]; try simp only [c_1, (Nat.not_le.mpr c_1), c_2, if_true, if_false, Bool.and_true, Bool.true_and, Bool.and_false, Bool.false_and, Bool.and_self, Bool.false_eq_true, ↓reduceIte, decide_true, decide_false, Int.toNat_natCast, Bool.toNat_true, Bool.toNat_false, true_and, and_true, false_and, and_false, not_true_eq_false, not_false_eq_true, true_or, or_true, false_or, or_false]; rfl))
abbrev rm_X2_setStepsPerShift : Room := { frames := 0, cells := 0, slots := 0, locals := 0 }
set_option maxHeartbeats 4000000 in
set_option maxRecDepth 100000 in
theorem k_X2_setStepsPerShift (l : Launch) (D : va_G) (cI cB : ClassId) (q : Nat → Nat) (T : St) (x : Nat) (hx : x < 1000) (hT : Tok T) : CtU l yX2_setStepsPerShift cX2_setStepsPerShift 2 (some .boolean) rm_X2_setStepsPerShift D cI cB [.ref (q 0), .int (iI ((x : Nat) : Int))] (wT q cI T) (wT q cI (stR T 9 (fun _ => ifV (vSC x) x (T 9 0)))) ((iI ((Bool.toNat (vSC x) : Nat) : Int))) := by
  obtain ⟨hTs, hT1, hT2, hT4, hT5, hT8⟩ := id hT
  refine CtU.of RX2 (by decide) rfl (Nat.le_of_ble_eq_true rfl) ?_
  intro p e s m args below meth c H0 ls A hH hA F hr hlk B hl
  have hl : lv_has ls 2 [(0, .ref (q 0)), (1, .int (iI ((x : Nat) : Int)))] := hl
  refine r_iln F hl 1 rfl dX2_setStepsPerShift_0 rfl ?_
  refine r_ic F 1 dX2_setStepsPerShift_1 rfl ?_
  refine r_clt 11 F dX2_setStepsPerShift_2 (by decide) (by omega) (fun c_1 => ?_) (fun c_1 => ?_)
  · have hv_ : vSC x = false := decide_eq_false (by omega)
    refine r_icb F false dX2_setStepsPerShift_11 rfl ?_
    exact r_retUb F hr hlk hH B dX2_setStepsPerShift_12 (by rw [hv_]) (by first | rfl | (simp only [ifV, hv_, if_true, if_false, Bool.and_true, Bool.true_and, Bool.and_false, Bool.false_and, Bool.and_self, Bool.false_eq_true, ↓reduceIte, decide_true, decide_false, Int.toNat_natCast, Bool.toNat_true, Bool.toNat_false, true_and, and_true, false_and, and_false, not_true_eq_false, not_false_eq_true, true_or, or_true, false_or, or_false]; first | done | rfl | (simp only [c_1, (Nat.not_le.mpr c_1), if_true, if_false, Bool.and_true, Bool.true_and, Bool.and_false, Bool.false_and, Bool.and_self, Bool.false_eq_true, ↓reduceIte, decide_true, decide_false, Int.toNat_natCast, Bool.toNat_true, Bool.toNat_false, true_and, and_true, false_and, and_false, not_true_eq_false, not_false_eq_true, true_or, or_true, false_or, or_false]; first | done | rfl) | (simp only [if_pos c_1, if_neg (Nat.not_le.mpr c_1)]; first | done | rfl) | (simp [c_1, (Nat.not_le.mpr c_1)]; done) | (simp [c_1, (Nat.not_le.mpr c_1)]; first | rfl | omega)) | (simp [ifV, c_1, (Nat.not_le.mpr c_1), hv_]; done) | (simp [ifV, c_1, (Nat.not_le.mpr c_1), hv_]; omega) | (simp only [ifV, hv_, if_true, if_false, Bool.and_true, Bool.true_and, Bool.and_false, Bool.false_and, Bool.and_self, Bool.false_eq_true, ↓reduceIte, decide_true, decide_false, Int.toNat_natCast, Bool.toNat_true, Bool.toNat_false, true_and, and_true, false_and, and_false, not_true_eq_false, not_false_eq_true, true_or, or_true, false_or, or_false]; try simp only [c_1, (Nat.not_le.mpr c_1), if_true, if_false, Bool.and_true, Bool.true_and, Bool.and_false, Bool.false_and, Bool.and_self, Bool.false_eq_true, ↓reduceIte, decide_true, decide_false, Int.toNat_natCast, Bool.toNat_true, Bool.toNat_false, true_and, and_true, false_and, and_false, not_true_eq_false, not_false_eq_true, true_or, or_true, false_or, or_false]; rfl))
  · refine r_iln F hl 1 rfl dX2_setStepsPerShift_5 rfl ?_
    refine r_bp F 8 dX2_setStepsPerShift_6 rfl ?_
    refine r_cle 13 F dX2_setStepsPerShift_8 (by decide) (by omega) (fun c_2 => ?_) (fun c_2 => ?_)
    · have hv_ : vSC x = true := decide_eq_true (by omega)
      refine r_aln F hl 0 rfl dX2_setStepsPerShift_13 rfl ?_
      refine r_iln F hl 1 rfl dX2_setStepsPerShift_14 rfl ?_
      refine pf_X2_43 F B 0 (wT q cI (stR T 9 (fun _ => x))) rfl rfl rfl (Nat.le_of_ble_eq_true rfl) rfl dX2_setStepsPerShift_15 (fun H locs B => ?_)
      refine r_icb F true dX2_setStepsPerShift_18 rfl ?_
      exact r_retUb F hr hlk hH B dX2_setStepsPerShift_19 (by rw [hv_]) (by first | rfl | (simp only [ifV, hv_, if_true, if_false, Bool.and_true, Bool.true_and, Bool.and_false, Bool.false_and, Bool.and_self, Bool.false_eq_true, ↓reduceIte, decide_true, decide_false, Int.toNat_natCast, Bool.toNat_true, Bool.toNat_false, true_and, and_true, false_and, and_false, not_true_eq_false, not_false_eq_true, true_or, or_true, false_or, or_false]; first | done | rfl | (simp only [c_1, (Nat.not_lt.mp c_1), c_2, (Nat.not_lt.mp c_2), if_true, if_false, Bool.and_true, Bool.true_and, Bool.and_false, Bool.false_and, Bool.and_self, Bool.false_eq_true, ↓reduceIte, decide_true, decide_false, Int.toNat_natCast, Bool.toNat_true, Bool.toNat_false, true_and, and_true, false_and, and_false, not_true_eq_false, not_false_eq_true, true_or, or_true, false_or, or_false]; first | done | rfl) | (simp only [if_neg c_1, if_pos (Nat.not_lt.mp c_1), if_neg c_2, if_pos (Nat.not_lt.mp c_2)]; first | done | rfl) | (simp [c_1, (Nat.not_lt.mp c_1), c_2, (Nat.not_lt.mp c_2)]; done) | (simp [c_1, (Nat.not_lt.mp c_1), c_2, (Nat.not_lt.mp c_2)]; first | rfl | omega)) | (simp [ifV, c_1, (Nat.not_lt.mp c_1), c_2, (Nat.not_lt.mp c_2), hv_]; done) | (simp [ifV, c_1, (Nat.not_lt.mp c_1), c_2, (Nat.not_lt.mp c_2), hv_]; omega) | (simp only [ifV, hv_, if_true, if_false, Bool.and_true, Bool.true_and, Bool.and_false, Bool.false_and, Bool.and_self, Bool.false_eq_true, ↓reduceIte, decide_true, decide_false, Int.toNat_natCast, Bool.toNat_true, Bool.toNat_false, true_and, and_true, false_and, and_false, not_true_eq_false, not_false_eq_true, true_or, or_true, false_or, or_false]; try simp only [c_1, (Nat.not_lt.mp c_1), c_2, (Nat.not_lt.mp c_2), if_true, if_false, Bool.and_true, Bool.true_and, Bool.and_false, Bool.false_and, Bool.and_self, Bool.false_eq_true, ↓reduceIte, decide_true, decide_false, Int.toNat_natCast, Bool.toNat_true, Bool.toNat_false, true_and, and_true, false_and, and_false, not_true_eq_false, not_false_eq_true, true_or, or_true, false_or, or_false]; rfl))
    · have hv_ : vSC x = false := decide_eq_false (by omega)
      refine r_icb F false dX2_setStepsPerShift_11 rfl ?_
      exact r_retUb F hr hlk hH B dX2_setStepsPerShift_12 (by rw [hv_]) (by first | rfl | (simp only [ifV, hv_, if_true, if_false, Bool.and_true, Bool.true_and, Bool.and_false, Bool.false_and, Bool.and_self, Bool.false_eq_true, ↓reduceIte, decide_true, decide_false, Int.toNat_natCast, Bool.toNat_true, Bool.toNat_false, true_and, and_true, false_and, and_false, not_true_eq_false, not_false_eq_true, true_or, or_true, false_or, or_false]; first | done | rfl | (simp only [c_1, (Nat.not_lt.mp c_1), c_2, (Nat.not_le.mpr c_2), if_true, if_false, Bool.and_true, Bool.true_and, Bool.and_false, Bool.false_and, Bool.and_self, Bool.false_eq_true, ↓reduceIte, decide_true, decide_false, Int.toNat_natCast, Bool.toNat_true, Bool.toNat_false, true_and, and_true, false_and, and_false, not_true_eq_false, not_false_eq_true, true_or, or_true, false_or, or_false]; first | done | rfl) | (simp only [if_neg c_1, if_pos (Nat.not_lt.mp c_1), if_pos c_2, if_neg (Nat.not_le.mpr c_2)]; first | done | rfl) | (simp [c_1, (Nat.not_lt.mp c_1), c_2, (Nat.not_le.mpr c_2)]; done) | (simp [c_1, (Nat.not_lt.mp c_1), c_2, (Nat.not_le.mpr c_2)]; first | rfl | omega)) | (simp [ifV, c_1, (Nat.not_lt.mp c_1), c_2, (Nat.not_le.mpr c_2), hv_]; done) | (simp [ifV, c_1, (Nat.not_lt.mp c_1), c_2, (Nat.not_le.mpr c_2), hv_]; omega) | (simp only [ifV, hv_, if_true, if_false, Bool.and_true, Bool.true_and, Bool.and_false, Bool.false_and, Bool.and_self, Bool.false_eq_true, ↓reduceIte, decide_true, decide_false, Int.toNat_natCast, Bool.toNat_true, Bool.toNat_false, true_and, and_true, false_and, and_false, not_true_eq_false, not_false_eq_true, true_or, or_true, false_or, or_false]; try simp only [c_1, (Nat.not_lt.mp c_1), c_2, (Nat.not_le.mpr c_2), if_true, if_false, Bool.and_true, Bool.true_and, Bool.and_false, Bool.false_and, Bool.and_self, Bool.false_eq_true, ↓reduceIte, decide_true, decide_false, Int.toNat_natCast, Bool.toNat_true, Bool.toNat_false, true_and, and_true, false_and, and_false, not_true_eq_false, not_false_eq_true, true_or, or_true, false_or, or_false]; rfl))
abbrev rm_X2_setFactsTold : Room := { frames := 0, cells := 0, slots := 0, locals := 0 }
set_option maxHeartbeats 4000000 in
set_option maxRecDepth 100000 in
theorem k_X2_setFactsTold (l : Launch) (D : va_G) (cI cB : ClassId) (q : Nat → Nat) (T : St) (x : Nat) (hx : x < 1000) (hT : Tok T) : CtU l yX2_setFactsTold cX2_setFactsTold 2 (some .boolean) rm_X2_setFactsTold D cI cB [.ref (q 0), .int (iI ((x : Nat) : Int))] (wT q cI T) (wT q cI (stR T 10 (fun _ => ifV (vSN x) x (T 10 0)))) ((iI ((Bool.toNat (vSN x) : Nat) : Int))) := by
  obtain ⟨hTs, hT1, hT2, hT4, hT5, hT8⟩ := id hT
  refine CtU.of RX2 (by decide) rfl (Nat.le_of_ble_eq_true rfl) ?_
  intro p e s m args below meth c H0 ls A hH hA F hr hlk B hl
  have hl : lv_has ls 2 [(0, .ref (q 0)), (1, .int (iI ((x : Nat) : Int)))] := hl
  refine r_iln F hl 1 rfl dX2_setFactsTold_0 rfl ?_
  refine r_zlt 10 F dX2_setFactsTold_1 (by decide) (by omega) (fun c_1 => ?_) (fun c_1 => ?_)
  · exfalso; omega
  · refine r_iln F hl 1 rfl dX2_setFactsTold_4 rfl ?_
    refine r_bp F 8 dX2_setFactsTold_5 rfl ?_
    refine r_cle 12 F dX2_setFactsTold_7 (by decide) (by omega) (fun c_2 => ?_) (fun c_2 => ?_)
    · have hv_ : vSN x = true := decide_eq_true (by omega)
      refine r_aln F hl 0 rfl dX2_setFactsTold_12 rfl ?_
      refine r_iln F hl 1 rfl dX2_setFactsTold_13 rfl ?_
      refine pf_X2_46 F B 0 (wT q cI (stR T 10 (fun _ => x))) rfl rfl rfl (Nat.le_of_ble_eq_true rfl) rfl dX2_setFactsTold_14 (fun H locs B => ?_)
      refine r_icb F true dX2_setFactsTold_17 rfl ?_
      exact r_retUb F hr hlk hH B dX2_setFactsTold_18 (by rw [hv_]) (by first | rfl | (simp only [ifV, hv_, if_true, if_false, Bool.and_true, Bool.true_and, Bool.and_false, Bool.false_and, Bool.and_self, Bool.false_eq_true, ↓reduceIte, decide_true, decide_false, Int.toNat_natCast, Bool.toNat_true, Bool.toNat_false, true_and, and_true, false_and, and_false, not_true_eq_false, not_false_eq_true, true_or, or_true, false_or, or_false]; first | done | rfl | (simp only [c_1, (Nat.not_lt.mp c_1), c_2, (Nat.not_lt.mp c_2), if_true, if_false, Bool.and_true, Bool.true_and, Bool.and_false, Bool.false_and, Bool.and_self, Bool.false_eq_true, ↓reduceIte, decide_true, decide_false, Int.toNat_natCast, Bool.toNat_true, Bool.toNat_false, true_and, and_true, false_and, and_false, not_true_eq_false, not_false_eq_true, true_or, or_true, false_or, or_false]; first | done | rfl) | (simp only [if_neg c_1, if_pos (Nat.not_lt.mp c_1), if_neg c_2, if_pos (Nat.not_lt.mp c_2)]; first | done | rfl) | (simp [c_1, (Nat.not_lt.mp c_1), c_2, (Nat.not_lt.mp c_2)]; done) | (simp [c_1, (Nat.not_lt.mp c_1), c_2, (Nat.not_lt.mp c_2)]; first | rfl | omega)) | (simp [ifV, c_1, (Nat.not_lt.mp c_1), c_2, (Nat.not_lt.mp c_2), hv_]; done) | (simp [ifV, c_1, (Nat.not_lt.mp c_1), c_2, (Nat.not_lt.mp c_2), hv_]; omega) | (simp only [ifV, hv_, if_true, if_false, Bool.and_true, Bool.true_and, Bool.and_false, Bool.false_and, Bool.and_self, Bool.false_eq_true, ↓reduceIte, decide_true, decide_false, Int.toNat_natCast, Bool.toNat_true, Bool.toNat_false, true_and, and_true, false_and, and_false, not_true_eq_false, not_false_eq_true, true_or, or_true, false_or, or_false]; try simp only [c_1, (Nat.not_lt.mp c_1), c_2, (Nat.not_lt.mp c_2), if_true, if_false, Bool.and_true, Bool.true_and, Bool.and_false, Bool.false_and, Bool.and_self, Bool.false_eq_true, ↓reduceIte, decide_true, decide_false, Int.toNat_natCast, Bool.toNat_true, Bool.toNat_false, true_and, and_true, false_and, and_false, not_true_eq_false, not_false_eq_true, true_or, or_true, false_or, or_false]; rfl))
    · have hv_ : vSN x = false := decide_eq_false (by omega)
      refine r_icb F false dX2_setFactsTold_10 rfl ?_
      exact r_retUb F hr hlk hH B dX2_setFactsTold_11 (by rw [hv_]) (by first | rfl | (simp only [ifV, hv_, if_true, if_false, Bool.and_true, Bool.true_and, Bool.and_false, Bool.false_and, Bool.and_self, Bool.false_eq_true, ↓reduceIte, decide_true, decide_false, Int.toNat_natCast, Bool.toNat_true, Bool.toNat_false, true_and, and_true, false_and, and_false, not_true_eq_false, not_false_eq_true, true_or, or_true, false_or, or_false]; first | done | rfl | (simp only [c_1, (Nat.not_lt.mp c_1), c_2, (Nat.not_le.mpr c_2), if_true, if_false, Bool.and_true, Bool.true_and, Bool.and_false, Bool.false_and, Bool.and_self, Bool.false_eq_true, ↓reduceIte, decide_true, decide_false, Int.toNat_natCast, Bool.toNat_true, Bool.toNat_false, true_and, and_true, false_and, and_false, not_true_eq_false, not_false_eq_true, true_or, or_true, false_or, or_false]; first | done | rfl) | (simp only [if_neg c_1, if_pos (Nat.not_lt.mp c_1), if_pos c_2, if_neg (Nat.not_le.mpr c_2)]; first | done | rfl) | (simp [c_1, (Nat.not_lt.mp c_1), c_2, (Nat.not_le.mpr c_2)]; done) | (simp [c_1, (Nat.not_lt.mp c_1), c_2, (Nat.not_le.mpr c_2)]; first | rfl | omega)) | (simp [ifV, c_1, (Nat.not_lt.mp c_1), c_2, (Nat.not_le.mpr c_2), hv_]; done) | (simp [ifV, c_1, (Nat.not_lt.mp c_1), c_2, (Nat.not_le.mpr c_2), hv_]; omega) | (simp only [ifV, hv_, if_true, if_false, Bool.and_true, Bool.true_and, Bool.and_false, Bool.false_and, Bool.and_self, Bool.false_eq_true, ↓reduceIte, decide_true, decide_false, Int.toNat_natCast, Bool.toNat_true, Bool.toNat_false, true_and, and_true, false_and, and_false, not_true_eq_false, not_false_eq_true, true_or, or_true, false_or, or_false]; try simp only [c_1, (Nat.not_lt.mp c_1), c_2, (Nat.not_le.mpr c_2), if_true, if_false, Bool.and_true, Bool.true_and, Bool.and_false, Bool.false_and, Bool.and_self, Bool.false_eq_true, ↓reduceIte, decide_true, decide_false, Int.toNat_natCast, Bool.toNat_true, Bool.toNat_false, true_and, and_true, false_and, and_false, not_true_eq_false, not_false_eq_true, true_or, or_true, false_or, or_false]; rfl))
abbrev rm_X2_isHalfHere : Room := { frames := 1, cells := 0, slots := 0, locals := 20 }
set_option maxHeartbeats 4000000 in
set_option maxRecDepth 100000 in
theorem k_X2_isHalfHere (l : Launch) (D : va_G) (cI cB : ClassId) (q : Nat → Nat) (T : St) (i d : Nat) (hx : i < 1000 ∧ d < 1000) (hT : Tok T) : CtQ l yX2_isHalfHere cX2_isHalfHere 3 (some .boolean) rm_X2_isHalfHere D cI cB [.ref (q 0), .int (iI ((i : Nat) : Int)), .int (iI ((d : Nat) : Int))] (wT q cI T) ((iI ((Bool.toNat (hHere (T 0 0) i d) : Nat) : Int))) := by
  obtain ⟨hTs, hT1, hT2, hT4, hT5, hT8⟩ := id hT
  refine CtQ.of RX2 (by decide) rfl (Nat.le_of_ble_eq_true rfl) ?_
  intro p e s m args below meth c H ls hH F hr hlk P hl
  have hl : lv_has ls 3 [(0, .ref (q 0)), (1, .int (iI ((i : Nat) : Int))), (2, .int (iI ((d : Nat) : Int)))] := hl
  refine r_iln F hl 1 rfl dX2_isHalfHere_0 rfl ?_
  refine r_zlt 23 F dX2_isHalfHere_1 (by decide) (by omega) (fun c_1 => ?_) (fun c_1 => ?_)
  · exfalso; omega
  · refine r_iln F hl 1 rfl dX2_isHalfHere_4 rfl ?_
    refine r_aln F hl 0 rfl dX2_isHalfHere_5 rfl ?_
    refine gf_X2_30 F P 0 rfl (.int (iI ((T 0 0 : Nat) : Int))) rfl dX2_isHalfHere_6 ?_
    refine r_cge 23 F dX2_isHalfHere_9 (by decide) (by omega) (fun c_2 => ?_) (fun c_2 => ?_)
    · refine r_icb F false dX2_isHalfHere_23 rfl ?_
      exact r_retQb F hr hlk hH dX2_isHalfHere_24 (by rw [show hHere (T 0 0) i d = false from decide_eq_false (by omega)])
    · refine r_iln F hl 2 rfl dX2_isHalfHere_12 rfl ?_
      refine r_sqN (r := (iI ((Bool.toNat (isIn (((d : Nat) : Int)) 0 1) : Nat) : Int))) F P (k_X3_isHalf l D cI cB (((d : Nat) : Int)) (by omega)) gw_X2_62 [] rfl ⟨⟨rfl, rfl⟩, Nat.le_of_ble_eq_true rfl, Nat.le_of_ble_eq_true rfl⟩ ⟨Nat.le_of_ble_eq_true rfl, Nat.le_of_ble_eq_true rfl⟩ hl.1 rfl [] rfl (Nat.le_of_ble_eq_true rfl) dX2_isHalfHere_13 ?_
      refine r_zeqb 23 F dX2_isHalfHere_16 (by decide) (fun c_3 => ?_) (fun c_3 => ?_)
      · have c_3d := c_3
        simp only [isIn, isP, decide_eq_true_eq, decide_eq_false_iff_not] at c_3d
        refine r_icb F false dX2_isHalfHere_23 rfl ?_
        exact r_retQb F hr hlk hH dX2_isHalfHere_24 (by rw [show hHere (T 0 0) i d = false from decide_eq_false (by omega)])
      · have c_3d := c_3
        simp only [isIn, isP, decide_eq_true_eq, decide_eq_false_iff_not] at c_3d
        refine r_icb F true dX2_isHalfHere_19 rfl ?_
        refine r_goto 24 F dX2_isHalfHere_20 (by decide) ?_
        exact r_retQb F hr hlk hH dX2_isHalfHere_24 (by rw [show hHere (T 0 0) i d = true from decide_eq_true (by omega)])
abbrev rm_X2_setKnown : Room := { frames := 2, cells := 0, slots := 0, locals := 42 }
set_option maxHeartbeats 4000000 in
set_option maxRecDepth 100000 in
theorem k_X2_setKnown (l : Launch) (D : va_G) (cI cB : ClassId) (q : Nat → Nat) (T : St) (i d x : Nat) (hx : i < 1000 ∧ d < 1000 ∧ x < 1000) (hT : Tok T) : CtU l yX2_setKnown cX2_setKnown 4 (some .boolean) rm_X2_setKnown D cI cB [.ref (q 0), .int (iI ((i : Nat) : Int)), .int (iI ((d : Nat) : Int)), .int (iI ((x : Nat) : Int))] (wT q cI T) (wT q cI (stR T 2 (skK (T 0 0) i d x (T 2)))) ((iI ((Bool.toNat (vSK (T 0 0) i d x) : Nat) : Int))) := by
  obtain ⟨hTs, hT1, hT2, hT4, hT5, hT8⟩ := id hT
  refine CtU.of RX2 (by decide) rfl (Nat.le_of_ble_eq_true rfl) ?_
  intro p e s m args below meth c H0 ls A hH hA F hr hlk B hl
  have hl : lv_has ls 4 [(0, .ref (q 0)), (1, .int (iI ((i : Nat) : Int))), (2, .int (iI ((d : Nat) : Int))), (3, .int (iI ((x : Nat) : Int)))] := hl
  refine r_aln F hl 0 rfl dX2_setKnown_0 rfl ?_
  refine r_iln F hl 1 rfl dX2_setKnown_1 rfl ?_
  refine r_iln F hl 2 rfl dX2_setKnown_2 rfl ?_
  refine r_cq (r := (iI ((Bool.toNat (hHere (T 0 0) (i) (d)) : Nat) : Int))) F B.1 (k_X2_isHalfHere l D cI cB (q) (T) (i) (d) (by omega) hT) gw_X2_58 [0, 1, 2, 3, 4, 5] rfl rfl rfl ⟨⟨rfl, rfl⟩, Nat.le_of_ble_eq_true rfl, Nat.le_of_ble_eq_true rfl⟩ ⟨Nat.le_of_ble_eq_true rfl, Nat.le_of_ble_eq_true rfl⟩ hl.1 rfl [] rfl (Nat.le_of_ble_eq_true rfl) dX2_setKnown_3 ?_
  refine r_zeqb 20 F dX2_setKnown_6 (by decide) (fun c_1 => ?_) (fun c_1 => ?_)
  · have c_1d := c_1
    simp only [isIn, isP, hHere, decide_eq_true_eq, decide_eq_false_iff_not] at c_1d
    have hv_ : vSK (T 0 0) i d x = false := decide_eq_false (by omega)
    refine r_icb F false dX2_setKnown_20 rfl ?_
    exact r_retUb F hr hlk hH B dX2_setKnown_21 (by rw [hv_]) (by first | rfl | (simp only [skK, c_1, hv_, if_true, if_false, Bool.and_true, Bool.true_and, Bool.and_false, Bool.false_and, Bool.and_self, Bool.false_eq_true, ↓reduceIte, decide_true, decide_false, Int.toNat_natCast, Bool.toNat_true, Bool.toNat_false, true_and, and_true, false_and, and_false, not_true_eq_false, not_false_eq_true, true_or, or_true, false_or, or_false]; first | done | rfl | (simp only [if_true, if_true, if_false, Bool.and_true, Bool.true_and, Bool.and_false, Bool.false_and, Bool.and_self, Bool.false_eq_true, ↓reduceIte, decide_true, decide_false, Int.toNat_natCast, Bool.toNat_true, Bool.toNat_false, true_and, and_true, false_and, and_false, not_true_eq_false, not_false_eq_true, true_or, or_true, false_or, or_false]; first | done | rfl) | (simp only [if_true]; first | done | rfl) | (simp [if_true]; done) | (simp [if_true]; first | rfl | omega)) | (simp [skK, c_1, hv_]; done) | (simp [skK, c_1, hv_]; omega) | (simp only [skK, c_1, hv_, if_true, if_false, Bool.and_true, Bool.true_and, Bool.and_false, Bool.false_and, Bool.and_self, Bool.false_eq_true, ↓reduceIte, decide_true, decide_false, Int.toNat_natCast, Bool.toNat_true, Bool.toNat_false, true_and, and_true, false_and, and_false, not_true_eq_false, not_false_eq_true, true_or, or_true, false_or, or_false]; try simp only [if_true, if_true, if_false, Bool.and_true, Bool.true_and, Bool.and_false, Bool.false_and, Bool.and_self, Bool.false_eq_true, ↓reduceIte, decide_true, decide_false, Int.toNat_natCast, Bool.toNat_true, Bool.toNat_false, true_and, and_true, false_and, and_false, not_true_eq_false, not_false_eq_true, true_or, or_true, false_or, or_false]; rfl))
  · have c_1d := c_1
    simp only [isIn, isP, hHere, decide_eq_true_eq, decide_eq_false_iff_not] at c_1d
    refine r_iln F hl 3 rfl dX2_setKnown_9 rfl ?_
    refine r_zlt 20 F dX2_setKnown_10 (by decide) (by omega) (fun c_2 => ?_) (fun c_2 => ?_)
    · exfalso; omega
    · refine r_iln F hl 3 rfl dX2_setKnown_13 rfl ?_
      refine r_sp F 255 dX2_setKnown_14 rfl ?_
      refine r_cle 22 F dX2_setKnown_17 (by decide) (by omega) (fun c_3 => ?_) (fun c_3 => ?_)
      · have hv_ : vSK (T 0 0) i d x = true := decide_eq_true (by omega)
        refine r_aln F hl 0 rfl dX2_setKnown_22 rfl ?_
        refine gf_X2_15 F B.1 0 rfl (.ref (q 3)) rfl dX2_setKnown_23 ?_
        refine r_ic F 2 dX2_setKnown_26 rfl ?_
        refine r_iln F hl 1 rfl dX2_setKnown_27 rfl ?_
        refine r_mul F dX2_setKnown_28 ?_
        refine r_iln F hl 2 rfl dX2_setKnown_29 rfl ?_
        refine r_add F dX2_setKnown_30 ?_
        refine r_iln F hl 3 rfl dX2_setKnown_31 rfl ?_
        have hb_4 : ∀ j_, upN (T 2) (((2 * i) + d)) (x) j_ < 256 := upN_lt hT2 (by omega)
        refine r_ast (f := T 2) F B 2 (wT q cI (stR T 2 (upN (T 2) (((2 * i) + d)) (x)))) rfl dX2_setKnown_32 (by decide) (by omega) rfl (fun H locs B => ?_)
        refine r_icb F true dX2_setKnown_33 rfl ?_
        exact r_retUb F hr hlk hH B dX2_setKnown_34 (by rw [hv_]) (by first | rfl | (simp only [skK, c_1, hv_, if_true, if_false, Bool.and_true, Bool.true_and, Bool.and_false, Bool.false_and, Bool.and_self, Bool.false_eq_true, ↓reduceIte, decide_true, decide_false, Int.toNat_natCast, Bool.toNat_true, Bool.toNat_false, true_and, and_true, false_and, and_false, not_true_eq_false, not_false_eq_true, true_or, or_true, false_or, or_false]; first | done | rfl | (simp only [c_2, (Nat.not_lt.mp c_2), c_3, (Nat.not_lt.mp c_3), if_true, if_false, Bool.and_true, Bool.true_and, Bool.and_false, Bool.false_and, Bool.and_self, Bool.false_eq_true, ↓reduceIte, decide_true, decide_false, Int.toNat_natCast, Bool.toNat_true, Bool.toNat_false, true_and, and_true, false_and, and_false, not_true_eq_false, not_false_eq_true, true_or, or_true, false_or, or_false]; first | done | rfl) | (simp only [if_neg c_2, if_pos (Nat.not_lt.mp c_2), if_neg c_3, if_pos (Nat.not_lt.mp c_3)]; first | done | rfl) | (simp [c_2, (Nat.not_lt.mp c_2), c_3, (Nat.not_lt.mp c_3)]; done) | (simp [c_2, (Nat.not_lt.mp c_2), c_3, (Nat.not_lt.mp c_3)]; first | rfl | omega)) | (simp [skK, c_1, c_2, (Nat.not_lt.mp c_2), c_3, (Nat.not_lt.mp c_3), hv_]; done) | (simp [skK, c_1, c_2, (Nat.not_lt.mp c_2), c_3, (Nat.not_lt.mp c_3), hv_]; omega) | (simp only [skK, c_1, hv_, if_true, if_false, Bool.and_true, Bool.true_and, Bool.and_false, Bool.false_and, Bool.and_self, Bool.false_eq_true, ↓reduceIte, decide_true, decide_false, Int.toNat_natCast, Bool.toNat_true, Bool.toNat_false, true_and, and_true, false_and, and_false, not_true_eq_false, not_false_eq_true, true_or, or_true, false_or, or_false]; try simp only [c_2, (Nat.not_lt.mp c_2), c_3, (Nat.not_lt.mp c_3), if_true, if_false, Bool.and_true, Bool.true_and, Bool.and_false, Bool.false_and, Bool.and_self, Bool.false_eq_true, ↓reduceIte, decide_true, decide_false, Int.toNat_natCast, Bool.toNat_true, Bool.toNat_false, true_and, and_true, false_and, and_false, not_true_eq_false, not_false_eq_true, true_or, or_true, false_or, or_false]; rfl))
      · have hv_ : vSK (T 0 0) i d x = false := decide_eq_false (by omega)
        refine r_icb F false dX2_setKnown_20 rfl ?_
        exact r_retUb F hr hlk hH B dX2_setKnown_21 (by rw [hv_]) (by first | rfl | (simp only [skK, c_1, hv_, if_true, if_false, Bool.and_true, Bool.true_and, Bool.and_false, Bool.false_and, Bool.and_self, Bool.false_eq_true, ↓reduceIte, decide_true, decide_false, Int.toNat_natCast, Bool.toNat_true, Bool.toNat_false, true_and, and_true, false_and, and_false, not_true_eq_false, not_false_eq_true, true_or, or_true, false_or, or_false]; first | done | rfl | (simp only [c_2, (Nat.not_lt.mp c_2), c_3, (Nat.not_le.mpr c_3), if_true, if_false, Bool.and_true, Bool.true_and, Bool.and_false, Bool.false_and, Bool.and_self, Bool.false_eq_true, ↓reduceIte, decide_true, decide_false, Int.toNat_natCast, Bool.toNat_true, Bool.toNat_false, true_and, and_true, false_and, and_false, not_true_eq_false, not_false_eq_true, true_or, or_true, false_or, or_false]; first | done | rfl) | (simp only [if_neg c_2, if_pos (Nat.not_lt.mp c_2), if_pos c_3, if_neg (Nat.not_le.mpr c_3)]; first | done | rfl) | (simp [c_2, (Nat.not_lt.mp c_2), c_3, (Nat.not_le.mpr c_3)]; done) | (simp [c_2, (Nat.not_lt.mp c_2), c_3, (Nat.not_le.mpr c_3)]; first | rfl | omega)) | (simp [skK, c_1, c_2, (Nat.not_lt.mp c_2), c_3, (Nat.not_le.mpr c_3), hv_]; done) | (simp [skK, c_1, c_2, (Nat.not_lt.mp c_2), c_3, (Nat.not_le.mpr c_3), hv_]; omega) | (simp only [skK, c_1, hv_, if_true, if_false, Bool.and_true, Bool.true_and, Bool.and_false, Bool.false_and, Bool.and_self, Bool.false_eq_true, ↓reduceIte, decide_true, decide_false, Int.toNat_natCast, Bool.toNat_true, Bool.toNat_false, true_and, and_true, false_and, and_false, not_true_eq_false, not_false_eq_true, true_or, or_true, false_or, or_false]; try simp only [c_2, (Nat.not_lt.mp c_2), c_3, (Nat.not_le.mpr c_3), if_true, if_false, Bool.and_true, Bool.true_and, Bool.and_false, Bool.false_and, Bool.and_self, Bool.false_eq_true, ↓reduceIte, decide_true, decide_false, Int.toNat_natCast, Bool.toNat_true, Bool.toNat_false, true_and, and_true, false_and, and_false, not_true_eq_false, not_false_eq_true, true_or, or_true, false_or, or_false]; rfl))
abbrev rm_X2_addPair : Room := { frames := 2, cells := 0, slots := 0, locals := 42 }
set_option maxHeartbeats 4000000 in
set_option maxRecDepth 100000 in
theorem k_X2_addPair (l : Launch) (D : va_G) (cI cB : ClassId) (q : Nat → Nat) (T : St) (i d j e0 : Nat) (hx : i < 1000 ∧ d < 1000 ∧ j < 1000 ∧ e0 < 1000) (hT : Tok T) : CtU l yX2_addPair cX2_addPair 5 (some .boolean) rm_X2_addPair D cI cB [.ref (q 0), .int (iI ((i : Nat) : Int)), .int (iI ((d : Nat) : Int)), .int (iI ((j : Nat) : Int)), .int (iI ((e0 : Nat) : Int))] (wT q cI T) (wT q cI (stR (stR T 8 (prH (T 7 0) (T 0 0) i d j e0 (T 8))) 7 (fun _ => prN (T 7 0) (T 0 0) i d j e0))) ((iI ((Bool.toNat (vPR (T 7 0) (T 0 0) i d j e0) : Nat) : Int))) := by
  obtain ⟨hTs, hT1, hT2, hT4, hT5, hT8⟩ := id hT
  refine CtU.of RX2 (by decide) rfl (Nat.le_of_ble_eq_true rfl) ?_
  intro p e s m args below meth c H0 ls A hH hA F hr hlk B hl
  have hl : lv_has ls 5 [(0, .ref (q 0)), (1, .int (iI ((i : Nat) : Int))), (2, .int (iI ((d : Nat) : Int))), (3, .int (iI ((j : Nat) : Int))), (4, .int (iI ((e0 : Nat) : Int)))] := hl
  refine r_aln F hl 0 rfl dX2_addPair_0 rfl ?_
  refine gf_X2_40 F B.1 0 rfl (.int (iI ((T 7 0 : Nat) : Int))) rfl dX2_addPair_1 ?_
  refine r_bp F 8 dX2_addPair_4 rfl ?_
  refine r_cge 33 F dX2_addPair_6 (by decide) (by omega) (fun c_1 => ?_) (fun c_1 => ?_)
  · have hv_ : vPR (T 7 0) (T 0 0) i d j e0 = false := decide_eq_false (by omega)
    refine r_icb F false dX2_addPair_33 rfl ?_
    exact r_retUb F hr hlk hH B dX2_addPair_34 (by rw [hv_]) (by first | rfl | (simp only [prH, prN, hv_, if_true, if_false, Bool.and_true, Bool.true_and, Bool.and_false, Bool.false_and, Bool.and_self, Bool.false_eq_true, ↓reduceIte, decide_true, decide_false, Int.toNat_natCast, Bool.toNat_true, Bool.toNat_false, true_and, and_true, false_and, and_false, not_true_eq_false, not_false_eq_true, true_or, or_true, false_or, or_false]; first | done | rfl | (simp only [c_1, (Nat.not_lt.mp c_1), if_true, if_false, Bool.and_true, Bool.true_and, Bool.and_false, Bool.false_and, Bool.and_self, Bool.false_eq_true, ↓reduceIte, decide_true, decide_false, Int.toNat_natCast, Bool.toNat_true, Bool.toNat_false, true_and, and_true, false_and, and_false, not_true_eq_false, not_false_eq_true, true_or, or_true, false_or, or_false]; first | done | rfl) | (simp only [if_neg c_1, if_pos (Nat.not_lt.mp c_1)]; first | done | rfl) | (simp [c_1, (Nat.not_lt.mp c_1)]; done) | (simp [c_1, (Nat.not_lt.mp c_1)]; first | rfl | omega)) | (simp [prH, prN, c_1, (Nat.not_lt.mp c_1), hv_]; done) | (simp [prH, prN, c_1, (Nat.not_lt.mp c_1), hv_]; omega) | (simp only [prH, prN, hv_, if_true, if_false, Bool.and_true, Bool.true_and, Bool.and_false, Bool.false_and, Bool.and_self, Bool.false_eq_true, ↓reduceIte, decide_true, decide_false, Int.toNat_natCast, Bool.toNat_true, Bool.toNat_false, true_and, and_true, false_and, and_false, not_true_eq_false, not_false_eq_true, true_or, or_true, false_or, or_false]; try simp only [c_1, (Nat.not_lt.mp c_1), if_true, if_false, Bool.and_true, Bool.true_and, Bool.and_false, Bool.false_and, Bool.and_self, Bool.false_eq_true, ↓reduceIte, decide_true, decide_false, Int.toNat_natCast, Bool.toNat_true, Bool.toNat_false, true_and, and_true, false_and, and_false, not_true_eq_false, not_false_eq_true, true_or, or_true, false_or, or_false]; rfl))
  · refine r_aln F hl 0 rfl dX2_addPair_9 rfl ?_
    refine r_iln F hl 1 rfl dX2_addPair_10 rfl ?_
    refine r_iln F hl 2 rfl dX2_addPair_11 rfl ?_
    refine r_cq (r := (iI ((Bool.toNat (hHere (T 0 0) (i) (d)) : Nat) : Int))) F B.1 (k_X2_isHalfHere l D cI cB (q) (T) (i) (d) (by omega) hT) gw_X2_58 [0, 1, 2, 3, 4, 5] rfl rfl rfl ⟨⟨rfl, rfl⟩, Nat.le_of_ble_eq_true rfl, Nat.le_of_ble_eq_true rfl⟩ ⟨Nat.le_of_ble_eq_true rfl, Nat.le_of_ble_eq_true rfl⟩ hl.1 rfl [] rfl (Nat.le_of_ble_eq_true rfl) dX2_addPair_12 ?_
    refine r_zeqb 33 F dX2_addPair_15 (by decide) (fun c_2 => ?_) (fun c_2 => ?_)
    · have c_2d := c_2
      simp only [isIn, isP, hHere, decide_eq_true_eq, decide_eq_false_iff_not] at c_2d
      have hv_ : vPR (T 7 0) (T 0 0) i d j e0 = false := decide_eq_false (by omega)
      refine r_icb F false dX2_addPair_33 rfl ?_
      exact r_retUb F hr hlk hH B dX2_addPair_34 (by rw [hv_]) (by first | rfl | (simp only [prH, prN, c_2, hv_, if_true, if_false, Bool.and_true, Bool.true_and, Bool.and_false, Bool.false_and, Bool.and_self, Bool.false_eq_true, ↓reduceIte, decide_true, decide_false, Int.toNat_natCast, Bool.toNat_true, Bool.toNat_false, true_and, and_true, false_and, and_false, not_true_eq_false, not_false_eq_true, true_or, or_true, false_or, or_false]; first | done | rfl | (simp only [c_1, (Nat.not_le.mpr c_1), if_true, if_false, Bool.and_true, Bool.true_and, Bool.and_false, Bool.false_and, Bool.and_self, Bool.false_eq_true, ↓reduceIte, decide_true, decide_false, Int.toNat_natCast, Bool.toNat_true, Bool.toNat_false, true_and, and_true, false_and, and_false, not_true_eq_false, not_false_eq_true, true_or, or_true, false_or, or_false]; first | done | rfl) | (simp only [if_pos c_1, if_neg (Nat.not_le.mpr c_1)]; first | done | rfl) | (simp [c_1, (Nat.not_le.mpr c_1)]; done) | (simp [c_1, (Nat.not_le.mpr c_1)]; first | rfl | omega)) | (simp [prH, prN, c_2, c_1, (Nat.not_le.mpr c_1), hv_]; done) | (simp [prH, prN, c_2, c_1, (Nat.not_le.mpr c_1), hv_]; omega) | (simp only [prH, prN, c_2, hv_, if_true, if_false, Bool.and_true, Bool.true_and, Bool.and_false, Bool.false_and, Bool.and_self, Bool.false_eq_true, ↓reduceIte, decide_true, decide_false, Int.toNat_natCast, Bool.toNat_true, Bool.toNat_false, true_and, and_true, false_and, and_false, not_true_eq_false, not_false_eq_true, true_or, or_true, false_or, or_false]; try simp only [c_1, (Nat.not_le.mpr c_1), if_true, if_false, Bool.and_true, Bool.true_and, Bool.and_false, Bool.false_and, Bool.and_self, Bool.false_eq_true, ↓reduceIte, decide_true, decide_false, Int.toNat_natCast, Bool.toNat_true, Bool.toNat_false, true_and, and_true, false_and, and_false, not_true_eq_false, not_false_eq_true, true_or, or_true, false_or, or_false]; rfl))
    · have c_2d := c_2
      simp only [isIn, isP, hHere, decide_eq_true_eq, decide_eq_false_iff_not] at c_2d
      refine r_aln F hl 0 rfl dX2_addPair_18 rfl ?_
      refine r_iln F hl 3 rfl dX2_addPair_19 rfl ?_
      refine r_il F hl 4 rfl dX2_addPair_20 ?_
      refine r_cq (r := (iI ((Bool.toNat (hHere (T 0 0) (j) (e0)) : Nat) : Int))) F B.1 (k_X2_isHalfHere l D cI cB (q) (T) (j) (e0) (by omega) hT) gw_X2_58 [0, 1, 2, 3, 4, 5] rfl rfl rfl ⟨⟨rfl, rfl⟩, Nat.le_of_ble_eq_true rfl, Nat.le_of_ble_eq_true rfl⟩ ⟨Nat.le_of_ble_eq_true rfl, Nat.le_of_ble_eq_true rfl⟩ hl.1 rfl [] rfl (Nat.le_of_ble_eq_true rfl) dX2_addPair_22 ?_
      refine r_zeqb 33 F dX2_addPair_25 (by decide) (fun c_3 => ?_) (fun c_3 => ?_)
      · have c_3d := c_3
        simp only [isIn, isP, hHere, decide_eq_true_eq, decide_eq_false_iff_not] at c_3d
        have hv_ : vPR (T 7 0) (T 0 0) i d j e0 = false := decide_eq_false (by omega)
        refine r_icb F false dX2_addPair_33 rfl ?_
        exact r_retUb F hr hlk hH B dX2_addPair_34 (by rw [hv_]) (by first | rfl | (simp only [prH, prN, c_2, c_3, hv_, if_true, if_false, Bool.and_true, Bool.true_and, Bool.and_false, Bool.false_and, Bool.and_self, Bool.false_eq_true, ↓reduceIte, decide_true, decide_false, Int.toNat_natCast, Bool.toNat_true, Bool.toNat_false, true_and, and_true, false_and, and_false, not_true_eq_false, not_false_eq_true, true_or, or_true, false_or, or_false]; first | done | rfl | (simp only [c_1, (Nat.not_le.mpr c_1), if_true, if_false, Bool.and_true, Bool.true_and, Bool.and_false, Bool.false_and, Bool.and_self, Bool.false_eq_true, ↓reduceIte, decide_true, decide_false, Int.toNat_natCast, Bool.toNat_true, Bool.toNat_false, true_and, and_true, false_and, and_false, not_true_eq_false, not_false_eq_true, true_or, or_true, false_or, or_false]; first | done | rfl) | (simp only [if_pos c_1, if_neg (Nat.not_le.mpr c_1)]; first | done | rfl) | (simp [c_1, (Nat.not_le.mpr c_1)]; done) | (simp [c_1, (Nat.not_le.mpr c_1)]; first | rfl | omega)) | (simp [prH, prN, c_2, c_3, c_1, (Nat.not_le.mpr c_1), hv_]; done) | (simp [prH, prN, c_2, c_3, c_1, (Nat.not_le.mpr c_1), hv_]; omega) | (simp only [prH, prN, c_2, c_3, hv_, if_true, if_false, Bool.and_true, Bool.true_and, Bool.and_false, Bool.false_and, Bool.and_self, Bool.false_eq_true, ↓reduceIte, decide_true, decide_false, Int.toNat_natCast, Bool.toNat_true, Bool.toNat_false, true_and, and_true, false_and, and_false, not_true_eq_false, not_false_eq_true, true_or, or_true, false_or, or_false]; try simp only [c_1, (Nat.not_le.mpr c_1), if_true, if_false, Bool.and_true, Bool.true_and, Bool.and_false, Bool.false_and, Bool.and_self, Bool.false_eq_true, ↓reduceIte, decide_true, decide_false, Int.toNat_natCast, Bool.toNat_true, Bool.toNat_false, true_and, and_true, false_and, and_false, not_true_eq_false, not_false_eq_true, true_or, or_true, false_or, or_false]; rfl))
      · have c_3d := c_3
        simp only [isIn, isP, hHere, decide_eq_true_eq, decide_eq_false_iff_not] at c_3d
        refine r_iln F hl 1 rfl dX2_addPair_28 rfl ?_
        refine r_iln F hl 3 rfl dX2_addPair_29 rfl ?_
        refine r_cne 35 F dX2_addPair_30 (by decide) (by omega) (fun c_4 => ?_) (fun c_4 => ?_)
        · have hv_ : vPR (T 7 0) (T 0 0) i d j e0 = true := decide_eq_true (by omega)
          refine r_aln F hl 0 rfl dX2_addPair_35 rfl ?_
          refine gf_X2_24 F B.1 0 rfl (.ref (q 9)) rfl dX2_addPair_36 ?_
          refine r_ic F 2 dX2_addPair_39 rfl ?_
          refine r_aln F hl 0 rfl dX2_addPair_40 rfl ?_
          refine gf_X2_40 F B.1 0 rfl (.int (iI ((T 7 0 : Nat) : Int))) rfl dX2_addPair_41 ?_
          refine r_mul F dX2_addPair_44 ?_
          refine r_ic F 2 dX2_addPair_45 rfl ?_
          refine r_iln F hl 1 rfl dX2_addPair_46 rfl ?_
          refine r_mul F dX2_addPair_47 ?_
          refine r_iln F hl 2 rfl dX2_addPair_48 rfl ?_
          refine r_add F dX2_addPair_49 ?_
          have hb_5 : ∀ j_, upN (T 8) ((2 * T 7 0)) (((2 * i) + d)) j_ < 16 := upN_lt hT8 (by omega)
          refine r_ast (f := T 8) F B 5 (wT q cI (stR T 8 (upN (T 8) ((2 * T 7 0)) (((2 * i) + d))))) rfl dX2_addPair_50 (by decide) (by omega) rfl (fun H locs B => ?_)
          refine r_aln F hl 0 rfl dX2_addPair_51 rfl ?_
          refine gf_X2_24 F B.1 0 rfl (.ref (q 9)) rfl dX2_addPair_52 ?_
          refine r_ic F 2 dX2_addPair_55 rfl ?_
          refine r_aln F hl 0 rfl dX2_addPair_56 rfl ?_
          refine gf_X2_40 F B.1 0 rfl (.int (iI ((T 7 0 : Nat) : Int))) rfl dX2_addPair_57 ?_
          refine r_mul F dX2_addPair_60 ?_
          refine r_ic F 1 dX2_addPair_61 rfl ?_
          refine r_add F dX2_addPair_62 ?_
          refine r_ic F 2 dX2_addPair_63 rfl ?_
          refine r_iln F hl 3 rfl dX2_addPair_64 rfl ?_
          refine r_mul F dX2_addPair_65 ?_
          refine r_il F hl 4 rfl dX2_addPair_66 ?_
          refine r_add F dX2_addPair_68 ?_
          have hb_6 : ∀ j_, upN (upN (T 8) ((2 * T 7 0)) (((2 * i) + d))) (((2 * T 7 0) + 1)) (((2 * j) + e0)) j_ < 16 := upN_lt hb_5 (by omega)
          refine r_ast (f := upN (T 8) ((2 * T 7 0)) (((2 * i) + d))) F B 5 (wT q cI (stR T 8 (upN (upN (T 8) ((2 * T 7 0)) (((2 * i) + d))) (((2 * T 7 0) + 1)) (((2 * j) + e0))))) rfl dX2_addPair_69 (by decide) (by omega) rfl (fun H locs B => ?_)
          refine r_aln F hl 0 rfl dX2_addPair_70 rfl ?_
          refine r_dup F dX2_addPair_71 rfl ?_
          refine gf_X2_40 F B.1 0 rfl (.int (iI ((T 7 0 : Nat) : Int))) rfl dX2_addPair_72 ?_
          refine r_ic F 1 dX2_addPair_75 rfl ?_
          refine r_add F dX2_addPair_76 ?_
          refine pf_X2_40 F B 0 (wT q cI (stR (stR T 8 (upN (upN (T 8) ((2 * T 7 0)) (((2 * i) + d))) (((2 * T 7 0) + 1)) (((2 * j) + e0)))) 7 (fun _ => (T 7 0 + 1)))) rfl rfl rfl (Nat.le_of_ble_eq_true rfl) rfl dX2_addPair_77 (fun H locs B => ?_)
          refine r_icb F true dX2_addPair_80 rfl ?_
          exact r_retUb F hr hlk hH B dX2_addPair_81 (by rw [hv_]) (by first | rfl | (simp only [prH, prN, c_2, c_3, hv_, if_true, if_false, Bool.and_true, Bool.true_and, Bool.and_false, Bool.false_and, Bool.and_self, Bool.false_eq_true, ↓reduceIte, decide_true, decide_false, Int.toNat_natCast, Bool.toNat_true, Bool.toNat_false, true_and, and_true, false_and, and_false, not_true_eq_false, not_false_eq_true, true_or, or_true, false_or, or_false]; first | done | rfl | (simp only [c_1, (Nat.not_le.mpr c_1), c_4, if_true, if_false, Bool.and_true, Bool.true_and, Bool.and_false, Bool.false_and, Bool.and_self, Bool.false_eq_true, ↓reduceIte, decide_true, decide_false, Int.toNat_natCast, Bool.toNat_true, Bool.toNat_false, true_and, and_true, false_and, and_false, not_true_eq_false, not_false_eq_true, true_or, or_true, false_or, or_false]; first | done | rfl) | (simp only [if_pos c_1, if_neg (Nat.not_le.mpr c_1), if_neg c_4]; first | done | rfl) | (simp [c_1, (Nat.not_le.mpr c_1), c_4]; done) | (simp [c_1, (Nat.not_le.mpr c_1), c_4]; first | rfl | omega)) | (simp [prH, prN, c_2, c_3, c_1, (Nat.not_le.mpr c_1), c_4, hv_]; done) | (simp [prH, prN, c_2, c_3, c_1, (Nat.not_le.mpr c_1), c_4, hv_]; omega) | (simp only [prH, prN, c_2, c_3, hv_, if_true, if_false, Bool.and_true, Bool.true_and, Bool.and_false, Bool.false_and, Bool.and_self, Bool.false_eq_true, ↓reduceIte, decide_true, decide_false, Int.toNat_natCast, Bool.toNat_true, Bool.toNat_false, true_and, and_true, false_and, and_false, not_true_eq_false, not_false_eq_true, true_or, or_true, false_or, or_false]; try simp only [c_1, (Nat.not_le.mpr c_1), c_4, if_true, if_false, Bool.and_true, Bool.true_and, Bool.and_false, Bool.false_and, Bool.and_self, Bool.false_eq_true, ↓reduceIte, decide_true, decide_false, Int.toNat_natCast, Bool.toNat_true, Bool.toNat_false, true_and, and_true, false_and, and_false, not_true_eq_false, not_false_eq_true, true_or, or_true, false_or, or_false]; rfl))
        · have hv_ : vPR (T 7 0) (T 0 0) i d j e0 = false := decide_eq_false (by omega)
          refine r_icb F false dX2_addPair_33 rfl ?_
          exact r_retUb F hr hlk hH B dX2_addPair_34 (by rw [hv_]) (by first | rfl | (simp only [prH, prN, c_2, c_3, hv_, if_true, if_false, Bool.and_true, Bool.true_and, Bool.and_false, Bool.false_and, Bool.and_self, Bool.false_eq_true, ↓reduceIte, decide_true, decide_false, Int.toNat_natCast, Bool.toNat_true, Bool.toNat_false, true_and, and_true, false_and, and_false, not_true_eq_false, not_false_eq_true, true_or, or_true, false_or, or_false]; first | done | rfl | (simp only [c_1, (Nat.not_le.mpr c_1), c_4, if_true, if_false, Bool.and_true, Bool.true_and, Bool.and_false, Bool.false_and, Bool.and_self, Bool.false_eq_true, ↓reduceIte, decide_true, decide_false, Int.toNat_natCast, Bool.toNat_true, Bool.toNat_false, true_and, and_true, false_and, and_false, not_true_eq_false, not_false_eq_true, true_or, or_true, false_or, or_false]; first | done | rfl) | (simp only [if_pos c_1, if_neg (Nat.not_le.mpr c_1), if_pos c_4]; first | done | rfl) | (simp [c_1, (Nat.not_le.mpr c_1), c_4]; done) | (simp [c_1, (Nat.not_le.mpr c_1), c_4]; first | rfl | omega)) | (simp [prH, prN, c_2, c_3, c_1, (Nat.not_le.mpr c_1), c_4, hv_]; done) | (simp [prH, prN, c_2, c_3, c_1, (Nat.not_le.mpr c_1), c_4, hv_]; omega) | (simp only [prH, prN, c_2, c_3, hv_, if_true, if_false, Bool.and_true, Bool.true_and, Bool.and_false, Bool.false_and, Bool.and_self, Bool.false_eq_true, ↓reduceIte, decide_true, decide_false, Int.toNat_natCast, Bool.toNat_true, Bool.toNat_false, true_and, and_true, false_and, and_false, not_true_eq_false, not_false_eq_true, true_or, or_true, false_or, or_false]; try simp only [c_1, (Nat.not_le.mpr c_1), c_4, if_true, if_false, Bool.and_true, Bool.true_and, Bool.and_false, Bool.false_and, Bool.and_self, Bool.false_eq_true, ↓reduceIte, decide_true, decide_false, Int.toNat_natCast, Bool.toNat_true, Bool.toNat_false, true_and, and_true, false_and, and_false, not_true_eq_false, not_false_eq_true, true_or, or_true, false_or, or_false]; rfl))
abbrev rm_X2_setPurse : Room := { frames := 0, cells := 0, slots := 0, locals := 0 }
set_option maxHeartbeats 4000000 in
set_option maxRecDepth 100000 in
theorem k_X2_setPurse (l : Launch) (D : va_G) (cI cB : ClassId) (q : Nat → Nat) (T : St) (x y z : Nat) (hx : x < 1000 ∧ y < 1000 ∧ z < 1000) (hT : Tok T) : CtU l yX2_setPurse cX2_setPurse 4 (some .boolean) rm_X2_setPurse D cI cB [.ref (q 0), .int (iI ((x : Nat) : Int)), .int (iI ((y : Nat) : Int)), .int (iI ((z : Nat) : Int))] (wT q cI T) (wT q cI (stR (stR (stR T 11 (fun _ => ifV (vPU x y z) x (T 11 0))) 12 (fun _ => ifV (vPU x y z) y (T 12 0))) 13 (fun _ => ifV (vPU x y z) z (T 13 0)))) ((iI ((Bool.toNat (vPU x y z) : Nat) : Int))) := by
  obtain ⟨hTs, hT1, hT2, hT4, hT5, hT8⟩ := id hT
  refine CtU.of RX2 (by decide) rfl (Nat.le_of_ble_eq_true rfl) ?_
  intro p e s m args below meth c H0 ls A hH hA F hr hlk B hl
  have hl : lv_has ls 4 [(0, .ref (q 0)), (1, .int (iI ((x : Nat) : Int))), (2, .int (iI ((y : Nat) : Int))), (3, .int (iI ((z : Nat) : Int)))] := hl
  refine r_iln F hl 1 rfl dX2_setPurse_0 rfl ?_
  refine r_zlt 32 F dX2_setPurse_1 (by decide) (by omega) (fun c_1 => ?_) (fun c_1 => ?_)
  · exfalso; omega
  · refine r_iln F hl 1 rfl dX2_setPurse_4 rfl ?_
    refine r_bp F 20 dX2_setPurse_5 rfl ?_
    refine r_cgt 32 F dX2_setPurse_7 (by decide) (by omega) (fun c_2 => ?_) (fun c_2 => ?_)
    · have hv_ : vPU x y z = false := decide_eq_false (by omega)
      refine r_icb F false dX2_setPurse_32 rfl ?_
      exact r_retUb F hr hlk hH B dX2_setPurse_33 (by rw [hv_]) (by first | rfl | (simp only [ifV, hv_, if_true, if_false, Bool.and_true, Bool.true_and, Bool.and_false, Bool.false_and, Bool.and_self, Bool.false_eq_true, ↓reduceIte, decide_true, decide_false, Int.toNat_natCast, Bool.toNat_true, Bool.toNat_false, true_and, and_true, false_and, and_false, not_true_eq_false, not_false_eq_true, true_or, or_true, false_or, or_false]; first | done | rfl | (simp only [c_1, (Nat.not_lt.mp c_1), c_2, (Nat.not_le.mpr c_2), if_true, if_false, Bool.and_true, Bool.true_and, Bool.and_false, Bool.false_and, Bool.and_self, Bool.false_eq_true, ↓reduceIte, decide_true, decide_false, Int.toNat_natCast, Bool.toNat_true, Bool.toNat_false, true_and, and_true, false_and, and_false, not_true_eq_false, not_false_eq_true, true_or, or_true, false_or, or_false]; first | done | rfl) | (simp only [if_neg c_1, if_pos (Nat.not_lt.mp c_1), if_pos c_2, if_neg (Nat.not_le.mpr c_2)]; first | done | rfl) | (simp [c_1, (Nat.not_lt.mp c_1), c_2, (Nat.not_le.mpr c_2)]; done) | (simp [c_1, (Nat.not_lt.mp c_1), c_2, (Nat.not_le.mpr c_2)]; first | rfl | omega)) | (simp [ifV, c_1, (Nat.not_lt.mp c_1), c_2, (Nat.not_le.mpr c_2), hv_]; done) | (simp [ifV, c_1, (Nat.not_lt.mp c_1), c_2, (Nat.not_le.mpr c_2), hv_]; omega) | (simp only [ifV, hv_, if_true, if_false, Bool.and_true, Bool.true_and, Bool.and_false, Bool.false_and, Bool.and_self, Bool.false_eq_true, ↓reduceIte, decide_true, decide_false, Int.toNat_natCast, Bool.toNat_true, Bool.toNat_false, true_and, and_true, false_and, and_false, not_true_eq_false, not_false_eq_true, true_or, or_true, false_or, or_false]; try simp only [c_1, (Nat.not_lt.mp c_1), c_2, (Nat.not_le.mpr c_2), if_true, if_false, Bool.and_true, Bool.true_and, Bool.and_false, Bool.false_and, Bool.and_self, Bool.false_eq_true, ↓reduceIte, decide_true, decide_false, Int.toNat_natCast, Bool.toNat_true, Bool.toNat_false, true_and, and_true, false_and, and_false, not_true_eq_false, not_false_eq_true, true_or, or_true, false_or, or_false]; rfl))
    · refine r_iln F hl 2 rfl dX2_setPurse_10 rfl ?_
      refine r_ic F 1 dX2_setPurse_11 rfl ?_
      refine r_clt 32 F dX2_setPurse_12 (by decide) (by omega) (fun c_3 => ?_) (fun c_3 => ?_)
      · have hv_ : vPU x y z = false := decide_eq_false (by omega)
        refine r_icb F false dX2_setPurse_32 rfl ?_
        exact r_retUb F hr hlk hH B dX2_setPurse_33 (by rw [hv_]) (by first | rfl | (simp only [ifV, hv_, if_true, if_false, Bool.and_true, Bool.true_and, Bool.and_false, Bool.false_and, Bool.and_self, Bool.false_eq_true, ↓reduceIte, decide_true, decide_false, Int.toNat_natCast, Bool.toNat_true, Bool.toNat_false, true_and, and_true, false_and, and_false, not_true_eq_false, not_false_eq_true, true_or, or_true, false_or, or_false]; first | done | rfl | (simp only [c_1, (Nat.not_lt.mp c_1), c_2, (Nat.not_lt.mp c_2), c_3, (Nat.not_le.mpr c_3), if_true, if_false, Bool.and_true, Bool.true_and, Bool.and_false, Bool.false_and, Bool.and_self, Bool.false_eq_true, ↓reduceIte, decide_true, decide_false, Int.toNat_natCast, Bool.toNat_true, Bool.toNat_false, true_and, and_true, false_and, and_false, not_true_eq_false, not_false_eq_true, true_or, or_true, false_or, or_false]; first | done | rfl) | (simp only [if_neg c_1, if_pos (Nat.not_lt.mp c_1), if_neg c_2, if_pos (Nat.not_lt.mp c_2), if_pos c_3, if_neg (Nat.not_le.mpr c_3)]; first | done | rfl) | (simp [c_1, (Nat.not_lt.mp c_1), c_2, (Nat.not_lt.mp c_2), c_3, (Nat.not_le.mpr c_3)]; done) | (simp [c_1, (Nat.not_lt.mp c_1), c_2, (Nat.not_lt.mp c_2), c_3, (Nat.not_le.mpr c_3)]; first | rfl | omega)) | (simp [ifV, c_1, (Nat.not_lt.mp c_1), c_2, (Nat.not_lt.mp c_2), c_3, (Nat.not_le.mpr c_3), hv_]; done) | (simp [ifV, c_1, (Nat.not_lt.mp c_1), c_2, (Nat.not_lt.mp c_2), c_3, (Nat.not_le.mpr c_3), hv_]; omega) | (simp only [ifV, hv_, if_true, if_false, Bool.and_true, Bool.true_and, Bool.and_false, Bool.false_and, Bool.and_self, Bool.false_eq_true, ↓reduceIte, decide_true, decide_false, Int.toNat_natCast, Bool.toNat_true, Bool.toNat_false, true_and, and_true, false_and, and_false, not_true_eq_false, not_false_eq_true, true_or, or_true, false_or, or_false]; try simp only [c_1, (Nat.not_lt.mp c_1), c_2, (Nat.not_lt.mp c_2), c_3, (Nat.not_le.mpr c_3), if_true, if_false, Bool.and_true, Bool.true_and, Bool.and_false, Bool.false_and, Bool.and_self, Bool.false_eq_true, ↓reduceIte, decide_true, decide_false, Int.toNat_natCast, Bool.toNat_true, Bool.toNat_false, true_and, and_true, false_and, and_false, not_true_eq_false, not_false_eq_true, true_or, or_true, false_or, or_false]; rfl))
      · refine r_iln F hl 2 rfl dX2_setPurse_15 rfl ?_
        refine r_bp F 9 dX2_setPurse_16 rfl ?_
        refine r_cgt 32 F dX2_setPurse_18 (by decide) (by omega) (fun c_4 => ?_) (fun c_4 => ?_)
        · have hv_ : vPU x y z = false := decide_eq_false (by omega)
          refine r_icb F false dX2_setPurse_32 rfl ?_
          exact r_retUb F hr hlk hH B dX2_setPurse_33 (by rw [hv_]) (by first | rfl | (simp only [ifV, hv_, if_true, if_false, Bool.and_true, Bool.true_and, Bool.and_false, Bool.false_and, Bool.and_self, Bool.false_eq_true, ↓reduceIte, decide_true, decide_false, Int.toNat_natCast, Bool.toNat_true, Bool.toNat_false, true_and, and_true, false_and, and_false, not_true_eq_false, not_false_eq_true, true_or, or_true, false_or, or_false]; first | done | rfl | (simp only [c_1, (Nat.not_lt.mp c_1), c_2, (Nat.not_lt.mp c_2), c_3, (Nat.not_lt.mp c_3), c_4, (Nat.not_le.mpr c_4), if_true, if_false, Bool.and_true, Bool.true_and, Bool.and_false, Bool.false_and, Bool.and_self, Bool.false_eq_true, ↓reduceIte, decide_true, decide_false, Int.toNat_natCast, Bool.toNat_true, Bool.toNat_false, true_and, and_true, false_and, and_false, not_true_eq_false, not_false_eq_true, true_or, or_true, false_or, or_false]; first | done | rfl) | (simp only [if_neg c_1, if_pos (Nat.not_lt.mp c_1), if_neg c_2, if_pos (Nat.not_lt.mp c_2), if_neg c_3, if_pos (Nat.not_lt.mp c_3), if_pos c_4, if_neg (Nat.not_le.mpr c_4)]; first | done | rfl) | (simp [c_1, (Nat.not_lt.mp c_1), c_2, (Nat.not_lt.mp c_2), c_3, (Nat.not_lt.mp c_3), c_4, (Nat.not_le.mpr c_4)]; done) | (simp [c_1, (Nat.not_lt.mp c_1), c_2, (Nat.not_lt.mp c_2), c_3, (Nat.not_lt.mp c_3), c_4, (Nat.not_le.mpr c_4)]; first | rfl | omega)) | (simp [ifV, c_1, (Nat.not_lt.mp c_1), c_2, (Nat.not_lt.mp c_2), c_3, (Nat.not_lt.mp c_3), c_4, (Nat.not_le.mpr c_4), hv_]; done) | (simp [ifV, c_1, (Nat.not_lt.mp c_1), c_2, (Nat.not_lt.mp c_2), c_3, (Nat.not_lt.mp c_3), c_4, (Nat.not_le.mpr c_4), hv_]; omega) | (simp only [ifV, hv_, if_true, if_false, Bool.and_true, Bool.true_and, Bool.and_false, Bool.false_and, Bool.and_self, Bool.false_eq_true, ↓reduceIte, decide_true, decide_false, Int.toNat_natCast, Bool.toNat_true, Bool.toNat_false, true_and, and_true, false_and, and_false, not_true_eq_false, not_false_eq_true, true_or, or_true, false_or, or_false]; try simp only [c_1, (Nat.not_lt.mp c_1), c_2, (Nat.not_lt.mp c_2), c_3, (Nat.not_lt.mp c_3), c_4, (Nat.not_le.mpr c_4), if_true, if_false, Bool.and_true, Bool.true_and, Bool.and_false, Bool.false_and, Bool.and_self, Bool.false_eq_true, ↓reduceIte, decide_true, decide_false, Int.toNat_natCast, Bool.toNat_true, Bool.toNat_false, true_and, and_true, false_and, and_false, not_true_eq_false, not_false_eq_true, true_or, or_true, false_or, or_false]; rfl))
        · refine r_iln F hl 3 rfl dX2_setPurse_21 rfl ?_
          refine r_ic F 1 dX2_setPurse_22 rfl ?_
          refine r_clt 32 F dX2_setPurse_23 (by decide) (by omega) (fun c_5 => ?_) (fun c_5 => ?_)
          · have hv_ : vPU x y z = false := decide_eq_false (by omega)
            refine r_icb F false dX2_setPurse_32 rfl ?_
            exact r_retUb F hr hlk hH B dX2_setPurse_33 (by rw [hv_]) (by first | rfl | (simp only [ifV, hv_, if_true, if_false, Bool.and_true, Bool.true_and, Bool.and_false, Bool.false_and, Bool.and_self, Bool.false_eq_true, ↓reduceIte, decide_true, decide_false, Int.toNat_natCast, Bool.toNat_true, Bool.toNat_false, true_and, and_true, false_and, and_false, not_true_eq_false, not_false_eq_true, true_or, or_true, false_or, or_false]; first | done | rfl | (simp only [c_1, (Nat.not_lt.mp c_1), c_2, (Nat.not_lt.mp c_2), c_3, (Nat.not_lt.mp c_3), c_4, (Nat.not_lt.mp c_4), c_5, (Nat.not_le.mpr c_5), if_true, if_false, Bool.and_true, Bool.true_and, Bool.and_false, Bool.false_and, Bool.and_self, Bool.false_eq_true, ↓reduceIte, decide_true, decide_false, Int.toNat_natCast, Bool.toNat_true, Bool.toNat_false, true_and, and_true, false_and, and_false, not_true_eq_false, not_false_eq_true, true_or, or_true, false_or, or_false]; first | done | rfl) | (simp only [if_neg c_1, if_pos (Nat.not_lt.mp c_1), if_neg c_2, if_pos (Nat.not_lt.mp c_2), if_neg c_3, if_pos (Nat.not_lt.mp c_3), if_neg c_4, if_pos (Nat.not_lt.mp c_4), if_pos c_5, if_neg (Nat.not_le.mpr c_5)]; first | done | rfl) | (simp [c_1, (Nat.not_lt.mp c_1), c_2, (Nat.not_lt.mp c_2), c_3, (Nat.not_lt.mp c_3), c_4, (Nat.not_lt.mp c_4), c_5, (Nat.not_le.mpr c_5)]; done) | (simp [c_1, (Nat.not_lt.mp c_1), c_2, (Nat.not_lt.mp c_2), c_3, (Nat.not_lt.mp c_3), c_4, (Nat.not_lt.mp c_4), c_5, (Nat.not_le.mpr c_5)]; first | rfl | omega)) | (simp [ifV, c_1, (Nat.not_lt.mp c_1), c_2, (Nat.not_lt.mp c_2), c_3, (Nat.not_lt.mp c_3), c_4, (Nat.not_lt.mp c_4), c_5, (Nat.not_le.mpr c_5), hv_]; done) | (simp [ifV, c_1, (Nat.not_lt.mp c_1), c_2, (Nat.not_lt.mp c_2), c_3, (Nat.not_lt.mp c_3), c_4, (Nat.not_lt.mp c_4), c_5, (Nat.not_le.mpr c_5), hv_]; omega) | (simp only [ifV, hv_, if_true, if_false, Bool.and_true, Bool.true_and, Bool.and_false, Bool.false_and, Bool.and_self, Bool.false_eq_true, ↓reduceIte, decide_true, decide_false, Int.toNat_natCast, Bool.toNat_true, Bool.toNat_false, true_and, and_true, false_and, and_false, not_true_eq_false, not_false_eq_true, true_or, or_true, false_or, or_false]; try simp only [c_1, (Nat.not_lt.mp c_1), c_2, (Nat.not_lt.mp c_2), c_3, (Nat.not_lt.mp c_3), c_4, (Nat.not_lt.mp c_4), c_5, (Nat.not_le.mpr c_5), if_true, if_false, Bool.and_true, Bool.true_and, Bool.and_false, Bool.false_and, Bool.and_self, Bool.false_eq_true, ↓reduceIte, decide_true, decide_false, Int.toNat_natCast, Bool.toNat_true, Bool.toNat_false, true_and, and_true, false_and, and_false, not_true_eq_false, not_false_eq_true, true_or, or_true, false_or, or_false]; rfl))
          · refine r_iln F hl 3 rfl dX2_setPurse_26 rfl ?_
            refine r_bp F 9 dX2_setPurse_27 rfl ?_
            refine r_cle 34 F dX2_setPurse_29 (by decide) (by omega) (fun c_6 => ?_) (fun c_6 => ?_)
            · have hv_ : vPU x y z = true := decide_eq_true (by omega)
              refine r_aln F hl 0 rfl dX2_setPurse_34 rfl ?_
              refine r_iln F hl 1 rfl dX2_setPurse_35 rfl ?_
              refine pf_X2_49 F B 0 (wT q cI (stR T 11 (fun _ => x))) rfl rfl rfl (Nat.le_of_ble_eq_true rfl) rfl dX2_setPurse_36 (fun H locs B => ?_)
              refine r_aln F hl 0 rfl dX2_setPurse_39 rfl ?_
              refine r_iln F hl 2 rfl dX2_setPurse_40 rfl ?_
              refine pf_X2_52 F B 0 (wT q cI (stR (stR T 11 (fun _ => x)) 12 (fun _ => y))) rfl rfl rfl (Nat.le_of_ble_eq_true rfl) rfl dX2_setPurse_41 (fun H locs B => ?_)
              refine r_aln F hl 0 rfl dX2_setPurse_44 rfl ?_
              refine r_iln F hl 3 rfl dX2_setPurse_45 rfl ?_
              refine pf_X2_55 F B 0 (wT q cI (stR (stR (stR T 11 (fun _ => x)) 12 (fun _ => y)) 13 (fun _ => z))) rfl rfl rfl (Nat.le_of_ble_eq_true rfl) rfl dX2_setPurse_46 (fun H locs B => ?_)
              refine r_icb F true dX2_setPurse_49 rfl ?_
              exact r_retUb F hr hlk hH B dX2_setPurse_50 (by rw [hv_]) (by first | rfl | (simp only [ifV, hv_, if_true, if_false, Bool.and_true, Bool.true_and, Bool.and_false, Bool.false_and, Bool.and_self, Bool.false_eq_true, ↓reduceIte, decide_true, decide_false, Int.toNat_natCast, Bool.toNat_true, Bool.toNat_false, true_and, and_true, false_and, and_false, not_true_eq_false, not_false_eq_true, true_or, or_true, false_or, or_false]; first | done | rfl | (simp only [c_1, (Nat.not_lt.mp c_1), c_2, (Nat.not_lt.mp c_2), c_3, (Nat.not_lt.mp c_3), c_4, (Nat.not_lt.mp c_4), c_5, (Nat.not_lt.mp c_5), c_6, (Nat.not_lt.mp c_6), if_true, if_false, Bool.and_true, Bool.true_and, Bool.and_false, Bool.false_and, Bool.and_self, Bool.false_eq_true, ↓reduceIte, decide_true, decide_false, Int.toNat_natCast, Bool.toNat_true, Bool.toNat_false, true_and, and_true, false_and, and_false, not_true_eq_false, not_false_eq_true, true_or, or_true, false_or, or_false]; first | done | rfl) | (simp only [if_neg c_1, if_pos (Nat.not_lt.mp c_1), if_neg c_2, if_pos (Nat.not_lt.mp c_2), if_neg c_3, if_pos (Nat.not_lt.mp c_3), if_neg c_4, if_pos (Nat.not_lt.mp c_4), if_neg c_5, if_pos (Nat.not_lt.mp c_5), if_neg c_6, if_pos (Nat.not_lt.mp c_6)]; first | done | rfl) | (simp [c_1, (Nat.not_lt.mp c_1), c_2, (Nat.not_lt.mp c_2), c_3, (Nat.not_lt.mp c_3), c_4, (Nat.not_lt.mp c_4), c_5, (Nat.not_lt.mp c_5), c_6, (Nat.not_lt.mp c_6)]; done) | (simp [c_1, (Nat.not_lt.mp c_1), c_2, (Nat.not_lt.mp c_2), c_3, (Nat.not_lt.mp c_3), c_4, (Nat.not_lt.mp c_4), c_5, (Nat.not_lt.mp c_5), c_6, (Nat.not_lt.mp c_6)]; first | rfl | omega)) | (simp [ifV, c_1, (Nat.not_lt.mp c_1), c_2, (Nat.not_lt.mp c_2), c_3, (Nat.not_lt.mp c_3), c_4, (Nat.not_lt.mp c_4), c_5, (Nat.not_lt.mp c_5), c_6, (Nat.not_lt.mp c_6), hv_]; done) | (simp [ifV, c_1, (Nat.not_lt.mp c_1), c_2, (Nat.not_lt.mp c_2), c_3, (Nat.not_lt.mp c_3), c_4, (Nat.not_lt.mp c_4), c_5, (Nat.not_lt.mp c_5), c_6, (Nat.not_lt.mp c_6), hv_]; omega) | (simp only [ifV, hv_, if_true, if_false, Bool.and_true, Bool.true_and, Bool.and_false, Bool.false_and, Bool.and_self, Bool.false_eq_true, ↓reduceIte, decide_true, decide_false, Int.toNat_natCast, Bool.toNat_true, Bool.toNat_false, true_and, and_true, false_and, and_false, not_true_eq_false, not_false_eq_true, true_or, or_true, false_or, or_false]; try simp only [c_1, (Nat.not_lt.mp c_1), c_2, (Nat.not_lt.mp c_2), c_3, (Nat.not_lt.mp c_3), c_4, (Nat.not_lt.mp c_4), c_5, (Nat.not_lt.mp c_5), c_6, (Nat.not_lt.mp c_6), if_true, if_false, Bool.and_true, Bool.true_and, Bool.and_false, Bool.false_and, Bool.and_self, Bool.false_eq_true, ↓reduceIte, decide_true, decide_false, Int.toNat_natCast, Bool.toNat_true, Bool.toNat_false, true_and, and_true, false_and, and_false, not_true_eq_false, not_false_eq_true, true_or, or_true, false_or, or_false]; rfl))
            · have hv_ : vPU x y z = false := decide_eq_false (by omega)
              refine r_icb F false dX2_setPurse_32 rfl ?_
              exact r_retUb F hr hlk hH B dX2_setPurse_33 (by rw [hv_]) (by first | rfl | (simp only [ifV, hv_, if_true, if_false, Bool.and_true, Bool.true_and, Bool.and_false, Bool.false_and, Bool.and_self, Bool.false_eq_true, ↓reduceIte, decide_true, decide_false, Int.toNat_natCast, Bool.toNat_true, Bool.toNat_false, true_and, and_true, false_and, and_false, not_true_eq_false, not_false_eq_true, true_or, or_true, false_or, or_false]; first | done | rfl | (simp only [c_1, (Nat.not_lt.mp c_1), c_2, (Nat.not_lt.mp c_2), c_3, (Nat.not_lt.mp c_3), c_4, (Nat.not_lt.mp c_4), c_5, (Nat.not_lt.mp c_5), c_6, (Nat.not_le.mpr c_6), if_true, if_false, Bool.and_true, Bool.true_and, Bool.and_false, Bool.false_and, Bool.and_self, Bool.false_eq_true, ↓reduceIte, decide_true, decide_false, Int.toNat_natCast, Bool.toNat_true, Bool.toNat_false, true_and, and_true, false_and, and_false, not_true_eq_false, not_false_eq_true, true_or, or_true, false_or, or_false]; first | done | rfl) | (simp only [if_neg c_1, if_pos (Nat.not_lt.mp c_1), if_neg c_2, if_pos (Nat.not_lt.mp c_2), if_neg c_3, if_pos (Nat.not_lt.mp c_3), if_neg c_4, if_pos (Nat.not_lt.mp c_4), if_neg c_5, if_pos (Nat.not_lt.mp c_5), if_pos c_6, if_neg (Nat.not_le.mpr c_6)]; first | done | rfl) | (simp [c_1, (Nat.not_lt.mp c_1), c_2, (Nat.not_lt.mp c_2), c_3, (Nat.not_lt.mp c_3), c_4, (Nat.not_lt.mp c_4), c_5, (Nat.not_lt.mp c_5), c_6, (Nat.not_le.mpr c_6)]; done) | (simp [c_1, (Nat.not_lt.mp c_1), c_2, (Nat.not_lt.mp c_2), c_3, (Nat.not_lt.mp c_3), c_4, (Nat.not_lt.mp c_4), c_5, (Nat.not_lt.mp c_5), c_6, (Nat.not_le.mpr c_6)]; first | rfl | omega)) | (simp [ifV, c_1, (Nat.not_lt.mp c_1), c_2, (Nat.not_lt.mp c_2), c_3, (Nat.not_lt.mp c_3), c_4, (Nat.not_lt.mp c_4), c_5, (Nat.not_lt.mp c_5), c_6, (Nat.not_le.mpr c_6), hv_]; done) | (simp [ifV, c_1, (Nat.not_lt.mp c_1), c_2, (Nat.not_lt.mp c_2), c_3, (Nat.not_lt.mp c_3), c_4, (Nat.not_lt.mp c_4), c_5, (Nat.not_lt.mp c_5), c_6, (Nat.not_le.mpr c_6), hv_]; omega) | (simp only [ifV, hv_, if_true, if_false, Bool.and_true, Bool.true_and, Bool.and_false, Bool.false_and, Bool.and_self, Bool.false_eq_true, ↓reduceIte, decide_true, decide_false, Int.toNat_natCast, Bool.toNat_true, Bool.toNat_false, true_and, and_true, false_and, and_false, not_true_eq_false, not_false_eq_true, true_or, or_true, false_or, or_false]; try simp only [c_1, (Nat.not_lt.mp c_1), c_2, (Nat.not_lt.mp c_2), c_3, (Nat.not_lt.mp c_3), c_4, (Nat.not_lt.mp c_4), c_5, (Nat.not_lt.mp c_5), c_6, (Nat.not_le.mpr c_6), if_true, if_false, Bool.and_true, Bool.true_and, Bool.and_false, Bool.false_and, Bool.and_self, Bool.false_eq_true, ↓reduceIte, decide_true, decide_false, Int.toNat_natCast, Bool.toNat_true, Bool.toNat_false, true_and, and_true, false_and, and_false, not_true_eq_false, not_false_eq_true, true_or, or_true, false_or, or_false]; rfl))
abbrev rm_X2_empty : Room := { frames := 0, cells := 0, slots := 0, locals := 0 }
set_option maxHeartbeats 4000000 in
set_option maxRecDepth 100000 in
theorem k_X2_empty (l : Launch) (D : va_G) (cI cB : ClassId) (q : Nat → Nat) (T : St)  : CtV l yX2_empty cX2_empty 1 rm_X2_empty D cI cB [.ref (q 0)] (wT q cI T) (wT q cI (stR (stR (stR (stR (stR (stR (stR (stR (stR T 0 (fun _ => 0)) 3 (fun _ => 0)) 6 (fun _ => 0)) 7 (fun _ => 0)) 9 (fun _ => 3)) 10 (fun _ => 2)) 11 (fun _ => 9)) 12 (fun _ => 1)) 13 (fun _ => 1))) := by
  refine CtV.of RX2 (by decide) rfl (Nat.le_of_ble_eq_true rfl) ?_
  intro p e s m args below meth c H0 ls A hH hA F hr hlk B hl
  have hl : lv_has ls 1 [(0, .ref (q 0))] := hl
  refine r_aln F hl 0 rfl dX2_empty_0 rfl ?_
  refine r_ic F 0 dX2_empty_1 rfl ?_
  refine pf_X2_30 F B 0 (wT q cI (stR T 0 (fun _ => 0))) rfl rfl rfl (Nat.le_of_ble_eq_true rfl) rfl dX2_empty_2 (fun H locs B => ?_)
  refine r_aln F hl 0 rfl dX2_empty_5 rfl ?_
  refine r_ic F 0 dX2_empty_6 rfl ?_
  refine pf_X2_34 F B 0 (wT q cI (stR (stR T 0 (fun _ => 0)) 3 (fun _ => 0))) rfl rfl rfl (Nat.le_of_ble_eq_true rfl) rfl dX2_empty_7 (fun H locs B => ?_)
  refine r_aln F hl 0 rfl dX2_empty_10 rfl ?_
  refine r_ic F 0 dX2_empty_11 rfl ?_
  refine pf_X2_37 F B 0 (wT q cI (stR (stR (stR T 0 (fun _ => 0)) 3 (fun _ => 0)) 6 (fun _ => 0))) rfl rfl rfl (Nat.le_of_ble_eq_true rfl) rfl dX2_empty_12 (fun H locs B => ?_)
  refine r_aln F hl 0 rfl dX2_empty_15 rfl ?_
  refine r_ic F 0 dX2_empty_16 rfl ?_
  refine pf_X2_40 F B 0 (wT q cI (stR (stR (stR (stR T 0 (fun _ => 0)) 3 (fun _ => 0)) 6 (fun _ => 0)) 7 (fun _ => 0))) rfl rfl rfl (Nat.le_of_ble_eq_true rfl) rfl dX2_empty_17 (fun H locs B => ?_)
  refine r_aln F hl 0 rfl dX2_empty_20 rfl ?_
  refine r_ic F 3 dX2_empty_21 rfl ?_
  refine pf_X2_43 F B 0 (wT q cI (stR (stR (stR (stR (stR T 0 (fun _ => 0)) 3 (fun _ => 0)) 6 (fun _ => 0)) 7 (fun _ => 0)) 9 (fun _ => 3))) rfl rfl rfl (Nat.le_of_ble_eq_true rfl) rfl dX2_empty_22 (fun H locs B => ?_)
  refine r_aln F hl 0 rfl dX2_empty_25 rfl ?_
  refine r_ic F 2 dX2_empty_26 rfl ?_
  refine pf_X2_46 F B 0 (wT q cI (stR (stR (stR (stR (stR (stR T 0 (fun _ => 0)) 3 (fun _ => 0)) 6 (fun _ => 0)) 7 (fun _ => 0)) 9 (fun _ => 3)) 10 (fun _ => 2))) rfl rfl rfl (Nat.le_of_ble_eq_true rfl) rfl dX2_empty_27 (fun H locs B => ?_)
  refine r_aln F hl 0 rfl dX2_empty_30 rfl ?_
  refine r_bp F 9 dX2_empty_31 rfl ?_
  refine pf_X2_49 F B 0 (wT q cI (stR (stR (stR (stR (stR (stR (stR T 0 (fun _ => 0)) 3 (fun _ => 0)) 6 (fun _ => 0)) 7 (fun _ => 0)) 9 (fun _ => 3)) 10 (fun _ => 2)) 11 (fun _ => 9))) rfl rfl rfl (Nat.le_of_ble_eq_true rfl) rfl dX2_empty_33 (fun H locs B => ?_)
  refine r_aln F hl 0 rfl dX2_empty_36 rfl ?_
  refine r_ic F 1 dX2_empty_37 rfl ?_
  refine pf_X2_52 F B 0 (wT q cI (stR (stR (stR (stR (stR (stR (stR (stR T 0 (fun _ => 0)) 3 (fun _ => 0)) 6 (fun _ => 0)) 7 (fun _ => 0)) 9 (fun _ => 3)) 10 (fun _ => 2)) 11 (fun _ => 9)) 12 (fun _ => 1))) rfl rfl rfl (Nat.le_of_ble_eq_true rfl) rfl dX2_empty_38 (fun H locs B => ?_)
  refine r_aln F hl 0 rfl dX2_empty_41 rfl ?_
  refine r_ic F 1 dX2_empty_42 rfl ?_
  refine pf_X2_55 F B 0 (wT q cI (stR (stR (stR (stR (stR (stR (stR (stR (stR T 0 (fun _ => 0)) 3 (fun _ => 0)) 6 (fun _ => 0)) 7 (fun _ => 0)) 9 (fun _ => 3)) 10 (fun _ => 2)) 11 (fun _ => 9)) 12 (fun _ => 1)) 13 (fun _ => 1))) rfl rfl rfl (Nat.le_of_ble_eq_true rfl) rfl dX2_empty_43 (fun H locs B => ?_)
  exact r_retV F hr hlk hH B dX2_empty_46 (by first | rfl | (simp only [if_true, if_false, Bool.and_true, Bool.true_and, Bool.and_false, Bool.false_and, Bool.and_self, Bool.false_eq_true, ↓reduceIte, decide_true, decide_false, Int.toNat_natCast, Bool.toNat_true, Bool.toNat_false, true_and, and_true, false_and, and_false, not_true_eq_false, not_false_eq_true, true_or, or_true, false_or, or_false]; first | done | rfl | (simp only [if_true, if_true, if_false, Bool.and_true, Bool.true_and, Bool.and_false, Bool.false_and, Bool.and_self, Bool.false_eq_true, ↓reduceIte, decide_true, decide_false, Int.toNat_natCast, Bool.toNat_true, Bool.toNat_false, true_and, and_true, false_and, and_false, not_true_eq_false, not_false_eq_true, true_or, or_true, false_or, or_false]; first | done | rfl) | (simp only [if_true]; first | done | rfl) | (simp [if_true]; done) | (simp [if_true]; first | rfl | omega)) | (simp [if_true]; done) | (simp [if_true]; omega) | (simp only [if_true, if_false, Bool.and_true, Bool.true_and, Bool.and_false, Bool.false_and, Bool.and_self, Bool.false_eq_true, ↓reduceIte, decide_true, decide_false, Int.toNat_natCast, Bool.toNat_true, Bool.toNat_false, true_and, and_true, false_and, and_false, not_true_eq_false, not_false_eq_true, true_or, or_true, false_or, or_false]; try simp only [if_true, if_true, if_false, Bool.and_true, Bool.true_and, Bool.and_false, Bool.false_and, Bool.and_self, Bool.false_eq_true, ↓reduceIte, decide_true, decide_false, Int.toNat_natCast, Bool.toNat_true, Bool.toNat_false, true_and, and_true, false_and, and_false, not_true_eq_false, not_false_eq_true, true_or, or_true, false_or, or_false]; rfl))
abbrev rm_X2_hasSkillFor : Room := { frames := 0, cells := 0, slots := 0, locals := 0 }
set_option maxHeartbeats 4000000 in
set_option maxRecDepth 100000 in
theorem k_X2_hasSkillFor (l : Launch) (D : va_G) (cI cB : ClassId) (q : Nat → Nat) (T : St) (i d j k : Nat) (hi : i < 5 ∧ d < 2 ∧ j < 4 ∧ k < 8) (hT : Tok T) : CtQ l yX2_hasSkillFor cX2_hasSkillFor 6 (some .boolean) rm_X2_hasSkillFor D cI cB [.ref (q 0), .int (iI ((i : Nat) : Int)), .int (iI ((d : Nat) : Int)), .int (iI ((j : Nat) : Int)), .int (iI ((k : Nat) : Int))] (wT q cI T) ((iI ((Bool.toNat (cSk (T 1) (T 4) i d j k) : Nat) : Int))) := by
  obtain ⟨hTs, hT1, hT2, hT4, hT5, hT8⟩ := id hT
  refine CtQ.of RX2 (by decide) rfl (Nat.le_of_ble_eq_true rfl) ?_
  intro p e s m args below meth c H ls hH F hr hlk P hl
  have hl : lv_has ls 6 [(0, .ref (q 0)), (1, .int (iI ((i : Nat) : Int))), (2, .int (iI ((d : Nat) : Int))), (3, .int (iI ((j : Nat) : Int))), (4, .int (iI ((k : Nat) : Int)))] := hl
  refine r_aln F hl 0 rfl dX2_hasSkillFor_0 rfl ?_
  refine gf_X2_18 F P 0 rfl (.ref (q 5)) rfl dX2_hasSkillFor_1 ?_
  refine r_bp F 8 dX2_hasSkillFor_4 rfl ?_
  refine r_iln F hl 3 rfl dX2_hasSkillFor_6 rfl ?_
  refine r_mul F dX2_hasSkillFor_7 ?_
  refine r_il F hl 4 rfl dX2_hasSkillFor_8 ?_
  refine r_add F dX2_hasSkillFor_10 ?_
  refine r_ald (f := T 4) F P 3 rfl dX2_hasSkillFor_11 (by decide) (by omega) ?_
  have b_1 : T 4 (((8 * j) + k)) < 6 := hT4 (((8 * j) + k))
  refine r_is (lv' := [(0, .ref (q 0)), (1, .int (iI ((i : Nat) : Int))), (2, .int (iI ((d : Nat) : Int))), (3, .int (iI ((j : Nat) : Int))), (4, .int (iI ((k : Nat) : Int))), (5, .int (iI ((T 4 (((8 * j) + k)) : Nat) : Int)))]) F hl dX2_hasSkillFor_12 (by decide) [1, 2, 3, 4, 5, 0] rfl (fun ls hl => ?_)
  refine r_aln F hl 0 rfl dX2_hasSkillFor_14 rfl ?_
  refine gf_X2_9 F P 0 rfl (.ref (q 2)) rfl dX2_hasSkillFor_15 ?_
  refine r_ic F 2 dX2_hasSkillFor_18 rfl ?_
  refine r_iln F hl 1 rfl dX2_hasSkillFor_19 rfl ?_
  refine r_mul F dX2_hasSkillFor_20 ?_
  refine r_iln F hl 2 rfl dX2_hasSkillFor_21 rfl ?_
  refine r_add F dX2_hasSkillFor_22 ?_
  refine r_ald (f := T 1) F P 1 rfl dX2_hasSkillFor_23 (by decide) (by omega) ?_
  have b_2 : T 1 (((2 * i) + d)) < 256 := hT1 (((2 * i) + d))
  refine r_il F hl 5 rfl dX2_hasSkillFor_24 ?_
  refine r_shr F dX2_hasSkillFor_26 ⟨by omega, by omega⟩ ?_
  have b_3 : (T 1 (((2 * i) + d)) / 2 ^ T 4 (((8 * j) + k))) ≤ T 1 (((2 * i) + d)) := Nat.div_le_self _ _
  refine r_ic F 1 dX2_hasSkillFor_27 rfl ?_
  refine r_and F dX2_hasSkillFor_28 ?_
  have b_4 : ((T 1 (((2 * i) + d)) / 2 ^ T 4 (((8 * j) + k))) &&& 1) ≤ 1 := Nat.and_le_right
  refine r_zeq 36 F dX2_hasSkillFor_29 (by decide) (by omega) (fun c_5 => ?_) (fun c_5 => ?_)
  · refine r_icb F false dX2_hasSkillFor_36 rfl ?_
    exact r_retQb F hr hlk hH dX2_hasSkillFor_37 (by first | rfl | (simp only [cSk, if_true, if_false, Bool.and_true, Bool.true_and, Bool.and_false, Bool.false_and, Bool.and_self, Bool.false_eq_true, ↓reduceIte, decide_true, decide_false, Int.toNat_natCast, Bool.toNat_true, Bool.toNat_false, true_and, and_true, false_and, and_false, not_true_eq_false, not_false_eq_true, true_or, or_true, false_or, or_false]; first | done | rfl | (simp only [c_5, if_true, if_false, Bool.and_true, Bool.true_and, Bool.and_false, Bool.false_and, Bool.and_self, Bool.false_eq_true, ↓reduceIte, decide_true, decide_false, Int.toNat_natCast, Bool.toNat_true, Bool.toNat_false, true_and, and_true, false_and, and_false, not_true_eq_false, not_false_eq_true, true_or, or_true, false_or, or_false]; first | done | rfl) | (simp only [if_pos c_5]; first | done | rfl) | (simp [c_5]; done) | (simp [c_5]; first | rfl | omega)) | (simp [cSk, c_5]; done) | (simp [cSk, c_5]; omega) | (simp only [cSk, if_true, if_false, Bool.and_true, Bool.true_and, Bool.and_false, Bool.false_and, Bool.and_self, Bool.false_eq_true, ↓reduceIte, decide_true, decide_false, Int.toNat_natCast, Bool.toNat_true, Bool.toNat_false, true_and, and_true, false_and, and_false, not_true_eq_false, not_false_eq_true, true_or, or_true, false_or, or_false]; try simp only [c_5, if_true, if_false, Bool.and_true, Bool.true_and, Bool.and_false, Bool.false_and, Bool.and_self, Bool.false_eq_true, ↓reduceIte, decide_true, decide_false, Int.toNat_natCast, Bool.toNat_true, Bool.toNat_false, true_and, and_true, false_and, and_false, not_true_eq_false, not_false_eq_true, true_or, or_true, false_or, or_false]; rfl))
  · refine r_icb F true dX2_hasSkillFor_32 rfl ?_
    refine r_goto 37 F dX2_hasSkillFor_33 (by decide) ?_
    exact r_retQb F hr hlk hH dX2_hasSkillFor_37 (by first | rfl | (simp only [cSk, if_true, if_false, Bool.and_true, Bool.true_and, Bool.and_false, Bool.false_and, Bool.and_self, Bool.false_eq_true, ↓reduceIte, decide_true, decide_false, Int.toNat_natCast, Bool.toNat_true, Bool.toNat_false, true_and, and_true, false_and, and_false, not_true_eq_false, not_false_eq_true, true_or, or_true, false_or, or_false]; first | done | rfl | (simp only [c_5, if_true, if_false, Bool.and_true, Bool.true_and, Bool.and_false, Bool.false_and, Bool.and_self, Bool.false_eq_true, ↓reduceIte, decide_true, decide_false, Int.toNat_natCast, Bool.toNat_true, Bool.toNat_false, true_and, and_true, false_and, and_false, not_true_eq_false, not_false_eq_true, true_or, or_true, false_or, or_false]; first | done | rfl) | (simp only [if_neg c_5]; first | done | rfl) | (simp [c_5]; done) | (simp [c_5]; first | rfl | omega)) | (simp [cSk, c_5]; done) | (simp [cSk, c_5]; omega) | (simp only [cSk, if_true, if_false, Bool.and_true, Bool.true_and, Bool.and_false, Bool.false_and, Bool.and_self, Bool.false_eq_true, ↓reduceIte, decide_true, decide_false, Int.toNat_natCast, Bool.toNat_true, Bool.toNat_false, true_and, and_true, false_and, and_false, not_true_eq_false, not_false_eq_true, true_or, or_true, false_or, or_false]; try simp only [c_5, if_true, if_false, Bool.and_true, Bool.true_and, Bool.and_false, Bool.false_and, Bool.and_self, Bool.false_eq_true, ↓reduceIte, decide_true, decide_false, Int.toNat_natCast, Bool.toNat_true, Bool.toNat_false, true_and, and_true, false_and, and_false, not_true_eq_false, not_false_eq_true, true_or, or_true, false_or, or_false]; rfl))
abbrev rm_X2_stepAfterShift : Room := { frames := 1, cells := 0, slots := 0, locals := 40 }
set_option maxHeartbeats 4000000 in
set_option maxRecDepth 100000 in
theorem k_X2_stepAfterShift (l : Launch) (D : va_G) (cI cB : ClassId) (q : Nat → Nat) (T : St) (i d j b : Nat) (hi : i < 5 ∧ d < 2 ∧ j < 4) (hb : b ≤ T 5 j) (hT : Tok T) : CtQ l yX2_stepAfterShift cX2_stepAfterShift 7 (some .int) rm_X2_stepAfterShift D cI cB [.ref (q 0), .int (iI ((i : Nat) : Int)), .int (iI ((d : Nat) : Int)), .int (iI ((j : Nat) : Int)), .int (iI ((b : Nat) : Int))] (wT q cI T) ((iI ((sp_sa (T 1) (T 4) (T 5) (T 9 0) i d j b : Nat) : Int))) := by
  obtain ⟨hTs, hT1, hT2, hT4, hT5, hT8⟩ := id hT
  have hj8 := hT5 j
  refine CtQ.of RX2 (by decide) rfl (Nat.le_of_ble_eq_true rfl) ?_
  intro p e s m args below meth c H ls hH F hr hlk P hl
  have hl : lv_has ls 7 [(0, .ref (q 0)), (1, .int (iI ((i : Nat) : Int))), (2, .int (iI ((d : Nat) : Int))), (3, .int (iI ((j : Nat) : Int))), (4, .int (iI ((b : Nat) : Int)))] := hl
  refine r_aln F hl 0 rfl dX2_stepAfterShift_0 rfl ?_
  refine gf_X2_21 F P 0 rfl (.ref (q 6)) rfl dX2_stepAfterShift_1 ?_
  refine r_iln F hl 3 rfl dX2_stepAfterShift_4 rfl ?_
  refine r_ald (f := T 5) F P 4 rfl dX2_stepAfterShift_5 (by decide) (by omega) ?_
  have b_1 : T 5 (j) < 9 := hT5 (j)
  refine r_il F hl 4 rfl dX2_stepAfterShift_6 ?_
  refine r_aln F hl 0 rfl dX2_stepAfterShift_8 rfl ?_
  refine gf_X2_43 F P 0 rfl (.int (iI ((T 9 0 : Nat) : Int))) rfl dX2_stepAfterShift_9 ?_
  refine r_add F dX2_stepAfterShift_12 ?_
  refine r_min F km_X2_70 hl.1 (Nat.le_of_ble_eq_true rfl) (Nat.le_of_ble_eq_true rfl) ⟨Nat.le_of_ble_eq_true rfl, Nat.le_of_ble_eq_true rfl⟩ (by omega) dX2_stepAfterShift_13 ?_
  refine r_is (lv' := [(0, .ref (q 0)), (1, .int (iI ((i : Nat) : Int))), (2, .int (iI ((d : Nat) : Int))), (3, .int (iI ((j : Nat) : Int))), (4, .int (iI ((b : Nat) : Int))), (5, .int (iI (min (((T 5 (j) : Nat) : Int)) ((((b + T 9 0) : Nat) : Int)))))]) F hl dX2_stepAfterShift_16 (by decide) [1, 2, 3, 4, 5, 0] rfl (fun ls hl => ?_)
  have hl : lv_has ls 7 [(0, .ref (q 0)), (1, .int (iI ((i : Nat) : Int))), (2, .int (iI ((d : Nat) : Int))), (3, .int (iI ((j : Nat) : Int))), (4, .int (iI ((b : Nat) : Int))), (5, .int (iI (((min (T 5 j) (b + T 9 0)) : Nat) : Int)))] := by
    rw [show min (((T 5 (j) : Nat) : Int)) ((((b + T 9 0) : Nat) : Int)) = (((min (T 5 j) (b + T 9 0)) : Nat) : Int) from by omega] at hl
    exact hl
  refine r_il F hl 4 rfl dX2_stepAfterShift_18 ?_
  refine r_is (lv' := [(0, .ref (q 0)), (1, .int (iI ((i : Nat) : Int))), (2, .int (iI ((d : Nat) : Int))), (3, .int (iI ((j : Nat) : Int))), (4, .int (iI ((b : Nat) : Int))), (5, .int (iI (((min (T 5 j) (b + T 9 0)) : Nat) : Int))), (6, .int (iI ((b : Nat) : Int)))]) F hl dX2_stepAfterShift_20 (by decide) [1, 2, 3, 4, 5, 6, 0] rfl (fun ls hl => ?_)
  have lp_2 : ∀ (nn_ : Nat) (y : Nat) (ls : Array Slot), min (T 5 j) (b + T 9 0) - y < nn_ → (saF (T 1) (T 4) i d j (min (T 5 j) (b + T 9 0) - y) y = sp_sa (T 1) (T 4) (T 5) (T 9 0) i d j b) → (b ≤ y ∧ y ≤ T 5 j) → lv_has ls 7 [(0, .ref (q 0)), (1, .int (iI ((i : Nat) : Int))), (2, .int (iI ((d : Nat) : Int))), (3, .int (iI ((j : Nat) : Int))), (4, .int (iI ((b : Nat) : Int))), (5, .int (iI (((min (T 5 j) (b + T 9 0)) : Nat) : Int))), (6, .int (iI ((y : Nat) : Int)))] → W p l e rm_X2_stepAfterShift s m args below meth c H [] 0 0 (Qq below args s ((iI ((sp_sa (T 1) (T 4) (T 5) (T 9 0) i d j b : Nat) : Int)))) (F0 m 22 ls []) := by
    intro nn_
    induction nn_ with
    | zero => intro y ls hlt; exact absurd hlt (Nat.not_lt_zero _)
    | succ nn_ ih =>
      have ih_3 := ih; clear ih
      intro y ls hlt hI hy hl
      have hlt_4 := hlt
      refine r_il F hl 6 rfl dX2_stepAfterShift_22 ?_
      refine r_il F hl 5 rfl dX2_stepAfterShift_24 ?_
      refine r_cge 47 F dX2_stepAfterShift_26 (by decide) (by omega) (fun c_5 => ?_) (fun c_5 => ?_)
      · have he_ : sp_sa (T 1) (T 4) (T 5) (T 9 0) i d j b = y := by rw [← hI, show min (T 5 j) (b + T 9 0) - y = 0 from by omega]; rfl
        refine r_il F hl 6 rfl dX2_stepAfterShift_47 ?_
        exact r_retQ F hr hlk hH dX2_stepAfterShift_49 (by rw [he_])
      · refine r_aln F hl 0 rfl dX2_stepAfterShift_29 rfl ?_
        refine r_iln F hl 1 rfl dX2_stepAfterShift_30 rfl ?_
        refine r_iln F hl 2 rfl dX2_stepAfterShift_31 rfl ?_
        refine r_iln F hl 3 rfl dX2_stepAfterShift_32 rfl ?_
        refine r_il F hl 6 rfl dX2_stepAfterShift_33 ?_
        refine r_cq (r := (iI ((Bool.toNat (cSk (T 1) (T 4) (i) (d) (j) (y)) : Nat) : Int))) F P (k_X2_hasSkillFor l D cI cB (q) (T) (i) (d) (j) (y) (by omega) hT) gw_X2_76 [0, 1, 2, 3, 4, 5] rfl rfl rfl ⟨⟨rfl, rfl⟩, Nat.le_of_ble_eq_true rfl, Nat.le_of_ble_eq_true rfl⟩ ⟨Nat.le_of_ble_eq_true rfl, Nat.le_of_ble_eq_true rfl⟩ hl.1 rfl [] rfl (Nat.le_of_ble_eq_true rfl) dX2_stepAfterShift_35 ?_
        refine r_zeqb 47 F dX2_stepAfterShift_38 (by decide) (fun c_6 => ?_) (fun c_6 => ?_)
        · have he_ : sp_sa (T 1) (T 4) (T 5) (T 9 0) i d j b = y := by rw [← hI, saF_stop c_6]
          refine r_il F hl 6 rfl dX2_stepAfterShift_47 ?_
          exact r_retQ F hr hlk hH dX2_stepAfterShift_49 (by rw [he_])
        · refine r_inc (lv' := [(0, .ref (q 0)), (1, .int (iI ((i : Nat) : Int))), (2, .int (iI ((d : Nat) : Int))), (3, .int (iI ((j : Nat) : Int))), (4, .int (iI ((b : Nat) : Int))), (5, .int (iI (((min (T 5 j) (b + T 9 0)) : Nat) : Int))), (6, .int (iI (((y + 1) : Nat) : Int)))]) F hl 6 rfl dX2_stepAfterShift_41 1 rfl (by decide) [1, 2, 3, 4, 5, 6, 0] rfl (fun ls hl => ?_)
          refine r_goto 22 F dX2_stepAfterShift_44 (by decide) ?_
          exact ih_3 ((y + 1)) ls (by omega) (by rw [← hI]; exact (saF_go (by omega) c_6).symm) (by omega) hl
  exact lp_2 _ (b) ls (Nat.lt_succ_self _) rfl (by omega) hl
abbrev rm_X2_shiftsNeeded : Room := { frames := 2, cells := 0, slots := 0, locals := 66 }
set_option maxHeartbeats 4000000 in
set_option maxRecDepth 100000 in
theorem k_X2_shiftsNeeded (l : Launch) (D : va_G) (cI cB : ClassId) (q : Nat → Nat) (T : St) (i j x : Nat) (hi : i < 5 ∧ j < 4 ∧ x < 65000) (hT : Tok T) : CtQ l yX2_shiftsNeeded cX2_shiftsNeeded 6 (some .int) rm_X2_shiftsNeeded D cI cB [.ref (q 0), .int (iI ((i : Nat) : Int)), .int (iI ((j : Nat) : Int)), .int (iI ((x : Nat) : Int))] (wT q cI T) ((iI (sp_sn (T 1) (T 4) (T 5) (T 9 0) i j x))) := by
  obtain ⟨hTs, hT1, hT2, hT4, hT5, hT8⟩ := id hT
  have hj8 := hT5 j
  refine CtQ.of RX2 (by decide) rfl (Nat.le_of_ble_eq_true rfl) ?_
  intro p e s m args below meth c H ls hH F hr hlk P hl
  have hl : lv_has ls 6 [(0, .ref (q 0)), (1, .int (iI ((i : Nat) : Int))), (2, .int (iI ((j : Nat) : Int))), (3, .int (iI ((x : Nat) : Int)))] := hl
  refine r_ic F 0 dX2_shiftsNeeded_0 rfl ?_
  refine r_is (lv' := [(0, .ref (q 0)), (1, .int (iI ((i : Nat) : Int))), (2, .int (iI ((j : Nat) : Int))), (3, .int (iI ((x : Nat) : Int))), (4, .int (iI ((0 : Nat) : Int)))]) F hl dX2_shiftsNeeded_1 (by decide) [1, 2, 3, 4, 0] rfl (fun ls hl => ?_)
  refine r_ic F 0 dX2_shiftsNeeded_3 rfl ?_
  refine r_is (lv' := [(0, .ref (q 0)), (1, .int (iI ((i : Nat) : Int))), (2, .int (iI ((j : Nat) : Int))), (3, .int (iI ((x : Nat) : Int))), (4, .int (iI ((0 : Nat) : Int))), (5, .int (iI ((0 : Nat) : Int)))]) F hl dX2_shiftsNeeded_4 (by decide) [1, 2, 3, 4, 5, 0] rfl (fun ls hl => ?_)
  have lp_1 : ∀ (nn_ : Nat) (b : Nat) (n : Nat) (ls : Array Slot), 16 - n < nn_ → (snF (T 1) (T 4) (T 5) (T 9 0) i j x (16 - n) n b = sp_sn (T 1) (T 4) (T 5) (T 9 0) i j x) → (b ≤ T 5 j) → (n ≤ 16) → lv_has ls 6 [(0, .ref (q 0)), (1, .int (iI ((i : Nat) : Int))), (2, .int (iI ((j : Nat) : Int))), (3, .int (iI ((x : Nat) : Int))), (4, .int (iI ((b : Nat) : Int))), (5, .int (iI ((n : Nat) : Int)))] → W p l e rm_X2_shiftsNeeded s m args below meth c H [] 0 0 (Qq below args s ((iI (sp_sn (T 1) (T 4) (T 5) (T 9 0) i j x)))) (F0 m 6 ls []) := by
    intro nn_
    induction nn_ with
    | zero => intro b n ls hlt; exact absurd hlt (Nat.not_lt_zero _)
    | succ nn_ ih =>
      have ih_2 := ih; clear ih
      intro b n ls hlt hI hb hk hl
      have hlt_3 := hlt
      refine r_il F hl 5 rfl dX2_shiftsNeeded_6 ?_
      refine r_bp F 16 dX2_shiftsNeeded_8 rfl ?_
      refine r_cge 51 F dX2_shiftsNeeded_10 (by decide) (by omega) (fun c_4 => ?_) (fun c_4 => ?_)
      · have he_ : sp_sn (T 1) (T 4) (T 5) (T 9 0) i j x = -4 := by rw [← hI, show 16 - n = 0 from by omega]; rfl
        refine r_bpz F (-4) dX2_shiftsNeeded_51 rfl ?_
        exact r_retQ F hr hlk hH dX2_shiftsNeeded_53 (by rw [he_])
      · refine r_aln F hl 0 rfl dX2_shiftsNeeded_13 rfl ?_
        refine r_iln F hl 1 rfl dX2_shiftsNeeded_14 rfl ?_
        refine r_iln F hl 3 rfl dX2_shiftsNeeded_15 rfl ?_
        refine r_il F hl 5 rfl dX2_shiftsNeeded_16 ?_
        refine r_add F dX2_shiftsNeeded_18 ?_
        refine r_ic F 1 dX2_shiftsNeeded_19 rfl ?_
        refine r_and F dX2_shiftsNeeded_20 ?_
        have b_5 : ((x + n) &&& 1) ≤ 1 := Nat.and_le_right
        refine r_iln F hl 2 rfl dX2_shiftsNeeded_21 rfl ?_
        refine r_il F hl 4 rfl dX2_shiftsNeeded_22 ?_
        refine r_cq (r := (iI ((sp_sa (T 1) (T 4) (T 5) (T 9 0) (i) (((x + n) &&& 1)) (j) (b) : Nat) : Int))) F P (k_X2_stepAfterShift l D cI cB (q) (T) (i) (((x + n) &&& 1)) (j) (b) (by omega) (by omega) hT) gw_X2_66 [0, 1, 2, 3, 4, 5] rfl rfl rfl ⟨⟨rfl, rfl⟩, Nat.le_of_ble_eq_true rfl, Nat.le_of_ble_eq_true rfl⟩ ⟨Nat.le_of_ble_eq_true rfl, Nat.le_of_ble_eq_true rfl⟩ hl.1 rfl [] rfl (Nat.le_of_ble_eq_true rfl) dX2_shiftsNeeded_24 ?_
        have hq_ := @sa_le (T 1) (T 4) (T 5) (T 9 0) (i) (((x + n) &&& 1)) (j) (b) (by omega)
        refine r_is (lv' := [(0, .ref (q 0)), (1, .int (iI ((i : Nat) : Int))), (2, .int (iI ((j : Nat) : Int))), (3, .int (iI ((x : Nat) : Int))), (4, .int (iI ((sp_sa (T 1) (T 4) (T 5) (T 9 0) (i) (((x + n) &&& 1)) (j) (b) : Nat) : Int))), (5, .int (iI ((n : Nat) : Int)))]) F hl dX2_shiftsNeeded_27 (by decide) [1, 2, 3, 4, 0, 5] rfl (fun ls hl => ?_)
        refine r_il F hl 4 rfl dX2_shiftsNeeded_29 ?_
        refine r_aln F hl 0 rfl dX2_shiftsNeeded_31 rfl ?_
        refine gf_X2_21 F P 0 rfl (.ref (q 6)) rfl dX2_shiftsNeeded_32 ?_
        refine r_iln F hl 2 rfl dX2_shiftsNeeded_35 rfl ?_
        refine r_ald (f := T 5) F P 4 rfl dX2_shiftsNeeded_36 (by decide) (by omega) ?_
        have b_6 : T 5 (j) < 9 := hT5 (j)
        refine r_clt 45 F dX2_shiftsNeeded_37 (by decide) (by omega) (fun c_7 => ?_) (fun c_7 => ?_)
        · refine r_inc (lv' := [(0, .ref (q 0)), (1, .int (iI ((i : Nat) : Int))), (2, .int (iI ((j : Nat) : Int))), (3, .int (iI ((x : Nat) : Int))), (4, .int (iI ((sp_sa (T 1) (T 4) (T 5) (T 9 0) (i) (((x + n) &&& 1)) (j) (b) : Nat) : Int))), (5, .int (iI (((n + 1) : Nat) : Int)))]) F hl 5 rfl dX2_shiftsNeeded_45 1 rfl (by decide) [1, 2, 3, 4, 5, 0] rfl (fun ls hl => ?_)
          refine r_goto 6 F dX2_shiftsNeeded_48 (by decide) ?_
          exact ih_2 (sp_sa (T 1) (T 4) (T 5) (T 9 0) (i) (((x + n) &&& 1)) (j) (b)) ((n + 1)) ls (by omega) (by rw [← hI]; exact (snF_go (by omega) (by omega)).symm) (by omega) (by omega) hl
        · have he_ : sp_sn (T 1) (T 4) (T 5) (T 9 0) i j x = ((n + 1 : Nat) : Int) := by rw [← hI, snF_stop (by omega) (by omega)]
          refine r_il F hl 5 rfl dX2_shiftsNeeded_40 ?_
          refine r_ic F 1 dX2_shiftsNeeded_42 rfl ?_
          refine r_add F dX2_shiftsNeeded_43 ?_
          exact r_retQ F hr hlk hH dX2_shiftsNeeded_44 (by rw [he_])
  exact lp_1 _ (0) (0) ls (Nat.lt_succ_self _) rfl (by omega) (by omega) hl
abbrev rm_X2_fewestHandings : Room := { frames := 1, cells := 0, slots := 0, locals := 40 }
set_option maxHeartbeats 4000000 in
set_option maxRecDepth 100000 in
theorem k_X2_fewestHandings (l : Launch) (D : va_G) (cI cB : ClassId) (q : Nat → Nat) (T : St) (i j : Nat) (hi : i < 5 ∧ j < 4) (hT : Tok T) : CtQ l yX2_fewestHandings cX2_fewestHandings 9 (some .int) rm_X2_fewestHandings D cI cB [.ref (q 0), .int (iI ((i : Nat) : Int)), .int (iI ((j : Nat) : Int))] (wT q cI T) ((iI (sp_fh (T 1) (T 4) (T 5) i j))) := by
  obtain ⟨hTs, hT1, hT2, hT4, hT5, hT8⟩ := id hT
  have hj8 := hT5 j
  refine CtQ.of RX2 (by decide) rfl (Nat.le_of_ble_eq_true rfl) ?_
  intro p e s m args below meth c H ls hH F hr hlk P hl
  have hl : lv_has ls 9 [(0, .ref (q 0)), (1, .int (iI ((i : Nat) : Int))), (2, .int (iI ((j : Nat) : Int)))] := hl
  refine r_bp F 16 dX2_fewestHandings_0 rfl ?_
  refine r_isn (lv' := [(0, .ref (q 0)), (1, .int (iI ((i : Nat) : Int))), (2, .int (iI ((j : Nat) : Int))), (3, .int (iI ((16 : Nat) : Int)))]) F hl dX2_fewestHandings_2 rfl (by decide) [1, 2, 3, 0] rfl (fun ls hl => ?_)
  refine r_ic F 0 dX2_fewestHandings_3 rfl ?_
  refine r_is (lv' := [(0, .ref (q 0)), (1, .int (iI ((i : Nat) : Int))), (2, .int (iI ((j : Nat) : Int))), (3, .int (iI ((16 : Nat) : Int))), (4, .int (iI ((0 : Nat) : Int)))]) F hl dX2_fewestHandings_4 (by decide) [1, 2, 3, 4, 0] rfl (fun ls hl => ?_)
  refine r_ic F 0 dX2_fewestHandings_6 rfl ?_
  refine r_is (lv' := [(0, .ref (q 0)), (1, .int (iI ((i : Nat) : Int))), (2, .int (iI ((j : Nat) : Int))), (3, .int (iI ((16 : Nat) : Int))), (4, .int (iI ((0 : Nat) : Int))), (5, .int (iI ((0 : Nat) : Int)))]) F hl dX2_fewestHandings_7 (by decide) [1, 2, 3, 4, 5, 0] rfl (fun ls hl => ?_)
  refine r_ic F 0 dX2_fewestHandings_9 rfl ?_
  refine r_is (lv' := [(0, .ref (q 0)), (1, .int (iI ((i : Nat) : Int))), (2, .int (iI ((j : Nat) : Int))), (3, .int (iI ((16 : Nat) : Int))), (4, .int (iI ((0 : Nat) : Int))), (5, .int (iI ((0 : Nat) : Int))), (6, .int (iI ((0 : Nat) : Int)))]) F hl dX2_fewestHandings_10 (by decide) [1, 2, 3, 4, 5, 6, 0] rfl (fun ls hl => ?_)
  have lp_1 : ∀ (nn_ : Nat) (x : Nat) (y : Nat) (k : Nat) (ls : Array Slot), T 5 j - k < nn_ → (lpR (fhB (T 1) (T 4) i j) (T 5 j) k (x, y) = fhR (T 1) (T 4) (T 5) i j) → (x ≤ 16 ∧ y ≤ 16) → (k ≤ T 5 j) → lv_has ls 9 [(0, .ref (q 0)), (1, .int (iI ((i : Nat) : Int))), (2, .int (iI ((j : Nat) : Int))), (3, .int (iI ((16 : Nat) : Int))), (4, .int (iI ((x : Nat) : Int))), (5, .int (iI ((y : Nat) : Int))), (6, .int (iI ((k : Nat) : Int)))] → W p l e rm_X2_fewestHandings s m args below meth c H [] 0 0 (Qq below args s ((iI (sp_fh (T 1) (T 4) (T 5) i j)))) (F0 m 12 ls []) := by
    intro nn_
    induction nn_ with
    | zero => intro x y k ls hlt; exact absurd hlt (Nat.not_lt_zero _)
    | succ nn_ ih =>
      have ih_2 := ih; clear ih
      intro x y k ls hlt hI hx hk hl
      have hlt_3 := hlt
      refine r_il F hl 6 rfl dX2_fewestHandings_12 ?_
      refine r_aln F hl 0 rfl dX2_fewestHandings_14 rfl ?_
      refine gf_X2_21 F P 0 rfl (.ref (q 6)) rfl dX2_fewestHandings_15 ?_
      refine r_iln F hl 2 rfl dX2_fewestHandings_18 rfl ?_
      refine r_ald (f := T 5) F P 4 rfl dX2_fewestHandings_19 (by decide) (by omega) ?_
      have b_4 : T 5 (j) < 9 := hT5 (j)
      refine r_cge 91 F dX2_fewestHandings_20 (by decide) (by omega) (fun c_5 => ?_) (fun c_5 => ?_)
      · have he_ : fhR (T 1) (T 4) (T 5) i j = (x, y) := by rw [← hI, lpR_end (by omega)]
        refine r_il F hl 4 rfl dX2_fewestHandings_91 ?_
        refine r_il F hl 5 rfl dX2_fewestHandings_93 ?_
        refine r_min F km_X2_70 hl.1 (Nat.le_of_ble_eq_true rfl) (Nat.le_of_ble_eq_true rfl) ⟨Nat.le_of_ble_eq_true rfl, Nat.le_of_ble_eq_true rfl⟩ (by omega) dX2_fewestHandings_95 ?_
        refine r_is (lv' := [(0, .ref (q 0)), (1, .int (iI ((i : Nat) : Int))), (2, .int (iI ((j : Nat) : Int))), (3, .int (iI ((16 : Nat) : Int))), (4, .int (iI ((x : Nat) : Int))), (5, .int (iI ((y : Nat) : Int))), (6, .int (iI (min (((x : Nat) : Int)) (((y : Nat) : Int)))))]) F hl dX2_fewestHandings_98 (by decide) [1, 2, 3, 4, 5, 6, 0] rfl (fun ls hl => ?_)
        have hl : lv_has ls 9 [(0, .ref (q 0)), (1, .int (iI ((i : Nat) : Int))), (2, .int (iI ((j : Nat) : Int))), (3, .int (iI ((16 : Nat) : Int))), (4, .int (iI ((x : Nat) : Int))), (5, .int (iI ((y : Nat) : Int))), (6, .int (iI (((min x y) : Nat) : Int)))] := by
          rw [show min (((x : Nat) : Int)) (((y : Nat) : Int)) = (((min x y) : Nat) : Int) from by omega] at hl
          exact hl
        refine r_il F hl 6 rfl dX2_fewestHandings_100 ?_
        refine r_iln F hl 3 rfl dX2_fewestHandings_102 rfl ?_
        refine r_clt 111 F dX2_fewestHandings_103 (by decide) (by omega) (fun c_6 => ?_) (fun c_6 => ?_)
        · refine r_il F hl 6 rfl dX2_fewestHandings_111 ?_
          exact r_retQ F hr hlk hH dX2_fewestHandings_113 (by unfold sp_fh; rw [he_]; simp only; rw [if_pos (by omega)])
        · refine r_bpz F (-4) dX2_fewestHandings_106 rfl ?_
          refine r_goto 113 F dX2_fewestHandings_108 (by decide) ?_
          exact r_retQ F hr hlk hH dX2_fewestHandings_113 (by unfold sp_fh; rw [he_]; simp only; rw [if_neg (by omega)])
      · refine r_il F hl 4 rfl dX2_fewestHandings_23 ?_
        refine r_il F hl 5 rfl dX2_fewestHandings_25 ?_
        refine r_ic F 1 dX2_fewestHandings_27 rfl ?_
        refine r_add F dX2_fewestHandings_28 ?_
        refine r_min F km_X2_70 hl.1 (Nat.le_of_ble_eq_true rfl) (Nat.le_of_ble_eq_true rfl) ⟨Nat.le_of_ble_eq_true rfl, Nat.le_of_ble_eq_true rfl⟩ (by omega) dX2_fewestHandings_29 ?_
        refine r_is (lv' := [(0, .ref (q 0)), (1, .int (iI ((i : Nat) : Int))), (2, .int (iI ((j : Nat) : Int))), (3, .int (iI ((16 : Nat) : Int))), (4, .int (iI ((x : Nat) : Int))), (5, .int (iI ((y : Nat) : Int))), (6, .int (iI ((k : Nat) : Int))), (7, .int (iI (min (((x : Nat) : Int)) ((((y + 1) : Nat) : Int)))))]) F hl dX2_fewestHandings_32 (by decide) [1, 2, 3, 4, 5, 6, 7, 0] rfl (fun ls hl => ?_)
        have hl : lv_has ls 9 [(0, .ref (q 0)), (1, .int (iI ((i : Nat) : Int))), (2, .int (iI ((j : Nat) : Int))), (3, .int (iI ((16 : Nat) : Int))), (4, .int (iI ((x : Nat) : Int))), (5, .int (iI ((y : Nat) : Int))), (6, .int (iI ((k : Nat) : Int))), (7, .int (iI (((min x (y + 1)) : Nat) : Int)))] := by
          rw [show min (((x : Nat) : Int)) ((((y + 1) : Nat) : Int)) = (((min x (y + 1)) : Nat) : Int) from by omega] at hl
          exact hl
        refine r_il F hl 5 rfl dX2_fewestHandings_34 ?_
        refine r_il F hl 4 rfl dX2_fewestHandings_36 ?_
        refine r_ic F 1 dX2_fewestHandings_38 rfl ?_
        refine r_add F dX2_fewestHandings_39 ?_
        refine r_min F km_X2_70 hl.1 (Nat.le_of_ble_eq_true rfl) (Nat.le_of_ble_eq_true rfl) ⟨Nat.le_of_ble_eq_true rfl, Nat.le_of_ble_eq_true rfl⟩ (by omega) dX2_fewestHandings_40 ?_
        refine r_is (lv' := [(0, .ref (q 0)), (1, .int (iI ((i : Nat) : Int))), (2, .int (iI ((j : Nat) : Int))), (3, .int (iI ((16 : Nat) : Int))), (4, .int (iI ((x : Nat) : Int))), (5, .int (iI ((y : Nat) : Int))), (6, .int (iI ((k : Nat) : Int))), (7, .int (iI (((min x (y + 1)) : Nat) : Int))), (8, .int (iI (min (((y : Nat) : Int)) ((((x + 1) : Nat) : Int)))))]) F hl dX2_fewestHandings_43 (by decide) [1, 2, 3, 4, 5, 6, 7, 8, 0] rfl (fun ls hl => ?_)
        have hl : lv_has ls 9 [(0, .ref (q 0)), (1, .int (iI ((i : Nat) : Int))), (2, .int (iI ((j : Nat) : Int))), (3, .int (iI ((16 : Nat) : Int))), (4, .int (iI ((x : Nat) : Int))), (5, .int (iI ((y : Nat) : Int))), (6, .int (iI ((k : Nat) : Int))), (7, .int (iI (((min x (y + 1)) : Nat) : Int))), (8, .int (iI (((min y (x + 1)) : Nat) : Int)))] := by
          rw [show min (((y : Nat) : Int)) ((((x + 1) : Nat) : Int)) = (((min y (x + 1)) : Nat) : Int) from by omega] at hl
          exact hl
        refine r_aln F hl 0 rfl dX2_fewestHandings_45 rfl ?_
        refine r_iln F hl 1 rfl dX2_fewestHandings_46 rfl ?_
        refine r_ic F 0 dX2_fewestHandings_47 rfl ?_
        refine r_iln F hl 2 rfl dX2_fewestHandings_48 rfl ?_
        refine r_il F hl 6 rfl dX2_fewestHandings_49 ?_
        refine r_cq (r := (iI ((Bool.toNat (cSk (T 1) (T 4) (i) (0) (j) (k)) : Nat) : Int))) F P (k_X2_hasSkillFor l D cI cB (q) (T) (i) (0) (j) (k) (by omega) hT) gw_X2_76 [0, 1, 2, 3, 4, 5] rfl rfl rfl ⟨⟨rfl, rfl⟩, Nat.le_of_ble_eq_true rfl, Nat.le_of_ble_eq_true rfl⟩ ⟨Nat.le_of_ble_eq_true rfl, Nat.le_of_ble_eq_true rfl⟩ hl.1 rfl [] rfl (Nat.le_of_ble_eq_true rfl) dX2_fewestHandings_51 ?_
        refine r_zeqb 62 F dX2_fewestHandings_54 (by decide) (fun c_7 => ?_) (fun c_7 => ?_)
        · refine r_iln F hl 3 rfl dX2_fewestHandings_62 rfl ?_
          refine r_is (lv' := [(0, .ref (q 0)), (1, .int (iI ((i : Nat) : Int))), (2, .int (iI ((j : Nat) : Int))), (3, .int (iI ((16 : Nat) : Int))), (4, .int (iI ((16 : Nat) : Int))), (5, .int (iI ((y : Nat) : Int))), (6, .int (iI ((k : Nat) : Int))), (7, .int (iI (((min x (y + 1)) : Nat) : Int))), (8, .int (iI (((min y (x + 1)) : Nat) : Int)))]) F hl dX2_fewestHandings_63 (by decide) [1, 2, 3, 4, 0, 5, 6, 7, 8] rfl (fun ls hl => ?_)
          refine r_aln F hl 0 rfl dX2_fewestHandings_65 rfl ?_
          refine r_iln F hl 1 rfl dX2_fewestHandings_66 rfl ?_
          refine r_ic F 1 dX2_fewestHandings_67 rfl ?_
          refine r_iln F hl 2 rfl dX2_fewestHandings_68 rfl ?_
          refine r_il F hl 6 rfl dX2_fewestHandings_69 ?_
          refine r_cq (r := (iI ((Bool.toNat (cSk (T 1) (T 4) (i) (1) (j) (k)) : Nat) : Int))) F P (k_X2_hasSkillFor l D cI cB (q) (T) (i) (1) (j) (k) (by omega) hT) gw_X2_76 [0, 1, 2, 3, 4, 5] rfl rfl rfl ⟨⟨rfl, rfl⟩, Nat.le_of_ble_eq_true rfl, Nat.le_of_ble_eq_true rfl⟩ ⟨Nat.le_of_ble_eq_true rfl, Nat.le_of_ble_eq_true rfl⟩ hl.1 rfl [] rfl (Nat.le_of_ble_eq_true rfl) dX2_fewestHandings_71 ?_
          refine r_zeqb 82 F dX2_fewestHandings_74 (by decide) (fun c_8 => ?_) (fun c_8 => ?_)
          · refine r_iln F hl 3 rfl dX2_fewestHandings_82 rfl ?_
            refine r_is (lv' := [(0, .ref (q 0)), (1, .int (iI ((i : Nat) : Int))), (2, .int (iI ((j : Nat) : Int))), (3, .int (iI ((16 : Nat) : Int))), (4, .int (iI ((16 : Nat) : Int))), (5, .int (iI ((16 : Nat) : Int))), (6, .int (iI ((k : Nat) : Int))), (7, .int (iI (((min x (y + 1)) : Nat) : Int))), (8, .int (iI (((min y (x + 1)) : Nat) : Int)))]) F hl dX2_fewestHandings_83 (by decide) [1, 2, 3, 4, 5, 0, 6, 7, 8] rfl (fun ls hl => ?_)
            refine r_inc (lv' := [(0, .ref (q 0)), (1, .int (iI ((i : Nat) : Int))), (2, .int (iI ((j : Nat) : Int))), (3, .int (iI ((16 : Nat) : Int))), (4, .int (iI ((16 : Nat) : Int))), (5, .int (iI ((16 : Nat) : Int))), (6, .int (iI (((k + 1) : Nat) : Int))), (7, .int (iI (((min x (y + 1)) : Nat) : Int))), (8, .int (iI (((min y (x + 1)) : Nat) : Int)))]) F hl 6 rfl dX2_fewestHandings_85 1 rfl (by decide) [1, 2, 3, 4, 5, 6, 0, 7, 8] rfl (fun ls hl => ?_)
            refine r_goto 12 F dX2_fewestHandings_88 (by decide) ?_
            exact ih_2 (16) (16) ((k + 1)) ls (by omega) (by have h_ := hI; rw [lpR_step (by omega)] at h_; refine Eq.trans ?_ h_; first | rfl | (simp only [fhB, c_5, (Nat.not_le.mpr c_5), c_7, c_8, if_true, if_false, Bool.and_true, Bool.true_and, Bool.and_false, Bool.false_and, Bool.and_self, Bool.false_eq_true, ↓reduceIte, decide_true, decide_false, Int.toNat_natCast, Bool.toNat_true, Bool.toNat_false, true_and, and_true, false_and, and_false, not_true_eq_false, not_false_eq_true, true_or, or_true, false_or, or_false]; done) | (simp [fhB, c_5, (Nat.not_le.mpr c_5), c_7, c_8]; done)) (by omega) (by omega) (lv_sub hl [0, 1, 2, 3, 4, 5, 6] rfl)
          · refine r_il F hl 8 rfl dX2_fewestHandings_77 ?_
            refine r_goto 83 F dX2_fewestHandings_79 (by decide) ?_
            refine r_is (lv' := [(0, .ref (q 0)), (1, .int (iI ((i : Nat) : Int))), (2, .int (iI ((j : Nat) : Int))), (3, .int (iI ((16 : Nat) : Int))), (4, .int (iI ((16 : Nat) : Int))), (5, .int (iI (((min y (x + 1)) : Nat) : Int))), (6, .int (iI ((k : Nat) : Int))), (7, .int (iI (((min x (y + 1)) : Nat) : Int))), (8, .int (iI (((min y (x + 1)) : Nat) : Int)))]) F hl dX2_fewestHandings_83 (by decide) [1, 2, 3, 4, 5, 0, 6, 7, 8] rfl (fun ls hl => ?_)
            refine r_inc (lv' := [(0, .ref (q 0)), (1, .int (iI ((i : Nat) : Int))), (2, .int (iI ((j : Nat) : Int))), (3, .int (iI ((16 : Nat) : Int))), (4, .int (iI ((16 : Nat) : Int))), (5, .int (iI (((min y (x + 1)) : Nat) : Int))), (6, .int (iI (((k + 1) : Nat) : Int))), (7, .int (iI (((min x (y + 1)) : Nat) : Int))), (8, .int (iI (((min y (x + 1)) : Nat) : Int)))]) F hl 6 rfl dX2_fewestHandings_85 1 rfl (by decide) [1, 2, 3, 4, 5, 6, 0, 7, 8] rfl (fun ls hl => ?_)
            refine r_goto 12 F dX2_fewestHandings_88 (by decide) ?_
            exact ih_2 (16) ((min y (x + 1))) ((k + 1)) ls (by omega) (by have h_ := hI; rw [lpR_step (by omega)] at h_; refine Eq.trans ?_ h_; first | rfl | (simp only [fhB, c_5, (Nat.not_le.mpr c_5), c_7, c_8, if_true, if_false, Bool.and_true, Bool.true_and, Bool.and_false, Bool.false_and, Bool.and_self, Bool.false_eq_true, ↓reduceIte, decide_true, decide_false, Int.toNat_natCast, Bool.toNat_true, Bool.toNat_false, true_and, and_true, false_and, and_false, not_true_eq_false, not_false_eq_true, true_or, or_true, false_or, or_false]; done) | (simp [fhB, c_5, (Nat.not_le.mpr c_5), c_7, c_8]; done)) (by omega) (by omega) (lv_sub hl [0, 1, 2, 3, 4, 5, 6] rfl)
        · refine r_il F hl 7 rfl dX2_fewestHandings_57 ?_
          refine r_goto 63 F dX2_fewestHandings_59 (by decide) ?_
          refine r_is (lv' := [(0, .ref (q 0)), (1, .int (iI ((i : Nat) : Int))), (2, .int (iI ((j : Nat) : Int))), (3, .int (iI ((16 : Nat) : Int))), (4, .int (iI (((min x (y + 1)) : Nat) : Int))), (5, .int (iI ((y : Nat) : Int))), (6, .int (iI ((k : Nat) : Int))), (7, .int (iI (((min x (y + 1)) : Nat) : Int))), (8, .int (iI (((min y (x + 1)) : Nat) : Int)))]) F hl dX2_fewestHandings_63 (by decide) [1, 2, 3, 4, 0, 5, 6, 7, 8] rfl (fun ls hl => ?_)
          refine r_aln F hl 0 rfl dX2_fewestHandings_65 rfl ?_
          refine r_iln F hl 1 rfl dX2_fewestHandings_66 rfl ?_
          refine r_ic F 1 dX2_fewestHandings_67 rfl ?_
          refine r_iln F hl 2 rfl dX2_fewestHandings_68 rfl ?_
          refine r_il F hl 6 rfl dX2_fewestHandings_69 ?_
          refine r_cq (r := (iI ((Bool.toNat (cSk (T 1) (T 4) (i) (1) (j) (k)) : Nat) : Int))) F P (k_X2_hasSkillFor l D cI cB (q) (T) (i) (1) (j) (k) (by omega) hT) gw_X2_76 [0, 1, 2, 3, 4, 5] rfl rfl rfl ⟨⟨rfl, rfl⟩, Nat.le_of_ble_eq_true rfl, Nat.le_of_ble_eq_true rfl⟩ ⟨Nat.le_of_ble_eq_true rfl, Nat.le_of_ble_eq_true rfl⟩ hl.1 rfl [] rfl (Nat.le_of_ble_eq_true rfl) dX2_fewestHandings_71 ?_
          refine r_zeqb 82 F dX2_fewestHandings_74 (by decide) (fun c_9 => ?_) (fun c_9 => ?_)
          · refine r_iln F hl 3 rfl dX2_fewestHandings_82 rfl ?_
            refine r_is (lv' := [(0, .ref (q 0)), (1, .int (iI ((i : Nat) : Int))), (2, .int (iI ((j : Nat) : Int))), (3, .int (iI ((16 : Nat) : Int))), (4, .int (iI (((min x (y + 1)) : Nat) : Int))), (5, .int (iI ((16 : Nat) : Int))), (6, .int (iI ((k : Nat) : Int))), (7, .int (iI (((min x (y + 1)) : Nat) : Int))), (8, .int (iI (((min y (x + 1)) : Nat) : Int)))]) F hl dX2_fewestHandings_83 (by decide) [1, 2, 3, 4, 5, 0, 6, 7, 8] rfl (fun ls hl => ?_)
            refine r_inc (lv' := [(0, .ref (q 0)), (1, .int (iI ((i : Nat) : Int))), (2, .int (iI ((j : Nat) : Int))), (3, .int (iI ((16 : Nat) : Int))), (4, .int (iI (((min x (y + 1)) : Nat) : Int))), (5, .int (iI ((16 : Nat) : Int))), (6, .int (iI (((k + 1) : Nat) : Int))), (7, .int (iI (((min x (y + 1)) : Nat) : Int))), (8, .int (iI (((min y (x + 1)) : Nat) : Int)))]) F hl 6 rfl dX2_fewestHandings_85 1 rfl (by decide) [1, 2, 3, 4, 5, 6, 0, 7, 8] rfl (fun ls hl => ?_)
            refine r_goto 12 F dX2_fewestHandings_88 (by decide) ?_
            exact ih_2 ((min x (y + 1))) (16) ((k + 1)) ls (by omega) (by have h_ := hI; rw [lpR_step (by omega)] at h_; refine Eq.trans ?_ h_; first | rfl | (simp only [fhB, c_5, (Nat.not_le.mpr c_5), c_7, c_9, if_true, if_false, Bool.and_true, Bool.true_and, Bool.and_false, Bool.false_and, Bool.and_self, Bool.false_eq_true, ↓reduceIte, decide_true, decide_false, Int.toNat_natCast, Bool.toNat_true, Bool.toNat_false, true_and, and_true, false_and, and_false, not_true_eq_false, not_false_eq_true, true_or, or_true, false_or, or_false]; done) | (simp [fhB, c_5, (Nat.not_le.mpr c_5), c_7, c_9]; done)) (by omega) (by omega) (lv_sub hl [0, 1, 2, 3, 4, 5, 6] rfl)
          · refine r_il F hl 8 rfl dX2_fewestHandings_77 ?_
            refine r_goto 83 F dX2_fewestHandings_79 (by decide) ?_
            refine r_is (lv' := [(0, .ref (q 0)), (1, .int (iI ((i : Nat) : Int))), (2, .int (iI ((j : Nat) : Int))), (3, .int (iI ((16 : Nat) : Int))), (4, .int (iI (((min x (y + 1)) : Nat) : Int))), (5, .int (iI (((min y (x + 1)) : Nat) : Int))), (6, .int (iI ((k : Nat) : Int))), (7, .int (iI (((min x (y + 1)) : Nat) : Int))), (8, .int (iI (((min y (x + 1)) : Nat) : Int)))]) F hl dX2_fewestHandings_83 (by decide) [1, 2, 3, 4, 5, 0, 6, 7, 8] rfl (fun ls hl => ?_)
            refine r_inc (lv' := [(0, .ref (q 0)), (1, .int (iI ((i : Nat) : Int))), (2, .int (iI ((j : Nat) : Int))), (3, .int (iI ((16 : Nat) : Int))), (4, .int (iI (((min x (y + 1)) : Nat) : Int))), (5, .int (iI (((min y (x + 1)) : Nat) : Int))), (6, .int (iI (((k + 1) : Nat) : Int))), (7, .int (iI (((min x (y + 1)) : Nat) : Int))), (8, .int (iI (((min y (x + 1)) : Nat) : Int)))]) F hl 6 rfl dX2_fewestHandings_85 1 rfl (by decide) [1, 2, 3, 4, 5, 6, 0, 7, 8] rfl (fun ls hl => ?_)
            refine r_goto 12 F dX2_fewestHandings_88 (by decide) ?_
            exact ih_2 ((min x (y + 1))) ((min y (x + 1))) ((k + 1)) ls (by omega) (by have h_ := hI; rw [lpR_step (by omega)] at h_; refine Eq.trans ?_ h_; first | rfl | (simp only [fhB, c_5, (Nat.not_le.mpr c_5), c_7, c_9, if_true, if_false, Bool.and_true, Bool.true_and, Bool.and_false, Bool.false_and, Bool.and_self, Bool.false_eq_true, ↓reduceIte, decide_true, decide_false, Int.toNat_natCast, Bool.toNat_true, Bool.toNat_false, true_and, and_true, false_and, and_false, not_true_eq_false, not_false_eq_true, true_or, or_true, false_or, or_false]; done) | (simp [fhB, c_5, (Nat.not_le.mpr c_5), c_7, c_9]; done)) (by omega) (by omega) (lv_sub hl [0, 1, 2, 3, 4, 5, 6] rfl)
  exact lp_1 _ (0) (0) (0) ls (Nat.lt_succ_self _) rfl (by omega) (by omega) hl
abbrev rm_X2_share : Room := { frames := 0, cells := 0, slots := 0, locals := 0 }
set_option maxHeartbeats 4000000 in
set_option maxRecDepth 100000 in
theorem k_X2_share (l : Launch) (D : va_G) (cI cB : ClassId) (q : Nat → Nat) (T : St) (x y d : Nat) (hx : x < 10 ∧ y < 10 ∧ d < 2) (hT : Tok T) : CtQ l yX2_share cX2_share 6 (some .int) rm_X2_share D cI cB [.ref (q 0), .int (iI ((x : Nat) : Int)), .int (iI ((y : Nat) : Int)), .int (iI ((d : Nat) : Int))] (wT q cI T) ((iI ((sp_holds (T 11 0) (T 12 0) (T 13 0) x y d : Nat) : Int))) := by
  obtain ⟨hTs, hT1, hT2, hT4, hT5, hT8⟩ := id hT
  refine CtQ.of RX2 (by decide) rfl (Nat.le_of_ble_eq_true rfl) ?_
  intro p e s m args below meth c H ls hH F hr hlk P hl
  have hl : lv_has ls 6 [(0, .ref (q 0)), (1, .int (iI ((x : Nat) : Int))), (2, .int (iI ((y : Nat) : Int))), (3, .int (iI ((d : Nat) : Int)))] := hl
  refine r_aln F hl 0 rfl dX2_share_0 rfl ?_
  refine gf_X2_49 F P 0 rfl (.int (iI ((T 11 0 : Nat) : Int))) rfl dX2_share_1 ?_
  refine r_iln F hl 1 rfl dX2_share_4 rfl ?_
  refine r_subz F dX2_share_5 ?_
  refine r_iln F hl 2 rfl dX2_share_6 rfl ?_
  refine r_subz F dX2_share_7 ?_
  refine r_is (lv' := [(0, .ref (q 0)), (1, .int (iI ((x : Nat) : Int))), (2, .int (iI ((y : Nat) : Int))), (3, .int (iI ((d : Nat) : Int))), (4, .int (iI (((((T 11 0 : Nat) : Int) - ((x : Nat) : Int)) - ((y : Nat) : Int)))))]) F hl dX2_share_8 (by decide) [1, 2, 3, 4, 0] rfl (fun ls hl => ?_)
  refine r_il F hl 4 rfl dX2_share_10 ?_
  refine r_zgez (a := ((((T 11 0 : Nat) : Int) - ((x : Nat) : Int)) - ((y : Nat) : Int))) 17 F dX2_share_12 (by decide) (by omega) (fun c_1 => ?_) (fun c_1 => ?_)
  · have hl : lv_has ls 6 [(0, .ref (q 0)), (1, .int (iI ((x : Nat) : Int))), (2, .int (iI ((y : Nat) : Int))), (3, .int (iI ((d : Nat) : Int))), (4, .int (iI (((T 11 0 - x - y) : Nat) : Int)))] := by
      rw [show ((((T 11 0 : Nat) : Int) - ((x : Nat) : Int)) - ((y : Nat) : Int)) = (((T 11 0 - x - y) : Nat) : Int) from by omega] at hl
      exact hl
    have hq_ : ¬ T 11 0 < x + y := by omega
    refine r_iln F hl 3 rfl dX2_share_17 rfl ?_
    refine r_zne 30 F dX2_share_18 (by decide) (by omega) (fun c_2 => ?_) (fun c_2 => ?_)
    · have hm_ : y * T 13 0 ≤ 9 * 9 := Nat.mul_le_mul (by omega) (by omega)
      refine r_iln F hl 2 rfl dX2_share_30 rfl ?_
      refine r_aln F hl 0 rfl dX2_share_31 rfl ?_
      refine gf_X2_55 F P 0 rfl (.int (iI ((T 13 0 : Nat) : Int))) rfl dX2_share_32 ?_
      refine r_mul F dX2_share_35 ?_
      refine r_is (lv' := [(0, .ref (q 0)), (1, .int (iI ((x : Nat) : Int))), (2, .int (iI ((y : Nat) : Int))), (3, .int (iI ((d : Nat) : Int))), (4, .int (iI (((T 11 0 - x - y) : Nat) : Int))), (5, .int (iI (((y * T 13 0) : Nat) : Int)))]) F hl dX2_share_36 (by decide) [1, 2, 3, 4, 5, 0] rfl (fun ls hl => ?_)
      refine r_il F hl 5 rfl dX2_share_38 ?_
      refine r_il F hl 4 rfl dX2_share_40 ?_
      refine r_ic F 2 dX2_share_42 rfl ?_
      refine r_div F dX2_share_43 (by omega) ?_
      refine r_add F dX2_share_44 ?_
      exact r_retQ F hr hlk hH dX2_share_45 (by simp [sp_holds, hq_, c_1, (Int.not_lt.mp c_1), c_2])
    · have hm_ : x * T 12 0 ≤ 9 * 9 := Nat.mul_le_mul (by omega) (by omega)
      refine r_iln F hl 1 rfl dX2_share_21 rfl ?_
      refine r_aln F hl 0 rfl dX2_share_22 rfl ?_
      refine gf_X2_52 F P 0 rfl (.int (iI ((T 12 0 : Nat) : Int))) rfl dX2_share_23 ?_
      refine r_mul F dX2_share_26 ?_
      refine r_goto 36 F dX2_share_27 (by decide) ?_
      refine r_is (lv' := [(0, .ref (q 0)), (1, .int (iI ((x : Nat) : Int))), (2, .int (iI ((y : Nat) : Int))), (3, .int (iI ((d : Nat) : Int))), (4, .int (iI (((T 11 0 - x - y) : Nat) : Int))), (5, .int (iI (((x * T 12 0) : Nat) : Int)))]) F hl dX2_share_36 (by decide) [1, 2, 3, 4, 5, 0] rfl (fun ls hl => ?_)
      refine r_il F hl 5 rfl dX2_share_38 ?_
      refine r_il F hl 4 rfl dX2_share_40 ?_
      refine r_ic F 2 dX2_share_42 rfl ?_
      refine r_div F dX2_share_43 (by omega) ?_
      refine r_add F dX2_share_44 ?_
      exact r_retQ F hr hlk hH dX2_share_45 (by simp [sp_holds, hq_, c_1, (Int.not_lt.mp c_1), c_2])
  · have hq_ : T 11 0 < x + y := by omega
    refine r_ic F 0 dX2_share_15 rfl ?_
    exact r_retQ F hr hlk hH dX2_share_16 (by simp [sp_holds, hq_, c_1, (Int.not_le.mpr c_1)])
abbrev rm_X2_campOf : Room := { frames := 0, cells := 0, slots := 0, locals := 0 }
set_option maxHeartbeats 4000000 in
set_option maxRecDepth 100000 in
theorem k_X2_campOf (l : Launch) (D : va_G) (cI cB : ClassId) (x way : Nat) (hx : x < 16 ∧ way < 65536) : CtQ l yX2_campOf cX2_campOf 3 (some .int) rm_X2_campOf D cI cB [.int (iI ((x : Nat) : Int)), .int (iI ((way : Nat) : Int))] ([]) ((iI ((cmpO x way : Nat) : Int))) := by
  refine CtQ.of RX2 (by decide) rfl (Nat.le_of_ble_eq_true rfl) ?_
  intro p e s m args below meth c H ls hH F hr hlk P hl
  have hl : lv_has ls 3 [(0, .int (iI ((x : Nat) : Int))), (1, .int (iI ((way : Nat) : Int)))] := hl
  refine r_iln F hl 1 rfl dX2_campOf_0 rfl ?_
  refine r_iln F hl 0 rfl dX2_campOf_1 rfl ?_
  refine r_ic F 1 dX2_campOf_2 rfl ?_
  refine r_shr F dX2_campOf_3 ⟨by omega, by omega⟩ ?_
  have b_1 : (x / 2 ^ 1) ≤ x := Nat.div_le_self _ _
  have hq_ : x / 2 ^ 1 ≤ x := Nat.div_le_self _ _
  refine r_shr F dX2_campOf_4 ⟨by omega, by omega⟩ ?_
  have b_2 : (way / 2 ^ (x / 2 ^ 1)) ≤ way := Nat.div_le_self _ _
  refine r_ic F 1 dX2_campOf_5 rfl ?_
  refine r_and F dX2_campOf_6 ?_
  have b_3 : ((way / 2 ^ (x / 2 ^ 1)) &&& 1) ≤ 1 := Nat.and_le_right
  refine r_isn (lv' := [(0, .int (iI ((x : Nat) : Int))), (1, .int (iI ((way : Nat) : Int))), (2, .int (iI ((((way / 2 ^ (x / 2 ^ 1)) &&& 1) : Nat) : Int)))]) F hl dX2_campOf_7 rfl (by decide) [1, 2, 0] rfl (fun ls hl => ?_)
  refine r_iln F hl 2 rfl dX2_campOf_8 rfl ?_
  refine r_iln F hl 0 rfl dX2_campOf_9 rfl ?_
  refine r_ic F 1 dX2_campOf_10 rfl ?_
  refine r_and F dX2_campOf_11 ?_
  have b_4 : (x &&& 1) ≤ 1 := Nat.and_le_right
  refine r_xor F dX2_campOf_12 ?_
  have b_5 : (((way / 2 ^ (x / 2 ^ 1)) &&& 1) ^^^ (x &&& 1)) < 65536 := xor16 (by omega) (by omega)
  exact r_retQ F hr hlk hH dX2_campOf_13 (by first | rfl | (simp only [cmpO, if_true, if_false, Bool.and_true, Bool.true_and, Bool.and_false, Bool.false_and, Bool.and_self, Bool.false_eq_true, ↓reduceIte, decide_true, decide_false, Int.toNat_natCast, Bool.toNat_true, Bool.toNat_false, true_and, and_true, false_and, and_false, not_true_eq_false, not_false_eq_true, true_or, or_true, false_or, or_false]; first | done | rfl | (simp only [if_true, if_true, if_false, Bool.and_true, Bool.true_and, Bool.and_false, Bool.false_and, Bool.and_self, Bool.false_eq_true, ↓reduceIte, decide_true, decide_false, Int.toNat_natCast, Bool.toNat_true, Bool.toNat_false, true_and, and_true, false_and, and_false, not_true_eq_false, not_false_eq_true, true_or, or_true, false_or, or_false]; first | done | rfl) | (simp only [if_true]; first | done | rfl) | (simp [if_true]; done) | (simp [if_true]; first | rfl | omega)) | (simp [cmpO]; done) | (simp [cmpO]; omega) | (simp only [cmpO, if_true, if_false, Bool.and_true, Bool.true_and, Bool.and_false, Bool.false_and, Bool.and_self, Bool.false_eq_true, ↓reduceIte, decide_true, decide_false, Int.toNat_natCast, Bool.toNat_true, Bool.toNat_false, true_and, and_true, false_and, and_false, not_true_eq_false, not_false_eq_true, true_or, or_true, false_or, or_false]; try simp only [if_true, if_true, if_false, Bool.and_true, Bool.true_and, Bool.and_false, Bool.false_and, Bool.and_self, Bool.false_eq_true, ↓reduceIte, decide_true, decide_false, Int.toNat_natCast, Bool.toNat_true, Bool.toNat_false, true_and, and_true, false_and, and_false, not_true_eq_false, not_false_eq_true, true_or, or_true, false_or, or_false]; rfl))
abbrev rm_X2_partings : Room := { frames := 1, cells := 0, slots := 0, locals := 22 }
set_option maxHeartbeats 4000000 in
set_option maxRecDepth 100000 in
theorem k_X2_partings (l : Launch) (D : va_G) (cI cB : ClassId) (q : Nat → Nat) (T : St) (way : Nat) (hw : way < 65536) (hT : Tok T) : CtQ l yX2_partings cX2_partings 4 (some .int) rm_X2_partings D cI cB [.ref (q 0), .int (iI ((way : Nat) : Int))] (wT q cI T) ((iI ((sp_pg (T 8) (T 7 0) way : Nat) : Int))) := by
  obtain ⟨hTs, hT1, hT2, hT4, hT5, hT8⟩ := id hT
  refine CtQ.of RX2 (by decide) rfl (Nat.le_of_ble_eq_true rfl) ?_
  intro p e s m args below meth c H ls hH F hr hlk P hl
  have hl : lv_has ls 4 [(0, .ref (q 0)), (1, .int (iI ((way : Nat) : Int)))] := hl
  refine r_ic F 0 dX2_partings_0 rfl ?_
  refine r_isn (lv' := [(0, .ref (q 0)), (1, .int (iI ((way : Nat) : Int))), (2, .int (iI ((0 : Nat) : Int)))]) F hl dX2_partings_1 rfl (by decide) [1, 2, 0] rfl (fun ls hl => ?_)
  refine r_ic F 0 dX2_partings_2 rfl ?_
  refine r_isn (lv' := [(0, .ref (q 0)), (1, .int (iI ((way : Nat) : Int))), (2, .int (iI ((0 : Nat) : Int))), (3, .int (iI ((0 : Nat) : Int)))]) F hl dX2_partings_3 rfl (by decide) [1, 2, 3, 0] rfl (fun ls hl => ?_)
  have lp_1 : ∀ (nn_ : Nat) (y : Nat) (k : Nat) (ls : Array Slot), T 7 0 - k < nn_ → (lpR (pgB (T 8) way) (T 7 0) k y = sp_pg (T 8) (T 7 0) way) → (y ≤ k) → (k ≤ T 7 0) → lv_has ls 4 [(0, .ref (q 0)), (1, .int (iI ((way : Nat) : Int))), (2, .int (iI ((y : Nat) : Int))), (3, .int (iI ((k : Nat) : Int)))] → W p l e rm_X2_partings s m args below meth c H [] 0 0 (Qq below args s ((iI ((sp_pg (T 8) (T 7 0) way : Nat) : Int)))) (F0 m 4 ls []) := by
    intro nn_
    induction nn_ with
    | zero => intro y k ls hlt; exact absurd hlt (Nat.not_lt_zero _)
    | succ nn_ ih =>
      have ih_2 := ih; clear ih
      intro y k ls hlt hI hy hk hl
      have hlt_3 := hlt
      refine r_iln F hl 3 rfl dX2_partings_4 rfl ?_
      refine r_aln F hl 0 rfl dX2_partings_5 rfl ?_
      refine gf_X2_40 F P 0 rfl (.int (iI ((T 7 0 : Nat) : Int))) rfl dX2_partings_6 ?_
      refine r_cge 50 F dX2_partings_9 (by decide) (by omega) (fun c_4 => ?_) (fun c_4 => ?_)
      · refine r_iln F hl 2 rfl dX2_partings_50 rfl ?_
        exact r_retQ F hr hlk hH dX2_partings_51 (by rw [← hI, lpR_end (by omega)])
      · refine r_aln F hl 0 rfl dX2_partings_12 rfl ?_
        refine gf_X2_24 F P 0 rfl (.ref (q 9)) rfl dX2_partings_13 ?_
        refine r_ic F 2 dX2_partings_16 rfl ?_
        refine r_iln F hl 3 rfl dX2_partings_17 rfl ?_
        refine r_mul F dX2_partings_18 ?_
        refine r_ald (f := T 8) F P 5 rfl dX2_partings_19 (by decide) (by omega) ?_
        have b_5 : T 8 ((2 * k)) < 16 := hT8 ((2 * k))
        refine r_iln F hl 1 rfl dX2_partings_20 rfl ?_
        refine r_sq (r := (iI ((cmpO (T 8 ((2 * k))) (way) : Nat) : Int))) F P (k_X2_campOf l D cI cB (T 8 ((2 * k))) (way) (by omega)) gw_X2_80 [] rfl ⟨⟨rfl, rfl⟩, Nat.le_of_ble_eq_true rfl, Nat.le_of_ble_eq_true rfl⟩ ⟨Nat.le_of_ble_eq_true rfl, Nat.le_of_ble_eq_true rfl⟩ hl.1 rfl [] rfl (Nat.le_of_ble_eq_true rfl) dX2_partings_21 ?_
        have hq_ := @cmpO_lt (T 8 ((2 * k))) (way)
        refine r_aln F hl 0 rfl dX2_partings_24 rfl ?_
        refine gf_X2_24 F P 0 rfl (.ref (q 9)) rfl dX2_partings_25 ?_
        refine r_ic F 2 dX2_partings_28 rfl ?_
        refine r_iln F hl 3 rfl dX2_partings_29 rfl ?_
        refine r_mul F dX2_partings_30 ?_
        refine r_ic F 1 dX2_partings_31 rfl ?_
        refine r_add F dX2_partings_32 ?_
        refine r_ald (f := T 8) F P 5 rfl dX2_partings_33 (by decide) (by omega) ?_
        have b_6 : T 8 (((2 * k) + 1)) < 16 := hT8 (((2 * k) + 1))
        refine r_iln F hl 1 rfl dX2_partings_34 rfl ?_
        refine r_sq (r := (iI ((cmpO (T 8 (((2 * k) + 1))) (way) : Nat) : Int))) F P (k_X2_campOf l D cI cB (T 8 (((2 * k) + 1))) (way) (by omega)) gw_X2_80 [] rfl ⟨⟨rfl, rfl⟩, Nat.le_of_ble_eq_true rfl, Nat.le_of_ble_eq_true rfl⟩ ⟨Nat.le_of_ble_eq_true rfl, Nat.le_of_ble_eq_true rfl⟩ hl.1 rfl [.int (iI ((cmpO (T 8 ((2 * k))) (way) : Nat) : Int))] rfl (Nat.le_of_ble_eq_true rfl) dX2_partings_35 ?_
        have hq_ := @cmpO_lt (T 8 (((2 * k) + 1))) (way)
        refine r_ceq 44 F dX2_partings_38 (by decide) (by omega) (fun c_7 => ?_) (fun c_7 => ?_)
        · refine r_inc (lv' := [(0, .ref (q 0)), (1, .int (iI ((way : Nat) : Int))), (2, .int (iI ((y : Nat) : Int))), (3, .int (iI (((k + 1) : Nat) : Int)))]) F hl 3 rfl dX2_partings_44 1 rfl (by decide) [1, 2, 3, 0] rfl (fun ls hl => ?_)
          refine r_goto 4 F dX2_partings_47 (by decide) ?_
          exact ih_2 (y) ((k + 1)) ls (by omega) (by have h_ := hI; rw [lpR_step (by omega)] at h_; refine Eq.trans ?_ h_; first | rfl | (simp only [pgB, c_4, (Nat.not_le.mpr c_4), c_7, if_true, if_false, Bool.and_true, Bool.true_and, Bool.and_false, Bool.false_and, Bool.and_self, Bool.false_eq_true, ↓reduceIte, decide_true, decide_false, Int.toNat_natCast, Bool.toNat_true, Bool.toNat_false, true_and, and_true, false_and, and_false, not_true_eq_false, not_false_eq_true, true_or, or_true, false_or, or_false]; done) | (simp [pgB, c_4, (Nat.not_le.mpr c_4), c_7]; done)) (by omega) (by omega) hl
        · refine r_inc (lv' := [(0, .ref (q 0)), (1, .int (iI ((way : Nat) : Int))), (2, .int (iI (((y + 1) : Nat) : Int))), (3, .int (iI ((k : Nat) : Int)))]) F hl 2 rfl dX2_partings_41 1 rfl (by decide) [1, 2, 0, 3] rfl (fun ls hl => ?_)
          refine r_inc (lv' := [(0, .ref (q 0)), (1, .int (iI ((way : Nat) : Int))), (2, .int (iI (((y + 1) : Nat) : Int))), (3, .int (iI (((k + 1) : Nat) : Int)))]) F hl 3 rfl dX2_partings_44 1 rfl (by decide) [1, 2, 3, 0] rfl (fun ls hl => ?_)
          refine r_goto 4 F dX2_partings_47 (by decide) ?_
          exact ih_2 ((y + 1)) ((k + 1)) ls (by omega) (by have h_ := hI; rw [lpR_step (by omega)] at h_; refine Eq.trans ?_ h_; first | rfl | (simp only [pgB, c_4, (Nat.not_le.mpr c_4), c_7, if_true, if_false, Bool.and_true, Bool.true_and, Bool.and_false, Bool.false_and, Bool.and_self, Bool.false_eq_true, ↓reduceIte, decide_true, decide_false, Int.toNat_natCast, Bool.toNat_true, Bool.toNat_false, true_and, and_true, false_and, and_false, not_true_eq_false, not_false_eq_true, true_or, or_true, false_or, or_false]; done) | (simp [pgB, c_4, (Nat.not_le.mpr c_4), c_7]; done)) (by omega) (by omega) hl
  exact lp_1 _ (0) (0) ls (Nat.lt_succ_self _) rfl (by omega) (by omega) hl
abbrev rm_X2_personByDraw : Room := { frames := 0, cells := 0, slots := 0, locals := 0 }
set_option maxHeartbeats 4000000 in
set_option maxRecDepth 100000 in
theorem k_X2_personByDraw (l : Launch) (D : va_G) (cI cB : ClassId) (q : Nat → Nat) (T : St) (x : Nat) (hx : x < 65536) (hT : Tok T) : CtQ l yX2_personByDraw cX2_personByDraw 2 (some .int) rm_X2_personByDraw D cI cB [.ref (q 0), .int (iI ((x : Nat) : Int))] (wT q cI T) ((iI ((sp_pd (T 0 0) x : Nat) : Int))) := by
  obtain ⟨hTs, hT1, hT2, hT4, hT5, hT8⟩ := id hT
  refine CtQ.of RX2 (by decide) rfl (Nat.le_of_ble_eq_true rfl) ?_
  intro p e s m args below meth c H ls hH F hr hlk P hl
  have hl : lv_has ls 2 [(0, .ref (q 0)), (1, .int (iI ((x : Nat) : Int)))] := hl
  refine r_aln F hl 0 rfl dX2_personByDraw_0 rfl ?_
  refine gf_X2_30 F P 0 rfl (.int (iI ((T 0 0 : Nat) : Int))) rfl dX2_personByDraw_1 ?_
  refine r_zgt 11 F dX2_personByDraw_4 (by decide) (by omega) (fun c_1 => ?_) (fun c_1 => ?_)
  · refine r_iln F hl 1 rfl dX2_personByDraw_11 rfl ?_
    refine r_bp F 8 dX2_personByDraw_12 rfl ?_
    refine r_div F dX2_personByDraw_14 (by omega) ?_
    refine r_aln F hl 0 rfl dX2_personByDraw_15 rfl ?_
    refine gf_X2_30 F P 0 rfl (.int (iI ((T 0 0 : Nat) : Int))) rfl dX2_personByDraw_16 ?_
    refine r_rem F dX2_personByDraw_19 (by omega) ?_
    exact r_retQ F hr hlk hH dX2_personByDraw_20 (by first | rfl | (simp only [sp_pd, if_true, if_false, Bool.and_true, Bool.true_and, Bool.and_false, Bool.false_and, Bool.and_self, Bool.false_eq_true, ↓reduceIte, decide_true, decide_false, Int.toNat_natCast, Bool.toNat_true, Bool.toNat_false, true_and, and_true, false_and, and_false, not_true_eq_false, not_false_eq_true, true_or, or_true, false_or, or_false]; first | done | rfl | (simp only [c_1, (Nat.not_le.mpr c_1), if_true, if_false, Bool.and_true, Bool.true_and, Bool.and_false, Bool.false_and, Bool.and_self, Bool.false_eq_true, ↓reduceIte, decide_true, decide_false, Int.toNat_natCast, Bool.toNat_true, Bool.toNat_false, true_and, and_true, false_and, and_false, not_true_eq_false, not_false_eq_true, true_or, or_true, false_or, or_false]; first | done | rfl) | (simp only [if_pos c_1, if_neg (Nat.not_le.mpr c_1)]; first | done | rfl) | (simp [c_1, (Nat.not_le.mpr c_1)]; done) | (simp [c_1, (Nat.not_le.mpr c_1)]; first | rfl | omega)) | (simp [sp_pd, c_1, (Nat.not_le.mpr c_1)]; done) | (simp [sp_pd, c_1, (Nat.not_le.mpr c_1)]; omega) | (simp only [sp_pd, if_true, if_false, Bool.and_true, Bool.true_and, Bool.and_false, Bool.false_and, Bool.and_self, Bool.false_eq_true, ↓reduceIte, decide_true, decide_false, Int.toNat_natCast, Bool.toNat_true, Bool.toNat_false, true_and, and_true, false_and, and_false, not_true_eq_false, not_false_eq_true, true_or, or_true, false_or, or_false]; try simp only [c_1, (Nat.not_le.mpr c_1), if_true, if_false, Bool.and_true, Bool.true_and, Bool.and_false, Bool.false_and, Bool.and_self, Bool.false_eq_true, ↓reduceIte, decide_true, decide_false, Int.toNat_natCast, Bool.toNat_true, Bool.toNat_false, true_and, and_true, false_and, and_false, not_true_eq_false, not_false_eq_true, true_or, or_true, false_or, or_false]; rfl))
  · refine r_ic F 0 dX2_personByDraw_7 rfl ?_
    refine r_goto 20 F dX2_personByDraw_8 (by decide) ?_
    exact r_retQ F hr hlk hH dX2_personByDraw_20 (by first | rfl | (simp only [sp_pd, if_true, if_false, Bool.and_true, Bool.true_and, Bool.and_false, Bool.false_and, Bool.and_self, Bool.false_eq_true, ↓reduceIte, decide_true, decide_false, Int.toNat_natCast, Bool.toNat_true, Bool.toNat_false, true_and, and_true, false_and, and_false, not_true_eq_false, not_false_eq_true, true_or, or_true, false_or, or_false]; first | done | rfl | (simp only [c_1, (Nat.not_lt.mp c_1), if_true, if_false, Bool.and_true, Bool.true_and, Bool.and_false, Bool.false_and, Bool.and_self, Bool.false_eq_true, ↓reduceIte, decide_true, decide_false, Int.toNat_natCast, Bool.toNat_true, Bool.toNat_false, true_and, and_true, false_and, and_false, not_true_eq_false, not_false_eq_true, true_or, or_true, false_or, or_false]; first | done | rfl) | (simp only [if_neg c_1, if_pos (Nat.not_lt.mp c_1)]; first | done | rfl) | (simp [c_1, (Nat.not_lt.mp c_1)]; done) | (simp [c_1, (Nat.not_lt.mp c_1)]; first | rfl | omega)) | (simp [sp_pd, c_1, (Nat.not_lt.mp c_1)]; done) | (simp [sp_pd, c_1, (Nat.not_lt.mp c_1)]; omega) | (simp only [sp_pd, if_true, if_false, Bool.and_true, Bool.true_and, Bool.and_false, Bool.false_and, Bool.and_self, Bool.false_eq_true, ↓reduceIte, decide_true, decide_false, Int.toNat_natCast, Bool.toNat_true, Bool.toNat_false, true_and, and_true, false_and, and_false, not_true_eq_false, not_false_eq_true, true_or, or_true, false_or, or_false]; try simp only [c_1, (Nat.not_lt.mp c_1), if_true, if_false, Bool.and_true, Bool.true_and, Bool.and_false, Bool.false_and, Bool.and_self, Bool.false_eq_true, ↓reduceIte, decide_true, decide_false, Int.toNat_natCast, Bool.toNat_true, Bool.toNat_false, true_and, and_true, false_and, and_false, not_true_eq_false, not_false_eq_true, true_or, or_true, false_or, or_false]; rfl))
