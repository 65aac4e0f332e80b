abbrev rm_X4_alike : Room := { frames := 3, cells := 0, slots := 0, locals := 70 }
set_option maxHeartbeats 4000000 in
set_option maxRecDepth 100000 in
theorem k_X4_alike (l : Launch) (D : va_G) (cI cB : ClassId) (q : Nat → Nat) (M : St) (i : Int) (hi : (-2147483648 ≤ i ∧ i < 2147483648)) (hp : 1 ≤ M 2 0 ∧ M 2 0 ≤ 5) (hbk : ∀ k, M 2 k < 256) (hs : ∀ k, M 4 k < 65536) (hs0 : M 4 0 ≤ 9999) (ha : ∀ k, M 5 k < 65536) : CtU l yX4_alike cX4_alike 3 (some .int) rm_X4_alike D cI cB [.ref (q 0), .int (iI (i))] (wM q cI M) (wM q cI (stR M 5 (g_alikeA (M 2) (M 4) (M 5) i))) ((iI (g_alike (M 2) (M 4) (M 5) i))) := by
  refine CtU.of RX4 (by decide) rfl (Nat.le_of_ble_eq_true rfl) ?_
  intro p e s m args below meth c H0 ls A hH hA F hr hlk B hl
  have hl : lv_has ls 3 [(0, .ref (q 0)), (1, .int (iI (i)))] := hl
  refine r_aln F hl 0 rfl dX4_alike_0 rfl ?_
  refine r_iln F hl 1 rfl dX4_alike_1 rfl ?_
  refine r_cq F B.1 (k_X4_isPerson l D cI cB (q) (M) (i) (by omega) hbk) gw_X4_99 [0, 1, 2, 3, 4, 5, 6, 7, 8, 9, 10] rfl rfl rfl ⟨⟨rfl, rfl⟩, Nat.le_of_ble_eq_true rfl, Nat.le_of_ble_eq_true rfl⟩ ⟨Nat.le_of_ble_eq_true rfl, Nat.le_of_ble_eq_true rfl⟩ hl.1 rfl [] rfl (Nat.le_of_ble_eq_true rfl) dX4_alike_2 ?_
  refine r_zneb 10 F dX4_alike_5 (by decide) (fun c_1 => ?_) (fun c_1 => ?_)
  · have c_1d := c_1
    simp only [isIn, isP, decide_eq_true_eq, decide_eq_false_iff_not] at c_1d
    obtain ⟨i_, rfl⟩ : ∃ k : Nat, i = (k : Int) := ⟨i.toNat, by omega⟩
    have hl : lv_has ls 3 [(0, .ref (q 0)), (1, .int (iI ((i_ : Nat) : Int)))] := hl
    refine r_aln F hl 0 rfl dX4_alike_10 rfl ?_
    refine r_ic F 0 dX4_alike_11 rfl ?_
    refine r_cvW F hA B (k_X4_plays l D cI cB (q) (M) (0) (by omega) hp hbk hs hs0 ha) gw_X4_115 rfl rfl ⟨⟨rfl, rfl⟩, Nat.le_of_ble_eq_true rfl, Nat.le_of_ble_eq_true rfl⟩ ⟨Nat.le_of_ble_eq_true rfl, Nat.le_of_ble_eq_true rfl⟩ hl.1 rfl [] rfl (Nat.le_of_ble_eq_true rfl) dX4_alike_12 (fun H locs B => ?_)
    have hb_2 : ∀ j_, (sp_plays (M 2) (M 4) (M 5) (0)) j_ < 65536 := (plays_all hs ha (by omega)).1
    have hq_ := (@plays_all (M 2) (M 4) (M 5) (0) hs ha (by omega)).2
    refine r_ic F 0 dX4_alike_15 rfl ?_
    refine r_isn (lv' := [(0, .ref (q 0)), (1, .int (iI ((i_ : Nat) : Int))), (2, .int (iI ((0 : Nat) : Int)))]) F hl dX4_alike_16 rfl (by decide) [1, 2, 0] rfl (fun ls hl => ?_)
    have lp_3 : ∀ (nn_ : Nat) (n : Nat) (f : Nat → Nat) (H : Heap) (locs : List Loc) (ls : Array Slot), 40 - n < nn_ → (alF (M 2) i_ (40 - n) n f = alR (M 2) (M 4) (M 5) i_) → (∀ k, f k < 65536) → (f 0 = M 4 0 + n) → (n ≤ 40) → Bx D A H0 (wM q cI (stR M 5 (f))) H locs → lv_has ls 3 [(0, .ref (q 0)), (1, .int (iI ((i_ : Nat) : Int))), (2, .int (iI ((n : Nat) : Int)))] → W p l e rm_X4_alike s m args below meth c H locs 0 0 (Qu below args s D ((iI (g_alike (M 2) (M 4) (M 5) ((i_ : Nat) : Int)))) (wM q cI (stR M 5 (g_alikeA (M 2) (M 4) (M 5) ((i_ : Nat) : Int)))) A) (F0 m 17 ls []) := by
      intro nn_
      induction nn_ with
      | zero => intro n f H locs ls hlt; exact absurd hlt (Nat.not_lt_zero _)
      | succ nn_ ih =>
        have ih_4 := ih; clear ih
        intro n f H locs ls hlt hI hf h0 hk B hl
        have hlt_5 := hlt
        refine r_iln F hl 2 rfl dX4_alike_17 rfl ?_
        refine r_bp F 40 dX4_alike_18 rfl ?_
        refine r_cge 56 F dX4_alike_20 (by decide) (by omega) (fun c_6 => ?_) (fun c_6 => ?_)
        · have he_ : alR (M 2) (M 4) (M 5) i_ = (n, f) := by rw [← hI, show 40 - n = 0 by omega]; rfl
          refine r_aln F hl 0 rfl dX4_alike_56 rfl ?_
          refine gf_X4_22 F B.1 0 rfl (.ref (q 6)) rfl dX4_alike_57 ?_
          refine r_ic F 1 dX4_alike_60 rfl ?_
          refine r_ic F 2 dX4_alike_61 rfl ?_
          refine r_iln F hl 1 rfl dX4_alike_62 rfl ?_
          refine r_mul F dX4_alike_63 ?_
          refine r_add F dX4_alike_64 ?_
          refine r_ald (f := f) F B.1 5 rfl dX4_alike_65 (by decide) (by omega) ?_
          have b_7 : f ((1 + (2 * i_))) < 65536 := hf ((1 + (2 * i_)))
          refine r_aln F hl 0 rfl dX4_alike_66 rfl ?_
          refine gf_X4_22 F B.1 0 rfl (.ref (q 6)) rfl dX4_alike_67 ?_
          refine r_ic F 2 dX4_alike_70 rfl ?_
          refine r_ic F 2 dX4_alike_71 rfl ?_
          refine r_iln F hl 1 rfl dX4_alike_72 rfl ?_
          refine r_mul F dX4_alike_73 ?_
          refine r_add F dX4_alike_74 ?_
          refine r_ald (f := f) F B.1 5 rfl dX4_alike_75 (by decide) (by omega) ?_
          have b_8 : f ((2 + (2 * i_))) < 65536 := hf ((2 + (2 * i_)))
          refine r_cne 83 F dX4_alike_76 (by decide) (by omega) (fun c_9 => ?_) (fun c_9 => ?_)
          · refine r_bpz F (-4) dX4_alike_83 rfl ?_
            exact r_retU F hr hlk hH B dX4_alike_85 (by first | rfl | (simp only [g_alike, c_1, he_, if_true, if_false, Bool.and_true, Bool.true_and, Bool.and_false, Bool.false_and, Bool.and_self, Bool.false_eq_true, ↓reduceIte, decide_true, decide_false, Int.toNat_natCast, Bool.toNat_true, Bool.toNat_false]; first | done | rfl | (simp only [c_6, (Nat.not_lt.mp c_6), c_9, if_true, if_false, Bool.and_true, Bool.true_and, Bool.and_false, Bool.false_and, Bool.and_self, Bool.false_eq_true, ↓reduceIte, decide_true, decide_false, Int.toNat_natCast, Bool.toNat_true, Bool.toNat_false]; first | done | rfl) | (simp only [if_neg c_6, if_pos (Nat.not_lt.mp c_6), if_neg c_9]; first | done | rfl) | (simp [c_6, (Nat.not_lt.mp c_6), c_9]; done) | (simp [c_6, (Nat.not_lt.mp c_6), c_9]; first | rfl | omega)) | (simp [g_alike, c_1, c_6, (Nat.not_lt.mp c_6), c_9, he_]; done) | (simp [g_alike, c_1, c_6, (Nat.not_lt.mp c_6), c_9, he_]; omega) | (simp only [g_alike, c_1, he_, if_true, if_false, Bool.and_true, Bool.true_and, Bool.and_false, Bool.false_and, Bool.and_self, Bool.false_eq_true, ↓reduceIte, decide_true, decide_false, Int.toNat_natCast, Bool.toNat_true, Bool.toNat_false]; try simp only [c_6, (Nat.not_lt.mp c_6), c_9, if_true, if_false, Bool.and_true, Bool.true_and, Bool.and_false, Bool.false_and, Bool.and_self, Bool.false_eq_true, ↓reduceIte, decide_true, decide_false, Int.toNat_natCast, Bool.toNat_true, Bool.toNat_false]; rfl)) (by first | rfl | (simp only [g_alikeA, c_1, he_, if_true, if_false, Bool.and_true, Bool.true_and, Bool.and_false, Bool.false_and, Bool.and_self, Bool.false_eq_true, ↓reduceIte, decide_true, decide_false, Int.toNat_natCast, Bool.toNat_true, Bool.toNat_false]; first | done | rfl | (simp only [c_6, (Nat.not_lt.mp c_6), c_9, if_true, if_false, Bool.and_true, Bool.true_and, Bool.and_false, Bool.false_and, Bool.and_self, Bool.false_eq_true, ↓reduceIte, decide_true, decide_false, Int.toNat_natCast, Bool.toNat_true, Bool.toNat_false]; first | done | rfl) | (simp only [if_neg c_6, if_pos (Nat.not_lt.mp c_6), if_neg c_9]; first | done | rfl) | (simp [c_6, (Nat.not_lt.mp c_6), c_9]; done) | (simp [c_6, (Nat.not_lt.mp c_6), c_9]; first | rfl | omega)) | (simp [g_alikeA, c_1, c_6, (Nat.not_lt.mp c_6), c_9, he_]; done) | (simp [g_alikeA, c_1, c_6, (Nat.not_lt.mp c_6), c_9, he_]; omega) | (simp only [g_alikeA, c_1, he_, if_true, if_false, Bool.and_true, Bool.true_and, Bool.and_false, Bool.false_and, Bool.and_self, Bool.false_eq_true, ↓reduceIte, decide_true, decide_false, Int.toNat_natCast, Bool.toNat_true, Bool.toNat_false]; try simp only [c_6, (Nat.not_lt.mp c_6), c_9, if_true, if_false, Bool.and_true, Bool.true_and, Bool.and_false, Bool.false_and, Bool.and_self, Bool.false_eq_true, ↓reduceIte, decide_true, decide_false, Int.toNat_natCast, Bool.toNat_true, Bool.toNat_false]; rfl))
          · refine r_iln F hl 2 rfl dX4_alike_79 rfl ?_
            refine r_goto 85 F dX4_alike_80 (by decide) ?_
            exact r_retU F hr hlk hH B dX4_alike_85 (by first | rfl | (simp only [g_alike, c_1, he_, if_true, if_false, Bool.and_true, Bool.true_and, Bool.and_false, Bool.false_and, Bool.and_self, Bool.false_eq_true, ↓reduceIte, decide_true, decide_false, Int.toNat_natCast, Bool.toNat_true, Bool.toNat_false]; first | done | rfl | (simp only [c_6, (Nat.not_lt.mp c_6), c_9, if_true, if_false, Bool.and_true, Bool.true_and, Bool.and_false, Bool.false_and, Bool.and_self, Bool.false_eq_true, ↓reduceIte, decide_true, decide_false, Int.toNat_natCast, Bool.toNat_true, Bool.toNat_false]; first | done | rfl) | (simp only [if_neg c_6, if_pos (Nat.not_lt.mp c_6), if_pos c_9]; first | done | rfl) | (simp [c_6, (Nat.not_lt.mp c_6), c_9]; done) | (simp [c_6, (Nat.not_lt.mp c_6), c_9]; first | rfl | omega)) | (simp [g_alike, c_1, c_6, (Nat.not_lt.mp c_6), c_9, he_]; done) | (simp [g_alike, c_1, c_6, (Nat.not_lt.mp c_6), c_9, he_]; omega) | (simp only [g_alike, c_1, he_, if_true, if_false, Bool.and_true, Bool.true_and, Bool.and_false, Bool.false_and, Bool.and_self, Bool.false_eq_true, ↓reduceIte, decide_true, decide_false, Int.toNat_natCast, Bool.toNat_true, Bool.toNat_false]; try simp only [c_6, (Nat.not_lt.mp c_6), c_9, if_true, if_false, Bool.and_true, Bool.true_and, Bool.and_false, Bool.false_and, Bool.and_self, Bool.false_eq_true, ↓reduceIte, decide_true, decide_false, Int.toNat_natCast, Bool.toNat_true, Bool.toNat_false]; rfl)) (by first | rfl | (simp only [g_alikeA, c_1, he_, if_true, if_false, Bool.and_true, Bool.true_and, Bool.and_false, Bool.false_and, Bool.and_self, Bool.false_eq_true, ↓reduceIte, decide_true, decide_false, Int.toNat_natCast, Bool.toNat_true, Bool.toNat_false]; first | done | rfl | (simp only [c_6, (Nat.not_lt.mp c_6), c_9, if_true, if_false, Bool.and_true, Bool.true_and, Bool.and_false, Bool.false_and, Bool.and_self, Bool.false_eq_true, ↓reduceIte, decide_true, decide_false, Int.toNat_natCast, Bool.toNat_true, Bool.toNat_false]; first | done | rfl) | (simp only [if_neg c_6, if_pos (Nat.not_lt.mp c_6), if_pos c_9]; first | done | rfl) | (simp [c_6, (Nat.not_lt.mp c_6), c_9]; done) | (simp [c_6, (Nat.not_lt.mp c_6), c_9]; first | rfl | omega)) | (simp [g_alikeA, c_1, c_6, (Nat.not_lt.mp c_6), c_9, he_]; done) | (simp [g_alikeA, c_1, c_6, (Nat.not_lt.mp c_6), c_9, he_]; omega) | (simp only [g_alikeA, c_1, he_, if_true, if_false, Bool.and_true, Bool.true_and, Bool.and_false, Bool.false_and, Bool.and_self, Bool.false_eq_true, ↓reduceIte, decide_true, decide_false, Int.toNat_natCast, Bool.toNat_true, Bool.toNat_false]; try simp only [c_6, (Nat.not_lt.mp c_6), c_9, if_true, if_false, Bool.and_true, Bool.true_and, Bool.and_false, Bool.false_and, Bool.and_self, Bool.false_eq_true, ↓reduceIte, decide_true, decide_false, Int.toNat_natCast, Bool.toNat_true, Bool.toNat_false]; rfl))
        · refine r_aln F hl 0 rfl dX4_alike_23 rfl ?_
          refine gf_X4_22 F B.1 0 rfl (.ref (q 6)) rfl dX4_alike_24 ?_
          refine r_ic F 1 dX4_alike_27 rfl ?_
          refine r_ic F 2 dX4_alike_28 rfl ?_
          refine r_iln F hl 1 rfl dX4_alike_29 rfl ?_
          refine r_mul F dX4_alike_30 ?_
          refine r_add F dX4_alike_31 ?_
          refine r_ald (f := f) F B.1 5 rfl dX4_alike_32 (by decide) (by omega) ?_
          have b_10 : f ((1 + (2 * i_))) < 65536 := hf ((1 + (2 * i_)))
          refine r_aln F hl 0 rfl dX4_alike_33 rfl ?_
          refine gf_X4_22 F B.1 0 rfl (.ref (q 6)) rfl dX4_alike_34 ?_
          refine r_ic F 2 dX4_alike_37 rfl ?_
          refine r_ic F 2 dX4_alike_38 rfl ?_
          refine r_iln F hl 1 rfl dX4_alike_39 rfl ?_
          refine r_mul F dX4_alike_40 ?_
          refine r_add F dX4_alike_41 ?_
          refine r_ald (f := f) F B.1 5 rfl dX4_alike_42 (by decide) (by omega) ?_
          have b_11 : f ((2 + (2 * i_))) < 65536 := hf ((2 + (2 * i_)))
          refine r_ceq 56 F dX4_alike_43 (by decide) (by omega) (fun c_12 => ?_) (fun c_12 => ?_)
          · have he_ : alR (M 2) (M 4) (M 5) i_ = (n, f) := by rw [← hI, alF_eq c_12]
            refine r_aln F hl 0 rfl dX4_alike_56 rfl ?_
            refine gf_X4_22 F B.1 0 rfl (.ref (q 6)) rfl dX4_alike_57 ?_
            refine r_ic F 1 dX4_alike_60 rfl ?_
            refine r_ic F 2 dX4_alike_61 rfl ?_
            refine r_iln F hl 1 rfl dX4_alike_62 rfl ?_
            refine r_mul F dX4_alike_63 ?_
            refine r_add F dX4_alike_64 ?_
            refine r_ald (f := f) F B.1 5 rfl dX4_alike_65 (by decide) (by omega) ?_
            have b_13 : f ((1 + (2 * i_))) < 65536 := hf ((1 + (2 * i_)))
            refine r_aln F hl 0 rfl dX4_alike_66 rfl ?_
            refine gf_X4_22 F B.1 0 rfl (.ref (q 6)) rfl dX4_alike_67 ?_
            refine r_ic F 2 dX4_alike_70 rfl ?_
            refine r_ic F 2 dX4_alike_71 rfl ?_
            refine r_iln F hl 1 rfl dX4_alike_72 rfl ?_
            refine r_mul F dX4_alike_73 ?_
            refine r_add F dX4_alike_74 ?_
            refine r_ald (f := f) F B.1 5 rfl dX4_alike_75 (by decide) (by omega) ?_
            have b_14 : f ((2 + (2 * i_))) < 65536 := hf ((2 + (2 * i_)))
            refine r_cne 83 F dX4_alike_76 (by decide) (by omega) (fun c_15 => ?_) (fun c_15 => ?_)
            · exact absurd c_12 c_15
            · refine r_iln F hl 2 rfl dX4_alike_79 rfl ?_
              refine r_goto 85 F dX4_alike_80 (by decide) ?_
              exact r_retU F hr hlk hH B dX4_alike_85 (by first | rfl | (simp only [g_alike, c_1, he_, if_true, if_false, Bool.and_true, Bool.true_and, Bool.and_false, Bool.false_and, Bool.and_self, Bool.false_eq_true, ↓reduceIte, decide_true, decide_false, Int.toNat_natCast, Bool.toNat_true, Bool.toNat_false]; first | done | rfl | (simp only [c_6, (Nat.not_le.mpr c_6), c_12, c_15, if_true, if_false, Bool.and_true, Bool.true_and, Bool.and_false, Bool.false_and, Bool.and_self, Bool.false_eq_true, ↓reduceIte, decide_true, decide_false, Int.toNat_natCast, Bool.toNat_true, Bool.toNat_false]; first | done | rfl) | (simp only [if_pos c_6, if_neg (Nat.not_le.mpr c_6), if_pos c_12, if_pos c_15]; first | done | rfl) | (simp [c_6, (Nat.not_le.mpr c_6), c_12, c_15]; done) | (simp [c_6, (Nat.not_le.mpr c_6), c_12, c_15]; first | rfl | omega)) | (simp [g_alike, c_1, c_6, (Nat.not_le.mpr c_6), c_12, c_15, he_]; done) | (simp [g_alike, c_1, c_6, (Nat.not_le.mpr c_6), c_12, c_15, he_]; omega) | (simp only [g_alike, c_1, he_, if_true, if_false, Bool.and_true, Bool.true_and, Bool.and_false, Bool.false_and, Bool.and_self, Bool.false_eq_true, ↓reduceIte, decide_true, decide_false, Int.toNat_natCast, Bool.toNat_true, Bool.toNat_false]; try simp only [c_6, (Nat.not_le.mpr c_6), c_12, c_15, if_true, if_false, Bool.and_true, Bool.true_and, Bool.and_false, Bool.false_and, Bool.and_self, Bool.false_eq_true, ↓reduceIte, decide_true, decide_false, Int.toNat_natCast, Bool.toNat_true, Bool.toNat_false]; rfl)) (by first | rfl | (simp only [g_alikeA, c_1, he_, if_true, if_false, Bool.and_true, Bool.true_and, Bool.and_false, Bool.false_and, Bool.and_self, Bool.false_eq_true, ↓reduceIte, decide_true, decide_false, Int.toNat_natCast, Bool.toNat_true, Bool.toNat_false]; first | done | rfl | (simp only [c_6, (Nat.not_le.mpr c_6), c_12, c_15, if_true, if_false, Bool.and_true, Bool.true_and, Bool.and_false, Bool.false_and, Bool.and_self, Bool.false_eq_true, ↓reduceIte, decide_true, decide_false, Int.toNat_natCast, Bool.toNat_true, Bool.toNat_false]; first | done | rfl) | (simp only [if_pos c_6, if_neg (Nat.not_le.mpr c_6), if_pos c_12, if_pos c_15]; first | done | rfl) | (simp [c_6, (Nat.not_le.mpr c_6), c_12, c_15]; done) | (simp [c_6, (Nat.not_le.mpr c_6), c_12, c_15]; first | rfl | omega)) | (simp [g_alikeA, c_1, c_6, (Nat.not_le.mpr c_6), c_12, c_15, he_]; done) | (simp [g_alikeA, c_1, c_6, (Nat.not_le.mpr c_6), c_12, c_15, he_]; omega) | (simp only [g_alikeA, c_1, he_, if_true, if_false, Bool.and_true, Bool.true_and, Bool.and_false, Bool.false_and, Bool.and_self, Bool.false_eq_true, ↓reduceIte, decide_true, decide_false, Int.toNat_natCast, Bool.toNat_true, Bool.toNat_false]; try simp only [c_6, (Nat.not_le.mpr c_6), c_12, c_15, if_true, if_false, Bool.and_true, Bool.true_and, Bool.and_false, Bool.false_and, Bool.and_self, Bool.false_eq_true, ↓reduceIte, decide_true, decide_false, Int.toNat_natCast, Bool.toNat_true, Bool.toNat_false]; rfl))
          · refine r_aln F hl 0 rfl dX4_alike_46 rfl ?_
            refine r_cvW F hA B (k_X4_ends l D cI cB (q) ((stR M 5 (f)))  hp hbk hf (show (f) 0 < 65535 from by omega)) gw_X4_112 rfl rfl ⟨⟨rfl, rfl⟩, Nat.le_of_ble_eq_true rfl, Nat.le_of_ble_eq_true rfl⟩ ⟨Nat.le_of_ble_eq_true rfl, Nat.le_of_ble_eq_true rfl⟩ hl.1 rfl [] rfl (Nat.le_of_ble_eq_true rfl) dX4_alike_47 (fun H locs B => ?_)
            have hb_16 : ∀ j_, (sp_ends (M 2) (f)) j_ < 65536 := ends_lt hf (by omega)
            have hq_ := @ends_0 (M 2) (f)
            refine r_inc (lv' := [(0, .ref (q 0)), (1, .int (iI ((i_ : Nat) : Int))), (2, .int (iI (((n + 1) : Nat) : Int)))]) F hl 2 rfl dX4_alike_50 1 rfl (by decide) [1, 2, 0] rfl (fun ls hl => ?_)
            refine r_goto 17 F dX4_alike_53 (by decide) ?_
            exact ih_4 ((n + 1)) (sp_ends (M 2) (f)) _ _ ls (by omega) (by rw [← hI]; exact (alF_go (by omega) c_12).symm) hb_16 (by omega) (by omega) B hl
    exact lp_3 _ (0) (sp_plays (M 2) (M 4) (M 5) (0)) _ _ ls (Nat.lt_succ_self _) rfl hb_2 (by omega) (by omega) B hl
  · have c_1d := c_1
    simp only [isIn, isP, decide_eq_true_eq, decide_eq_false_iff_not] at c_1d
    refine r_icz F (-1) dX4_alike_8 rfl ?_
    exact r_retU F hr hlk hH B dX4_alike_9 (by first | rfl | (simp only [g_alike, c_1, if_true, if_false, Bool.and_true, Bool.true_and, Bool.and_false, Bool.false_and, Bool.and_self, Bool.false_eq_true, ↓reduceIte, decide_true, decide_false, Int.toNat_natCast, Bool.toNat_true, Bool.toNat_false]; first | done | rfl | (simp only [if_true, if_true, if_false, Bool.and_true, Bool.true_and, Bool.and_false, Bool.false_and, Bool.and_self, Bool.false_eq_true, ↓reduceIte, decide_true, decide_false, Int.toNat_natCast, Bool.toNat_true, Bool.toNat_false]; first | done | rfl) | (simp only [if_true]; first | done | rfl) | (simp [if_true]; done) | (simp [if_true]; first | rfl | omega)) | (simp [g_alike, c_1]; done) | (simp [g_alike, c_1]; omega) | (simp only [g_alike, c_1, if_true, if_false, Bool.and_true, Bool.true_and, Bool.and_false, Bool.false_and, Bool.and_self, Bool.false_eq_true, ↓reduceIte, decide_true, decide_false, Int.toNat_natCast, Bool.toNat_true, Bool.toNat_false]; try simp only [if_true, if_true, if_false, Bool.and_true, Bool.true_and, Bool.and_false, Bool.false_and, Bool.and_self, Bool.false_eq_true, ↓reduceIte, decide_true, decide_false, Int.toNat_natCast, Bool.toNat_true, Bool.toNat_false]; rfl)) (by first | rfl | (simp only [g_alikeA, c_1, if_true, if_false, Bool.and_true, Bool.true_and, Bool.and_false, Bool.false_and, Bool.and_self, Bool.false_eq_true, ↓reduceIte, decide_true, decide_false, Int.toNat_natCast, Bool.toNat_true, Bool.toNat_false]; first | done | rfl | (simp only [if_true, if_true, if_false, Bool.and_true, Bool.true_and, Bool.and_false, Bool.false_and, Bool.and_self, Bool.false_eq_true, ↓reduceIte, decide_true, decide_false, Int.toNat_natCast, Bool.toNat_true, Bool.toNat_false]; first | done | rfl) | (simp only [if_true]; first | done | rfl) | (simp [if_true]; done) | (simp [if_true]; first | rfl | omega)) | (simp [g_alikeA, c_1]; done) | (simp [g_alikeA, c_1]; omega) | (simp only [g_alikeA, c_1, if_true, if_false, Bool.and_true, Bool.true_and, Bool.and_false, Bool.false_and, Bool.and_self, Bool.false_eq_true, ↓reduceIte, decide_true, decide_false, Int.toNat_natCast, Bool.toNat_true, Bool.toNat_false]; try simp only [if_true, if_true, if_false, Bool.and_true, Bool.true_and, Bool.and_false, Bool.false_and, Bool.and_self, Bool.false_eq_true, ↓reduceIte, decide_true, decide_false, Int.toNat_natCast, Bool.toNat_true, Bool.toNat_false]; rfl))
abbrev rm_X4_rests : Room := { frames := 2, cells := 0, slots := 0, locals := 48 }
set_option maxHeartbeats 4000000 in
set_option maxRecDepth 100000 in
theorem k_X4_rests (l : Launch) (D : va_G) (cI cB : ClassId) (q : Nat → Nat) (M : St) (w : Int) (hw : (-2147483648 ≤ w ∧ w < 2147483648)) (hbk : ∀ k, M 2 k < 256) : CtQ l yX4_rests cX4_rests 5 (some .int) rm_X4_rests D cI cB [.ref (q 0), .int (iI (w))] (wM q cI M) ((iI (g_rests (M 2) w))) := by
  refine CtQ.of RX4 (by decide) rfl (Nat.le_of_ble_eq_true rfl) ?_
  intro p e s m args below meth c H ls hH F hr hlk P hl
  have hl : lv_has ls 5 [(0, .ref (q 0)), (1, .int (iI (w)))] := hl
  refine r_iln F hl 1 rfl dX4_rests_0 rfl ?_
  refine r_ic F 0 dX4_rests_1 rfl ?_
  refine r_ic F 2 dX4_rests_2 rfl ?_
  refine r_sq F P (k_X4_in l D cI cB (w) ((0 : Int)) ((2 : Int)) (by omega) (by omega) (by omega)) gw_X4_40 [] rfl ⟨⟨rfl, rfl⟩, Nat.le_of_ble_eq_true rfl, Nat.le_of_ble_eq_true rfl⟩ ⟨Nat.le_of_ble_eq_true rfl, Nat.le_of_ble_eq_true rfl⟩ hl.1 rfl [] rfl (Nat.le_of_ble_eq_true rfl) dX4_rests_3 ?_
  refine r_zneb 11 F dX4_rests_6 (by decide) (fun c_1 => ?_) (fun c_1 => ?_)
  · have c_1d := c_1
    simp only [isIn, isP, decide_eq_true_eq, decide_eq_false_iff_not] at c_1d
    obtain ⟨w_, rfl⟩ : ∃ k : Nat, w = (k : Int) := ⟨w.toNat, by omega⟩
    have hl : lv_has ls 5 [(0, .ref (q 0)), (1, .int (iI ((w_ : Nat) : Int)))] := hl
    refine r_ic F 0 dX4_rests_11 rfl ?_
    refine r_isn (lv' := [(0, .ref (q 0)), (1, .int (iI ((w_ : Nat) : Int))), (2, .int (iI ((0 : Nat) : Int)))]) F hl dX4_rests_12 rfl (by decide) [1, 2, 0] rfl (fun ls hl => ?_)
    refine r_bpz F (-4) dX4_rests_13 rfl ?_
    refine r_isn (lv' := [(0, .ref (q 0)), (1, .int (iI ((w_ : Nat) : Int))), (2, .int (iI ((0 : Nat) : Int))), (3, .int (iI (-4)))]) F hl dX4_rests_15 rfl (by decide) [1, 2, 3, 0] rfl (fun ls hl => ?_)
    refine r_bp F 99 dX4_rests_16 rfl ?_
    refine r_is (lv' := [(0, .ref (q 0)), (1, .int (iI ((w_ : Nat) : Int))), (2, .int (iI ((0 : Nat) : Int))), (3, .int (iI (-4))), (4, .int (iI ((99 : Nat) : Int)))]) F hl dX4_rests_18 (by decide) [1, 2, 3, 4, 0] rfl (fun ls hl => ?_)
    have lp_2 : ∀ (nn_ : Nat) (j : Nat) (x : Nat) (y : Int) (ls : Array Slot), j < nn_ → (rtF (M 2 5) (M 2 6) (M 2 7) j x y = rtR (M 2)) → (x + j ≤ 100) → (y = -4 ∨ (0 ≤ y ∧ y < 100)) → (j ≤ 100) → lv_has ls 5 [(0, .ref (q 0)), (1, .int (iI ((w_ : Nat) : Int))), (2, .int (iI ((x : Nat) : Int))), (3, .int (iI (y))), (4, .int (iI ((((j : Nat) : Int) - 1))))] → W p l e rm_X4_rests s m args below meth c H [] 0 0 (Qq below args s ((iI (g_rests (M 2) ((w_ : Nat) : Int))))) (F0 m 20 ls []) := by
      intro nn_
      induction nn_ with
      | zero => intro j x y ls hlt; exact absurd hlt (Nat.not_lt_zero _)
      | succ nn_ ih =>
        have ih_3 := ih; clear ih
        intro j x y ls hlt hI hx hy hj hl
        have hlt_4 := hlt
        refine r_il F hl 4 rfl dX4_rests_20 ?_
        refine r_zltz (a := (((j : Nat) : Int) - 1)) 54 F dX4_rests_22 (by decide) (by omega) (fun c_5 => ?_) (fun c_5 => ?_)
        · have he_ : rtR (M 2) = (x, y) := by rw [← hI, show j = 0 from by omega]; rfl
          refine r_iln F hl 1 rfl dX4_rests_54 rfl ?_
          refine r_zne 62 F dX4_rests_55 (by decide) (by omega) (fun c_6 => ?_) (fun c_6 => ?_)
          · refine r_iln F hl 3 rfl dX4_rests_62 rfl ?_
            refine r_bpz F (-4) dX4_rests_63 rfl ?_
            refine r_cnez (a := y) (b := -4) 73 F dX4_rests_65 (by decide) (by omega) (fun c_7 => ?_) (fun c_7 => ?_)
            · obtain ⟨y_, rfl⟩ : ∃ k : Nat, y = (k : Int) := ⟨y.toNat, by omega⟩
              have hl : lv_has ls 5 [(0, .ref (q 0)), (1, .int (iI ((w_ : Nat) : Int))), (2, .int (iI ((x : Nat) : Int))), (3, .int (iI ((y_ : Nat) : Int))), (4, .int (iI ((((j : Nat) : Int) - 1))))] := hl
              refine r_iln F hl 1 rfl dX4_rests_73 rfl ?_
              refine r_ic F 1 dX4_rests_74 rfl ?_
              refine r_cne 85 F dX4_rests_75 (by decide) (by omega) (fun c_8 => ?_) (fun c_8 => ?_)
              · refine r_iln F hl 3 rfl dX4_rests_85 rfl ?_
                refine r_bp F 10 dX4_rests_86 rfl ?_
                refine r_rem F dX4_rests_88 (by omega) ?_
                exact r_retQ F hr hlk hH dX4_rests_89 (by first | rfl | (simp only [g_rests, c_1, he_, if_true, if_false, Bool.and_true, Bool.true_and, Bool.and_false, Bool.false_and, Bool.and_self, Bool.false_eq_true, ↓reduceIte, decide_true, decide_false, Int.toNat_natCast, Bool.toNat_true, Bool.toNat_false]; first | done | rfl | (simp only [c_5, (Int.not_le.mpr c_5), c_6, c_7, c_8, if_true, if_false, Bool.and_true, Bool.true_and, Bool.and_false, Bool.false_and, Bool.and_self, Bool.false_eq_true, ↓reduceIte, decide_true, decide_false, Int.toNat_natCast, Bool.toNat_true, Bool.toNat_false]; first | done | rfl) | (simp only [if_pos c_5, if_neg (Int.not_le.mpr c_5), if_neg c_6, if_neg c_7, if_neg c_8]; first | done | rfl) | (simp [c_5, (Int.not_le.mpr c_5), c_6, c_7, c_8]; done) | (simp [c_5, (Int.not_le.mpr c_5), c_6, c_7, c_8]; first | rfl | omega)) | (simp [g_rests, c_1, c_5, (Int.not_le.mpr c_5), c_6, c_7, c_8, he_]; done) | (simp [g_rests, c_1, c_5, (Int.not_le.mpr c_5), c_6, c_7, c_8, he_]; omega) | (simp only [g_rests, c_1, he_, if_true, if_false, Bool.and_true, Bool.true_and, Bool.and_false, Bool.false_and, Bool.and_self, Bool.false_eq_true, ↓reduceIte, decide_true, decide_false, Int.toNat_natCast, Bool.toNat_true, Bool.toNat_false]; try simp only [c_5, (Int.not_le.mpr c_5), c_6, c_7, c_8, if_true, if_false, Bool.and_true, Bool.true_and, Bool.and_false, Bool.false_and, Bool.and_self, Bool.false_eq_true, ↓reduceIte, decide_true, decide_false, Int.toNat_natCast, Bool.toNat_true, Bool.toNat_false]; rfl))
              · refine r_iln F hl 3 rfl dX4_rests_78 rfl ?_
                refine r_bp F 10 dX4_rests_79 rfl ?_
                refine r_div F dX4_rests_81 (by omega) ?_
                refine r_goto 89 F dX4_rests_82 (by decide) ?_
                exact r_retQ F hr hlk hH dX4_rests_89 (by first | rfl | (simp only [g_rests, c_1, he_, if_true, if_false, Bool.and_true, Bool.true_and, Bool.and_false, Bool.false_and, Bool.and_self, Bool.false_eq_true, ↓reduceIte, decide_true, decide_false, Int.toNat_natCast, Bool.toNat_true, Bool.toNat_false]; first | done | rfl | (simp only [c_5, (Int.not_le.mpr c_5), c_6, c_7, c_8, if_true, if_false, Bool.and_true, Bool.true_and, Bool.and_false, Bool.false_and, Bool.and_self, Bool.false_eq_true, ↓reduceIte, decide_true, decide_false, Int.toNat_natCast, Bool.toNat_true, Bool.toNat_false]; first | done | rfl) | (simp only [if_pos c_5, if_neg (Int.not_le.mpr c_5), if_neg c_6, if_neg c_7, if_pos c_8]; first | done | rfl) | (simp [c_5, (Int.not_le.mpr c_5), c_6, c_7, c_8]; done) | (simp [c_5, (Int.not_le.mpr c_5), c_6, c_7, c_8]; first | rfl | omega)) | (simp [g_rests, c_1, c_5, (Int.not_le.mpr c_5), c_6, c_7, c_8, he_]; done) | (simp [g_rests, c_1, c_5, (Int.not_le.mpr c_5), c_6, c_7, c_8, he_]; omega) | (simp only [g_rests, c_1, he_, if_true, if_false, Bool.and_true, Bool.true_and, Bool.and_false, Bool.false_and, Bool.and_self, Bool.false_eq_true, ↓reduceIte, decide_true, decide_false, Int.toNat_natCast, Bool.toNat_true, Bool.toNat_false]; try simp only [c_5, (Int.not_le.mpr c_5), c_6, c_7, c_8, if_true, if_false, Bool.and_true, Bool.true_and, Bool.and_false, Bool.false_and, Bool.and_self, Bool.false_eq_true, ↓reduceIte, decide_true, decide_false, Int.toNat_natCast, Bool.toNat_true, Bool.toNat_false]; rfl))
            · refine r_bpz F (-4) dX4_rests_68 rfl ?_
              refine r_goto 89 F dX4_rests_70 (by decide) ?_
              exact r_retQ F hr hlk hH dX4_rests_89 (by first | rfl | (simp only [g_rests, c_1, he_, if_true, if_false, Bool.and_true, Bool.true_and, Bool.and_false, Bool.false_and, Bool.and_self, Bool.false_eq_true, ↓reduceIte, decide_true, decide_false, Int.toNat_natCast, Bool.toNat_true, Bool.toNat_false]; first | done | rfl | (simp only [c_5, (Int.not_le.mpr c_5), c_6, c_7, if_true, if_false, Bool.and_true, Bool.true_and, Bool.and_false, Bool.false_and, Bool.and_self, Bool.false_eq_true, ↓reduceIte, decide_true, decide_false, Int.toNat_natCast, Bool.toNat_true, Bool.toNat_false]; first | done | rfl) | (simp only [if_pos c_5, if_neg (Int.not_le.mpr c_5), if_neg c_6, if_pos c_7]; first | done | rfl) | (simp [c_5, (Int.not_le.mpr c_5), c_6, c_7]; done) | (simp [c_5, (Int.not_le.mpr c_5), c_6, c_7]; first | rfl | omega)) | (simp [g_rests, c_1, c_5, (Int.not_le.mpr c_5), c_6, c_7, he_]; done) | (simp [g_rests, c_1, c_5, (Int.not_le.mpr c_5), c_6, c_7, he_]; omega) | (simp only [g_rests, c_1, he_, if_true, if_false, Bool.and_true, Bool.true_and, Bool.and_false, Bool.false_and, Bool.and_self, Bool.false_eq_true, ↓reduceIte, decide_true, decide_false, Int.toNat_natCast, Bool.toNat_true, Bool.toNat_false]; try simp only [c_5, (Int.not_le.mpr c_5), c_6, c_7, if_true, if_false, Bool.and_true, Bool.true_and, Bool.and_false, Bool.false_and, Bool.and_self, Bool.false_eq_true, ↓reduceIte, decide_true, decide_false, Int.toNat_natCast, Bool.toNat_true, Bool.toNat_false]; rfl))
          · refine r_iln F hl 2 rfl dX4_rests_58 rfl ?_
            refine r_goto 89 F dX4_rests_59 (by decide) ?_
            exact r_retQ F hr hlk hH dX4_rests_89 (by first | rfl | (simp only [g_rests, c_1, he_, if_true, if_false, Bool.and_true, Bool.true_and, Bool.and_false, Bool.false_and, Bool.and_self, Bool.false_eq_true, ↓reduceIte, decide_true, decide_false, Int.toNat_natCast, Bool.toNat_true, Bool.toNat_false]; first | done | rfl | (simp only [c_5, (Int.not_le.mpr c_5), c_6, if_true, if_false, Bool.and_true, Bool.true_and, Bool.and_false, Bool.false_and, Bool.and_self, Bool.false_eq_true, ↓reduceIte, decide_true, decide_false, Int.toNat_natCast, Bool.toNat_true, Bool.toNat_false]; first | done | rfl) | (simp only [if_pos c_5, if_neg (Int.not_le.mpr c_5), if_pos c_6]; first | done | rfl) | (simp [c_5, (Int.not_le.mpr c_5), c_6]; done) | (simp [c_5, (Int.not_le.mpr c_5), c_6]; first | rfl | omega)) | (simp [g_rests, c_1, c_5, (Int.not_le.mpr c_5), c_6, he_]; done) | (simp [g_rests, c_1, c_5, (Int.not_le.mpr c_5), c_6, he_]; omega) | (simp only [g_rests, c_1, he_, if_true, if_false, Bool.and_true, Bool.true_and, Bool.and_false, Bool.false_and, Bool.and_self, Bool.false_eq_true, ↓reduceIte, decide_true, decide_false, Int.toNat_natCast, Bool.toNat_true, Bool.toNat_false]; try simp only [c_5, (Int.not_le.mpr c_5), c_6, if_true, if_false, Bool.and_true, Bool.true_and, Bool.and_false, Bool.false_and, Bool.and_self, Bool.false_eq_true, ↓reduceIte, decide_true, decide_false, Int.toNat_natCast, Bool.toNat_true, Bool.toNat_false]; rfl))
        · have hl : lv_has ls 5 [(0, .ref (q 0)), (1, .int (iI ((w_ : Nat) : Int))), (2, .int (iI ((x : Nat) : Int))), (3, .int (iI (y))), (4, .int (iI (((j - 1) : Nat) : Int)))] := by
            rw [show (((j : Nat) : Int) - 1) = (((j - 1) : Nat) : Int) from by omega] at hl
            exact hl
          refine r_aln F hl 0 rfl dX4_rests_25 rfl ?_
          refine r_il F hl 4 rfl dX4_rests_26 ?_
          refine r_bp F 10 dX4_rests_28 rfl ?_
          refine r_div F dX4_rests_30 (by omega) ?_
          refine r_il F hl 4 rfl dX4_rests_31 ?_
          refine r_bp F 10 dX4_rests_33 rfl ?_
          refine r_rem F dX4_rests_35 (by omega) ?_
          refine r_cq F P (k_X4_rest l D cI cB (q) (M) (((j - 1) / 10)) (((j - 1) % 10)) (by omega) hbk) gw_X4_136 [0, 1, 2, 3, 4, 5, 6, 7, 8, 9, 10] rfl rfl rfl ⟨⟨rfl, rfl⟩, Nat.le_of_ble_eq_true rfl, Nat.le_of_ble_eq_true rfl⟩ ⟨Nat.le_of_ble_eq_true rfl, Nat.le_of_ble_eq_true rfl⟩ hl.1 rfl [] rfl (Nat.le_of_ble_eq_true rfl) dX4_rests_36 ?_
          refine r_zeqb 48 F dX4_rests_39 (by decide) (fun c_9 => ?_) (fun c_9 => ?_)
          · refine r_incz (lv' := [(0, .ref (q 0)), (1, .int (iI ((w_ : Nat) : Int))), (2, .int (iI ((x : Nat) : Int))), (3, .int (iI (y))), (4, .int (iI ((((j - 1 : Nat) : Int) - 1))))]) (b := (((j - 1 : Nat) : Int) - 1)) F hl 4 rfl dX4_rests_48 (by omega) (by decide) [1, 2, 3, 4, 0] rfl (fun ls hl => ?_)
            refine r_goto 20 F dX4_rests_51 (by decide) ?_
            exact ih_3 (j - 1) (x) (y) ls (by omega) (by rw [← hI]; obtain ⟨j_, rfl⟩ : ∃ a, j = a + 1 := ⟨j - 1, by omega⟩; have hc_ := c_9; simp only [Nat.add_sub_cancel] at hc_ ⊢; simp only [rtF, hc_, if_true, if_false, Bool.false_eq_true]) (by omega) (by omega) (by omega) hl
          · refine r_inc (lv' := [(0, .ref (q 0)), (1, .int (iI ((w_ : Nat) : Int))), (2, .int (iI (((x + 1) : Nat) : Int))), (3, .int (iI (y))), (4, .int (iI (((j - 1) : Nat) : Int)))]) F hl 2 rfl dX4_rests_42 1 rfl (by decide) [1, 2, 0, 3, 4] rfl (fun ls hl => ?_)
            refine r_il F hl 4 rfl dX4_rests_45 ?_
            refine r_isn (lv' := [(0, .ref (q 0)), (1, .int (iI ((w_ : Nat) : Int))), (2, .int (iI (((x + 1) : Nat) : Int))), (3, .int (iI (((j - 1) : Nat) : Int))), (4, .int (iI (((j - 1) : Nat) : Int)))]) F hl dX4_rests_47 rfl (by decide) [1, 2, 3, 0, 4] rfl (fun ls hl => ?_)
            refine r_incz (lv' := [(0, .ref (q 0)), (1, .int (iI ((w_ : Nat) : Int))), (2, .int (iI (((x + 1) : Nat) : Int))), (3, .int (iI (((j - 1) : Nat) : Int))), (4, .int (iI ((((j - 1 : Nat) : Int) - 1))))]) (b := (((j - 1 : Nat) : Int) - 1)) F hl 4 rfl dX4_rests_48 (by omega) (by decide) [1, 2, 3, 4, 0] rfl (fun ls hl => ?_)
            refine r_goto 20 F dX4_rests_51 (by decide) ?_
            exact ih_3 (j - 1) ((x + 1)) ((((j - 1) : Nat) : Int)) ls (by omega) (by rw [← hI]; obtain ⟨j_, rfl⟩ : ∃ a, j = a + 1 := ⟨j - 1, by omega⟩; have hc_ := c_9; simp only [Nat.add_sub_cancel] at hc_ ⊢; simp only [rtF, hc_, if_true, if_false, Bool.false_eq_true]) (by omega) (by omega) (by omega) hl
    exact lp_2 _ (100) (0) (-4) ls (Nat.lt_succ_self _) rfl (by omega) (by omega) (by omega) hl
  · have c_1d := c_1
    simp only [isIn, isP, decide_eq_true_eq, decide_eq_false_iff_not] at c_1d
    refine r_icz F (-1) dX4_rests_9 rfl ?_
    exact r_retQ F hr hlk hH dX4_rests_10 (by first | rfl | (simp only [g_rests, c_1, if_true, if_false, Bool.and_true, Bool.true_and, Bool.and_false, Bool.false_and, Bool.and_self, Bool.false_eq_true, ↓reduceIte, decide_true, decide_false, Int.toNat_natCast, Bool.toNat_true, Bool.toNat_false]; first | done | rfl | (simp only [if_true, if_true, if_false, Bool.and_true, Bool.true_and, Bool.and_false, Bool.false_and, Bool.and_self, Bool.false_eq_true, ↓reduceIte, decide_true, decide_false, Int.toNat_natCast, Bool.toNat_true, Bool.toNat_false]; first | done | rfl) | (simp only [if_true]; first | done | rfl) | (simp [if_true]; done) | (simp [if_true]; first | rfl | omega)) | (simp [g_rests, c_1]; done) | (simp [g_rests, c_1]; omega) | (simp only [g_rests, c_1, if_true, if_false, Bool.and_true, Bool.true_and, Bool.and_false, Bool.false_and, Bool.and_self, Bool.false_eq_true, ↓reduceIte, decide_true, decide_false, Int.toNat_natCast, Bool.toNat_true, Bool.toNat_false]; try simp only [if_true, if_true, if_false, Bool.and_true, Bool.true_and, Bool.and_false, Bool.false_and, Bool.and_self, Bool.false_eq_true, ↓reduceIte, decide_true, decide_false, Int.toNat_natCast, Bool.toNat_true, Bool.toNat_false]; rfl))
abbrev rm_X4_count : Room := { frames := 1, cells := 0, slots := 0, locals := 22 }
set_option maxHeartbeats 4000000 in
set_option maxRecDepth 100000 in
theorem k_X4_count (l : Launch) (D : va_G) (cI cB : ClassId) (q : Nat → Nat) (M : St) (w : Int) (hw : (-2147483648 ≤ w ∧ w < 2147483648)) (hp : 1 ≤ M 2 0 ∧ M 2 0 ≤ 5) (hbk : ∀ k, M 2 k < 256) (hs : ∀ k, M 4 k < 65536) : CtQ l yX4_count cX4_count 2 (some .int) rm_X4_count D cI cB [.ref (q 0), .int (iI (w))] (wM q cI M) ((iI (g_count M w))) := by
  refine CtQ.of RX4 (by decide) rfl (Nat.le_of_ble_eq_true rfl) ?_
  intro p e s m args below meth c H ls hH F hr hlk P hl
  have hl : lv_has ls 2 [(0, .ref (q 0)), (1, .int (iI (w)))] := hl
  refine r_iln F hl 1 rfl dX4_count_0 rfl ?_
  refine r_ic F 0 dX4_count_1 rfl ?_
  refine r_ic F 2 dX4_count_2 rfl ?_
  refine r_sq F P (k_X4_in l D cI cB (w) ((0 : Int)) ((2 : Int)) (by omega) (by omega) (by omega)) gw_X4_40 [] rfl ⟨⟨rfl, rfl⟩, Nat.le_of_ble_eq_true rfl, Nat.le_of_ble_eq_true rfl⟩ ⟨Nat.le_of_ble_eq_true rfl, Nat.le_of_ble_eq_true rfl⟩ hl.1 rfl [] rfl (Nat.le_of_ble_eq_true rfl) dX4_count_3 ?_
  refine r_zeqb 18 F dX4_count_6 (by decide) (fun c_1 => ?_) (fun c_1 => ?_)
  · have c_1d := c_1
    simp only [isIn, isP, decide_eq_true_eq, decide_eq_false_iff_not] at c_1d
    refine r_iln F hl 1 rfl dX4_count_18 rfl ?_
    refine r_ic F 3 dX4_count_19 rfl ?_
    refine r_cnez (a := w) (b := (3 : Int)) 32 F dX4_count_20 (by decide) (by omega) (fun c_2 => ?_) (fun c_2 => ?_)
    · refine r_iln F hl 1 rfl dX4_count_32 rfl ?_
      refine r_ic F 4 dX4_count_33 rfl ?_
      refine r_cnez (a := w) (b := (4 : Int)) 44 F dX4_count_34 (by decide) (by omega) (fun c_3 => ?_) (fun c_3 => ?_)
      · refine r_iln F hl 1 rfl dX4_count_44 rfl ?_
        refine r_ic F 5 dX4_count_45 rfl ?_
        refine r_cnez (a := w) (b := (5 : Int)) 56 F dX4_count_46 (by decide) (by omega) (fun c_4 => ?_) (fun c_4 => ?_)
        · refine r_iln F hl 1 rfl dX4_count_56 rfl ?_
          refine r_bp F 6 dX4_count_57 rfl ?_
          refine r_cnez (a := w) (b := (6 : Int)) 69 F dX4_count_59 (by decide) (by omega) (fun c_5 => ?_) (fun c_5 => ?_)
          · refine r_iln F hl 1 rfl dX4_count_69 rfl ?_
            refine r_bp F 7 dX4_count_70 rfl ?_
            refine r_cnez (a := w) (b := (7 : Int)) 84 F dX4_count_72 (by decide) (by omega) (fun c_6 => ?_) (fun c_6 => ?_)
            · refine r_iln F hl 1 rfl dX4_count_84 rfl ?_
              refine r_bp F 8 dX4_count_85 rfl ?_
              refine r_cnez (a := w) (b := (8 : Int)) 99 F dX4_count_87 (by decide) (by omega) (fun c_7 => ?_) (fun c_7 => ?_)
              · refine r_icz F (-1) dX4_count_99 rfl ?_
                exact r_retQ F hr hlk hH dX4_count_100 (by first | rfl | (simp only [g_count, c_1, if_true, if_false, Bool.and_true, Bool.true_and, Bool.and_false, Bool.false_and, Bool.and_self, Bool.false_eq_true, ↓reduceIte, decide_true, decide_false, Int.toNat_natCast, Bool.toNat_true, Bool.toNat_false]; first | done | rfl | (simp only [c_2, c_3, c_4, c_5, c_6, c_7, if_true, if_false, Bool.and_true, Bool.true_and, Bool.and_false, Bool.false_and, Bool.and_self, Bool.false_eq_true, ↓reduceIte, decide_true, decide_false, Int.toNat_natCast, Bool.toNat_true, Bool.toNat_false]; first | done | rfl) | (simp only [if_neg c_2, if_neg c_3, if_neg c_4, if_neg c_5, if_neg c_6, if_neg c_7]; first | done | rfl) | (simp [c_2, c_3, c_4, c_5, c_6, c_7]; done) | (simp [c_2, c_3, c_4, c_5, c_6, c_7]; first | rfl | omega)) | (simp [g_count, c_1, c_2, c_3, c_4, c_5, c_6, c_7]; done) | (simp [g_count, c_1, c_2, c_3, c_4, c_5, c_6, c_7]; omega) | (simp only [g_count, c_1, if_true, if_false, Bool.and_true, Bool.true_and, Bool.and_false, Bool.false_and, Bool.and_self, Bool.false_eq_true, ↓reduceIte, decide_true, decide_false, Int.toNat_natCast, Bool.toNat_true, Bool.toNat_false]; try simp only [c_2, c_3, c_4, c_5, c_6, c_7, if_true, if_false, Bool.and_true, Bool.true_and, Bool.and_false, Bool.false_and, Bool.and_self, Bool.false_eq_true, ↓reduceIte, decide_true, decide_false, Int.toNat_natCast, Bool.toNat_true, Bool.toNat_false]; rfl))
              · refine r_aln F hl 0 rfl dX4_count_90 rfl ?_
                refine gf_X4_13 F P 0 rfl (.ref (q 3)) rfl dX4_count_91 ?_
                refine r_ic F 4 dX4_count_94 rfl ?_
                refine r_ald (f := M 2) F P 2 rfl dX4_count_95 (by decide) (by omega) ?_
                have b_8 : M 2 (4) < 256 := hbk (4)
                refine r_goto 100 F dX4_count_96 (by decide) ?_
                exact r_retQ F hr hlk hH dX4_count_100 (by first | rfl | (simp only [g_count, c_1, if_true, if_false, Bool.and_true, Bool.true_and, Bool.and_false, Bool.false_and, Bool.and_self, Bool.false_eq_true, ↓reduceIte, decide_true, decide_false, Int.toNat_natCast, Bool.toNat_true, Bool.toNat_false]; first | done | rfl | (simp only [c_2, c_3, c_4, c_5, c_6, c_7, if_true, if_false, Bool.and_true, Bool.true_and, Bool.and_false, Bool.false_and, Bool.and_self, Bool.false_eq_true, ↓reduceIte, decide_true, decide_false, Int.toNat_natCast, Bool.toNat_true, Bool.toNat_false]; first | done | rfl) | (simp only [if_neg c_2, if_neg c_3, if_neg c_4, if_neg c_5, if_neg c_6, if_pos c_7]; first | done | rfl) | (simp [c_2, c_3, c_4, c_5, c_6, c_7]; done) | (simp [c_2, c_3, c_4, c_5, c_6, c_7]; first | rfl | omega)) | (simp [g_count, c_1, c_2, c_3, c_4, c_5, c_6, c_7]; done) | (simp [g_count, c_1, c_2, c_3, c_4, c_5, c_6, c_7]; omega) | (simp only [g_count, c_1, if_true, if_false, Bool.and_true, Bool.true_and, Bool.and_false, Bool.false_and, Bool.and_self, Bool.false_eq_true, ↓reduceIte, decide_true, decide_false, Int.toNat_natCast, Bool.toNat_true, Bool.toNat_false]; try simp only [c_2, c_3, c_4, c_5, c_6, c_7, if_true, if_false, Bool.and_true, Bool.true_and, Bool.and_false, Bool.false_and, Bool.and_self, Bool.false_eq_true, ↓reduceIte, decide_true, decide_false, Int.toNat_natCast, Bool.toNat_true, Bool.toNat_false]; rfl))
            · refine r_aln F hl 0 rfl dX4_count_75 rfl ?_
              refine gf_X4_13 F P 0 rfl (.ref (q 3)) rfl dX4_count_76 ?_
              refine r_ic F 3 dX4_count_79 rfl ?_
              refine r_ald (f := M 2) F P 2 rfl dX4_count_80 (by decide) (by omega) ?_
              have b_9 : M 2 (3) < 256 := hbk (3)
              refine r_goto 100 F dX4_count_81 (by decide) ?_
              exact r_retQ F hr hlk hH dX4_count_100 (by first | rfl | (simp only [g_count, c_1, if_true, if_false, Bool.and_true, Bool.true_and, Bool.and_false, Bool.false_and, Bool.and_self, Bool.false_eq_true, ↓reduceIte, decide_true, decide_false, Int.toNat_natCast, Bool.toNat_true, Bool.toNat_false]; first | done | rfl | (simp only [c_2, c_3, c_4, c_5, c_6, if_true, if_false, Bool.and_true, Bool.true_and, Bool.and_false, Bool.false_and, Bool.and_self, Bool.false_eq_true, ↓reduceIte, decide_true, decide_false, Int.toNat_natCast, Bool.toNat_true, Bool.toNat_false]; first | done | rfl) | (simp only [if_neg c_2, if_neg c_3, if_neg c_4, if_neg c_5, if_pos c_6]; first | done | rfl) | (simp [c_2, c_3, c_4, c_5, c_6]; done) | (simp [c_2, c_3, c_4, c_5, c_6]; first | rfl | omega)) | (simp [g_count, c_1, c_2, c_3, c_4, c_5, c_6]; done) | (simp [g_count, c_1, c_2, c_3, c_4, c_5, c_6]; omega) | (simp only [g_count, c_1, if_true, if_false, Bool.and_true, Bool.true_and, Bool.and_false, Bool.false_and, Bool.and_self, Bool.false_eq_true, ↓reduceIte, decide_true, decide_false, Int.toNat_natCast, Bool.toNat_true, Bool.toNat_false]; try simp only [c_2, c_3, c_4, c_5, c_6, if_true, if_false, Bool.and_true, Bool.true_and, Bool.and_false, Bool.false_and, Bool.and_self, Bool.false_eq_true, ↓reduceIte, decide_true, decide_false, Int.toNat_natCast, Bool.toNat_true, Bool.toNat_false]; rfl))
          · refine r_aln F hl 0 rfl dX4_count_62 rfl ?_
            refine gf_X4_44 F P 0 rfl (.int (iI ((M 1 0 : Nat) : Int))) rfl dX4_count_63 ?_
            refine r_goto 100 F dX4_count_66 (by decide) ?_
            exact r_retQ F hr hlk hH dX4_count_100 (by first | rfl | (simp only [g_count, c_1, if_true, if_false, Bool.and_true, Bool.true_and, Bool.and_false, Bool.false_and, Bool.and_self, Bool.false_eq_true, ↓reduceIte, decide_true, decide_false, Int.toNat_natCast, Bool.toNat_true, Bool.toNat_false]; first | done | rfl | (simp only [c_2, c_3, c_4, c_5, if_true, if_false, Bool.and_true, Bool.true_and, Bool.and_false, Bool.false_and, Bool.and_self, Bool.false_eq_true, ↓reduceIte, decide_true, decide_false, Int.toNat_natCast, Bool.toNat_true, Bool.toNat_false]; first | done | rfl) | (simp only [if_neg c_2, if_neg c_3, if_neg c_4, if_pos c_5]; first | done | rfl) | (simp [c_2, c_3, c_4, c_5]; done) | (simp [c_2, c_3, c_4, c_5]; first | rfl | omega)) | (simp [g_count, c_1, c_2, c_3, c_4, c_5]; done) | (simp [g_count, c_1, c_2, c_3, c_4, c_5]; omega) | (simp only [g_count, c_1, if_true, if_false, Bool.and_true, Bool.true_and, Bool.and_false, Bool.false_and, Bool.and_self, Bool.false_eq_true, ↓reduceIte, decide_true, decide_false, Int.toNat_natCast, Bool.toNat_true, Bool.toNat_false]; try simp only [c_2, c_3, c_4, c_5, if_true, if_false, Bool.and_true, Bool.true_and, Bool.and_false, Bool.false_and, Bool.and_self, Bool.false_eq_true, ↓reduceIte, decide_true, decide_false, Int.toNat_natCast, Bool.toNat_true, Bool.toNat_false]; rfl))
        · refine r_aln F hl 0 rfl dX4_count_49 rfl ?_
          refine gf_X4_96 F P 0 rfl (.int (iI ((M 7 0 : Nat) : Int))) rfl dX4_count_50 ?_
          refine r_goto 100 F dX4_count_53 (by decide) ?_
          exact r_retQ F hr hlk hH dX4_count_100 (by first | rfl | (simp only [g_count, c_1, if_true, if_false, Bool.and_true, Bool.true_and, Bool.and_false, Bool.false_and, Bool.and_self, Bool.false_eq_true, ↓reduceIte, decide_true, decide_false, Int.toNat_natCast, Bool.toNat_true, Bool.toNat_false]; first | done | rfl | (simp only [c_2, c_3, c_4, if_true, if_false, Bool.and_true, Bool.true_and, Bool.and_false, Bool.false_and, Bool.and_self, Bool.false_eq_true, ↓reduceIte, decide_true, decide_false, Int.toNat_natCast, Bool.toNat_true, Bool.toNat_false]; first | done | rfl) | (simp only [if_neg c_2, if_neg c_3, if_pos c_4]; first | done | rfl) | (simp [c_2, c_3, c_4]; done) | (simp [c_2, c_3, c_4]; first | rfl | omega)) | (simp [g_count, c_1, c_2, c_3, c_4]; done) | (simp [g_count, c_1, c_2, c_3, c_4]; omega) | (simp only [g_count, c_1, if_true, if_false, Bool.and_true, Bool.true_and, Bool.and_false, Bool.false_and, Bool.and_self, Bool.false_eq_true, ↓reduceIte, decide_true, decide_false, Int.toNat_natCast, Bool.toNat_true, Bool.toNat_false]; try simp only [c_2, c_3, c_4, if_true, if_false, Bool.and_true, Bool.true_and, Bool.and_false, Bool.false_and, Bool.and_self, Bool.false_eq_true, ↓reduceIte, decide_true, decide_false, Int.toNat_natCast, Bool.toNat_true, Bool.toNat_false]; rfl))
      · refine r_aln F hl 0 rfl dX4_count_37 rfl ?_
        refine gf_X4_93 F P 0 rfl (.int (iI ((M 11 0 : Nat) : Int))) rfl dX4_count_38 ?_
        refine r_goto 100 F dX4_count_41 (by decide) ?_
        exact r_retQ F hr hlk hH dX4_count_100 (by first | rfl | (simp only [g_count, c_1, if_true, if_false, Bool.and_true, Bool.true_and, Bool.and_false, Bool.false_and, Bool.and_self, Bool.false_eq_true, ↓reduceIte, decide_true, decide_false, Int.toNat_natCast, Bool.toNat_true, Bool.toNat_false]; first | done | rfl | (simp only [c_2, c_3, if_true, if_false, Bool.and_true, Bool.true_and, Bool.and_false, Bool.false_and, Bool.and_self, Bool.false_eq_true, ↓reduceIte, decide_true, decide_false, Int.toNat_natCast, Bool.toNat_true, Bool.toNat_false]; first | done | rfl) | (simp only [if_neg c_2, if_pos c_3]; first | done | rfl) | (simp [c_2, c_3]; done) | (simp [c_2, c_3]; first | rfl | omega)) | (simp [g_count, c_1, c_2, c_3]; done) | (simp [g_count, c_1, c_2, c_3]; omega) | (simp only [g_count, c_1, if_true, if_false, Bool.and_true, Bool.true_and, Bool.and_false, Bool.false_and, Bool.and_self, Bool.false_eq_true, ↓reduceIte, decide_true, decide_false, Int.toNat_natCast, Bool.toNat_true, Bool.toNat_false]; try simp only [c_2, c_3, if_true, if_false, Bool.and_true, Bool.true_and, Bool.and_false, Bool.false_and, Bool.and_self, Bool.false_eq_true, ↓reduceIte, decide_true, decide_false, Int.toNat_natCast, Bool.toNat_true, Bool.toNat_false]; rfl))
    · refine r_aln F hl 0 rfl dX4_count_23 rfl ?_
      refine gf_X4_19 F P 0 rfl (.ref (q 5)) rfl dX4_count_24 ?_
      refine r_ic F 0 dX4_count_27 rfl ?_
      refine r_ald (f := M 4) F P 4 rfl dX4_count_28 (by decide) (by omega) ?_
      have b_10 : M 4 (0) < 65536 := hs (0)
      refine r_goto 100 F dX4_count_29 (by decide) ?_
      exact r_retQ F hr hlk hH dX4_count_100 (by first | rfl | (simp only [g_count, c_1, if_true, if_false, Bool.and_true, Bool.true_and, Bool.and_false, Bool.false_and, Bool.and_self, Bool.false_eq_true, ↓reduceIte, decide_true, decide_false, Int.toNat_natCast, Bool.toNat_true, Bool.toNat_false]; first | done | rfl | (simp only [c_2, if_true, if_false, Bool.and_true, Bool.true_and, Bool.and_false, Bool.false_and, Bool.and_self, Bool.false_eq_true, ↓reduceIte, decide_true, decide_false, Int.toNat_natCast, Bool.toNat_true, Bool.toNat_false]; first | done | rfl) | (simp only [if_pos c_2]; first | done | rfl) | (simp [c_2]; done) | (simp [c_2]; first | rfl | omega)) | (simp [g_count, c_1, c_2]; done) | (simp [g_count, c_1, c_2]; omega) | (simp only [g_count, c_1, if_true, if_false, Bool.and_true, Bool.true_and, Bool.and_false, Bool.false_and, Bool.and_self, Bool.false_eq_true, ↓reduceIte, decide_true, decide_false, Int.toNat_natCast, Bool.toNat_true, Bool.toNat_false]; try simp only [c_2, if_true, if_false, Bool.and_true, Bool.true_and, Bool.and_false, Bool.false_and, Bool.and_self, Bool.false_eq_true, ↓reduceIte, decide_true, decide_false, Int.toNat_natCast, Bool.toNat_true, Bool.toNat_false]; rfl))
  · have c_1d := c_1
    simp only [isIn, isP, decide_eq_true_eq, decide_eq_false_iff_not] at c_1d
    obtain ⟨w_, rfl⟩ : ∃ k : Nat, w = (k : Int) := ⟨w.toNat, by omega⟩
    have hl : lv_has ls 2 [(0, .ref (q 0)), (1, .int (iI ((w_ : Nat) : Int)))] := hl
    refine r_aln F hl 0 rfl dX4_count_9 rfl ?_
    refine gf_X4_13 F P 0 rfl (.ref (q 3)) rfl dX4_count_10 ?_
    refine r_iln F hl 1 rfl dX4_count_13 rfl ?_
    refine r_ald (f := M 2) F P 2 rfl dX4_count_14 (by decide) (by omega) ?_
    have b_11 : M 2 (w_) < 256 := hbk (w_)
    refine r_goto 100 F dX4_count_15 (by decide) ?_
    exact r_retQ F hr hlk hH dX4_count_100 (by first | rfl | (simp only [g_count, c_1, if_true, if_false, Bool.and_true, Bool.true_and, Bool.and_false, Bool.false_and, Bool.and_self, Bool.false_eq_true, ↓reduceIte, decide_true, decide_false, Int.toNat_natCast, Bool.toNat_true, Bool.toNat_false]; first | done | rfl | (simp only [if_true, if_true, if_false, Bool.and_true, Bool.true_and, Bool.and_false, Bool.false_and, Bool.and_self, Bool.false_eq_true, ↓reduceIte, decide_true, decide_false, Int.toNat_natCast, Bool.toNat_true, Bool.toNat_false]; first | done | rfl) | (simp only [if_true]; first | done | rfl) | (simp [if_true]; done) | (simp [if_true]; first | rfl | omega)) | (simp [g_count, c_1]; done) | (simp [g_count, c_1]; omega) | (simp only [g_count, c_1, if_true, if_false, Bool.and_true, Bool.true_and, Bool.and_false, Bool.false_and, Bool.and_self, Bool.false_eq_true, ↓reduceIte, decide_true, decide_false, Int.toNat_natCast, Bool.toNat_true, Bool.toNat_false]; try simp only [if_true, if_true, if_false, Bool.and_true, Bool.true_and, Bool.and_false, Bool.false_and, Bool.and_self, Bool.false_eq_true, ↓reduceIte, decide_true, decide_false, Int.toNat_natCast, Bool.toNat_true, Bool.toNat_false]; rfl))
abbrev rm_X4_seen : Room := { frames := 2, cells := 0, slots := 0, locals := 42 }
set_option maxHeartbeats 4000000 in
set_option maxRecDepth 100000 in
theorem k_X4_seen (l : Launch) (D : va_G) (cI cB : ClassId) (q : Nat → Nat) (M : St) (t f : Int) (ht : (-2147483648 ≤ t ∧ t < 2147483648)) (hf : (-2147483648 ≤ f ∧ f < 2147483648)) (h11 : M 11 0 ≤ 10) : CtU l yX4_seen cX4_seen 3 (some .int) rm_X4_seen D cI cB [.ref (q 0), .int (iI (t)), .int (iI (f))] (wM q cI M) (wM q cI (stR (stR (stR M 8 (g_seenT M t f)) 9 (g_seenF M t f)) 11 (fun _ => g_seenD M t f))) ((iI (g_seen M t f))) := by
  refine CtU.of RX4 (by decide) rfl (Nat.le_of_ble_eq_true rfl) ?_
  intro p e s m args below meth c H0 ls A hH hA F hr hlk B hl
  have hl : lv_has ls 3 [(0, .ref (q 0)), (1, .int (iI (t))), (2, .int (iI (f)))] := hl
  refine r_iln F hl 1 rfl dX4_seen_0 rfl ?_
  refine r_ic F 0 dX4_seen_1 rfl ?_
  refine r_bp F 40 dX4_seen_2 rfl ?_
  refine r_sq F B.1 (k_X4_in l D cI cB (t) ((0 : Int)) ((40 : Int)) (by omega) (by omega) (by omega)) gw_X4_40 [] rfl ⟨⟨rfl, rfl⟩, Nat.le_of_ble_eq_true rfl, Nat.le_of_ble_eq_true rfl⟩ ⟨Nat.le_of_ble_eq_true rfl, Nat.le_of_ble_eq_true rfl⟩ hl.1 rfl [] rfl (Nat.le_of_ble_eq_true rfl) dX4_seen_4 ?_
  refine r_zeqb 17 F dX4_seen_7 (by decide) (fun c_1 => ?_) (fun c_1 => ?_)
  · have c_1d := c_1
    simp only [isIn, isP, decide_eq_true_eq, decide_eq_false_iff_not] at c_1d
    refine r_icz F (-1) dX4_seen_17 rfl ?_
    exact r_retU F hr hlk hH B dX4_seen_18 (by first | rfl | (simp only [g_seen, g_seenT, g_seenF, g_seenD, vSeen, c_1, if_true, if_false, Bool.and_true, Bool.true_and, Bool.and_false, Bool.false_and, Bool.and_self, Bool.false_eq_true, ↓reduceIte, decide_true, decide_false, Int.toNat_natCast, Bool.toNat_true, Bool.toNat_false]; first | done | rfl | (simp only [if_true, if_true, if_false, Bool.and_true, Bool.true_and, Bool.and_false, Bool.false_and, Bool.and_self, Bool.false_eq_true, ↓reduceIte, decide_true, decide_false, Int.toNat_natCast, Bool.toNat_true, Bool.toNat_false]; first | done | rfl) | (simp only [if_true]; first | done | rfl) | (simp [if_true]; done) | (simp [if_true]; first | rfl | omega)) | (simp [g_seen, g_seenT, g_seenF, g_seenD, vSeen, c_1]; done) | (simp [g_seen, g_seenT, g_seenF, g_seenD, vSeen, c_1]; omega) | (simp only [g_seen, g_seenT, g_seenF, g_seenD, vSeen, c_1, if_true, if_false, Bool.and_true, Bool.true_and, Bool.and_false, Bool.false_and, Bool.and_self, Bool.false_eq_true, ↓reduceIte, decide_true, decide_false, Int.toNat_natCast, Bool.toNat_true, Bool.toNat_false]; try simp only [if_true, if_true, if_false, Bool.and_true, Bool.true_and, Bool.and_false, Bool.false_and, Bool.and_self, Bool.false_eq_true, ↓reduceIte, decide_true, decide_false, Int.toNat_natCast, Bool.toNat_true, Bool.toNat_false]; rfl)) (by first | rfl | (simp only [g_seen, g_seenT, g_seenF, g_seenD, vSeen, c_1, if_true, if_false, Bool.and_true, Bool.true_and, Bool.and_false, Bool.false_and, Bool.and_self, Bool.false_eq_true, ↓reduceIte, decide_true, decide_false, Int.toNat_natCast, Bool.toNat_true, Bool.toNat_false]; first | done | rfl | (simp only [if_true, if_true, if_false, Bool.and_true, Bool.true_and, Bool.and_false, Bool.false_and, Bool.and_self, Bool.false_eq_true, ↓reduceIte, decide_true, decide_false, Int.toNat_natCast, Bool.toNat_true, Bool.toNat_false]; first | done | rfl) | (simp only [if_true]; first | done | rfl) | (simp [if_true]; done) | (simp [if_true]; first | rfl | omega)) | (simp [g_seen, g_seenT, g_seenF, g_seenD, vSeen, c_1]; done) | (simp [g_seen, g_seenT, g_seenF, g_seenD, vSeen, c_1]; omega) | (simp only [g_seen, g_seenT, g_seenF, g_seenD, vSeen, c_1, if_true, if_false, Bool.and_true, Bool.true_and, Bool.and_false, Bool.false_and, Bool.and_self, Bool.false_eq_true, ↓reduceIte, decide_true, decide_false, Int.toNat_natCast, Bool.toNat_true, Bool.toNat_false]; try simp only [if_true, if_true, if_false, Bool.and_true, Bool.true_and, Bool.and_false, Bool.false_and, Bool.and_self, Bool.false_eq_true, ↓reduceIte, decide_true, decide_false, Int.toNat_natCast, Bool.toNat_true, Bool.toNat_false]; rfl))
  · have c_1d := c_1
    simp only [isIn, isP, decide_eq_true_eq, decide_eq_false_iff_not] at c_1d
    refine r_iln F hl 2 rfl dX4_seen_10 rfl ?_
    refine r_sq F B.1 (k_X4_isSet l D cI cB (f) (by omega)) gw_X4_105 [] rfl ⟨⟨rfl, rfl⟩, Nat.le_of_ble_eq_true rfl, Nat.le_of_ble_eq_true rfl⟩ ⟨Nat.le_of_ble_eq_true rfl, Nat.le_of_ble_eq_true rfl⟩ hl.1 rfl [] rfl (Nat.le_of_ble_eq_true rfl) dX4_seen_11 ?_
    refine r_zneb 19 F dX4_seen_14 (by decide) (fun c_2 => ?_) (fun c_2 => ?_)
    · have c_2d := c_2
      simp only [isIn, isP, decide_eq_true_eq, decide_eq_false_iff_not] at c_2d
      obtain ⟨t_, rfl⟩ : ∃ k : Nat, t = (k : Int) := ⟨t.toNat, by omega⟩
      have hl : lv_has ls 3 [(0, .ref (q 0)), (1, .int (iI ((t_ : Nat) : Int))), (2, .int (iI (f)))] := hl
      obtain ⟨f_, rfl⟩ : ∃ k : Nat, f = (k : Int) := ⟨f.toNat, by omega⟩
      have hl : lv_has ls 3 [(0, .ref (q 0)), (1, .int (iI ((t_ : Nat) : Int))), (2, .int (iI ((f_ : Nat) : Int)))] := hl
      refine r_aln F hl 0 rfl dX4_seen_19 rfl ?_
      refine gf_X4_93 F B.1 0 rfl (.int (iI ((M 11 0 : Nat) : Int))) rfl dX4_seen_20 ?_
      refine r_bp F 10 dX4_seen_23 rfl ?_
      refine r_cne 31 F dX4_seen_25 (by decide) (by omega) (fun c_3 => ?_) (fun c_3 => ?_)
      · refine r_aln F hl 0 rfl dX4_seen_31 rfl ?_
        refine gf_X4_28 F B.1 0 rfl (.ref (q 9)) rfl dX4_seen_32 ?_
        refine r_aln F hl 0 rfl dX4_seen_35 rfl ?_
        refine gf_X4_93 F B.1 0 rfl (.int (iI ((M 11 0 : Nat) : Int))) rfl dX4_seen_36 ?_
        refine r_iln F hl 1 rfl dX4_seen_39 rfl ?_
        refine r_ast (f := M 8) F B 7 (wM q cI (stR M 8 (upN (M 8) (M 11 0) (t_)))) rfl dX4_seen_40 (by decide) (by omega) rfl (fun H locs B => ?_)
        refine r_aln F hl 0 rfl dX4_seen_41 rfl ?_
        refine gf_X4_31 F B.1 0 rfl (.ref (q 10)) rfl dX4_seen_42 ?_
        refine r_aln F hl 0 rfl dX4_seen_45 rfl ?_
        refine gf_X4_93 F B.1 0 rfl (.int (iI ((M 11 0 : Nat) : Int))) rfl dX4_seen_46 ?_
        refine r_iln F hl 2 rfl dX4_seen_49 rfl ?_
        refine r_ast (f := M 9) F B 8 (wM q cI (stR (stR M 8 (upN (M 8) (M 11 0) (t_))) 9 (upN (M 9) (M 11 0) (f_)))) rfl dX4_seen_50 (by decide) (by omega) rfl (fun H locs B => ?_)
        refine r_aln F hl 0 rfl dX4_seen_51 rfl ?_
        refine r_dup F dX4_seen_52 rfl ?_
        refine gf_X4_93 F B.1 0 rfl (.int (iI ((M 11 0 : Nat) : Int))) rfl dX4_seen_53 ?_
        refine r_ic F 1 dX4_seen_56 rfl ?_
        refine r_add F dX4_seen_57 ?_
        refine pf_X4_93 F B 0 (wM q cI (stR (stR (stR M 8 (upN (M 8) (M 11 0) (t_))) 9 (upN (M 9) (M 11 0) (f_))) 11 (fun _ => (M 11 0 + 1)))) rfl rfl rfl (Nat.le_of_ble_eq_true rfl) rfl dX4_seen_58 (fun H locs B => ?_)
        refine r_aln F hl 0 rfl dX4_seen_61 rfl ?_
        refine gf_X4_93 F B.1 0 rfl (.int (iI (((M 11 0 + 1) : Nat) : Int))) rfl dX4_seen_62 ?_
        exact r_retU F hr hlk hH B dX4_seen_65 (by first | rfl | (simp only [g_seen, g_seenT, g_seenF, g_seenD, vSeen, c_1, c_2, if_true, if_false, Bool.and_true, Bool.true_and, Bool.and_false, Bool.false_and, Bool.and_self, Bool.false_eq_true, ↓reduceIte, decide_true, decide_false, Int.toNat_natCast, Bool.toNat_true, Bool.toNat_false]; first | done | rfl | (simp only [c_3, if_true, if_false, Bool.and_true, Bool.true_and, Bool.and_false, Bool.false_and, Bool.and_self, Bool.false_eq_true, ↓reduceIte, decide_true, decide_false, Int.toNat_natCast, Bool.toNat_true, Bool.toNat_false]; first | done | rfl) | (simp only [if_neg c_3]; first | done | rfl) | (simp [c_3]; done) | (simp [c_3]; first | rfl | omega)) | (simp [g_seen, g_seenT, g_seenF, g_seenD, vSeen, c_1, c_2, c_3]; done) | (simp [g_seen, g_seenT, g_seenF, g_seenD, vSeen, c_1, c_2, c_3]; omega) | (simp only [g_seen, g_seenT, g_seenF, g_seenD, vSeen, c_1, c_2, if_true, if_false, Bool.and_true, Bool.true_and, Bool.and_false, Bool.false_and, Bool.and_self, Bool.false_eq_true, ↓reduceIte, decide_true, decide_false, Int.toNat_natCast, Bool.toNat_true, Bool.toNat_false]; try simp only [c_3, if_true, if_false, Bool.and_true, Bool.true_and, Bool.and_false, Bool.false_and, Bool.and_self, Bool.false_eq_true, ↓reduceIte, decide_true, decide_false, Int.toNat_natCast, Bool.toNat_true, Bool.toNat_false]; rfl)) (by first | rfl | (simp only [g_seen, g_seenT, g_seenF, g_seenD, vSeen, c_1, c_2, if_true, if_false, Bool.and_true, Bool.true_and, Bool.and_false, Bool.false_and, Bool.and_self, Bool.false_eq_true, ↓reduceIte, decide_true, decide_false, Int.toNat_natCast, Bool.toNat_true, Bool.toNat_false]; first | done | rfl | (simp only [c_3, if_true, if_false, Bool.and_true, Bool.true_and, Bool.and_false, Bool.false_and, Bool.and_self, Bool.false_eq_true, ↓reduceIte, decide_true, decide_false, Int.toNat_natCast, Bool.toNat_true, Bool.toNat_false]; first | done | rfl) | (simp only [if_neg c_3]; first | done | rfl) | (simp [c_3]; done) | (simp [c_3]; first | rfl | omega)) | (simp [g_seen, g_seenT, g_seenF, g_seenD, vSeen, c_1, c_2, c_3]; done) | (simp [g_seen, g_seenT, g_seenF, g_seenD, vSeen, c_1, c_2, c_3]; omega) | (simp only [g_seen, g_seenT, g_seenF, g_seenD, vSeen, c_1, c_2, if_true, if_false, Bool.and_true, Bool.true_and, Bool.and_false, Bool.false_and, Bool.and_self, Bool.false_eq_true, ↓reduceIte, decide_true, decide_false, Int.toNat_natCast, Bool.toNat_true, Bool.toNat_false]; try simp only [c_3, if_true, if_false, Bool.and_true, Bool.true_and, Bool.and_false, Bool.false_and, Bool.and_self, Bool.false_eq_true, ↓reduceIte, decide_true, decide_false, Int.toNat_natCast, Bool.toNat_true, Bool.toNat_false]; rfl))
      · refine r_bpz F (-3) dX4_seen_28 rfl ?_
        exact r_retU F hr hlk hH B dX4_seen_30 (by first | rfl | (simp only [g_seen, g_seenT, g_seenF, g_seenD, vSeen, c_1, c_2, if_true, if_false, Bool.and_true, Bool.true_and, Bool.and_false, Bool.false_and, Bool.and_self, Bool.false_eq_true, ↓reduceIte, decide_true, decide_false, Int.toNat_natCast, Bool.toNat_true, Bool.toNat_false]; first | done | rfl | (simp only [c_3, if_true, if_false, Bool.and_true, Bool.true_and, Bool.and_false, Bool.false_and, Bool.and_self, Bool.false_eq_true, ↓reduceIte, decide_true, decide_false, Int.toNat_natCast, Bool.toNat_true, Bool.toNat_false]; first | done | rfl) | (simp only [if_pos c_3]; first | done | rfl) | (simp [c_3]; done) | (simp [c_3]; first | rfl | omega)) | (simp [g_seen, g_seenT, g_seenF, g_seenD, vSeen, c_1, c_2, c_3]; done) | (simp [g_seen, g_seenT, g_seenF, g_seenD, vSeen, c_1, c_2, c_3]; omega) | (simp only [g_seen, g_seenT, g_seenF, g_seenD, vSeen, c_1, c_2, if_true, if_false, Bool.and_true, Bool.true_and, Bool.and_false, Bool.false_and, Bool.and_self, Bool.false_eq_true, ↓reduceIte, decide_true, decide_false, Int.toNat_natCast, Bool.toNat_true, Bool.toNat_false]; try simp only [c_3, if_true, if_false, Bool.and_true, Bool.true_and, Bool.and_false, Bool.false_and, Bool.and_self, Bool.false_eq_true, ↓reduceIte, decide_true, decide_false, Int.toNat_natCast, Bool.toNat_true, Bool.toNat_false]; rfl)) (by first | rfl | (simp only [g_seen, g_seenT, g_seenF, g_seenD, vSeen, c_1, c_2, if_true, if_false, Bool.and_true, Bool.true_and, Bool.and_false, Bool.false_and, Bool.and_self, Bool.false_eq_true, ↓reduceIte, decide_true, decide_false, Int.toNat_natCast, Bool.toNat_true, Bool.toNat_false]; first | done | rfl | (simp only [c_3, if_true, if_false, Bool.and_true, Bool.true_and, Bool.and_false, Bool.false_and, Bool.and_self, Bool.false_eq_true, ↓reduceIte, decide_true, decide_false, Int.toNat_natCast, Bool.toNat_true, Bool.toNat_false]; first | done | rfl) | (simp only [if_pos c_3]; first | done | rfl) | (simp [c_3]; done) | (simp [c_3]; first | rfl | omega)) | (simp [g_seen, g_seenT, g_seenF, g_seenD, vSeen, c_1, c_2, c_3]; done) | (simp [g_seen, g_seenT, g_seenF, g_seenD, vSeen, c_1, c_2, c_3]; omega) | (simp only [g_seen, g_seenT, g_seenF, g_seenD, vSeen, c_1, c_2, if_true, if_false, Bool.and_true, Bool.true_and, Bool.and_false, Bool.false_and, Bool.and_self, Bool.false_eq_true, ↓reduceIte, decide_true, decide_false, Int.toNat_natCast, Bool.toNat_true, Bool.toNat_false]; try simp only [c_3, if_true, if_false, Bool.and_true, Bool.true_and, Bool.and_false, Bool.false_and, Bool.and_self, Bool.false_eq_true, ↓reduceIte, decide_true, decide_false, Int.toNat_natCast, Bool.toNat_true, Bool.toNat_false]; rfl))
    · have c_2d := c_2
      simp only [isIn, isP, decide_eq_true_eq, decide_eq_false_iff_not] at c_2d
      refine r_icz F (-1) dX4_seen_17 rfl ?_
      exact r_retU F hr hlk hH B dX4_seen_18 (by first | rfl | (simp only [g_seen, g_seenT, g_seenF, g_seenD, vSeen, c_1, c_2, if_true, if_false, Bool.and_true, Bool.true_and, Bool.and_false, Bool.false_and, Bool.and_self, Bool.false_eq_true, ↓reduceIte, decide_true, decide_false, Int.toNat_natCast, Bool.toNat_true, Bool.toNat_false]; first | done | rfl | (simp only [if_true, if_true, if_false, Bool.and_true, Bool.true_and, Bool.and_false, Bool.false_and, Bool.and_self, Bool.false_eq_true, ↓reduceIte, decide_true, decide_false, Int.toNat_natCast, Bool.toNat_true, Bool.toNat_false]; first | done | rfl) | (simp only [if_true]; first | done | rfl) | (simp [if_true]; done) | (simp [if_true]; first | rfl | omega)) | (simp [g_seen, g_seenT, g_seenF, g_seenD, vSeen, c_1, c_2]; done) | (simp [g_seen, g_seenT, g_seenF, g_seenD, vSeen, c_1, c_2]; omega) | (simp only [g_seen, g_seenT, g_seenF, g_seenD, vSeen, c_1, c_2, if_true, if_false, Bool.and_true, Bool.true_and, Bool.and_false, Bool.false_and, Bool.and_self, Bool.false_eq_true, ↓reduceIte, decide_true, decide_false, Int.toNat_natCast, Bool.toNat_true, Bool.toNat_false]; try simp only [if_true, if_true, if_false, Bool.and_true, Bool.true_and, Bool.and_false, Bool.false_and, Bool.and_self, Bool.false_eq_true, ↓reduceIte, decide_true, decide_false, Int.toNat_natCast, Bool.toNat_true, Bool.toNat_false]; rfl)) (by first | rfl | (simp only [g_seen, g_seenT, g_seenF, g_seenD, vSeen, c_1, c_2, if_true, if_false, Bool.and_true, Bool.true_and, Bool.and_false, Bool.false_and, Bool.and_self, Bool.false_eq_true, ↓reduceIte, decide_true, decide_false, Int.toNat_natCast, Bool.toNat_true, Bool.toNat_false]; first | done | rfl | (simp only [if_true, if_true, if_false, Bool.and_true, Bool.true_and, Bool.and_false, Bool.false_and, Bool.and_self, Bool.false_eq_true, ↓reduceIte, decide_true, decide_false, Int.toNat_natCast, Bool.toNat_true, Bool.toNat_false]; first | done | rfl) | (simp only [if_true]; first | done | rfl) | (simp [if_true]; done) | (simp [if_true]; first | rfl | omega)) | (simp [g_seen, g_seenT, g_seenF, g_seenD, vSeen, c_1, c_2]; done) | (simp [g_seen, g_seenT, g_seenF, g_seenD, vSeen, c_1, c_2]; omega) | (simp only [g_seen, g_seenT, g_seenF, g_seenD, vSeen, c_1, c_2, if_true, if_false, Bool.and_true, Bool.true_and, Bool.and_false, Bool.false_and, Bool.and_self, Bool.false_eq_true, ↓reduceIte, decide_true, decide_false, Int.toNat_natCast, Bool.toNat_true, Bool.toNat_false]; try simp only [if_true, if_true, if_false, Bool.and_true, Bool.true_and, Bool.and_false, Bool.false_and, Bool.and_self, Bool.false_eq_true, ↓reduceIte, decide_true, decide_false, Int.toNat_natCast, Bool.toNat_true, Bool.toNat_false]; rfl))
abbrev rm_X4_keep : Room := { frames := 0, cells := 0, slots := 0, locals := 0 }
set_option maxHeartbeats 4000000 in
set_option maxRecDepth 100000 in
theorem k_X4_keep (l : Launch) (D : va_G) (cI cB : ClassId) (q : Nat → Nat) (M : St) (h7 : M 7 0 ≤ 2) (hs : ∀ k, M 4 k < 65536) : CtU l yX4_keep cX4_keep 2 (some .int) rm_X4_keep D cI cB [.ref (q 0)] (wM q cI M) (wM q cI (stR (stR M 7 (fun _ => g_keepN M)) 6 (g_keepK M))) ((iI (g_keep M))) := by
  refine CtU.of RX4 (by decide) rfl (Nat.le_of_ble_eq_true rfl) ?_
  intro p e s m args below meth c H0 ls A hH hA F hr hlk B hl
  have hl : lv_has ls 2 [(0, .ref (q 0))] := hl
  refine r_aln F hl 0 rfl dX4_keep_0 rfl ?_
  refine gf_X4_96 F B.1 0 rfl (.int (iI ((M 7 0 : Nat) : Int))) rfl dX4_keep_1 ?_
  refine r_ic F 2 dX4_keep_4 rfl ?_
  refine r_cne 11 F dX4_keep_5 (by decide) (by omega) (fun c_1 => ?_) (fun c_1 => ?_)
  · refine r_ic F 0 dX4_keep_11 rfl ?_
    refine r_isn (lv' := [(0, .ref (q 0)), (1, .int (iI ((0 : Nat) : Int)))]) F hl dX4_keep_12 rfl (by decide) [1, 0] rfl (fun ls hl => ?_)
    have lp_2 : ∀ (nn_ : Nat) (k : Nat) (f : Nat → Nat) (H : Heap) (locs : List Loc) (ls : Array Slot), 16 - k < nn_ → (lpR (fun k f => upN f (16 * M 7 0 + k) (M 4 k)) 16 k f = cpK (M 4) (M 7 0) (M 6)) → (k ≤ 16) → Bx D A H0 (wM q cI (stR M 6 (f))) H locs → lv_has ls 2 [(0, .ref (q 0)), (1, .int (iI ((k : Nat) : Int)))] → W p l e rm_X4_keep s m args below meth c H locs 0 0 (Qu below args s D ((iI (g_keep M))) (wM q cI (stR (stR M 7 (fun _ => g_keepN M)) 6 (g_keepK M))) A) (F0 m 13 ls []) := by
      intro nn_
      induction nn_ with
      | zero => intro k f H locs ls hlt; exact absurd hlt (Nat.not_lt_zero _)
      | succ nn_ ih =>
        have ih_3 := ih; clear ih
        intro k f H locs ls hlt hI hk B hl
        have hlt_4 := hlt
        refine r_iln F hl 1 rfl dX4_keep_13 rfl ?_
        refine r_bp F 16 dX4_keep_14 rfl ?_
        refine r_cge 45 F dX4_keep_16 (by decide) (by omega) (fun c_5 => ?_) (fun c_5 => ?_)
        · obtain rfl : f = cpK (M 4) (M 7 0) (M 6) := by rw [← hI, lpR_end (by omega)]
          refine r_aln F hl 0 rfl dX4_keep_45 rfl ?_
          refine r_dup F dX4_keep_46 rfl ?_
          refine gf_X4_96 F B.1 0 rfl (.int (iI ((M 7 0 : Nat) : Int))) rfl dX4_keep_47 ?_
          refine r_ic F 1 dX4_keep_50 rfl ?_
          refine r_add F dX4_keep_51 ?_
          refine pf_X4_96 F B 0 (wM q cI (stR (stR M 6 ((cpK (M 4) (M 7 0) (M 6)))) 7 (fun _ => (M 7 0 + 1)))) rfl rfl rfl (Nat.le_of_ble_eq_true rfl) rfl dX4_keep_52 (fun H locs B => ?_)
          refine r_aln F hl 0 rfl dX4_keep_55 rfl ?_
          refine gf_X4_96 F B.1 0 rfl (.int (iI (((M 7 0 + 1) : Nat) : Int))) rfl dX4_keep_56 ?_
          exact r_retU F hr hlk hH B dX4_keep_59 (by first | rfl | (simp only [g_keep, g_keepN, g_keepK, if_true, if_false, Bool.and_true, Bool.true_and, Bool.and_false, Bool.false_and, Bool.and_self, Bool.false_eq_true, ↓reduceIte, decide_true, decide_false, Int.toNat_natCast, Bool.toNat_true, Bool.toNat_false]; first | done | rfl | (simp only [c_1, c_5, (Nat.not_lt.mp c_5), if_true, if_false, Bool.and_true, Bool.true_and, Bool.and_false, Bool.false_and, Bool.and_self, Bool.false_eq_true, ↓reduceIte, decide_true, decide_false, Int.toNat_natCast, Bool.toNat_true, Bool.toNat_false]; first | done | rfl) | (simp only [if_neg c_1, if_neg c_5, if_pos (Nat.not_lt.mp c_5)]; first | done | rfl) | (simp [c_1, c_5, (Nat.not_lt.mp c_5)]; done) | (simp [c_1, c_5, (Nat.not_lt.mp c_5)]; first | rfl | omega)) | (simp [g_keep, g_keepN, g_keepK, c_1, c_5, (Nat.not_lt.mp c_5)]; done) | (simp [g_keep, g_keepN, g_keepK, c_1, c_5, (Nat.not_lt.mp c_5)]; omega) | (simp only [g_keep, g_keepN, g_keepK, if_true, if_false, Bool.and_true, Bool.true_and, Bool.and_false, Bool.false_and, Bool.and_self, Bool.false_eq_true, ↓reduceIte, decide_true, decide_false, Int.toNat_natCast, Bool.toNat_true, Bool.toNat_false]; try simp only [c_1, c_5, (Nat.not_lt.mp c_5), if_true, if_false, Bool.and_true, Bool.true_and, Bool.and_false, Bool.false_and, Bool.and_self, Bool.false_eq_true, ↓reduceIte, decide_true, decide_false, Int.toNat_natCast, Bool.toNat_true, Bool.toNat_false]; rfl)) (by first | rfl | (simp only [g_keep, g_keepN, g_keepK, if_true, if_false, Bool.and_true, Bool.true_and, Bool.and_false, Bool.false_and, Bool.and_self, Bool.false_eq_true, ↓reduceIte, decide_true, decide_false, Int.toNat_natCast, Bool.toNat_true, Bool.toNat_false]; first | done | rfl | (simp only [c_1, c_5, (Nat.not_lt.mp c_5), if_true, if_false, Bool.and_true, Bool.true_and, Bool.and_false, Bool.false_and, Bool.and_self, Bool.false_eq_true, ↓reduceIte, decide_true, decide_false, Int.toNat_natCast, Bool.toNat_true, Bool.toNat_false]; first | done | rfl) | (simp only [if_neg c_1, if_neg c_5, if_pos (Nat.not_lt.mp c_5)]; first | done | rfl) | (simp [c_1, c_5, (Nat.not_lt.mp c_5)]; done) | (simp [c_1, c_5, (Nat.not_lt.mp c_5)]; first | rfl | omega)) | (simp [g_keep, g_keepN, g_keepK, c_1, c_5, (Nat.not_lt.mp c_5)]; done) | (simp [g_keep, g_keepN, g_keepK, c_1, c_5, (Nat.not_lt.mp c_5)]; omega) | (simp only [g_keep, g_keepN, g_keepK, if_true, if_false, Bool.and_true, Bool.true_and, Bool.and_false, Bool.false_and, Bool.and_self, Bool.false_eq_true, ↓reduceIte, decide_true, decide_false, Int.toNat_natCast, Bool.toNat_true, Bool.toNat_false]; try simp only [c_1, c_5, (Nat.not_lt.mp c_5), if_true, if_false, Bool.and_true, Bool.true_and, Bool.and_false, Bool.false_and, Bool.and_self, Bool.false_eq_true, ↓reduceIte, decide_true, decide_false, Int.toNat_natCast, Bool.toNat_true, Bool.toNat_false]; rfl))
        · refine r_aln F hl 0 rfl dX4_keep_19 rfl ?_
          refine gf_X4_25 F B.1 0 rfl (.ref (q 7)) rfl dX4_keep_20 ?_
          refine r_bp F 16 dX4_keep_23 rfl ?_
          refine r_aln F hl 0 rfl dX4_keep_25 rfl ?_
          refine gf_X4_96 F B.1 0 rfl (.int (iI ((M 7 0 : Nat) : Int))) rfl dX4_keep_26 ?_
          refine r_mul F dX4_keep_29 ?_
          refine r_iln F hl 1 rfl dX4_keep_30 rfl ?_
          refine r_add F dX4_keep_31 ?_
          refine r_aln F hl 0 rfl dX4_keep_32 rfl ?_
          refine gf_X4_19 F B.1 0 rfl (.ref (q 5)) rfl dX4_keep_33 ?_
          refine r_iln F hl 1 rfl dX4_keep_36 rfl ?_
          refine r_ald (f := M 4) F B.1 4 rfl dX4_keep_37 (by decide) (by omega) ?_
          have b_6 : M 4 (k) < 65536 := hs (k)
          refine r_ast (f := f) F B 6 (wM q cI (stR M 6 (upN (f) (((16 * M 7 0) + k)) (M 4 (k))))) rfl dX4_keep_38 (by decide) (by omega) rfl (fun H locs B => ?_)
          refine r_inc (lv' := [(0, .ref (q 0)), (1, .int (iI (((k + 1) : Nat) : Int)))]) F hl 1 rfl dX4_keep_39 1 rfl (by decide) [1, 0] rfl (fun ls hl => ?_)
          refine r_goto 13 F dX4_keep_42 (by decide) ?_
          exact ih_3 ((k + 1)) (upN (f) (((16 * M 7 0) + k)) (M 4 (k))) _ _ ls (by omega) (by have h_ := hI; rw [lpR_step (by omega)] at h_; refine Eq.trans ?_ h_; first | rfl | (simp only [c_1, c_5, (Nat.not_le.mpr c_5), if_true, if_false, Bool.and_true, Bool.true_and, Bool.and_false, Bool.false_and, Bool.and_self, Bool.false_eq_true, ↓reduceIte, decide_true, decide_false, Int.toNat_natCast, Bool.toNat_true, Bool.toNat_false]; done) | (simp [c_1, c_5, (Nat.not_le.mpr c_5)]; done)) (by omega) B hl
    exact lp_2 _ (0) (M 6) _ _ ls (Nat.lt_succ_self _) rfl (by omega) B hl
  · refine r_bpz F (-3) dX4_keep_8 rfl ?_
    exact r_retU F hr hlk hH B dX4_keep_10 (by first | rfl | (simp only [g_keep, g_keepN, g_keepK, if_true, if_false, Bool.and_true, Bool.true_and, Bool.and_false, Bool.false_and, Bool.and_self, Bool.false_eq_true, ↓reduceIte, decide_true, decide_false, Int.toNat_natCast, Bool.toNat_true, Bool.toNat_false]; first | done | rfl | (simp only [c_1, if_true, if_false, Bool.and_true, Bool.true_and, Bool.and_false, Bool.false_and, Bool.and_self, Bool.false_eq_true, ↓reduceIte, decide_true, decide_false, Int.toNat_natCast, Bool.toNat_true, Bool.toNat_false]; first | done | rfl) | (simp only [if_pos c_1]; first | done | rfl) | (simp [c_1]; done) | (simp [c_1]; first | rfl | omega)) | (simp [g_keep, g_keepN, g_keepK, c_1]; done) | (simp [g_keep, g_keepN, g_keepK, c_1]; omega) | (simp only [g_keep, g_keepN, g_keepK, if_true, if_false, Bool.and_true, Bool.true_and, Bool.and_false, Bool.false_and, Bool.and_self, Bool.false_eq_true, ↓reduceIte, decide_true, decide_false, Int.toNat_natCast, Bool.toNat_true, Bool.toNat_false]; try simp only [c_1, if_true, if_false, Bool.and_true, Bool.true_and, Bool.and_false, Bool.false_and, Bool.and_self, Bool.false_eq_true, ↓reduceIte, decide_true, decide_false, Int.toNat_natCast, Bool.toNat_true, Bool.toNat_false]; rfl)) (by first | rfl | (simp only [g_keep, g_keepN, g_keepK, if_true, if_false, Bool.and_true, Bool.true_and, Bool.and_false, Bool.false_and, Bool.and_self, Bool.false_eq_true, ↓reduceIte, decide_true, decide_false, Int.toNat_natCast, Bool.toNat_true, Bool.toNat_false]; first | done | rfl | (simp only [c_1, if_true, if_false, Bool.and_true, Bool.true_and, Bool.and_false, Bool.false_and, Bool.and_self, Bool.false_eq_true, ↓reduceIte, decide_true, decide_false, Int.toNat_natCast, Bool.toNat_true, Bool.toNat_false]; first | done | rfl) | (simp only [if_pos c_1]; first | done | rfl) | (simp [c_1]; done) | (simp [c_1]; first | rfl | omega)) | (simp [g_keep, g_keepN, g_keepK, c_1]; done) | (simp [g_keep, g_keepN, g_keepK, c_1]; omega) | (simp only [g_keep, g_keepN, g_keepK, if_true, if_false, Bool.and_true, Bool.true_and, Bool.and_false, Bool.false_and, Bool.and_self, Bool.false_eq_true, ↓reduceIte, decide_true, decide_false, Int.toNat_natCast, Bool.toNat_true, Bool.toNat_false]; try simp only [c_1, if_true, if_false, Bool.and_true, Bool.true_and, Bool.and_false, Bool.false_and, Bool.and_self, Bool.false_eq_true, ↓reduceIte, decide_true, decide_false, Int.toNat_natCast, Bool.toNat_true, Bool.toNat_false]; rfl))
abbrev rm_X4_back : Room := { frames := 0, cells := 0, slots := 0, locals := 0 }
set_option maxHeartbeats 4000000 in
set_option maxRecDepth 100000 in
theorem k_X4_back (l : Launch) (D : va_G) (cI cB : ClassId) (q : Nat → Nat) (M : St) (h7 : M 7 0 ≤ 2) : CtU l yX4_back cX4_back 2 (some .int) rm_X4_back D cI cB [.ref (q 0)] (wM q cI M) (wM q cI (stR (stR M 7 (fun _ => g_backN M)) 4 (g_backS M))) ((iI (g_back M))) := by
  refine CtU.of RX4 (by decide) rfl (Nat.le_of_ble_eq_true rfl) ?_
  intro p e s m args below meth c H0 ls A hH hA F hr hlk B hl
  have hl : lv_has ls 2 [(0, .ref (q 0))] := hl
  refine r_aln F hl 0 rfl dX4_back_0 rfl ?_
  refine gf_X4_96 F B.1 0 rfl (.int (iI ((M 7 0 : Nat) : Int))) rfl dX4_back_1 ?_
  refine r_zne 10 F dX4_back_4 (by decide) (by omega) (fun c_1 => ?_) (fun c_1 => ?_)
  · refine r_aln F hl 0 rfl dX4_back_10 rfl ?_
    refine r_dup F dX4_back_11 rfl ?_
    refine gf_X4_96 F B.1 0 rfl (.int (iI ((M 7 0 : Nat) : Int))) rfl dX4_back_12 ?_
    refine r_ic F 1 dX4_back_15 rfl ?_
    refine r_sub F dX4_back_16 (by omega) ?_
    refine pf_X4_96 F B 0 (wM q cI (stR M 7 (fun _ => (M 7 0 - 1)))) rfl rfl rfl (Nat.le_of_ble_eq_true rfl) rfl dX4_back_17 (fun H locs B => ?_)
    refine r_ic F 0 dX4_back_20 rfl ?_
    refine r_isn (lv' := [(0, .ref (q 0)), (1, .int (iI ((0 : Nat) : Int)))]) F hl dX4_back_21 rfl (by decide) [1, 0] rfl (fun ls hl => ?_)
    have lp_2 : ∀ (nn_ : Nat) (k : Nat) (f : Nat → Nat) (H : Heap) (locs : List Loc) (ls : Array Slot), 16 - k < nn_ → (lpR (fun k f => upN f k (M 6 (16 * (M 7 0 - 1) + k))) 16 k f = cpB (M 6) (M 7 0 - 1) (M 4)) → (k ≤ 16) → Bx D A H0 (wM q cI (stR (stR M 7 (fun _ => (M 7 0 - 1))) 4 (f))) H locs → lv_has ls 2 [(0, .ref (q 0)), (1, .int (iI ((k : Nat) : Int)))] → W p l e rm_X4_back s m args below meth c H locs 0 0 (Qu below args s D ((iI (g_back M))) (wM q cI (stR (stR M 7 (fun _ => g_backN M)) 4 (g_backS M))) A) (F0 m 22 ls []) := by
      intro nn_
      induction nn_ with
      | zero => intro k f H locs ls hlt; exact absurd hlt (Nat.not_lt_zero _)
      | succ nn_ ih =>
        have ih_3 := ih; clear ih
        intro k f H locs ls hlt hI hk B hl
        have hlt_4 := hlt
        refine r_iln F hl 1 rfl dX4_back_22 rfl ?_
        refine r_bp F 16 dX4_back_23 rfl ?_
        refine r_cge 54 F dX4_back_25 (by decide) (by omega) (fun c_5 => ?_) (fun c_5 => ?_)
        · obtain rfl : f = cpB (M 6) (M 7 0 - 1) (M 4) := by rw [← hI, lpR_end (by omega)]
          refine r_aln F hl 0 rfl dX4_back_54 rfl ?_
          refine gf_X4_96 F B.1 0 rfl (.int (iI (((M 7 0 - 1) : Nat) : Int))) rfl dX4_back_55 ?_
          exact r_retU F hr hlk hH B dX4_back_58 (by first | rfl | (simp only [g_back, g_backN, g_backS, if_true, if_false, Bool.and_true, Bool.true_and, Bool.and_false, Bool.false_and, Bool.and_self, Bool.false_eq_true, ↓reduceIte, decide_true, decide_false, Int.toNat_natCast, Bool.toNat_true, Bool.toNat_false]; first | done | rfl | (simp only [c_1, c_5, (Nat.not_lt.mp c_5), if_true, if_false, Bool.and_true, Bool.true_and, Bool.and_false, Bool.false_and, Bool.and_self, Bool.false_eq_true, ↓reduceIte, decide_true, decide_false, Int.toNat_natCast, Bool.toNat_true, Bool.toNat_false]; first | done | rfl) | (simp only [if_neg c_1, if_neg c_5, if_pos (Nat.not_lt.mp c_5)]; first | done | rfl) | (simp [c_1, c_5, (Nat.not_lt.mp c_5)]; done) | (simp [c_1, c_5, (Nat.not_lt.mp c_5)]; first | rfl | omega)) | (simp [g_back, g_backN, g_backS, c_1, c_5, (Nat.not_lt.mp c_5)]; done) | (simp [g_back, g_backN, g_backS, c_1, c_5, (Nat.not_lt.mp c_5)]; omega) | (simp only [g_back, g_backN, g_backS, if_true, if_false, Bool.and_true, Bool.true_and, Bool.and_false, Bool.false_and, Bool.and_self, Bool.false_eq_true, ↓reduceIte, decide_true, decide_false, Int.toNat_natCast, Bool.toNat_true, Bool.toNat_false]; try simp only [c_1, c_5, (Nat.not_lt.mp c_5), if_true, if_false, Bool.and_true, Bool.true_and, Bool.and_false, Bool.false_and, Bool.and_self, Bool.false_eq_true, ↓reduceIte, decide_true, decide_false, Int.toNat_natCast, Bool.toNat_true, Bool.toNat_false]; rfl)) (by first | rfl | (simp only [g_back, g_backN, g_backS, if_true, if_false, Bool.and_true, Bool.true_and, Bool.and_false, Bool.false_and, Bool.and_self, Bool.false_eq_true, ↓reduceIte, decide_true, decide_false, Int.toNat_natCast, Bool.toNat_true, Bool.toNat_false]; first | done | rfl | (simp only [c_1, c_5, (Nat.not_lt.mp c_5), if_true, if_false, Bool.and_true, Bool.true_and, Bool.and_false, Bool.false_and, Bool.and_self, Bool.false_eq_true, ↓reduceIte, decide_true, decide_false, Int.toNat_natCast, Bool.toNat_true, Bool.toNat_false]; first | done | rfl) | (simp only [if_neg c_1, if_neg c_5, if_pos (Nat.not_lt.mp c_5)]; first | done | rfl) | (simp [c_1, c_5, (Nat.not_lt.mp c_5)]; done) | (simp [c_1, c_5, (Nat.not_lt.mp c_5)]; first | rfl | omega)) | (simp [g_back, g_backN, g_backS, c_1, c_5, (Nat.not_lt.mp c_5)]; done) | (simp [g_back, g_backN, g_backS, c_1, c_5, (Nat.not_lt.mp c_5)]; omega) | (simp only [g_back, g_backN, g_backS, if_true, if_false, Bool.and_true, Bool.true_and, Bool.and_false, Bool.false_and, Bool.and_self, Bool.false_eq_true, ↓reduceIte, decide_true, decide_false, Int.toNat_natCast, Bool.toNat_true, Bool.toNat_false]; try simp only [c_1, c_5, (Nat.not_lt.mp c_5), if_true, if_false, Bool.and_true, Bool.true_and, Bool.and_false, Bool.false_and, Bool.and_self, Bool.false_eq_true, ↓reduceIte, decide_true, decide_false, Int.toNat_natCast, Bool.toNat_true, Bool.toNat_false]; rfl))
        · refine r_aln F hl 0 rfl dX4_back_28 rfl ?_
          refine gf_X4_19 F B.1 0 rfl (.ref (q 5)) rfl dX4_back_29 ?_
          refine r_iln F hl 1 rfl dX4_back_32 rfl ?_
          refine r_aln F hl 0 rfl dX4_back_33 rfl ?_
          refine gf_X4_25 F B.1 0 rfl (.ref (q 7)) rfl dX4_back_34 ?_
          refine r_bp F 16 dX4_back_37 rfl ?_
          refine r_aln F hl 0 rfl dX4_back_39 rfl ?_
          refine gf_X4_96 F B.1 0 rfl (.int (iI (((M 7 0 - 1) : Nat) : Int))) rfl dX4_back_40 ?_
          refine r_mul F dX4_back_43 ?_
          refine r_iln F hl 1 rfl dX4_back_44 rfl ?_
          refine r_add F dX4_back_45 ?_
          refine r_ald (f := M 6) F B.1 6 rfl dX4_back_46 (by decide) (by omega) ?_
          refine r_ast (f := f) F B 4 (wM q cI (stR (stR M 7 (fun _ => (M 7 0 - 1))) 4 (upN (f) (k) (M 6 (((16 * (M 7 0 - 1)) + k)))))) rfl dX4_back_47 (by decide) (by omega) rfl (fun H locs B => ?_)
          refine r_inc (lv' := [(0, .ref (q 0)), (1, .int (iI (((k + 1) : Nat) : Int)))]) F hl 1 rfl dX4_back_48 1 rfl (by decide) [1, 0] rfl (fun ls hl => ?_)
          refine r_goto 22 F dX4_back_51 (by decide) ?_
          exact ih_3 ((k + 1)) (upN (f) (k) (M 6 (((16 * (M 7 0 - 1)) + k)))) _ _ ls (by omega) (by have h_ := hI; rw [lpR_step (by omega)] at h_; refine Eq.trans ?_ h_; first | rfl | (simp only [c_1, c_5, (Nat.not_le.mpr c_5), if_true, if_false, Bool.and_true, Bool.true_and, Bool.and_false, Bool.false_and, Bool.and_self, Bool.false_eq_true, ↓reduceIte, decide_true, decide_false, Int.toNat_natCast, Bool.toNat_true, Bool.toNat_false]; done) | (simp [c_1, c_5, (Nat.not_le.mpr c_5)]; done)) (by omega) B hl
    exact lp_2 _ (0) (M 4) _ _ ls (Nat.lt_succ_self _) rfl (by omega) B hl
  · refine r_bpz F (-2) dX4_back_7 rfl ?_
    exact r_retU F hr hlk hH B dX4_back_9 (by first | rfl | (simp only [g_back, g_backN, g_backS, if_true, if_false, Bool.and_true, Bool.true_and, Bool.and_false, Bool.false_and, Bool.and_self, Bool.false_eq_true, ↓reduceIte, decide_true, decide_false, Int.toNat_natCast, Bool.toNat_true, Bool.toNat_false]; first | done | rfl | (simp only [c_1, if_true, if_false, Bool.and_true, Bool.true_and, Bool.and_false, Bool.false_and, Bool.and_self, Bool.false_eq_true, ↓reduceIte, decide_true, decide_false, Int.toNat_natCast, Bool.toNat_true, Bool.toNat_false]; first | done | rfl) | (simp only [if_pos c_1]; first | done | rfl) | (simp [c_1]; done) | (simp [c_1]; first | rfl | omega)) | (simp [g_back, g_backN, g_backS, c_1]; done) | (simp [g_back, g_backN, g_backS, c_1]; omega) | (simp only [g_back, g_backN, g_backS, if_true, if_false, Bool.and_true, Bool.true_and, Bool.and_false, Bool.false_and, Bool.and_self, Bool.false_eq_true, ↓reduceIte, decide_true, decide_false, Int.toNat_natCast, Bool.toNat_true, Bool.toNat_false]; try simp only [c_1, if_true, if_false, Bool.and_true, Bool.true_and, Bool.and_false, Bool.false_and, Bool.and_self, Bool.false_eq_true, ↓reduceIte, decide_true, decide_false, Int.toNat_natCast, Bool.toNat_true, Bool.toNat_false]; rfl)) (by first | rfl | (simp only [g_back, g_backN, g_backS, if_true, if_false, Bool.and_true, Bool.true_and, Bool.and_false, Bool.false_and, Bool.and_self, Bool.false_eq_true, ↓reduceIte, decide_true, decide_false, Int.toNat_natCast, Bool.toNat_true, Bool.toNat_false]; first | done | rfl | (simp only [c_1, if_true, if_false, Bool.and_true, Bool.true_and, Bool.and_false, Bool.false_and, Bool.and_self, Bool.false_eq_true, ↓reduceIte, decide_true, decide_false, Int.toNat_natCast, Bool.toNat_true, Bool.toNat_false]; first | done | rfl) | (simp only [if_pos c_1]; first | done | rfl) | (simp [c_1]; done) | (simp [c_1]; first | rfl | omega)) | (simp [g_back, g_backN, g_backS, c_1]; done) | (simp [g_back, g_backN, g_backS, c_1]; omega) | (simp only [g_back, g_backN, g_backS, if_true, if_false, Bool.and_true, Bool.true_and, Bool.and_false, Bool.false_and, Bool.and_self, Bool.false_eq_true, ↓reduceIte, decide_true, decide_false, Int.toNat_natCast, Bool.toNat_true, Bool.toNat_false]; try simp only [c_1, if_true, if_false, Bool.and_true, Bool.true_and, Bool.and_false, Bool.false_and, Bool.and_self, Bool.false_eq_true, ↓reduceIte, decide_true, decide_false, Int.toNat_natCast, Bool.toNat_true, Bool.toNat_false]; rfl))
