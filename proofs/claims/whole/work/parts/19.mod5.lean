abbrev rm_X4_month : Room := { frames := 3, cells := 0, slots := 0, locals := 70 }
set_option maxHeartbeats 4000000 in
set_option maxRecDepth 100000 in
theorem k_X4_month (l : Launch) (D : va_G) (cI cB : ClassId) (q : Nat → Nat) (M : St) (z n i d : Int) (hz : (-2147483648 ≤ z ∧ z < 2147483648)) (hn : (-2147483648 ≤ n ∧ n < 2147483648)) (hi : (-2147483648 ≤ i ∧ i < 2147483648)) (hd : (-2147483648 ≤ d ∧ d < 2147483648)) (hp : 1 ≤ M 2 0 ∧ M 2 0 ≤ 5) (hbk : ∀ k, M 2 k < 256) (hs : ∀ k, M 4 k < 65536) (hs0 : M 4 0 ≤ 9999) (ha : ∀ k, M 5 k < 65536) : CtU l yX4_month cX4_month 9 (some .int) rm_X4_month D cI cB [.ref (q 0), .int (iI (z)), .int (iI (n)), .int (iI (i)), .int (iI (d))] (wM q cI M) (wM q cI (stR M 5 (g_monthA (M 2) (M 4) (M 5) z n i d))) ((iI (g_month (M 2) (M 4) (M 5) z n i d))) := by
  refine CtU.of RX4 (by decide) rfl (Nat.le_of_ble_eq_true rfl) ?_
  intro p e s m args below meth c H0 ls A hH hA F hr hlk B hl
  have hl : lv_has ls 9 [(0, .ref (q 0)), (1, .int (iI (z))), (2, .int (iI (n))), (3, .int (iI (i))), (4, .int (iI (d)))] := hl
  refine r_iln F hl 1 rfl dX4_month_0 rfl ?_
  refine r_ic F 0 dX4_month_1 rfl ?_
  refine r_sp F 9999 dX4_month_2 rfl ?_
  refine r_sq F B.1 (k_X4_in l D cI cB (z) ((0 : Int)) ((9999 : Int)) (by omega) (by omega) (by omega)) gw_X4_40 [] rfl ⟨⟨rfl, rfl⟩, Nat.le_of_ble_eq_true rfl, Nat.le_of_ble_eq_true rfl⟩ ⟨Nat.le_of_ble_eq_true rfl, Nat.le_of_ble_eq_true rfl⟩ hl.1 rfl [] rfl (Nat.le_of_ble_eq_true rfl) dX4_month_5 ?_
  refine r_zeqb 39 F dX4_month_8 (by decide) (fun c_1 => ?_) (fun c_1 => ?_)
  · have c_1d := c_1
    simp only [isIn, isP, decide_eq_true_eq, decide_eq_false_iff_not] at c_1d
    refine r_icz F (-1) dX4_month_39 rfl ?_
    exact r_retU F hr hlk hH B dX4_month_40 (by first | rfl | (simp only [g_month, g_monthA, vMonth, c_1, if_true, if_false, Bool.and_true, Bool.true_and, Bool.and_false, Bool.false_and, Bool.and_self, Bool.false_eq_true, ↓reduceIte, decide_true, decide_false, Int.toNat_natCast, Bool.toNat_true, Bool.toNat_false]; first | done | rfl | (simp only [if_true, if_true, if_false, Bool.and_true, Bool.true_and, Bool.and_false, Bool.false_and, Bool.and_self, Bool.false_eq_true, ↓reduceIte, decide_true, decide_false, Int.toNat_natCast, Bool.toNat_true, Bool.toNat_false]; first | done | rfl) | (simp only [if_true]; first | done | rfl) | (simp [if_true]; done) | (simp [if_true]; first | rfl | omega)) | (simp [g_month, g_monthA, vMonth, c_1]; done) | (simp [g_month, g_monthA, vMonth, c_1]; omega) | (simp only [g_month, g_monthA, vMonth, c_1, if_true, if_false, Bool.and_true, Bool.true_and, Bool.and_false, Bool.false_and, Bool.and_self, Bool.false_eq_true, ↓reduceIte, decide_true, decide_false, Int.toNat_natCast, Bool.toNat_true, Bool.toNat_false]; try simp only [if_true, if_true, if_false, Bool.and_true, Bool.true_and, Bool.and_false, Bool.false_and, Bool.and_self, Bool.false_eq_true, ↓reduceIte, decide_true, decide_false, Int.toNat_natCast, Bool.toNat_true, Bool.toNat_false]; rfl)) (by first | rfl | (simp only [g_month, g_monthA, vMonth, c_1, if_true, if_false, Bool.and_true, Bool.true_and, Bool.and_false, Bool.false_and, Bool.and_self, Bool.false_eq_true, ↓reduceIte, decide_true, decide_false, Int.toNat_natCast, Bool.toNat_true, Bool.toNat_false]; first | done | rfl | (simp only [if_true, if_true, if_false, Bool.and_true, Bool.true_and, Bool.and_false, Bool.false_and, Bool.and_self, Bool.false_eq_true, ↓reduceIte, decide_true, decide_false, Int.toNat_natCast, Bool.toNat_true, Bool.toNat_false]; first | done | rfl) | (simp only [if_true]; first | done | rfl) | (simp [if_true]; done) | (simp [if_true]; first | rfl | omega)) | (simp [g_month, g_monthA, vMonth, c_1]; done) | (simp [g_month, g_monthA, vMonth, c_1]; omega) | (simp only [g_month, g_monthA, vMonth, c_1, if_true, if_false, Bool.and_true, Bool.true_and, Bool.and_false, Bool.false_and, Bool.and_self, Bool.false_eq_true, ↓reduceIte, decide_true, decide_false, Int.toNat_natCast, Bool.toNat_true, Bool.toNat_false]; try simp only [if_true, if_true, if_false, Bool.and_true, Bool.true_and, Bool.and_false, Bool.false_and, Bool.and_self, Bool.false_eq_true, ↓reduceIte, decide_true, decide_false, Int.toNat_natCast, Bool.toNat_true, Bool.toNat_false]; rfl))
  · have c_1d := c_1
    simp only [isIn, isP, decide_eq_true_eq, decide_eq_false_iff_not] at c_1d
    refine r_iln F hl 2 rfl dX4_month_11 rfl ?_
    refine r_ic F 1 dX4_month_12 rfl ?_
    refine r_bp F 60 dX4_month_13 rfl ?_
    refine r_sq F B.1 (k_X4_in l D cI cB (n) ((1 : Int)) ((60 : Int)) (by omega) (by omega) (by omega)) gw_X4_40 [] rfl ⟨⟨rfl, rfl⟩, Nat.le_of_ble_eq_true rfl, Nat.le_of_ble_eq_true rfl⟩ ⟨Nat.le_of_ble_eq_true rfl, Nat.le_of_ble_eq_true rfl⟩ hl.1 rfl [] rfl (Nat.le_of_ble_eq_true rfl) dX4_month_15 ?_
    refine r_zeqb 39 F dX4_month_18 (by decide) (fun c_2 => ?_) (fun c_2 => ?_)
    · have c_2d := c_2
      simp only [isIn, isP, decide_eq_true_eq, decide_eq_false_iff_not] at c_2d
      refine r_icz F (-1) dX4_month_39 rfl ?_
      exact r_retU F hr hlk hH B dX4_month_40 (by first | rfl | (simp only [g_month, g_monthA, vMonth, c_1, c_2, if_true, if_false, Bool.and_true, Bool.true_and, Bool.and_false, Bool.false_and, Bool.and_self, Bool.false_eq_true, ↓reduceIte, decide_true, decide_false, Int.toNat_natCast, Bool.toNat_true, Bool.toNat_false]; first | done | rfl | (simp only [if_true, if_true, if_false, Bool.and_true, Bool.true_and, Bool.and_false, Bool.false_and, Bool.and_self, Bool.false_eq_true, ↓reduceIte, decide_true, decide_false, Int.toNat_natCast, Bool.toNat_true, Bool.toNat_false]; first | done | rfl) | (simp only [if_true]; first | done | rfl) | (simp [if_true]; done) | (simp [if_true]; first | rfl | omega)) | (simp [g_month, g_monthA, vMonth, c_1, c_2]; done) | (simp [g_month, g_monthA, vMonth, c_1, c_2]; omega) | (simp only [g_month, g_monthA, vMonth, c_1, c_2, if_true, if_false, Bool.and_true, Bool.true_and, Bool.and_false, Bool.false_and, Bool.and_self, Bool.false_eq_true, ↓reduceIte, decide_true, decide_false, Int.toNat_natCast, Bool.toNat_true, Bool.toNat_false]; try simp only [if_true, if_true, if_false, Bool.and_true, Bool.true_and, Bool.and_false, Bool.false_and, Bool.and_self, Bool.false_eq_true, ↓reduceIte, decide_true, decide_false, Int.toNat_natCast, Bool.toNat_true, Bool.toNat_false]; rfl)) (by first | rfl | (simp only [g_month, g_monthA, vMonth, c_1, c_2, if_true, if_false, Bool.and_true, Bool.true_and, Bool.and_false, Bool.false_and, Bool.and_self, Bool.false_eq_true, ↓reduceIte, decide_true, decide_false, Int.toNat_natCast, Bool.toNat_true, Bool.toNat_false]; first | done | rfl | (simp only [if_true, if_true, if_false, Bool.and_true, Bool.true_and, Bool.and_false, Bool.false_and, Bool.and_self, Bool.false_eq_true, ↓reduceIte, decide_true, decide_false, Int.toNat_natCast, Bool.toNat_true, Bool.toNat_false]; first | done | rfl) | (simp only [if_true]; first | done | rfl) | (simp [if_true]; done) | (simp [if_true]; first | rfl | omega)) | (simp [g_month, g_monthA, vMonth, c_1, c_2]; done) | (simp [g_month, g_monthA, vMonth, c_1, c_2]; omega) | (simp only [g_month, g_monthA, vMonth, c_1, c_2, if_true, if_false, Bool.and_true, Bool.true_and, Bool.and_false, Bool.false_and, Bool.and_self, Bool.false_eq_true, ↓reduceIte, decide_true, decide_false, Int.toNat_natCast, Bool.toNat_true, Bool.toNat_false]; try simp only [if_true, if_true, if_false, Bool.and_true, Bool.true_and, Bool.and_false, Bool.false_and, Bool.and_self, Bool.false_eq_true, ↓reduceIte, decide_true, decide_false, Int.toNat_natCast, Bool.toNat_true, Bool.toNat_false]; rfl))
    · have c_2d := c_2
      simp only [isIn, isP, decide_eq_true_eq, decide_eq_false_iff_not] at c_2d
      refine r_aln F hl 0 rfl dX4_month_21 rfl ?_
      refine r_iln F hl 3 rfl dX4_month_22 rfl ?_
      refine r_cq F B.1 (k_X4_isPerson l D cI cB (q) (M) (i) (by omega) hbk) gw_X4_99 [0, 1, 2, 3, 4, 5, 6, 7, 8, 9, 10] rfl rfl rfl ⟨⟨rfl, rfl⟩, Nat.le_of_ble_eq_true rfl, Nat.le_of_ble_eq_true rfl⟩ ⟨Nat.le_of_ble_eq_true rfl, Nat.le_of_ble_eq_true rfl⟩ hl.1 rfl [] rfl (Nat.le_of_ble_eq_true rfl) dX4_month_23 ?_
      refine r_zeqb 39 F dX4_month_26 (by decide) (fun c_3 => ?_) (fun c_3 => ?_)
      · have c_3d := c_3
        simp only [isIn, isP, decide_eq_true_eq, decide_eq_false_iff_not] at c_3d
        refine r_icz F (-1) dX4_month_39 rfl ?_
        exact r_retU F hr hlk hH B dX4_month_40 (by first | rfl | (simp only [g_month, g_monthA, vMonth, c_1, c_2, c_3, if_true, if_false, Bool.and_true, Bool.true_and, Bool.and_false, Bool.false_and, Bool.and_self, Bool.false_eq_true, ↓reduceIte, decide_true, decide_false, Int.toNat_natCast, Bool.toNat_true, Bool.toNat_false]; first | done | rfl | (simp only [if_true, if_true, if_false, Bool.and_true, Bool.true_and, Bool.and_false, Bool.false_and, Bool.and_self, Bool.false_eq_true, ↓reduceIte, decide_true, decide_false, Int.toNat_natCast, Bool.toNat_true, Bool.toNat_false]; first | done | rfl) | (simp only [if_true]; first | done | rfl) | (simp [if_true]; done) | (simp [if_true]; first | rfl | omega)) | (simp [g_month, g_monthA, vMonth, c_1, c_2, c_3]; done) | (simp [g_month, g_monthA, vMonth, c_1, c_2, c_3]; omega) | (simp only [g_month, g_monthA, vMonth, c_1, c_2, c_3, if_true, if_false, Bool.and_true, Bool.true_and, Bool.and_false, Bool.false_and, Bool.and_self, Bool.false_eq_true, ↓reduceIte, decide_true, decide_false, Int.toNat_natCast, Bool.toNat_true, Bool.toNat_false]; try simp only [if_true, if_true, if_false, Bool.and_true, Bool.true_and, Bool.and_false, Bool.false_and, Bool.and_self, Bool.false_eq_true, ↓reduceIte, decide_true, decide_false, Int.toNat_natCast, Bool.toNat_true, Bool.toNat_false]; rfl)) (by first | rfl | (simp only [g_month, g_monthA, vMonth, c_1, c_2, c_3, if_true, if_false, Bool.and_true, Bool.true_and, Bool.and_false, Bool.false_and, Bool.and_self, Bool.false_eq_true, ↓reduceIte, decide_true, decide_false, Int.toNat_natCast, Bool.toNat_true, Bool.toNat_false]; first | done | rfl | (simp only [if_true, if_true, if_false, Bool.and_true, Bool.true_and, Bool.and_false, Bool.false_and, Bool.and_self, Bool.false_eq_true, ↓reduceIte, decide_true, decide_false, Int.toNat_natCast, Bool.toNat_true, Bool.toNat_false]; first | done | rfl) | (simp only [if_true]; first | done | rfl) | (simp [if_true]; done) | (simp [if_true]; first | rfl | omega)) | (simp [g_month, g_monthA, vMonth, c_1, c_2, c_3]; done) | (simp [g_month, g_monthA, vMonth, c_1, c_2, c_3]; omega) | (simp only [g_month, g_monthA, vMonth, c_1, c_2, c_3, if_true, if_false, Bool.and_true, Bool.true_and, Bool.and_false, Bool.false_and, Bool.and_self, Bool.false_eq_true, ↓reduceIte, decide_true, decide_false, Int.toNat_natCast, Bool.toNat_true, Bool.toNat_false]; try simp only [if_true, if_true, if_false, Bool.and_true, Bool.true_and, Bool.and_false, Bool.false_and, Bool.and_self, Bool.false_eq_true, ↓reduceIte, decide_true, decide_false, Int.toNat_natCast, Bool.toNat_true, Bool.toNat_false]; rfl))
      · have c_3d := c_3
        simp only [isIn, isP, decide_eq_true_eq, decide_eq_false_iff_not] at c_3d
        refine r_il F hl 4 rfl dX4_month_29 ?_
        refine r_ic F 0 dX4_month_31 rfl ?_
        refine r_ic F 1 dX4_month_32 rfl ?_
        refine r_sq F B.1 (k_X4_in l D cI cB (d) ((0 : Int)) ((1 : Int)) (by omega) (by omega) (by omega)) gw_X4_40 [] rfl ⟨⟨rfl, rfl⟩, Nat.le_of_ble_eq_true rfl, Nat.le_of_ble_eq_true rfl⟩ ⟨Nat.le_of_ble_eq_true rfl, Nat.le_of_ble_eq_true rfl⟩ hl.1 rfl [] rfl (Nat.le_of_ble_eq_true rfl) dX4_month_33 ?_
        refine r_zneb 41 F dX4_month_36 (by decide) (fun c_4 => ?_) (fun c_4 => ?_)
        · have c_4d := c_4
          simp only [isIn, isP, decide_eq_true_eq, decide_eq_false_iff_not] at c_4d
          obtain ⟨z_, rfl⟩ : ∃ k : Nat, z = (k : Int) := ⟨z.toNat, by omega⟩
          have hl : lv_has ls 9 [(0, .ref (q 0)), (1, .int (iI ((z_ : Nat) : Int))), (2, .int (iI (n))), (3, .int (iI (i))), (4, .int (iI (d)))] := hl
          obtain ⟨n_, rfl⟩ : ∃ k : Nat, n = (k : Int) := ⟨n.toNat, by omega⟩
          have hl : lv_has ls 9 [(0, .ref (q 0)), (1, .int (iI ((z_ : Nat) : Int))), (2, .int (iI ((n_ : Nat) : Int))), (3, .int (iI (i))), (4, .int (iI (d)))] := hl
          obtain ⟨i_, rfl⟩ : ∃ k : Nat, i = (k : Int) := ⟨i.toNat, by omega⟩
          have hl : lv_has ls 9 [(0, .ref (q 0)), (1, .int (iI ((z_ : Nat) : Int))), (2, .int (iI ((n_ : Nat) : Int))), (3, .int (iI ((i_ : Nat) : Int))), (4, .int (iI (d)))] := hl
          obtain ⟨d_, rfl⟩ : ∃ k : Nat, d = (k : Int) := ⟨d.toNat, by omega⟩
          have hl : lv_has ls 9 [(0, .ref (q 0)), (1, .int (iI ((z_ : Nat) : Int))), (2, .int (iI ((n_ : Nat) : Int))), (3, .int (iI ((i_ : Nat) : Int))), (4, .int (iI ((d_ : Nat) : Int)))] := hl
          refine r_aln F hl 0 rfl dX4_month_41 rfl ?_
          refine r_ic F 0 dX4_month_42 rfl ?_
          refine r_cvW F hA B (k_X4_plays l D cI cB (q) (M) (0) (by omega) hp hbk hs hs0 ha) gw_X4_115 rfl rfl ⟨⟨rfl, rfl⟩, Nat.le_of_ble_eq_true rfl, Nat.le_of_ble_eq_true rfl⟩ ⟨Nat.le_of_ble_eq_true rfl, Nat.le_of_ble_eq_true rfl⟩ hl.1 rfl [] rfl (Nat.le_of_ble_eq_true rfl) dX4_month_43 (fun H locs B => ?_)
          have hb_5 : ∀ j_, (sp_plays (M 2) (M 4) (M 5) (0)) j_ < 65536 := (plays_all hs ha (by omega)).1
          have hq_ := (@plays_all (M 2) (M 4) (M 5) (0) hs ha (by omega)).2
          refine r_ic F 0 dX4_month_46 rfl ?_
          refine r_is (lv' := [(0, .ref (q 0)), (1, .int (iI ((z_ : Nat) : Int))), (2, .int (iI ((n_ : Nat) : Int))), (3, .int (iI ((i_ : Nat) : Int))), (4, .int (iI ((d_ : Nat) : Int))), (5, .int (iI ((0 : Nat) : Int)))]) F hl dX4_month_47 (by decide) [1, 2, 3, 4, 5, 0] rfl (fun ls hl => ?_)
          have lp_6 : ∀ (nn_ : Nat) (k : Nat) (f : Nat → Nat) (H : Heap) (locs : List Loc) (ls : Array Slot), n_ - k < nn_ → (lpR (mnB (M 2) z_) n_ k f = sp_month (M 2) (M 4) (M 5) z_ n_) → (∀ k, f k < 65536) → (f 0 = M 4 0 + k) → (k ≤ n_) → Bx D A H0 (wM q cI (stR M 5 (f))) H locs → lv_has ls 9 [(0, .ref (q 0)), (1, .int (iI ((z_ : Nat) : Int))), (2, .int (iI ((n_ : Nat) : Int))), (3, .int (iI ((i_ : Nat) : Int))), (4, .int (iI ((d_ : Nat) : Int))), (5, .int (iI ((k : Nat) : Int)))] → W p l e rm_X4_month s m args below meth c H locs 0 0 (Qu below args s D ((iI (g_month (M 2) (M 4) (M 5) ((z_ : Nat) : Int) ((n_ : Nat) : Int) ((i_ : Nat) : Int) ((d_ : Nat) : Int)))) (wM q cI (stR M 5 (g_monthA (M 2) (M 4) (M 5) ((z_ : Nat) : Int) ((n_ : Nat) : Int) ((i_ : Nat) : Int) ((d_ : Nat) : Int)))) A) (F0 m 49 ls []) := by
            intro nn_
            induction nn_ with
            | zero => intro k f H locs ls hlt; exact absurd hlt (Nat.not_lt_zero _)
            | succ nn_ ih =>
              have ih_7 := ih; clear ih
              intro k f H locs ls hlt hI hf h0 hk B hl
              have hlt_8 := hlt
              refine r_il F hl 5 rfl dX4_month_49 ?_
              refine r_iln F hl 2 rfl dX4_month_51 rfl ?_
              refine r_cge 135 F dX4_month_52 (by decide) (by omega) (fun c_9 => ?_) (fun c_9 => ?_)
              · obtain rfl : f = sp_month (M 2) (M 4) (M 5) z_ n_ := by rw [← hI, lpR_end (by omega)]
                refine r_aln F hl 0 rfl dX4_month_135 rfl ?_
                refine gf_X4_22 F B.1 0 rfl (.ref (q 6)) rfl dX4_month_136 ?_
                refine r_ic F 1 dX4_month_139 rfl ?_
                refine r_ic F 2 dX4_month_140 rfl ?_
                refine r_iln F hl 3 rfl dX4_month_141 rfl ?_
                refine r_mul F dX4_month_142 ?_
                refine r_add F dX4_month_143 ?_
                refine r_il F hl 4 rfl dX4_month_144 ?_
                refine r_add F dX4_month_146 ?_
                refine r_ald (f := (sp_month (M 2) (M 4) (M 5) z_ n_)) F B.1 5 rfl dX4_month_147 (by decide) (by omega) ?_
                have b_10 : ((sp_month (M 2) (M 4) (M 5) z_ n_)) (((1 + (2 * i_)) + d_)) < 65536 := hf (((1 + (2 * i_)) + d_))
                exact r_retU F hr hlk hH B dX4_month_148 (by first | rfl | (simp only [g_month, g_monthA, vMonth, c_1, c_2, c_3, c_4, if_true, if_false, Bool.and_true, Bool.true_and, Bool.and_false, Bool.false_and, Bool.and_self, Bool.false_eq_true, ↓reduceIte, decide_true, decide_false, Int.toNat_natCast, Bool.toNat_true, Bool.toNat_false]; first | done | rfl | (simp only [c_9, (Nat.not_lt.mp c_9), if_true, if_false, Bool.and_true, Bool.true_and, Bool.and_false, Bool.false_and, Bool.and_self, Bool.false_eq_true, ↓reduceIte, decide_true, decide_false, Int.toNat_natCast, Bool.toNat_true, Bool.toNat_false]; first | done | rfl) | (simp only [if_neg c_9, if_pos (Nat.not_lt.mp c_9)]; first | done | rfl) | (simp [c_9, (Nat.not_lt.mp c_9)]; done) | (simp [c_9, (Nat.not_lt.mp c_9)]; first | rfl | omega)) | (simp [g_month, g_monthA, vMonth, c_1, c_2, c_3, c_4, c_9, (Nat.not_lt.mp c_9)]; done) | (simp [g_month, g_monthA, vMonth, c_1, c_2, c_3, c_4, c_9, (Nat.not_lt.mp c_9)]; omega) | (simp only [g_month, g_monthA, vMonth, c_1, c_2, c_3, c_4, if_true, if_false, Bool.and_true, Bool.true_and, Bool.and_false, Bool.false_and, Bool.and_self, Bool.false_eq_true, ↓reduceIte, decide_true, decide_false, Int.toNat_natCast, Bool.toNat_true, Bool.toNat_false]; try simp only [c_9, (Nat.not_lt.mp c_9), if_true, if_false, Bool.and_true, Bool.true_and, Bool.and_false, Bool.false_and, Bool.and_self, Bool.false_eq_true, ↓reduceIte, decide_true, decide_false, Int.toNat_natCast, Bool.toNat_true, Bool.toNat_false]; rfl)) (by first | rfl | (simp only [g_month, g_monthA, vMonth, c_1, c_2, c_3, c_4, if_true, if_false, Bool.and_true, Bool.true_and, Bool.and_false, Bool.false_and, Bool.and_self, Bool.false_eq_true, ↓reduceIte, decide_true, decide_false, Int.toNat_natCast, Bool.toNat_true, Bool.toNat_false]; first | done | rfl | (simp only [c_9, (Nat.not_lt.mp c_9), if_true, if_false, Bool.and_true, Bool.true_and, Bool.and_false, Bool.false_and, Bool.and_self, Bool.false_eq_true, ↓reduceIte, decide_true, decide_false, Int.toNat_natCast, Bool.toNat_true, Bool.toNat_false]; first | done | rfl) | (simp only [if_neg c_9, if_pos (Nat.not_lt.mp c_9)]; first | done | rfl) | (simp [c_9, (Nat.not_lt.mp c_9)]; done) | (simp [c_9, (Nat.not_lt.mp c_9)]; first | rfl | omega)) | (simp [g_month, g_monthA, vMonth, c_1, c_2, c_3, c_4, c_9, (Nat.not_lt.mp c_9)]; done) | (simp [g_month, g_monthA, vMonth, c_1, c_2, c_3, c_4, c_9, (Nat.not_lt.mp c_9)]; omega) | (simp only [g_month, g_monthA, vMonth, c_1, c_2, c_3, c_4, if_true, if_false, Bool.and_true, Bool.true_and, Bool.and_false, Bool.false_and, Bool.and_self, Bool.false_eq_true, ↓reduceIte, decide_true, decide_false, Int.toNat_natCast, Bool.toNat_true, Bool.toNat_false]; try simp only [c_9, (Nat.not_lt.mp c_9), if_true, if_false, Bool.and_true, Bool.true_and, Bool.and_false, Bool.false_and, Bool.and_self, Bool.false_eq_true, ↓reduceIte, decide_true, decide_false, Int.toNat_natCast, Bool.toNat_true, Bool.toNat_false]; rfl))
              · refine r_ldc2 (lN 7919) F kL_X4_149 dX4_month_55 ?_
                refine r_iln F hl 1 rfl dX4_month_58 rfl ?_
                refine r_i2l F dX4_month_59 (by omega) ?_
                refine r_lmul F dX4_month_60 ?_
                refine r_ldc2 (lN 6151) F kL_X4_151 dX4_month_61 ?_
                refine r_il F hl 5 rfl dX4_month_64 ?_
                refine r_i2l F dX4_month_66 (by omega) ?_
                refine r_lmul F dX4_month_67 ?_
                refine r_ladd F dX4_month_68 ?_
                refine lv_lconst (v := lN 1) F.1.1 F.1.2.1 dX4_month_69 rfl ?_
                refine r_ladd F dX4_month_70 ?_
                refine r_lsL (lv' := [(0, .ref (q 0)), (1, .int (iI ((z_ : Nat) : Int))), (2, .int (iI ((n_ : Nat) : Int))), (3, .int (iI ((i_ : Nat) : Int))), (4, .int (iI ((d_ : Nat) : Int))), (5, .int (iI ((k : Nat) : Int))), (6, .long (lN ((((7919 * z_) + (6151 * k)) + 1))))]) F hl dX4_month_71 (by decide) [1, 2, 3, 4, 5, 6, 0] rfl (fun ls hl => ?_)
                refine r_ll F hl 6 rfl dX4_month_73 ?_
                refine r_ll F hl 6 rfl dX4_month_75 ?_
                refine r_lmul F dX4_month_77 ?_
                refine r_ldc2 (lN 65521) F kL_X4_153 dX4_month_78 ?_
                refine r_lrem F dX4_month_81 (sq_lt (by omega)) (by decide) (by decide) ?_
                refine r_l2i F dX4_month_82 ?_
                refine r_top (iI ((drw z_ k : Nat) : Int)) rfl ?_
                have hd_ := @drw_lt z_ k
                refine r_is (lv' := [(0, .ref (q 0)), (1, .int (iI ((z_ : Nat) : Int))), (2, .int (iI ((n_ : Nat) : Int))), (3, .int (iI ((i_ : Nat) : Int))), (4, .int (iI ((d_ : Nat) : Int))), (5, .int (iI ((k : Nat) : Int))), (6, .long (lN ((((7919 * z_) + (6151 * k)) + 1)))), (8, .int (iI ((drw z_ k : Nat) : Int)))]) F hl dX4_month_83 (by decide) [1, 2, 3, 4, 5, 6, 7, 0] rfl (fun ls hl => ?_)
                refine r_aln F hl 0 rfl dX4_month_85 rfl ?_
                refine gf_X4_22 F B.1 0 rfl (.ref (q 6)) rfl dX4_month_86 ?_
                refine r_ic F 1 dX4_month_89 rfl ?_
                refine r_ic F 2 dX4_month_90 rfl ?_
                refine r_il F hl 7 rfl dX4_month_91 ?_
                refine r_bp F 8 dX4_month_93 rfl ?_
                refine r_div F dX4_month_95 (by omega) ?_
                refine r_aln F hl 0 rfl dX4_month_96 rfl ?_
                refine gf_X4_13 F B.1 0 rfl (.ref (q 3)) rfl dX4_month_97 ?_
                refine r_ic F 0 dX4_month_100 rfl ?_
                refine r_ald (f := M 2) F B.1 2 rfl dX4_month_101 (by decide) (by omega) ?_
                have b_11 : M 2 (0) < 256 := hbk (0)
                refine r_rem F dX4_month_102 (by omega) ?_
                have hm_ : drw z_ k / 8 % M 2 0 < M 2 0 := Nat.mod_lt _ (by omega)
                refine r_mul F dX4_month_103 ?_
                refine r_add F dX4_month_104 ?_
                refine r_aln F hl 0 rfl dX4_month_105 rfl ?_
                refine gf_X4_22 F B.1 0 rfl (.ref (q 6)) rfl dX4_month_106 ?_
                refine r_ic F 0 dX4_month_109 rfl ?_
                refine r_ald (f := f) F B.1 5 rfl dX4_month_110 (by decide) (by omega) ?_
                have b_12 : f (0) < 65536 := hf (0)
                refine r_ic F 2 dX4_month_111 rfl ?_
                refine r_rem F dX4_month_112 (by omega) ?_
                refine r_add F dX4_month_113 ?_
                refine r_dup2 F dX4_month_114 rfl rfl ?_
                refine r_ald (f := f) F B.1 5 rfl dX4_month_115 (by decide) (by omega) ?_
                have b_13 : f (((1 + (2 * ((drw z_ k / 8) % M 2 (0)))) + (f (0) % 2))) < 65536 := hf (((1 + (2 * ((drw z_ k / 8) % M 2 (0)))) + (f (0) % 2)))
                refine r_ic F 1 dX4_month_116 rfl ?_
                refine r_il F hl 7 rfl dX4_month_117 ?_
                refine r_bp F 8 dX4_month_119 rfl ?_
                refine r_rem F dX4_month_121 (by omega) ?_
                have b_14 : 1 * 2 ^ ((drw z_ k % 8)) < 65536 := pw16 (by omega)
                refine r_shl F dX4_month_122 ⟨by omega, by omega⟩ ?_
                refine r_or F dX4_month_123 ?_
                have b_15 : (f (((1 + (2 * ((drw z_ k / 8) % M 2 (0)))) + (f (0) % 2))) ||| (1 * 2 ^ (drw z_ k % 8))) < 65536 := or16 (by omega) (by omega)
                have hb_16 : ∀ j_, upN (f) (((1 + (2 * ((drw z_ k / 8) % M 2 (0)))) + (f (0) % 2))) ((f (((1 + (2 * ((drw z_ k / 8) % M 2 (0)))) + (f (0) % 2))) ||| (1 * 2 ^ (drw z_ k % 8)))) j_ < 65536 := upN_lt hf (by omega)
                refine r_ast (f := f) F B 5 (wM q cI (stR M 5 (upN (f) (((1 + (2 * ((drw z_ k / 8) % M 2 (0)))) + (f (0) % 2))) ((f (((1 + (2 * ((drw z_ k / 8) % M 2 (0)))) + (f (0) % 2))) ||| (1 * 2 ^ (drw z_ k % 8))))))) rfl dX4_month_124 (by decide) (by omega) rfl (fun H locs B => ?_)
                refine r_aln F hl 0 rfl dX4_month_125 rfl ?_
                have hz_ := @upN_ne f (1 + 2 * (drw z_ k / 8 % M 2 0) + f 0 % 2) (f (1 + 2 * (drw z_ k / 8 % M 2 0) + f 0 % 2) ||| 1 * 2 ^ (drw z_ k % 8)) 0 (by omega)
                refine r_cvW F hA B (k_X4_ends l D cI cB (q) ((stR M 5 (upN (f) (((1 + (2 * ((drw z_ k / 8) % M 2 (0)))) + (f (0) % 2))) ((f (((1 + (2 * ((drw z_ k / 8) % M 2 (0)))) + (f (0) % 2))) ||| (1 * 2 ^ (drw z_ k % 8)))))))  hp hbk hb_16 (show (upN (f) (((1 + (2 * ((drw z_ k / 8) % M 2 (0)))) + (f (0) % 2))) ((f (((1 + (2 * ((drw z_ k / 8) % M 2 (0)))) + (f (0) % 2))) ||| (1 * 2 ^ (drw z_ k % 8))))) 0 < 65535 from by omega)) gw_X4_112 rfl rfl ⟨⟨rfl, rfl⟩, Nat.le_of_ble_eq_true rfl, Nat.le_of_ble_eq_true rfl⟩ ⟨Nat.le_of_ble_eq_true rfl, Nat.le_of_ble_eq_true rfl⟩ hl.1 rfl [] rfl (Nat.le_of_ble_eq_true rfl) dX4_month_126 (fun H locs B => ?_)
                have hb_17 : ∀ j_, (sp_ends (M 2) (upN (f) (((1 + (2 * ((drw z_ k / 8) % M 2 (0)))) + (f (0) % 2))) ((f (((1 + (2 * ((drw z_ k / 8) % M 2 (0)))) + (f (0) % 2))) ||| (1 * 2 ^ (drw z_ k % 8)))))) j_ < 65536 := ends_lt hb_16 (by omega)
                have hq_ := @ends_0 (M 2) (upN (f) (((1 + (2 * ((drw z_ k / 8) % M 2 (0)))) + (f (0) % 2))) ((f (((1 + (2 * ((drw z_ k / 8) % M 2 (0)))) + (f (0) % 2))) ||| (1 * 2 ^ (drw z_ k % 8)))))
                refine r_inc (lv' := [(0, .ref (q 0)), (1, .int (iI ((z_ : Nat) : Int))), (2, .int (iI ((n_ : Nat) : Int))), (3, .int (iI ((i_ : Nat) : Int))), (4, .int (iI ((d_ : Nat) : Int))), (5, .int (iI (((k + 1) : Nat) : Int))), (6, .long (lN ((((7919 * z_) + (6151 * k)) + 1)))), (8, .int (iI ((drw z_ k : Nat) : Int)))]) F hl 5 rfl dX4_month_129 1 rfl (by decide) [1, 2, 3, 4, 5, 0, 6, 7] rfl (fun ls hl => ?_)
                refine r_goto 49 F dX4_month_132 (by decide) ?_
                exact ih_7 ((k + 1)) (sp_ends (M 2) (upN (f) (((1 + (2 * ((drw z_ k / 8) % M 2 (0)))) + (f (0) % 2))) ((f (((1 + (2 * ((drw z_ k / 8) % M 2 (0)))) + (f (0) % 2))) ||| (1 * 2 ^ (drw z_ k % 8)))))) _ _ ls (by omega) (by have h_ := hI; rw [lpR_step (by omega)] at h_; refine Eq.trans ?_ h_; first | rfl | (simp only [mnB, c_1, c_2, c_3, c_4, c_9, (Nat.not_le.mpr c_9), if_true, if_false, Bool.and_true, Bool.true_and, Bool.and_false, Bool.false_and, Bool.and_self, Bool.false_eq_true, ↓reduceIte, decide_true, decide_false, Int.toNat_natCast, Bool.toNat_true, Bool.toNat_false]; done) | (simp [mnB, c_1, c_2, c_3, c_4, c_9, (Nat.not_le.mpr c_9)]; done)) hb_17 (by omega) (by omega) B (lv_sub hl [0, 1, 2, 3, 4, 5] rfl)
          exact lp_6 _ (0) (sp_plays (M 2) (M 4) (M 5) (0)) _ _ ls (Nat.lt_succ_self _) rfl hb_5 (by omega) (by omega) B hl
        · have c_4d := c_4
          simp only [isIn, isP, decide_eq_true_eq, decide_eq_false_iff_not] at c_4d
          refine r_icz F (-1) dX4_month_39 rfl ?_
          exact r_retU F hr hlk hH B dX4_month_40 (by first | rfl | (simp only [g_month, g_monthA, vMonth, c_1, c_2, c_3, c_4, if_true, if_false, Bool.and_true, Bool.true_and, Bool.and_false, Bool.false_and, Bool.and_self, Bool.false_eq_true, ↓reduceIte, decide_true, decide_false, Int.toNat_natCast, Bool.toNat_true, Bool.toNat_false]; first | done | rfl | (simp only [if_true, if_true, if_false, Bool.and_true, Bool.true_and, Bool.and_false, Bool.false_and, Bool.and_self, Bool.false_eq_true, ↓reduceIte, decide_true, decide_false, Int.toNat_natCast, Bool.toNat_true, Bool.toNat_false]; first | done | rfl) | (simp only [if_true]; first | done | rfl) | (simp [if_true]; done) | (simp [if_true]; first | rfl | omega)) | (simp [g_month, g_monthA, vMonth, c_1, c_2, c_3, c_4]; done) | (simp [g_month, g_monthA, vMonth, c_1, c_2, c_3, c_4]; omega) | (simp only [g_month, g_monthA, vMonth, c_1, c_2, c_3, c_4, if_true, if_false, Bool.and_true, Bool.true_and, Bool.and_false, Bool.false_and, Bool.and_self, Bool.false_eq_true, ↓reduceIte, decide_true, decide_false, Int.toNat_natCast, Bool.toNat_true, Bool.toNat_false]; try simp only [if_true, if_true, if_false, Bool.and_true, Bool.true_and, Bool.and_false, Bool.false_and, Bool.and_self, Bool.false_eq_true, ↓reduceIte, decide_true, decide_false, Int.toNat_natCast, Bool.toNat_true, Bool.toNat_false]; rfl)) (by first | rfl | (simp only [g_month, g_monthA, vMonth, c_1, c_2, c_3, c_4, if_true, if_false, Bool.and_true, Bool.true_and, Bool.and_false, Bool.false_and, Bool.and_self, Bool.false_eq_true, ↓reduceIte, decide_true, decide_false, Int.toNat_natCast, Bool.toNat_true, Bool.toNat_false]; first | done | rfl | (simp only [if_true, if_true, if_false, Bool.and_true, Bool.true_and, Bool.and_false, Bool.false_and, Bool.and_self, Bool.false_eq_true, ↓reduceIte, decide_true, decide_false, Int.toNat_natCast, Bool.toNat_true, Bool.toNat_false]; first | done | rfl) | (simp only [if_true]; first | done | rfl) | (simp [if_true]; done) | (simp [if_true]; first | rfl | omega)) | (simp [g_month, g_monthA, vMonth, c_1, c_2, c_3, c_4]; done) | (simp [g_month, g_monthA, vMonth, c_1, c_2, c_3, c_4]; omega) | (simp only [g_month, g_monthA, vMonth, c_1, c_2, c_3, c_4, if_true, if_false, Bool.and_true, Bool.true_and, Bool.and_false, Bool.false_and, Bool.and_self, Bool.false_eq_true, ↓reduceIte, decide_true, decide_false, Int.toNat_natCast, Bool.toNat_true, Bool.toNat_false]; try simp only [if_true, if_true, if_false, Bool.and_true, Bool.true_and, Bool.and_false, Bool.false_and, Bool.and_self, Bool.false_eq_true, ↓reduceIte, decide_true, decide_false, Int.toNat_natCast, Bool.toNat_true, Bool.toNat_false]; rfl))
abbrev rm_X4_write : Room := { frames := 1, cells := 0, slots := 0, locals := 22 }
set_option maxHeartbeats 4000000 in
set_option maxRecDepth 100000 in
theorem k_X4_write (l : Launch) (D : va_G) (cI cB : ClassId) (q : Nat → Nat) (M : St) (n : Int) (v : Int64) (hn : (-2147483648 ≤ n ∧ n < 2147483648)) (hlen : M 1 0 ≤ 300) (htx : ∀ k, M 0 k < 256) : CtU l yX4_write cX4_write 5 (some .int) rm_X4_write D cI cB [.ref (q 0), .int (iI (n)), .long (v)] (wM q cI M) (wM q cI (stR (stR M 0 (g_writeT (M 0) (M 1 0) n v)) 1 (fun _ => g_writeL (M 0) (M 1 0) n v))) ((iI (g_write (M 0) (M 1 0) n v))) := by
  refine CtU.of RX4 (by decide) rfl (Nat.le_of_ble_eq_true rfl) ?_
  intro p e s m args below meth c H0 ls A hH hA F hr hlk B hl
  have hl : lv_has ls 5 [(0, .ref (q 0)), (1, .int (iI (n))), (2, .long (v))] := hl
  refine r_iln F hl 1 rfl dX4_write_0 rfl ?_
  refine r_ic F 1 dX4_write_1 rfl ?_
  refine r_bp F 8 dX4_write_2 rfl ?_
  refine r_sq F B.1 (k_X4_in l D cI cB (n) ((1 : Int)) ((8 : Int)) (by omega) (by omega) (by omega)) gw_X4_40 [] rfl ⟨⟨rfl, rfl⟩, Nat.le_of_ble_eq_true rfl, Nat.le_of_ble_eq_true rfl⟩ ⟨Nat.le_of_ble_eq_true rfl, Nat.le_of_ble_eq_true rfl⟩ hl.1 rfl [] rfl (Nat.le_of_ble_eq_true rfl) dX4_write_4 ?_
  refine r_zneb 12 F dX4_write_7 (by decide) (fun c_1 => ?_) (fun c_1 => ?_)
  · have c_1d := c_1
    simp only [isIn, isP, decide_eq_true_eq, decide_eq_false_iff_not] at c_1d
    obtain ⟨n_, rfl⟩ : ∃ k : Nat, n = (k : Int) := ⟨n.toNat, by omega⟩
    have hl : lv_has ls 5 [(0, .ref (q 0)), (1, .int (iI ((n_ : Nat) : Int))), (2, .long (v))] := hl
    refine r_aln F hl 0 rfl dX4_write_12 rfl ?_
    refine gf_X4_44 F B.1 0 rfl (.int (iI ((M 1 0 : Nat) : Int))) rfl dX4_write_13 ?_
    refine r_iln F hl 1 rfl dX4_write_16 rfl ?_
    refine r_add F dX4_write_17 ?_
    refine r_sp F 300 dX4_write_18 rfl ?_
    refine r_cle 27 F dX4_write_21 (by decide) (by omega) (fun c_2 => ?_) (fun c_2 => ?_)
    · have hv_ : decide (M 1 0 + n_ ≤ 300) = true := decide_eq_true (by omega)
      refine r_iln F hl 1 rfl dX4_write_27 rfl ?_
      refine r_ic F 1 dX4_write_28 rfl ?_
      refine r_subz F dX4_write_29 ?_
      refine r_is (lv' := [(0, .ref (q 0)), (1, .int (iI ((n_ : Nat) : Int))), (2, .long (v)), (4, .int (iI ((((n_ : Nat) : Int) - (1 : Int)))))]) F hl dX4_write_30 (by decide) [1, 2, 3, 0] rfl (fun ls hl => ?_)
      have lp_3 : ∀ (nn_ : Nat) (j : Nat) (f : Nat → Nat) (u : Nat) (H : Heap) (locs : List Loc) (ls : Array Slot), j < nn_ → (wrF v j f u = wrF v n_ (M 0) (M 1 0)) → (∀ k, f k < 256) → (u + j ≤ 300) → (j ≤ n_) → Bx D A H0 (wM q cI (stR (stR M 0 (f)) 1 (fun _ => u))) H locs → lv_has ls 5 [(0, .ref (q 0)), (1, .int (iI ((n_ : Nat) : Int))), (2, .long (v)), (4, .int (iI ((((j : Nat) : Int) - 1))))] → W p l e rm_X4_write s m args below meth c H locs 0 0 (Qu below args s D ((iI (g_write (M 0) (M 1 0) ((n_ : Nat) : Int) v))) (wM q cI (stR (stR M 0 (g_writeT (M 0) (M 1 0) ((n_ : Nat) : Int) v)) 1 (fun _ => g_writeL (M 0) (M 1 0) ((n_ : Nat) : Int) v))) A) (F0 m 32 ls []) := by
        intro nn_
        induction nn_ with
        | zero => intro j f u H locs ls hlt; exact absurd hlt (Nat.not_lt_zero _)
        | succ nn_ ih =>
          have ih_4 := ih; clear ih
          intro j f u H locs ls hlt hI hf hu hj B hl
          have hlt_5 := hlt
          refine r_il F hl 3 rfl dX4_write_32 ?_
          refine r_zltz (a := (((j : Nat) : Int) - 1)) 74 F dX4_write_34 (by decide) (by omega) (fun c_6 => ?_) (fun c_6 => ?_)
          · have he_ : wrF v n_ (M 0) (M 1 0) = (f, u) := by rw [← hI, show j = 0 from by omega]; rfl
            refine r_aln F hl 0 rfl dX4_write_74 rfl ?_
            refine gf_X4_44 F B.1 0 rfl (.int (iI ((u : Nat) : Int))) rfl dX4_write_75 ?_
            exact r_retU F hr hlk hH B dX4_write_78 (by first | rfl | (simp only [g_write, vWrite, c_1, hv_, he_, if_true, if_false, Bool.and_true, Bool.true_and, Bool.and_false, Bool.false_and, Bool.and_self, Bool.false_eq_true, ↓reduceIte, decide_true, decide_false, Int.toNat_natCast, Bool.toNat_true, Bool.toNat_false]; first | done | rfl | (simp only [c_2, (Nat.not_lt.mp c_2), c_6, (Int.not_le.mpr c_6), if_true, if_false, Bool.and_true, Bool.true_and, Bool.and_false, Bool.false_and, Bool.and_self, Bool.false_eq_true, ↓reduceIte, decide_true, decide_false, Int.toNat_natCast, Bool.toNat_true, Bool.toNat_false]; first | done | rfl) | (simp only [if_neg c_2, if_pos (Nat.not_lt.mp c_2), if_pos c_6, if_neg (Int.not_le.mpr c_6)]; first | done | rfl) | (simp [c_2, (Nat.not_lt.mp c_2), c_6, (Int.not_le.mpr c_6)]; done) | (simp [c_2, (Nat.not_lt.mp c_2), c_6, (Int.not_le.mpr c_6)]; first | rfl | omega)) | (simp [g_write, vWrite, c_1, c_2, (Nat.not_lt.mp c_2), c_6, (Int.not_le.mpr c_6), hv_, he_]; done) | (simp [g_write, vWrite, c_1, c_2, (Nat.not_lt.mp c_2), c_6, (Int.not_le.mpr c_6), hv_, he_]; omega) | (simp only [g_write, vWrite, c_1, hv_, he_, if_true, if_false, Bool.and_true, Bool.true_and, Bool.and_false, Bool.false_and, Bool.and_self, Bool.false_eq_true, ↓reduceIte, decide_true, decide_false, Int.toNat_natCast, Bool.toNat_true, Bool.toNat_false]; try simp only [c_2, (Nat.not_lt.mp c_2), c_6, (Int.not_le.mpr c_6), if_true, if_false, Bool.and_true, Bool.true_and, Bool.and_false, Bool.false_and, Bool.and_self, Bool.false_eq_true, ↓reduceIte, decide_true, decide_false, Int.toNat_natCast, Bool.toNat_true, Bool.toNat_false]; rfl)) (by first | rfl | (simp only [g_writeT, g_writeL, vWrite, c_1, hv_, he_, if_true, if_false, Bool.and_true, Bool.true_and, Bool.and_false, Bool.false_and, Bool.and_self, Bool.false_eq_true, ↓reduceIte, decide_true, decide_false, Int.toNat_natCast, Bool.toNat_true, Bool.toNat_false]; first | done | rfl | (simp only [c_2, (Nat.not_lt.mp c_2), c_6, (Int.not_le.mpr c_6), if_true, if_false, Bool.and_true, Bool.true_and, Bool.and_false, Bool.false_and, Bool.and_self, Bool.false_eq_true, ↓reduceIte, decide_true, decide_false, Int.toNat_natCast, Bool.toNat_true, Bool.toNat_false]; first | done | rfl) | (simp only [if_neg c_2, if_pos (Nat.not_lt.mp c_2), if_pos c_6, if_neg (Int.not_le.mpr c_6)]; first | done | rfl) | (simp [c_2, (Nat.not_lt.mp c_2), c_6, (Int.not_le.mpr c_6)]; done) | (simp [c_2, (Nat.not_lt.mp c_2), c_6, (Int.not_le.mpr c_6)]; first | rfl | omega)) | (simp [g_writeT, g_writeL, vWrite, c_1, c_2, (Nat.not_lt.mp c_2), c_6, (Int.not_le.mpr c_6), hv_, he_]; done) | (simp [g_writeT, g_writeL, vWrite, c_1, c_2, (Nat.not_lt.mp c_2), c_6, (Int.not_le.mpr c_6), hv_, he_]; omega) | (simp only [g_writeT, g_writeL, vWrite, c_1, hv_, he_, if_true, if_false, Bool.and_true, Bool.true_and, Bool.and_false, Bool.false_and, Bool.and_self, Bool.false_eq_true, ↓reduceIte, decide_true, decide_false, Int.toNat_natCast, Bool.toNat_true, Bool.toNat_false]; try simp only [c_2, (Nat.not_lt.mp c_2), c_6, (Int.not_le.mpr c_6), if_true, if_false, Bool.and_true, Bool.true_and, Bool.and_false, Bool.false_and, Bool.and_self, Bool.false_eq_true, ↓reduceIte, decide_true, decide_false, Int.toNat_natCast, Bool.toNat_true, Bool.toNat_false]; rfl))
          · have hl : lv_has ls 5 [(0, .ref (q 0)), (1, .int (iI ((n_ : Nat) : Int))), (2, .long (v)), (4, .int (iI (((j - 1) : Nat) : Int)))] := by
              rw [show (((j : Nat) : Int) - 1) = (((j - 1) : Nat) : Int) from by omega] at hl
              exact hl
            refine r_aln F hl 0 rfl dX4_write_37 rfl ?_
            refine gf_X4_7 F B.1 0 rfl (.ref (q 1)) rfl dX4_write_38 ?_
            refine r_aln F hl 0 rfl dX4_write_41 rfl ?_
            refine gf_X4_44 F B.1 0 rfl (.int (iI ((u : Nat) : Int))) rfl dX4_write_42 ?_
            refine r_lln F hl 2 rfl dX4_write_45 rfl ?_
            refine r_bp F 8 dX4_write_46 rfl ?_
            refine r_il F hl 3 rfl dX4_write_48 ?_
            refine r_mul F dX4_write_50 ?_
            refine r_byte (k := j - 1) F kL_X4_48 (by omega) dX4_write_51 dX4_write_52 dX4_write_55 dX4_write_56 ?_
            have b_7 : byteOf v (j - 1) < 256 := byteOf_lt _ _
            have hb_8 : ∀ j_, upN (f) (u) (byteOf v (j - 1)) j_ < 256 := upN_lt hf (by omega)
            refine r_ast (f := f) F B 1 (wM q cI (stR (stR M 0 (upN (f) (u) (byteOf v (j - 1)))) 1 (fun _ => u))) rfl dX4_write_57 (by decide) (by omega) rfl (fun H locs B => ?_)
            refine r_aln F hl 0 rfl dX4_write_58 rfl ?_
            refine r_dup F dX4_write_59 rfl ?_
            refine gf_X4_44 F B.1 0 rfl (.int (iI ((u : Nat) : Int))) rfl dX4_write_60 ?_
            refine r_ic F 1 dX4_write_63 rfl ?_
            refine r_add F dX4_write_64 ?_
            refine pf_X4_44 F B 0 (wM q cI (stR (stR M 0 (upN (f) (u) (byteOf v (j - 1)))) 1 (fun _ => (u + 1)))) rfl rfl rfl (Nat.le_of_ble_eq_true rfl) rfl dX4_write_65 (fun H locs B => ?_)
            refine r_incz (lv' := [(0, .ref (q 0)), (1, .int (iI ((n_ : Nat) : Int))), (2, .long (v)), (4, .int (iI ((((j - 1 : Nat) : Int) - 1))))]) (b := (((j - 1 : Nat) : Int) - 1)) F hl 3 rfl dX4_write_68 (by omega) (by decide) [1, 2, 3, 0] rfl (fun ls hl => ?_)
            refine r_goto 32 F dX4_write_71 (by decide) ?_
            exact ih_4 (j - 1) (upN (f) (u) (byteOf v (j - 1))) ((u + 1)) _ _ ls (by omega) (by rw [← hI]; obtain ⟨j2, rfl⟩ : ∃ a, j = a + 1 := ⟨j - 1, by omega⟩; rfl) hb_8 (by omega) (by omega) B hl
      exact lp_3 _ (n_) (M 0) (M 1 0) _ _ ls (Nat.lt_succ_self _) rfl htx (by omega) (by omega) B hl
    · have hv_ : decide (M 1 0 + n_ ≤ 300) = false := decide_eq_false (by omega)
      refine r_bpz F (-3) dX4_write_24 rfl ?_
      exact r_retU F hr hlk hH B dX4_write_26 (by first | rfl | (simp only [g_write, vWrite, c_1, hv_, if_true, if_false, Bool.and_true, Bool.true_and, Bool.and_false, Bool.false_and, Bool.and_self, Bool.false_eq_true, ↓reduceIte, decide_true, decide_false, Int.toNat_natCast, Bool.toNat_true, Bool.toNat_false]; first | done | rfl | (simp only [c_2, (Nat.not_le.mpr c_2), if_true, if_false, Bool.and_true, Bool.true_and, Bool.and_false, Bool.false_and, Bool.and_self, Bool.false_eq_true, ↓reduceIte, decide_true, decide_false, Int.toNat_natCast, Bool.toNat_true, Bool.toNat_false]; first | done | rfl) | (simp only [if_pos c_2, if_neg (Nat.not_le.mpr c_2)]; first | done | rfl) | (simp [c_2, (Nat.not_le.mpr c_2)]; done) | (simp [c_2, (Nat.not_le.mpr c_2)]; first | rfl | omega)) | (simp [g_write, vWrite, c_1, c_2, (Nat.not_le.mpr c_2), hv_]; done) | (simp [g_write, vWrite, c_1, c_2, (Nat.not_le.mpr c_2), hv_]; omega) | (simp only [g_write, vWrite, c_1, hv_, if_true, if_false, Bool.and_true, Bool.true_and, Bool.and_false, Bool.false_and, Bool.and_self, Bool.false_eq_true, ↓reduceIte, decide_true, decide_false, Int.toNat_natCast, Bool.toNat_true, Bool.toNat_false]; try simp only [c_2, (Nat.not_le.mpr c_2), if_true, if_false, Bool.and_true, Bool.true_and, Bool.and_false, Bool.false_and, Bool.and_self, Bool.false_eq_true, ↓reduceIte, decide_true, decide_false, Int.toNat_natCast, Bool.toNat_true, Bool.toNat_false]; rfl)) (by first | rfl | (simp only [g_writeT, g_writeL, vWrite, c_1, hv_, if_true, if_false, Bool.and_true, Bool.true_and, Bool.and_false, Bool.false_and, Bool.and_self, Bool.false_eq_true, ↓reduceIte, decide_true, decide_false, Int.toNat_natCast, Bool.toNat_true, Bool.toNat_false]; first | done | rfl | (simp only [c_2, (Nat.not_le.mpr c_2), if_true, if_false, Bool.and_true, Bool.true_and, Bool.and_false, Bool.false_and, Bool.and_self, Bool.false_eq_true, ↓reduceIte, decide_true, decide_false, Int.toNat_natCast, Bool.toNat_true, Bool.toNat_false]; first | done | rfl) | (simp only [if_pos c_2, if_neg (Nat.not_le.mpr c_2)]; first | done | rfl) | (simp [c_2, (Nat.not_le.mpr c_2)]; done) | (simp [c_2, (Nat.not_le.mpr c_2)]; first | rfl | omega)) | (simp [g_writeT, g_writeL, vWrite, c_1, c_2, (Nat.not_le.mpr c_2), hv_]; done) | (simp [g_writeT, g_writeL, vWrite, c_1, c_2, (Nat.not_le.mpr c_2), hv_]; omega) | (simp only [g_writeT, g_writeL, vWrite, c_1, hv_, if_true, if_false, Bool.and_true, Bool.true_and, Bool.and_false, Bool.false_and, Bool.and_self, Bool.false_eq_true, ↓reduceIte, decide_true, decide_false, Int.toNat_natCast, Bool.toNat_true, Bool.toNat_false]; try simp only [c_2, (Nat.not_le.mpr c_2), if_true, if_false, Bool.and_true, Bool.true_and, Bool.and_false, Bool.false_and, Bool.and_self, Bool.false_eq_true, ↓reduceIte, decide_true, decide_false, Int.toNat_natCast, Bool.toNat_true, Bool.toNat_false]; rfl))
  · have c_1d := c_1
    simp only [isIn, isP, decide_eq_true_eq, decide_eq_false_iff_not] at c_1d
    refine r_icz F (-1) dX4_write_10 rfl ?_
    exact r_retU F hr hlk hH B dX4_write_11 (by first | rfl | (simp only [g_write, vWrite, c_1, if_true, if_false, Bool.and_true, Bool.true_and, Bool.and_false, Bool.false_and, Bool.and_self, Bool.false_eq_true, ↓reduceIte, decide_true, decide_false, Int.toNat_natCast, Bool.toNat_true, Bool.toNat_false]; first | done | rfl | (simp only [if_true, if_true, if_false, Bool.and_true, Bool.true_and, Bool.and_false, Bool.false_and, Bool.and_self, Bool.false_eq_true, ↓reduceIte, decide_true, decide_false, Int.toNat_natCast, Bool.toNat_true, Bool.toNat_false]; first | done | rfl) | (simp only [if_true]; first | done | rfl) | (simp [if_true]; done) | (simp [if_true]; first | rfl | omega)) | (simp [g_write, vWrite, c_1]; done) | (simp [g_write, vWrite, c_1]; omega) | (simp only [g_write, vWrite, c_1, if_true, if_false, Bool.and_true, Bool.true_and, Bool.and_false, Bool.false_and, Bool.and_self, Bool.false_eq_true, ↓reduceIte, decide_true, decide_false, Int.toNat_natCast, Bool.toNat_true, Bool.toNat_false]; try simp only [if_true, if_true, if_false, Bool.and_true, Bool.true_and, Bool.and_false, Bool.false_and, Bool.and_self, Bool.false_eq_true, ↓reduceIte, decide_true, decide_false, Int.toNat_natCast, Bool.toNat_true, Bool.toNat_false]; rfl)) (by first | rfl | (simp only [g_writeT, g_writeL, vWrite, c_1, if_true, if_false, Bool.and_true, Bool.true_and, Bool.and_false, Bool.false_and, Bool.and_self, Bool.false_eq_true, ↓reduceIte, decide_true, decide_false, Int.toNat_natCast, Bool.toNat_true, Bool.toNat_false]; first | done | rfl | (simp only [if_true, if_true, if_false, Bool.and_true, Bool.true_and, Bool.and_false, Bool.false_and, Bool.and_self, Bool.false_eq_true, ↓reduceIte, decide_true, decide_false, Int.toNat_natCast, Bool.toNat_true, Bool.toNat_false]; first | done | rfl) | (simp only [if_true]; first | done | rfl) | (simp [if_true]; done) | (simp [if_true]; first | rfl | omega)) | (simp [g_writeT, g_writeL, vWrite, c_1]; done) | (simp [g_writeT, g_writeL, vWrite, c_1]; omega) | (simp only [g_writeT, g_writeL, vWrite, c_1, if_true, if_false, Bool.and_true, Bool.true_and, Bool.and_false, Bool.false_and, Bool.and_self, Bool.false_eq_true, ↓reduceIte, decide_true, decide_false, Int.toNat_natCast, Bool.toNat_true, Bool.toNat_false]; try simp only [if_true, if_true, if_false, Bool.and_true, Bool.true_and, Bool.and_false, Bool.false_and, Bool.and_self, Bool.false_eq_true, ↓reduceIte, decide_true, decide_false, Int.toNat_natCast, Bool.toNat_true, Bool.toNat_false]; rfl))
