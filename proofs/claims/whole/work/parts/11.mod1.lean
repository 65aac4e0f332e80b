abbrev rm_X4_in : Room := { frames := 0, cells := 0, slots := 0, locals := 0 }
set_option maxHeartbeats 4000000 in
set_option maxRecDepth 100000 in
theorem k_X4_in (l : Launch) (D : va_G) (cI cB : ClassId) (v a b : Int) (hv : (-2147483648 ≤ v ∧ v < 2147483648)) (ha : (-2147483648 ≤ a ∧ a < 2147483648)) (hb : (-2147483648 ≤ b ∧ b < 2147483648)) : CtQ l yX4_in cX4_in 3 (some .boolean) rm_X4_in D cI cB [.int (iI (v)), .int (iI (a)), .int (iI (b))] ([]) ((iI ((Bool.toNat (isIn v a b) : Nat) : Int))) := by
  refine CtQ.of RX4 (by decide) rfl (Nat.le_of_ble_eq_true rfl) ?_
  intro p e s m args below meth c H ls hH F hr hlk P hl
  have hl : lv_has ls 3 [(0, .int (iI (v))), (1, .int (iI (a))), (2, .int (iI (b)))] := hl
  refine r_iln F hl 0 rfl dX4_in_0 rfl ?_
  refine r_iln F hl 1 rfl dX4_in_1 rfl ?_
  refine r_cltz (a := v) (b := a) 14 F dX4_in_2 (by decide) (by omega) (fun c_1 => ?_) (fun c_1 => ?_)
  · refine r_icb F false dX4_in_14 rfl ?_
    exact r_retQb F hr hlk hH dX4_in_15 (by first | rfl | (simp only [isIn, if_true, if_false, Bool.and_true, Bool.true_and, Bool.and_false, Bool.false_and, Bool.and_self, Bool.false_eq_true, ↓reduceIte, decide_true, decide_false, Int.toNat_natCast, Bool.toNat_true, Bool.toNat_false]; first | done | rfl | (simp only [c_1, (Int.not_le.mpr c_1), if_true, if_false, Bool.and_true, Bool.true_and, Bool.and_false, Bool.false_and, Bool.and_self, Bool.false_eq_true, ↓reduceIte, decide_true, decide_false, Int.toNat_natCast, Bool.toNat_true, Bool.toNat_false]; first | done | rfl) | (simp only [if_pos c_1, if_neg (Int.not_le.mpr c_1)]; first | done | rfl) | (simp [c_1, (Int.not_le.mpr c_1)]; done) | (simp [c_1, (Int.not_le.mpr c_1)]; first | rfl | omega)) | (simp [isIn, c_1, (Int.not_le.mpr c_1)]; done) | (simp [isIn, c_1, (Int.not_le.mpr c_1)]; omega) | (simp only [isIn, if_true, if_false, Bool.and_true, Bool.true_and, Bool.and_false, Bool.false_and, Bool.and_self, Bool.false_eq_true, ↓reduceIte, decide_true, decide_false, Int.toNat_natCast, Bool.toNat_true, Bool.toNat_false]; try simp only [c_1, (Int.not_le.mpr c_1), if_true, if_false, Bool.and_true, Bool.true_and, Bool.and_false, Bool.false_and, Bool.and_self, Bool.false_eq_true, ↓reduceIte, decide_true, decide_false, Int.toNat_natCast, Bool.toNat_true, Bool.toNat_false]; rfl))
  · refine r_iln F hl 0 rfl dX4_in_5 rfl ?_
    refine r_iln F hl 2 rfl dX4_in_6 rfl ?_
    refine r_cgtz (a := v) (b := b) 14 F dX4_in_7 (by decide) (by omega) (fun c_2 => ?_) (fun c_2 => ?_)
    · refine r_icb F false dX4_in_14 rfl ?_
      exact r_retQb F hr hlk hH dX4_in_15 (by first | rfl | (simp only [isIn, if_true, if_false, Bool.and_true, Bool.true_and, Bool.and_false, Bool.false_and, Bool.and_self, Bool.false_eq_true, ↓reduceIte, decide_true, decide_false, Int.toNat_natCast, Bool.toNat_true, Bool.toNat_false]; first | done | rfl | (simp only [c_1, (Int.not_lt.mp c_1), c_2, (Int.not_le.mpr c_2), if_true, if_false, Bool.and_true, Bool.true_and, Bool.and_false, Bool.false_and, Bool.and_self, Bool.false_eq_true, ↓reduceIte, decide_true, decide_false, Int.toNat_natCast, Bool.toNat_true, Bool.toNat_false]; first | done | rfl) | (simp only [if_neg c_1, if_pos (Int.not_lt.mp c_1), if_pos c_2, if_neg (Int.not_le.mpr c_2)]; first | done | rfl) | (simp [c_1, (Int.not_lt.mp c_1), c_2, (Int.not_le.mpr c_2)]; done) | (simp [c_1, (Int.not_lt.mp c_1), c_2, (Int.not_le.mpr c_2)]; first | rfl | omega)) | (simp [isIn, c_1, (Int.not_lt.mp c_1), c_2, (Int.not_le.mpr c_2)]; done) | (simp [isIn, c_1, (Int.not_lt.mp c_1), c_2, (Int.not_le.mpr c_2)]; omega) | (simp only [isIn, if_true, if_false, Bool.and_true, Bool.true_and, Bool.and_false, Bool.false_and, Bool.and_self, Bool.false_eq_true, ↓reduceIte, decide_true, decide_false, Int.toNat_natCast, Bool.toNat_true, Bool.toNat_false]; try simp only [c_1, (Int.not_lt.mp c_1), c_2, (Int.not_le.mpr c_2), if_true, if_false, Bool.and_true, Bool.true_and, Bool.and_false, Bool.false_and, Bool.and_self, Bool.false_eq_true, ↓reduceIte, decide_true, decide_false, Int.toNat_natCast, Bool.toNat_true, Bool.toNat_false]; rfl))
    · refine r_icb F true dX4_in_10 rfl ?_
      refine r_goto 15 F dX4_in_11 (by decide) ?_
      exact r_retQb F hr hlk hH dX4_in_15 (by first | rfl | (simp only [isIn, if_true, if_false, Bool.and_true, Bool.true_and, Bool.and_false, Bool.false_and, Bool.and_self, Bool.false_eq_true, ↓reduceIte, decide_true, decide_false, Int.toNat_natCast, Bool.toNat_true, Bool.toNat_false]; first | done | rfl | (simp only [c_1, (Int.not_lt.mp c_1), c_2, (Int.not_lt.mp c_2), if_true, if_false, Bool.and_true, Bool.true_and, Bool.and_false, Bool.false_and, Bool.and_self, Bool.false_eq_true, ↓reduceIte, decide_true, decide_false, Int.toNat_natCast, Bool.toNat_true, Bool.toNat_false]; first | done | rfl) | (simp only [if_neg c_1, if_pos (Int.not_lt.mp c_1), if_neg c_2, if_pos (Int.not_lt.mp c_2)]; first | done | rfl) | (simp [c_1, (Int.not_lt.mp c_1), c_2, (Int.not_lt.mp c_2)]; done) | (simp [c_1, (Int.not_lt.mp c_1), c_2, (Int.not_lt.mp c_2)]; first | rfl | omega)) | (simp [isIn, c_1, (Int.not_lt.mp c_1), c_2, (Int.not_lt.mp c_2)]; done) | (simp [isIn, c_1, (Int.not_lt.mp c_1), c_2, (Int.not_lt.mp c_2)]; omega) | (simp only [isIn, if_true, if_false, Bool.and_true, Bool.true_and, Bool.and_false, Bool.false_and, Bool.and_self, Bool.false_eq_true, ↓reduceIte, decide_true, decide_false, Int.toNat_natCast, Bool.toNat_true, Bool.toNat_false]; try simp only [c_1, (Int.not_lt.mp c_1), c_2, (Int.not_lt.mp c_2), if_true, if_false, Bool.and_true, Bool.true_and, Bool.and_false, Bool.false_and, Bool.and_self, Bool.false_eq_true, ↓reduceIte, decide_true, decide_false, Int.toNat_natCast, Bool.toNat_true, Bool.toNat_false]; rfl))
abbrev rm_X4_isPerson : Room := { frames := 1, cells := 0, slots := 0, locals := 22 }
set_option maxHeartbeats 4000000 in
set_option maxRecDepth 100000 in
theorem k_X4_isPerson (l : Launch) (D : va_G) (cI cB : ClassId) (q : Nat → Nat) (M : St) (i : Int) (hi : (-2147483648 ≤ i ∧ i < 2147483648)) (hbk : ∀ k, M 2 k < 256) : CtQ l yX4_isPerson cX4_isPerson 2 (some .boolean) rm_X4_isPerson D cI cB [.ref (q 0), .int (iI (i))] (wM q cI M) ((iI ((Bool.toNat (isP (M 2 0) i) : Nat) : Int))) := by
  refine CtQ.of RX4 (by decide) rfl (Nat.le_of_ble_eq_true rfl) ?_
  intro p e s m args below meth c H ls hH F hr hlk P hl
  have hl : lv_has ls 2 [(0, .ref (q 0)), (1, .int (iI (i)))] := hl
  refine r_iln F hl 1 rfl dX4_isPerson_0 rfl ?_
  refine r_ic F 0 dX4_isPerson_1 rfl ?_
  refine r_aln F hl 0 rfl dX4_isPerson_2 rfl ?_
  refine gf_X4_13 F P 0 rfl (.ref (q 3)) rfl dX4_isPerson_3 ?_
  refine r_ic F 0 dX4_isPerson_6 rfl ?_
  refine r_ald (f := M 2) F P 2 rfl dX4_isPerson_7 (by decide) (by omega) ?_
  have b_1 : M 2 (0) < 256 := hbk (0)
  refine r_ic F 1 dX4_isPerson_8 rfl ?_
  refine r_subz F dX4_isPerson_9 ?_
  refine r_sq F P (k_X4_in l D cI cB (i) ((0 : Int)) ((((M 2 (0) : Nat) : Int) - (1 : Int))) (by omega) (by omega) (by omega)) gw_X4_40 [] rfl ⟨⟨rfl, rfl⟩, Nat.le_of_ble_eq_true rfl, Nat.le_of_ble_eq_true rfl⟩ ⟨Nat.le_of_ble_eq_true rfl, Nat.le_of_ble_eq_true rfl⟩ hl.1 rfl [] rfl (Nat.le_of_ble_eq_true rfl) dX4_isPerson_10 ?_
  exact r_retQb F hr hlk hH dX4_isPerson_13 (dec_congr (by omega))
abbrev rm_X4_isTrade : Room := { frames := 1, cells := 0, slots := 0, locals := 22 }
set_option maxHeartbeats 4000000 in
set_option maxRecDepth 100000 in
theorem k_X4_isTrade (l : Launch) (D : va_G) (cI cB : ClassId) (q : Nat → Nat) (M : St) (i : Int) (hi : (-2147483648 ≤ i ∧ i < 2147483648)) (hbk : ∀ k, M 2 k < 256) : CtQ l yX4_isTrade cX4_isTrade 2 (some .boolean) rm_X4_isTrade D cI cB [.ref (q 0), .int (iI (i))] (wM q cI M) ((iI ((Bool.toNat (isP (M 2 1) i) : Nat) : Int))) := by
  refine CtQ.of RX4 (by decide) rfl (Nat.le_of_ble_eq_true rfl) ?_
  intro p e s m args below meth c H ls hH F hr hlk P hl
  have hl : lv_has ls 2 [(0, .ref (q 0)), (1, .int (iI (i)))] := hl
  refine r_iln F hl 1 rfl dX4_isTrade_0 rfl ?_
  refine r_ic F 0 dX4_isTrade_1 rfl ?_
  refine r_aln F hl 0 rfl dX4_isTrade_2 rfl ?_
  refine gf_X4_13 F P 0 rfl (.ref (q 3)) rfl dX4_isTrade_3 ?_
  refine r_ic F 1 dX4_isTrade_6 rfl ?_
  refine r_ald (f := M 2) F P 2 rfl dX4_isTrade_7 (by decide) (by omega) ?_
  have b_1 : M 2 (1) < 256 := hbk (1)
  refine r_ic F 1 dX4_isTrade_8 rfl ?_
  refine r_subz F dX4_isTrade_9 ?_
  refine r_sq F P (k_X4_in l D cI cB (i) ((0 : Int)) ((((M 2 (1) : Nat) : Int) - (1 : Int))) (by omega) (by omega) (by omega)) gw_X4_40 [] rfl ⟨⟨rfl, rfl⟩, Nat.le_of_ble_eq_true rfl, Nat.le_of_ble_eq_true rfl⟩ ⟨Nat.le_of_ble_eq_true rfl, Nat.le_of_ble_eq_true rfl⟩ hl.1 rfl [] rfl (Nat.le_of_ble_eq_true rfl) dX4_isTrade_10 ?_
  exact r_retQb F hr hlk hH dX4_isTrade_13 (dec_congr (by omega))
abbrev rm_X4_isSet : Room := { frames := 1, cells := 0, slots := 0, locals := 22 }
set_option maxHeartbeats 4000000 in
set_option maxRecDepth 100000 in
theorem k_X4_isSet (l : Launch) (D : va_G) (cI cB : ClassId) (v : Int) (hv : (-2147483648 ≤ v ∧ v < 2147483648)) : CtQ l yX4_isSet cX4_isSet 1 (some .boolean) rm_X4_isSet D cI cB [.int (iI (v))] ([]) ((iI ((Bool.toNat (isIn v 0 255) : Nat) : Int))) := by
  refine CtQ.of RX4 (by decide) rfl (Nat.le_of_ble_eq_true rfl) ?_
  intro p e s m args below meth c H ls hH F hr hlk P hl
  have hl : lv_has ls 1 [(0, .int (iI (v)))] := hl
  refine r_iln F hl 0 rfl dX4_isSet_0 rfl ?_
  refine r_ic F 0 dX4_isSet_1 rfl ?_
  refine r_sp F 255 dX4_isSet_2 rfl ?_
  refine r_sq F P (k_X4_in l D cI cB (v) ((0 : Int)) ((255 : Int)) (by omega) (by omega) (by omega)) gw_X4_40 [] rfl ⟨⟨rfl, rfl⟩, Nat.le_of_ble_eq_true rfl, Nat.le_of_ble_eq_true rfl⟩ ⟨Nat.le_of_ble_eq_true rfl, Nat.le_of_ble_eq_true rfl⟩ hl.1 rfl [] rfl (Nat.le_of_ble_eq_true rfl) dX4_isSet_5 ?_
  exact r_retQb F hr hlk hH dX4_isSet_8 (by first | rfl | (simp only [if_true, if_false, Bool.and_true, Bool.true_and, Bool.and_false, Bool.false_and, Bool.and_self, Bool.false_eq_true, ↓reduceIte, decide_true, decide_false, Int.toNat_natCast, Bool.toNat_true, Bool.toNat_false]; first | done | rfl | (simp only [if_true, if_true, if_false, Bool.and_true, Bool.true_and, Bool.and_false, Bool.false_and, Bool.and_self, Bool.false_eq_true, ↓reduceIte, decide_true, decide_false, Int.toNat_natCast, Bool.toNat_true, Bool.toNat_false]; first | done | rfl) | (simp only [if_true]; first | done | rfl) | (simp [if_true]; done) | (simp [if_true]; first | rfl | omega)) | (simp [if_true]; done) | (simp [if_true]; omega) | (simp only [if_true, if_false, Bool.and_true, Bool.true_and, Bool.and_false, Bool.false_and, Bool.and_self, Bool.false_eq_true, ↓reduceIte, decide_true, decide_false, Int.toNat_natCast, Bool.toNat_true, Bool.toNat_false]; try simp only [if_true, if_true, if_false, Bool.and_true, Bool.true_and, Bool.and_false, Bool.false_and, Bool.and_self, Bool.false_eq_true, ↓reduceIte, decide_true, decide_false, Int.toNat_natCast, Bool.toNat_true, Bool.toNat_false]; rfl))
abbrev rm_X4_awake : Room := { frames := 0, cells := 0, slots := 0, locals := 0 }
set_option maxHeartbeats 4000000 in
set_option maxRecDepth 100000 in
theorem k_X4_awake (l : Launch) (D : va_G) (cI cB : ClassId) (q : Nat → Nat) (M : St) (hs : ∀ k, M 4 k < 65536) : CtQ l yX4_awake cX4_awake 1 (some .int) rm_X4_awake D cI cB [.ref (q 0)] (wM q cI M) ((iI ((M 4 0 % 2 : Nat) : Int))) := by
  refine CtQ.of RX4 (by decide) rfl (Nat.le_of_ble_eq_true rfl) ?_
  intro p e s m args below meth c H ls hH F hr hlk P hl
  have hl : lv_has ls 1 [(0, .ref (q 0))] := hl
  refine r_aln F hl 0 rfl dX4_awake_0 rfl ?_
  refine gf_X4_19 F P 0 rfl (.ref (q 5)) rfl dX4_awake_1 ?_
  refine r_ic F 0 dX4_awake_4 rfl ?_
  refine r_ald (f := M 4) F P 4 rfl dX4_awake_5 (by decide) (by omega) ?_
  have b_1 : M 4 (0) < 65536 := hs (0)
  refine r_ic F 2 dX4_awake_6 rfl ?_
  refine r_rem F dX4_awake_7 (by omega) ?_
  exact r_retQ F hr hlk hH dX4_awake_8 (by first | rfl | (simp only [if_true, if_false, Bool.and_true, Bool.true_and, Bool.and_false, Bool.false_and, Bool.and_self, Bool.false_eq_true, ↓reduceIte, decide_true, decide_false, Int.toNat_natCast, Bool.toNat_true, Bool.toNat_false]; first | done | rfl | (simp only [if_true, if_true, if_false, Bool.and_true, Bool.true_and, Bool.and_false, Bool.false_and, Bool.and_self, Bool.false_eq_true, ↓reduceIte, decide_true, decide_false, Int.toNat_natCast, Bool.toNat_true, Bool.toNat_false]; first | done | rfl) | (simp only [if_true]; first | done | rfl) | (simp [if_true]; done) | (simp [if_true]; first | rfl | omega)) | (simp [if_true]; done) | (simp [if_true]; omega) | (simp only [if_true, if_false, Bool.and_true, Bool.true_and, Bool.and_false, Bool.false_and, Bool.and_self, Bool.false_eq_true, ↓reduceIte, decide_true, decide_false, Int.toNat_natCast, Bool.toNat_true, Bool.toNat_false]; try simp only [if_true, if_true, if_false, Bool.and_true, Bool.true_and, Bool.and_false, Bool.false_and, Bool.and_self, Bool.false_eq_true, ↓reduceIte, decide_true, decide_false, Int.toNat_natCast, Bool.toNat_true, Bool.toNat_false]; rfl))
abbrev rm_X4_tells : Room := { frames := 0, cells := 0, slots := 0, locals := 0 }
set_option maxHeartbeats 4000000 in
set_option maxRecDepth 100000 in
theorem k_X4_tells (l : Launch) (D : va_G) (cI cB : ClassId) (q : Nat → Nat) (M : St) (a b : Nat) (h1 : a < 65536) (hbk : ∀ k, M 2 k < 256) : CtQ l yX4_tells cX4_tells 6 (some .int) rm_X4_tells D cI cB [.ref (q 0), .int (iI ((a : Nat) : Int)), .int (iI ((b : Nat) : Int))] (wM q cI M) ((iI ((sp_tells (M 2 4) a b : Nat) : Int))) := by
  refine CtQ.of RX4 (by decide) rfl (Nat.le_of_ble_eq_true rfl) ?_
  intro p e s m args below meth c H ls hH F hr hlk P hl
  have hl : lv_has ls 6 [(0, .ref (q 0)), (1, .int (iI ((a : Nat) : Int))), (2, .int (iI ((b : Nat) : Int)))] := hl
  refine r_iln F hl 1 rfl dX4_tells_0 rfl ?_
  refine r_iln F hl 2 rfl dX4_tells_1 rfl ?_
  refine r_icz F (-1) dX4_tells_2 rfl ?_
  refine r_xorr F dX4_tells_3 (iI (((b : Nat) : Int)) ^^^ iI (-1)) rfl ?_
  refine r_andr F dX4_tells_4 _ (iI_anot _ _) ?_
  have b_1 : anot (a) (b) < 65536 := anot16 (by omega)
  refine r_isn (lv' := [(0, .ref (q 0)), (1, .int (iI ((a : Nat) : Int))), (2, .int (iI ((b : Nat) : Int))), (3, .int (iI ((anot (a) (b) : Nat) : Int)))]) F hl dX4_tells_5 rfl (by decide) [1, 2, 3, 0] rfl (fun ls hl => ?_)
  refine r_ic F 0 dX4_tells_6 rfl ?_
  refine r_is (lv' := [(0, .ref (q 0)), (1, .int (iI ((a : Nat) : Int))), (2, .int (iI ((b : Nat) : Int))), (3, .int (iI ((anot (a) (b) : Nat) : Int))), (4, .int (iI ((0 : Nat) : Int)))]) F hl dX4_tells_7 (by decide) [1, 2, 3, 4, 0] rfl (fun ls hl => ?_)
  refine r_ic F 0 dX4_tells_9 rfl ?_
  refine r_is (lv' := [(0, .ref (q 0)), (1, .int (iI ((a : Nat) : Int))), (2, .int (iI ((b : Nat) : Int))), (3, .int (iI ((anot (a) (b) : Nat) : Int))), (4, .int (iI ((0 : Nat) : Int))), (5, .int (iI ((0 : Nat) : Int)))]) F hl dX4_tells_10 (by decide) [1, 2, 3, 4, 5, 0] rfl (fun ls hl => ?_)
  have lp_2 : ∀ (nn_ : Nat) (x : Nat) (y : Nat) (k : Nat) (ls : Array Slot), M 2 4 - k < nn_ → ((lpR (fun _ => tlB) (M 2 4) k (y, x)).1 = sp_tells (M 2 4) a b) → (x < 65536) → (y < 65536) → (k ≤ M 2 4) → lv_has ls 6 [(0, .ref (q 0)), (1, .int (iI ((a : Nat) : Int))), (2, .int (iI ((b : Nat) : Int))), (3, .int (iI ((x : Nat) : Int))), (4, .int (iI ((y : Nat) : Int))), (5, .int (iI ((k : Nat) : Int)))] → W p l e rm_X4_tells s m args below meth c H [] 0 0 (Qq below args s ((iI ((sp_tells (M 2 4) a b : Nat) : Int)))) (F0 m 12 ls []) := by
    intro nn_
    induction nn_ with
    | zero => intro x y k ls hlt; exact absurd hlt (Nat.not_lt_zero _)
    | succ nn_ ih =>
      have ih_3 := ih; clear ih
      intro x y k ls hlt hI hx hy hk hl
      have hlt_4 := hlt
      refine r_il F hl 5 rfl dX4_tells_12 ?_
      refine r_aln F hl 0 rfl dX4_tells_14 rfl ?_
      refine gf_X4_13 F P 0 rfl (.ref (q 3)) rfl dX4_tells_15 ?_
      refine r_ic F 4 dX4_tells_18 rfl ?_
      refine r_ald (f := M 2) F P 2 rfl dX4_tells_19 (by decide) (by omega) ?_
      have b_5 : M 2 (4) < 256 := hbk (4)
      refine r_cge 44 F dX4_tells_20 (by decide) (by omega) (fun c_6 => ?_) (fun c_6 => ?_)
      · refine r_il F hl 4 rfl dX4_tells_44 ?_
        exact r_retQ F hr hlk hH dX4_tells_46 (by rw [← hI, lpR_end (by omega)])
      · refine r_il F hl 4 rfl dX4_tells_23 ?_
        refine r_iln F hl 3 rfl dX4_tells_25 rfl ?_
        refine r_iln F hl 3 rfl dX4_tells_26 rfl ?_
        refine r_negz F dX4_tells_27 ?_
        refine r_andr F dX4_tells_28 _ (iI_low (by omega)) ?_
        have b_7 : anot (x) (x - 1) < 65536 := anot16 (by omega)
        refine r_or F dX4_tells_29 ?_
        have b_8 : (y ||| anot (x) (x - 1)) < 65536 := or16 (by omega) (by omega)
        refine r_is (lv' := [(0, .ref (q 0)), (1, .int (iI ((a : Nat) : Int))), (2, .int (iI ((b : Nat) : Int))), (3, .int (iI ((x : Nat) : Int))), (4, .int (iI (((y ||| anot (x) (x - 1)) : Nat) : Int))), (5, .int (iI ((k : Nat) : Int)))]) F hl dX4_tells_30 (by decide) [1, 2, 3, 4, 0, 5] rfl (fun ls hl => ?_)
        refine r_iln F hl 3 rfl dX4_tells_32 rfl ?_
        refine r_iln F hl 3 rfl dX4_tells_33 rfl ?_
        refine r_ic F 1 dX4_tells_34 rfl ?_
        refine r_subz F dX4_tells_35 ?_
        refine r_andr F dX4_tells_36 _ (iI_prd (by omega)) ?_
        have b_9 : (x &&& (x - 1)) ≤ x := Nat.and_le_left
        refine r_isn (lv' := [(0, .ref (q 0)), (1, .int (iI ((a : Nat) : Int))), (2, .int (iI ((b : Nat) : Int))), (3, .int (iI (((x &&& (x - 1)) : Nat) : Int))), (4, .int (iI (((y ||| anot (x) (x - 1)) : Nat) : Int))), (5, .int (iI ((k : Nat) : Int)))]) F hl dX4_tells_37 rfl (by decide) [1, 2, 3, 0, 4, 5] rfl (fun ls hl => ?_)
        refine r_inc (lv' := [(0, .ref (q 0)), (1, .int (iI ((a : Nat) : Int))), (2, .int (iI ((b : Nat) : Int))), (3, .int (iI (((x &&& (x - 1)) : Nat) : Int))), (4, .int (iI (((y ||| anot (x) (x - 1)) : Nat) : Int))), (5, .int (iI (((k + 1) : Nat) : Int)))]) F hl 5 rfl dX4_tells_38 1 rfl (by decide) [1, 2, 3, 4, 5, 0] rfl (fun ls hl => ?_)
        refine r_goto 12 F dX4_tells_41 (by decide) ?_
        exact ih_3 ((x &&& (x - 1))) ((y ||| anot (x) (x - 1))) ((k + 1)) ls (by omega) (by have h_ := hI; rw [lpR_step (by omega)] at h_; refine Eq.trans ?_ h_; first | rfl | (simp only [tlB, c_6, (Nat.not_le.mpr c_6), if_true, if_false, Bool.and_true, Bool.true_and, Bool.and_false, Bool.false_and, Bool.and_self, Bool.false_eq_true, ↓reduceIte, decide_true, decide_false, Int.toNat_natCast, Bool.toNat_true, Bool.toNat_false]; done) | (simp [tlB, c_6, (Nat.not_le.mpr c_6)]; done)) (by omega) (by omega) (by omega) hl
  exact lp_2 _ (anot (a) (b)) (0) (0) ls (Nat.lt_succ_self _) rfl (by omega) (by omega) (by omega) hl
abbrev rm_X4_has : Room := { frames := 0, cells := 0, slots := 0, locals := 0 }
set_option maxHeartbeats 4000000 in
set_option maxRecDepth 100000 in
theorem k_X4_has (l : Launch) (D : va_G) (cI cB : ClassId) (q : Nat → Nat) (M : St) (i d j k : Nat) (hi : i < 5 ∧ d < 2 ∧ j < 4 ∧ k < 8) (hbk : ∀ k, M 2 k < 256) (hst : ∀ k, 32 ≤ k → k < 64 → M 2 k < 6) : CtQ l yX4_has cX4_has 5 (some .boolean) rm_X4_has D cI cB [.ref (q 0), .int (iI ((i : Nat) : Int)), .int (iI ((d : Nat) : Int)), .int (iI ((j : Nat) : Int)), .int (iI ((k : Nat) : Int))] (wM q cI M) ((iI ((Bool.toNat (sp_has (M 2) i d j k) : Nat) : Int))) := by
  refine CtQ.of RX4 (by decide) rfl (Nat.le_of_ble_eq_true rfl) ?_
  intro p e s m args below meth c H ls hH F hr hlk P hl
  have hl : lv_has ls 5 [(0, .ref (q 0)), (1, .int (iI ((i : Nat) : Int))), (2, .int (iI ((d : Nat) : Int))), (3, .int (iI ((j : Nat) : Int))), (4, .int (iI ((k : Nat) : Int)))] := hl
  refine r_aln F hl 0 rfl dX4_has_0 rfl ?_
  refine gf_X4_13 F P 0 rfl (.ref (q 3)) rfl dX4_has_1 ?_
  refine r_bp F 8 dX4_has_4 rfl ?_
  refine r_ic F 2 dX4_has_6 rfl ?_
  refine r_iln F hl 1 rfl dX4_has_7 rfl ?_
  refine r_mul F dX4_has_8 ?_
  refine r_add F dX4_has_9 ?_
  refine r_iln F hl 2 rfl dX4_has_10 rfl ?_
  refine r_add F dX4_has_11 ?_
  refine r_ald (f := M 2) F P 2 rfl dX4_has_12 (by decide) (by omega) ?_
  have b_1 : M 2 (((8 + (2 * i)) + d)) < 256 := hbk (((8 + (2 * i)) + d))
  refine r_aln F hl 0 rfl dX4_has_13 rfl ?_
  refine gf_X4_13 F P 0 rfl (.ref (q 3)) rfl dX4_has_14 ?_
  refine r_bp F 32 dX4_has_17 rfl ?_
  refine r_bp F 8 dX4_has_19 rfl ?_
  refine r_iln F hl 3 rfl dX4_has_21 rfl ?_
  refine r_mul F dX4_has_22 ?_
  refine r_add F dX4_has_23 ?_
  refine r_il F hl 4 rfl dX4_has_24 ?_
  refine r_add F dX4_has_26 ?_
  refine r_ald (f := M 2) F P 2 rfl dX4_has_27 (by decide) (by omega) ?_
  have b_2 : M 2 (((32 + (8 * j)) + k)) < 256 := hbk (((32 + (8 * j)) + k))
  have hq_ := hst (32 + 8 * j + k) (by omega) (by omega)
  refine r_shr F dX4_has_28 ⟨by omega, by omega⟩ ?_
  have b_3 : (M 2 (((8 + (2 * i)) + d)) / 2 ^ M 2 (((32 + (8 * j)) + k))) ≤ M 2 (((8 + (2 * i)) + d)) := Nat.div_le_self _ _
  refine r_ic F 1 dX4_has_29 rfl ?_
  refine r_and F dX4_has_30 ?_
  have b_4 : ((M 2 (((8 + (2 * i)) + d)) / 2 ^ M 2 (((32 + (8 * j)) + k))) &&& 1) ≤ 1 := Nat.and_le_right
  refine r_ic F 1 dX4_has_31 rfl ?_
  refine r_cne 39 F dX4_has_32 (by decide) (by omega) (fun c_5 => ?_) (fun c_5 => ?_)
  · refine r_icb F false dX4_has_39 rfl ?_
    exact r_retQb F hr hlk hH dX4_has_40 (by first | rfl | (simp only [sp_has, if_true, if_false, Bool.and_true, Bool.true_and, Bool.and_false, Bool.false_and, Bool.and_self, Bool.false_eq_true, ↓reduceIte, decide_true, decide_false, Int.toNat_natCast, Bool.toNat_true, Bool.toNat_false]; first | done | rfl | (simp only [c_5, if_true, if_false, Bool.and_true, Bool.true_and, Bool.and_false, Bool.false_and, Bool.and_self, Bool.false_eq_true, ↓reduceIte, decide_true, decide_false, Int.toNat_natCast, Bool.toNat_true, Bool.toNat_false]; first | done | rfl) | (simp only [if_neg c_5]; first | done | rfl) | (simp [c_5]; done) | (simp [c_5]; first | rfl | omega)) | (simp [sp_has, c_5]; done) | (simp [sp_has, c_5]; omega) | (simp only [sp_has, if_true, if_false, Bool.and_true, Bool.true_and, Bool.and_false, Bool.false_and, Bool.and_self, Bool.false_eq_true, ↓reduceIte, decide_true, decide_false, Int.toNat_natCast, Bool.toNat_true, Bool.toNat_false]; try simp only [c_5, if_true, if_false, Bool.and_true, Bool.true_and, Bool.and_false, Bool.false_and, Bool.and_self, Bool.false_eq_true, ↓reduceIte, decide_true, decide_false, Int.toNat_natCast, Bool.toNat_true, Bool.toNat_false]; rfl))
  · refine r_icb F true dX4_has_35 rfl ?_
    refine r_goto 40 F dX4_has_36 (by decide) ?_
    exact r_retQb F hr hlk hH dX4_has_40 (by first | rfl | (simp only [sp_has, if_true, if_false, Bool.and_true, Bool.true_and, Bool.and_false, Bool.false_and, Bool.and_self, Bool.false_eq_true, ↓reduceIte, decide_true, decide_false, Int.toNat_natCast, Bool.toNat_true, Bool.toNat_false]; first | done | rfl | (simp only [c_5, if_true, if_false, Bool.and_true, Bool.true_and, Bool.and_false, Bool.false_and, Bool.and_self, Bool.false_eq_true, ↓reduceIte, decide_true, decide_false, Int.toNat_natCast, Bool.toNat_true, Bool.toNat_false]; first | done | rfl) | (simp only [if_pos c_5]; first | done | rfl) | (simp [c_5]; done) | (simp [c_5]; first | rfl | omega)) | (simp [sp_has, c_5]; done) | (simp [sp_has, c_5]; omega) | (simp only [sp_has, if_true, if_false, Bool.and_true, Bool.true_and, Bool.and_false, Bool.false_and, Bool.and_self, Bool.false_eq_true, ↓reduceIte, decide_true, decide_false, Int.toNat_natCast, Bool.toNat_true, Bool.toNat_false]; try simp only [c_5, if_true, if_false, Bool.and_true, Bool.true_and, Bool.and_false, Bool.false_and, Bool.and_self, Bool.false_eq_true, ↓reduceIte, decide_true, decide_false, Int.toNat_natCast, Bool.toNat_true, Bool.toNat_false]; rfl))
abbrev rm_X4_camp : Room := { frames := 0, cells := 0, slots := 0, locals := 0 }
set_option maxHeartbeats 4000000 in
set_option maxRecDepth 100000 in
theorem k_X4_camp (l : Launch) (D : va_G) (cI cB : ClassId) (way half : Nat) (h1 : way < 65536) (h2 : half < 16) : CtQ l yX4_camp cX4_camp 2 (some .int) rm_X4_camp D cI cB [.int (iI ((way : Nat) : Int)), .int (iI ((half : Nat) : Int))] ([]) ((iI ((sp_camp way half : Nat) : Int))) := by
  refine CtQ.of RX4 (by decide) rfl (Nat.le_of_ble_eq_true rfl) ?_
  intro p e s m args below meth c H ls hH F hr hlk P hl
  have hl : lv_has ls 2 [(0, .int (iI ((way : Nat) : Int))), (1, .int (iI ((half : Nat) : Int)))] := hl
  refine r_iln F hl 0 rfl dX4_camp_0 rfl ?_
  refine r_iln F hl 1 rfl dX4_camp_1 rfl ?_
  refine r_ic F 2 dX4_camp_2 rfl ?_
  refine r_div F dX4_camp_3 (by omega) ?_
  refine r_shr F dX4_camp_4 ⟨by omega, by omega⟩ ?_
  have b_1 : (way / 2 ^ (half / 2)) ≤ way := Nat.div_le_self _ _
  refine r_ic F 1 dX4_camp_5 rfl ?_
  refine r_and F dX4_camp_6 ?_
  have b_2 : ((way / 2 ^ (half / 2)) &&& 1) ≤ 1 := Nat.and_le_right
  refine r_iln F hl 1 rfl dX4_camp_7 rfl ?_
  refine r_ic F 2 dX4_camp_8 rfl ?_
  refine r_rem F dX4_camp_9 (by omega) ?_
  refine r_xor F dX4_camp_10 ?_
  have b_3 : (((way / 2 ^ (half / 2)) &&& 1) ^^^ (half % 2)) < 65536 := xor16 (by omega) (by omega)
  exact r_retQ F hr hlk hH dX4_camp_11 (by first | rfl | (simp only [sp_camp, if_true, if_false, Bool.and_true, Bool.true_and, Bool.and_false, Bool.false_and, Bool.and_self, Bool.false_eq_true, ↓reduceIte, decide_true, decide_false, Int.toNat_natCast, Bool.toNat_true, Bool.toNat_false]; first | done | rfl | (simp only [if_true, if_true, if_false, Bool.and_true, Bool.true_and, Bool.and_false, Bool.false_and, Bool.and_self, Bool.false_eq_true, ↓reduceIte, decide_true, decide_false, Int.toNat_natCast, Bool.toNat_true, Bool.toNat_false]; first | done | rfl) | (simp only [if_true]; first | done | rfl) | (simp [if_true]; done) | (simp [if_true]; first | rfl | omega)) | (simp [sp_camp]; done) | (simp [sp_camp]; omega) | (simp only [sp_camp, if_true, if_false, Bool.and_true, Bool.true_and, Bool.and_false, Bool.false_and, Bool.and_self, Bool.false_eq_true, ↓reduceIte, decide_true, decide_false, Int.toNat_natCast, Bool.toNat_true, Bool.toNat_false]; try simp only [if_true, if_true, if_false, Bool.and_true, Bool.true_and, Bool.and_false, Bool.false_and, Bool.and_self, Bool.false_eq_true, ↓reduceIte, decide_true, decide_false, Int.toNat_natCast, Bool.toNat_true, Bool.toNat_false]; rfl))
abbrev rm_X4_holds : Room := { frames := 0, cells := 0, slots := 0, locals := 0 }
set_option maxHeartbeats 4000000 in
set_option maxRecDepth 100000 in
theorem k_X4_holds (l : Launch) (D : va_G) (cI cB : ClassId) (q : Nat → Nat) (M : St) (x y d : Nat) (hx : x < 10 ∧ y < 10 ∧ d < 2) (hbk : ∀ k, M 2 k < 256) : CtQ l yX4_holds cX4_holds 5 (some .int) rm_X4_holds D cI cB [.ref (q 0), .int (iI ((x : Nat) : Int)), .int (iI ((y : Nat) : Int)), .int (iI ((d : Nat) : Int))] (wM q cI M) ((iI ((sp_holds (M 2 5) (M 2 6) (M 2 7) x y d : Nat) : Int))) := by
  refine CtQ.of RX4 (by decide) rfl (Nat.le_of_ble_eq_true rfl) ?_
  intro p e s m args below meth c H ls hH F hr hlk P hl
  have hl : lv_has ls 5 [(0, .ref (q 0)), (1, .int (iI ((x : Nat) : Int))), (2, .int (iI ((y : Nat) : Int))), (3, .int (iI ((d : Nat) : Int)))] := hl
  refine r_aln F hl 0 rfl dX4_holds_0 rfl ?_
  refine gf_X4_13 F P 0 rfl (.ref (q 3)) rfl dX4_holds_1 ?_
  refine r_ic F 5 dX4_holds_4 rfl ?_
  refine r_ald (f := M 2) F P 2 rfl dX4_holds_5 (by decide) (by omega) ?_
  have b_1 : M 2 (5) < 256 := hbk (5)
  refine r_iln F hl 1 rfl dX4_holds_6 rfl ?_
  refine r_subz F dX4_holds_7 ?_
  refine r_iln F hl 2 rfl dX4_holds_8 rfl ?_
  refine r_subz F dX4_holds_9 ?_
  refine r_is (lv' := [(0, .ref (q 0)), (1, .int (iI ((x : Nat) : Int))), (2, .int (iI ((y : Nat) : Int))), (3, .int (iI ((d : Nat) : Int))), (4, .int (iI (((((M 2 (5) : Nat) : Int) - ((x : Nat) : Int)) - ((y : Nat) : Int)))))]) F hl dX4_holds_10 (by decide) [1, 2, 3, 4, 0] rfl (fun ls hl => ?_)
  refine r_il F hl 4 rfl dX4_holds_12 ?_
  refine r_zgez (a := ((((M 2 (5) : Nat) : Int) - ((x : Nat) : Int)) - ((y : Nat) : Int))) 21 F dX4_holds_14 (by decide) (by omega) (fun c_2 => ?_) (fun c_2 => ?_)
  · have hl : lv_has ls 5 [(0, .ref (q 0)), (1, .int (iI ((x : Nat) : Int))), (2, .int (iI ((y : Nat) : Int))), (3, .int (iI ((d : Nat) : Int))), (4, .int (iI (((M 2 5 - x - y) : Nat) : Int)))] := by
      rw [show ((((M 2 (5) : Nat) : Int) - ((x : Nat) : Int)) - ((y : Nat) : Int)) = (((M 2 5 - x - y) : Nat) : Int) from by omega] at hl
      exact hl
    refine r_iln F hl 3 rfl dX4_holds_21 rfl ?_
    refine r_zne 37 F dX4_holds_22 (by decide) (by omega) (fun c_3 => ?_) (fun c_3 => ?_)
    · have hq_ : ¬ M 2 5 < x + y := by omega
      refine r_iln F hl 2 rfl dX4_holds_37 rfl ?_
      refine r_aln F hl 0 rfl dX4_holds_38 rfl ?_
      refine gf_X4_13 F P 0 rfl (.ref (q 3)) rfl dX4_holds_39 ?_
      refine r_bp F 7 dX4_holds_42 rfl ?_
      refine r_ald (f := M 2) F P 2 rfl dX4_holds_44 (by decide) (by omega) ?_
      have b_4 : M 2 (7) < 256 := hbk (7)
      refine r_mul F dX4_holds_45 ?_
      refine r_il F hl 4 rfl dX4_holds_46 ?_
      refine r_ic F 2 dX4_holds_48 rfl ?_
      refine r_div F dX4_holds_49 (by omega) ?_
      refine r_add F dX4_holds_50 ?_
      exact r_retQ F hr hlk hH dX4_holds_51 (by simp [sp_holds, hq_, c_2, (Int.not_lt.mp c_2), c_3])
    · have hq_ : ¬ M 2 5 < x + y := by omega
      refine r_iln F hl 1 rfl dX4_holds_25 rfl ?_
      refine r_aln F hl 0 rfl dX4_holds_26 rfl ?_
      refine gf_X4_13 F P 0 rfl (.ref (q 3)) rfl dX4_holds_27 ?_
      refine r_bp F 6 dX4_holds_30 rfl ?_
      refine r_ald (f := M 2) F P 2 rfl dX4_holds_32 (by decide) (by omega) ?_
      have b_5 : M 2 (6) < 256 := hbk (6)
      refine r_mul F dX4_holds_33 ?_
      refine r_goto 46 F dX4_holds_34 (by decide) ?_
      refine r_il F hl 4 rfl dX4_holds_46 ?_
      refine r_ic F 2 dX4_holds_48 rfl ?_
      refine r_div F dX4_holds_49 (by omega) ?_
      refine r_add F dX4_holds_50 ?_
      exact r_retQ F hr hlk hH dX4_holds_51 (by simp [sp_holds, hq_, c_2, (Int.not_lt.mp c_2), c_3])
  · have hq_ : M 2 5 < x + y := by omega
    refine r_ic F 0 dX4_holds_17 rfl ?_
    refine r_goto 51 F dX4_holds_18 (by decide) ?_
    exact r_retQ F hr hlk hH dX4_holds_51 (by simp [sp_holds, hq_, c_2, (Int.not_le.mpr c_2)])
abbrev rm_X4_whoKnow : Room := { frames := 0, cells := 0, slots := 0, locals := 0 }
set_option maxHeartbeats 4000000 in
set_option maxRecDepth 100000 in
theorem k_X4_whoKnow (l : Launch) (D : va_G) (cI cB : ClassId) (q : Nat → Nat) (M : St) (x : Nat) (hx : x < 65536) (hp : 1 ≤ M 2 0 ∧ M 2 0 ≤ 5) (hbk : ∀ k, M 2 k < 256) (ha : ∀ k, M 5 k < 65536) : CtQ l yX4_whoKnow cX4_whoKnow 4 (some .int) rm_X4_whoKnow D cI cB [.ref (q 0), .int (iI ((x : Nat) : Int))] (wM q cI M) ((iI ((sp_who (M 2 0) x (M 5) : Nat) : Int))) := by
  refine CtQ.of RX4 (by decide) rfl (Nat.le_of_ble_eq_true rfl) ?_
  intro p e s m args below meth c H ls hH F hr hlk P hl
  have hl : lv_has ls 4 [(0, .ref (q 0)), (1, .int (iI ((x : Nat) : Int)))] := hl
  refine r_ic F 0 dX4_whoKnow_0 rfl ?_
  refine r_isn (lv' := [(0, .ref (q 0)), (1, .int (iI ((x : Nat) : Int))), (2, .int (iI ((0 : Nat) : Int)))]) F hl dX4_whoKnow_1 rfl (by decide) [1, 2, 0] rfl (fun ls hl => ?_)
  refine r_ic F 0 dX4_whoKnow_2 rfl ?_
  refine r_isn (lv' := [(0, .ref (q 0)), (1, .int (iI ((x : Nat) : Int))), (2, .int (iI ((0 : Nat) : Int))), (3, .int (iI ((0 : Nat) : Int)))]) F hl dX4_whoKnow_3 rfl (by decide) [1, 2, 3, 0] rfl (fun ls hl => ?_)
  have lp_1 : ∀ (nn_ : Nat) (y : Nat) (i : Nat) (ls : Array Slot), M 2 0 - i < nn_ → (lpR (wkB x (M 5)) (M 2 0) i y = sp_who (M 2 0) x (M 5)) → (y < 65536) → (i ≤ M 2 0) → lv_has ls 4 [(0, .ref (q 0)), (1, .int (iI ((x : Nat) : Int))), (2, .int (iI ((y : Nat) : Int))), (3, .int (iI ((i : Nat) : Int)))] → W p l e rm_X4_whoKnow s m args below meth c H [] 0 0 (Qq below args s ((iI ((sp_who (M 2 0) x (M 5) : Nat) : Int)))) (F0 m 4 ls []) := by
    intro nn_
    induction nn_ with
    | zero => intro y i ls hlt; exact absurd hlt (Nat.not_lt_zero _)
    | succ nn_ ih =>
      have ih_2 := ih; clear ih
      intro y i ls hlt hI hy hk hl
      have hlt_3 := hlt
      refine r_iln F hl 3 rfl dX4_whoKnow_4 rfl ?_
      refine r_aln F hl 0 rfl dX4_whoKnow_5 rfl ?_
      refine gf_X4_13 F P 0 rfl (.ref (q 3)) rfl dX4_whoKnow_6 ?_
      refine r_ic F 0 dX4_whoKnow_9 rfl ?_
      refine r_ald (f := M 2) F P 2 rfl dX4_whoKnow_10 (by decide) (by omega) ?_
      have b_4 : M 2 (0) < 256 := hbk (0)
      refine r_cge 56 F dX4_whoKnow_11 (by decide) (by omega) (fun c_5 => ?_) (fun c_5 => ?_)
      · refine r_iln F hl 2 rfl dX4_whoKnow_56 rfl ?_
        exact r_retQ F hr hlk hH dX4_whoKnow_57 (by rw [← hI, lpR_end (by omega)])
      · refine r_iln F hl 2 rfl dX4_whoKnow_14 rfl ?_
        refine r_iln F hl 1 rfl dX4_whoKnow_15 rfl ?_
        refine r_aln F hl 0 rfl dX4_whoKnow_16 rfl ?_
        refine gf_X4_22 F P 0 rfl (.ref (q 6)) rfl dX4_whoKnow_17 ?_
        refine r_ic F 1 dX4_whoKnow_20 rfl ?_
        refine r_ic F 2 dX4_whoKnow_21 rfl ?_
        refine r_iln F hl 3 rfl dX4_whoKnow_22 rfl ?_
        refine r_mul F dX4_whoKnow_23 ?_
        refine r_add F dX4_whoKnow_24 ?_
        refine r_aln F hl 0 rfl dX4_whoKnow_25 rfl ?_
        refine gf_X4_22 F P 0 rfl (.ref (q 6)) rfl dX4_whoKnow_26 ?_
        refine r_ic F 0 dX4_whoKnow_29 rfl ?_
        refine r_ald (f := M 5) F P 5 rfl dX4_whoKnow_30 (by decide) (by omega) ?_
        have b_6 : M 5 (0) < 65536 := ha (0)
        refine r_ic F 2 dX4_whoKnow_31 rfl ?_
        refine r_rem F dX4_whoKnow_32 (by omega) ?_
        refine r_add F dX4_whoKnow_33 ?_
        refine r_ald (f := M 5) F P 5 rfl dX4_whoKnow_34 (by decide) (by omega) ?_
        have b_7 : M 5 (((1 + (2 * i)) + (M 5 (0) % 2))) < 65536 := ha (((1 + (2 * i)) + (M 5 (0) % 2)))
        refine r_icz F (-1) dX4_whoKnow_35 rfl ?_
        refine r_xorr F dX4_whoKnow_36 (iI (((M 5 (((1 + (2 * i)) + (M 5 (0) % 2))) : Nat) : Int)) ^^^ iI (-1)) rfl ?_
        refine r_andr F dX4_whoKnow_37 _ (iI_anot _ _) ?_
        have b_8 : anot (x) (M 5 (((1 + (2 * i)) + (M 5 (0) % 2)))) < 65536 := anot16 (by omega)
        refine r_zne 47 F dX4_whoKnow_38 (by decide) (by omega) (fun c_9 => ?_) (fun c_9 => ?_)
        · refine r_ic F 0 dX4_whoKnow_47 rfl ?_
          refine r_or F dX4_whoKnow_48 ?_
          have b_10 : (y ||| 0) < 65536 := or16 (by omega) (by omega)
          refine r_isn (lv' := [(0, .ref (q 0)), (1, .int (iI ((x : Nat) : Int))), (2, .int (iI (((y ||| 0) : Nat) : Int))), (3, .int (iI ((i : Nat) : Int)))]) F hl dX4_whoKnow_49 rfl (by decide) [1, 2, 0, 3] rfl (fun ls hl => ?_)
          refine r_inc (lv' := [(0, .ref (q 0)), (1, .int (iI ((x : Nat) : Int))), (2, .int (iI (((y ||| 0) : Nat) : Int))), (3, .int (iI (((i + 1) : Nat) : Int)))]) F hl 3 rfl dX4_whoKnow_50 1 rfl (by decide) [1, 2, 3, 0] rfl (fun ls hl => ?_)
          refine r_goto 4 F dX4_whoKnow_53 (by decide) ?_
          exact ih_2 ((y ||| 0)) ((i + 1)) ls (by omega) (by have h_ := hI; rw [lpR_step (by omega)] at h_; refine Eq.trans ?_ h_; first | rfl | (simp only [wkB, c_5, (Nat.not_le.mpr c_5), c_9, if_true, if_false, Bool.and_true, Bool.true_and, Bool.and_false, Bool.false_and, Bool.and_self, Bool.false_eq_true, ↓reduceIte, decide_true, decide_false, Int.toNat_natCast, Bool.toNat_true, Bool.toNat_false]; done) | (simp [wkB, c_5, (Nat.not_le.mpr c_5), c_9]; done)) (by omega) (by omega) hl
        · refine r_ic F 1 dX4_whoKnow_41 rfl ?_
          refine r_iln F hl 3 rfl dX4_whoKnow_42 rfl ?_
          have b_11 : 1 * 2 ^ (i) < 65536 := pw16 (by omega)
          refine r_shl F dX4_whoKnow_43 ⟨by omega, by omega⟩ ?_
          refine r_goto 48 F dX4_whoKnow_44 (by decide) ?_
          refine r_or F dX4_whoKnow_48 ?_
          have b_12 : (y ||| (1 * 2 ^ i)) < 65536 := or16 (by omega) (by omega)
          refine r_isn (lv' := [(0, .ref (q 0)), (1, .int (iI ((x : Nat) : Int))), (2, .int (iI (((y ||| (1 * 2 ^ i)) : Nat) : Int))), (3, .int (iI ((i : Nat) : Int)))]) F hl dX4_whoKnow_49 rfl (by decide) [1, 2, 0, 3] rfl (fun ls hl => ?_)
          refine r_inc (lv' := [(0, .ref (q 0)), (1, .int (iI ((x : Nat) : Int))), (2, .int (iI (((y ||| (1 * 2 ^ i)) : Nat) : Int))), (3, .int (iI (((i + 1) : Nat) : Int)))]) F hl 3 rfl dX4_whoKnow_50 1 rfl (by decide) [1, 2, 3, 0] rfl (fun ls hl => ?_)
          refine r_goto 4 F dX4_whoKnow_53 (by decide) ?_
          exact ih_2 ((y ||| (1 * 2 ^ i))) ((i + 1)) ls (by omega) (by have h_ := hI; rw [lpR_step (by omega)] at h_; refine Eq.trans ?_ h_; first | rfl | (simp only [wkB, c_5, (Nat.not_le.mpr c_5), c_9, if_true, if_false, Bool.and_true, Bool.true_and, Bool.and_false, Bool.false_and, Bool.and_self, Bool.false_eq_true, ↓reduceIte, decide_true, decide_false, Int.toNat_natCast, Bool.toNat_true, Bool.toNat_false]; done) | (simp [wkB, c_5, (Nat.not_le.mpr c_5), c_9]; done)) (by omega) (by omega) hl
  exact lp_1 _ (0) (0) ls (Nat.lt_succ_self _) rfl (by omega) (by omega) hl
abbrev rm_X4_parts : Room := { frames := 1, cells := 0, slots := 0, locals := 21 }
set_option maxHeartbeats 4000000 in
set_option maxRecDepth 100000 in
theorem k_X4_parts (l : Launch) (D : va_G) (cI cB : ClassId) (q : Nat → Nat) (M : St) (way : Nat) (hw : way < 65536) (hbk : ∀ k, M 2 k < 256) (hpr : M 2 2 ≤ 8 ∧ ∀ k, 64 ≤ k → k < 80 → M 2 k < 16) : CtQ l yX4_parts cX4_parts 4 (some .int) rm_X4_parts D cI cB [.ref (q 0), .int (iI ((way : Nat) : Int))] (wM q cI M) ((iI ((sp_parts (M 2) way : Nat) : Int))) := by
  refine CtQ.of RX4 (by decide) rfl (Nat.le_of_ble_eq_true rfl) ?_
  intro p e s m args below meth c H ls hH F hr hlk P hl
  have hl : lv_has ls 4 [(0, .ref (q 0)), (1, .int (iI ((way : Nat) : Int)))] := hl
  refine r_ic F 0 dX4_parts_0 rfl ?_
  refine r_isn (lv' := [(0, .ref (q 0)), (1, .int (iI ((way : Nat) : Int))), (2, .int (iI ((0 : Nat) : Int)))]) F hl dX4_parts_1 rfl (by decide) [1, 2, 0] rfl (fun ls hl => ?_)
  refine r_ic F 0 dX4_parts_2 rfl ?_
  refine r_isn (lv' := [(0, .ref (q 0)), (1, .int (iI ((way : Nat) : Int))), (2, .int (iI ((0 : Nat) : Int))), (3, .int (iI ((0 : Nat) : Int)))]) F hl dX4_parts_3 rfl (by decide) [1, 2, 3, 0] rfl (fun ls hl => ?_)
  have lp_1 : ∀ (nn_ : Nat) (y : Nat) (k : Nat) (ls : Array Slot), M 2 2 - k < nn_ → (lpR (ptB (M 2) way) (M 2 2) k y = sp_parts (M 2) way) → (y ≤ k) → (k ≤ M 2 2) → lv_has ls 4 [(0, .ref (q 0)), (1, .int (iI ((way : Nat) : Int))), (2, .int (iI ((y : Nat) : Int))), (3, .int (iI ((k : Nat) : Int)))] → W p l e rm_X4_parts s m args below meth c H [] 0 0 (Qq below args s ((iI ((sp_parts (M 2) way : Nat) : Int)))) (F0 m 4 ls []) := by
    intro nn_
    induction nn_ with
    | zero => intro y k ls hlt; exact absurd hlt (Nat.not_lt_zero _)
    | succ nn_ ih =>
      have ih_2 := ih; clear ih
      intro y k ls hlt hI hy hk hl
      have hlt_3 := hlt
      refine r_iln F hl 3 rfl dX4_parts_4 rfl ?_
      refine r_aln F hl 0 rfl dX4_parts_5 rfl ?_
      refine gf_X4_13 F P 0 rfl (.ref (q 3)) rfl dX4_parts_6 ?_
      refine r_ic F 2 dX4_parts_9 rfl ?_
      refine r_ald (f := M 2) F P 2 rfl dX4_parts_10 (by decide) (by omega) ?_
      have b_4 : M 2 (2) < 256 := hbk (2)
      refine r_cge 63 F dX4_parts_11 (by decide) (by omega) (fun c_5 => ?_) (fun c_5 => ?_)
      · refine r_iln F hl 2 rfl dX4_parts_63 rfl ?_
        exact r_retQ F hr hlk hH dX4_parts_64 (by rw [← hI, lpR_end (by omega)])
      · refine r_iln F hl 2 rfl dX4_parts_14 rfl ?_
        refine r_iln F hl 1 rfl dX4_parts_15 rfl ?_
        refine r_aln F hl 0 rfl dX4_parts_16 rfl ?_
        refine gf_X4_13 F P 0 rfl (.ref (q 3)) rfl dX4_parts_17 ?_
        refine r_bp F 64 dX4_parts_20 rfl ?_
        refine r_ic F 2 dX4_parts_22 rfl ?_
        refine r_iln F hl 3 rfl dX4_parts_23 rfl ?_
        refine r_mul F dX4_parts_24 ?_
        refine r_add F dX4_parts_25 ?_
        refine r_ald (f := M 2) F P 2 rfl dX4_parts_26 (by decide) (by omega) ?_
        have b_6 : M 2 ((64 + (2 * k))) < 256 := hbk ((64 + (2 * k)))
        have hq_ := hpr.2 (64 + 2 * k) (by omega) (by omega)
        refine r_sq F P (k_X4_camp l D cI cB (way) (M 2 ((64 + (2 * k)))) (by omega) (by omega)) gw_X4_140 [] rfl ⟨⟨rfl, rfl⟩, Nat.le_of_ble_eq_true rfl, Nat.le_of_ble_eq_true rfl⟩ ⟨Nat.le_of_ble_eq_true rfl, Nat.le_of_ble_eq_true rfl⟩ hl.1 rfl [.int (iI ((y : Nat) : Int))] rfl (Nat.le_of_ble_eq_true rfl) dX4_parts_27 ?_
        have hq_ := @camp_lt (way) (M 2 ((64 + (2 * k))))
        refine r_iln F hl 1 rfl dX4_parts_30 rfl ?_
        refine r_aln F hl 0 rfl dX4_parts_31 rfl ?_
        refine gf_X4_13 F P 0 rfl (.ref (q 3)) rfl dX4_parts_32 ?_
        refine r_bp F 64 dX4_parts_35 rfl ?_
        refine r_ic F 2 dX4_parts_37 rfl ?_
        refine r_iln F hl 3 rfl dX4_parts_38 rfl ?_
        refine r_mul F dX4_parts_39 ?_
        refine r_add F dX4_parts_40 ?_
        refine r_ic F 1 dX4_parts_41 rfl ?_
        refine r_add F dX4_parts_42 ?_
        refine r_ald (f := M 2) F P 2 rfl dX4_parts_43 (by decide) (by omega) ?_
        have b_7 : M 2 (((64 + (2 * k)) + 1)) < 256 := hbk (((64 + (2 * k)) + 1))
        have hq_ := hpr.2 (64 + 2 * k + 1) (by omega) (by omega)
        refine r_sq F P (k_X4_camp l D cI cB (way) (M 2 (((64 + (2 * k)) + 1))) (by omega) (by omega)) gw_X4_140 [] rfl ⟨⟨rfl, rfl⟩, Nat.le_of_ble_eq_true rfl, Nat.le_of_ble_eq_true rfl⟩ ⟨Nat.le_of_ble_eq_true rfl, Nat.le_of_ble_eq_true rfl⟩ hl.1 rfl [.int (iI ((sp_camp (way) (M 2 ((64 + (2 * k)))) : Nat) : Int)), .int (iI ((y : Nat) : Int))] rfl (Nat.le_of_ble_eq_true rfl) dX4_parts_44 ?_
        have hq_ := @camp_lt (way) (M 2 (((64 + (2 * k)) + 1)))
        refine r_ceq 54 F dX4_parts_47 (by decide) (by omega) (fun c_8 => ?_) (fun c_8 => ?_)
        · refine r_ic F 0 dX4_parts_54 rfl ?_
          refine r_add F dX4_parts_55 ?_
          refine r_isn (lv' := [(0, .ref (q 0)), (1, .int (iI ((way : Nat) : Int))), (2, .int (iI (((y + 0) : Nat) : Int))), (3, .int (iI ((k : Nat) : Int)))]) F hl dX4_parts_56 rfl (by decide) [1, 2, 0, 3] rfl (fun ls hl => ?_)
          refine r_inc (lv' := [(0, .ref (q 0)), (1, .int (iI ((way : Nat) : Int))), (2, .int (iI (((y + 0) : Nat) : Int))), (3, .int (iI (((k + 1) : Nat) : Int)))]) F hl 3 rfl dX4_parts_57 1 rfl (by decide) [1, 2, 3, 0] rfl (fun ls hl => ?_)
          refine r_goto 4 F dX4_parts_60 (by decide) ?_
          exact ih_2 ((y + 0)) ((k + 1)) ls (by omega) (by have h_ := hI; rw [lpR_step (by omega)] at h_; refine Eq.trans ?_ h_; first | rfl | (simp only [ptB, c_5, (Nat.not_le.mpr c_5), c_8, if_true, if_false, Bool.and_true, Bool.true_and, Bool.and_false, Bool.false_and, Bool.and_self, Bool.false_eq_true, ↓reduceIte, decide_true, decide_false, Int.toNat_natCast, Bool.toNat_true, Bool.toNat_false]; done) | (simp [ptB, c_5, (Nat.not_le.mpr c_5), c_8]; done)) (by omega) (by omega) hl
        · refine r_ic F 1 dX4_parts_50 rfl ?_
          refine r_goto 55 F dX4_parts_51 (by decide) ?_
          refine r_add F dX4_parts_55 ?_
          refine r_isn (lv' := [(0, .ref (q 0)), (1, .int (iI ((way : Nat) : Int))), (2, .int (iI (((y + 1) : Nat) : Int))), (3, .int (iI ((k : Nat) : Int)))]) F hl dX4_parts_56 rfl (by decide) [1, 2, 0, 3] rfl (fun ls hl => ?_)
          refine r_inc (lv' := [(0, .ref (q 0)), (1, .int (iI ((way : Nat) : Int))), (2, .int (iI (((y + 1) : Nat) : Int))), (3, .int (iI (((k + 1) : Nat) : Int)))]) F hl 3 rfl dX4_parts_57 1 rfl (by decide) [1, 2, 3, 0] rfl (fun ls hl => ?_)
          refine r_goto 4 F dX4_parts_60 (by decide) ?_
          exact ih_2 ((y + 1)) ((k + 1)) ls (by omega) (by have h_ := hI; rw [lpR_step (by omega)] at h_; refine Eq.trans ?_ h_; first | rfl | (simp only [ptB, c_5, (Nat.not_le.mpr c_5), c_8, if_true, if_false, Bool.and_true, Bool.true_and, Bool.and_false, Bool.false_and, Bool.and_self, Bool.false_eq_true, ↓reduceIte, decide_true, decide_false, Int.toNat_natCast, Bool.toNat_true, Bool.toNat_false]; done) | (simp [ptB, c_5, (Nat.not_le.mpr c_5), c_8]; done)) (by omega) (by omega) hl
  exact lp_1 _ (0) (0) ls (Nat.lt_succ_self _) rfl (by omega) (by omega) hl
abbrev rm_X4_rest : Room := { frames := 1, cells := 0, slots := 0, locals := 24 }
set_option maxHeartbeats 4000000 in
set_option maxRecDepth 100000 in
theorem k_X4_rest (l : Launch) (D : va_G) (cI cB : ClassId) (q : Nat → Nat) (M : St) (x y : Nat) (hx : x < 10 ∧ y < 10) (hbk : ∀ k, M 2 k < 256) : CtQ l yX4_rest cX4_rest 5 (some .boolean) rm_X4_rest D cI cB [.ref (q 0), .int (iI ((x : Nat) : Int)), .int (iI ((y : Nat) : Int))] (wM q cI M) ((iI ((Bool.toNat (sp_rest (M 2 5) (M 2 6) (M 2 7) x y) : Nat) : Int))) := by
  refine CtQ.of RX4 (by decide) rfl (Nat.le_of_ble_eq_true rfl) ?_
  intro p e s m args below meth c H ls hH F hr hlk P hl
  have hl : lv_has ls 5 [(0, .ref (q 0)), (1, .int (iI ((x : Nat) : Int))), (2, .int (iI ((y : Nat) : Int)))] := hl
  refine r_icb F true dX4_rest_0 rfl ?_
  refine r_isn (lv' := [(0, .ref (q 0)), (1, .int (iI ((x : Nat) : Int))), (2, .int (iI ((y : Nat) : Int))), (3, .int (iI ((Bool.toNat (true) : Nat) : Int)))]) F hl dX4_rest_1 rfl (by decide) [1, 2, 3, 0] rfl (fun ls hl => ?_)
  refine r_ic F 0 dX4_rest_2 rfl ?_
  refine r_is (lv' := [(0, .ref (q 0)), (1, .int (iI ((x : Nat) : Int))), (2, .int (iI ((y : Nat) : Int))), (3, .int (iI ((Bool.toNat (true) : Nat) : Int))), (4, .int (iI ((0 : Nat) : Int)))]) F hl dX4_rest_3 (by decide) [1, 2, 3, 4, 0] rfl (fun ls hl => ?_)
  have lp_1 : ∀ (nn_ : Nat) (b : Bool) (v : Nat) (ls : Array Slot), 10 - v < nn_ → (lpR (rsB (M 2 5) (M 2 6) (M 2 7) x y) 10 v b = sp_rest (M 2 5) (M 2 6) (M 2 7) x y) → (v ≤ 10) → lv_has ls 5 [(0, .ref (q 0)), (1, .int (iI ((x : Nat) : Int))), (2, .int (iI ((y : Nat) : Int))), (3, .int (iI ((Bool.toNat (b) : Nat) : Int))), (4, .int (iI ((v : Nat) : Int)))] → W p l e rm_X4_rest s m args below meth c H [] 0 0 (Qq below args s ((iI ((Bool.toNat (sp_rest (M 2 5) (M 2 6) (M 2 7) x y) : Nat) : Int)))) (F0 m 5 ls []) := by
    intro nn_
    induction nn_ with
    | zero => intro b v ls hlt; exact absurd hlt (Nat.not_lt_zero _)
    | succ nn_ ih =>
      have ih_2 := ih; clear ih
      intro b v ls hlt hI hk hl
      have hlt_3 := hlt
      refine r_il F hl 4 rfl dX4_rest_5 ?_
      refine r_bp F 10 dX4_rest_7 rfl ?_
      refine r_cge 64 F dX4_rest_9 (by decide) (by omega) (fun c_4 => ?_) (fun c_4 => ?_)
      · refine r_iln F hl 3 rfl dX4_rest_64 rfl ?_
        exact r_retQb F hr hlk hH dX4_rest_65 (by rw [← hI, lpR_end (by omega)])
      · refine r_iln F hl 3 rfl dX4_rest_12 rfl ?_
        refine r_zeqb 56 F dX4_rest_13 (by decide) (fun c_5 => ?_) (fun c_5 => ?_)
        · refine r_icb F false dX4_rest_56 rfl ?_
          refine r_isn (lv' := [(0, .ref (q 0)), (1, .int (iI ((x : Nat) : Int))), (2, .int (iI ((y : Nat) : Int))), (3, .int (iI ((Bool.toNat (false) : Nat) : Int))), (4, .int (iI ((v : Nat) : Int)))]) F hl dX4_rest_57 rfl (by decide) [1, 2, 3, 0, 4] rfl (fun ls hl => ?_)
          refine r_inc (lv' := [(0, .ref (q 0)), (1, .int (iI ((x : Nat) : Int))), (2, .int (iI ((y : Nat) : Int))), (3, .int (iI ((Bool.toNat (false) : Nat) : Int))), (4, .int (iI (((v + 1) : Nat) : Int)))]) F hl 4 rfl dX4_rest_58 1 rfl (by decide) [1, 2, 3, 4, 0] rfl (fun ls hl => ?_)
          refine r_goto 5 F dX4_rest_61 (by decide) ?_
          exact ih_2 (false) ((v + 1)) ls (by omega) (by have h_ := hI; rw [lpR_step (by omega)] at h_; refine Eq.trans ?_ h_; first | rfl | (simp only [rsB, c_4, (Nat.not_le.mpr c_4), c_5, if_true, if_false, Bool.and_true, Bool.true_and, Bool.and_false, Bool.false_and, Bool.and_self, Bool.false_eq_true, ↓reduceIte, decide_true, decide_false, Int.toNat_natCast, Bool.toNat_true, Bool.toNat_false]; done) | (simp [rsB, c_4, (Nat.not_le.mpr c_4), c_5]; done)) (by omega) hl
        · refine r_aln F hl 0 rfl dX4_rest_16 rfl ?_
          refine r_il F hl 4 rfl dX4_rest_17 ?_
          refine r_iln F hl 2 rfl dX4_rest_19 rfl ?_
          refine r_ic F 0 dX4_rest_20 rfl ?_
          refine r_cq F P (k_X4_holds l D cI cB (q) (M) (v) (y) (0) (by omega) hbk) gw_X4_132 [0, 1, 2, 3, 4, 5, 6, 7, 8, 9, 10] rfl rfl rfl ⟨⟨rfl, rfl⟩, Nat.le_of_ble_eq_true rfl, Nat.le_of_ble_eq_true rfl⟩ ⟨Nat.le_of_ble_eq_true rfl, Nat.le_of_ble_eq_true rfl⟩ hl.1 rfl [] rfl (Nat.le_of_ble_eq_true rfl) dX4_rest_21 ?_
          have hq_ := @holds_le ((M 2) 5) ((M 2) 6) ((M 2) 7) (v) (y) (0) (hbk 5) (hbk 6) (hbk 7) (by omega) (by omega)
          refine r_aln F hl 0 rfl dX4_rest_24 rfl ?_
          refine r_iln F hl 1 rfl dX4_rest_25 rfl ?_
          refine r_iln F hl 2 rfl dX4_rest_26 rfl ?_
          refine r_ic F 0 dX4_rest_27 rfl ?_
          refine r_cq F P (k_X4_holds l D cI cB (q) (M) (x) (y) (0) (by omega) hbk) gw_X4_132 [0, 1, 2, 3, 4, 5, 6, 7, 8, 9, 10] rfl rfl rfl ⟨⟨rfl, rfl⟩, Nat.le_of_ble_eq_true rfl, Nat.le_of_ble_eq_true rfl⟩ ⟨Nat.le_of_ble_eq_true rfl, Nat.le_of_ble_eq_true rfl⟩ hl.1 rfl [.int (iI ((sp_holds ((M 2) 5) ((M 2) 6) ((M 2) 7) (v) (y) (0) : Nat) : Int))] rfl (Nat.le_of_ble_eq_true rfl) dX4_rest_28 ?_
          have hq_ := @holds_le ((M 2) 5) ((M 2) 6) ((M 2) 7) (x) (y) (0) (hbk 5) (hbk 6) (hbk 7) (by omega) (by omega)
          refine r_cgt 56 F dX4_rest_31 (by decide) (by omega) (fun c_6 => ?_) (fun c_6 => ?_)
          · refine r_icb F false dX4_rest_56 rfl ?_
            refine r_isn (lv' := [(0, .ref (q 0)), (1, .int (iI ((x : Nat) : Int))), (2, .int (iI ((y : Nat) : Int))), (3, .int (iI ((Bool.toNat (false) : Nat) : Int))), (4, .int (iI ((v : Nat) : Int)))]) F hl dX4_rest_57 rfl (by decide) [1, 2, 3, 0, 4] rfl (fun ls hl => ?_)
            refine r_inc (lv' := [(0, .ref (q 0)), (1, .int (iI ((x : Nat) : Int))), (2, .int (iI ((y : Nat) : Int))), (3, .int (iI ((Bool.toNat (false) : Nat) : Int))), (4, .int (iI (((v + 1) : Nat) : Int)))]) F hl 4 rfl dX4_rest_58 1 rfl (by decide) [1, 2, 3, 4, 0] rfl (fun ls hl => ?_)
            refine r_goto 5 F dX4_rest_61 (by decide) ?_
            exact ih_2 (false) ((v + 1)) ls (by omega) (by have h_ := hI; rw [lpR_step (by omega)] at h_; refine Eq.trans ?_ h_; first | rfl | (simp only [rsB, c_4, (Nat.not_le.mpr c_4), c_5, c_6, (Nat.not_le.mpr c_6), if_true, if_false, Bool.and_true, Bool.true_and, Bool.and_false, Bool.false_and, Bool.and_self, Bool.false_eq_true, ↓reduceIte, decide_true, decide_false, Int.toNat_natCast, Bool.toNat_true, Bool.toNat_false]; done) | (simp [rsB, c_4, (Nat.not_le.mpr c_4), c_5, c_6, (Nat.not_le.mpr c_6)]; done)) (by omega) hl
          · refine r_aln F hl 0 rfl dX4_rest_34 rfl ?_
            refine r_iln F hl 1 rfl dX4_rest_35 rfl ?_
            refine r_il F hl 4 rfl dX4_rest_36 ?_
            refine r_ic F 1 dX4_rest_38 rfl ?_
            refine r_cq F P (k_X4_holds l D cI cB (q) (M) (x) (v) (1) (by omega) hbk) gw_X4_132 [0, 1, 2, 3, 4, 5, 6, 7, 8, 9, 10] rfl rfl rfl ⟨⟨rfl, rfl⟩, Nat.le_of_ble_eq_true rfl, Nat.le_of_ble_eq_true rfl⟩ ⟨Nat.le_of_ble_eq_true rfl, Nat.le_of_ble_eq_true rfl⟩ hl.1 rfl [] rfl (Nat.le_of_ble_eq_true rfl) dX4_rest_39 ?_
            have hq_ := @holds_le ((M 2) 5) ((M 2) 6) ((M 2) 7) (x) (v) (1) (hbk 5) (hbk 6) (hbk 7) (by omega) (by omega)
            refine r_aln F hl 0 rfl dX4_rest_42 rfl ?_
            refine r_iln F hl 1 rfl dX4_rest_43 rfl ?_
            refine r_iln F hl 2 rfl dX4_rest_44 rfl ?_
            refine r_ic F 1 dX4_rest_45 rfl ?_
            refine r_cq F P (k_X4_holds l D cI cB (q) (M) (x) (y) (1) (by omega) hbk) gw_X4_132 [0, 1, 2, 3, 4, 5, 6, 7, 8, 9, 10] rfl rfl rfl ⟨⟨rfl, rfl⟩, Nat.le_of_ble_eq_true rfl, Nat.le_of_ble_eq_true rfl⟩ ⟨Nat.le_of_ble_eq_true rfl, Nat.le_of_ble_eq_true rfl⟩ hl.1 rfl [.int (iI ((sp_holds ((M 2) 5) ((M 2) 6) ((M 2) 7) (x) (v) (1) : Nat) : Int))] rfl (Nat.le_of_ble_eq_true rfl) dX4_rest_46 ?_
            have hq_ := @holds_le ((M 2) 5) ((M 2) 6) ((M 2) 7) (x) (y) (1) (hbk 5) (hbk 6) (hbk 7) (by omega) (by omega)
            refine r_cgt 56 F dX4_rest_49 (by decide) (by omega) (fun c_7 => ?_) (fun c_7 => ?_)
            · refine r_icb F false dX4_rest_56 rfl ?_
              refine r_isn (lv' := [(0, .ref (q 0)), (1, .int (iI ((x : Nat) : Int))), (2, .int (iI ((y : Nat) : Int))), (3, .int (iI ((Bool.toNat (false) : Nat) : Int))), (4, .int (iI ((v : Nat) : Int)))]) F hl dX4_rest_57 rfl (by decide) [1, 2, 3, 0, 4] rfl (fun ls hl => ?_)
              refine r_inc (lv' := [(0, .ref (q 0)), (1, .int (iI ((x : Nat) : Int))), (2, .int (iI ((y : Nat) : Int))), (3, .int (iI ((Bool.toNat (false) : Nat) : Int))), (4, .int (iI (((v + 1) : Nat) : Int)))]) F hl 4 rfl dX4_rest_58 1 rfl (by decide) [1, 2, 3, 4, 0] rfl (fun ls hl => ?_)
              refine r_goto 5 F dX4_rest_61 (by decide) ?_
              exact ih_2 (false) ((v + 1)) ls (by omega) (by have h_ := hI; rw [lpR_step (by omega)] at h_; refine Eq.trans ?_ h_; first | rfl | (simp only [rsB, c_4, (Nat.not_le.mpr c_4), c_5, c_6, (Nat.not_lt.mp c_6), c_7, (Nat.not_le.mpr c_7), if_true, if_false, Bool.and_true, Bool.true_and, Bool.and_false, Bool.false_and, Bool.and_self, Bool.false_eq_true, ↓reduceIte, decide_true, decide_false, Int.toNat_natCast, Bool.toNat_true, Bool.toNat_false]; done) | (simp [rsB, c_4, (Nat.not_le.mpr c_4), c_5, c_6, (Nat.not_lt.mp c_6), c_7, (Nat.not_le.mpr c_7)]; done)) (by omega) hl
            · refine r_icb F true dX4_rest_52 rfl ?_
              refine r_goto 57 F dX4_rest_53 (by decide) ?_
              refine r_isn (lv' := [(0, .ref (q 0)), (1, .int (iI ((x : Nat) : Int))), (2, .int (iI ((y : Nat) : Int))), (3, .int (iI ((Bool.toNat (true) : Nat) : Int))), (4, .int (iI ((v : Nat) : Int)))]) F hl dX4_rest_57 rfl (by decide) [1, 2, 3, 0, 4] rfl (fun ls hl => ?_)
              refine r_inc (lv' := [(0, .ref (q 0)), (1, .int (iI ((x : Nat) : Int))), (2, .int (iI ((y : Nat) : Int))), (3, .int (iI ((Bool.toNat (true) : Nat) : Int))), (4, .int (iI (((v + 1) : Nat) : Int)))]) F hl 4 rfl dX4_rest_58 1 rfl (by decide) [1, 2, 3, 4, 0] rfl (fun ls hl => ?_)
              refine r_goto 5 F dX4_rest_61 (by decide) ?_
              exact ih_2 (true) ((v + 1)) ls (by omega) (by have h_ := hI; rw [lpR_step (by omega)] at h_; refine Eq.trans ?_ h_; first | rfl | (simp only [rsB, c_4, (Nat.not_le.mpr c_4), c_5, c_6, (Nat.not_lt.mp c_6), c_7, (Nat.not_lt.mp c_7), if_true, if_false, Bool.and_true, Bool.true_and, Bool.and_false, Bool.false_and, Bool.and_self, Bool.false_eq_true, ↓reduceIte, decide_true, decide_false, Int.toNat_natCast, Bool.toNat_true, Bool.toNat_false]; done) | (simp [rsB, c_4, (Nat.not_le.mpr c_4), c_5, c_6, (Nat.not_lt.mp c_6), c_7, (Nat.not_lt.mp c_7)]; done)) (by omega) hl
  exact lp_1 _ (true) (0) ls (Nat.lt_succ_self _) rfl (by omega) hl
