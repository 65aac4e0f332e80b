abbrev rm_X0_append : Room := { frames := 0, cells := 0, slots := 0, locals := 0 }
set_option maxHeartbeats 4000000 in
set_option maxRecDepth 100000 in
theorem k_X0_append (l : Launch) (D : va_G) (cI cB : ClassId) (q : Nat → Nat) (G : St) (x : Int32) (b : Nat) (hgl : G 1 0 ≤ 300) (hx : vp_nar .byte x = iI (sx b)) : CtV l yX0_append cX0_append 2 rm_X0_append D cI cB [.ref (q 0), .int (x)] (wP q cI cB G) (wP q cI cB (stR (stR G 0 (apBy (G 1 0) b (G 0))) 1 (fun _ => apLn (G 1 0)))) := by
  refine CtV.of RX0 (by decide) rfl (Nat.le_of_ble_eq_true rfl) ?_
  intro p e s m args below meth c H0 ls A hH hA F hr hlk B hl
  have hl : lv_has ls 2 [(0, .ref (q 0)), (1, .int (x))] := hl
  refine r_aln F hl 0 rfl dX0_append_0 rfl ?_
  refine gf_X0_19 F B.1 0 rfl (.int (iI ((G 1 0 : Nat) : Int))) rfl dX0_append_1 ?_
  refine r_sp F 300 dX0_append_4 rfl ?_
  refine r_cge 30 F dX0_append_7 (by decide) (by omega) (fun c_1 => ?_) (fun c_1 => ?_)
  · have hv_ : vAp (G 1 0) = false := decide_eq_false (by omega)
    exact r_retV F hr hlk hH B dX0_append_30 (by first | rfl | (simp only [apBy, apLn, hv_, if_true, if_false, Bool.and_true, Bool.true_and, Bool.and_false, Bool.false_and, Bool.and_self, Bool.false_eq_true, ↓reduceIte, decide_true, decide_false, Int.toNat_natCast, Bool.toNat_true, Bool.toNat_false, true_and, and_true, false_and, and_false, not_true_eq_false, not_false_eq_true, true_or, or_true, false_or, or_false]; first | done | rfl | (simp only [c_1, (Nat.not_lt.mp c_1), if_true, if_false, Bool.and_true, Bool.true_and, Bool.and_false, Bool.false_and, Bool.and_self, Bool.false_eq_true, ↓reduceIte, decide_true, decide_false, Int.toNat_natCast, Bool.toNat_true, Bool.toNat_false, true_and, and_true, false_and, and_false, not_true_eq_false, not_false_eq_true, true_or, or_true, false_or, or_false]; first | done | rfl) | (simp only [if_neg c_1, if_pos (Nat.not_lt.mp c_1)]; first | done | rfl) | (simp [c_1, (Nat.not_lt.mp c_1)]; done) | (simp [c_1, (Nat.not_lt.mp c_1)]; first | rfl | omega)) | (simp [apBy, apLn, c_1, (Nat.not_lt.mp c_1), hv_]; done) | (simp [apBy, apLn, c_1, (Nat.not_lt.mp c_1), hv_]; omega) | (simp only [apBy, apLn, hv_, if_true, if_false, Bool.and_true, Bool.true_and, Bool.and_false, Bool.false_and, Bool.and_self, Bool.false_eq_true, ↓reduceIte, decide_true, decide_false, Int.toNat_natCast, Bool.toNat_true, Bool.toNat_false, true_and, and_true, false_and, and_false, not_true_eq_false, not_false_eq_true, true_or, or_true, false_or, or_false]; try simp only [c_1, (Nat.not_lt.mp c_1), if_true, if_false, Bool.and_true, Bool.true_and, Bool.and_false, Bool.false_and, Bool.and_self, Bool.false_eq_true, ↓reduceIte, decide_true, decide_false, Int.toNat_natCast, Bool.toNat_true, Bool.toNat_false, true_and, and_true, false_and, and_false, not_true_eq_false, not_false_eq_true, true_or, or_true, false_or, or_false]; rfl))
  · have hv_ : vAp (G 1 0) = true := decide_eq_true (by omega)
    refine r_aln F hl 0 rfl dX0_append_10 rfl ?_
    refine gf_X0_9 F B.1 0 rfl (.ref (q 1)) rfl dX0_append_11 ?_
    refine r_aln F hl 0 rfl dX0_append_14 rfl ?_
    refine gf_X0_19 F B.1 0 rfl (.int (iI ((G 1 0 : Nat) : Int))) rfl dX0_append_15 ?_
    refine r_iln F hl 1 rfl dX0_append_18 rfl ?_
    refine r_bst (f := G 0) F B 1 (b) (wP q cI cB (stR G 0 (upN (G 0) (G 1 0) (b)))) rfl dX0_append_19 (by decide) (by omega) hx rfl (fun H locs B => ?_)
    refine r_aln F hl 0 rfl dX0_append_20 rfl ?_
    refine r_dup F dX0_append_21 rfl ?_
    refine gf_X0_19 F B.1 0 rfl (.int (iI ((G 1 0 : Nat) : Int))) rfl dX0_append_22 ?_
    refine r_ic F 1 dX0_append_25 rfl ?_
    refine r_add F dX0_append_26 ?_
    refine pf_X0_19 F B 0 (wP q cI cB (stR (stR G 0 (upN (G 0) (G 1 0) (b))) 1 (fun _ => (G 1 0 + 1)))) rfl rfl rfl (Nat.le_of_ble_eq_true rfl) rfl dX0_append_27 (fun H locs B => ?_)
    have hv_ : vAp (G 1 0) = true := decide_eq_true (by omega)
    exact r_retV F hr hlk hH B dX0_append_30 (by first | rfl | (simp only [apBy, apLn, hv_, if_true, if_false, Bool.and_true, Bool.true_and, Bool.and_false, Bool.false_and, Bool.and_self, Bool.false_eq_true, ↓reduceIte, decide_true, decide_false, Int.toNat_natCast, Bool.toNat_true, Bool.toNat_false, true_and, and_true, false_and, and_false, not_true_eq_false, not_false_eq_true, true_or, or_true, false_or, or_false]; first | done | rfl | (simp only [c_1, (Nat.not_le.mpr c_1), if_true, if_false, Bool.and_true, Bool.true_and, Bool.and_false, Bool.false_and, Bool.and_self, Bool.false_eq_true, ↓reduceIte, decide_true, decide_false, Int.toNat_natCast, Bool.toNat_true, Bool.toNat_false, true_and, and_true, false_and, and_false, not_true_eq_false, not_false_eq_true, true_or, or_true, false_or, or_false]; first | done | rfl) | (simp only [if_pos c_1, if_neg (Nat.not_le.mpr c_1)]; first | done | rfl) | (simp [c_1, (Nat.not_le.mpr c_1)]; done) | (simp [c_1, (Nat.not_le.mpr c_1)]; first | rfl | omega)) | (simp [apBy, apLn, c_1, (Nat.not_le.mpr c_1), hv_]; done) | (simp [apBy, apLn, c_1, (Nat.not_le.mpr c_1), hv_]; omega) | (simp only [apBy, apLn, hv_, if_true, if_false, Bool.and_true, Bool.true_and, Bool.and_false, Bool.false_and, Bool.and_self, Bool.false_eq_true, ↓reduceIte, decide_true, decide_false, Int.toNat_natCast, Bool.toNat_true, Bool.toNat_false, true_and, and_true, false_and, and_false, not_true_eq_false, not_false_eq_true, true_or, or_true, false_or, or_false]; try simp only [c_1, (Nat.not_le.mpr c_1), if_true, if_false, Bool.and_true, Bool.true_and, Bool.and_false, Bool.false_and, Bool.and_self, Bool.false_eq_true, ↓reduceIte, decide_true, decide_false, Int.toNat_natCast, Bool.toNat_true, Bool.toNat_false, true_and, and_true, false_and, and_false, not_true_eq_false, not_false_eq_true, true_or, or_true, false_or, or_false]; rfl))
abbrev rm_X0_next : Room := { frames := 0, cells := 0, slots := 0, locals := 0 }
set_option maxHeartbeats 4000000 in
set_option maxRecDepth 100000 in
theorem k_X0_next (l : Launch) (D : va_G) (cI cB : ClassId) (q : Nat → Nat) (G : St) (hpl : G 2 0 < 65536) (hgl : G 1 0 ≤ 300) (hgb : ∀ k, G 0 k < 256) : CtQ l yX0_next cX0_next 1 (some .int) rm_X0_next D cI cB [.ref (q 0)] (wP q cI cB G) ((iI (sp_nx (G 0) (G 1 0) (G 2 0)))) := by
  refine CtQ.of RX0 (by decide) rfl (Nat.le_of_ble_eq_true rfl) ?_
  intro p e s m args below meth c H ls hH F hr hlk P hl
  have hl : lv_has ls 1 [(0, .ref (q 0))] := hl
  refine r_aln F hl 0 rfl dX0_next_0 rfl ?_
  refine gf_X0_28 F P 0 rfl (.int (iI ((G 2 0 : Nat) : Int))) rfl dX0_next_1 ?_
  refine r_zlt 40 F dX0_next_4 (by decide) (by omega) (fun c_1 => ?_) (fun c_1 => ?_)
  · exfalso; omega
  · refine r_aln F hl 0 rfl dX0_next_7 rfl ?_
    refine gf_X0_28 F P 0 rfl (.int (iI ((G 2 0 : Nat) : Int))) rfl dX0_next_8 ?_
    refine r_aln F hl 0 rfl dX0_next_11 rfl ?_
    refine gf_X0_19 F P 0 rfl (.int (iI ((G 1 0 : Nat) : Int))) rfl dX0_next_12 ?_
    refine r_cge 40 F dX0_next_15 (by decide) (by omega) (fun c_2 => ?_) (fun c_2 => ?_)
    · refine r_icz F (-1) dX0_next_40 rfl ?_
      exact r_retQ F hr hlk hH dX0_next_41 (by first | rfl | (simp only [sp_nx, if_true, if_false, Bool.and_true, Bool.true_and, Bool.and_false, Bool.false_and, Bool.and_self, Bool.false_eq_true, ↓reduceIte, decide_true, decide_false, Int.toNat_natCast, Bool.toNat_true, Bool.toNat_false, true_and, and_true, false_and, and_false, not_true_eq_false, not_false_eq_true, true_or, or_true, false_or, or_false]; first | done | rfl | (simp only [c_1, (Nat.not_lt.mp c_1), c_2, (Nat.not_lt.mp c_2), if_true, if_false, Bool.and_true, Bool.true_and, Bool.and_false, Bool.false_and, Bool.and_self, Bool.false_eq_true, ↓reduceIte, decide_true, decide_false, Int.toNat_natCast, Bool.toNat_true, Bool.toNat_false, true_and, and_true, false_and, and_false, not_true_eq_false, not_false_eq_true, true_or, or_true, false_or, or_false]; first | done | rfl) | (simp only [if_neg c_1, if_pos (Nat.not_lt.mp c_1), if_neg c_2, if_pos (Nat.not_lt.mp c_2)]; first | done | rfl) | (simp [c_1, (Nat.not_lt.mp c_1), c_2, (Nat.not_lt.mp c_2)]; done) | (simp [c_1, (Nat.not_lt.mp c_1), c_2, (Nat.not_lt.mp c_2)]; first | rfl | omega)) | (simp [sp_nx, c_1, (Nat.not_lt.mp c_1), c_2, (Nat.not_lt.mp c_2)]; done) | (simp [sp_nx, c_1, (Nat.not_lt.mp c_1), c_2, (Nat.not_lt.mp c_2)]; omega) | (simp only [sp_nx, if_true, if_false, Bool.and_true, Bool.true_and, Bool.and_false, Bool.false_and, Bool.and_self, Bool.false_eq_true, ↓reduceIte, decide_true, decide_false, Int.toNat_natCast, Bool.toNat_true, Bool.toNat_false, true_and, and_true, false_and, and_false, not_true_eq_false, not_false_eq_true, true_or, or_true, false_or, or_false]; try simp only [c_1, (Nat.not_lt.mp c_1), c_2, (Nat.not_lt.mp c_2), if_true, if_false, Bool.and_true, Bool.true_and, Bool.and_false, Bool.false_and, Bool.and_self, Bool.false_eq_true, ↓reduceIte, decide_true, decide_false, Int.toNat_natCast, Bool.toNat_true, Bool.toNat_false, true_and, and_true, false_and, and_false, not_true_eq_false, not_false_eq_true, true_or, or_true, false_or, or_false]; rfl))
    · refine r_aln F hl 0 rfl dX0_next_18 rfl ?_
      refine gf_X0_28 F P 0 rfl (.int (iI ((G 2 0 : Nat) : Int))) rfl dX0_next_19 ?_
      refine r_sp F 300 dX0_next_22 rfl ?_
      refine r_cge 40 F dX0_next_25 (by decide) (by omega) (fun c_3 => ?_) (fun c_3 => ?_)
      · exfalso; omega
      · refine r_aln F hl 0 rfl dX0_next_28 rfl ?_
        refine gf_X0_9 F P 0 rfl (.ref (q 1)) rfl dX0_next_29 ?_
        refine r_aln F hl 0 rfl dX0_next_32 rfl ?_
        refine gf_X0_28 F P 0 rfl (.int (iI ((G 2 0 : Nat) : Int))) rfl dX0_next_33 ?_
        refine r_bld (f := G 0) F P 1 rfl dX0_next_36 (by decide) (by omega) ?_
        have b_4 : -128 ≤ sx (G 0 (G 2 0)) ∧ sx (G 0 (G 2 0)) < 128 := sx_rng _ (hgb _)
        refine r_goto 41 F dX0_next_37 (by decide) ?_
        exact r_retQ F hr hlk hH dX0_next_41 (by first | rfl | (simp only [sp_nx, if_true, if_false, Bool.and_true, Bool.true_and, Bool.and_false, Bool.false_and, Bool.and_self, Bool.false_eq_true, ↓reduceIte, decide_true, decide_false, Int.toNat_natCast, Bool.toNat_true, Bool.toNat_false, true_and, and_true, false_and, and_false, not_true_eq_false, not_false_eq_true, true_or, or_true, false_or, or_false]; first | done | rfl | (simp only [c_1, (Nat.not_lt.mp c_1), c_2, (Nat.not_le.mpr c_2), c_3, (Nat.not_le.mpr c_3), if_true, if_false, Bool.and_true, Bool.true_and, Bool.and_false, Bool.false_and, Bool.and_self, Bool.false_eq_true, ↓reduceIte, decide_true, decide_false, Int.toNat_natCast, Bool.toNat_true, Bool.toNat_false, true_and, and_true, false_and, and_false, not_true_eq_false, not_false_eq_true, true_or, or_true, false_or, or_false]; first | done | rfl) | (simp only [if_neg c_1, if_pos (Nat.not_lt.mp c_1), if_pos c_2, if_neg (Nat.not_le.mpr c_2), if_pos c_3, if_neg (Nat.not_le.mpr c_3)]; first | done | rfl) | (simp [c_1, (Nat.not_lt.mp c_1), c_2, (Nat.not_le.mpr c_2), c_3, (Nat.not_le.mpr c_3)]; done) | (simp [c_1, (Nat.not_lt.mp c_1), c_2, (Nat.not_le.mpr c_2), c_3, (Nat.not_le.mpr c_3)]; first | rfl | omega)) | (simp [sp_nx, c_1, (Nat.not_lt.mp c_1), c_2, (Nat.not_le.mpr c_2), c_3, (Nat.not_le.mpr c_3)]; done) | (simp [sp_nx, c_1, (Nat.not_lt.mp c_1), c_2, (Nat.not_le.mpr c_2), c_3, (Nat.not_le.mpr c_3)]; omega) | (simp only [sp_nx, if_true, if_false, Bool.and_true, Bool.true_and, Bool.and_false, Bool.false_and, Bool.and_self, Bool.false_eq_true, ↓reduceIte, decide_true, decide_false, Int.toNat_natCast, Bool.toNat_true, Bool.toNat_false, true_and, and_true, false_and, and_false, not_true_eq_false, not_false_eq_true, true_or, or_true, false_or, or_false]; try simp only [c_1, (Nat.not_lt.mp c_1), c_2, (Nat.not_le.mpr c_2), c_3, (Nat.not_le.mpr c_3), if_true, if_false, Bool.and_true, Bool.true_and, Bool.and_false, Bool.false_and, Bool.and_self, Bool.false_eq_true, ↓reduceIte, decide_true, decide_false, Int.toNat_natCast, Bool.toNat_true, Bool.toNat_false, true_and, and_true, false_and, and_false, not_true_eq_false, not_false_eq_true, true_or, or_true, false_or, or_false]; rfl))
abbrev rm_X0_readSign : Room := { frames := 1, cells := 0, slots := 0, locals := 20 }
set_option maxHeartbeats 4000000 in
set_option maxRecDepth 100000 in
theorem k_X0_readSign (l : Launch) (D : va_G) (cI cB : ClassId) (q : Nat → Nat) (G : St) (x : Int) (hx : 0 ≤ x ∧ x < 1000) (hpl : G 2 0 ≤ G 1 0) (hgl : G 1 0 ≤ 300) (hgb : ∀ k, G 0 k < 256) : CtU l yX0_readSign cX0_readSign 2 (some .boolean) rm_X0_readSign D cI cB [.ref (q 0), .int (iI (x))] (wP q cI cB G) (wP q cI cB (stR G 2 (fun _ => rsA (G 0) (G 1 0) (G 2 0) x))) ((iI ((Bool.toNat (vRS (G 0) (G 1 0) (G 2 0) x) : Nat) : Int))) := by
  refine CtU.of RX0 (by decide) rfl (Nat.le_of_ble_eq_true rfl) ?_
  intro p e s m args below meth c H0 ls A hH hA F hr hlk B hl
  have hl : lv_has ls 2 [(0, .ref (q 0)), (1, .int (iI (x)))] := hl
  refine r_aln F hl 0 rfl dX0_readSign_0 rfl ?_
  refine r_cq (r := (iI (sp_nx (G 0) (G 1 0) (G 2 0)))) F B.1 (k_X0_next l D cI cB (q) (G)  (show G 2 0 < 65536 from by omega) hgl hgb) gw_X0_35 [0, 1, 2] rfl rfl rfl ⟨⟨rfl, rfl⟩, Nat.le_of_ble_eq_true rfl, Nat.le_of_ble_eq_true rfl⟩ ⟨Nat.le_of_ble_eq_true rfl, Nat.le_of_ble_eq_true rfl⟩ hl.1 rfl [] rfl (Nat.le_of_ble_eq_true rfl) dX0_readSign_1 ?_
  have hq_ := @nx_val (G 0) (G 1 0) (G 2 0) hgb
  refine r_iln F hl 1 rfl dX0_readSign_4 rfl ?_
  refine r_ceqz (a := sp_nx (G 0) (G 1 0) (G 2 0)) (b := x) 10 F dX0_readSign_5 (by decide) (by omega) (fun c_1 => ?_) (fun c_1 => ?_)
  · have hv_ : vRS (G 0) (G 1 0) (G 2 0) x = true := decide_eq_true (by omega)
    refine r_aln F hl 0 rfl dX0_readSign_10 rfl ?_
    refine r_dup F dX0_readSign_11 rfl ?_
    refine gf_X0_28 F B.1 0 rfl (.int (iI ((G 2 0 : Nat) : Int))) rfl dX0_readSign_12 ?_
    refine r_ic F 1 dX0_readSign_15 rfl ?_
    refine r_add F dX0_readSign_16 ?_
    refine pf_X0_28 F B 0 (wP q cI cB (stR G 2 (fun _ => (G 2 0 + 1)))) rfl rfl rfl (Nat.le_of_ble_eq_true rfl) rfl dX0_readSign_17 (fun H locs B => ?_)
    refine r_icb F true dX0_readSign_20 rfl ?_
    exact r_retUb F hr hlk hH B dX0_readSign_21 (by rw [hv_]) (by first | rfl | (simp only [rsA, hv_, if_true, if_false, Bool.and_true, Bool.true_and, Bool.and_false, Bool.false_and, Bool.and_self, Bool.false_eq_true, ↓reduceIte, decide_true, decide_false, Int.toNat_natCast, Bool.toNat_true, Bool.toNat_false, true_and, and_true, false_and, and_false, not_true_eq_false, not_false_eq_true, true_or, or_true, false_or, or_false]; first | done | rfl | (simp only [c_1, if_true, if_false, Bool.and_true, Bool.true_and, Bool.and_false, Bool.false_and, Bool.and_self, Bool.false_eq_true, ↓reduceIte, decide_true, decide_false, Int.toNat_natCast, Bool.toNat_true, Bool.toNat_false, true_and, and_true, false_and, and_false, not_true_eq_false, not_false_eq_true, true_or, or_true, false_or, or_false]; first | done | rfl) | (simp only [if_pos c_1]; first | done | rfl) | (simp [c_1]; done) | (simp [c_1]; first | rfl | omega)) | (simp [rsA, c_1, hv_]; done) | (simp [rsA, c_1, hv_]; omega) | (simp only [rsA, hv_, if_true, if_false, Bool.and_true, Bool.true_and, Bool.and_false, Bool.false_and, Bool.and_self, Bool.false_eq_true, ↓reduceIte, decide_true, decide_false, Int.toNat_natCast, Bool.toNat_true, Bool.toNat_false, true_and, and_true, false_and, and_false, not_true_eq_false, not_false_eq_true, true_or, or_true, false_or, or_false]; try simp only [c_1, if_true, if_false, Bool.and_true, Bool.true_and, Bool.and_false, Bool.false_and, Bool.and_self, Bool.false_eq_true, ↓reduceIte, decide_true, decide_false, Int.toNat_natCast, Bool.toNat_true, Bool.toNat_false, true_and, and_true, false_and, and_false, not_true_eq_false, not_false_eq_true, true_or, or_true, false_or, or_false]; rfl))
  · have hv_ : vRS (G 0) (G 1 0) (G 2 0) x = false := decide_eq_false (by omega)
    refine r_icb F false dX0_readSign_8 rfl ?_
    exact r_retUb F hr hlk hH B dX0_readSign_9 (by rw [hv_]) (by first | rfl | (simp only [rsA, hv_, if_true, if_false, Bool.and_true, Bool.true_and, Bool.and_false, Bool.false_and, Bool.and_self, Bool.false_eq_true, ↓reduceIte, decide_true, decide_false, Int.toNat_natCast, Bool.toNat_true, Bool.toNat_false, true_and, and_true, false_and, and_false, not_true_eq_false, not_false_eq_true, true_or, or_true, false_or, or_false]; first | done | rfl | (simp only [c_1, if_true, if_false, Bool.and_true, Bool.true_and, Bool.and_false, Bool.false_and, Bool.and_self, Bool.false_eq_true, ↓reduceIte, decide_true, decide_false, Int.toNat_natCast, Bool.toNat_true, Bool.toNat_false, true_and, and_true, false_and, and_false, not_true_eq_false, not_false_eq_true, true_or, or_true, false_or, or_false]; first | done | rfl) | (simp only [if_neg c_1]; first | done | rfl) | (simp [c_1]; done) | (simp [c_1]; first | rfl | omega)) | (simp [rsA, c_1, hv_]; done) | (simp [rsA, c_1, hv_]; omega) | (simp only [rsA, hv_, if_true, if_false, Bool.and_true, Bool.true_and, Bool.and_false, Bool.false_and, Bool.and_self, Bool.false_eq_true, ↓reduceIte, decide_true, decide_false, Int.toNat_natCast, Bool.toNat_true, Bool.toNat_false, true_and, and_true, false_and, and_false, not_true_eq_false, not_false_eq_true, true_or, or_true, false_or, or_false]; try simp only [c_1, if_true, if_false, Bool.and_true, Bool.true_and, Bool.and_false, Bool.false_and, Bool.and_self, Bool.false_eq_true, ↓reduceIte, decide_true, decide_false, Int.toNat_natCast, Bool.toNat_true, Bool.toNat_false, true_and, and_true, false_and, and_false, not_true_eq_false, not_false_eq_true, true_or, or_true, false_or, or_false]; rfl))
abbrev rm_X0_readNumber : Room := { frames := 1, cells := 0, slots := 0, locals := 40 }
set_option maxHeartbeats 4000000 in
set_option maxRecDepth 100000 in
theorem k_X0_readNumber (l : Launch) (D : va_G) (cI cB : ClassId) (q : Nat → Nat) (G : St) (hpl : G 2 0 ≤ G 1 0) (hgl : G 1 0 ≤ 300) (hgb : ∀ k, G 0 k < 256) : CtU l yX0_readNumber cX0_readNumber 3 (some .int) rm_X0_readNumber D cI cB [.ref (q 0)] (wP q cI cB G) (wP q cI cB (stR G 2 (fun _ => (sp_rn (G 0) (G 1 0) (G 2 0)).1))) ((iI ((sp_rn (G 0) (G 1 0) (G 2 0)).2))) := by
  refine CtU.of RX0 (by decide) rfl (Nat.le_of_ble_eq_true rfl) ?_
  intro p e s m args below meth c H0 ls A hH hA F hr hlk B hl
  have hl : lv_has ls 3 [(0, .ref (q 0))] := hl
  refine r_icz F (-1) dX0_readNumber_0 rfl ?_
  refine r_isn (lv' := [(0, .ref (q 0)), (1, .int (iI (-1)))]) F hl dX0_readNumber_1 rfl (by decide) [1, 0] rfl (fun ls hl => ?_)
  refine r_ic F 0 dX0_readNumber_2 rfl ?_
  refine r_isn (lv' := [(0, .ref (q 0)), (1, .int (iI (-1))), (2, .int (iI ((0 : Nat) : Int)))]) F hl dX0_readNumber_3 rfl (by decide) [1, 2, 0] rfl (fun ls hl => ?_)
  have lp_1 : ∀ (nn_ : Nat) (v : Int) (k : Nat) (a : Nat) (H : Heap) (locs : List Loc) (ls : Array Slot), 3 - k < nn_ → (rnF (G 0) (G 1 0) (3 - k) a v = sp_rn (G 0) (G 1 0) (G 2 0)) → (-1 ≤ v ∧ ((k = 0 ∧ v < 1) ∨ (k = 1 ∧ v < 10) ∨ (k = 2 ∧ v < 100) ∨ (k = 3 ∧ v < 1000))) → (a ≤ G 1 0) → Bx D A H0 (wP q cI cB (stR G 2 (fun _ => a))) H locs → lv_has ls 3 [(0, .ref (q 0)), (1, .int (iI (v))), (2, .int (iI ((k : Nat) : Int)))] → W p l e rm_X0_readNumber s m args below meth c H locs 0 0 (Qu below args s D ((iI ((sp_rn (G 0) (G 1 0) (G 2 0)).2))) (wP q cI cB (stR G 2 (fun _ => (sp_rn (G 0) (G 1 0) (G 2 0)).1))) A) (F0 m 4 ls []) := by
    intro nn_
    induction nn_ with
    | zero => intro v k a H locs ls hlt; exact absurd hlt (Nat.not_lt_zero _)
    | succ nn_ ih =>
      have ih_2 := ih; clear ih
      intro v k a H locs ls hlt hI hv ha B hl
      have hlt_3 := hlt
      refine r_iln F hl 2 rfl dX0_readNumber_4 rfl ?_
      refine r_ic F 3 dX0_readNumber_5 rfl ?_
      refine r_cge 60 F dX0_readNumber_6 (by decide) (by omega) (fun c_4 => ?_) (fun c_4 => ?_)
      · have he_ : sp_rn (G 0) (G 1 0) (G 2 0) = (a, v) := by first | (rw [← hI, rnF_stop (by omega)]; done) | (rw [← hI, show 3 - k = 0 from by omega]; rfl)
        refine r_iln F hl 1 rfl dX0_readNumber_60 rfl ?_
        exact r_retU F hr hlk hH B dX0_readNumber_61 (by rw [he_]) (by rw [he_])
      · refine r_aln F hl 0 rfl dX0_readNumber_9 rfl ?_
        refine r_cq (r := (iI (sp_nx (G 0) (G 1 0) (a)))) F B.1 (k_X0_next l D cI cB (q) ((stR G 2 (fun _ => a)))  (show a < 65536 from by omega) hgl hgb) gw_X0_35 [0, 1, 2] rfl rfl rfl ⟨⟨rfl, rfl⟩, Nat.le_of_ble_eq_true rfl, Nat.le_of_ble_eq_true rfl⟩ ⟨Nat.le_of_ble_eq_true rfl, Nat.le_of_ble_eq_true rfl⟩ hl.1 rfl [] rfl (Nat.le_of_ble_eq_true rfl) dX0_readNumber_10 ?_
        have hq_ := @nx_val (G 0) (G 1 0) (a) hgb
        refine r_bp F 48 dX0_readNumber_13 rfl ?_
        refine r_cltz (a := sp_nx (G 0) (G 1 0) (a)) (b := (48 : Int)) 60 F dX0_readNumber_15 (by decide) (by omega) (fun c_5 => ?_) (fun c_5 => ?_)
        · have he_ : sp_rn (G 0) (G 1 0) (G 2 0) = (a, v) := by first | (rw [← hI, rnF_stop (by omega)]; done) | (rw [← hI, show 3 - k = 0 from by omega]; rfl)
          refine r_iln F hl 1 rfl dX0_readNumber_60 rfl ?_
          exact r_retU F hr hlk hH B dX0_readNumber_61 (by rw [he_]) (by rw [he_])
        · refine r_aln F hl 0 rfl dX0_readNumber_18 rfl ?_
          refine r_cq (r := (iI (sp_nx (G 0) (G 1 0) (a)))) F B.1 (k_X0_next l D cI cB (q) ((stR G 2 (fun _ => a)))  (show a < 65536 from by omega) hgl hgb) gw_X0_35 [0, 1, 2] rfl rfl rfl ⟨⟨rfl, rfl⟩, Nat.le_of_ble_eq_true rfl, Nat.le_of_ble_eq_true rfl⟩ ⟨Nat.le_of_ble_eq_true rfl, Nat.le_of_ble_eq_true rfl⟩ hl.1 rfl [] rfl (Nat.le_of_ble_eq_true rfl) dX0_readNumber_19 ?_
          have hq_ := @nx_val (G 0) (G 1 0) (a) hgb
          refine r_bp F 57 dX0_readNumber_22 rfl ?_
          refine r_cgtz (a := sp_nx (G 0) (G 1 0) (a)) (b := (57 : Int)) 60 F dX0_readNumber_24 (by decide) (by omega) (fun c_6 => ?_) (fun c_6 => ?_)
          · have he_ : sp_rn (G 0) (G 1 0) (G 2 0) = (a, v) := by first | (rw [← hI, rnF_stop (by omega)]; done) | (rw [← hI, show 3 - k = 0 from by omega]; rfl)
            refine r_iln F hl 1 rfl dX0_readNumber_60 rfl ?_
            exact r_retU F hr hlk hH B dX0_readNumber_61 (by rw [he_]) (by rw [he_])
          · refine r_iln F hl 1 rfl dX0_readNumber_27 rfl ?_
            refine r_ic F 0 dX0_readNumber_28 rfl ?_
            refine r_max (a := v) (b := (0 : Int)) F km_X0_77 hl.1 (Nat.le_of_ble_eq_true rfl) (Nat.le_of_ble_eq_true rfl) ⟨Nat.le_of_ble_eq_true rfl, Nat.le_of_ble_eq_true rfl⟩ (by omega) dX0_readNumber_29 ?_
            refine r_bp F 10 dX0_readNumber_32 rfl ?_
            refine r_mulz F dX0_readNumber_34 ?_
            refine r_aln F hl 0 rfl dX0_readNumber_35 rfl ?_
            refine r_cq (r := (iI (sp_nx (G 0) (G 1 0) (a)))) F B.1 (k_X0_next l D cI cB (q) ((stR G 2 (fun _ => a)))  (show a < 65536 from by omega) hgl hgb) gw_X0_35 [0, 1, 2] rfl rfl rfl ⟨⟨rfl, rfl⟩, Nat.le_of_ble_eq_true rfl, Nat.le_of_ble_eq_true rfl⟩ ⟨Nat.le_of_ble_eq_true rfl, Nat.le_of_ble_eq_true rfl⟩ hl.1 rfl [.int (iI ((max (v) ((0 : Int)) * (10 : Int))))] rfl (Nat.le_of_ble_eq_true rfl) dX0_readNumber_36 ?_
            have hq_ := @nx_val (G 0) (G 1 0) (a) hgb
            refine r_addz F dX0_readNumber_39 ?_
            refine r_bp F 48 dX0_readNumber_40 rfl ?_
            refine r_subz F dX0_readNumber_42 ?_
            refine r_isn (lv' := [(0, .ref (q 0)), (1, .int (iI ((((max (v) ((0 : Int)) * (10 : Int)) + sp_nx (G 0) (G 1 0) (a)) - (48 : Int))))), (2, .int (iI ((k : Nat) : Int)))]) F hl dX0_readNumber_43 rfl (by decide) [1, 0, 2] rfl (fun ls hl => ?_)
            refine r_aln F hl 0 rfl dX0_readNumber_44 rfl ?_
            refine r_dup F dX0_readNumber_45 rfl ?_
            refine gf_X0_28 F B.1 0 rfl (.int (iI ((a : Nat) : Int))) rfl dX0_readNumber_46 ?_
            refine r_ic F 1 dX0_readNumber_49 rfl ?_
            refine r_add F dX0_readNumber_50 ?_
            refine pf_X0_28 F B 0 (wP q cI cB (stR G 2 (fun _ => (a + 1)))) rfl rfl rfl (Nat.le_of_ble_eq_true rfl) rfl dX0_readNumber_51 (fun H locs B => ?_)
            refine r_inc (lv' := [(0, .ref (q 0)), (1, .int (iI ((((max (v) ((0 : Int)) * (10 : Int)) + sp_nx (G 0) (G 1 0) (a)) - (48 : Int))))), (2, .int (iI (((k + 1) : Nat) : Int)))]) F hl 2 rfl dX0_readNumber_54 1 rfl (by decide) [1, 2, 0] rfl (fun ls hl => ?_)
            refine r_goto 4 F dX0_readNumber_57 (by decide) ?_
            exact ih_2 ((((max (v) ((0 : Int)) * (10 : Int)) + sp_nx (G 0) (G 1 0) (a)) - (48 : Int))) ((k + 1)) ((a + 1)) _ _ ls (by omega) (by rw [← hI]; exact (rnF_go (by omega) ⟨by omega, by omega⟩).symm) (by omega) (by omega) B hl
  exact lp_1 _ (-1) (0) (G 2 0) _ _ ls (Nat.lt_succ_self _) rfl (by omega) (by omega) B hl
abbrev rm_X0_readNumbers : Room := { frames := 2, cells := 0, slots := 0, locals := 62 }
set_option maxHeartbeats 4000000 in
set_option maxRecDepth 100000 in
theorem k_X0_readNumbers (l : Launch) (D : va_G) (cI cB : ClassId) (q : Nat → Nat) (G : St) (w : Nat) (hw : 1 ≤ w ∧ w ≤ 4) (hpl : G 2 0 ≤ G 1 0) (hgl : G 1 0 ≤ 300) (hgb : ∀ k, G 0 k < 256) (hgn : ∀ k, G 3 k < 1000) : CtU l yX0_readNumbers cX0_readNumbers 4 (some .boolean) rm_X0_readNumbers D cI cB [.ref (q 0), .int (iI ((w : Nat) : Int))] (wP q cI cB G) (wP q cI cB (stR (stR G 2 (fun _ => (sp_rm (G 0) (G 1 0) w (G 2 0) (G 3)).2.1)) 3 ((sp_rm (G 0) (G 1 0) w (G 2 0) (G 3)).2.2))) ((iI ((Bool.toNat ((sp_rm (G 0) (G 1 0) w (G 2 0) (G 3)).1) : Nat) : Int))) := by
  refine CtU.of RX0 (by decide) rfl (Nat.le_of_ble_eq_true rfl) ?_
  intro p e s m args below meth c H0 ls A hH hA F hr hlk B hl
  have hl : lv_has ls 4 [(0, .ref (q 0)), (1, .int (iI ((w : Nat) : Int)))] := hl
  refine r_ic F 0 dX0_readNumbers_0 rfl ?_
  refine r_isn (lv' := [(0, .ref (q 0)), (1, .int (iI ((w : Nat) : Int))), (2, .int (iI ((0 : Nat) : Int)))]) F hl dX0_readNumbers_1 rfl (by decide) [1, 2, 0] rfl (fun ls hl => ?_)
  have lp_1 : ∀ (nn_ : Nat) (mu : Nat) (k : Nat) (a : Nat) (g : Nat → Nat) (H : Heap) (locs : List Loc) (ls : Array Slot), mu < nn_ → (rmF (G 0) (G 1 0) w mu k a g = sp_rm (G 0) (G 1 0) w (G 2 0) (G 3)) → (a ≤ G 1 0) → (∀ j, g j < 1000) → (k + mu = w) → Bx D A H0 (wP q cI cB (stR (stR G 2 (fun _ => a)) 3 (g))) H locs → lv_has ls 4 [(0, .ref (q 0)), (1, .int (iI ((w : Nat) : Int))), (2, .int (iI ((k : Nat) : Int)))] → W p l e rm_X0_readNumbers s m args below meth c H locs 0 0 (Qu below args s D ((iI ((Bool.toNat ((sp_rm (G 0) (G 1 0) w (G 2 0) (G 3)).1) : Nat) : Int))) (wP q cI cB (stR (stR G 2 (fun _ => (sp_rm (G 0) (G 1 0) w (G 2 0) (G 3)).2.1)) 3 ((sp_rm (G 0) (G 1 0) w (G 2 0) (G 3)).2.2))) A) (F0 m 2 ls []) := by
    intro nn_
    induction nn_ with
    | zero => intro mu k a g H locs ls hlt; exact absurd hlt (Nat.not_lt_zero _)
    | succ nn_ ih =>
      have ih_2 := ih; clear ih
      intro mu k a g H locs ls hlt hI ha hg hk B hl
      have hlt_3 := hlt
      refine r_iln F hl 2 rfl dX0_readNumbers_2 rfl ?_
      refine r_iln F hl 1 rfl dX0_readNumbers_3 rfl ?_
      refine r_cge 57 F dX0_readNumbers_4 (by decide) (by omega) (fun c_4 => ?_) (fun c_4 => ?_)
      · have hz_ : sp_rm (G 0) (G 1 0) w (G 2 0) (G 3) = (true, a, g) := by rw [← hI, show mu = 0 from by omega]; rfl
        refine r_icb F true dX0_readNumbers_57 rfl ?_
        exact r_retUb F hr hlk hH B dX0_readNumbers_58 (by rw [hz_]) (by rw [hz_])
      · refine r_iln F hl 2 rfl dX0_readNumbers_7 rfl ?_
        refine r_ic F 4 dX0_readNumbers_8 rfl ?_
        refine r_cge 57 F dX0_readNumbers_9 (by decide) (by omega) (fun c_5 => ?_) (fun c_5 => ?_)
        · exfalso; omega
        · obtain ⟨mu2, rfl⟩ : ∃ x, mu = x + 1 := ⟨mu - 1, by omega⟩
          refine r_aln F hl 0 rfl dX0_readNumbers_12 rfl ?_
          refine r_cuW (r := (iI ((sp_rn (G 0) (G 1 0) (a)).2))) (wc' := wP q cI cB (stR (stR G 2 (fun _ => (sp_rn (G 0) (G 1 0) (a)).1)) 3 (g))) F hA B (k_X0_readNumber l D cI cB (q) ((stR (stR G 2 (fun _ => a)) 3 (g)))  (show a ≤ G 1 0 from by omega) hgl hgb) gw_X0_71 rfl rfl ⟨⟨rfl, rfl⟩, Nat.le_of_ble_eq_true rfl, Nat.le_of_ble_eq_true rfl⟩ ⟨Nat.le_of_ble_eq_true rfl, Nat.le_of_ble_eq_true rfl⟩ hl.1 rfl [] rfl (Nat.le_of_ble_eq_true rfl) dX0_readNumbers_13 (fun H locs B => ?_)
          have hq_ := @rn_all (G 0) (G 1 0) (a) hgb (by omega)
          refine r_isn (lv' := [(0, .ref (q 0)), (1, .int (iI ((w : Nat) : Int))), (2, .int (iI ((k : Nat) : Int))), (3, .int (iI ((sp_rn (G 0) (G 1 0) (a)).2)))]) F hl dX0_readNumbers_16 rfl (by decide) [1, 2, 3, 0] rfl (fun ls hl => ?_)
          refine r_iln F hl 3 rfl dX0_readNumbers_17 rfl ?_
          refine r_zltz (a := (sp_rn (G 0) (G 1 0) (a)).2) 42 F dX0_readNumbers_18 (by decide) (by omega) (fun c_6 => ?_) (fun c_6 => ?_)
          · have hz_ : sp_rm (G 0) (G 1 0) w (G 2 0) (G 3) = (false, (sp_rn (G 0) (G 1 0) a).1, g) := by rw [← hI, rmF_bad (by omega)]
            refine r_icb F false dX0_readNumbers_42 rfl ?_
            exact r_retUb F hr hlk hH B dX0_readNumbers_43 (by rw [hz_]) (by rw [hz_])
          · refine r_aln F hl 0 rfl dX0_readNumbers_21 rfl ?_
            refine r_iln F hl 2 rfl dX0_readNumbers_22 rfl ?_
            refine r_ic F 1 dX0_readNumbers_23 rfl ?_
            refine r_add F dX0_readNumbers_24 ?_
            refine r_iln F hl 1 rfl dX0_readNumbers_25 rfl ?_
            refine r_cge 34 F dX0_readNumbers_26 (by decide) (by omega) (fun c_7 => ?_) (fun c_7 => ?_)
            · refine r_bp F 59 dX0_readNumbers_34 rfl ?_
              refine r_cuW (r := (iI ((Bool.toNat (vRS (G 0) (G 1 0) ((sp_rn (G 0) (G 1 0) (a)).1) ((59 : Int))) : Nat) : Int))) (wc' := wP q cI cB (stR (stR G 2 (fun _ => rsA (G 0) (G 1 0) ((sp_rn (G 0) (G 1 0) (a)).1) ((59 : Int)))) 3 (g))) F hA B (k_X0_readSign l D cI cB (q) ((stR (stR G 2 (fun _ => (sp_rn (G 0) (G 1 0) (a)).1)) 3 (g))) ((59 : Int)) (by omega) (show (sp_rn (G 0) (G 1 0) (a)).1 ≤ G 1 0 from by omega) hgl hgb) gw_X0_74 rfl rfl ⟨⟨rfl, rfl⟩, Nat.le_of_ble_eq_true rfl, Nat.le_of_ble_eq_true rfl⟩ ⟨Nat.le_of_ble_eq_true rfl, Nat.le_of_ble_eq_true rfl⟩ hl.1 rfl [] rfl (Nat.le_of_ble_eq_true rfl) dX0_readNumbers_36 (fun H locs B => ?_)
              refine r_zneb 44 F dX0_readNumbers_39 (by decide) (fun c_8 => ?_) (fun c_8 => ?_)
              · have c_8d := c_8
                simp only [isIn, isP, vRS, decide_eq_true_eq, decide_eq_false_iff_not] at c_8d
                have hl_ := vRS_lt (by omega) c_8
                have hw_ : rsA (G 0) (G 1 0) (sp_rn (G 0) (G 1 0) a).1 59 = (sp_rn (G 0) (G 1 0) a).1 + 1 := by unfold rsA; rw [c_8]; rfl
                have hl : lv_has ls 4 [(0, .ref (q 0)), (1, .int (iI ((w : Nat) : Int))), (2, .int (iI ((k : Nat) : Int))), (3, .int (iI (((sp_rn (G 0) (G 1 0) a).2.toNat : Nat) : Int)))] := by
                  rw [show (sp_rn (G 0) (G 1 0) (a)).2 = (((sp_rn (G 0) (G 1 0) a).2.toNat : Nat) : Int) from by omega] at hl
                  exact hl
                refine r_aln F hl 0 rfl dX0_readNumbers_44 rfl ?_
                refine gf_X0_15 F B.1 0 rfl (.ref (q 4)) rfl dX0_readNumbers_45 ?_
                refine r_iln F hl 2 rfl dX0_readNumbers_48 rfl ?_
                refine r_iln F hl 3 rfl dX0_readNumbers_49 rfl ?_
                have hb_9 : ∀ j_, upN (g) (k) ((sp_rn (G 0) (G 1 0) a).2.toNat) j_ < 1000 := upN_lt hg (by omega)
                refine r_ast (f := g) F B 2 (wP q cI cB (stR (stR G 2 (fun _ => rsA (G 0) (G 1 0) ((sp_rn (G 0) (G 1 0) (a)).1) ((59 : Int)))) 3 (upN (g) (k) ((sp_rn (G 0) (G 1 0) a).2.toNat)))) rfl dX0_readNumbers_50 (by decide) (by omega) rfl (fun H locs B => ?_)
                refine r_inc (lv' := [(0, .ref (q 0)), (1, .int (iI ((w : Nat) : Int))), (2, .int (iI (((k + 1) : Nat) : Int))), (3, .int (iI (((sp_rn (G 0) (G 1 0) a).2.toNat : Nat) : Int)))]) F hl 2 rfl dX0_readNumbers_51 1 rfl (by decide) [1, 2, 0, 3] rfl (fun ls hl => ?_)
                refine r_goto 2 F dX0_readNumbers_54 (by decide) ?_
                exact ih_2 (mu2) ((k + 1)) (rsA (G 0) (G 1 0) ((sp_rn (G 0) (G 1 0) (a)).1) ((59 : Int))) (upN (g) (k) ((sp_rn (G 0) (G 1 0) a).2.toNat)) _ _ ls (by omega) (by rw [← hI, hw_]; exact (rmF_go (by omega) (by rw [show (if k + 1 < w then (44 : Int) else 59) = 59 from if_neg (by omega)]; exact c_8)).symm) (by omega) hb_9 (by omega) B (lv_sub hl [0, 1, 2] rfl)
              · have c_8d := c_8
                simp only [isIn, isP, vRS, decide_eq_true_eq, decide_eq_false_iff_not] at c_8d
                have hz_ : sp_rm (G 0) (G 1 0) w (G 2 0) (G 3) = (false, (sp_rn (G 0) (G 1 0) a).1, g) := by rw [← hI, rmF_no (by omega) (by rw [show (if k + 1 < w then (44 : Int) else 59) = 59 from if_neg (by omega)]; exact c_8)]
                refine r_icb F false dX0_readNumbers_42 rfl ?_
                exact r_retUb F hr hlk hH B dX0_readNumbers_43 (by rw [hz_]) (by rw [hz_]; simp only [rsA, c_8, if_true, if_false, Bool.and_true, Bool.true_and, Bool.and_false, Bool.false_and, Bool.and_self, Bool.false_eq_true, ↓reduceIte, decide_true, decide_false, Int.toNat_natCast, Bool.toNat_true, Bool.toNat_false, true_and, and_true, false_and, and_false, not_true_eq_false, not_false_eq_true, true_or, or_true, false_or, or_false])
            · refine r_bp F 44 dX0_readNumbers_29 rfl ?_
              refine r_goto 36 F dX0_readNumbers_31 (by decide) ?_
              refine r_cuW (r := (iI ((Bool.toNat (vRS (G 0) (G 1 0) ((sp_rn (G 0) (G 1 0) (a)).1) ((44 : Int))) : Nat) : Int))) (wc' := wP q cI cB (stR (stR G 2 (fun _ => rsA (G 0) (G 1 0) ((sp_rn (G 0) (G 1 0) (a)).1) ((44 : Int)))) 3 (g))) F hA B (k_X0_readSign l D cI cB (q) ((stR (stR G 2 (fun _ => (sp_rn (G 0) (G 1 0) (a)).1)) 3 (g))) ((44 : Int)) (by omega) (show (sp_rn (G 0) (G 1 0) (a)).1 ≤ G 1 0 from by omega) hgl hgb) gw_X0_74 rfl rfl ⟨⟨rfl, rfl⟩, Nat.le_of_ble_eq_true rfl, Nat.le_of_ble_eq_true rfl⟩ ⟨Nat.le_of_ble_eq_true rfl, Nat.le_of_ble_eq_true rfl⟩ hl.1 rfl [] rfl (Nat.le_of_ble_eq_true rfl) dX0_readNumbers_36 (fun H locs B => ?_)
              refine r_zneb 44 F dX0_readNumbers_39 (by decide) (fun c_10 => ?_) (fun c_10 => ?_)
              · have c_10d := c_10
                simp only [isIn, isP, vRS, decide_eq_true_eq, decide_eq_false_iff_not] at c_10d
                have hl_ := vRS_lt (by omega) c_10
                have hw_ : rsA (G 0) (G 1 0) (sp_rn (G 0) (G 1 0) a).1 44 = (sp_rn (G 0) (G 1 0) a).1 + 1 := by unfold rsA; rw [c_10]; rfl
                have hl : lv_has ls 4 [(0, .ref (q 0)), (1, .int (iI ((w : Nat) : Int))), (2, .int (iI ((k : Nat) : Int))), (3, .int (iI (((sp_rn (G 0) (G 1 0) a).2.toNat : Nat) : Int)))] := by
                  rw [show (sp_rn (G 0) (G 1 0) (a)).2 = (((sp_rn (G 0) (G 1 0) a).2.toNat : Nat) : Int) from by omega] at hl
                  exact hl
                refine r_aln F hl 0 rfl dX0_readNumbers_44 rfl ?_
                refine gf_X0_15 F B.1 0 rfl (.ref (q 4)) rfl dX0_readNumbers_45 ?_
                refine r_iln F hl 2 rfl dX0_readNumbers_48 rfl ?_
                refine r_iln F hl 3 rfl dX0_readNumbers_49 rfl ?_
                have hb_11 : ∀ j_, upN (g) (k) ((sp_rn (G 0) (G 1 0) a).2.toNat) j_ < 1000 := upN_lt hg (by omega)
                refine r_ast (f := g) F B 2 (wP q cI cB (stR (stR G 2 (fun _ => rsA (G 0) (G 1 0) ((sp_rn (G 0) (G 1 0) (a)).1) ((44 : Int)))) 3 (upN (g) (k) ((sp_rn (G 0) (G 1 0) a).2.toNat)))) rfl dX0_readNumbers_50 (by decide) (by omega) rfl (fun H locs B => ?_)
                refine r_inc (lv' := [(0, .ref (q 0)), (1, .int (iI ((w : Nat) : Int))), (2, .int (iI (((k + 1) : Nat) : Int))), (3, .int (iI (((sp_rn (G 0) (G 1 0) a).2.toNat : Nat) : Int)))]) F hl 2 rfl dX0_readNumbers_51 1 rfl (by decide) [1, 2, 0, 3] rfl (fun ls hl => ?_)
                refine r_goto 2 F dX0_readNumbers_54 (by decide) ?_
                exact ih_2 (mu2) ((k + 1)) (rsA (G 0) (G 1 0) ((sp_rn (G 0) (G 1 0) (a)).1) ((44 : Int))) (upN (g) (k) ((sp_rn (G 0) (G 1 0) a).2.toNat)) _ _ ls (by omega) (by rw [← hI, hw_]; exact (rmF_go (by omega) (by rw [show (if k + 1 < w then (44 : Int) else 59) = 44 from if_pos (by omega)]; exact c_10)).symm) (by omega) hb_11 (by omega) B (lv_sub hl [0, 1, 2] rfl)
              · have c_10d := c_10
                simp only [isIn, isP, vRS, decide_eq_true_eq, decide_eq_false_iff_not] at c_10d
                have hz_ : sp_rm (G 0) (G 1 0) w (G 2 0) (G 3) = (false, (sp_rn (G 0) (G 1 0) a).1, g) := by rw [← hI, rmF_no (by omega) (by rw [show (if k + 1 < w then (44 : Int) else 59) = 44 from if_pos (by omega)]; exact c_10)]
                refine r_icb F false dX0_readNumbers_42 rfl ?_
                exact r_retUb F hr hlk hH B dX0_readNumbers_43 (by rw [hz_]) (by rw [hz_]; simp only [rsA, c_10, if_true, if_false, Bool.and_true, Bool.true_and, Bool.and_false, Bool.false_and, Bool.and_self, Bool.false_eq_true, ↓reduceIte, decide_true, decide_false, Int.toNat_natCast, Bool.toNat_true, Bool.toNat_false, true_and, and_true, false_and, and_false, not_true_eq_false, not_false_eq_true, true_or, or_true, false_or, or_false])
  exact lp_1 _ (w) (0) (G 2 0) (G 3) _ _ ls (Nat.lt_succ_self _) rfl (by omega) hgn (by omega) B hl
abbrev rm_X0_readSteps : Room := { frames := 2, cells := 0, slots := 0, locals := 41 }
set_option maxHeartbeats 4000000 in
set_option maxRecDepth 100000 in
theorem k_X0_readSteps (l : Launch) (D : va_G) (cI cB : ClassId) (q : Nat → Nat) (G : St) (r : Nat → Nat) (T : St) (hpl : G 2 0 ≤ G 1 0) (hgl : G 1 0 ≤ 300) (hgb : ∀ k, G 0 k < 256) (hT : Tok T) : CtU l yX0_readSteps cX0_readSteps 3 (some .boolean) rm_X0_readSteps D cI cB [.ref (q 0), .ref (r 0)] (wP q cI cB G ++ wT r cI T) (wP q cI cB (stR G 2 (fun _ => (sp_st (G 0) (G 1 0) (G 2 0) T).2.1)) ++ wT r cI (sp_st (G 0) (G 1 0) (G 2 0) T).2.2) ((iI ((Bool.toNat ((sp_st (G 0) (G 1 0) (G 2 0) T).1) : Nat) : Int))) := by
  refine CtU.of RX0 (by decide) rfl (Nat.le_of_ble_eq_true rfl) ?_
  intro p e s m args below meth c H0 ls A hH hA F hr hlk B hl
  have hl : lv_has ls 3 [(0, .ref (q 0)), (1, .ref (r 0))] := hl
  refine r_ic F 0 dX0_readSteps_0 rfl ?_
  refine r_isn (lv' := [(0, .ref (q 0)), (1, .ref (r 0)), (2, .int (iI ((0 : Nat) : Int)))]) F hl dX0_readSteps_1 rfl (by decide) [1, 2, 0] rfl (fun ls hl => ?_)
  have lp_1 : ∀ (nn_ : Nat) (k : Nat) (a : Nat) (T1 : St) (H : Heap) (locs : List Loc) (ls : Array Slot), 8 - k < nn_ → (stF (G 0) (G 1 0) (8 - k) a T1 = sp_st (G 0) (G 1 0) (G 2 0) T) → (a ≤ G 1 0) → (Tok T1) → (k ≤ 8) → Bx D A H0 (wP q cI cB (stR G 2 (fun _ => a)) ++ wT r cI T1) H locs → lv_has ls 3 [(0, .ref (q 0)), (1, .ref (r 0)), (2, .int (iI ((k : Nat) : Int)))] → W p l e rm_X0_readSteps s m args below meth c H locs 0 0 (Qu below args s D ((iI ((Bool.toNat ((sp_st (G 0) (G 1 0) (G 2 0) T).1) : Nat) : Int))) (wP q cI cB (stR G 2 (fun _ => (sp_st (G 0) (G 1 0) (G 2 0) T).2.1)) ++ wT r cI (sp_st (G 0) (G 1 0) (G 2 0) T).2.2) A) (F0 m 2 ls []) := by
    intro nn_
    induction nn_ with
    | zero => intro k a T1 H locs ls hlt; exact absurd hlt (Nat.not_lt_zero _)
    | succ nn_ ih =>
      have ih_2 := ih; clear ih
      intro k a T1 H locs ls hlt hI ha hTk hk B hl
      have hlt_3 := hlt
      refine r_iln F hl 2 rfl dX0_readSteps_2 rfl ?_
      refine r_bp F 8 dX0_readSteps_3 rfl ?_
      refine r_cge 49 F dX0_readSteps_5 (by decide) (by omega) (fun c_4 => ?_) (fun c_4 => ?_)
      · have hz_ : sp_st (G 0) (G 1 0) (G 2 0) T = (vRS (G 0) (G 1 0) a 59, rsA (G 0) (G 1 0) a 59, T1) := by rw [← hI, stF_end (by omega)]
        refine r_aln F hl 0 rfl dX0_readSteps_49 rfl ?_
        refine r_bp F 59 dX0_readSteps_50 rfl ?_
        refine r_cu (r := (iI ((Bool.toNat (vRS (G 0) (G 1 0) (a) ((59 : Int))) : Nat) : Int))) F hA B (k_X0_readSign l D cI cB (q) ((stR G 2 (fun _ => a))) ((59 : Int)) (by omega) (show a ≤ G 1 0 from by omega) hgl hgb) gw_X0_74 [0, 1, 2] rfl rfl [3, 4, 5, 6, 7, 8] (wT r cI T1) rfl rfl (by decide) [6, 7, 8, 0, 1, 2, 3, 4, 5] (wP q cI cB (stR G 2 (fun _ => rsA (G 0) (G 1 0) (a) ((59 : Int)))) ++ wT r cI T1) rfl rfl rfl rfl ⟨⟨rfl, rfl⟩, Nat.le_of_ble_eq_true rfl, Nat.le_of_ble_eq_true rfl⟩ ⟨Nat.le_of_ble_eq_true rfl, Nat.le_of_ble_eq_true rfl⟩ hl.1 rfl [] rfl (Nat.le_of_ble_eq_true rfl) dX0_readSteps_52 (fun H locs B => ?_)
        exact r_retUb F hr hlk hH B dX0_readSteps_55 (by rw [hz_]) (by rw [hz_]; first | done | rfl)
      · refine r_aln F hl 0 rfl dX0_readSteps_8 rfl ?_
        refine r_cq (r := (iI (sp_nx (G 0) (G 1 0) (a)))) F B.1 (k_X0_next l D cI cB (q) ((stR G 2 (fun _ => a)))  (show a < 65536 from by omega) hgl hgb) gw_X0_35 [0, 1, 2] rfl rfl rfl ⟨⟨rfl, rfl⟩, Nat.le_of_ble_eq_true rfl, Nat.le_of_ble_eq_true rfl⟩ ⟨Nat.le_of_ble_eq_true rfl, Nat.le_of_ble_eq_true rfl⟩ hl.1 rfl [] rfl (Nat.le_of_ble_eq_true rfl) dX0_readSteps_9 ?_
        have hq_ := @nx_val (G 0) (G 1 0) (a) hgb
        refine r_bp F 59 dX0_readSteps_12 rfl ?_
        refine r_ceqz (a := sp_nx (G 0) (G 1 0) (a)) (b := (59 : Int)) 49 F dX0_readSteps_14 (by decide) (by omega) (fun c_5 => ?_) (fun c_5 => ?_)
        · have hz_ : sp_st (G 0) (G 1 0) (G 2 0) T = (vRS (G 0) (G 1 0) a 59, rsA (G 0) (G 1 0) a 59, T1) := by rw [← hI, stF_end (by omega)]
          refine r_aln F hl 0 rfl dX0_readSteps_49 rfl ?_
          refine r_bp F 59 dX0_readSteps_50 rfl ?_
          refine r_cu (r := (iI ((Bool.toNat (vRS (G 0) (G 1 0) (a) ((59 : Int))) : Nat) : Int))) F hA B (k_X0_readSign l D cI cB (q) ((stR G 2 (fun _ => a))) ((59 : Int)) (by omega) (show a ≤ G 1 0 from by omega) hgl hgb) gw_X0_74 [0, 1, 2] rfl rfl [3, 4, 5, 6, 7, 8] (wT r cI T1) rfl rfl (by decide) [6, 7, 8, 0, 1, 2, 3, 4, 5] (wP q cI cB (stR G 2 (fun _ => rsA (G 0) (G 1 0) (a) ((59 : Int)))) ++ wT r cI T1) rfl rfl rfl rfl ⟨⟨rfl, rfl⟩, Nat.le_of_ble_eq_true rfl, Nat.le_of_ble_eq_true rfl⟩ ⟨Nat.le_of_ble_eq_true rfl, Nat.le_of_ble_eq_true rfl⟩ hl.1 rfl [] rfl (Nat.le_of_ble_eq_true rfl) dX0_readSteps_52 (fun H locs B => ?_)
          exact r_retUb F hr hlk hH B dX0_readSteps_55 (by rw [hz_]) (by rw [hz_]; first | done | rfl)
        · refine r_aln F hl 1 rfl dX0_readSteps_17 rfl ?_
          refine r_aln F hl 0 rfl dX0_readSteps_18 rfl ?_
          refine r_cq (r := (iI (sp_nx (G 0) (G 1 0) (a)))) F B.1 (k_X0_next l D cI cB (q) ((stR G 2 (fun _ => a)))  (show a < 65536 from by omega) hgl hgb) gw_X0_35 [0, 1, 2] rfl rfl rfl ⟨⟨rfl, rfl⟩, Nat.le_of_ble_eq_true rfl, Nat.le_of_ble_eq_true rfl⟩ ⟨Nat.le_of_ble_eq_true rfl, Nat.le_of_ble_eq_true rfl⟩ hl.1 rfl [.ref (r 0)] rfl (Nat.le_of_ble_eq_true rfl) dX0_readSteps_19 ?_
          have hq_ := @nx_val (G 0) (G 1 0) (a) hgb
          refine r_bp F 48 dX0_readSteps_22 rfl ?_
          refine r_subz F dX0_readSteps_24 ?_
          refine r_cu (r := (iI ((Bool.toNat (vAS (T1 3 0) (T1 6 0) ((sp_nx (G 0) (G 1 0) (a) - (48 : Int)))) : Nat) : Int))) F hA B (k_X2_addStep l D cI cB (r) (T1) ((sp_nx (G 0) (G 1 0) (a) - (48 : Int))) (by omega) hTk) gw_X0_83 [3, 4, 5, 6, 7, 8] rfl rfl [0, 1, 2] (wP q cI cB (stR G 2 (fun _ => a))) rfl rfl (by decide) [0, 1, 2, 3, 4, 5, 6, 7, 8] (wP q cI cB (stR G 2 (fun _ => a)) ++ wT r cI (stR (stR T1 4 (asS (T1 3 0) (T1 6 0) ((sp_nx (G 0) (G 1 0) (a) - (48 : Int))) (T1 4))) 6 (fun _ => asO (T1 3 0) (T1 6 0) ((sp_nx (G 0) (G 1 0) (a) - (48 : Int)))))) rfl rfl rfl rfl ⟨⟨rfl, rfl⟩, Nat.le_of_ble_eq_true rfl, Nat.le_of_ble_eq_true rfl⟩ ⟨Nat.le_of_ble_eq_true rfl, Nat.le_of_ble_eq_true rfl⟩ hl.1 rfl [] rfl (Nat.le_of_ble_eq_true rfl) dX0_readSteps_25 (fun H locs B => ?_)
          refine r_zneb 33 F dX0_readSteps_28 (by decide) (fun c_6 => ?_) (fun c_6 => ?_)
          · refine r_aln F hl 0 rfl dX0_readSteps_33 rfl ?_
            refine r_dup F dX0_readSteps_34 rfl ?_
            refine gf_X0_28 F B.1 0 rfl (.int (iI ((a : Nat) : Int))) rfl dX0_readSteps_35 ?_
            refine r_ic F 1 dX0_readSteps_38 rfl ?_
            refine r_add F dX0_readSteps_39 ?_
            refine pf_X0_28 F B 0 (wP q cI cB (stR G 2 (fun _ => (a + 1))) ++ wT r cI (stR (stR T1 4 (asS (T1 3 0) (T1 6 0) ((sp_nx (G 0) (G 1 0) (a) - (48 : Int))) (T1 4))) 6 (fun _ => asO (T1 3 0) (T1 6 0) ((sp_nx (G 0) (G 1 0) (a) - (48 : Int)))))) rfl rfl rfl (Nat.le_of_ble_eq_true rfl) rfl dX0_readSteps_40 (fun H locs B => ?_)
            refine r_inc (lv' := [(0, .ref (q 0)), (1, .ref (r 0)), (2, .int (iI (((k + 1) : Nat) : Int)))]) F hl 2 rfl dX0_readSteps_43 1 rfl (by decide) [1, 2, 0] rfl (fun ls hl => ?_)
            refine r_goto 2 F dX0_readSteps_46 (by decide) ?_
            exact ih_2 ((k + 1)) ((a + 1)) ((stR (stR T1 4 (asS (T1 3 0) (T1 6 0) ((sp_nx (G 0) (G 1 0) (a) - (48 : Int))) (T1 4))) 6 (fun _ => asO (T1 3 0) (T1 6 0) ((sp_nx (G 0) (G 1 0) (a) - (48 : Int)))))) _ _ ls (by omega) (by rw [← hI]; exact (stF_go (by omega) (by omega) c_6).symm) (vAS_lt c_6) (tok_AS hTk _) (by omega) B hl
          · have hz_ : sp_st (G 0) (G 1 0) (G 2 0) T = (false, a, tAS T1 (sp_nx (G 0) (G 1 0) a - 48)) := by rw [← hI, stF_no (by omega) (by omega) c_6]
            refine r_icb F false dX0_readSteps_31 rfl ?_
            exact r_retUb F hr hlk hH B dX0_readSteps_32 (by rw [hz_]) (by rw [hz_]; first | done | rfl)
  exact lp_1 _ (0) (G 2 0) (T) _ _ ls (Nat.lt_succ_self _) rfl (by omega) hT (by omega) B hl
