abbrev rm_X4_reads : Room := { frames := 5, cells := 0, slots := 0, locals := 110 }
set_option maxHeartbeats 4000000 in
set_option maxRecDepth 100000 in
theorem k_X4_reads (l : Launch) (D : va_G) (cI cB : ClassId) (q : Nat → Nat) (M : St) (hlen : M 1 0 ≤ 300) (htx : ∀ k, M 0 k < 256) (htd : ∀ k, M 13 k < 1000) (hdr : ∀ k, M 3 k < 256) : CtU l yX4_reads cX4_reads 2 (some .int) rm_X4_reads D cI cB [.ref (q 0)] (wM q cI M) (wM q cI (stR (stR (stR M 12 (fun _ => (reR M).2.1)) 13 ((reR M).2.2.1)) 3 ((reR M).2.2.2))) ((iI ((reR M).1))) := by
  refine CtU.of RX4 (by decide) rfl (Nat.le_of_ble_eq_true rfl) ?_
  intro p e s m args below meth c H0 ls A hH hA F hr hlk B hl
  have hl : lv_has ls 2 [(0, .ref (q 0))] := hl
  refine r_ic F 0 dX4_reads_0 rfl ?_
  refine r_isn (lv' := [(0, .ref (q 0)), (1, .int (iI ((0 : Nat) : Int)))]) F hl dX4_reads_1 rfl (by decide) [1, 0] rfl (fun ls hl => ?_)
  have lp_1 : ∀ (nn_ : Nat) (k : Nat) (f : Nat → Nat) (H : Heap) (locs : List Loc) (ls : Array Slot), 80 - k < nn_ → (lpR (fun k d => upN d k 0) 80 k f = clr (M 3)) → (∀ k, f k < 256) → (k ≤ 80) → Bx D A H0 (wM q cI (stR M 3 (f))) H locs → lv_has ls 2 [(0, .ref (q 0)), (1, .int (iI ((k : Nat) : Int)))] → W p l e rm_X4_reads s m args below meth c H locs 0 0 (Qu below args s D ((iI ((reR M).1))) (wM q cI (stR (stR (stR M 12 (fun _ => (reR M).2.1)) 13 ((reR M).2.2.1)) 3 ((reR M).2.2.2))) A) (F0 m 2 ls []) := by
    intro nn_
    induction nn_ with
    | zero => intro k f H locs ls hlt; exact absurd hlt (Nat.not_lt_zero _)
    | succ nn_ ih =>
      have ih_2 := ih; clear ih
      intro k f H locs ls hlt hJ hf hk B hl
      have hlt_3 := hlt
      refine r_iln F hl 1 rfl dX4_reads_2 rfl ?_
      refine r_bp F 80 dX4_reads_3 rfl ?_
      refine r_cge 21 F dX4_reads_5 (by decide) (by omega) (fun c_4 => ?_) (fun c_4 => ?_)
      · obtain rfl : f = clr (M 3) := by rw [← hJ, lpR_end (by omega)]
        refine r_aln F hl 0 rfl dX4_reads_21 rfl ?_
        refine gf_X4_16 F B.1 0 rfl (.ref (q 4)) rfl dX4_reads_22 ?_
        refine r_ic F 3 dX4_reads_25 rfl ?_
        refine r_ic F 3 dX4_reads_26 rfl ?_
        have hb_5 : ∀ j_, upN ((clr (M 3))) (3) (3) j_ < 256 := upN_lt hf (by omega)
        refine r_ast (f := (clr (M 3))) F B 3 (wM q cI (stR M 3 (upN ((clr (M 3))) (3) (3)))) rfl dX4_reads_27 (by decide) (by omega) rfl (fun H locs B => ?_)
        refine r_aln F hl 0 rfl dX4_reads_28 rfl ?_
        refine gf_X4_16 F B.1 0 rfl (.ref (q 4)) rfl dX4_reads_29 ?_
        refine r_ic F 4 dX4_reads_32 rfl ?_
        refine r_ic F 2 dX4_reads_33 rfl ?_
        have hb_6 : ∀ j_, upN (upN ((clr (M 3))) (3) (3)) (4) (2) j_ < 256 := upN_lt hb_5 (by omega)
        refine r_ast (f := upN ((clr (M 3))) (3) (3)) F B 3 (wM q cI (stR M 3 (upN (upN ((clr (M 3))) (3) (3)) (4) (2)))) rfl dX4_reads_34 (by decide) (by omega) rfl (fun H locs B => ?_)
        refine r_aln F hl 0 rfl dX4_reads_35 rfl ?_
        refine gf_X4_16 F B.1 0 rfl (.ref (q 4)) rfl dX4_reads_36 ?_
        refine r_ic F 5 dX4_reads_39 rfl ?_
        refine r_bp F 9 dX4_reads_40 rfl ?_
        have hb_7 : ∀ j_, upN (upN (upN ((clr (M 3))) (3) (3)) (4) (2)) (5) (9) j_ < 256 := upN_lt hb_6 (by omega)
        refine r_ast (f := upN (upN ((clr (M 3))) (3) (3)) (4) (2)) F B 3 (wM q cI (stR M 3 (upN (upN (upN ((clr (M 3))) (3) (3)) (4) (2)) (5) (9)))) rfl dX4_reads_42 (by decide) (by omega) rfl (fun H locs B => ?_)
        refine r_aln F hl 0 rfl dX4_reads_43 rfl ?_
        refine gf_X4_16 F B.1 0 rfl (.ref (q 4)) rfl dX4_reads_44 ?_
        refine r_bp F 6 dX4_reads_47 rfl ?_
        refine r_ic F 1 dX4_reads_49 rfl ?_
        have hb_8 : ∀ j_, upN (upN (upN (upN ((clr (M 3))) (3) (3)) (4) (2)) (5) (9)) (6) (1) j_ < 256 := upN_lt hb_7 (by omega)
        refine r_ast (f := upN (upN (upN ((clr (M 3))) (3) (3)) (4) (2)) (5) (9)) F B 3 (wM q cI (stR M 3 (upN (upN (upN (upN ((clr (M 3))) (3) (3)) (4) (2)) (5) (9)) (6) (1)))) rfl dX4_reads_50 (by decide) (by omega) rfl (fun H locs B => ?_)
        refine r_aln F hl 0 rfl dX4_reads_51 rfl ?_
        refine gf_X4_16 F B.1 0 rfl (.ref (q 4)) rfl dX4_reads_52 ?_
        refine r_bp F 7 dX4_reads_55 rfl ?_
        refine r_ic F 1 dX4_reads_57 rfl ?_
        have hb_9 : ∀ j_, upN (upN (upN (upN (upN ((clr (M 3))) (3) (3)) (4) (2)) (5) (9)) (6) (1)) (7) (1) j_ < 256 := upN_lt hb_8 (by omega)
        refine r_ast (f := upN (upN (upN (upN ((clr (M 3))) (3) (3)) (4) (2)) (5) (9)) (6) (1)) F B 3 (wM q cI (stR M 3 (upN (upN (upN (upN (upN ((clr (M 3))) (3) (3)) (4) (2)) (5) (9)) (6) (1)) (7) (1)))) rfl dX4_reads_58 (by decide) (by omega) rfl (fun H locs B => ?_)
        refine r_aln F hl 0 rfl dX4_reads_59 rfl ?_
        refine r_ic F 0 dX4_reads_60 rfl ?_
        refine pf_X4_50 F B 0 (wM q cI (stR (stR M 3 (upN (upN (upN (upN (upN ((clr (M 3))) (3) (3)) (4) (2)) (5) (9)) (6) (1)) (7) (1))) 12 (fun _ => 0))) rfl rfl rfl (Nat.le_of_ble_eq_true rfl) rfl dX4_reads_61 (fun H locs B => ?_)
        have lp_10 : ∀ (nn_ : Nat) (fu : Nat) (a : Nat) (g : Nat → Nat) (d : Nat → Nat) (H : Heap) (locs : List Loc) (ls : Array Slot), fu < nn_ → (rdF (M 0) (M 1 0) fu a g d = reR M) → (M 1 0 < a + fu) → (a ≤ M 1 0) → (∀ j, g j < 1000) → (Dok d) → Bx D A H0 (wM q cI (stR (stR (stR M 3 (d)) 12 (fun _ => a)) 13 (g))) H locs → lv_has ls 2 [(0, .ref (q 0))] → W p l e rm_X4_reads s m args below meth c H locs 0 0 (Qu below args s D ((iI ((reR M).1))) (wM q cI (stR (stR (stR M 12 (fun _ => (reR M).2.1)) 13 ((reR M).2.2.1)) 3 ((reR M).2.2.2))) A) (F0 m 64 ls []) := by
          intro nn_
          induction nn_ with
          | zero => intro fu a g d H locs ls hlt; exact absurd hlt (Nat.not_lt_zero _)
          | succ nn_ ih =>
            have ih_11 := ih; clear ih
            intro fu a g d H locs ls hlt hI hfu ha hg hdo B hl
            have hlt_12 := hlt
            obtain ⟨fv, rfl⟩ : ∃ x, fu = x + 1 := ⟨fu - 1, by omega⟩
            refine r_aln F hl 0 rfl dX4_reads_64 rfl ?_
            refine gf_X4_50 F B.1 0 rfl (.int (iI ((a : Nat) : Int))) rfl dX4_reads_65 ?_
            refine r_aln F hl 0 rfl dX4_reads_68 rfl ?_
            refine gf_X4_44 F B.1 0 rfl (.int (iI ((M 1 0 : Nat) : Int))) rfl dX4_reads_69 ?_
            refine r_cge 92 F dX4_reads_72 (by decide) (by omega) (fun c_13 => ?_) (fun c_13 => ?_)
            · have he_ : reR M = (-4, a, g, d) := by rw [← hI, rdF_end (by omega)]
              refine r_bpz F (-4) dX4_reads_92 rfl ?_
              exact r_retU F hr hlk hH B dX4_reads_94 (by rw [he_]) (by rw [he_]; rfl)
            · refine r_aln F hl 0 rfl dX4_reads_75 rfl ?_
              refine gf_X4_50 F B.1 0 rfl (.int (iI ((a : Nat) : Int))) rfl dX4_reads_76 ?_
              refine r_isn (lv' := [(0, .ref (q 0)), (1, .int (iI ((a : Nat) : Int)))]) F hl dX4_reads_79 rfl (by decide) [1, 0] rfl (fun ls hl => ?_)
              refine r_aln F hl 0 rfl dX4_reads_80 rfl ?_
              refine r_cuW (r := (iI ((Bool.toNat ((pr_item (M 0) (M 1 0) (a) (g) (d)).1) : Nat) : Int))) (wc' := wM q cI (stR (stR (stR M 3 ((pr_item (M 0) (M 1 0) (a) (g) (d)).2.2.2)) 12 (fun _ => (pr_item (M 0) (M 1 0) (a) (g) (d)).2.1)) 13 ((pr_item (M 0) (M 1 0) (a) (g) (d)).2.2.1))) F hA B (k_X4_item l D cI cB (q) ((stR (stR (stR M 3 (d)) 12 (fun _ => a)) 13 (g)))  (show a < M 1 0 from by omega) hlen htx hg hdo) gw_X4_86 rfl rfl ⟨⟨rfl, rfl⟩, Nat.le_of_ble_eq_true rfl, Nat.le_of_ble_eq_true rfl⟩ ⟨Nat.le_of_ble_eq_true rfl, Nat.le_of_ble_eq_true rfl⟩ hl.1 rfl [] rfl (Nat.le_of_ble_eq_true rfl) dX4_reads_81 (fun H locs B => ?_)
              have hz_ := @item_ok (M 0) g d (M 1 0) a (by omega) hg hdo
              have hz1_ := hz_.1
              refine r_zneb 89 F dX4_reads_84 (by decide) (fun c_14 => ?_) (fun c_14 => ?_)
              · refine r_goto 64 F dX4_reads_89 (by decide) ?_
                exact ih_11 (fv) ((pr_item (M 0) (M 1 0) (a) (g) (d)).2.1) ((pr_item (M 0) (M 1 0) (a) (g) (d)).2.2.1) ((pr_item (M 0) (M 1 0) (a) (g) (d)).2.2.2) _ _ ls (by omega) (by rw [← hI]; exact (rdF_go (by omega) c_14).symm) (by omega) (by omega) hz_.2.1 hz_.2.2 B (lv_sub hl [0] rfl)
              · have he_ : reR M = ((a : Int), (pr_item (M 0) (M 1 0) a g d).2) := by rw [← hI, rdF_bad (by omega) c_14]
                refine r_iln F hl 1 rfl dX4_reads_87 rfl ?_
                exact r_retU F hr hlk hH B dX4_reads_88 (by rw [he_]) (by rw [he_]; rfl)
        exact lp_10 _ (301) (0) (M 13) (upN (upN (upN (upN (upN ((clr (M 3))) (3) (3)) (4) (2)) (5) (9)) (6) (1)) (7) (1)) _ _ ls (Nat.lt_succ_self _) rfl (by omega) (by omega) htd (dr0_ok hdr) B (lv_sub hl [0] rfl)
      · refine r_aln F hl 0 rfl dX4_reads_8 rfl ?_
        refine gf_X4_16 F B.1 0 rfl (.ref (q 4)) rfl dX4_reads_9 ?_
        refine r_iln F hl 1 rfl dX4_reads_12 rfl ?_
        refine r_ic F 0 dX4_reads_13 rfl ?_
        have hb_15 : ∀ j_, upN (f) (k) (0) j_ < 256 := upN_lt hf (by omega)
        refine r_ast (f := f) F B 3 (wM q cI (stR M 3 (upN (f) (k) (0)))) rfl dX4_reads_14 (by decide) (by omega) rfl (fun H locs B => ?_)
        refine r_inc (lv' := [(0, .ref (q 0)), (1, .int (iI (((k + 1) : Nat) : Int)))]) F hl 1 rfl dX4_reads_15 1 rfl (by decide) [1, 0] rfl (fun ls hl => ?_)
        refine r_goto 2 F dX4_reads_18 (by decide) ?_
        exact ih_2 ((k + 1)) (upN (f) (k) (0)) _ _ ls (by omega) (by have h_ := hJ; rw [lpR_step (by omega)] at h_; refine Eq.trans ?_ h_; first | rfl | (simp only [c_4, (Nat.not_le.mpr c_4), if_true, if_false, Bool.and_true, Bool.true_and, Bool.and_false, Bool.false_and, Bool.and_self, Bool.false_eq_true, ↓reduceIte, decide_true, decide_false, Int.toNat_natCast, Bool.toNat_true, Bool.toNat_false, true_and, and_true, false_and, and_false, not_true_eq_false, not_false_eq_true, true_or, or_true, false_or, or_false]; done) | (simp [c_4, (Nat.not_le.mpr c_4)]; done)) hb_15 (by omega) B hl
  exact lp_1 _ (0) (M 3) _ _ ls (Nat.lt_succ_self _) rfl hdr (by omega) B hl
abbrev rm_X4_fault : Room := { frames := 6, cells := 0, slots := 0, locals := 131 }
set_option maxHeartbeats 4000000 in
set_option maxRecDepth 100000 in
theorem k_X4_fault (l : Launch) (D : va_G) (cI cB : ClassId) (q : Nat → Nat) (M : St) (hlen : M 1 0 ≤ 300) (htx : ∀ k, M 0 k < 256) (htd : ∀ k, M 13 k < 1000) (hdr : ∀ k, M 3 k < 256) : CtU l yX4_fault cX4_fault 1 (some .int) rm_X4_fault D cI cB [.ref (q 0)] (wM q cI M) (wM q cI (stR (stR (stR M 12 (fun _ => (reR M).2.1)) 13 ((reR M).2.2.1)) 3 ((reR M).2.2.2))) ((iI ((reR M).1))) := by
  refine CtU.of RX4 (by decide) rfl (Nat.le_of_ble_eq_true rfl) ?_
  intro p e s m args below meth c H0 ls A hH hA F hr hlk B hl
  have hl : lv_has ls 1 [(0, .ref (q 0))] := hl
  refine r_aln F hl 0 rfl dX4_fault_0 rfl ?_
  refine r_cuW (r := (iI ((reR M).1))) (wc' := wM q cI (stR (stR (stR M 12 (fun _ => (reR M).2.1)) 13 ((reR M).2.2.1)) 3 ((reR M).2.2.2))) F hA B (k_X4_reads l D cI cB (q) (M)  hlen htx htd hdr) gw_X4_89 rfl rfl ⟨⟨rfl, rfl⟩, Nat.le_of_ble_eq_true rfl, Nat.le_of_ble_eq_true rfl⟩ ⟨Nat.le_of_ble_eq_true rfl, Nat.le_of_ble_eq_true rfl⟩ hl.1 rfl [] rfl (Nat.le_of_ble_eq_true rfl) dX4_fault_1 (fun H locs B => ?_)
  have hb_1 : ∀ j_, ((reR M).2.2.1) j_ < 1000 := (re_ok htd hdr).2.2.1
  have hb_2 : ∀ j_, ((reR M).2.2.2) j_ < 256 := (re_ok htd hdr).2.2.2.2
  have hq_ := re_ok htd hdr
  exact r_retU F hr hlk hH B dX4_fault_4 (by first | rfl | (simp only [if_true, if_false, Bool.and_true, Bool.true_and, Bool.and_false, Bool.false_and, Bool.and_self, Bool.false_eq_true, ↓reduceIte, decide_true, decide_false, Int.toNat_natCast, Bool.toNat_true, Bool.toNat_false, true_and, and_true, false_and, and_false, not_true_eq_false, not_false_eq_true, true_or, or_true, false_or, or_false]; first | done | rfl | (simp only [if_true, if_true, if_false, Bool.and_true, Bool.true_and, Bool.and_false, Bool.false_and, Bool.and_self, Bool.false_eq_true, ↓reduceIte, decide_true, decide_false, Int.toNat_natCast, Bool.toNat_true, Bool.toNat_false, true_and, and_true, false_and, and_false, not_true_eq_false, not_false_eq_true, true_or, or_true, false_or, or_false]; first | done | rfl) | (simp only [if_true]; first | done | rfl) | (simp [if_true]; done) | (simp [if_true]; first | rfl | omega)) | (simp [if_true]; done) | (simp [if_true]; omega) | (simp only [if_true, if_false, Bool.and_true, Bool.true_and, Bool.and_false, Bool.false_and, Bool.and_self, Bool.false_eq_true, ↓reduceIte, decide_true, decide_false, Int.toNat_natCast, Bool.toNat_true, Bool.toNat_false, true_and, and_true, false_and, and_false, not_true_eq_false, not_false_eq_true, true_or, or_true, false_or, or_false]; try simp only [if_true, if_true, if_false, Bool.and_true, Bool.true_and, Bool.and_false, Bool.false_and, Bool.and_self, Bool.false_eq_true, ↓reduceIte, decide_true, decide_false, Int.toNat_natCast, Bool.toNat_true, Bool.toNat_false, true_and, and_true, false_and, and_false, not_true_eq_false, not_false_eq_true, true_or, or_true, false_or, or_false]; rfl)) (by first | rfl | (simp only [if_true, if_false, Bool.and_true, Bool.true_and, Bool.and_false, Bool.false_and, Bool.and_self, Bool.false_eq_true, ↓reduceIte, decide_true, decide_false, Int.toNat_natCast, Bool.toNat_true, Bool.toNat_false, true_and, and_true, false_and, and_false, not_true_eq_false, not_false_eq_true, true_or, or_true, false_or, or_false]; first | done | rfl | (simp only [if_true, if_true, if_false, Bool.and_true, Bool.true_and, Bool.and_false, Bool.false_and, Bool.and_self, Bool.false_eq_true, ↓reduceIte, decide_true, decide_false, Int.toNat_natCast, Bool.toNat_true, Bool.toNat_false, true_and, and_true, false_and, and_false, not_true_eq_false, not_false_eq_true, true_or, or_true, false_or, or_false]; first | done | rfl) | (simp only [if_true]; first | done | rfl) | (simp [if_true]; done) | (simp [if_true]; first | rfl | omega)) | (simp [if_true]; done) | (simp [if_true]; omega) | (simp only [if_true, if_false, Bool.and_true, Bool.true_and, Bool.and_false, Bool.false_and, Bool.and_self, Bool.false_eq_true, ↓reduceIte, decide_true, decide_false, Int.toNat_natCast, Bool.toNat_true, Bool.toNat_false, true_and, and_true, false_and, and_false, not_true_eq_false, not_false_eq_true, true_or, or_true, false_or, or_false]; try simp only [if_true, if_true, if_false, Bool.and_true, Bool.true_and, Bool.and_false, Bool.false_and, Bool.and_self, Bool.false_eq_true, ↓reduceIte, decide_true, decide_false, Int.toNat_natCast, Bool.toNat_true, Bool.toNat_false, true_and, and_true, false_and, and_false, not_true_eq_false, not_false_eq_true, true_or, or_true, false_or, or_false]; rfl))
abbrev rm_X4_lay : Room := { frames := 6, cells := 0, slots := 0, locals := 131 }
set_option maxHeartbeats 4000000 in
set_option maxRecDepth 100000 in
theorem k_X4_lay (l : Launch) (D : va_G) (cI cB : ClassId) (q : Nat → Nat) (M : St) (hlen : M 1 0 ≤ 300) (htx : ∀ k, M 0 k < 256) (htd : ∀ k, M 13 k < 1000) (hdr : ∀ k, M 3 k < 256) (hbk : ∀ k, M 2 k < 256) (hs : ∀ k, M 4 k < 65536) : CtU l yX4_lay cX4_lay 2 (some .int) rm_X4_lay D cI cB [.ref (q 0)] (wM q cI M) (wM q cI (stR (stR (stR (stR (stR (stR (stR M 12 (fun _ => (reR M).2.1)) 13 ((reR M).2.2.1)) 3 ((reR M).2.2.2)) 2 (g_layB M)) 4 (g_layS M)) 11 (fun _ => g_layD M)) 7 (fun _ => g_layK M))) ((iI (g_lay M))) := by
  refine CtU.of RX4 (by decide) rfl (Nat.le_of_ble_eq_true rfl) ?_
  intro p e s m args below meth c H0 ls A hH hA F hr hlk B hl
  have hl : lv_has ls 2 [(0, .ref (q 0))] := hl
  refine r_aln F hl 0 rfl dX4_lay_0 rfl ?_
  refine r_cuW (r := (iI ((reR M).1))) (wc' := wM q cI (stR (stR (stR M 12 (fun _ => (reR M).2.1)) 13 ((reR M).2.2.1)) 3 ((reR M).2.2.2))) F hA B (k_X4_reads l D cI cB (q) (M)  hlen htx htd hdr) gw_X4_89 rfl rfl ⟨⟨rfl, rfl⟩, Nat.le_of_ble_eq_true rfl, Nat.le_of_ble_eq_true rfl⟩ ⟨Nat.le_of_ble_eq_true rfl, Nat.le_of_ble_eq_true rfl⟩ hl.1 rfl [] rfl (Nat.le_of_ble_eq_true rfl) dX4_lay_1 (fun H locs B => ?_)
  have hb_1 : ∀ j_, ((reR M).2.2.1) j_ < 1000 := (re_ok htd hdr).2.2.1
  have hb_2 : ∀ j_, ((reR M).2.2.2) j_ < 256 := (re_ok htd hdr).2.2.2.2
  have hq_ := re_ok htd hdr
  refine r_bpz F (-4) dX4_lay_4 rfl ?_
  refine r_cnez (a := (reR M).1) (b := -4) 18 F dX4_lay_6 (by decide) (by omega) (fun c_3 => ?_) (fun c_3 => ?_)
  · have hv_ : bLay M = false := by unfold bLay; simp [c_3]
    refine r_bpz F (-2) dX4_lay_18 rfl ?_
    exact r_retU F hr hlk hH B dX4_lay_20 (by first | rfl | (simp only [g_lay, hv_, if_true, if_false, Bool.and_true, Bool.true_and, Bool.and_false, Bool.false_and, Bool.and_self, Bool.false_eq_true, ↓reduceIte, decide_true, decide_false, Int.toNat_natCast, Bool.toNat_true, Bool.toNat_false, true_and, and_true, false_and, and_false, not_true_eq_false, not_false_eq_true, true_or, or_true, false_or, or_false]; first | done | rfl | (simp only [c_3, if_true, if_false, Bool.and_true, Bool.true_and, Bool.and_false, Bool.false_and, Bool.and_self, Bool.false_eq_true, ↓reduceIte, decide_true, decide_false, Int.toNat_natCast, Bool.toNat_true, Bool.toNat_false, true_and, and_true, false_and, and_false, not_true_eq_false, not_false_eq_true, true_or, or_true, false_or, or_false]; first | done | rfl) | (simp only [if_neg c_3]; first | done | rfl) | (simp [c_3]; done) | (simp [c_3]; first | rfl | omega)) | (simp [g_lay, c_3, hv_]; done) | (simp [g_lay, c_3, hv_]; omega) | (simp only [g_lay, hv_, if_true, if_false, Bool.and_true, Bool.true_and, Bool.and_false, Bool.false_and, Bool.and_self, Bool.false_eq_true, ↓reduceIte, decide_true, decide_false, Int.toNat_natCast, Bool.toNat_true, Bool.toNat_false, true_and, and_true, false_and, and_false, not_true_eq_false, not_false_eq_true, true_or, or_true, false_or, or_false]; try simp only [c_3, if_true, if_false, Bool.and_true, Bool.true_and, Bool.and_false, Bool.false_and, Bool.and_self, Bool.false_eq_true, ↓reduceIte, decide_true, decide_false, Int.toNat_natCast, Bool.toNat_true, Bool.toNat_false, true_and, and_true, false_and, and_false, not_true_eq_false, not_false_eq_true, true_or, or_true, false_or, or_false]; rfl)) (by first | rfl | (simp only [g_layB, g_layS, g_layD, g_layK, hv_, if_true, if_false, Bool.and_true, Bool.true_and, Bool.and_false, Bool.false_and, Bool.and_self, Bool.false_eq_true, ↓reduceIte, decide_true, decide_false, Int.toNat_natCast, Bool.toNat_true, Bool.toNat_false, true_and, and_true, false_and, and_false, not_true_eq_false, not_false_eq_true, true_or, or_true, false_or, or_false]; first | done | rfl | (simp only [c_3, if_true, if_false, Bool.and_true, Bool.true_and, Bool.and_false, Bool.false_and, Bool.and_self, Bool.false_eq_true, ↓reduceIte, decide_true, decide_false, Int.toNat_natCast, Bool.toNat_true, Bool.toNat_false, true_and, and_true, false_and, and_false, not_true_eq_false, not_false_eq_true, true_or, or_true, false_or, or_false]; first | done | rfl) | (simp only [if_neg c_3]; first | done | rfl) | (simp [c_3]; done) | (simp [c_3]; first | rfl | omega)) | (simp [g_layB, g_layS, g_layD, g_layK, c_3, hv_]; done) | (simp [g_layB, g_layS, g_layD, g_layK, c_3, hv_]; omega) | (simp only [g_layB, g_layS, g_layD, g_layK, hv_, if_true, if_false, Bool.and_true, Bool.true_and, Bool.and_false, Bool.false_and, Bool.and_self, Bool.false_eq_true, ↓reduceIte, decide_true, decide_false, Int.toNat_natCast, Bool.toNat_true, Bool.toNat_false, true_and, and_true, false_and, and_false, not_true_eq_false, not_false_eq_true, true_or, or_true, false_or, or_false]; try simp only [c_3, if_true, if_false, Bool.and_true, Bool.true_and, Bool.and_false, Bool.false_and, Bool.and_self, Bool.false_eq_true, ↓reduceIte, decide_true, decide_false, Int.toNat_natCast, Bool.toNat_true, Bool.toNat_false, true_and, and_true, false_and, and_false, not_true_eq_false, not_false_eq_true, true_or, or_true, false_or, or_false]; rfl))
  · refine r_aln F hl 0 rfl dX4_lay_9 rfl ?_
    refine gf_X4_16 F B.1 0 rfl (.ref (q 4)) rfl dX4_lay_10 ?_
    refine r_ic F 0 dX4_lay_13 rfl ?_
    refine r_ald (f := (reR M).2.2.2) F B.1 3 rfl dX4_lay_14 (by decide) (by omega) ?_
    have b_4 : ((reR M).2.2.2) (0) < 256 := hb_2 (0)
    refine r_zne 21 F dX4_lay_15 (by decide) (by omega) (fun c_5 => ?_) (fun c_5 => ?_)
    · have hv_ : bLay M = true := by unfold bLay; simp [c_3, c_5]
      refine r_ic F 0 dX4_lay_21 rfl ?_
      refine r_isn (lv' := [(0, .ref (q 0)), (1, .int (iI ((0 : Nat) : Int)))]) F hl dX4_lay_22 rfl (by decide) [1, 0] rfl (fun ls hl => ?_)
      have lp_6 : ∀ (nn_ : Nat) (k : Nat) (f : Nat → Nat) (H : Heap) (locs : List Loc) (ls : Array Slot), 80 - k < nn_ → (lpR (fun k b => upN b k ((reR M).2.2.2 k)) 80 k f = cp80 (reR M).2.2.2 (M 2)) → (∀ k, f k < 256) → (k ≤ 80) → Bx D A H0 (wM q cI (stR (stR (stR (stR M 12 (fun _ => (reR M).2.1)) 13 ((reR M).2.2.1)) 3 ((reR M).2.2.2)) 2 (f))) H locs → lv_has ls 2 [(0, .ref (q 0)), (1, .int (iI ((k : Nat) : Int)))] → W p l e rm_X4_lay s m args below meth c H locs 0 0 (Qu below args s D ((iI (g_lay M))) (wM q cI (stR (stR (stR (stR (stR (stR (stR M 12 (fun _ => (reR M).2.1)) 13 ((reR M).2.2.1)) 3 ((reR M).2.2.2)) 2 (g_layB M)) 4 (g_layS M)) 11 (fun _ => g_layD M)) 7 (fun _ => g_layK M))) A) (F0 m 23 ls []) := by
        intro nn_
        induction nn_ with
        | zero => intro k f H locs ls hlt; exact absurd hlt (Nat.not_lt_zero _)
        | succ nn_ ih =>
          have ih_7 := ih; clear ih
          intro k f H locs ls hlt hI hf hk B hl
          have hlt_8 := hlt
          refine r_iln F hl 1 rfl dX4_lay_23 rfl ?_
          refine r_bp F 80 dX4_lay_24 rfl ?_
          refine r_cge 47 F dX4_lay_26 (by decide) (by omega) (fun c_9 => ?_) (fun c_9 => ?_)
          · obtain rfl : f = cp80 (reR M).2.2.2 (M 2) := by rw [← hI, lpR_end (by omega)]
            refine r_ic F 0 dX4_lay_47 rfl ?_
            refine r_isn (lv' := [(0, .ref (q 0)), (1, .int (iI ((0 : Nat) : Int)))]) F hl dX4_lay_48 rfl (by decide) [1, 0] rfl (fun ls hl => ?_)
            have lp_10 : ∀ (nn_ : Nat) (k2 : Nat) (f2 : Nat → Nat) (H : Heap) (locs : List Loc) (ls : Array Slot), 16 - k2 < nn_ → (lpR (stB (cp80 (reR M).2.2.2 (M 2))) 16 k2 f2 = sp_start (cp80 (reR M).2.2.2 (M 2)) (M 4)) → (∀ k, f2 k < 65536) → (k2 ≤ 16) → Bx D A H0 (wM q cI (stR (stR (stR (stR (stR M 12 (fun _ => (reR M).2.1)) 13 ((reR M).2.2.1)) 3 ((reR M).2.2.2)) 2 ((cp80 (reR M).2.2.2 (M 2)))) 4 (f2))) H locs → lv_has ls 2 [(0, .ref (q 0)), (1, .int (iI ((k2 : Nat) : Int)))] → W p l e rm_X4_lay s m args below meth c H locs 0 0 (Qu below args s D ((iI (g_lay M))) (wM q cI (stR (stR (stR (stR (stR (stR (stR M 12 (fun _ => (reR M).2.1)) 13 ((reR M).2.2.1)) 3 ((reR M).2.2.2)) 2 (g_layB M)) 4 (g_layS M)) 11 (fun _ => g_layD M)) 7 (fun _ => g_layK M))) A) (F0 m 49 ls []) := by
              intro nn_
              induction nn_ with
              | zero => intro k2 f2 H locs ls hlt; exact absurd hlt (Nat.not_lt_zero _)
              | succ nn_ ih =>
                have ih_11 := ih; clear ih
                intro k2 f2 H locs ls hlt hJ hf2 hk2 B hl
                have hlt_12 := hlt
                refine r_iln F hl 1 rfl dX4_lay_49 rfl ?_
                refine r_bp F 16 dX4_lay_50 rfl ?_
                refine r_cge 92 F dX4_lay_52 (by decide) (by omega) (fun c_13 => ?_) (fun c_13 => ?_)
                · obtain rfl : f2 = sp_start (cp80 (reR M).2.2.2 (M 2)) (M 4) := by rw [← hJ, lpR_end (by omega)]
                  refine r_aln F hl 0 rfl dX4_lay_92 rfl ?_
                  refine r_ic F 0 dX4_lay_93 rfl ?_
                  refine pf_X4_93 F B 0 (wM q cI (stR (stR (stR (stR (stR (stR M 12 (fun _ => (reR M).2.1)) 13 ((reR M).2.2.1)) 3 ((reR M).2.2.2)) 2 ((cp80 (reR M).2.2.2 (M 2)))) 4 ((sp_start (cp80 (reR M).2.2.2 (M 2)) (M 4)))) 11 (fun _ => 0))) rfl rfl rfl (Nat.le_of_ble_eq_true rfl) rfl dX4_lay_94 (fun H locs B => ?_)
                  refine r_aln F hl 0 rfl dX4_lay_97 rfl ?_
                  refine r_ic F 0 dX4_lay_98 rfl ?_
                  refine pf_X4_96 F B 0 (wM q cI (stR (stR (stR (stR (stR (stR (stR M 12 (fun _ => (reR M).2.1)) 13 ((reR M).2.2.1)) 3 ((reR M).2.2.2)) 2 ((cp80 (reR M).2.2.2 (M 2)))) 4 ((sp_start (cp80 (reR M).2.2.2 (M 2)) (M 4)))) 11 (fun _ => 0)) 7 (fun _ => 0))) rfl rfl rfl (Nat.le_of_ble_eq_true rfl) rfl dX4_lay_99 (fun H locs B => ?_)
                  refine r_aln F hl 0 rfl dX4_lay_102 rfl ?_
                  refine gf_X4_13 F B.1 0 rfl (.ref (q 3)) rfl dX4_lay_103 ?_
                  refine r_ic F 0 dX4_lay_106 rfl ?_
                  refine r_ald (f := (cp80 (reR M).2.2.2 (M 2))) F B.1 2 rfl dX4_lay_107 (by decide) (by omega) ?_
                  have b_14 : ((cp80 (reR M).2.2.2 (M 2))) (0) < 256 := hf (0)
                  exact r_retU F hr hlk hH B dX4_lay_108 (by first | rfl | (simp only [g_lay, hv_, if_true, if_false, Bool.and_true, Bool.true_and, Bool.and_false, Bool.false_and, Bool.and_self, Bool.false_eq_true, ↓reduceIte, decide_true, decide_false, Int.toNat_natCast, Bool.toNat_true, Bool.toNat_false, true_and, and_true, false_and, and_false, not_true_eq_false, not_false_eq_true, true_or, or_true, false_or, or_false]; first | done | rfl | (simp only [c_3, c_5, c_9, (Nat.not_lt.mp c_9), c_13, (Nat.not_lt.mp c_13), if_true, if_false, Bool.and_true, Bool.true_and, Bool.and_false, Bool.false_and, Bool.and_self, Bool.false_eq_true, ↓reduceIte, decide_true, decide_false, Int.toNat_natCast, Bool.toNat_true, Bool.toNat_false, true_and, and_true, false_and, and_false, not_true_eq_false, not_false_eq_true, true_or, or_true, false_or, or_false]; first | done | rfl) | (simp only [if_pos c_3, if_neg c_5, if_neg c_9, if_pos (Nat.not_lt.mp c_9), if_neg c_13, if_pos (Nat.not_lt.mp c_13)]; first | done | rfl) | (simp [c_3, c_5, c_9, (Nat.not_lt.mp c_9), c_13, (Nat.not_lt.mp c_13)]; done) | (simp [c_3, c_5, c_9, (Nat.not_lt.mp c_9), c_13, (Nat.not_lt.mp c_13)]; first | rfl | omega)) | (simp [g_lay, c_3, c_5, c_9, (Nat.not_lt.mp c_9), c_13, (Nat.not_lt.mp c_13), hv_]; done) | (simp [g_lay, c_3, c_5, c_9, (Nat.not_lt.mp c_9), c_13, (Nat.not_lt.mp c_13), hv_]; omega) | (simp only [g_lay, hv_, if_true, if_false, Bool.and_true, Bool.true_and, Bool.and_false, Bool.false_and, Bool.and_self, Bool.false_eq_true, ↓reduceIte, decide_true, decide_false, Int.toNat_natCast, Bool.toNat_true, Bool.toNat_false, true_and, and_true, false_and, and_false, not_true_eq_false, not_false_eq_true, true_or, or_true, false_or, or_false]; try simp only [c_3, c_5, c_9, (Nat.not_lt.mp c_9), c_13, (Nat.not_lt.mp c_13), if_true, if_false, Bool.and_true, Bool.true_and, Bool.and_false, Bool.false_and, Bool.and_self, Bool.false_eq_true, ↓reduceIte, decide_true, decide_false, Int.toNat_natCast, Bool.toNat_true, Bool.toNat_false, true_and, and_true, false_and, and_false, not_true_eq_false, not_false_eq_true, true_or, or_true, false_or, or_false]; rfl)) (by first | rfl | (simp only [g_layB, g_layS, g_layD, g_layK, hv_, if_true, if_false, Bool.and_true, Bool.true_and, Bool.and_false, Bool.false_and, Bool.and_self, Bool.false_eq_true, ↓reduceIte, decide_true, decide_false, Int.toNat_natCast, Bool.toNat_true, Bool.toNat_false, true_and, and_true, false_and, and_false, not_true_eq_false, not_false_eq_true, true_or, or_true, false_or, or_false]; first | done | rfl | (simp only [c_3, c_5, c_9, (Nat.not_lt.mp c_9), c_13, (Nat.not_lt.mp c_13), if_true, if_false, Bool.and_true, Bool.true_and, Bool.and_false, Bool.false_and, Bool.and_self, Bool.false_eq_true, ↓reduceIte, decide_true, decide_false, Int.toNat_natCast, Bool.toNat_true, Bool.toNat_false, true_and, and_true, false_and, and_false, not_true_eq_false, not_false_eq_true, true_or, or_true, false_or, or_false]; first | done | rfl) | (simp only [if_pos c_3, if_neg c_5, if_neg c_9, if_pos (Nat.not_lt.mp c_9), if_neg c_13, if_pos (Nat.not_lt.mp c_13)]; first | done | rfl) | (simp [c_3, c_5, c_9, (Nat.not_lt.mp c_9), c_13, (Nat.not_lt.mp c_13)]; done) | (simp [c_3, c_5, c_9, (Nat.not_lt.mp c_9), c_13, (Nat.not_lt.mp c_13)]; first | rfl | omega)) | (simp [g_layB, g_layS, g_layD, g_layK, c_3, c_5, c_9, (Nat.not_lt.mp c_9), c_13, (Nat.not_lt.mp c_13), hv_]; done) | (simp [g_layB, g_layS, g_layD, g_layK, c_3, c_5, c_9, (Nat.not_lt.mp c_9), c_13, (Nat.not_lt.mp c_13), hv_]; omega) | (simp only [g_layB, g_layS, g_layD, g_layK, hv_, if_true, if_false, Bool.and_true, Bool.true_and, Bool.and_false, Bool.false_and, Bool.and_self, Bool.false_eq_true, ↓reduceIte, decide_true, decide_false, Int.toNat_natCast, Bool.toNat_true, Bool.toNat_false, true_and, and_true, false_and, and_false, not_true_eq_false, not_false_eq_true, true_or, or_true, false_or, or_false]; try simp only [c_3, c_5, c_9, (Nat.not_lt.mp c_9), c_13, (Nat.not_lt.mp c_13), if_true, if_false, Bool.and_true, Bool.true_and, Bool.and_false, Bool.false_and, Bool.and_self, Bool.false_eq_true, ↓reduceIte, decide_true, decide_false, Int.toNat_natCast, Bool.toNat_true, Bool.toNat_false, true_and, and_true, false_and, and_false, not_true_eq_false, not_false_eq_true, true_or, or_true, false_or, or_false]; rfl))
                · refine r_aln F hl 0 rfl dX4_lay_55 rfl ?_
                  refine gf_X4_19 F B.1 0 rfl (.ref (q 5)) rfl dX4_lay_56 ?_
                  refine r_iln F hl 1 rfl dX4_lay_59 rfl ?_
                  refine r_iln F hl 1 rfl dX4_lay_60 rfl ?_
                  refine r_ic F 1 dX4_lay_61 rfl ?_
                  refine r_bp F 10 dX4_lay_62 rfl ?_
                  refine r_sq (r := (iI ((Bool.toNat (isIn (((k2 : Nat) : Int)) ((1 : Int)) ((10 : Int))) : Nat) : Int))) F B.1 (k_X4_in l D cI cB (((k2 : Nat) : Int)) ((1 : Int)) ((10 : Int)) (by omega) (by omega) (by omega)) gw_X4_40 [] rfl ⟨⟨rfl, rfl⟩, Nat.le_of_ble_eq_true rfl, Nat.le_of_ble_eq_true rfl⟩ ⟨Nat.le_of_ble_eq_true rfl, Nat.le_of_ble_eq_true rfl⟩ hl.1 rfl [.int (iI ((k2 : Nat) : Int)), .ref (q 5)] rfl (Nat.le_of_ble_eq_true rfl) dX4_lay_64 ?_
                  refine r_zeqb 84 F dX4_lay_67 (by decide) (fun c_15 => ?_) (fun c_15 => ?_)
                  · have c_15d := c_15
                    simp only [isIn, isP, decide_eq_true_eq, decide_eq_false_iff_not] at c_15d
                    refine r_ic F 0 dX4_lay_84 rfl ?_
                    have hb_16 : ∀ j_, upN (f2) (k2) (0) j_ < 65536 := upN_lt hf2 (by omega)
                    refine r_ast (f := f2) F B 4 (wM q cI (stR (stR (stR (stR (stR M 12 (fun _ => (reR M).2.1)) 13 ((reR M).2.2.1)) 3 ((reR M).2.2.2)) 2 ((cp80 (reR M).2.2.2 (M 2)))) 4 (upN (f2) (k2) (0)))) rfl dX4_lay_85 (by decide) (by omega) rfl (fun H locs B => ?_)
                    refine r_inc (lv' := [(0, .ref (q 0)), (1, .int (iI (((k2 + 1) : Nat) : Int)))]) F hl 1 rfl dX4_lay_86 1 rfl (by decide) [1, 0] rfl (fun ls hl => ?_)
                    refine r_goto 49 F dX4_lay_89 (by decide) ?_
                    exact ih_11 ((k2 + 1)) (upN (f2) (k2) (0)) _ _ ls (by omega) (by have h_ := hJ; rw [lpR_step (by omega)] at h_; refine Eq.trans ?_ h_; first | rfl | (simp only [stB, c_3, c_5, c_9, (Nat.not_lt.mp c_9), c_13, (Nat.not_le.mpr c_13), c_15, if_true, if_false, Bool.and_true, Bool.true_and, Bool.and_false, Bool.false_and, Bool.and_self, Bool.false_eq_true, ↓reduceIte, decide_true, decide_false, Int.toNat_natCast, Bool.toNat_true, Bool.toNat_false, true_and, and_true, false_and, and_false, not_true_eq_false, not_false_eq_true, true_or, or_true, false_or, or_false]; done) | (simp [stB, c_3, c_5, c_9, (Nat.not_lt.mp c_9), c_13, (Nat.not_le.mpr c_13), c_15]; done)) hb_16 (by omega) B hl
                  · have c_15d := c_15
                    simp only [isIn, isP, decide_eq_true_eq, decide_eq_false_iff_not] at c_15d
                    refine r_aln F hl 0 rfl dX4_lay_70 rfl ?_
                    refine gf_X4_13 F B.1 0 rfl (.ref (q 3)) rfl dX4_lay_71 ?_
                    refine r_bp F 18 dX4_lay_74 rfl ?_
                    refine r_iln F hl 1 rfl dX4_lay_76 rfl ?_
                    refine r_add F dX4_lay_77 ?_
                    refine r_ic F 1 dX4_lay_78 rfl ?_
                    refine r_sub F dX4_lay_79 (by omega) ?_
                    refine r_ald (f := (cp80 (reR M).2.2.2 (M 2))) F B.1 2 rfl dX4_lay_80 (by decide) (by omega) ?_
                    have b_17 : ((cp80 (reR M).2.2.2 (M 2))) (((18 + k2) - 1)) < 256 := hf (((18 + k2) - 1))
                    refine r_goto 85 F dX4_lay_81 (by decide) ?_
                    have hb_18 : ∀ j_, upN (f2) (k2) (((cp80 (reR M).2.2.2 (M 2))) (((18 + k2) - 1))) j_ < 65536 := upN_lt hf2 (by omega)
                    refine r_ast (f := f2) F B 4 (wM q cI (stR (stR (stR (stR (stR M 12 (fun _ => (reR M).2.1)) 13 ((reR M).2.2.1)) 3 ((reR M).2.2.2)) 2 ((cp80 (reR M).2.2.2 (M 2)))) 4 (upN (f2) (k2) (((cp80 (reR M).2.2.2 (M 2))) (((18 + k2) - 1)))))) rfl dX4_lay_85 (by decide) (by omega) rfl (fun H locs B => ?_)
                    refine r_inc (lv' := [(0, .ref (q 0)), (1, .int (iI (((k2 + 1) : Nat) : Int)))]) F hl 1 rfl dX4_lay_86 1 rfl (by decide) [1, 0] rfl (fun ls hl => ?_)
                    refine r_goto 49 F dX4_lay_89 (by decide) ?_
                    exact ih_11 ((k2 + 1)) (upN (f2) (k2) (((cp80 (reR M).2.2.2 (M 2))) (((18 + k2) - 1)))) _ _ ls (by omega) (by have h_ := hJ; rw [lpR_step (by omega)] at h_; refine Eq.trans ?_ h_; first | rfl | (simp only [stB, c_3, c_5, c_9, (Nat.not_lt.mp c_9), c_13, (Nat.not_le.mpr c_13), c_15, if_true, if_false, Bool.and_true, Bool.true_and, Bool.and_false, Bool.false_and, Bool.and_self, Bool.false_eq_true, ↓reduceIte, decide_true, decide_false, Int.toNat_natCast, Bool.toNat_true, Bool.toNat_false, true_and, and_true, false_and, and_false, not_true_eq_false, not_false_eq_true, true_or, or_true, false_or, or_false]; done) | (simp [stB, c_3, c_5, c_9, (Nat.not_lt.mp c_9), c_13, (Nat.not_le.mpr c_13), c_15]; done)) hb_18 (by omega) B hl
            exact lp_10 _ (0) (M 4) _ _ ls (Nat.lt_succ_self _) rfl hs (by omega) B hl
          · refine r_aln F hl 0 rfl dX4_lay_29 rfl ?_
            refine gf_X4_13 F B.1 0 rfl (.ref (q 3)) rfl dX4_lay_30 ?_
            refine r_iln F hl 1 rfl dX4_lay_33 rfl ?_
            refine r_aln F hl 0 rfl dX4_lay_34 rfl ?_
            refine gf_X4_16 F B.1 0 rfl (.ref (q 4)) rfl dX4_lay_35 ?_
            refine r_iln F hl 1 rfl dX4_lay_38 rfl ?_
            refine r_ald (f := (reR M).2.2.2) F B.1 3 rfl dX4_lay_39 (by decide) (by omega) ?_
            have b_19 : ((reR M).2.2.2) (k) < 256 := hb_2 (k)
            have hb_20 : ∀ j_, upN (f) (k) (((reR M).2.2.2) (k)) j_ < 256 := upN_lt hf (by omega)
            refine r_ast (f := f) F B 2 (wM q cI (stR (stR (stR (stR M 12 (fun _ => (reR M).2.1)) 13 ((reR M).2.2.1)) 3 ((reR M).2.2.2)) 2 (upN (f) (k) (((reR M).2.2.2) (k))))) rfl dX4_lay_40 (by decide) (by omega) rfl (fun H locs B => ?_)
            refine r_inc (lv' := [(0, .ref (q 0)), (1, .int (iI (((k + 1) : Nat) : Int)))]) F hl 1 rfl dX4_lay_41 1 rfl (by decide) [1, 0] rfl (fun ls hl => ?_)
            refine r_goto 23 F dX4_lay_44 (by decide) ?_
            exact ih_7 ((k + 1)) (upN (f) (k) (((reR M).2.2.2) (k))) _ _ ls (by omega) (by have h_ := hI; rw [lpR_step (by omega)] at h_; refine Eq.trans ?_ h_; first | rfl | (simp only [c_3, c_5, c_9, (Nat.not_le.mpr c_9), if_true, if_false, Bool.and_true, Bool.true_and, Bool.and_false, Bool.false_and, Bool.and_self, Bool.false_eq_true, ↓reduceIte, decide_true, decide_false, Int.toNat_natCast, Bool.toNat_true, Bool.toNat_false, true_and, and_true, false_and, and_false, not_true_eq_false, not_false_eq_true, true_or, or_true, false_or, or_false]; done) | (simp [c_3, c_5, c_9, (Nat.not_le.mpr c_9)]; done)) hb_20 (by omega) B hl
      exact lp_6 _ (0) (M 2) _ _ ls (Nat.lt_succ_self _) rfl hbk (by omega) B hl
    · have hv_ : bLay M = false := by unfold bLay; simp [c_3, c_5]
      refine r_bpz F (-2) dX4_lay_18 rfl ?_
      exact r_retU F hr hlk hH B dX4_lay_20 (by first | rfl | (simp only [g_lay, hv_, if_true, if_false, Bool.and_true, Bool.true_and, Bool.and_false, Bool.false_and, Bool.and_self, Bool.false_eq_true, ↓reduceIte, decide_true, decide_false, Int.toNat_natCast, Bool.toNat_true, Bool.toNat_false, true_and, and_true, false_and, and_false, not_true_eq_false, not_false_eq_true, true_or, or_true, false_or, or_false]; first | done | rfl | (simp only [c_3, c_5, if_true, if_false, Bool.and_true, Bool.true_and, Bool.and_false, Bool.false_and, Bool.and_self, Bool.false_eq_true, ↓reduceIte, decide_true, decide_false, Int.toNat_natCast, Bool.toNat_true, Bool.toNat_false, true_and, and_true, false_and, and_false, not_true_eq_false, not_false_eq_true, true_or, or_true, false_or, or_false]; first | done | rfl) | (simp only [if_pos c_3, if_pos c_5]; first | done | rfl) | (simp [c_3, c_5]; done) | (simp [c_3, c_5]; first | rfl | omega)) | (simp [g_lay, c_3, c_5, hv_]; done) | (simp [g_lay, c_3, c_5, hv_]; omega) | (simp only [g_lay, hv_, if_true, if_false, Bool.and_true, Bool.true_and, Bool.and_false, Bool.false_and, Bool.and_self, Bool.false_eq_true, ↓reduceIte, decide_true, decide_false, Int.toNat_natCast, Bool.toNat_true, Bool.toNat_false, true_and, and_true, false_and, and_false, not_true_eq_false, not_false_eq_true, true_or, or_true, false_or, or_false]; try simp only [c_3, c_5, if_true, if_false, Bool.and_true, Bool.true_and, Bool.and_false, Bool.false_and, Bool.and_self, Bool.false_eq_true, ↓reduceIte, decide_true, decide_false, Int.toNat_natCast, Bool.toNat_true, Bool.toNat_false, true_and, and_true, false_and, and_false, not_true_eq_false, not_false_eq_true, true_or, or_true, false_or, or_false]; rfl)) (by first | rfl | (simp only [g_layB, g_layS, g_layD, g_layK, hv_, if_true, if_false, Bool.and_true, Bool.true_and, Bool.and_false, Bool.false_and, Bool.and_self, Bool.false_eq_true, ↓reduceIte, decide_true, decide_false, Int.toNat_natCast, Bool.toNat_true, Bool.toNat_false, true_and, and_true, false_and, and_false, not_true_eq_false, not_false_eq_true, true_or, or_true, false_or, or_false]; first | done | rfl | (simp only [c_3, c_5, if_true, if_false, Bool.and_true, Bool.true_and, Bool.and_false, Bool.false_and, Bool.and_self, Bool.false_eq_true, ↓reduceIte, decide_true, decide_false, Int.toNat_natCast, Bool.toNat_true, Bool.toNat_false, true_and, and_true, false_and, and_false, not_true_eq_false, not_false_eq_true, true_or, or_true, false_or, or_false]; first | done | rfl) | (simp only [if_pos c_3, if_pos c_5]; first | done | rfl) | (simp [c_3, c_5]; done) | (simp [c_3, c_5]; first | rfl | omega)) | (simp [g_layB, g_layS, g_layD, g_layK, c_3, c_5, hv_]; done) | (simp [g_layB, g_layS, g_layD, g_layK, c_3, c_5, hv_]; omega) | (simp only [g_layB, g_layS, g_layD, g_layK, hv_, if_true, if_false, Bool.and_true, Bool.true_and, Bool.and_false, Bool.false_and, Bool.and_self, Bool.false_eq_true, ↓reduceIte, decide_true, decide_false, Int.toNat_natCast, Bool.toNat_true, Bool.toNat_false, true_and, and_true, false_and, and_false, not_true_eq_false, not_false_eq_true, true_or, or_true, false_or, or_false]; try simp only [c_3, c_5, if_true, if_false, Bool.and_true, Bool.true_and, Bool.and_false, Bool.false_and, Bool.and_self, Bool.false_eq_true, ↓reduceIte, decide_true, decide_false, Int.toNat_natCast, Bool.toNat_true, Bool.toNat_false, true_and, and_true, false_and, and_false, not_true_eq_false, not_false_eq_true, true_or, or_true, false_or, or_false]; rfl))
