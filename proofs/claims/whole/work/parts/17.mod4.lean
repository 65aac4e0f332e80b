abbrev rm_X4_doneBy : Room := { frames := 1, cells := 0, slots := 0, locals := 24 }
set_option maxHeartbeats 4000000 in
set_option maxRecDepth 100000 in
theorem k_X4_doneBy (l : Launch) (D : va_G) (cI cB : ClassId) (q : Nat → Nat) (M : St) (i j : Nat) (hi : i < 5 ∧ j < 4) (hbk : ∀ k, M 2 k < 256) (hst : ∀ k, 32 ≤ k → k < 64 → M 2 k < 6) (hln : M 2 3 ≤ 8 ∧ ∀ k, 28 ≤ k → k < 32 → M 2 k ≤ 8) (hs : ∀ k, M 4 k < 65536) : CtQ l yX4_doneBy cX4_doneBy 8 (some .int) rm_X4_doneBy D cI cB [.ref (q 0), .int (iI ((i : Nat) : Int)), .int (iI ((j : Nat) : Int))] (wM q cI M) ((iI (sp_done (M 2) (M 4 0) i j))) := by
  have hl8 : M 2 (28 + j) ≤ 8 := hln.2 (28 + j) (by omega) (by omega)
  refine CtQ.of RX4 (by decide) rfl (Nat.le_of_ble_eq_true rfl) ?_
  intro p e s m args below meth c H ls hH F hr hlk P hl
  have hl : lv_has ls 8 [(0, .ref (q 0)), (1, .int (iI ((i : Nat) : Int))), (2, .int (iI ((j : Nat) : Int)))] := hl
  refine r_ic F 0 dX4_doneBy_0 rfl ?_
  refine r_isn (lv' := [(0, .ref (q 0)), (1, .int (iI ((i : Nat) : Int))), (2, .int (iI ((j : Nat) : Int))), (3, .int (iI ((0 : Nat) : Int)))]) F hl dX4_doneBy_1 rfl (by decide) [1, 2, 3, 0] rfl (fun ls hl => ?_)
  refine r_ic F 0 dX4_doneBy_2 rfl ?_
  refine r_is (lv' := [(0, .ref (q 0)), (1, .int (iI ((i : Nat) : Int))), (2, .int (iI ((j : Nat) : Int))), (3, .int (iI ((0 : Nat) : Int))), (4, .int (iI ((0 : Nat) : Int)))]) F hl dX4_doneBy_3 (by decide) [1, 2, 3, 4, 0] rfl (fun ls hl => ?_)
  refine r_ic F 0 dX4_doneBy_5 rfl ?_
  refine r_is (lv' := [(0, .ref (q 0)), (1, .int (iI ((i : Nat) : Int))), (2, .int (iI ((j : Nat) : Int))), (3, .int (iI ((0 : Nat) : Int))), (4, .int (iI ((0 : Nat) : Int))), (5, .int (iI ((0 : Nat) : Int)))]) F hl dX4_doneBy_6 (by decide) [1, 2, 3, 4, 5, 0] rfl (fun ls hl => ?_)
  have lp_1 : ∀ (nn_ : Nat) (fu : Nat) (b : Nat) (c0 : Nat) (n : Nat) (ls : Array Slot), fu < nn_ → (dnO (M 2) (M 4 0) i j fu b c0 n = sp_done (M 2) (M 4 0) i j) → (b ≤ M 2 (28 + j)) → (c0 ≤ 2) → (3 * (M 2 (28 + j) - b) + (2 - c0) < fu) → (n + fu ≤ 60) → lv_has ls 8 [(0, .ref (q 0)), (1, .int (iI ((i : Nat) : Int))), (2, .int (iI ((j : Nat) : Int))), (3, .int (iI ((b : Nat) : Int))), (4, .int (iI ((c0 : Nat) : Int))), (5, .int (iI ((n : Nat) : Int)))] → W p l e rm_X4_doneBy s m args below meth c H [] 0 0 (Qq below args s ((iI (sp_done (M 2) (M 4 0) i j)))) (F0 m 8 ls []) := by
    intro nn_
    induction nn_ with
    | zero => intro fu b c0 n ls hlt; exact absurd hlt (Nat.not_lt_zero _)
    | succ nn_ ih =>
      have ih_2 := ih; clear ih
      intro fu b c0 n ls hlt hI hb hc0 hm hn hl
      have hlt_3 := hlt
      obtain ⟨fv, rfl⟩ : ∃ a, fu = a + 1 := ⟨fu - 1, by omega⟩
      refine r_iln F hl 3 rfl dX4_doneBy_8 rfl ?_
      refine r_aln F hl 0 rfl dX4_doneBy_9 rfl ?_
      refine gf_X4_13 F P 0 rfl (.ref (q 3)) rfl dX4_doneBy_10 ?_
      refine r_bp F 28 dX4_doneBy_13 rfl ?_
      refine r_iln F hl 2 rfl dX4_doneBy_15 rfl ?_
      refine r_add F dX4_doneBy_16 ?_
      refine r_ald (f := M 2) F P 2 rfl dX4_doneBy_17 (by decide) (by omega) ?_
      have b_4 : M 2 ((28 + j)) < 256 := hbk ((28 + j))
      refine r_cge 120 F dX4_doneBy_18 (by decide) (by omega) (fun c_5 => ?_) (fun c_5 => ?_)
      · have he_ : sp_done (M 2) (M 4 0) i j = if b = M 2 (28 + j) then (n : Int) else -4 := by rw [← hI, dnO_stop (by omega)]
        refine r_iln F hl 3 rfl dX4_doneBy_120 rfl ?_
        refine r_aln F hl 0 rfl dX4_doneBy_121 rfl ?_
        refine gf_X4_13 F P 0 rfl (.ref (q 3)) rfl dX4_doneBy_122 ?_
        refine r_bp F 28 dX4_doneBy_125 rfl ?_
        refine r_iln F hl 2 rfl dX4_doneBy_127 rfl ?_
        refine r_add F dX4_doneBy_128 ?_
        refine r_ald (f := M 2) F P 2 rfl dX4_doneBy_129 (by decide) (by omega) ?_
        have b_6 : M 2 ((28 + j)) < 256 := hbk ((28 + j))
        refine r_cne 138 F dX4_doneBy_130 (by decide) (by omega) (fun c_7 => ?_) (fun c_7 => ?_)
        · refine r_bpz F (-4) dX4_doneBy_138 rfl ?_
          exact r_retQ F hr hlk hH dX4_doneBy_140 (by rw [he_, if_neg c_7])
        · refine r_il F hl 5 rfl dX4_doneBy_133 ?_
          refine r_goto 140 F dX4_doneBy_135 (by decide) ?_
          exact r_retQ F hr hlk hH dX4_doneBy_140 (by rw [he_, if_pos c_7])
      · refine r_il F hl 4 rfl dX4_doneBy_21 ?_
        refine r_ic F 2 dX4_doneBy_23 rfl ?_
        refine r_cge 120 F dX4_doneBy_24 (by decide) (by omega) (fun c_8 => ?_) (fun c_8 => ?_)
        · have he_ : sp_done (M 2) (M 4 0) i j = if b = M 2 (28 + j) then (n : Int) else -4 := by rw [← hI, dnO_stop (by omega)]
          refine r_iln F hl 3 rfl dX4_doneBy_120 rfl ?_
          refine r_aln F hl 0 rfl dX4_doneBy_121 rfl ?_
          refine gf_X4_13 F P 0 rfl (.ref (q 3)) rfl dX4_doneBy_122 ?_
          refine r_bp F 28 dX4_doneBy_125 rfl ?_
          refine r_iln F hl 2 rfl dX4_doneBy_127 rfl ?_
          refine r_add F dX4_doneBy_128 ?_
          refine r_ald (f := M 2) F P 2 rfl dX4_doneBy_129 (by decide) (by omega) ?_
          have b_9 : M 2 ((28 + j)) < 256 := hbk ((28 + j))
          refine r_cne 138 F dX4_doneBy_130 (by decide) (by omega) (fun c_10 => ?_) (fun c_10 => ?_)
          · refine r_bpz F (-4) dX4_doneBy_138 rfl ?_
            exact r_retQ F hr hlk hH dX4_doneBy_140 (by rw [he_, if_neg c_10])
          · refine r_il F hl 5 rfl dX4_doneBy_133 ?_
            refine r_goto 140 F dX4_doneBy_135 (by decide) ?_
            exact r_retQ F hr hlk hH dX4_doneBy_140 (by rw [he_, if_pos c_10])
        · refine r_aln F hl 0 rfl dX4_doneBy_27 rfl ?_
          refine gf_X4_19 F P 0 rfl (.ref (q 5)) rfl dX4_doneBy_28 ?_
          refine r_ic F 0 dX4_doneBy_31 rfl ?_
          refine r_ald (f := M 4) F P 4 rfl dX4_doneBy_32 (by decide) (by omega) ?_
          have b_11 : M 4 (0) < 65536 := hs (0)
          refine r_il F hl 5 rfl dX4_doneBy_33 ?_
          refine r_add F dX4_doneBy_35 ?_
          refine r_ic F 2 dX4_doneBy_36 rfl ?_
          refine r_rem F dX4_doneBy_37 (by omega) ?_
          refine r_is (lv' := [(0, .ref (q 0)), (1, .int (iI ((i : Nat) : Int))), (2, .int (iI ((j : Nat) : Int))), (3, .int (iI ((b : Nat) : Int))), (4, .int (iI ((c0 : Nat) : Int))), (5, .int (iI ((n : Nat) : Int))), (6, .int (iI ((((M 4 (0) + n) % 2) : Nat) : Int)))]) F hl dX4_doneBy_38 (by decide) [1, 2, 3, 4, 5, 6, 0] rfl (fun ls hl => ?_)
          refine r_ic F 0 dX4_doneBy_40 rfl ?_
          refine r_is (lv' := [(0, .ref (q 0)), (1, .int (iI ((i : Nat) : Int))), (2, .int (iI ((j : Nat) : Int))), (3, .int (iI ((b : Nat) : Int))), (4, .int (iI ((c0 : Nat) : Int))), (5, .int (iI ((n : Nat) : Int))), (6, .int (iI ((((M 4 (0) + n) % 2) : Nat) : Int))), (7, .int (iI ((0 : Nat) : Int)))]) F hl dX4_doneBy_41 (by decide) [1, 2, 3, 4, 5, 6, 7, 0] rfl (fun ls hl => ?_)
          have lp_12 : ∀ (nn_ : Nat) (gf : Nat) (a : Nat) (b2 : Nat) (ls : Array Slot), gf < nn_ → (dnI (M 2) i ((M 4 0 + n) % 2) j gf a b2 = dnI (M 2) i ((M 4 0 + n) % 2) j (M 2 3 + 1) 0 b) → (a ≤ M 2 3) → (M 2 3 + 1 = gf + a) → (b2 = b + a) → (b2 ≤ M 2 (28 + j)) → lv_has ls 8 [(0, .ref (q 0)), (1, .int (iI ((i : Nat) : Int))), (2, .int (iI ((j : Nat) : Int))), (3, .int (iI ((b2 : Nat) : Int))), (4, .int (iI ((c0 : Nat) : Int))), (5, .int (iI ((n : Nat) : Int))), (6, .int (iI ((((M 4 (0) + n) % 2) : Nat) : Int))), (7, .int (iI ((a : Nat) : Int)))] → W p l e rm_X4_doneBy s m args below meth c H [] 0 0 (Qq below args s ((iI (sp_done (M 2) (M 4 0) i j)))) (F0 m 43 ls []) := by
            intro nn_
            induction nn_ with
            | zero => intro gf a b2 ls hlt; exact absurd hlt (Nat.not_lt_zero _)
            | succ nn_ ih =>
              have ih_13 := ih; clear ih
              intro gf a b2 ls hlt hJ ha hg hb2 hb3 hl
              have hlt_14 := hlt
              obtain ⟨gv, rfl⟩ : ∃ a, gf = a + 1 := ⟨gf - 1, by omega⟩
              refine r_il F hl 7 rfl dX4_doneBy_43 ?_
              refine r_aln F hl 0 rfl dX4_doneBy_45 rfl ?_
              refine gf_X4_13 F P 0 rfl (.ref (q 3)) rfl dX4_doneBy_46 ?_
              refine r_ic F 3 dX4_doneBy_49 rfl ?_
              refine r_ald (f := M 2) F P 2 rfl dX4_doneBy_50 (by decide) (by omega) ?_
              have b_15 : M 2 (3) < 256 := hbk (3)
              refine r_cge 99 F dX4_doneBy_51 (by decide) (by omega) (fun c_16 => ?_) (fun c_16 => ?_)
              · have he_ : dnI (M 2) i ((M 4 0 + n) % 2) j (M 2 3 + 1) 0 b = (a, b2) := by rw [← hJ, dnI_stop (by omega)]
                refine r_il F hl 7 rfl dX4_doneBy_99 ?_
                refine r_zle 108 F dX4_doneBy_101 (by decide) (by omega) (fun c_17 => ?_) (fun c_17 => ?_)
                · refine r_il F hl 4 rfl dX4_doneBy_108 ?_
                  refine r_ic F 1 dX4_doneBy_110 rfl ?_
                  refine r_add F dX4_doneBy_111 ?_
                  refine r_is (lv' := [(0, .ref (q 0)), (1, .int (iI ((i : Nat) : Int))), (2, .int (iI ((j : Nat) : Int))), (3, .int (iI ((b2 : Nat) : Int))), (4, .int (iI (((c0 + 1) : Nat) : Int))), (5, .int (iI ((n : Nat) : Int))), (6, .int (iI ((((M 4 (0) + n) % 2) : Nat) : Int))), (7, .int (iI ((a : Nat) : Int)))]) F hl dX4_doneBy_112 (by decide) [1, 2, 3, 4, 0, 5, 6, 7] rfl (fun ls hl => ?_)
                  refine r_inc (lv' := [(0, .ref (q 0)), (1, .int (iI ((i : Nat) : Int))), (2, .int (iI ((j : Nat) : Int))), (3, .int (iI ((b2 : Nat) : Int))), (4, .int (iI (((c0 + 1) : Nat) : Int))), (5, .int (iI (((n + 1) : Nat) : Int))), (6, .int (iI ((((M 4 (0) + n) % 2) : Nat) : Int))), (7, .int (iI ((a : Nat) : Int)))]) F hl 5 rfl dX4_doneBy_114 1 rfl (by decide) [1, 2, 3, 4, 5, 0, 6, 7] rfl (fun ls hl => ?_)
                  refine r_goto 8 F dX4_doneBy_117 (by decide) ?_
                  exact ih_2 (fv) (b2) ((c0 + 1)) ((n + 1)) ls (by omega) (by have h_ := hI; rw [dnO_go ⟨by omega, by omega⟩, he_] at h_; refine Eq.trans ?_ h_; simp only [c_17, if_true, if_false]) (by omega) (by omega) (by omega) (by omega) (lv_sub hl [0, 1, 2, 3, 4, 5] rfl)
                · refine r_ic F 0 dX4_doneBy_104 rfl ?_
                  refine r_goto 112 F dX4_doneBy_105 (by decide) ?_
                  refine r_is (lv' := [(0, .ref (q 0)), (1, .int (iI ((i : Nat) : Int))), (2, .int (iI ((j : Nat) : Int))), (3, .int (iI ((b2 : Nat) : Int))), (4, .int (iI ((0 : Nat) : Int))), (5, .int (iI ((n : Nat) : Int))), (6, .int (iI ((((M 4 (0) + n) % 2) : Nat) : Int))), (7, .int (iI ((a : Nat) : Int)))]) F hl dX4_doneBy_112 (by decide) [1, 2, 3, 4, 0, 5, 6, 7] rfl (fun ls hl => ?_)
                  refine r_inc (lv' := [(0, .ref (q 0)), (1, .int (iI ((i : Nat) : Int))), (2, .int (iI ((j : Nat) : Int))), (3, .int (iI ((b2 : Nat) : Int))), (4, .int (iI ((0 : Nat) : Int))), (5, .int (iI (((n + 1) : Nat) : Int))), (6, .int (iI ((((M 4 (0) + n) % 2) : Nat) : Int))), (7, .int (iI ((a : Nat) : Int)))]) F hl 5 rfl dX4_doneBy_114 1 rfl (by decide) [1, 2, 3, 4, 5, 0, 6, 7] rfl (fun ls hl => ?_)
                  refine r_goto 8 F dX4_doneBy_117 (by decide) ?_
                  exact ih_2 (fv) (b2) (0) ((n + 1)) ls (by omega) (by have h_ := hI; rw [dnO_go ⟨by omega, by omega⟩, he_] at h_; refine Eq.trans ?_ h_; simp only [c_17, if_true, if_false]) (by omega) (by omega) (by omega) (by omega) (lv_sub hl [0, 1, 2, 3, 4, 5] rfl)
              · refine r_iln F hl 3 rfl dX4_doneBy_54 rfl ?_
                refine r_aln F hl 0 rfl dX4_doneBy_55 rfl ?_
                refine gf_X4_13 F P 0 rfl (.ref (q 3)) rfl dX4_doneBy_56 ?_
                refine r_bp F 28 dX4_doneBy_59 rfl ?_
                refine r_iln F hl 2 rfl dX4_doneBy_61 rfl ?_
                refine r_add F dX4_doneBy_62 ?_
                refine r_ald (f := M 2) F P 2 rfl dX4_doneBy_63 (by decide) (by omega) ?_
                have b_18 : M 2 ((28 + j)) < 256 := hbk ((28 + j))
                refine r_cge 99 F dX4_doneBy_64 (by decide) (by omega) (fun c_19 => ?_) (fun c_19 => ?_)
                · have he_ : dnI (M 2) i ((M 4 0 + n) % 2) j (M 2 3 + 1) 0 b = (a, b2) := by rw [← hJ, dnI_stop (by omega)]
                  refine r_il F hl 7 rfl dX4_doneBy_99 ?_
                  refine r_zle 108 F dX4_doneBy_101 (by decide) (by omega) (fun c_20 => ?_) (fun c_20 => ?_)
                  · refine r_il F hl 4 rfl dX4_doneBy_108 ?_
                    refine r_ic F 1 dX4_doneBy_110 rfl ?_
                    refine r_add F dX4_doneBy_111 ?_
                    refine r_is (lv' := [(0, .ref (q 0)), (1, .int (iI ((i : Nat) : Int))), (2, .int (iI ((j : Nat) : Int))), (3, .int (iI ((b2 : Nat) : Int))), (4, .int (iI (((c0 + 1) : Nat) : Int))), (5, .int (iI ((n : Nat) : Int))), (6, .int (iI ((((M 4 (0) + n) % 2) : Nat) : Int))), (7, .int (iI ((a : Nat) : Int)))]) F hl dX4_doneBy_112 (by decide) [1, 2, 3, 4, 0, 5, 6, 7] rfl (fun ls hl => ?_)
                    refine r_inc (lv' := [(0, .ref (q 0)), (1, .int (iI ((i : Nat) : Int))), (2, .int (iI ((j : Nat) : Int))), (3, .int (iI ((b2 : Nat) : Int))), (4, .int (iI (((c0 + 1) : Nat) : Int))), (5, .int (iI (((n + 1) : Nat) : Int))), (6, .int (iI ((((M 4 (0) + n) % 2) : Nat) : Int))), (7, .int (iI ((a : Nat) : Int)))]) F hl 5 rfl dX4_doneBy_114 1 rfl (by decide) [1, 2, 3, 4, 5, 0, 6, 7] rfl (fun ls hl => ?_)
                    refine r_goto 8 F dX4_doneBy_117 (by decide) ?_
                    exact ih_2 (fv) (b2) ((c0 + 1)) ((n + 1)) ls (by omega) (by have h_ := hI; rw [dnO_go ⟨by omega, by omega⟩, he_] at h_; refine Eq.trans ?_ h_; simp only [c_20, if_true, if_false]) (by omega) (by omega) (by omega) (by omega) (lv_sub hl [0, 1, 2, 3, 4, 5] rfl)
                  · refine r_ic F 0 dX4_doneBy_104 rfl ?_
                    refine r_goto 112 F dX4_doneBy_105 (by decide) ?_
                    refine r_is (lv' := [(0, .ref (q 0)), (1, .int (iI ((i : Nat) : Int))), (2, .int (iI ((j : Nat) : Int))), (3, .int (iI ((b2 : Nat) : Int))), (4, .int (iI ((0 : Nat) : Int))), (5, .int (iI ((n : Nat) : Int))), (6, .int (iI ((((M 4 (0) + n) % 2) : Nat) : Int))), (7, .int (iI ((a : Nat) : Int)))]) F hl dX4_doneBy_112 (by decide) [1, 2, 3, 4, 0, 5, 6, 7] rfl (fun ls hl => ?_)
                    refine r_inc (lv' := [(0, .ref (q 0)), (1, .int (iI ((i : Nat) : Int))), (2, .int (iI ((j : Nat) : Int))), (3, .int (iI ((b2 : Nat) : Int))), (4, .int (iI ((0 : Nat) : Int))), (5, .int (iI (((n + 1) : Nat) : Int))), (6, .int (iI ((((M 4 (0) + n) % 2) : Nat) : Int))), (7, .int (iI ((a : Nat) : Int)))]) F hl 5 rfl dX4_doneBy_114 1 rfl (by decide) [1, 2, 3, 4, 5, 0, 6, 7] rfl (fun ls hl => ?_)
                    refine r_goto 8 F dX4_doneBy_117 (by decide) ?_
                    exact ih_2 (fv) (b2) (0) ((n + 1)) ls (by omega) (by have h_ := hI; rw [dnO_go ⟨by omega, by omega⟩, he_] at h_; refine Eq.trans ?_ h_; simp only [c_20, if_true, if_false]) (by omega) (by omega) (by omega) (by omega) (lv_sub hl [0, 1, 2, 3, 4, 5] rfl)
                · refine r_aln F hl 0 rfl dX4_doneBy_67 rfl ?_
                  refine r_iln F hl 1 rfl dX4_doneBy_68 rfl ?_
                  refine r_il F hl 6 rfl dX4_doneBy_69 ?_
                  refine r_iln F hl 2 rfl dX4_doneBy_71 rfl ?_
                  refine r_iln F hl 3 rfl dX4_doneBy_72 rfl ?_
                  refine r_bp F 8 dX4_doneBy_73 rfl ?_
                  refine r_cge 82 F dX4_doneBy_75 (by decide) (by omega) (fun c_21 => ?_) (fun c_21 => ?_)
                  · exfalso; omega
                  · refine r_iln F hl 3 rfl dX4_doneBy_78 rfl ?_
                    refine r_goto 84 F dX4_doneBy_79 (by decide) ?_
                    refine r_cq F P (k_X4_has l D cI cB (q) (M) (i) (((M 4 (0) + n) % 2)) (j) (b2) (by omega) hbk hst) gw_X4_119 [0, 1, 2, 3, 4, 5, 6, 7, 8, 9, 10] rfl rfl rfl ⟨⟨rfl, rfl⟩, Nat.le_of_ble_eq_true rfl, Nat.le_of_ble_eq_true rfl⟩ ⟨Nat.le_of_ble_eq_true rfl, Nat.le_of_ble_eq_true rfl⟩ hl.1 rfl [] rfl (Nat.le_of_ble_eq_true rfl) dX4_doneBy_84 ?_
                    refine r_zeqb 99 F dX4_doneBy_87 (by decide) (fun c_22 => ?_) (fun c_22 => ?_)
                    · have he_ : dnI (M 2) i ((M 4 0 + n) % 2) j (M 2 3 + 1) 0 b = (a, b2) := by rw [← hJ, dnI_stop (by rintro ⟨h1_, h2_, h3_⟩; rw [if_pos (by omega)] at h3_; exact absurd (h3_.symm.trans c_22) (by decide))]
                      refine r_il F hl 7 rfl dX4_doneBy_99 ?_
                      refine r_zle 108 F dX4_doneBy_101 (by decide) (by omega) (fun c_23 => ?_) (fun c_23 => ?_)
                      · refine r_il F hl 4 rfl dX4_doneBy_108 ?_
                        refine r_ic F 1 dX4_doneBy_110 rfl ?_
                        refine r_add F dX4_doneBy_111 ?_
                        refine r_is (lv' := [(0, .ref (q 0)), (1, .int (iI ((i : Nat) : Int))), (2, .int (iI ((j : Nat) : Int))), (3, .int (iI ((b2 : Nat) : Int))), (4, .int (iI (((c0 + 1) : Nat) : Int))), (5, .int (iI ((n : Nat) : Int))), (6, .int (iI ((((M 4 (0) + n) % 2) : Nat) : Int))), (7, .int (iI ((a : Nat) : Int)))]) F hl dX4_doneBy_112 (by decide) [1, 2, 3, 4, 0, 5, 6, 7] rfl (fun ls hl => ?_)
                        refine r_inc (lv' := [(0, .ref (q 0)), (1, .int (iI ((i : Nat) : Int))), (2, .int (iI ((j : Nat) : Int))), (3, .int (iI ((b2 : Nat) : Int))), (4, .int (iI (((c0 + 1) : Nat) : Int))), (5, .int (iI (((n + 1) : Nat) : Int))), (6, .int (iI ((((M 4 (0) + n) % 2) : Nat) : Int))), (7, .int (iI ((a : Nat) : Int)))]) F hl 5 rfl dX4_doneBy_114 1 rfl (by decide) [1, 2, 3, 4, 5, 0, 6, 7] rfl (fun ls hl => ?_)
                        refine r_goto 8 F dX4_doneBy_117 (by decide) ?_
                        exact ih_2 (fv) (b2) ((c0 + 1)) ((n + 1)) ls (by omega) (by have h_ := hI; rw [dnO_go ⟨by omega, by omega⟩, he_] at h_; refine Eq.trans ?_ h_; simp only [c_23, if_true, if_false]) (by omega) (by omega) (by omega) (by omega) (lv_sub hl [0, 1, 2, 3, 4, 5] rfl)
                      · refine r_ic F 0 dX4_doneBy_104 rfl ?_
                        refine r_goto 112 F dX4_doneBy_105 (by decide) ?_
                        refine r_is (lv' := [(0, .ref (q 0)), (1, .int (iI ((i : Nat) : Int))), (2, .int (iI ((j : Nat) : Int))), (3, .int (iI ((b2 : Nat) : Int))), (4, .int (iI ((0 : Nat) : Int))), (5, .int (iI ((n : Nat) : Int))), (6, .int (iI ((((M 4 (0) + n) % 2) : Nat) : Int))), (7, .int (iI ((a : Nat) : Int)))]) F hl dX4_doneBy_112 (by decide) [1, 2, 3, 4, 0, 5, 6, 7] rfl (fun ls hl => ?_)
                        refine r_inc (lv' := [(0, .ref (q 0)), (1, .int (iI ((i : Nat) : Int))), (2, .int (iI ((j : Nat) : Int))), (3, .int (iI ((b2 : Nat) : Int))), (4, .int (iI ((0 : Nat) : Int))), (5, .int (iI (((n + 1) : Nat) : Int))), (6, .int (iI ((((M 4 (0) + n) % 2) : Nat) : Int))), (7, .int (iI ((a : Nat) : Int)))]) F hl 5 rfl dX4_doneBy_114 1 rfl (by decide) [1, 2, 3, 4, 5, 0, 6, 7] rfl (fun ls hl => ?_)
                        refine r_goto 8 F dX4_doneBy_117 (by decide) ?_
                        exact ih_2 (fv) (b2) (0) ((n + 1)) ls (by omega) (by have h_ := hI; rw [dnO_go ⟨by omega, by omega⟩, he_] at h_; refine Eq.trans ?_ h_; simp only [c_23, if_true, if_false]) (by omega) (by omega) (by omega) (by omega) (lv_sub hl [0, 1, 2, 3, 4, 5] rfl)
                    · refine r_inc (lv' := [(0, .ref (q 0)), (1, .int (iI ((i : Nat) : Int))), (2, .int (iI ((j : Nat) : Int))), (3, .int (iI ((b2 : Nat) : Int))), (4, .int (iI ((c0 : Nat) : Int))), (5, .int (iI ((n : Nat) : Int))), (6, .int (iI ((((M 4 (0) + n) % 2) : Nat) : Int))), (7, .int (iI (((a + 1) : Nat) : Int)))]) F hl 7 rfl dX4_doneBy_90 1 rfl (by decide) [1, 2, 3, 4, 5, 6, 7, 0] rfl (fun ls hl => ?_)
                      refine r_inc (lv' := [(0, .ref (q 0)), (1, .int (iI ((i : Nat) : Int))), (2, .int (iI ((j : Nat) : Int))), (3, .int (iI (((b2 + 1) : Nat) : Int))), (4, .int (iI ((c0 : Nat) : Int))), (5, .int (iI ((n : Nat) : Int))), (6, .int (iI ((((M 4 (0) + n) % 2) : Nat) : Int))), (7, .int (iI (((a + 1) : Nat) : Int)))]) F hl 3 rfl dX4_doneBy_93 1 rfl (by decide) [1, 2, 3, 0, 4, 5, 6, 7] rfl (fun ls hl => ?_)
                      refine r_goto 43 F dX4_doneBy_96 (by decide) ?_
                      exact ih_13 (gv) ((a + 1)) ((b2 + 1)) ls (by omega) (by rw [← hJ]; exact (dnI_go (by omega) (by omega) (by rw [if_pos (by omega)]; exact c_22)).symm) (by omega) (by omega) (by omega) (by omega) hl
          exact lp_12 _ (M 2 3 + 1) (0) (b) ls (Nat.lt_succ_self _) rfl (by omega) (by omega) (by omega) (by omega) hl
  exact lp_1 _ (30) (0) (0) (0) ls (Nat.lt_succ_self _) rfl (by omega) (by omega) (by omega) (by omega) hl
abbrev rm_X4_done : Room := { frames := 2, cells := 0, slots := 0, locals := 51 }
set_option maxHeartbeats 4000000 in
set_option maxRecDepth 100000 in
theorem k_X4_done (l : Launch) (D : va_G) (cI cB : ClassId) (q : Nat → Nat) (M : St) (i j : Int) (hi : (-2147483648 ≤ i ∧ i < 2147483648)) (hj : (-2147483648 ≤ j ∧ j < 2147483648)) (hp : 1 ≤ M 2 0 ∧ M 2 0 ≤ 5) (ht : M 2 1 ≤ 4) (hbk : ∀ k, M 2 k < 256) (hst : ∀ k, 32 ≤ k → k < 64 → M 2 k < 6) (hln : M 2 3 ≤ 8 ∧ ∀ k, 28 ≤ k → k < 32 → M 2 k ≤ 8) (hs : ∀ k, M 4 k < 65536) : CtQ l yX4_done cX4_done 3 (some .int) rm_X4_done D cI cB [.ref (q 0), .int (iI (i)), .int (iI (j))] (wM q cI M) ((iI (g_done (M 2) (M 4) i j))) := by
  refine CtQ.of RX4 (by decide) rfl (Nat.le_of_ble_eq_true rfl) ?_
  intro p e s m args below meth c H ls hH F hr hlk P hl
  have hl : lv_has ls 3 [(0, .ref (q 0)), (1, .int (iI (i))), (2, .int (iI (j)))] := hl
  refine r_aln F hl 0 rfl dX4_done_0 rfl ?_
  refine r_iln F hl 1 rfl dX4_done_1 rfl ?_
  refine r_cq F P (k_X4_isPerson l D cI cB (q) (M) (i) (by omega) hbk) gw_X4_99 [0, 1, 2, 3, 4, 5, 6, 7, 8, 9, 10] rfl rfl rfl ⟨⟨rfl, rfl⟩, Nat.le_of_ble_eq_true rfl, Nat.le_of_ble_eq_true rfl⟩ ⟨Nat.le_of_ble_eq_true rfl, Nat.le_of_ble_eq_true rfl⟩ hl.1 rfl [] rfl (Nat.le_of_ble_eq_true rfl) dX4_done_2 ?_
  refine r_zeqb 25 F dX4_done_5 (by decide) (fun c_1 => ?_) (fun c_1 => ?_)
  · have c_1d := c_1
    simp only [isIn, isP, decide_eq_true_eq, decide_eq_false_iff_not] at c_1d
    refine r_icz F (-1) dX4_done_25 rfl ?_
    exact r_retQ F hr hlk hH dX4_done_26 (by first | rfl | (simp only [g_done, vDone, c_1, if_true, if_false, Bool.and_true, Bool.true_and, Bool.and_false, Bool.false_and, Bool.and_self, Bool.false_eq_true, ↓reduceIte, decide_true, decide_false, Int.toNat_natCast, Bool.toNat_true, Bool.toNat_false]; first | done | rfl | (simp only [if_true, if_true, if_false, Bool.and_true, Bool.true_and, Bool.and_false, Bool.false_and, Bool.and_self, Bool.false_eq_true, ↓reduceIte, decide_true, decide_false, Int.toNat_natCast, Bool.toNat_true, Bool.toNat_false]; first | done | rfl) | (simp only [if_true]; first | done | rfl) | (simp [if_true]; done) | (simp [if_true]; first | rfl | omega)) | (simp [g_done, vDone, c_1]; done) | (simp [g_done, vDone, c_1]; omega) | (simp only [g_done, vDone, c_1, if_true, if_false, Bool.and_true, Bool.true_and, Bool.and_false, Bool.false_and, Bool.and_self, Bool.false_eq_true, ↓reduceIte, decide_true, decide_false, Int.toNat_natCast, Bool.toNat_true, Bool.toNat_false]; try simp only [if_true, if_true, if_false, Bool.and_true, Bool.true_and, Bool.and_false, Bool.false_and, Bool.and_self, Bool.false_eq_true, ↓reduceIte, decide_true, decide_false, Int.toNat_natCast, Bool.toNat_true, Bool.toNat_false]; rfl))
  · have c_1d := c_1
    simp only [isIn, isP, decide_eq_true_eq, decide_eq_false_iff_not] at c_1d
    refine r_aln F hl 0 rfl dX4_done_8 rfl ?_
    refine r_iln F hl 2 rfl dX4_done_9 rfl ?_
    refine r_cq F P (k_X4_isTrade l D cI cB (q) (M) (j) (by omega) hbk) gw_X4_123 [0, 1, 2, 3, 4, 5, 6, 7, 8, 9, 10] rfl rfl rfl ⟨⟨rfl, rfl⟩, Nat.le_of_ble_eq_true rfl, Nat.le_of_ble_eq_true rfl⟩ ⟨Nat.le_of_ble_eq_true rfl, Nat.le_of_ble_eq_true rfl⟩ hl.1 rfl [] rfl (Nat.le_of_ble_eq_true rfl) dX4_done_10 ?_
    refine r_zeqb 25 F dX4_done_13 (by decide) (fun c_2 => ?_) (fun c_2 => ?_)
    · have c_2d := c_2
      simp only [isIn, isP, decide_eq_true_eq, decide_eq_false_iff_not] at c_2d
      refine r_icz F (-1) dX4_done_25 rfl ?_
      exact r_retQ F hr hlk hH dX4_done_26 (by first | rfl | (simp only [g_done, vDone, c_1, c_2, if_true, if_false, Bool.and_true, Bool.true_and, Bool.and_false, Bool.false_and, Bool.and_self, Bool.false_eq_true, ↓reduceIte, decide_true, decide_false, Int.toNat_natCast, Bool.toNat_true, Bool.toNat_false]; first | done | rfl | (simp only [if_true, if_true, if_false, Bool.and_true, Bool.true_and, Bool.and_false, Bool.false_and, Bool.and_self, Bool.false_eq_true, ↓reduceIte, decide_true, decide_false, Int.toNat_natCast, Bool.toNat_true, Bool.toNat_false]; first | done | rfl) | (simp only [if_true]; first | done | rfl) | (simp [if_true]; done) | (simp [if_true]; first | rfl | omega)) | (simp [g_done, vDone, c_1, c_2]; done) | (simp [g_done, vDone, c_1, c_2]; omega) | (simp only [g_done, vDone, c_1, c_2, if_true, if_false, Bool.and_true, Bool.true_and, Bool.and_false, Bool.false_and, Bool.and_self, Bool.false_eq_true, ↓reduceIte, decide_true, decide_false, Int.toNat_natCast, Bool.toNat_true, Bool.toNat_false]; try simp only [if_true, if_true, if_false, Bool.and_true, Bool.true_and, Bool.and_false, Bool.false_and, Bool.and_self, Bool.false_eq_true, ↓reduceIte, decide_true, decide_false, Int.toNat_natCast, Bool.toNat_true, Bool.toNat_false]; rfl))
    · have c_2d := c_2
      simp only [isIn, isP, decide_eq_true_eq, decide_eq_false_iff_not] at c_2d
      obtain ⟨i_, rfl⟩ : ∃ k : Nat, i = (k : Int) := ⟨i.toNat, by omega⟩
      have hl : lv_has ls 3 [(0, .ref (q 0)), (1, .int (iI ((i_ : Nat) : Int))), (2, .int (iI (j)))] := hl
      obtain ⟨j_, rfl⟩ : ∃ k : Nat, j = (k : Int) := ⟨j.toNat, by omega⟩
      have hl : lv_has ls 3 [(0, .ref (q 0)), (1, .int (iI ((i_ : Nat) : Int))), (2, .int (iI ((j_ : Nat) : Int)))] := hl
      refine r_aln F hl 0 rfl dX4_done_16 rfl ?_
      refine r_iln F hl 1 rfl dX4_done_17 rfl ?_
      refine r_iln F hl 2 rfl dX4_done_18 rfl ?_
      refine r_cq F P (k_X4_doneBy l D cI cB (q) (M) (i_) (j_) (by omega) hbk hst hln hs) gw_X4_126 [0, 1, 2, 3, 4, 5, 6, 7, 8, 9, 10] rfl rfl rfl ⟨⟨rfl, rfl⟩, Nat.le_of_ble_eq_true rfl, Nat.le_of_ble_eq_true rfl⟩ ⟨Nat.le_of_ble_eq_true rfl, Nat.le_of_ble_eq_true rfl⟩ hl.1 rfl [] rfl (Nat.le_of_ble_eq_true rfl) dX4_done_19 ?_
      have hq_ := @done_rng (M 2) ((M 4) 0) (i_) (j_)
      refine r_goto 26 F dX4_done_22 (by decide) ?_
      exact r_retQ F hr hlk hH dX4_done_26 (by first | rfl | (simp only [g_done, vDone, c_1, c_2, if_true, if_false, Bool.and_true, Bool.true_and, Bool.and_false, Bool.false_and, Bool.and_self, Bool.false_eq_true, ↓reduceIte, decide_true, decide_false, Int.toNat_natCast, Bool.toNat_true, Bool.toNat_false]; first | done | rfl | (simp only [if_true, if_true, if_false, Bool.and_true, Bool.true_and, Bool.and_false, Bool.false_and, Bool.and_self, Bool.false_eq_true, ↓reduceIte, decide_true, decide_false, Int.toNat_natCast, Bool.toNat_true, Bool.toNat_false]; first | done | rfl) | (simp only [if_true]; first | done | rfl) | (simp [if_true]; done) | (simp [if_true]; first | rfl | omega)) | (simp [g_done, vDone, c_1, c_2]; done) | (simp [g_done, vDone, c_1, c_2]; omega) | (simp only [g_done, vDone, c_1, c_2, if_true, if_false, Bool.and_true, Bool.true_and, Bool.and_false, Bool.false_and, Bool.and_self, Bool.false_eq_true, ↓reduceIte, decide_true, decide_false, Int.toNat_natCast, Bool.toNat_true, Bool.toNat_false]; try simp only [if_true, if_true, if_false, Bool.and_true, Bool.true_and, Bool.and_false, Bool.false_and, Bool.and_self, Bool.false_eq_true, ↓reduceIte, decide_true, decide_false, Int.toNat_natCast, Bool.toNat_true, Bool.toNat_false]; rfl))
abbrev rm_X4_best : Room := { frames := 2, cells := 0, slots := 0, locals := 51 }
set_option maxHeartbeats 4000000 in
set_option maxRecDepth 100000 in
theorem k_X4_best (l : Launch) (D : va_G) (cI cB : ClassId) (q : Nat → Nat) (M : St) (j : Int) (hj : (-2147483648 ≤ j ∧ j < 2147483648)) (hp : 1 ≤ M 2 0 ∧ M 2 0 ≤ 5) (ht : M 2 1 ≤ 4) (hbk : ∀ k, M 2 k < 256) (hst : ∀ k, 32 ≤ k → k < 64 → M 2 k < 6) (hln : M 2 3 ≤ 8 ∧ ∀ k, 28 ≤ k → k < 32 → M 2 k ≤ 8) (hs : ∀ k, M 4 k < 65536) : CtQ l yX4_best cX4_best 7 (some .int) rm_X4_best D cI cB [.ref (q 0), .int (iI (j))] (wM q cI M) ((iI (g_best (M 2) (M 4) j))) := by
  refine CtQ.of RX4 (by decide) rfl (Nat.le_of_ble_eq_true rfl) ?_
  intro p e s m args below meth c H ls hH F hr hlk P hl
  have hl : lv_has ls 7 [(0, .ref (q 0)), (1, .int (iI (j)))] := hl
  refine r_aln F hl 0 rfl dX4_best_0 rfl ?_
  refine r_iln F hl 1 rfl dX4_best_1 rfl ?_
  refine r_cq F P (k_X4_isTrade l D cI cB (q) (M) (j) (by omega) hbk) gw_X4_123 [0, 1, 2, 3, 4, 5, 6, 7, 8, 9, 10] rfl rfl rfl ⟨⟨rfl, rfl⟩, Nat.le_of_ble_eq_true rfl, Nat.le_of_ble_eq_true rfl⟩ ⟨Nat.le_of_ble_eq_true rfl, Nat.le_of_ble_eq_true rfl⟩ hl.1 rfl [] rfl (Nat.le_of_ble_eq_true rfl) dX4_best_2 ?_
  refine r_zneb 10 F dX4_best_5 (by decide) (fun c_1 => ?_) (fun c_1 => ?_)
  · have c_1d := c_1
    simp only [isIn, isP, decide_eq_true_eq, decide_eq_false_iff_not] at c_1d
    obtain ⟨j_, rfl⟩ : ∃ k : Nat, j = (k : Int) := ⟨j.toNat, by omega⟩
    have hl : lv_has ls 7 [(0, .ref (q 0)), (1, .int (iI ((j_ : Nat) : Int)))] := hl
    refine r_bpz F (-4) dX4_best_10 rfl ?_
    refine r_isn (lv' := [(0, .ref (q 0)), (1, .int (iI ((j_ : Nat) : Int))), (2, .int (iI (-4)))]) F hl dX4_best_12 rfl (by decide) [1, 2, 0] rfl (fun ls hl => ?_)
    refine r_ic F 0 dX4_best_13 rfl ?_
    refine r_isn (lv' := [(0, .ref (q 0)), (1, .int (iI ((j_ : Nat) : Int))), (2, .int (iI (-4))), (3, .int (iI ((0 : Nat) : Int)))]) F hl dX4_best_14 rfl (by decide) [1, 2, 3, 0] rfl (fun ls hl => ?_)
    refine r_aln F hl 0 rfl dX4_best_15 rfl ?_
    refine gf_X4_13 F P 0 rfl (.ref (q 3)) rfl dX4_best_16 ?_
    refine r_ic F 0 dX4_best_19 rfl ?_
    refine r_ald (f := M 2) F P 2 rfl dX4_best_20 (by decide) (by omega) ?_
    have b_2 : M 2 (0) < 256 := hbk (0)
    refine r_ic F 1 dX4_best_21 rfl ?_
    refine r_subz F dX4_best_22 ?_
    refine r_is (lv' := [(0, .ref (q 0)), (1, .int (iI ((j_ : Nat) : Int))), (2, .int (iI (-4))), (3, .int (iI ((0 : Nat) : Int))), (4, .int (iI ((((M 2 (0) : Nat) : Int) - (1 : Int)))))]) F hl dX4_best_23 (by decide) [1, 2, 3, 4, 0] rfl (fun ls hl => ?_)
    have lp_3 : ∀ (nn_ : Nat) (i2 : Nat) (x : Int) (y : Int) (ls : Array Slot), i2 < nn_ → (bsF (M 2) (M 4 0) j_ i2 x y = bsF (M 2) (M 4 0) j_ (M 2 0) (-4) 0) → (-4 ≤ x ∧ x < 10) → (-4 ≤ y ∧ y < 100000) → (i2 ≤ M 2 0) → lv_has ls 7 [(0, .ref (q 0)), (1, .int (iI ((j_ : Nat) : Int))), (2, .int (iI (x))), (3, .int (iI (y))), (4, .int (iI ((((i2 : Nat) : Int) - 1))))] → W p l e rm_X4_best s m args below meth c H [] 0 0 (Qq below args s ((iI (g_best (M 2) (M 4) ((j_ : Nat) : Int))))) (F0 m 25 ls []) := by
      intro nn_
      induction nn_ with
      | zero => intro i2 x y ls hlt; exact absurd hlt (Nat.not_lt_zero _)
      | succ nn_ ih =>
        have ih_4 := ih; clear ih
        intro i2 x y ls hlt hI hx hy hj hl
        have hlt_5 := hlt
        refine r_il F hl 4 rfl dX4_best_25 ?_
        refine r_zltz (a := (((i2 : Nat) : Int) - 1)) 95 F dX4_best_27 (by decide) (by omega) (fun c_6 => ?_) (fun c_6 => ?_)
        · have he_ : bsF (M 2) (M 4 0) j_ (M 2 0) (-4) 0 = x := by rw [← hI, show i2 = 0 from by omega]; rfl
          refine r_iln F hl 2 rfl dX4_best_95 rfl ?_
          exact r_retQ F hr hlk hH dX4_best_96 (by first | rfl | (simp only [g_best, c_1, he_, if_true, if_false, Bool.and_true, Bool.true_and, Bool.and_false, Bool.false_and, Bool.and_self, Bool.false_eq_true, ↓reduceIte, decide_true, decide_false, Int.toNat_natCast, Bool.toNat_true, Bool.toNat_false]; first | done | rfl | (simp only [c_6, (Int.not_le.mpr c_6), if_true, if_false, Bool.and_true, Bool.true_and, Bool.and_false, Bool.false_and, Bool.and_self, Bool.false_eq_true, ↓reduceIte, decide_true, decide_false, Int.toNat_natCast, Bool.toNat_true, Bool.toNat_false]; first | done | rfl) | (simp only [if_pos c_6, if_neg (Int.not_le.mpr c_6)]; first | done | rfl) | (simp [c_6, (Int.not_le.mpr c_6)]; done) | (simp [c_6, (Int.not_le.mpr c_6)]; first | rfl | omega)) | (simp [g_best, c_1, c_6, (Int.not_le.mpr c_6), he_]; done) | (simp [g_best, c_1, c_6, (Int.not_le.mpr c_6), he_]; omega) | (simp only [g_best, c_1, he_, if_true, if_false, Bool.and_true, Bool.true_and, Bool.and_false, Bool.false_and, Bool.and_self, Bool.false_eq_true, ↓reduceIte, decide_true, decide_false, Int.toNat_natCast, Bool.toNat_true, Bool.toNat_false]; try simp only [c_6, (Int.not_le.mpr c_6), if_true, if_false, Bool.and_true, Bool.true_and, Bool.and_false, Bool.false_and, Bool.and_self, Bool.false_eq_true, ↓reduceIte, decide_true, decide_false, Int.toNat_natCast, Bool.toNat_true, Bool.toNat_false]; rfl))
        · have hl : lv_has ls 7 [(0, .ref (q 0)), (1, .int (iI ((j_ : Nat) : Int))), (2, .int (iI (x))), (3, .int (iI (y))), (4, .int (iI (((i2 - 1) : Nat) : Int)))] := by
            rw [show (((i2 : Nat) : Int) - 1) = (((i2 - 1) : Nat) : Int) from by omega] at hl
            exact hl
          refine r_aln F hl 0 rfl dX4_best_30 rfl ?_
          refine r_il F hl 4 rfl dX4_best_31 ?_
          refine r_iln F hl 1 rfl dX4_best_33 rfl ?_
          refine r_cq F P (k_X4_doneBy l D cI cB (q) (M) ((i2 - 1)) (j_) (by omega) hbk hst hln hs) gw_X4_126 [0, 1, 2, 3, 4, 5, 6, 7, 8, 9, 10] rfl rfl rfl ⟨⟨rfl, rfl⟩, Nat.le_of_ble_eq_true rfl, Nat.le_of_ble_eq_true rfl⟩ ⟨Nat.le_of_ble_eq_true rfl, Nat.le_of_ble_eq_true rfl⟩ hl.1 rfl [] rfl (Nat.le_of_ble_eq_true rfl) dX4_best_34 ?_
          have hq_ := @done_rng (M 2) ((M 4) 0) ((i2 - 1)) (j_)
          refine r_is (lv' := [(0, .ref (q 0)), (1, .int (iI ((j_ : Nat) : Int))), (2, .int (iI (x))), (3, .int (iI (y))), (4, .int (iI (((i2 - 1) : Nat) : Int))), (5, .int (iI (sp_done (M 2) ((M 4) 0) ((i2 - 1)) (j_))))]) F hl dX4_best_37 (by decide) [1, 2, 3, 4, 5, 0] rfl (fun ls hl => ?_)
          refine r_il F hl 5 rfl dX4_best_39 ?_
          refine r_bpz F (-4) dX4_best_41 rfl ?_
          refine r_ceqz (a := sp_done (M 2) ((M 4) 0) ((i2 - 1)) (j_)) (b := -4) 62 F dX4_best_43 (by decide) (by omega) (fun c_7 => ?_) (fun c_7 => ?_)
          · refine r_icb F false dX4_best_62 rfl ?_
            refine r_is (lv' := [(0, .ref (q 0)), (1, .int (iI ((j_ : Nat) : Int))), (2, .int (iI (x))), (3, .int (iI (y))), (4, .int (iI (((i2 - 1) : Nat) : Int))), (5, .int (iI (sp_done (M 2) ((M 4) 0) ((i2 - 1)) (j_)))), (6, .int (iI ((Bool.toNat (false) : Nat) : Int)))]) F hl dX4_best_63 (by decide) [1, 2, 3, 4, 5, 6, 0] rfl (fun ls hl => ?_)
            refine r_il F hl 6 rfl dX4_best_65 ?_
            refine r_zeqb 75 F dX4_best_67 (by decide) (fun c_8 => ?_) (fun c_8 => ?_)
            · refine r_iln F hl 2 rfl dX4_best_75 rfl ?_
              refine r_isn (lv' := [(0, .ref (q 0)), (1, .int (iI ((j_ : Nat) : Int))), (2, .int (iI (x))), (3, .int (iI (y))), (4, .int (iI (((i2 - 1) : Nat) : Int))), (5, .int (iI (sp_done (M 2) ((M 4) 0) ((i2 - 1)) (j_)))), (6, .int (iI ((Bool.toNat (false) : Nat) : Int)))]) F hl dX4_best_76 rfl (by decide) [1, 2, 0, 3, 4, 5, 6] rfl (fun ls hl => ?_)
              refine r_il F hl 6 rfl dX4_best_77 ?_
              refine r_zeqb 87 F dX4_best_79 (by decide) (fun c_9 => ?_) (fun c_9 => ?_)
              · refine r_iln F hl 3 rfl dX4_best_87 rfl ?_
                refine r_isn (lv' := [(0, .ref (q 0)), (1, .int (iI ((j_ : Nat) : Int))), (2, .int (iI (x))), (3, .int (iI (y))), (4, .int (iI (((i2 - 1) : Nat) : Int))), (5, .int (iI (sp_done (M 2) ((M 4) 0) ((i2 - 1)) (j_)))), (6, .int (iI ((Bool.toNat (false) : Nat) : Int)))]) F hl dX4_best_88 rfl (by decide) [1, 2, 3, 0, 4, 5, 6] rfl (fun ls hl => ?_)
                refine r_incz (lv' := [(0, .ref (q 0)), (1, .int (iI ((j_ : Nat) : Int))), (2, .int (iI (x))), (3, .int (iI (y))), (4, .int (iI ((((i2 - 1 : Nat) : Int) - 1)))), (5, .int (iI (sp_done (M 2) ((M 4) 0) ((i2 - 1)) (j_)))), (6, .int (iI ((Bool.toNat (false) : Nat) : Int)))]) (b := (((i2 - 1 : Nat) : Int) - 1)) F hl 4 rfl dX4_best_89 (by omega) (by decide) [1, 2, 3, 4, 0, 5, 6] rfl (fun ls hl => ?_)
                refine r_goto 25 F dX4_best_92 (by decide) ?_
                exact ih_4 (i2 - 1) (x) (y) ls (by omega) (by rw [← hI]; exact (bsF_no (by omega) (by omega)).symm) (by omega) (by omega) (by omega) (lv_sub hl [0, 1, 2, 3, 4] rfl)
              · cases c_9
            · cases c_8
          · refine r_iln F hl 2 rfl dX4_best_46 rfl ?_
            refine r_bpz F (-4) dX4_best_47 rfl ?_
            refine r_ceqz (a := x) (b := -4) 58 F dX4_best_49 (by decide) (by omega) (fun c_10 => ?_) (fun c_10 => ?_)
            · refine r_icb F true dX4_best_58 rfl ?_
              refine r_goto 63 F dX4_best_59 (by decide) ?_
              refine r_is (lv' := [(0, .ref (q 0)), (1, .int (iI ((j_ : Nat) : Int))), (2, .int (iI (x))), (3, .int (iI (y))), (4, .int (iI (((i2 - 1) : Nat) : Int))), (5, .int (iI (sp_done (M 2) ((M 4) 0) ((i2 - 1)) (j_)))), (6, .int (iI ((Bool.toNat (true) : Nat) : Int)))]) F hl dX4_best_63 (by decide) [1, 2, 3, 4, 5, 6, 0] rfl (fun ls hl => ?_)
              refine r_il F hl 6 rfl dX4_best_65 ?_
              refine r_zeqb 75 F dX4_best_67 (by decide) (fun c_11 => ?_) (fun c_11 => ?_)
              · cases c_11
              · refine r_il F hl 4 rfl dX4_best_70 ?_
                refine r_goto 76 F dX4_best_72 (by decide) ?_
                refine r_isn (lv' := [(0, .ref (q 0)), (1, .int (iI ((j_ : Nat) : Int))), (2, .int (iI (((i2 - 1) : Nat) : Int))), (3, .int (iI (y))), (4, .int (iI (((i2 - 1) : Nat) : Int))), (5, .int (iI (sp_done (M 2) ((M 4) 0) ((i2 - 1)) (j_)))), (6, .int (iI ((Bool.toNat (true) : Nat) : Int)))]) F hl dX4_best_76 rfl (by decide) [1, 2, 0, 3, 4, 5, 6] rfl (fun ls hl => ?_)
                refine r_il F hl 6 rfl dX4_best_77 ?_
                refine r_zeqb 87 F dX4_best_79 (by decide) (fun c_12 => ?_) (fun c_12 => ?_)
                · cases c_12
                · refine r_il F hl 5 rfl dX4_best_82 ?_
                  refine r_goto 88 F dX4_best_84 (by decide) ?_
                  refine r_isn (lv' := [(0, .ref (q 0)), (1, .int (iI ((j_ : Nat) : Int))), (2, .int (iI (((i2 - 1) : Nat) : Int))), (3, .int (iI (sp_done (M 2) ((M 4) 0) ((i2 - 1)) (j_)))), (4, .int (iI (((i2 - 1) : Nat) : Int))), (5, .int (iI (sp_done (M 2) ((M 4) 0) ((i2 - 1)) (j_)))), (6, .int (iI ((Bool.toNat (true) : Nat) : Int)))]) F hl dX4_best_88 rfl (by decide) [1, 2, 3, 0, 4, 5, 6] rfl (fun ls hl => ?_)
                  refine r_incz (lv' := [(0, .ref (q 0)), (1, .int (iI ((j_ : Nat) : Int))), (2, .int (iI (((i2 - 1) : Nat) : Int))), (3, .int (iI (sp_done (M 2) ((M 4) 0) ((i2 - 1)) (j_)))), (4, .int (iI ((((i2 - 1 : Nat) : Int) - 1)))), (5, .int (iI (sp_done (M 2) ((M 4) 0) ((i2 - 1)) (j_)))), (6, .int (iI ((Bool.toNat (true) : Nat) : Int)))]) (b := (((i2 - 1 : Nat) : Int) - 1)) F hl 4 rfl dX4_best_89 (by omega) (by decide) [1, 2, 3, 4, 0, 5, 6] rfl (fun ls hl => ?_)
                  refine r_goto 25 F dX4_best_92 (by decide) ?_
                  exact ih_4 (i2 - 1) ((((i2 - 1) : Nat) : Int)) (sp_done (M 2) ((M 4) 0) ((i2 - 1)) (j_)) ls (by omega) (by rw [← hI]; exact (bsF_yes (by omega) (by omega)).symm) (by omega) (by omega) (by omega) (lv_sub hl [0, 1, 2, 3, 4] rfl)
            · refine r_il F hl 5 rfl dX4_best_52 ?_
              refine r_iln F hl 3 rfl dX4_best_54 rfl ?_
              refine r_cgtz (a := sp_done (M 2) ((M 4) 0) ((i2 - 1)) (j_)) (b := y) 62 F dX4_best_55 (by decide) (by omega) (fun c_13 => ?_) (fun c_13 => ?_)
              · refine r_icb F false dX4_best_62 rfl ?_
                refine r_is (lv' := [(0, .ref (q 0)), (1, .int (iI ((j_ : Nat) : Int))), (2, .int (iI (x))), (3, .int (iI (y))), (4, .int (iI (((i2 - 1) : Nat) : Int))), (5, .int (iI (sp_done (M 2) ((M 4) 0) ((i2 - 1)) (j_)))), (6, .int (iI ((Bool.toNat (false) : Nat) : Int)))]) F hl dX4_best_63 (by decide) [1, 2, 3, 4, 5, 6, 0] rfl (fun ls hl => ?_)
                refine r_il F hl 6 rfl dX4_best_65 ?_
                refine r_zeqb 75 F dX4_best_67 (by decide) (fun c_14 => ?_) (fun c_14 => ?_)
                · refine r_iln F hl 2 rfl dX4_best_75 rfl ?_
                  refine r_isn (lv' := [(0, .ref (q 0)), (1, .int (iI ((j_ : Nat) : Int))), (2, .int (iI (x))), (3, .int (iI (y))), (4, .int (iI (((i2 - 1) : Nat) : Int))), (5, .int (iI (sp_done (M 2) ((M 4) 0) ((i2 - 1)) (j_)))), (6, .int (iI ((Bool.toNat (false) : Nat) : Int)))]) F hl dX4_best_76 rfl (by decide) [1, 2, 0, 3, 4, 5, 6] rfl (fun ls hl => ?_)
                  refine r_il F hl 6 rfl dX4_best_77 ?_
                  refine r_zeqb 87 F dX4_best_79 (by decide) (fun c_15 => ?_) (fun c_15 => ?_)
                  · refine r_iln F hl 3 rfl dX4_best_87 rfl ?_
                    refine r_isn (lv' := [(0, .ref (q 0)), (1, .int (iI ((j_ : Nat) : Int))), (2, .int (iI (x))), (3, .int (iI (y))), (4, .int (iI (((i2 - 1) : Nat) : Int))), (5, .int (iI (sp_done (M 2) ((M 4) 0) ((i2 - 1)) (j_)))), (6, .int (iI ((Bool.toNat (false) : Nat) : Int)))]) F hl dX4_best_88 rfl (by decide) [1, 2, 3, 0, 4, 5, 6] rfl (fun ls hl => ?_)
                    refine r_incz (lv' := [(0, .ref (q 0)), (1, .int (iI ((j_ : Nat) : Int))), (2, .int (iI (x))), (3, .int (iI (y))), (4, .int (iI ((((i2 - 1 : Nat) : Int) - 1)))), (5, .int (iI (sp_done (M 2) ((M 4) 0) ((i2 - 1)) (j_)))), (6, .int (iI ((Bool.toNat (false) : Nat) : Int)))]) (b := (((i2 - 1 : Nat) : Int) - 1)) F hl 4 rfl dX4_best_89 (by omega) (by decide) [1, 2, 3, 4, 0, 5, 6] rfl (fun ls hl => ?_)
                    refine r_goto 25 F dX4_best_92 (by decide) ?_
                    exact ih_4 (i2 - 1) (x) (y) ls (by omega) (by rw [← hI]; exact (bsF_no (by omega) (by omega)).symm) (by omega) (by omega) (by omega) (lv_sub hl [0, 1, 2, 3, 4] rfl)
                  · cases c_15
                · cases c_14
              · refine r_icb F true dX4_best_58 rfl ?_
                refine r_goto 63 F dX4_best_59 (by decide) ?_
                refine r_is (lv' := [(0, .ref (q 0)), (1, .int (iI ((j_ : Nat) : Int))), (2, .int (iI (x))), (3, .int (iI (y))), (4, .int (iI (((i2 - 1) : Nat) : Int))), (5, .int (iI (sp_done (M 2) ((M 4) 0) ((i2 - 1)) (j_)))), (6, .int (iI ((Bool.toNat (true) : Nat) : Int)))]) F hl dX4_best_63 (by decide) [1, 2, 3, 4, 5, 6, 0] rfl (fun ls hl => ?_)
                refine r_il F hl 6 rfl dX4_best_65 ?_
                refine r_zeqb 75 F dX4_best_67 (by decide) (fun c_16 => ?_) (fun c_16 => ?_)
                · cases c_16
                · refine r_il F hl 4 rfl dX4_best_70 ?_
                  refine r_goto 76 F dX4_best_72 (by decide) ?_
                  refine r_isn (lv' := [(0, .ref (q 0)), (1, .int (iI ((j_ : Nat) : Int))), (2, .int (iI (((i2 - 1) : Nat) : Int))), (3, .int (iI (y))), (4, .int (iI (((i2 - 1) : Nat) : Int))), (5, .int (iI (sp_done (M 2) ((M 4) 0) ((i2 - 1)) (j_)))), (6, .int (iI ((Bool.toNat (true) : Nat) : Int)))]) F hl dX4_best_76 rfl (by decide) [1, 2, 0, 3, 4, 5, 6] rfl (fun ls hl => ?_)
                  refine r_il F hl 6 rfl dX4_best_77 ?_
                  refine r_zeqb 87 F dX4_best_79 (by decide) (fun c_17 => ?_) (fun c_17 => ?_)
                  · cases c_17
                  · refine r_il F hl 5 rfl dX4_best_82 ?_
                    refine r_goto 88 F dX4_best_84 (by decide) ?_
                    refine r_isn (lv' := [(0, .ref (q 0)), (1, .int (iI ((j_ : Nat) : Int))), (2, .int (iI (((i2 - 1) : Nat) : Int))), (3, .int (iI (sp_done (M 2) ((M 4) 0) ((i2 - 1)) (j_)))), (4, .int (iI (((i2 - 1) : Nat) : Int))), (5, .int (iI (sp_done (M 2) ((M 4) 0) ((i2 - 1)) (j_)))), (6, .int (iI ((Bool.toNat (true) : Nat) : Int)))]) F hl dX4_best_88 rfl (by decide) [1, 2, 3, 0, 4, 5, 6] rfl (fun ls hl => ?_)
                    refine r_incz (lv' := [(0, .ref (q 0)), (1, .int (iI ((j_ : Nat) : Int))), (2, .int (iI (((i2 - 1) : Nat) : Int))), (3, .int (iI (sp_done (M 2) ((M 4) 0) ((i2 - 1)) (j_)))), (4, .int (iI ((((i2 - 1 : Nat) : Int) - 1)))), (5, .int (iI (sp_done (M 2) ((M 4) 0) ((i2 - 1)) (j_)))), (6, .int (iI ((Bool.toNat (true) : Nat) : Int)))]) (b := (((i2 - 1 : Nat) : Int) - 1)) F hl 4 rfl dX4_best_89 (by omega) (by decide) [1, 2, 3, 4, 0, 5, 6] rfl (fun ls hl => ?_)
                    refine r_goto 25 F dX4_best_92 (by decide) ?_
                    exact ih_4 (i2 - 1) ((((i2 - 1) : Nat) : Int)) (sp_done (M 2) ((M 4) 0) ((i2 - 1)) (j_)) ls (by omega) (by rw [← hI]; exact (bsF_yes (by omega) (by omega)).symm) (by omega) (by omega) (by omega) (lv_sub hl [0, 1, 2, 3, 4] rfl)
    exact lp_3 _ (M 2 0) (-4) ((0 : Int)) ls (Nat.lt_succ_self _) rfl (by omega) (by omega) (by omega) hl
  · have c_1d := c_1
    simp only [isIn, isP, decide_eq_true_eq, decide_eq_false_iff_not] at c_1d
    refine r_icz F (-1) dX4_best_8 rfl ?_
    exact r_retQ F hr hlk hH dX4_best_9 (by first | rfl | (simp only [g_best, c_1, if_true, if_false, Bool.and_true, Bool.true_and, Bool.and_false, Bool.false_and, Bool.and_self, Bool.false_eq_true, ↓reduceIte, decide_true, decide_false, Int.toNat_natCast, Bool.toNat_true, Bool.toNat_false]; first | done | rfl | (simp only [if_true, if_true, if_false, Bool.and_true, Bool.true_and, Bool.and_false, Bool.false_and, Bool.and_self, Bool.false_eq_true, ↓reduceIte, decide_true, decide_false, Int.toNat_natCast, Bool.toNat_true, Bool.toNat_false]; first | done | rfl) | (simp only [if_true]; first | done | rfl) | (simp [if_true]; done) | (simp [if_true]; first | rfl | omega)) | (simp [g_best, c_1]; done) | (simp [g_best, c_1]; omega) | (simp only [g_best, c_1, if_true, if_false, Bool.and_true, Bool.true_and, Bool.and_false, Bool.false_and, Bool.and_self, Bool.false_eq_true, ↓reduceIte, decide_true, decide_false, Int.toNat_natCast, Bool.toNat_true, Bool.toNat_false]; try simp only [if_true, if_true, if_false, Bool.and_true, Bool.true_and, Bool.and_false, Bool.false_and, Bool.and_self, Bool.false_eq_true, ↓reduceIte, decide_true, decide_false, Int.toNat_natCast, Bool.toNat_true, Bool.toNat_false]; rfl))
abbrev rm_X4_handed : Room := { frames := 2, cells := 0, slots := 0, locals := 43 }
set_option maxHeartbeats 4000000 in
set_option maxRecDepth 100000 in
theorem k_X4_handed (l : Launch) (D : va_G) (cI cB : ClassId) (q : Nat → Nat) (M : St) (i j : Int) (hi : (-2147483648 ≤ i ∧ i < 2147483648)) (hj : (-2147483648 ≤ j ∧ j < 2147483648)) (hp : 1 ≤ M 2 0 ∧ M 2 0 ≤ 5) (ht : M 2 1 ≤ 4) (hbk : ∀ k, M 2 k < 256) (hst : ∀ k, 32 ≤ k → k < 64 → M 2 k < 6) (hln : M 2 3 ≤ 8 ∧ ∀ k, 28 ≤ k → k < 32 → M 2 k ≤ 8) : CtQ l yX4_handed cX4_handed 9 (some .int) rm_X4_handed D cI cB [.ref (q 0), .int (iI (i)), .int (iI (j))] (wM q cI M) ((iI (g_handed (M 2) i j))) := by
  refine CtQ.of RX4 (by decide) rfl (Nat.le_of_ble_eq_true rfl) ?_
  intro p e s m args below meth c H ls hH F hr hlk P hl
  have hl : lv_has ls 9 [(0, .ref (q 0)), (1, .int (iI (i))), (2, .int (iI (j)))] := hl
  refine r_aln F hl 0 rfl dX4_handed_0 rfl ?_
  refine r_iln F hl 1 rfl dX4_handed_1 rfl ?_
  refine r_cq F P (k_X4_isPerson l D cI cB (q) (M) (i) (by omega) hbk) gw_X4_99 [0, 1, 2, 3, 4, 5, 6, 7, 8, 9, 10] rfl rfl rfl ⟨⟨rfl, rfl⟩, Nat.le_of_ble_eq_true rfl, Nat.le_of_ble_eq_true rfl⟩ ⟨Nat.le_of_ble_eq_true rfl, Nat.le_of_ble_eq_true rfl⟩ hl.1 rfl [] rfl (Nat.le_of_ble_eq_true rfl) dX4_handed_2 ?_
  refine r_zeqb 16 F dX4_handed_5 (by decide) (fun c_1 => ?_) (fun c_1 => ?_)
  · have c_1d := c_1
    simp only [isIn, isP, decide_eq_true_eq, decide_eq_false_iff_not] at c_1d
    refine r_icz F (-1) dX4_handed_16 rfl ?_
    exact r_retQ F hr hlk hH dX4_handed_17 (by first | rfl | (simp only [g_handed, vDone, c_1, if_true, if_false, Bool.and_true, Bool.true_and, Bool.and_false, Bool.false_and, Bool.and_self, Bool.false_eq_true, ↓reduceIte, decide_true, decide_false, Int.toNat_natCast, Bool.toNat_true, Bool.toNat_false]; first | done | rfl | (simp only [if_true, if_true, if_false, Bool.and_true, Bool.true_and, Bool.and_false, Bool.false_and, Bool.and_self, Bool.false_eq_true, ↓reduceIte, decide_true, decide_false, Int.toNat_natCast, Bool.toNat_true, Bool.toNat_false]; first | done | rfl) | (simp only [if_true]; first | done | rfl) | (simp [if_true]; done) | (simp [if_true]; first | rfl | omega)) | (simp [g_handed, vDone, c_1]; done) | (simp [g_handed, vDone, c_1]; omega) | (simp only [g_handed, vDone, c_1, if_true, if_false, Bool.and_true, Bool.true_and, Bool.and_false, Bool.false_and, Bool.and_self, Bool.false_eq_true, ↓reduceIte, decide_true, decide_false, Int.toNat_natCast, Bool.toNat_true, Bool.toNat_false]; try simp only [if_true, if_true, if_false, Bool.and_true, Bool.true_and, Bool.and_false, Bool.false_and, Bool.and_self, Bool.false_eq_true, ↓reduceIte, decide_true, decide_false, Int.toNat_natCast, Bool.toNat_true, Bool.toNat_false]; rfl))
  · have c_1d := c_1
    simp only [isIn, isP, decide_eq_true_eq, decide_eq_false_iff_not] at c_1d
    refine r_aln F hl 0 rfl dX4_handed_8 rfl ?_
    refine r_iln F hl 2 rfl dX4_handed_9 rfl ?_
    refine r_cq F P (k_X4_isTrade l D cI cB (q) (M) (j) (by omega) hbk) gw_X4_123 [0, 1, 2, 3, 4, 5, 6, 7, 8, 9, 10] rfl rfl rfl ⟨⟨rfl, rfl⟩, Nat.le_of_ble_eq_true rfl, Nat.le_of_ble_eq_true rfl⟩ ⟨Nat.le_of_ble_eq_true rfl, Nat.le_of_ble_eq_true rfl⟩ hl.1 rfl [] rfl (Nat.le_of_ble_eq_true rfl) dX4_handed_10 ?_
    refine r_zneb 18 F dX4_handed_13 (by decide) (fun c_2 => ?_) (fun c_2 => ?_)
    · have c_2d := c_2
      simp only [isIn, isP, decide_eq_true_eq, decide_eq_false_iff_not] at c_2d
      obtain ⟨i_, rfl⟩ : ∃ k : Nat, i = (k : Int) := ⟨i.toNat, by omega⟩
      have hl : lv_has ls 9 [(0, .ref (q 0)), (1, .int (iI ((i_ : Nat) : Int))), (2, .int (iI (j)))] := hl
      obtain ⟨j_, rfl⟩ : ∃ k : Nat, j = (k : Int) := ⟨j.toNat, by omega⟩
      have hl : lv_has ls 9 [(0, .ref (q 0)), (1, .int (iI ((i_ : Nat) : Int))), (2, .int (iI ((j_ : Nat) : Int)))] := hl
      have hl8 : M 2 (28 + j_) ≤ 8 := hln.2 (28 + j_) (by omega) (by omega)
      refine r_aln F hl 0 rfl dX4_handed_18 rfl ?_
      refine gf_X4_13 F P 0 rfl (.ref (q 3)) rfl dX4_handed_19 ?_
      refine r_bp F 28 dX4_handed_22 rfl ?_
      refine r_iln F hl 2 rfl dX4_handed_24 rfl ?_
      refine r_add F dX4_handed_25 ?_
      refine r_ald (f := M 2) F P 2 rfl dX4_handed_26 (by decide) (by omega) ?_
      have b_3 : M 2 ((28 + j_)) < 256 := hbk ((28 + j_))
      refine r_isn (lv' := [(0, .ref (q 0)), (1, .int (iI ((i_ : Nat) : Int))), (2, .int (iI ((j_ : Nat) : Int))), (3, .int (iI ((M 2 ((28 + j_)) : Nat) : Int)))]) F hl dX4_handed_27 rfl (by decide) [1, 2, 3, 0] rfl (fun ls hl => ?_)
      refine r_bpz F (-4) dX4_handed_28 rfl ?_
      refine r_is (lv' := [(0, .ref (q 0)), (1, .int (iI ((i_ : Nat) : Int))), (2, .int (iI ((j_ : Nat) : Int))), (3, .int (iI ((M 2 ((28 + j_)) : Nat) : Int))), (4, .int (iI (-4)))]) F hl dX4_handed_30 (by decide) [1, 2, 3, 4, 0] rfl (fun ls hl => ?_)
      refine r_ic F 0 dX4_handed_32 rfl ?_
      refine r_is (lv' := [(0, .ref (q 0)), (1, .int (iI ((i_ : Nat) : Int))), (2, .int (iI ((j_ : Nat) : Int))), (3, .int (iI ((M 2 ((28 + j_)) : Nat) : Int))), (4, .int (iI (-4))), (5, .int (iI ((0 : Nat) : Int)))]) F hl dX4_handed_33 (by decide) [1, 2, 3, 4, 5, 0] rfl (fun ls hl => ?_)
      have lp_4 : ∀ (nn_ : Nat) (way : Nat) (x : Int) (ls : Array Slot), 1 * 2 ^ M 2 (28 + j_) - way < nn_ → (lpR (hoB (M 2) i_ j_) (1 * 2 ^ M 2 (28 + j_)) way x = sp_handed (M 2) i_ j_) → (-4 ≤ x ∧ x < 65536) → (way ≤ 1 * 2 ^ M 2 (28 + j_)) → lv_has ls 9 [(0, .ref (q 0)), (1, .int (iI ((i_ : Nat) : Int))), (2, .int (iI ((j_ : Nat) : Int))), (3, .int (iI ((M 2 ((28 + j_)) : Nat) : Int))), (4, .int (iI (x))), (5, .int (iI ((way : Nat) : Int)))] → W p l e rm_X4_handed s m args below meth c H [] 0 0 (Qq below args s ((iI (g_handed (M 2) ((i_ : Nat) : Int) ((j_ : Nat) : Int))))) (F0 m 35 ls []) := by
        intro nn_
        induction nn_ with
        | zero => intro way x ls hlt; exact absurd hlt (Nat.not_lt_zero _)
        | succ nn_ ih =>
          have ih_5 := ih; clear ih
          intro way x ls hlt hI hx hk hl
          have hlt_6 := hlt
          refine r_il F hl 5 rfl dX4_handed_35 ?_
          refine r_ic F 1 dX4_handed_37 rfl ?_
          refine r_iln F hl 3 rfl dX4_handed_38 rfl ?_
          have b_7 : 1 * 2 ^ (M 2 ((28 + j_))) < 65536 := pw16 (by omega)
          refine r_shl F dX4_handed_39 ⟨by omega, by omega⟩ ?_
          refine r_cge 162 F dX4_handed_40 (by decide) (by omega) (fun c_8 => ?_) (fun c_8 => ?_)
          · have hz_ : sp_handed (M 2) i_ j_ = x := by rw [← hI, lpR_end (by omega)]
            refine r_il F hl 4 rfl dX4_handed_162 ?_
            exact r_retQ F hr hlk hH dX4_handed_164 (by first | rfl | (simp only [g_handed, vDone, c_1, c_2, hz_, if_true, if_false, Bool.and_true, Bool.true_and, Bool.and_false, Bool.false_and, Bool.and_self, Bool.false_eq_true, ↓reduceIte, decide_true, decide_false, Int.toNat_natCast, Bool.toNat_true, Bool.toNat_false]; first | done | rfl | (simp only [c_8, (Nat.not_lt.mp c_8), if_true, if_false, Bool.and_true, Bool.true_and, Bool.and_false, Bool.false_and, Bool.and_self, Bool.false_eq_true, ↓reduceIte, decide_true, decide_false, Int.toNat_natCast, Bool.toNat_true, Bool.toNat_false]; first | done | rfl) | (simp only [if_neg c_8, if_pos (Nat.not_lt.mp c_8)]; first | done | rfl) | (simp [c_8, (Nat.not_lt.mp c_8)]; done) | (simp [c_8, (Nat.not_lt.mp c_8)]; first | rfl | omega)) | (simp [g_handed, vDone, c_1, c_2, c_8, (Nat.not_lt.mp c_8), hz_]; done) | (simp [g_handed, vDone, c_1, c_2, c_8, (Nat.not_lt.mp c_8), hz_]; omega) | (simp only [g_handed, vDone, c_1, c_2, hz_, if_true, if_false, Bool.and_true, Bool.true_and, Bool.and_false, Bool.false_and, Bool.and_self, Bool.false_eq_true, ↓reduceIte, decide_true, decide_false, Int.toNat_natCast, Bool.toNat_true, Bool.toNat_false]; try simp only [c_8, (Nat.not_lt.mp c_8), if_true, if_false, Bool.and_true, Bool.true_and, Bool.and_false, Bool.false_and, Bool.and_self, Bool.false_eq_true, ↓reduceIte, decide_true, decide_false, Int.toNat_natCast, Bool.toNat_true, Bool.toNat_false]; rfl))
          · refine r_icb F true dX4_handed_43 rfl ?_
            refine r_is (lv' := [(0, .ref (q 0)), (1, .int (iI ((i_ : Nat) : Int))), (2, .int (iI ((j_ : Nat) : Int))), (3, .int (iI ((M 2 ((28 + j_)) : Nat) : Int))), (4, .int (iI (x))), (5, .int (iI ((way : Nat) : Int))), (6, .int (iI ((Bool.toNat (true) : Nat) : Int)))]) F hl dX4_handed_44 (by decide) [1, 2, 3, 4, 5, 6, 0] rfl (fun ls hl => ?_)
            refine r_ic F 0 dX4_handed_46 rfl ?_
            refine r_is (lv' := [(0, .ref (q 0)), (1, .int (iI ((i_ : Nat) : Int))), (2, .int (iI ((j_ : Nat) : Int))), (3, .int (iI ((M 2 ((28 + j_)) : Nat) : Int))), (4, .int (iI (x))), (5, .int (iI ((way : Nat) : Int))), (6, .int (iI ((Bool.toNat (true) : Nat) : Int))), (7, .int (iI ((0 : Nat) : Int)))]) F hl dX4_handed_47 (by decide) [1, 2, 3, 4, 5, 6, 7, 0] rfl (fun ls hl => ?_)
            refine r_ic F 0 dX4_handed_49 rfl ?_
            refine r_is (lv' := [(0, .ref (q 0)), (1, .int (iI ((i_ : Nat) : Int))), (2, .int (iI ((j_ : Nat) : Int))), (3, .int (iI ((M 2 ((28 + j_)) : Nat) : Int))), (4, .int (iI (x))), (5, .int (iI ((way : Nat) : Int))), (6, .int (iI ((Bool.toNat (true) : Nat) : Int))), (7, .int (iI ((0 : Nat) : Int))), (8, .int (iI ((0 : Nat) : Int)))]) F hl dX4_handed_50 (by decide) [1, 2, 3, 4, 5, 6, 7, 8, 0] rfl (fun ls hl => ?_)
            have lp_9 : ∀ (nn_ : Nat) (b : Bool) (u : Nat) (k : Nat) (ls : Array Slot), M 2 (28 + j_) - k < nn_ → (lpR (hdB (M 2) i_ j_ way) (M 2 (28 + j_)) k (b, u) = hdI (M 2) i_ j_ way) → (u ≤ k) → (k ≤ M 2 (28 + j_)) → lv_has ls 9 [(0, .ref (q 0)), (1, .int (iI ((i_ : Nat) : Int))), (2, .int (iI ((j_ : Nat) : Int))), (3, .int (iI ((M 2 ((28 + j_)) : Nat) : Int))), (4, .int (iI (x))), (5, .int (iI ((way : Nat) : Int))), (6, .int (iI ((Bool.toNat (b) : Nat) : Int))), (7, .int (iI ((u : Nat) : Int))), (8, .int (iI ((k : Nat) : Int)))] → W p l e rm_X4_handed s m args below meth c H [] 0 0 (Qq below args s ((iI (g_handed (M 2) ((i_ : Nat) : Int) ((j_ : Nat) : Int))))) (F0 m 52 ls []) := by
              intro nn_
              induction nn_ with
              | zero => intro b u k ls hlt; exact absurd hlt (Nat.not_lt_zero _)
              | succ nn_ ih =>
                have ih_10 := ih; clear ih
                intro b u k ls hlt hJ hu hk2 hl
                have hlt_11 := hlt
                refine r_il F hl 8 rfl dX4_handed_52 ?_
                refine r_iln F hl 3 rfl dX4_handed_54 rfl ?_
                refine r_cge 128 F dX4_handed_55 (by decide) (by omega) (fun c_12 => ?_) (fun c_12 => ?_)
                · have he_ : hdI (M 2) i_ j_ way = (b, u) := by rw [← hJ, lpR_end (by omega)]
                  refine r_il F hl 6 rfl dX4_handed_128 ?_
                  refine r_zeqb 152 F dX4_handed_130 (by decide) (fun c_13 => ?_) (fun c_13 => ?_)
                  · refine r_il F hl 4 rfl dX4_handed_152 ?_
                    refine r_is (lv' := [(0, .ref (q 0)), (1, .int (iI ((i_ : Nat) : Int))), (2, .int (iI ((j_ : Nat) : Int))), (3, .int (iI ((M 2 ((28 + j_)) : Nat) : Int))), (4, .int (iI (x))), (5, .int (iI ((way : Nat) : Int))), (6, .int (iI ((Bool.toNat (b) : Nat) : Int))), (7, .int (iI ((u : Nat) : Int))), (8, .int (iI ((k : Nat) : Int)))]) F hl dX4_handed_154 (by decide) [1, 2, 3, 4, 0, 5, 6, 7, 8] rfl (fun ls hl => ?_)
                    refine r_inc (lv' := [(0, .ref (q 0)), (1, .int (iI ((i_ : Nat) : Int))), (2, .int (iI ((j_ : Nat) : Int))), (3, .int (iI ((M 2 ((28 + j_)) : Nat) : Int))), (4, .int (iI (x))), (5, .int (iI (((way + 1) : Nat) : Int))), (6, .int (iI ((Bool.toNat (b) : Nat) : Int))), (7, .int (iI ((u : Nat) : Int))), (8, .int (iI ((k : Nat) : Int)))]) F hl 5 rfl dX4_handed_156 1 rfl (by decide) [1, 2, 3, 4, 5, 0, 6, 7, 8] rfl (fun ls hl => ?_)
                    refine r_goto 35 F dX4_handed_159 (by decide) ?_
                    exact ih_5 ((way + 1)) (x) ls (by omega) (by have h_ := hI; rw [lpR_step (by omega)] at h_; refine Eq.trans ?_ h_; first | rfl | (simp only [hoB, he_, c_1, c_2, c_8, (Nat.not_le.mpr c_8), c_12, (Nat.not_lt.mp c_12), c_13, if_true, if_false, Bool.and_true, Bool.true_and, Bool.and_false, Bool.false_and, Bool.and_self, Bool.false_eq_true, ↓reduceIte, decide_true, decide_false, Int.toNat_natCast, Bool.toNat_true, Bool.toNat_false]; done) | (simp [hoB, he_, c_1, c_2, c_8, (Nat.not_le.mpr c_8), c_12, (Nat.not_lt.mp c_12), c_13]; done)) (by omega) (by omega) (lv_sub hl [0, 1, 2, 3, 4, 5] rfl)
                  · refine r_il F hl 4 rfl dX4_handed_133 ?_
                    refine r_bpz F (-4) dX4_handed_135 rfl ?_
                    refine r_ceqz (a := x) (b := -4) 147 F dX4_handed_137 (by decide) (by omega) (fun c_14 => ?_) (fun c_14 => ?_)
                    · refine r_il F hl 7 rfl dX4_handed_147 ?_
                      refine r_goto 154 F dX4_handed_149 (by decide) ?_
                      refine r_is (lv' := [(0, .ref (q 0)), (1, .int (iI ((i_ : Nat) : Int))), (2, .int (iI ((j_ : Nat) : Int))), (3, .int (iI ((M 2 ((28 + j_)) : Nat) : Int))), (4, .int (iI ((u : Nat) : Int))), (5, .int (iI ((way : Nat) : Int))), (6, .int (iI ((Bool.toNat (b) : Nat) : Int))), (7, .int (iI ((u : Nat) : Int))), (8, .int (iI ((k : Nat) : Int)))]) F hl dX4_handed_154 (by decide) [1, 2, 3, 4, 0, 5, 6, 7, 8] rfl (fun ls hl => ?_)
                      refine r_inc (lv' := [(0, .ref (q 0)), (1, .int (iI ((i_ : Nat) : Int))), (2, .int (iI ((j_ : Nat) : Int))), (3, .int (iI ((M 2 ((28 + j_)) : Nat) : Int))), (4, .int (iI ((u : Nat) : Int))), (5, .int (iI (((way + 1) : Nat) : Int))), (6, .int (iI ((Bool.toNat (b) : Nat) : Int))), (7, .int (iI ((u : Nat) : Int))), (8, .int (iI ((k : Nat) : Int)))]) F hl 5 rfl dX4_handed_156 1 rfl (by decide) [1, 2, 3, 4, 5, 0, 6, 7, 8] rfl (fun ls hl => ?_)
                      refine r_goto 35 F dX4_handed_159 (by decide) ?_
                      exact ih_5 ((way + 1)) (((u : Nat) : Int)) ls (by omega) (by have h_ := hI; rw [lpR_step (by omega)] at h_; refine Eq.trans ?_ h_; first | rfl | (simp only [hoB, he_, c_1, c_2, c_8, (Nat.not_le.mpr c_8), c_12, (Nat.not_lt.mp c_12), c_13, c_14, if_true, if_false, Bool.and_true, Bool.true_and, Bool.and_false, Bool.false_and, Bool.and_self, Bool.false_eq_true, ↓reduceIte, decide_true, decide_false, Int.toNat_natCast, Bool.toNat_true, Bool.toNat_false]; done) | (simp [hoB, he_, c_1, c_2, c_8, (Nat.not_le.mpr c_8), c_12, (Nat.not_lt.mp c_12), c_13, c_14]; done)) (by omega) (by omega) (lv_sub hl [0, 1, 2, 3, 4, 5] rfl)
                    · refine r_il F hl 7 rfl dX4_handed_140 ?_
                      refine r_il F hl 4 rfl dX4_handed_142 ?_
                      refine r_cgez (a := ((u : Nat) : Int)) (b := x) 152 F dX4_handed_144 (by decide) (by omega) (fun c_15 => ?_) (fun c_15 => ?_)
                      · refine r_il F hl 4 rfl dX4_handed_152 ?_
                        refine r_is (lv' := [(0, .ref (q 0)), (1, .int (iI ((i_ : Nat) : Int))), (2, .int (iI ((j_ : Nat) : Int))), (3, .int (iI ((M 2 ((28 + j_)) : Nat) : Int))), (4, .int (iI (x))), (5, .int (iI ((way : Nat) : Int))), (6, .int (iI ((Bool.toNat (b) : Nat) : Int))), (7, .int (iI ((u : Nat) : Int))), (8, .int (iI ((k : Nat) : Int)))]) F hl dX4_handed_154 (by decide) [1, 2, 3, 4, 0, 5, 6, 7, 8] rfl (fun ls hl => ?_)
                        refine r_inc (lv' := [(0, .ref (q 0)), (1, .int (iI ((i_ : Nat) : Int))), (2, .int (iI ((j_ : Nat) : Int))), (3, .int (iI ((M 2 ((28 + j_)) : Nat) : Int))), (4, .int (iI (x))), (5, .int (iI (((way + 1) : Nat) : Int))), (6, .int (iI ((Bool.toNat (b) : Nat) : Int))), (7, .int (iI ((u : Nat) : Int))), (8, .int (iI ((k : Nat) : Int)))]) F hl 5 rfl dX4_handed_156 1 rfl (by decide) [1, 2, 3, 4, 5, 0, 6, 7, 8] rfl (fun ls hl => ?_)
                        refine r_goto 35 F dX4_handed_159 (by decide) ?_
                        exact ih_5 ((way + 1)) (x) ls (by omega) (by have h_ := hI; rw [lpR_step (by omega)] at h_; refine Eq.trans ?_ h_; first | rfl | (simp only [hoB, he_, c_1, c_2, c_8, (Nat.not_le.mpr c_8), c_12, (Nat.not_lt.mp c_12), c_13, c_14, c_15, (Int.not_lt.mp c_15), if_true, if_false, Bool.and_true, Bool.true_and, Bool.and_false, Bool.false_and, Bool.and_self, Bool.false_eq_true, ↓reduceIte, decide_true, decide_false, Int.toNat_natCast, Bool.toNat_true, Bool.toNat_false]; done) | (simp [hoB, he_, c_1, c_2, c_8, (Nat.not_le.mpr c_8), c_12, (Nat.not_lt.mp c_12), c_13, c_14, c_15, (Int.not_lt.mp c_15)]; done)) (by omega) (by omega) (lv_sub hl [0, 1, 2, 3, 4, 5] rfl)
                      · refine r_il F hl 7 rfl dX4_handed_147 ?_
                        refine r_goto 154 F dX4_handed_149 (by decide) ?_
                        refine r_is (lv' := [(0, .ref (q 0)), (1, .int (iI ((i_ : Nat) : Int))), (2, .int (iI ((j_ : Nat) : Int))), (3, .int (iI ((M 2 ((28 + j_)) : Nat) : Int))), (4, .int (iI ((u : Nat) : Int))), (5, .int (iI ((way : Nat) : Int))), (6, .int (iI ((Bool.toNat (b) : Nat) : Int))), (7, .int (iI ((u : Nat) : Int))), (8, .int (iI ((k : Nat) : Int)))]) F hl dX4_handed_154 (by decide) [1, 2, 3, 4, 0, 5, 6, 7, 8] rfl (fun ls hl => ?_)
                        refine r_inc (lv' := [(0, .ref (q 0)), (1, .int (iI ((i_ : Nat) : Int))), (2, .int (iI ((j_ : Nat) : Int))), (3, .int (iI ((M 2 ((28 + j_)) : Nat) : Int))), (4, .int (iI ((u : Nat) : Int))), (5, .int (iI (((way + 1) : Nat) : Int))), (6, .int (iI ((Bool.toNat (b) : Nat) : Int))), (7, .int (iI ((u : Nat) : Int))), (8, .int (iI ((k : Nat) : Int)))]) F hl 5 rfl dX4_handed_156 1 rfl (by decide) [1, 2, 3, 4, 5, 0, 6, 7, 8] rfl (fun ls hl => ?_)
                        refine r_goto 35 F dX4_handed_159 (by decide) ?_
                        exact ih_5 ((way + 1)) (((u : Nat) : Int)) ls (by omega) (by have h_ := hI; rw [lpR_step (by omega)] at h_; refine Eq.trans ?_ h_; first | rfl | (simp only [hoB, he_, c_1, c_2, c_8, (Nat.not_le.mpr c_8), c_12, (Nat.not_lt.mp c_12), c_13, c_14, c_15, (Int.not_le.mpr c_15), if_true, if_false, Bool.and_true, Bool.true_and, Bool.and_false, Bool.false_and, Bool.and_self, Bool.false_eq_true, ↓reduceIte, decide_true, decide_false, Int.toNat_natCast, Bool.toNat_true, Bool.toNat_false]; done) | (simp [hoB, he_, c_1, c_2, c_8, (Nat.not_le.mpr c_8), c_12, (Nat.not_lt.mp c_12), c_13, c_14, c_15, (Int.not_le.mpr c_15)]; done)) (by omega) (by omega) (lv_sub hl [0, 1, 2, 3, 4, 5] rfl)
                · refine r_il F hl 6 rfl dX4_handed_58 ?_
                  refine r_zeqb 85 F dX4_handed_60 (by decide) (fun c_16 => ?_) (fun c_16 => ?_)
                  · refine r_icb F false dX4_handed_85 rfl ?_
                    refine r_is (lv' := [(0, .ref (q 0)), (1, .int (iI ((i_ : Nat) : Int))), (2, .int (iI ((j_ : Nat) : Int))), (3, .int (iI ((M 2 ((28 + j_)) : Nat) : Int))), (4, .int (iI (x))), (5, .int (iI ((way : Nat) : Int))), (6, .int (iI ((Bool.toNat (false) : Nat) : Int))), (7, .int (iI ((u : Nat) : Int))), (8, .int (iI ((k : Nat) : Int)))]) F hl dX4_handed_86 (by decide) [1, 2, 3, 4, 5, 6, 0, 7, 8] rfl (fun ls hl => ?_)
                    refine r_il F hl 7 rfl dX4_handed_88 ?_
                    refine r_il F hl 8 rfl dX4_handed_90 ?_
                    refine r_zle 118 F dX4_handed_92 (by decide) (by omega) (fun c_17 => ?_) (fun c_17 => ?_)
                    · refine r_ic F 0 dX4_handed_118 rfl ?_
                      refine r_add F dX4_handed_119 ?_
                      refine r_is (lv' := [(0, .ref (q 0)), (1, .int (iI ((i_ : Nat) : Int))), (2, .int (iI ((j_ : Nat) : Int))), (3, .int (iI ((M 2 ((28 + j_)) : Nat) : Int))), (4, .int (iI (x))), (5, .int (iI ((way : Nat) : Int))), (6, .int (iI ((Bool.toNat (false) : Nat) : Int))), (7, .int (iI (((u + 0) : Nat) : Int))), (8, .int (iI ((k : Nat) : Int)))]) F hl dX4_handed_120 (by decide) [1, 2, 3, 4, 5, 6, 7, 0, 8] rfl (fun ls hl => ?_)
                      refine r_inc (lv' := [(0, .ref (q 0)), (1, .int (iI ((i_ : Nat) : Int))), (2, .int (iI ((j_ : Nat) : Int))), (3, .int (iI ((M 2 ((28 + j_)) : Nat) : Int))), (4, .int (iI (x))), (5, .int (iI ((way : Nat) : Int))), (6, .int (iI ((Bool.toNat (false) : Nat) : Int))), (7, .int (iI (((u + 0) : Nat) : Int))), (8, .int (iI (((k + 1) : Nat) : Int)))]) F hl 8 rfl dX4_handed_122 1 rfl (by decide) [1, 2, 3, 4, 5, 6, 7, 8, 0] rfl (fun ls hl => ?_)
                      refine r_goto 52 F dX4_handed_125 (by decide) ?_
                      exact ih_10 (false) ((u + 0)) ((k + 1)) ls (by omega) (by have h_ := hJ; rw [lpR_step (by omega)] at h_; refine Eq.trans ?_ h_; exact congrArg (lpR (hdB (M 2) i_ j_ way) (M 2 (28 + j_)) (k + 1)) (Prod.ext (by show _ = (b && sp_has (M 2) i_ (way / 2 ^ k &&& 1) j_ k); first | rfl | (simp only [c_1, c_2, c_16, if_true, if_false, Bool.and_true, Bool.true_and, Bool.and_false, Bool.false_and, Bool.and_self, Bool.false_eq_true, ↓reduceIte, decide_true, decide_false, Int.toNat_natCast, Bool.toNat_true, Bool.toNat_false]; done)) (by show _ = u + (if 0 < k ∧ ¬ (way / 2 ^ k &&& 1) = (way / 2 ^ (k - 1) &&& 1) then 1 else 0); split <;> omega))) (by omega) (by omega) hl
                    · refine r_il F hl 5 rfl dX4_handed_95 ?_
                      refine r_il F hl 8 rfl dX4_handed_97 ?_
                      refine r_shr F dX4_handed_99 ⟨by omega, by omega⟩ ?_
                      have b_18 : (way / 2 ^ k) ≤ way := Nat.div_le_self _ _
                      refine r_ic F 1 dX4_handed_100 rfl ?_
                      refine r_and F dX4_handed_101 ?_
                      have b_19 : ((way / 2 ^ k) &&& 1) ≤ 1 := Nat.and_le_right
                      refine r_il F hl 5 rfl dX4_handed_102 ?_
                      refine r_il F hl 8 rfl dX4_handed_104 ?_
                      refine r_ic F 1 dX4_handed_106 rfl ?_
                      refine r_sub F dX4_handed_107 (by omega) ?_
                      refine r_shr F dX4_handed_108 ⟨by omega, by omega⟩ ?_
                      have b_20 : (way / 2 ^ (k - 1)) ≤ way := Nat.div_le_self _ _
                      refine r_ic F 1 dX4_handed_109 rfl ?_
                      refine r_and F dX4_handed_110 ?_
                      have b_21 : ((way / 2 ^ (k - 1)) &&& 1) ≤ 1 := Nat.and_le_right
                      refine r_ceq 118 F dX4_handed_111 (by decide) (by omega) (fun c_22 => ?_) (fun c_22 => ?_)
                      · refine r_ic F 0 dX4_handed_118 rfl ?_
                        refine r_add F dX4_handed_119 ?_
                        refine r_is (lv' := [(0, .ref (q 0)), (1, .int (iI ((i_ : Nat) : Int))), (2, .int (iI ((j_ : Nat) : Int))), (3, .int (iI ((M 2 ((28 + j_)) : Nat) : Int))), (4, .int (iI (x))), (5, .int (iI ((way : Nat) : Int))), (6, .int (iI ((Bool.toNat (false) : Nat) : Int))), (7, .int (iI (((u + 0) : Nat) : Int))), (8, .int (iI ((k : Nat) : Int)))]) F hl dX4_handed_120 (by decide) [1, 2, 3, 4, 5, 6, 7, 0, 8] rfl (fun ls hl => ?_)
                        refine r_inc (lv' := [(0, .ref (q 0)), (1, .int (iI ((i_ : Nat) : Int))), (2, .int (iI ((j_ : Nat) : Int))), (3, .int (iI ((M 2 ((28 + j_)) : Nat) : Int))), (4, .int (iI (x))), (5, .int (iI ((way : Nat) : Int))), (6, .int (iI ((Bool.toNat (false) : Nat) : Int))), (7, .int (iI (((u + 0) : Nat) : Int))), (8, .int (iI (((k + 1) : Nat) : Int)))]) F hl 8 rfl dX4_handed_122 1 rfl (by decide) [1, 2, 3, 4, 5, 6, 7, 8, 0] rfl (fun ls hl => ?_)
                        refine r_goto 52 F dX4_handed_125 (by decide) ?_
                        exact ih_10 (false) ((u + 0)) ((k + 1)) ls (by omega) (by have h_ := hJ; rw [lpR_step (by omega)] at h_; refine Eq.trans ?_ h_; exact congrArg (lpR (hdB (M 2) i_ j_ way) (M 2 (28 + j_)) (k + 1)) (Prod.ext (by show _ = (b && sp_has (M 2) i_ (way / 2 ^ k &&& 1) j_ k); first | rfl | (simp only [c_1, c_2, c_16, if_true, if_false, Bool.and_true, Bool.true_and, Bool.and_false, Bool.false_and, Bool.and_self, Bool.false_eq_true, ↓reduceIte, decide_true, decide_false, Int.toNat_natCast, Bool.toNat_true, Bool.toNat_false]; done)) (by show _ = u + (if 0 < k ∧ ¬ (way / 2 ^ k &&& 1) = (way / 2 ^ (k - 1) &&& 1) then 1 else 0); split <;> omega))) (by omega) (by omega) hl
                      · refine r_ic F 1 dX4_handed_114 rfl ?_
                        refine r_goto 119 F dX4_handed_115 (by decide) ?_
                        refine r_add F dX4_handed_119 ?_
                        refine r_is (lv' := [(0, .ref (q 0)), (1, .int (iI ((i_ : Nat) : Int))), (2, .int (iI ((j_ : Nat) : Int))), (3, .int (iI ((M 2 ((28 + j_)) : Nat) : Int))), (4, .int (iI (x))), (5, .int (iI ((way : Nat) : Int))), (6, .int (iI ((Bool.toNat (false) : Nat) : Int))), (7, .int (iI (((u + 1) : Nat) : Int))), (8, .int (iI ((k : Nat) : Int)))]) F hl dX4_handed_120 (by decide) [1, 2, 3, 4, 5, 6, 7, 0, 8] rfl (fun ls hl => ?_)
                        refine r_inc (lv' := [(0, .ref (q 0)), (1, .int (iI ((i_ : Nat) : Int))), (2, .int (iI ((j_ : Nat) : Int))), (3, .int (iI ((M 2 ((28 + j_)) : Nat) : Int))), (4, .int (iI (x))), (5, .int (iI ((way : Nat) : Int))), (6, .int (iI ((Bool.toNat (false) : Nat) : Int))), (7, .int (iI (((u + 1) : Nat) : Int))), (8, .int (iI (((k + 1) : Nat) : Int)))]) F hl 8 rfl dX4_handed_122 1 rfl (by decide) [1, 2, 3, 4, 5, 6, 7, 8, 0] rfl (fun ls hl => ?_)
                        refine r_goto 52 F dX4_handed_125 (by decide) ?_
                        exact ih_10 (false) ((u + 1)) ((k + 1)) ls (by omega) (by have h_ := hJ; rw [lpR_step (by omega)] at h_; refine Eq.trans ?_ h_; exact congrArg (lpR (hdB (M 2) i_ j_ way) (M 2 (28 + j_)) (k + 1)) (Prod.ext (by show _ = (b && sp_has (M 2) i_ (way / 2 ^ k &&& 1) j_ k); first | rfl | (simp only [c_1, c_2, c_16, if_true, if_false, Bool.and_true, Bool.true_and, Bool.and_false, Bool.false_and, Bool.and_self, Bool.false_eq_true, ↓reduceIte, decide_true, decide_false, Int.toNat_natCast, Bool.toNat_true, Bool.toNat_false]; done)) (by show _ = u + (if 0 < k ∧ ¬ (way / 2 ^ k &&& 1) = (way / 2 ^ (k - 1) &&& 1) then 1 else 0); split <;> omega))) (by omega) (by omega) hl
                  · refine r_aln F hl 0 rfl dX4_handed_63 rfl ?_
                    refine r_iln F hl 1 rfl dX4_handed_64 rfl ?_
                    refine r_il F hl 5 rfl dX4_handed_65 ?_
                    refine r_il F hl 8 rfl dX4_handed_67 ?_
                    refine r_shr F dX4_handed_69 ⟨by omega, by omega⟩ ?_
                    have b_23 : (way / 2 ^ k) ≤ way := Nat.div_le_self _ _
                    refine r_ic F 1 dX4_handed_70 rfl ?_
                    refine r_and F dX4_handed_71 ?_
                    have b_24 : ((way / 2 ^ k) &&& 1) ≤ 1 := Nat.and_le_right
                    refine r_iln F hl 2 rfl dX4_handed_72 rfl ?_
                    refine r_il F hl 8 rfl dX4_handed_73 ?_
                    refine r_cq F P (k_X4_has l D cI cB (q) (M) (i_) (((way / 2 ^ k) &&& 1)) (j_) (k) (by omega) hbk hst) gw_X4_119 [0, 1, 2, 3, 4, 5, 6, 7, 8, 9, 10] rfl rfl rfl ⟨⟨rfl, rfl⟩, Nat.le_of_ble_eq_true rfl, Nat.le_of_ble_eq_true rfl⟩ ⟨Nat.le_of_ble_eq_true rfl, Nat.le_of_ble_eq_true rfl⟩ hl.1 rfl [] rfl (Nat.le_of_ble_eq_true rfl) dX4_handed_75 ?_
                    refine r_zeqb 85 F dX4_handed_78 (by decide) (fun c_25 => ?_) (fun c_25 => ?_)
                    · refine r_icb F false dX4_handed_85 rfl ?_
                      refine r_is (lv' := [(0, .ref (q 0)), (1, .int (iI ((i_ : Nat) : Int))), (2, .int (iI ((j_ : Nat) : Int))), (3, .int (iI ((M 2 ((28 + j_)) : Nat) : Int))), (4, .int (iI (x))), (5, .int (iI ((way : Nat) : Int))), (6, .int (iI ((Bool.toNat (false) : Nat) : Int))), (7, .int (iI ((u : Nat) : Int))), (8, .int (iI ((k : Nat) : Int)))]) F hl dX4_handed_86 (by decide) [1, 2, 3, 4, 5, 6, 0, 7, 8] rfl (fun ls hl => ?_)
                      refine r_il F hl 7 rfl dX4_handed_88 ?_
                      refine r_il F hl 8 rfl dX4_handed_90 ?_
                      refine r_zle 118 F dX4_handed_92 (by decide) (by omega) (fun c_26 => ?_) (fun c_26 => ?_)
                      · refine r_ic F 0 dX4_handed_118 rfl ?_
                        refine r_add F dX4_handed_119 ?_
                        refine r_is (lv' := [(0, .ref (q 0)), (1, .int (iI ((i_ : Nat) : Int))), (2, .int (iI ((j_ : Nat) : Int))), (3, .int (iI ((M 2 ((28 + j_)) : Nat) : Int))), (4, .int (iI (x))), (5, .int (iI ((way : Nat) : Int))), (6, .int (iI ((Bool.toNat (false) : Nat) : Int))), (7, .int (iI (((u + 0) : Nat) : Int))), (8, .int (iI ((k : Nat) : Int)))]) F hl dX4_handed_120 (by decide) [1, 2, 3, 4, 5, 6, 7, 0, 8] rfl (fun ls hl => ?_)
                        refine r_inc (lv' := [(0, .ref (q 0)), (1, .int (iI ((i_ : Nat) : Int))), (2, .int (iI ((j_ : Nat) : Int))), (3, .int (iI ((M 2 ((28 + j_)) : Nat) : Int))), (4, .int (iI (x))), (5, .int (iI ((way : Nat) : Int))), (6, .int (iI ((Bool.toNat (false) : Nat) : Int))), (7, .int (iI (((u + 0) : Nat) : Int))), (8, .int (iI (((k + 1) : Nat) : Int)))]) F hl 8 rfl dX4_handed_122 1 rfl (by decide) [1, 2, 3, 4, 5, 6, 7, 8, 0] rfl (fun ls hl => ?_)
                        refine r_goto 52 F dX4_handed_125 (by decide) ?_
                        exact ih_10 (false) ((u + 0)) ((k + 1)) ls (by omega) (by have h_ := hJ; rw [lpR_step (by omega)] at h_; refine Eq.trans ?_ h_; exact congrArg (lpR (hdB (M 2) i_ j_ way) (M 2 (28 + j_)) (k + 1)) (Prod.ext (by show _ = (b && sp_has (M 2) i_ (way / 2 ^ k &&& 1) j_ k); first | rfl | (simp only [c_1, c_2, c_16, c_25, if_true, if_false, Bool.and_true, Bool.true_and, Bool.and_false, Bool.false_and, Bool.and_self, Bool.false_eq_true, ↓reduceIte, decide_true, decide_false, Int.toNat_natCast, Bool.toNat_true, Bool.toNat_false]; done)) (by show _ = u + (if 0 < k ∧ ¬ (way / 2 ^ k &&& 1) = (way / 2 ^ (k - 1) &&& 1) then 1 else 0); split <;> omega))) (by omega) (by omega) hl
                      · refine r_il F hl 5 rfl dX4_handed_95 ?_
                        refine r_il F hl 8 rfl dX4_handed_97 ?_
                        refine r_shr F dX4_handed_99 ⟨by omega, by omega⟩ ?_
                        have b_27 : (way / 2 ^ k) ≤ way := Nat.div_le_self _ _
                        refine r_ic F 1 dX4_handed_100 rfl ?_
                        refine r_and F dX4_handed_101 ?_
                        have b_28 : ((way / 2 ^ k) &&& 1) ≤ 1 := Nat.and_le_right
                        refine r_il F hl 5 rfl dX4_handed_102 ?_
                        refine r_il F hl 8 rfl dX4_handed_104 ?_
                        refine r_ic F 1 dX4_handed_106 rfl ?_
                        refine r_sub F dX4_handed_107 (by omega) ?_
                        refine r_shr F dX4_handed_108 ⟨by omega, by omega⟩ ?_
                        have b_29 : (way / 2 ^ (k - 1)) ≤ way := Nat.div_le_self _ _
                        refine r_ic F 1 dX4_handed_109 rfl ?_
                        refine r_and F dX4_handed_110 ?_
                        have b_30 : ((way / 2 ^ (k - 1)) &&& 1) ≤ 1 := Nat.and_le_right
                        refine r_ceq 118 F dX4_handed_111 (by decide) (by omega) (fun c_31 => ?_) (fun c_31 => ?_)
                        · refine r_ic F 0 dX4_handed_118 rfl ?_
                          refine r_add F dX4_handed_119 ?_
                          refine r_is (lv' := [(0, .ref (q 0)), (1, .int (iI ((i_ : Nat) : Int))), (2, .int (iI ((j_ : Nat) : Int))), (3, .int (iI ((M 2 ((28 + j_)) : Nat) : Int))), (4, .int (iI (x))), (5, .int (iI ((way : Nat) : Int))), (6, .int (iI ((Bool.toNat (false) : Nat) : Int))), (7, .int (iI (((u + 0) : Nat) : Int))), (8, .int (iI ((k : Nat) : Int)))]) F hl dX4_handed_120 (by decide) [1, 2, 3, 4, 5, 6, 7, 0, 8] rfl (fun ls hl => ?_)
                          refine r_inc (lv' := [(0, .ref (q 0)), (1, .int (iI ((i_ : Nat) : Int))), (2, .int (iI ((j_ : Nat) : Int))), (3, .int (iI ((M 2 ((28 + j_)) : Nat) : Int))), (4, .int (iI (x))), (5, .int (iI ((way : Nat) : Int))), (6, .int (iI ((Bool.toNat (false) : Nat) : Int))), (7, .int (iI (((u + 0) : Nat) : Int))), (8, .int (iI (((k + 1) : Nat) : Int)))]) F hl 8 rfl dX4_handed_122 1 rfl (by decide) [1, 2, 3, 4, 5, 6, 7, 8, 0] rfl (fun ls hl => ?_)
                          refine r_goto 52 F dX4_handed_125 (by decide) ?_
                          exact ih_10 (false) ((u + 0)) ((k + 1)) ls (by omega) (by have h_ := hJ; rw [lpR_step (by omega)] at h_; refine Eq.trans ?_ h_; exact congrArg (lpR (hdB (M 2) i_ j_ way) (M 2 (28 + j_)) (k + 1)) (Prod.ext (by show _ = (b && sp_has (M 2) i_ (way / 2 ^ k &&& 1) j_ k); first | rfl | (simp only [c_1, c_2, c_16, c_25, if_true, if_false, Bool.and_true, Bool.true_and, Bool.and_false, Bool.false_and, Bool.and_self, Bool.false_eq_true, ↓reduceIte, decide_true, decide_false, Int.toNat_natCast, Bool.toNat_true, Bool.toNat_false]; done)) (by show _ = u + (if 0 < k ∧ ¬ (way / 2 ^ k &&& 1) = (way / 2 ^ (k - 1) &&& 1) then 1 else 0); split <;> omega))) (by omega) (by omega) hl
                        · refine r_ic F 1 dX4_handed_114 rfl ?_
                          refine r_goto 119 F dX4_handed_115 (by decide) ?_
                          refine r_add F dX4_handed_119 ?_
                          refine r_is (lv' := [(0, .ref (q 0)), (1, .int (iI ((i_ : Nat) : Int))), (2, .int (iI ((j_ : Nat) : Int))), (3, .int (iI ((M 2 ((28 + j_)) : Nat) : Int))), (4, .int (iI (x))), (5, .int (iI ((way : Nat) : Int))), (6, .int (iI ((Bool.toNat (false) : Nat) : Int))), (7, .int (iI (((u + 1) : Nat) : Int))), (8, .int (iI ((k : Nat) : Int)))]) F hl dX4_handed_120 (by decide) [1, 2, 3, 4, 5, 6, 7, 0, 8] rfl (fun ls hl => ?_)
                          refine r_inc (lv' := [(0, .ref (q 0)), (1, .int (iI ((i_ : Nat) : Int))), (2, .int (iI ((j_ : Nat) : Int))), (3, .int (iI ((M 2 ((28 + j_)) : Nat) : Int))), (4, .int (iI (x))), (5, .int (iI ((way : Nat) : Int))), (6, .int (iI ((Bool.toNat (false) : Nat) : Int))), (7, .int (iI (((u + 1) : Nat) : Int))), (8, .int (iI (((k + 1) : Nat) : Int)))]) F hl 8 rfl dX4_handed_122 1 rfl (by decide) [1, 2, 3, 4, 5, 6, 7, 8, 0] rfl (fun ls hl => ?_)
                          refine r_goto 52 F dX4_handed_125 (by decide) ?_
                          exact ih_10 (false) ((u + 1)) ((k + 1)) ls (by omega) (by have h_ := hJ; rw [lpR_step (by omega)] at h_; refine Eq.trans ?_ h_; exact congrArg (lpR (hdB (M 2) i_ j_ way) (M 2 (28 + j_)) (k + 1)) (Prod.ext (by show _ = (b && sp_has (M 2) i_ (way / 2 ^ k &&& 1) j_ k); first | rfl | (simp only [c_1, c_2, c_16, c_25, if_true, if_false, Bool.and_true, Bool.true_and, Bool.and_false, Bool.false_and, Bool.and_self, Bool.false_eq_true, ↓reduceIte, decide_true, decide_false, Int.toNat_natCast, Bool.toNat_true, Bool.toNat_false]; done)) (by show _ = u + (if 0 < k ∧ ¬ (way / 2 ^ k &&& 1) = (way / 2 ^ (k - 1) &&& 1) then 1 else 0); split <;> omega))) (by omega) (by omega) hl
                    · refine r_icb F true dX4_handed_81 rfl ?_
                      refine r_goto 86 F dX4_handed_82 (by decide) ?_
                      refine r_is (lv' := [(0, .ref (q 0)), (1, .int (iI ((i_ : Nat) : Int))), (2, .int (iI ((j_ : Nat) : Int))), (3, .int (iI ((M 2 ((28 + j_)) : Nat) : Int))), (4, .int (iI (x))), (5, .int (iI ((way : Nat) : Int))), (6, .int (iI ((Bool.toNat (true) : Nat) : Int))), (7, .int (iI ((u : Nat) : Int))), (8, .int (iI ((k : Nat) : Int)))]) F hl dX4_handed_86 (by decide) [1, 2, 3, 4, 5, 6, 0, 7, 8] rfl (fun ls hl => ?_)
                      refine r_il F hl 7 rfl dX4_handed_88 ?_
                      refine r_il F hl 8 rfl dX4_handed_90 ?_
                      refine r_zle 118 F dX4_handed_92 (by decide) (by omega) (fun c_32 => ?_) (fun c_32 => ?_)
                      · refine r_ic F 0 dX4_handed_118 rfl ?_
                        refine r_add F dX4_handed_119 ?_
                        refine r_is (lv' := [(0, .ref (q 0)), (1, .int (iI ((i_ : Nat) : Int))), (2, .int (iI ((j_ : Nat) : Int))), (3, .int (iI ((M 2 ((28 + j_)) : Nat) : Int))), (4, .int (iI (x))), (5, .int (iI ((way : Nat) : Int))), (6, .int (iI ((Bool.toNat (true) : Nat) : Int))), (7, .int (iI (((u + 0) : Nat) : Int))), (8, .int (iI ((k : Nat) : Int)))]) F hl dX4_handed_120 (by decide) [1, 2, 3, 4, 5, 6, 7, 0, 8] rfl (fun ls hl => ?_)
                        refine r_inc (lv' := [(0, .ref (q 0)), (1, .int (iI ((i_ : Nat) : Int))), (2, .int (iI ((j_ : Nat) : Int))), (3, .int (iI ((M 2 ((28 + j_)) : Nat) : Int))), (4, .int (iI (x))), (5, .int (iI ((way : Nat) : Int))), (6, .int (iI ((Bool.toNat (true) : Nat) : Int))), (7, .int (iI (((u + 0) : Nat) : Int))), (8, .int (iI (((k + 1) : Nat) : Int)))]) F hl 8 rfl dX4_handed_122 1 rfl (by decide) [1, 2, 3, 4, 5, 6, 7, 8, 0] rfl (fun ls hl => ?_)
                        refine r_goto 52 F dX4_handed_125 (by decide) ?_
                        exact ih_10 (true) ((u + 0)) ((k + 1)) ls (by omega) (by have h_ := hJ; rw [lpR_step (by omega)] at h_; refine Eq.trans ?_ h_; exact congrArg (lpR (hdB (M 2) i_ j_ way) (M 2 (28 + j_)) (k + 1)) (Prod.ext (by show _ = (b && sp_has (M 2) i_ (way / 2 ^ k &&& 1) j_ k); first | rfl | (simp only [c_1, c_2, c_16, c_25, if_true, if_false, Bool.and_true, Bool.true_and, Bool.and_false, Bool.false_and, Bool.and_self, Bool.false_eq_true, ↓reduceIte, decide_true, decide_false, Int.toNat_natCast, Bool.toNat_true, Bool.toNat_false]; done)) (by show _ = u + (if 0 < k ∧ ¬ (way / 2 ^ k &&& 1) = (way / 2 ^ (k - 1) &&& 1) then 1 else 0); split <;> omega))) (by omega) (by omega) hl
                      · refine r_il F hl 5 rfl dX4_handed_95 ?_
                        refine r_il F hl 8 rfl dX4_handed_97 ?_
                        refine r_shr F dX4_handed_99 ⟨by omega, by omega⟩ ?_
                        have b_33 : (way / 2 ^ k) ≤ way := Nat.div_le_self _ _
                        refine r_ic F 1 dX4_handed_100 rfl ?_
                        refine r_and F dX4_handed_101 ?_
                        have b_34 : ((way / 2 ^ k) &&& 1) ≤ 1 := Nat.and_le_right
                        refine r_il F hl 5 rfl dX4_handed_102 ?_
                        refine r_il F hl 8 rfl dX4_handed_104 ?_
                        refine r_ic F 1 dX4_handed_106 rfl ?_
                        refine r_sub F dX4_handed_107 (by omega) ?_
                        refine r_shr F dX4_handed_108 ⟨by omega, by omega⟩ ?_
                        have b_35 : (way / 2 ^ (k - 1)) ≤ way := Nat.div_le_self _ _
                        refine r_ic F 1 dX4_handed_109 rfl ?_
                        refine r_and F dX4_handed_110 ?_
                        have b_36 : ((way / 2 ^ (k - 1)) &&& 1) ≤ 1 := Nat.and_le_right
                        refine r_ceq 118 F dX4_handed_111 (by decide) (by omega) (fun c_37 => ?_) (fun c_37 => ?_)
                        · refine r_ic F 0 dX4_handed_118 rfl ?_
                          refine r_add F dX4_handed_119 ?_
                          refine r_is (lv' := [(0, .ref (q 0)), (1, .int (iI ((i_ : Nat) : Int))), (2, .int (iI ((j_ : Nat) : Int))), (3, .int (iI ((M 2 ((28 + j_)) : Nat) : Int))), (4, .int (iI (x))), (5, .int (iI ((way : Nat) : Int))), (6, .int (iI ((Bool.toNat (true) : Nat) : Int))), (7, .int (iI (((u + 0) : Nat) : Int))), (8, .int (iI ((k : Nat) : Int)))]) F hl dX4_handed_120 (by decide) [1, 2, 3, 4, 5, 6, 7, 0, 8] rfl (fun ls hl => ?_)
                          refine r_inc (lv' := [(0, .ref (q 0)), (1, .int (iI ((i_ : Nat) : Int))), (2, .int (iI ((j_ : Nat) : Int))), (3, .int (iI ((M 2 ((28 + j_)) : Nat) : Int))), (4, .int (iI (x))), (5, .int (iI ((way : Nat) : Int))), (6, .int (iI ((Bool.toNat (true) : Nat) : Int))), (7, .int (iI (((u + 0) : Nat) : Int))), (8, .int (iI (((k + 1) : Nat) : Int)))]) F hl 8 rfl dX4_handed_122 1 rfl (by decide) [1, 2, 3, 4, 5, 6, 7, 8, 0] rfl (fun ls hl => ?_)
                          refine r_goto 52 F dX4_handed_125 (by decide) ?_
                          exact ih_10 (true) ((u + 0)) ((k + 1)) ls (by omega) (by have h_ := hJ; rw [lpR_step (by omega)] at h_; refine Eq.trans ?_ h_; exact congrArg (lpR (hdB (M 2) i_ j_ way) (M 2 (28 + j_)) (k + 1)) (Prod.ext (by show _ = (b && sp_has (M 2) i_ (way / 2 ^ k &&& 1) j_ k); first | rfl | (simp only [c_1, c_2, c_16, c_25, if_true, if_false, Bool.and_true, Bool.true_and, Bool.and_false, Bool.false_and, Bool.and_self, Bool.false_eq_true, ↓reduceIte, decide_true, decide_false, Int.toNat_natCast, Bool.toNat_true, Bool.toNat_false]; done)) (by show _ = u + (if 0 < k ∧ ¬ (way / 2 ^ k &&& 1) = (way / 2 ^ (k - 1) &&& 1) then 1 else 0); split <;> omega))) (by omega) (by omega) hl
                        · refine r_ic F 1 dX4_handed_114 rfl ?_
                          refine r_goto 119 F dX4_handed_115 (by decide) ?_
                          refine r_add F dX4_handed_119 ?_
                          refine r_is (lv' := [(0, .ref (q 0)), (1, .int (iI ((i_ : Nat) : Int))), (2, .int (iI ((j_ : Nat) : Int))), (3, .int (iI ((M 2 ((28 + j_)) : Nat) : Int))), (4, .int (iI (x))), (5, .int (iI ((way : Nat) : Int))), (6, .int (iI ((Bool.toNat (true) : Nat) : Int))), (7, .int (iI (((u + 1) : Nat) : Int))), (8, .int (iI ((k : Nat) : Int)))]) F hl dX4_handed_120 (by decide) [1, 2, 3, 4, 5, 6, 7, 0, 8] rfl (fun ls hl => ?_)
                          refine r_inc (lv' := [(0, .ref (q 0)), (1, .int (iI ((i_ : Nat) : Int))), (2, .int (iI ((j_ : Nat) : Int))), (3, .int (iI ((M 2 ((28 + j_)) : Nat) : Int))), (4, .int (iI (x))), (5, .int (iI ((way : Nat) : Int))), (6, .int (iI ((Bool.toNat (true) : Nat) : Int))), (7, .int (iI (((u + 1) : Nat) : Int))), (8, .int (iI (((k + 1) : Nat) : Int)))]) F hl 8 rfl dX4_handed_122 1 rfl (by decide) [1, 2, 3, 4, 5, 6, 7, 8, 0] rfl (fun ls hl => ?_)
                          refine r_goto 52 F dX4_handed_125 (by decide) ?_
                          exact ih_10 (true) ((u + 1)) ((k + 1)) ls (by omega) (by have h_ := hJ; rw [lpR_step (by omega)] at h_; refine Eq.trans ?_ h_; exact congrArg (lpR (hdB (M 2) i_ j_ way) (M 2 (28 + j_)) (k + 1)) (Prod.ext (by show _ = (b && sp_has (M 2) i_ (way / 2 ^ k &&& 1) j_ k); first | rfl | (simp only [c_1, c_2, c_16, c_25, if_true, if_false, Bool.and_true, Bool.true_and, Bool.and_false, Bool.false_and, Bool.and_self, Bool.false_eq_true, ↓reduceIte, decide_true, decide_false, Int.toNat_natCast, Bool.toNat_true, Bool.toNat_false]; done)) (by show _ = u + (if 0 < k ∧ ¬ (way / 2 ^ k &&& 1) = (way / 2 ^ (k - 1) &&& 1) then 1 else 0); split <;> omega))) (by omega) (by omega) hl
            exact lp_9 _ (true) (0) (0) ls (Nat.lt_succ_self _) rfl (by omega) (by omega) hl
      exact lp_4 _ (0) (-4) ls (Nat.lt_succ_self _) rfl (by omega) (by omega) hl
    · have c_2d := c_2
      simp only [isIn, isP, decide_eq_true_eq, decide_eq_false_iff_not] at c_2d
      refine r_icz F (-1) dX4_handed_16 rfl ?_
      exact r_retQ F hr hlk hH dX4_handed_17 (by first | rfl | (simp only [g_handed, vDone, c_1, c_2, if_true, if_false, Bool.and_true, Bool.true_and, Bool.and_false, Bool.false_and, Bool.and_self, Bool.false_eq_true, ↓reduceIte, decide_true, decide_false, Int.toNat_natCast, Bool.toNat_true, Bool.toNat_false]; first | done | rfl | (simp only [if_true, if_true, if_false, Bool.and_true, Bool.true_and, Bool.and_false, Bool.false_and, Bool.and_self, Bool.false_eq_true, ↓reduceIte, decide_true, decide_false, Int.toNat_natCast, Bool.toNat_true, Bool.toNat_false]; first | done | rfl) | (simp only [if_true]; first | done | rfl) | (simp [if_true]; done) | (simp [if_true]; first | rfl | omega)) | (simp [g_handed, vDone, c_1, c_2]; done) | (simp [g_handed, vDone, c_1, c_2]; omega) | (simp only [g_handed, vDone, c_1, c_2, if_true, if_false, Bool.and_true, Bool.true_and, Bool.and_false, Bool.false_and, Bool.and_self, Bool.false_eq_true, ↓reduceIte, decide_true, decide_false, Int.toNat_natCast, Bool.toNat_true, Bool.toNat_false]; try simp only [if_true, if_true, if_false, Bool.and_true, Bool.true_and, Bool.and_false, Bool.false_and, Bool.and_self, Bool.false_eq_true, ↓reduceIte, decide_true, decide_false, Int.toNat_natCast, Bool.toNat_true, Bool.toNat_false]; rfl))
abbrev rm_X4_finds : Room := { frames := 2, cells := 0, slots := 0, locals := 48 }
set_option maxHeartbeats 4000000 in
set_option maxRecDepth 100000 in
theorem k_X4_finds (l : Launch) (D : va_G) (cI cB : ClassId) (q : Nat → Nat) (M : St) (hp : 1 ≤ M 2 0 ∧ M 2 0 ≤ 5) (hbk : ∀ k, M 2 k < 256) (h11 : M 11 0 ≤ 10) (hds : ∀ k, M 8 k < 41) (hdf : ∀ k, M 9 k < 256) (hcn : ∀ k, M 10 k < 32) (ha : ∀ k, M 5 k < 65536) : CtV l yX4_finds cX4_finds 3 rm_X4_finds D cI cB [.ref (q 0)] (wM q cI M) (wM q cI (stR (stR M 10 ((finR M).1)) 5 ((finR M).2))) := by
  refine CtV.of RX4 (by decide) rfl (Nat.le_of_ble_eq_true rfl) ?_
  intro p e s m args below meth c H0 ls A hH hA F hr hlk B hl
  have hl : lv_has ls 3 [(0, .ref (q 0))] := hl
  refine r_ic F 0 dX4_finds_0 rfl ?_
  refine r_isn (lv' := [(0, .ref (q 0)), (1, .int (iI ((0 : Nat) : Int)))]) F hl dX4_finds_1 rfl (by decide) [1, 0] rfl (fun ls hl => ?_)
  have lp_1 : ∀ (nn_ : Nat) (k : Nat) (g : Nat → Nat) (f : Nat → Nat) (H : Heap) (locs : List Loc) (ls : Array Slot), M 11 0 - k < nn_ → (lpR (fdB (M 2) (M 8) (M 9)) (M 11 0) k (g, f) = finR M) → (∀ k, f k < 65536) → (∀ k, g k < 32) → (k ≤ M 11 0) → Bx D A H0 (wM q cI (stR (stR M 10 (g)) 5 (f))) H locs → lv_has ls 3 [(0, .ref (q 0)), (1, .int (iI ((k : Nat) : Int)))] → W p l e rm_X4_finds s m args below meth c H locs 0 0 (Qw below args s D (wM q cI (stR (stR M 10 ((finR M).1)) 5 ((finR M).2))) A) (F0 m 2 ls []) := by
    intro nn_
    induction nn_ with
    | zero => intro k g f H locs ls hlt; exact absurd hlt (Nat.not_lt_zero _)
    | succ nn_ ih =>
      have ih_2 := ih; clear ih
      intro k g f H locs ls hlt hI hf hg hk B hl
      have hlt_3 := hlt
      refine r_iln F hl 1 rfl dX4_finds_2 rfl ?_
      refine r_aln F hl 0 rfl dX4_finds_3 rfl ?_
      refine gf_X4_93 F B.1 0 rfl (.int (iI ((M 11 0 : Nat) : Int))) rfl dX4_finds_4 ?_
      refine r_cge 99 F dX4_finds_7 (by decide) (by omega) (fun c_4 => ?_) (fun c_4 => ?_)
      · exact r_retV F hr hlk hH B dX4_finds_99 (by rw [show finR M = (g, f) from by rw [← hI, lpR_end (by omega)]])
      · refine r_ic F 0 dX4_finds_10 rfl ?_
        refine r_isn (lv' := [(0, .ref (q 0)), (1, .int (iI ((k : Nat) : Int))), (2, .int (iI ((0 : Nat) : Int)))]) F hl dX4_finds_11 rfl (by decide) [1, 2, 0] rfl (fun ls hl => ?_)
        have lp_5 : ∀ (nn_ : Nat) (c2 : Nat) (f1 : Nat → Nat) (H : Heap) (locs : List Loc) (ls : Array Slot), 16 - c2 < nn_ → (lpR (stB (M 2)) 16 c2 f1 = sp_start (M 2) f) → (∀ k, f1 k < 65536) → (c2 ≤ 16) → Bx D A H0 (wM q cI (stR (stR M 10 (g)) 5 (f1))) H locs → lv_has ls 3 [(0, .ref (q 0)), (1, .int (iI ((k : Nat) : Int))), (2, .int (iI ((c2 : Nat) : Int)))] → W p l e rm_X4_finds s m args below meth c H locs 0 0 (Qw below args s D (wM q cI (stR (stR M 10 ((finR M).1)) 5 ((finR M).2))) A) (F0 m 12 ls []) := by
          intro nn_
          induction nn_ with
          | zero => intro c2 f1 H locs ls hlt; exact absurd hlt (Nat.not_lt_zero _)
          | succ nn_ ih =>
            have ih_6 := ih; clear ih
            intro c2 f1 H locs ls hlt hJ hf1 hk1 B hl
            have hlt_7 := hlt
            refine r_iln F hl 2 rfl dX4_finds_12 rfl ?_
            refine r_bp F 16 dX4_finds_13 rfl ?_
            refine r_cge 55 F dX4_finds_15 (by decide) (by omega) (fun c_8 => ?_) (fun c_8 => ?_)
            · obtain rfl : f1 = sp_start (M 2) f := by rw [← hJ, lpR_end (by omega)]
              refine r_ic F 0 dX4_finds_55 rfl ?_
              refine r_isn (lv' := [(0, .ref (q 0)), (1, .int (iI ((k : Nat) : Int))), (2, .int (iI ((0 : Nat) : Int)))]) F hl dX4_finds_56 rfl (by decide) [1, 2, 0] rfl (fun ls hl => ?_)
              have lp_9 : ∀ (nn_ : Nat) (t2 : Nat) (f2 : Nat → Nat) (H : Heap) (locs : List Loc) (ls : Array Slot), M 8 k - t2 < nn_ → (lpR (fun _ => sp_ends (M 2)) (M 8 k) t2 f2 = sp_fah (M 2) f (M 8 k)) → (∀ k, f2 k < 65536) → (f2 0 = t2) → (t2 ≤ M 8 k) → Bx D A H0 (wM q cI (stR (stR M 10 (g)) 5 (f2))) H locs → lv_has ls 3 [(0, .ref (q 0)), (1, .int (iI ((k : Nat) : Int))), (2, .int (iI ((t2 : Nat) : Int)))] → W p l e rm_X4_finds s m args below meth c H locs 0 0 (Qw below args s D (wM q cI (stR (stR M 10 ((finR M).1)) 5 ((finR M).2))) A) (F0 m 57 ls []) := by
                intro nn_
                induction nn_ with
                | zero => intro t2 f2 H locs ls hlt; exact absurd hlt (Nat.not_lt_zero _)
                | succ nn_ ih =>
                  have ih_10 := ih; clear ih
                  intro t2 f2 H locs ls hlt hK hf2 h02 hk2 B hl
                  have hlt_11 := hlt
                  refine r_iln F hl 2 rfl dX4_finds_57 rfl ?_
                  refine r_aln F hl 0 rfl dX4_finds_58 rfl ?_
                  refine gf_X4_28 F B.1 0 rfl (.ref (q 9)) rfl dX4_finds_59 ?_
                  refine r_iln F hl 1 rfl dX4_finds_62 rfl ?_
                  refine r_ald (f := M 8) F B.1 7 rfl dX4_finds_63 (by decide) (by omega) ?_
                  have b_12 : M 8 (k) < 41 := hds (k)
                  refine r_cge 77 F dX4_finds_64 (by decide) (by omega) (fun c_13 => ?_) (fun c_13 => ?_)
                  · obtain rfl : f2 = sp_fah (M 2) f (M 8 k) := by rw [← hK, lpR_end (by omega)]
                    refine r_aln F hl 0 rfl dX4_finds_77 rfl ?_
                    refine gf_X4_34 F B.1 0 rfl (.ref (q 11)) rfl dX4_finds_78 ?_
                    refine r_iln F hl 1 rfl dX4_finds_81 rfl ?_
                    refine r_aln F hl 0 rfl dX4_finds_82 rfl ?_
                    refine r_aln F hl 0 rfl dX4_finds_83 rfl ?_
                    refine gf_X4_31 F B.1 0 rfl (.ref (q 10)) rfl dX4_finds_84 ?_
                    refine r_iln F hl 1 rfl dX4_finds_87 rfl ?_
                    refine r_ald (f := M 9) F B.1 8 rfl dX4_finds_88 (by decide) (by omega) ?_
                    have b_14 : M 9 (k) < 256 := hdf (k)
                    refine r_cq F B.1 (k_X4_whoKnow l D cI cB (q) ((stR (stR M 10 (g)) 5 ((sp_fah (M 2) f (M 8 k))))) (M 9 (k)) (by omega) hp hbk hf2) gw_X4_129 [0, 1, 2, 3, 4, 5, 6, 7, 8, 9, 10] rfl rfl rfl ⟨⟨rfl, rfl⟩, Nat.le_of_ble_eq_true rfl, Nat.le_of_ble_eq_true rfl⟩ ⟨Nat.le_of_ble_eq_true rfl, Nat.le_of_ble_eq_true rfl⟩ hl.1 rfl [.int (iI ((k : Nat) : Int)), .ref (q 11)] rfl (Nat.le_of_ble_eq_true rfl) dX4_finds_89 ?_
                    have hq_ := @who_lt ((M 2) 0) (M 9 (k)) ((sp_fah (M 2) f (M 8 k))) (by omega)
                    have hb_15 : ∀ j_, upN (g) (k) (sp_who ((M 2) 0) (M 9 (k)) ((sp_fah (M 2) f (M 8 k)))) j_ < 32 := upN_lt hg (by omega)
                    refine r_ast (f := g) F B 9 (wM q cI (stR (stR M 10 (upN (g) (k) (sp_who ((M 2) 0) (M 9 (k)) ((sp_fah (M 2) f (M 8 k)))))) 5 ((sp_fah (M 2) f (M 8 k))))) rfl dX4_finds_92 (by decide) (by omega) rfl (fun H locs B => ?_)
                    refine r_inc (lv' := [(0, .ref (q 0)), (1, .int (iI (((k + 1) : Nat) : Int))), (2, .int (iI ((t2 : Nat) : Int)))]) F hl 1 rfl dX4_finds_93 1 rfl (by decide) [1, 0, 2] rfl (fun ls hl => ?_)
                    refine r_goto 2 F dX4_finds_96 (by decide) ?_
                    exact ih_2 ((k + 1)) (upN (g) (k) (sp_who ((M 2) 0) (M 9 (k)) ((sp_fah (M 2) f (M 8 k))))) ((sp_fah (M 2) f (M 8 k))) _ _ ls (by omega) (by have h_ := hI; rw [lpR_step (by omega)] at h_; refine Eq.trans ?_ h_; first | rfl | (simp only [fdB, c_4, (Nat.not_le.mpr c_4), c_8, (Nat.not_lt.mp c_8), c_13, (Nat.not_lt.mp c_13), if_true, if_false, Bool.and_true, Bool.true_and, Bool.and_false, Bool.false_and, Bool.and_self, Bool.false_eq_true, ↓reduceIte, decide_true, decide_false, Int.toNat_natCast, Bool.toNat_true, Bool.toNat_false]; done) | (simp [fdB, c_4, (Nat.not_le.mpr c_4), c_8, (Nat.not_lt.mp c_8), c_13, (Nat.not_lt.mp c_13)]; done)) hf2 hb_15 (by omega) B (lv_sub hl [0, 1] rfl)
                  · refine r_aln F hl 0 rfl dX4_finds_67 rfl ?_
                    refine r_cvW F hA B (k_X4_ends l D cI cB (q) ((stR (stR M 10 (g)) 5 (f2)))  hp hbk hf2 (show (f2) 0 < 65535 from by omega)) gw_X4_112 rfl rfl ⟨⟨rfl, rfl⟩, Nat.le_of_ble_eq_true rfl, Nat.le_of_ble_eq_true rfl⟩ ⟨Nat.le_of_ble_eq_true rfl, Nat.le_of_ble_eq_true rfl⟩ hl.1 rfl [] rfl (Nat.le_of_ble_eq_true rfl) dX4_finds_68 (fun H locs B => ?_)
                    have hb_16 : ∀ j_, (sp_ends (M 2) (f2)) j_ < 65536 := ends_lt hf2 (by omega)
                    have hq_ := @ends_0 (M 2) (f2)
                    refine r_inc (lv' := [(0, .ref (q 0)), (1, .int (iI ((k : Nat) : Int))), (2, .int (iI (((t2 + 1) : Nat) : Int)))]) F hl 2 rfl dX4_finds_71 1 rfl (by decide) [1, 2, 0] rfl (fun ls hl => ?_)
                    refine r_goto 57 F dX4_finds_74 (by decide) ?_
                    exact ih_10 ((t2 + 1)) (sp_ends (M 2) (f2)) _ _ ls (by omega) (by have h_ := hK; rw [lpR_step (by omega)] at h_; refine Eq.trans ?_ h_; first | rfl | (simp only [c_4, (Nat.not_le.mpr c_4), c_8, (Nat.not_lt.mp c_8), c_13, (Nat.not_le.mpr c_13), if_true, if_false, Bool.and_true, Bool.true_and, Bool.and_false, Bool.false_and, Bool.and_self, Bool.false_eq_true, ↓reduceIte, decide_true, decide_false, Int.toNat_natCast, Bool.toNat_true, Bool.toNat_false]; done) | (simp [c_4, (Nat.not_le.mpr c_4), c_8, (Nat.not_lt.mp c_8), c_13, (Nat.not_le.mpr c_13)]; done)) hb_16 (by omega) (by omega) B hl
              exact lp_9 _ (0) ((sp_start (M 2) f)) _ _ ls (Nat.lt_succ_self _) rfl hf1 rfl (by omega) B hl
            · refine r_aln F hl 0 rfl dX4_finds_18 rfl ?_
              refine gf_X4_22 F B.1 0 rfl (.ref (q 6)) rfl dX4_finds_19 ?_
              refine r_iln F hl 2 rfl dX4_finds_22 rfl ?_
              refine r_iln F hl 2 rfl dX4_finds_23 rfl ?_
              refine r_ic F 1 dX4_finds_24 rfl ?_
              refine r_bp F 10 dX4_finds_25 rfl ?_
              refine r_sq F B.1 (k_X4_in l D cI cB (((c2 : Nat) : Int)) ((1 : Int)) ((10 : Int)) (by omega) (by omega) (by omega)) gw_X4_40 [] rfl ⟨⟨rfl, rfl⟩, Nat.le_of_ble_eq_true rfl, Nat.le_of_ble_eq_true rfl⟩ ⟨Nat.le_of_ble_eq_true rfl, Nat.le_of_ble_eq_true rfl⟩ hl.1 rfl [.int (iI ((c2 : Nat) : Int)), .ref (q 6)] rfl (Nat.le_of_ble_eq_true rfl) dX4_finds_27 ?_
              refine r_zeqb 47 F dX4_finds_30 (by decide) (fun c_17 => ?_) (fun c_17 => ?_)
              · have c_17d := c_17
                simp only [isIn, isP, decide_eq_true_eq, decide_eq_false_iff_not] at c_17d
                refine r_ic F 0 dX4_finds_47 rfl ?_
                have hb_18 : ∀ j_, upN (f1) (c2) (0) j_ < 65536 := upN_lt hf1 (by omega)
                refine r_ast (f := f1) F B 5 (wM q cI (stR (stR M 10 (g)) 5 (upN (f1) (c2) (0)))) rfl dX4_finds_48 (by decide) (by omega) rfl (fun H locs B => ?_)
                refine r_inc (lv' := [(0, .ref (q 0)), (1, .int (iI ((k : Nat) : Int))), (2, .int (iI (((c2 + 1) : Nat) : Int)))]) F hl 2 rfl dX4_finds_49 1 rfl (by decide) [1, 2, 0] rfl (fun ls hl => ?_)
                refine r_goto 12 F dX4_finds_52 (by decide) ?_
                exact ih_6 ((c2 + 1)) (upN (f1) (c2) (0)) _ _ ls (by omega) (by have h_ := hJ; rw [lpR_step (by omega)] at h_; refine Eq.trans ?_ h_; first | rfl | (simp only [stB, c_4, (Nat.not_le.mpr c_4), c_8, (Nat.not_le.mpr c_8), c_17, if_true, if_false, Bool.and_true, Bool.true_and, Bool.and_false, Bool.false_and, Bool.and_self, Bool.false_eq_true, ↓reduceIte, decide_true, decide_false, Int.toNat_natCast, Bool.toNat_true, Bool.toNat_false]; done) | (simp [stB, c_4, (Nat.not_le.mpr c_4), c_8, (Nat.not_le.mpr c_8), c_17]; done)) hb_18 (by omega) B hl
              · have c_17d := c_17
                simp only [isIn, isP, decide_eq_true_eq, decide_eq_false_iff_not] at c_17d
                refine r_aln F hl 0 rfl dX4_finds_33 rfl ?_
                refine gf_X4_13 F B.1 0 rfl (.ref (q 3)) rfl dX4_finds_34 ?_
                refine r_bp F 18 dX4_finds_37 rfl ?_
                refine r_iln F hl 2 rfl dX4_finds_39 rfl ?_
                refine r_add F dX4_finds_40 ?_
                refine r_ic F 1 dX4_finds_41 rfl ?_
                refine r_sub F dX4_finds_42 (by omega) ?_
                refine r_ald (f := M 2) F B.1 2 rfl dX4_finds_43 (by decide) (by omega) ?_
                have b_19 : M 2 (((18 + c2) - 1)) < 256 := hbk (((18 + c2) - 1))
                refine r_goto 48 F dX4_finds_44 (by decide) ?_
                have hb_20 : ∀ j_, upN (f1) (c2) (M 2 (((18 + c2) - 1))) j_ < 65536 := upN_lt hf1 (by omega)
                refine r_ast (f := f1) F B 5 (wM q cI (stR (stR M 10 (g)) 5 (upN (f1) (c2) (M 2 (((18 + c2) - 1)))))) rfl dX4_finds_48 (by decide) (by omega) rfl (fun H locs B => ?_)
                refine r_inc (lv' := [(0, .ref (q 0)), (1, .int (iI ((k : Nat) : Int))), (2, .int (iI (((c2 + 1) : Nat) : Int)))]) F hl 2 rfl dX4_finds_49 1 rfl (by decide) [1, 2, 0] rfl (fun ls hl => ?_)
                refine r_goto 12 F dX4_finds_52 (by decide) ?_
                exact ih_6 ((c2 + 1)) (upN (f1) (c2) (M 2 (((18 + c2) - 1)))) _ _ ls (by omega) (by have h_ := hJ; rw [lpR_step (by omega)] at h_; refine Eq.trans ?_ h_; first | rfl | (simp only [stB, c_4, (Nat.not_le.mpr c_4), c_8, (Nat.not_le.mpr c_8), c_17, if_true, if_false, Bool.and_true, Bool.true_and, Bool.and_false, Bool.false_and, Bool.and_self, Bool.false_eq_true, ↓reduceIte, decide_true, decide_false, Int.toNat_natCast, Bool.toNat_true, Bool.toNat_false]; done) | (simp [stB, c_4, (Nat.not_le.mpr c_4), c_8, (Nat.not_le.mpr c_8), c_17]; done)) hb_20 (by omega) B hl
        exact lp_5 _ (0) (f) _ _ ls (Nat.lt_succ_self _) rfl hf (by omega) B hl
  exact lp_1 _ (0) (M 10) (M 5) _ _ ls (Nat.lt_succ_self _) rfl ha hcn (by omega) B hl
abbrev rm_X4_fits : Room := { frames := 3, cells := 0, slots := 0, locals := 70 }
set_option maxHeartbeats 4000000 in
set_option maxRecDepth 100000 in
theorem k_X4_fits (l : Launch) (D : va_G) (cI cB : ClassId) (q : Nat → Nat) (M : St) (hp : 1 ≤ M 2 0 ∧ M 2 0 ≤ 5) (hbk : ∀ k, M 2 k < 256) (h11 : M 11 0 ≤ 10) (hds : ∀ k, M 8 k < 41) (hdf : ∀ k, M 9 k < 256) (hcn : ∀ k, M 10 k < 32) (ha : ∀ k, M 5 k < 65536) : CtU l yX4_fits cX4_fits 3 (some .int) rm_X4_fits D cI cB [.ref (q 0)] (wM q cI M) (wM q cI (stR (stR M 10 ((finR M).1)) 5 ((finR M).2))) ((iI ((sp_fits (M 2 0) (M 11 0) (finR M).1 : Nat) : Int))) := by
  refine CtU.of RX4 (by decide) rfl (Nat.le_of_ble_eq_true rfl) ?_
  intro p e s m args below meth c H0 ls A hH hA F hr hlk B hl
  have hl : lv_has ls 3 [(0, .ref (q 0))] := hl
  refine r_aln F hl 0 rfl dX4_fits_0 rfl ?_
  refine r_cvW F hA B (k_X4_finds l D cI cB (q) (M)  hp hbk h11 hds hdf hcn ha) gw_X4_146 rfl rfl ⟨⟨rfl, rfl⟩, Nat.le_of_ble_eq_true rfl, Nat.le_of_ble_eq_true rfl⟩ ⟨Nat.le_of_ble_eq_true rfl, Nat.le_of_ble_eq_true rfl⟩ hl.1 rfl [] rfl (Nat.le_of_ble_eq_true rfl) dX4_fits_1 (fun H locs B => ?_)
  have hb_1 : ∀ j_, ((sp_finds (M 2) (M 8) (M 9) (M 11 0) (M 10) (M 5)).1) j_ < 32 := (finds_lt hp.2 hbk hds hcn ha).1
  have hb_2 : ∀ j_, ((sp_finds (M 2) (M 8) (M 9) (M 11 0) (M 10) (M 5)).2) j_ < 65536 := (finds_lt hp.2 hbk hds hcn ha).2
  refine r_ic F 1 dX4_fits_4 rfl ?_
  refine r_aln F hl 0 rfl dX4_fits_5 rfl ?_
  refine gf_X4_13 F B.1 0 rfl (.ref (q 3)) rfl dX4_fits_6 ?_
  refine r_ic F 0 dX4_fits_9 rfl ?_
  refine r_ald (f := M 2) F B.1 2 rfl dX4_fits_10 (by decide) (by omega) ?_
  have b_3 : M 2 (0) < 256 := hbk (0)
  have b_4 : 1 * 2 ^ (M 2 (0)) < 65536 := pw16 (by omega)
  refine r_shl F dX4_fits_11 ⟨by omega, by omega⟩ ?_
  refine r_ic F 1 dX4_fits_12 rfl ?_
  have hw_ := Nat.two_pow_pos (M 2 0)
  refine r_sub F dX4_fits_13 (by omega) ?_
  refine r_isn (lv' := [(0, .ref (q 0)), (1, .int (iI ((((1 * 2 ^ M 2 (0)) - 1) : Nat) : Int)))]) F hl dX4_fits_14 rfl (by decide) [1, 0] rfl (fun ls hl => ?_)
  refine r_ic F 0 dX4_fits_15 rfl ?_
  refine r_isn (lv' := [(0, .ref (q 0)), (1, .int (iI ((((1 * 2 ^ M 2 (0)) - 1) : Nat) : Int))), (2, .int (iI ((0 : Nat) : Int)))]) F hl dX4_fits_16 rfl (by decide) [1, 2, 0] rfl (fun ls hl => ?_)
  have lp_5 : ∀ (nn_ : Nat) (x : Nat) (k : Nat) (H : Heap) (locs : List Loc) (ls : Array Slot), M 11 0 - k < nn_ → (lpR (fun k a => a &&& (finR M).1 k) (M 11 0) k x = sp_fits (M 2 0) (M 11 0) (finR M).1) → (x < 65536) → (k ≤ M 11 0) → Bx D A H0 (wM q cI (stR (stR M 10 ((sp_finds (M 2) (M 8) (M 9) (M 11 0) (M 10) (M 5)).1)) 5 ((sp_finds (M 2) (M 8) (M 9) (M 11 0) (M 10) (M 5)).2))) H locs → lv_has ls 3 [(0, .ref (q 0)), (1, .int (iI ((x : Nat) : Int))), (2, .int (iI ((k : Nat) : Int)))] → W p l e rm_X4_fits s m args below meth c H locs 0 0 (Qu below args s D ((iI ((sp_fits (M 2 0) (M 11 0) (finR M).1 : Nat) : Int))) (wM q cI (stR (stR M 10 ((finR M).1)) 5 ((finR M).2))) A) (F0 m 17 ls []) := by
    intro nn_
    induction nn_ with
    | zero => intro x k H locs ls hlt; exact absurd hlt (Nat.not_lt_zero _)
    | succ nn_ ih =>
      have ih_6 := ih; clear ih
      intro x k H locs ls hlt hI hx hk B hl
      have hlt_7 := hlt
      refine r_iln F hl 2 rfl dX4_fits_17 rfl ?_
      refine r_aln F hl 0 rfl dX4_fits_18 rfl ?_
      refine gf_X4_93 F B.1 0 rfl (.int (iI ((M 11 0 : Nat) : Int))) rfl dX4_fits_19 ?_
      refine r_cge 40 F dX4_fits_22 (by decide) (by omega) (fun c_8 => ?_) (fun c_8 => ?_)
      · refine r_iln F hl 1 rfl dX4_fits_40 rfl ?_
        exact r_retU F hr hlk hH B dX4_fits_41 (by rw [← hI, lpR_end (by omega)]) (by first | rfl | (simp only [if_true, if_false, Bool.and_true, Bool.true_and, Bool.and_false, Bool.false_and, Bool.and_self, Bool.false_eq_true, ↓reduceIte, decide_true, decide_false, Int.toNat_natCast, Bool.toNat_true, Bool.toNat_false]; first | done | rfl | (simp only [c_8, (Nat.not_lt.mp c_8), if_true, if_false, Bool.and_true, Bool.true_and, Bool.and_false, Bool.false_and, Bool.and_self, Bool.false_eq_true, ↓reduceIte, decide_true, decide_false, Int.toNat_natCast, Bool.toNat_true, Bool.toNat_false]; first | done | rfl) | (simp only [if_neg c_8, if_pos (Nat.not_lt.mp c_8)]; first | done | rfl) | (simp [c_8, (Nat.not_lt.mp c_8)]; done) | (simp [c_8, (Nat.not_lt.mp c_8)]; first | rfl | omega)) | (simp [c_8, (Nat.not_lt.mp c_8)]; done) | (simp [c_8, (Nat.not_lt.mp c_8)]; omega) | (simp only [if_true, if_false, Bool.and_true, Bool.true_and, Bool.and_false, Bool.false_and, Bool.and_self, Bool.false_eq_true, ↓reduceIte, decide_true, decide_false, Int.toNat_natCast, Bool.toNat_true, Bool.toNat_false]; try simp only [c_8, (Nat.not_lt.mp c_8), if_true, if_false, Bool.and_true, Bool.true_and, Bool.and_false, Bool.false_and, Bool.and_self, Bool.false_eq_true, ↓reduceIte, decide_true, decide_false, Int.toNat_natCast, Bool.toNat_true, Bool.toNat_false]; rfl))
      · refine r_iln F hl 1 rfl dX4_fits_25 rfl ?_
        refine r_aln F hl 0 rfl dX4_fits_26 rfl ?_
        refine gf_X4_34 F B.1 0 rfl (.ref (q 11)) rfl dX4_fits_27 ?_
        refine r_iln F hl 2 rfl dX4_fits_30 rfl ?_
        refine r_ald (f := (sp_finds (M 2) (M 8) (M 9) (M 11 0) (M 10) (M 5)).1) F B.1 9 rfl dX4_fits_31 (by decide) (by omega) ?_
        have b_9 : ((sp_finds (M 2) (M 8) (M 9) (M 11 0) (M 10) (M 5)).1) (k) < 32 := hb_1 (k)
        refine r_and F dX4_fits_32 ?_
        have b_10 : (x &&& ((sp_finds (M 2) (M 8) (M 9) (M 11 0) (M 10) (M 5)).1) (k)) ≤ ((sp_finds (M 2) (M 8) (M 9) (M 11 0) (M 10) (M 5)).1) (k) := Nat.and_le_right
        refine r_isn (lv' := [(0, .ref (q 0)), (1, .int (iI (((x &&& ((sp_finds (M 2) (M 8) (M 9) (M 11 0) (M 10) (M 5)).1) (k)) : Nat) : Int))), (2, .int (iI ((k : Nat) : Int)))]) F hl dX4_fits_33 rfl (by decide) [1, 0, 2] rfl (fun ls hl => ?_)
        refine r_inc (lv' := [(0, .ref (q 0)), (1, .int (iI (((x &&& ((sp_finds (M 2) (M 8) (M 9) (M 11 0) (M 10) (M 5)).1) (k)) : Nat) : Int))), (2, .int (iI (((k + 1) : Nat) : Int)))]) F hl 2 rfl dX4_fits_34 1 rfl (by decide) [1, 2, 0] rfl (fun ls hl => ?_)
        refine r_goto 17 F dX4_fits_37 (by decide) ?_
        exact ih_6 ((x &&& ((sp_finds (M 2) (M 8) (M 9) (M 11 0) (M 10) (M 5)).1) (k))) ((k + 1)) _ _ ls (by omega) (by have h_ := hI; rw [lpR_step (by omega)] at h_; refine Eq.trans ?_ h_; first | rfl | (simp only [c_8, (Nat.not_le.mpr c_8), if_true, if_false, Bool.and_true, Bool.true_and, Bool.and_false, Bool.false_and, Bool.and_self, Bool.false_eq_true, ↓reduceIte, decide_true, decide_false, Int.toNat_natCast, Bool.toNat_true, Bool.toNat_false]; done) | (simp [c_8, (Nat.not_le.mpr c_8)]; done)) (Nat.lt_of_le_of_lt Nat.and_le_left hx) (by omega) B hl
  exact lp_5 _ (((1 * 2 ^ M 2 (0)) - 1)) (0) _ _ ls (Nat.lt_succ_self _) rfl (by omega) (by omega) B hl
abbrev rm_X4_least : Room := { frames := 3, cells := 0, slots := 0, locals := 70 }
set_option maxHeartbeats 4000000 in
set_option maxRecDepth 100000 in
theorem k_X4_least (l : Launch) (D : va_G) (cI cB : ClassId) (q : Nat → Nat) (M : St) (hp : 1 ≤ M 2 0 ∧ M 2 0 ≤ 5) (hbk : ∀ k, M 2 k < 256) (h11 : M 11 0 ≤ 10) (hds : ∀ k, M 8 k < 41) (hdf : ∀ k, M 9 k < 256) (hcn : ∀ k, M 10 k < 32) (ha : ∀ k, M 5 k < 65536) : CtU l yX4_least cX4_least 7 (some .int) rm_X4_least D cI cB [.ref (q 0)] (wM q cI M) (wM q cI (stR (stR M 10 ((finR M).1)) 5 ((finR M).2))) ((iI (sp_least (M 2 0) (M 11 0) (finR M).1))) := by
  refine CtU.of RX4 (by decide) rfl (Nat.le_of_ble_eq_true rfl) ?_
  intro p e s m args below meth c H0 ls A hH hA F hr hlk B hl
  have hl : lv_has ls 7 [(0, .ref (q 0))] := hl
  refine r_aln F hl 0 rfl dX4_least_0 rfl ?_
  refine r_cvW F hA B (k_X4_finds l D cI cB (q) (M)  hp hbk h11 hds hdf hcn ha) gw_X4_146 rfl rfl ⟨⟨rfl, rfl⟩, Nat.le_of_ble_eq_true rfl, Nat.le_of_ble_eq_true rfl⟩ ⟨Nat.le_of_ble_eq_true rfl, Nat.le_of_ble_eq_true rfl⟩ hl.1 rfl [] rfl (Nat.le_of_ble_eq_true rfl) dX4_least_1 (fun H locs B => ?_)
  have hb_1 : ∀ j_, ((sp_finds (M 2) (M 8) (M 9) (M 11 0) (M 10) (M 5)).1) j_ < 32 := (finds_lt hp.2 hbk hds hcn ha).1
  have hb_2 : ∀ j_, ((sp_finds (M 2) (M 8) (M 9) (M 11 0) (M 10) (M 5)).2) j_ < 65536 := (finds_lt hp.2 hbk hds hcn ha).2
  refine r_bpz F (-4) dX4_least_4 rfl ?_
  refine r_isn (lv' := [(0, .ref (q 0)), (1, .int (iI (-4)))]) F hl dX4_least_6 rfl (by decide) [1, 0] rfl (fun ls hl => ?_)
  refine r_bp F 6 dX4_least_7 rfl ?_
  refine r_isn (lv' := [(0, .ref (q 0)), (1, .int (iI (-4))), (2, .int (iI ((6 : Nat) : Int)))]) F hl dX4_least_9 rfl (by decide) [1, 2, 0] rfl (fun ls hl => ?_)
  refine r_ic F 0 dX4_least_10 rfl ?_
  refine r_isn (lv' := [(0, .ref (q 0)), (1, .int (iI (-4))), (2, .int (iI ((6 : Nat) : Int))), (3, .int (iI ((0 : Nat) : Int)))]) F hl dX4_least_11 rfl (by decide) [1, 2, 3, 0] rfl (fun ls hl => ?_)
  have lp_3 : ∀ (nn_ : Nat) (x : Int) (y : Nat) (k : Nat) (H : Heap) (locs : List Loc) (ls : Array Slot), 1 * 2 ^ M 2 0 - k < nn_ → ((lpR (leB (M 11 0) (finR M).1) (1 * 2 ^ M 2 0) k (x, y)).1 = sp_least (M 2 0) (M 11 0) (finR M).1) → (-4 ≤ x ∧ x < 65536) → (y ≤ 6) → (k ≤ 1 * 2 ^ M 2 0) → Bx D A H0 (wM q cI (stR (stR M 10 ((sp_finds (M 2) (M 8) (M 9) (M 11 0) (M 10) (M 5)).1)) 5 ((sp_finds (M 2) (M 8) (M 9) (M 11 0) (M 10) (M 5)).2))) H locs → lv_has ls 7 [(0, .ref (q 0)), (1, .int (iI (x))), (2, .int (iI ((y : Nat) : Int))), (3, .int (iI ((k : Nat) : Int)))] → W p l e rm_X4_least s m args below meth c H locs 0 0 (Qu below args s D ((iI (sp_least (M 2 0) (M 11 0) (finR M).1))) (wM q cI (stR (stR M 10 ((finR M).1)) 5 ((finR M).2))) A) (F0 m 12 ls []) := by
    intro nn_
    induction nn_ with
    | zero => intro x y k H locs ls hlt; exact absurd hlt (Nat.not_lt_zero _)
    | succ nn_ ih =>
      have ih_4 := ih; clear ih
      intro x y k H locs ls hlt hI hx hy hk B hl
      have hlt_5 := hlt
      refine r_iln F hl 3 rfl dX4_least_12 rfl ?_
      refine r_ic F 1 dX4_least_13 rfl ?_
      refine r_aln F hl 0 rfl dX4_least_14 rfl ?_
      refine gf_X4_13 F B.1 0 rfl (.ref (q 3)) rfl dX4_least_15 ?_
      refine r_ic F 0 dX4_least_18 rfl ?_
      refine r_ald (f := M 2) F B.1 2 rfl dX4_least_19 (by decide) (by omega) ?_
      have b_6 : M 2 (0) < 256 := hbk (0)
      have b_7 : 1 * 2 ^ (M 2 (0)) < 65536 := pw16 (by omega)
      refine r_shl F dX4_least_20 ⟨by omega, by omega⟩ ?_
      refine r_cge 139 F dX4_least_21 (by decide) (by omega) (fun c_8 => ?_) (fun c_8 => ?_)
      · refine r_iln F hl 1 rfl dX4_least_139 rfl ?_
        exact r_retU F hr hlk hH B dX4_least_140 (by rw [← hI, lpR_end (by omega)]) (by first | rfl | (simp only [if_true, if_false, Bool.and_true, Bool.true_and, Bool.and_false, Bool.false_and, Bool.and_self, Bool.false_eq_true, ↓reduceIte, decide_true, decide_false, Int.toNat_natCast, Bool.toNat_true, Bool.toNat_false]; first | done | rfl | (simp only [c_8, (Nat.not_lt.mp c_8), if_true, if_false, Bool.and_true, Bool.true_and, Bool.and_false, Bool.false_and, Bool.and_self, Bool.false_eq_true, ↓reduceIte, decide_true, decide_false, Int.toNat_natCast, Bool.toNat_true, Bool.toNat_false]; first | done | rfl) | (simp only [if_neg c_8, if_pos (Nat.not_lt.mp c_8)]; first | done | rfl) | (simp [c_8, (Nat.not_lt.mp c_8)]; done) | (simp [c_8, (Nat.not_lt.mp c_8)]; first | rfl | omega)) | (simp [c_8, (Nat.not_lt.mp c_8)]; done) | (simp [c_8, (Nat.not_lt.mp c_8)]; omega) | (simp only [if_true, if_false, Bool.and_true, Bool.true_and, Bool.and_false, Bool.false_and, Bool.and_self, Bool.false_eq_true, ↓reduceIte, decide_true, decide_false, Int.toNat_natCast, Bool.toNat_true, Bool.toNat_false]; try simp only [c_8, (Nat.not_lt.mp c_8), if_true, if_false, Bool.and_true, Bool.true_and, Bool.and_false, Bool.false_and, Bool.and_self, Bool.false_eq_true, ↓reduceIte, decide_true, decide_false, Int.toNat_natCast, Bool.toNat_true, Bool.toNat_false]; rfl))
      · refine r_icb F true dX4_least_24 rfl ?_
        refine r_is (lv' := [(0, .ref (q 0)), (1, .int (iI (x))), (2, .int (iI ((y : Nat) : Int))), (3, .int (iI ((k : Nat) : Int))), (4, .int (iI ((Bool.toNat (true) : Nat) : Int)))]) F hl dX4_least_25 (by decide) [1, 2, 3, 4, 0] rfl (fun ls hl => ?_)
        refine r_ic F 0 dX4_least_27 rfl ?_
        refine r_is (lv' := [(0, .ref (q 0)), (1, .int (iI (x))), (2, .int (iI ((y : Nat) : Int))), (3, .int (iI ((k : Nat) : Int))), (4, .int (iI ((Bool.toNat (true) : Nat) : Int))), (5, .int (iI ((0 : Nat) : Int)))]) F hl dX4_least_28 (by decide) [1, 2, 3, 4, 5, 0] rfl (fun ls hl => ?_)
        have lp_9 : ∀ (nn_ : Nat) (b : Bool) (k2 : Nat) (H : Heap) (locs : List Loc) (ls : Array Slot), M 11 0 - k2 < nn_ → (lpR (laB (finR M).1 k) (M 11 0) k2 b = laR (M 11 0) (finR M).1 k) → (k2 ≤ M 11 0) → Bx D A H0 (wM q cI (stR (stR M 10 ((sp_finds (M 2) (M 8) (M 9) (M 11 0) (M 10) (M 5)).1)) 5 ((sp_finds (M 2) (M 8) (M 9) (M 11 0) (M 10) (M 5)).2))) H locs → lv_has ls 7 [(0, .ref (q 0)), (1, .int (iI (x))), (2, .int (iI ((y : Nat) : Int))), (3, .int (iI ((k : Nat) : Int))), (4, .int (iI ((Bool.toNat (b) : Nat) : Int))), (5, .int (iI ((k2 : Nat) : Int)))] → W p l e rm_X4_least s m args below meth c H locs 0 0 (Qu below args s D ((iI (sp_least (M 2 0) (M 11 0) (finR M).1))) (wM q cI (stR (stR M 10 ((finR M).1)) 5 ((finR M).2))) A) (F0 m 30 ls []) := by
          intro nn_
          induction nn_ with
          | zero => intro b k2 H locs ls hlt; exact absurd hlt (Nat.not_lt_zero _)
          | succ nn_ ih =>
            have ih_10 := ih; clear ih
            intro b k2 H locs ls hlt hJ hk2 B hl
            have hlt_11 := hlt
            refine r_il F hl 5 rfl dX4_least_30 ?_
            refine r_aln F hl 0 rfl dX4_least_32 rfl ?_
            refine gf_X4_93 F B.1 0 rfl (.int (iI ((M 11 0 : Nat) : Int))) rfl dX4_least_33 ?_
            refine r_cge 69 F dX4_least_36 (by decide) (by omega) (fun c_12 => ?_) (fun c_12 => ?_)
            · have he_ : laR (M 11 0) (finR M).1 k = b := by rw [← hJ, lpR_end (by omega)]
              refine r_ic F 0 dX4_least_69 rfl ?_
              refine r_is (lv' := [(0, .ref (q 0)), (1, .int (iI (x))), (2, .int (iI ((y : Nat) : Int))), (3, .int (iI ((k : Nat) : Int))), (4, .int (iI ((Bool.toNat (b) : Nat) : Int))), (5, .int (iI ((0 : Nat) : Int)))]) F hl dX4_least_70 (by decide) [1, 2, 3, 4, 5, 0] rfl (fun ls hl => ?_)
              refine r_ic F 0 dX4_least_72 rfl ?_
              refine r_is (lv' := [(0, .ref (q 0)), (1, .int (iI (x))), (2, .int (iI ((y : Nat) : Int))), (3, .int (iI ((k : Nat) : Int))), (4, .int (iI ((Bool.toNat (b) : Nat) : Int))), (5, .int (iI ((0 : Nat) : Int))), (6, .int (iI ((0 : Nat) : Int)))]) F hl dX4_least_73 (by decide) [1, 2, 3, 4, 5, 6, 0] rfl (fun ls hl => ?_)
              have lp_13 : ∀ (nn_ : Nat) (u : Nat) (k3 : Nat) (H : Heap) (locs : List Loc) (ls : Array Slot), 5 - k3 < nn_ → (lpR (fun i a => a + (k / 2 ^ i &&& 1)) 5 k3 u = lnR k) → (u ≤ k3) → (k3 ≤ 5) → Bx D A H0 (wM q cI (stR (stR M 10 ((sp_finds (M 2) (M 8) (M 9) (M 11 0) (M 10) (M 5)).1)) 5 ((sp_finds (M 2) (M 8) (M 9) (M 11 0) (M 10) (M 5)).2))) H locs → lv_has ls 7 [(0, .ref (q 0)), (1, .int (iI (x))), (2, .int (iI ((y : Nat) : Int))), (3, .int (iI ((k : Nat) : Int))), (4, .int (iI ((Bool.toNat (b) : Nat) : Int))), (5, .int (iI ((u : Nat) : Int))), (6, .int (iI ((k3 : Nat) : Int)))] → W p l e rm_X4_least s m args below meth c H locs 0 0 (Qu below args s D ((iI (sp_least (M 2 0) (M 11 0) (finR M).1))) (wM q cI (stR (stR M 10 ((finR M).1)) 5 ((finR M).2))) A) (F0 m 75 ls []) := by
                intro nn_
                induction nn_ with
                | zero => intro u k3 H locs ls hlt; exact absurd hlt (Nat.not_lt_zero _)
                | succ nn_ ih =>
                  have ih_14 := ih; clear ih
                  intro u k3 H locs ls hlt hK hu hk3 B hl
                  have hlt_15 := hlt
                  refine r_il F hl 6 rfl dX4_least_75 ?_
                  refine r_ic F 5 dX4_least_77 rfl ?_
                  refine r_cge 98 F dX4_least_78 (by decide) (by omega) (fun c_16 => ?_) (fun c_16 => ?_)
                  · have hz_ : lnR k = u := by rw [← hK, lpR_end (by omega)]
                    refine r_il F hl 4 rfl dX4_least_98 ?_
                    refine r_zeqb 113 F dX4_least_100 (by decide) (fun c_17 => ?_) (fun c_17 => ?_)
                    · refine r_iln F hl 1 rfl dX4_least_113 rfl ?_
                      refine r_isn (lv' := [(0, .ref (q 0)), (1, .int (iI (x))), (2, .int (iI ((y : Nat) : Int))), (3, .int (iI ((k : Nat) : Int))), (4, .int (iI ((Bool.toNat (b) : Nat) : Int))), (5, .int (iI ((u : Nat) : Int))), (6, .int (iI ((k3 : Nat) : Int)))]) F hl dX4_least_114 rfl (by decide) [1, 0, 2, 3, 4, 5, 6] rfl (fun ls hl => ?_)
                      refine r_il F hl 4 rfl dX4_least_115 ?_
                      refine r_zeqb 131 F dX4_least_117 (by decide) (fun c_18 => ?_) (fun c_18 => ?_)
                      · refine r_iln F hl 2 rfl dX4_least_131 rfl ?_
                        refine r_isn (lv' := [(0, .ref (q 0)), (1, .int (iI (x))), (2, .int (iI ((y : Nat) : Int))), (3, .int (iI ((k : Nat) : Int))), (4, .int (iI ((Bool.toNat (b) : Nat) : Int))), (5, .int (iI ((u : Nat) : Int))), (6, .int (iI ((k3 : Nat) : Int)))]) F hl dX4_least_132 rfl (by decide) [1, 2, 0, 3, 4, 5, 6] rfl (fun ls hl => ?_)
                        refine r_inc (lv' := [(0, .ref (q 0)), (1, .int (iI (x))), (2, .int (iI ((y : Nat) : Int))), (3, .int (iI (((k + 1) : Nat) : Int))), (4, .int (iI ((Bool.toNat (b) : Nat) : Int))), (5, .int (iI ((u : Nat) : Int))), (6, .int (iI ((k3 : Nat) : Int)))]) F hl 3 rfl dX4_least_133 1 rfl (by decide) [1, 2, 3, 0, 4, 5, 6] rfl (fun ls hl => ?_)
                        refine r_goto 12 F dX4_least_136 (by decide) ?_
                        exact ih_4 (x) (y) ((k + 1)) _ _ ls (by omega) (by have h_ := hI; rw [lpR_step (by omega)] at h_; refine Eq.trans ?_ h_; first | rfl | (simp only [leB, he_, hz_, c_8, (Nat.not_le.mpr c_8), c_12, (Nat.not_lt.mp c_12), c_16, (Nat.not_lt.mp c_16), c_17, c_18, if_true, if_false, Bool.and_true, Bool.true_and, Bool.and_false, Bool.false_and, Bool.and_self, Bool.false_eq_true, ↓reduceIte, decide_true, decide_false, Int.toNat_natCast, Bool.toNat_true, Bool.toNat_false]; done) | (simp [leB, he_, hz_, c_8, (Nat.not_le.mpr c_8), c_12, (Nat.not_lt.mp c_12), c_16, (Nat.not_lt.mp c_16), c_17, c_18]; done)) (by omega) (by omega) (by omega) B (lv_sub hl [0, 1, 2, 3] rfl)
                      · exact absurd (c_17.symm.trans c_18) (by decide)
                    · refine r_il F hl 5 rfl dX4_least_103 ?_
                      refine r_iln F hl 2 rfl dX4_least_105 rfl ?_
                      refine r_cge 113 F dX4_least_106 (by decide) (by omega) (fun c_19 => ?_) (fun c_19 => ?_)
                      · refine r_iln F hl 1 rfl dX4_least_113 rfl ?_
                        refine r_isn (lv' := [(0, .ref (q 0)), (1, .int (iI (x))), (2, .int (iI ((y : Nat) : Int))), (3, .int (iI ((k : Nat) : Int))), (4, .int (iI ((Bool.toNat (b) : Nat) : Int))), (5, .int (iI ((u : Nat) : Int))), (6, .int (iI ((k3 : Nat) : Int)))]) F hl dX4_least_114 rfl (by decide) [1, 0, 2, 3, 4, 5, 6] rfl (fun ls hl => ?_)
                        refine r_il F hl 4 rfl dX4_least_115 ?_
                        refine r_zeqb 131 F dX4_least_117 (by decide) (fun c_20 => ?_) (fun c_20 => ?_)
                        · exact absurd (c_17.symm.trans c_20) (by decide)
                        · refine r_il F hl 5 rfl dX4_least_120 ?_
                          refine r_iln F hl 2 rfl dX4_least_122 rfl ?_
                          refine r_cge 131 F dX4_least_123 (by decide) (by omega) (fun c_21 => ?_) (fun c_21 => ?_)
                          · refine r_iln F hl 2 rfl dX4_least_131 rfl ?_
                            refine r_isn (lv' := [(0, .ref (q 0)), (1, .int (iI (x))), (2, .int (iI ((y : Nat) : Int))), (3, .int (iI ((k : Nat) : Int))), (4, .int (iI ((Bool.toNat (b) : Nat) : Int))), (5, .int (iI ((u : Nat) : Int))), (6, .int (iI ((k3 : Nat) : Int)))]) F hl dX4_least_132 rfl (by decide) [1, 2, 0, 3, 4, 5, 6] rfl (fun ls hl => ?_)
                            refine r_inc (lv' := [(0, .ref (q 0)), (1, .int (iI (x))), (2, .int (iI ((y : Nat) : Int))), (3, .int (iI (((k + 1) : Nat) : Int))), (4, .int (iI ((Bool.toNat (b) : Nat) : Int))), (5, .int (iI ((u : Nat) : Int))), (6, .int (iI ((k3 : Nat) : Int)))]) F hl 3 rfl dX4_least_133 1 rfl (by decide) [1, 2, 3, 0, 4, 5, 6] rfl (fun ls hl => ?_)
                            refine r_goto 12 F dX4_least_136 (by decide) ?_
                            exact ih_4 (x) (y) ((k + 1)) _ _ ls (by omega) (by have h_ := hI; rw [lpR_step (by omega)] at h_; refine Eq.trans ?_ h_; first | rfl | (simp only [leB, he_, hz_, c_8, (Nat.not_le.mpr c_8), c_12, (Nat.not_lt.mp c_12), c_16, (Nat.not_lt.mp c_16), c_17, c_19, (Nat.not_lt.mp c_19), c_20, c_21, (Nat.not_lt.mp c_21), if_true, if_false, Bool.and_true, Bool.true_and, Bool.and_false, Bool.false_and, Bool.and_self, Bool.false_eq_true, ↓reduceIte, decide_true, decide_false, Int.toNat_natCast, Bool.toNat_true, Bool.toNat_false]; done) | (simp [leB, he_, hz_, c_8, (Nat.not_le.mpr c_8), c_12, (Nat.not_lt.mp c_12), c_16, (Nat.not_lt.mp c_16), c_17, c_19, (Nat.not_lt.mp c_19), c_20, c_21, (Nat.not_lt.mp c_21)]; done)) (by omega) (by omega) (by omega) B (lv_sub hl [0, 1, 2, 3] rfl)
                          · exact absurd c_21 c_19
                      · refine r_iln F hl 3 rfl dX4_least_109 rfl ?_
                        refine r_goto 114 F dX4_least_110 (by decide) ?_
                        refine r_isn (lv' := [(0, .ref (q 0)), (1, .int (iI ((k : Nat) : Int))), (2, .int (iI ((y : Nat) : Int))), (3, .int (iI ((k : Nat) : Int))), (4, .int (iI ((Bool.toNat (b) : Nat) : Int))), (5, .int (iI ((u : Nat) : Int))), (6, .int (iI ((k3 : Nat) : Int)))]) F hl dX4_least_114 rfl (by decide) [1, 0, 2, 3, 4, 5, 6] rfl (fun ls hl => ?_)
                        refine r_il F hl 4 rfl dX4_least_115 ?_
                        refine r_zeqb 131 F dX4_least_117 (by decide) (fun c_22 => ?_) (fun c_22 => ?_)
                        · exact absurd (c_17.symm.trans c_22) (by decide)
                        · refine r_il F hl 5 rfl dX4_least_120 ?_
                          refine r_iln F hl 2 rfl dX4_least_122 rfl ?_
                          refine r_cge 131 F dX4_least_123 (by decide) (by omega) (fun c_23 => ?_) (fun c_23 => ?_)
                          · exact absurd c_19 c_23
                          · refine r_il F hl 5 rfl dX4_least_126 ?_
                            refine r_goto 132 F dX4_least_128 (by decide) ?_
                            refine r_isn (lv' := [(0, .ref (q 0)), (1, .int (iI ((k : Nat) : Int))), (2, .int (iI ((u : Nat) : Int))), (3, .int (iI ((k : Nat) : Int))), (4, .int (iI ((Bool.toNat (b) : Nat) : Int))), (5, .int (iI ((u : Nat) : Int))), (6, .int (iI ((k3 : Nat) : Int)))]) F hl dX4_least_132 rfl (by decide) [1, 2, 0, 3, 4, 5, 6] rfl (fun ls hl => ?_)
                            refine r_inc (lv' := [(0, .ref (q 0)), (1, .int (iI ((k : Nat) : Int))), (2, .int (iI ((u : Nat) : Int))), (3, .int (iI (((k + 1) : Nat) : Int))), (4, .int (iI ((Bool.toNat (b) : Nat) : Int))), (5, .int (iI ((u : Nat) : Int))), (6, .int (iI ((k3 : Nat) : Int)))]) F hl 3 rfl dX4_least_133 1 rfl (by decide) [1, 2, 3, 0, 4, 5, 6] rfl (fun ls hl => ?_)
                            refine r_goto 12 F dX4_least_136 (by decide) ?_
                            exact ih_4 (((k : Nat) : Int)) (u) ((k + 1)) _ _ ls (by omega) (by have h_ := hI; rw [lpR_step (by omega)] at h_; refine Eq.trans ?_ h_; first | rfl | (simp only [leB, he_, hz_, c_8, (Nat.not_le.mpr c_8), c_12, (Nat.not_lt.mp c_12), c_16, (Nat.not_lt.mp c_16), c_17, c_19, (Nat.not_le.mpr c_19), c_22, c_23, (Nat.not_le.mpr c_23), if_true, if_false, Bool.and_true, Bool.true_and, Bool.and_false, Bool.false_and, Bool.and_self, Bool.false_eq_true, ↓reduceIte, decide_true, decide_false, Int.toNat_natCast, Bool.toNat_true, Bool.toNat_false]; done) | (simp [leB, he_, hz_, c_8, (Nat.not_le.mpr c_8), c_12, (Nat.not_lt.mp c_12), c_16, (Nat.not_lt.mp c_16), c_17, c_19, (Nat.not_le.mpr c_19), c_22, c_23, (Nat.not_le.mpr c_23)]; done)) (by omega) (by omega) (by omega) B (lv_sub hl [0, 1, 2, 3] rfl)
                  · refine r_il F hl 5 rfl dX4_least_81 ?_
                    refine r_iln F hl 3 rfl dX4_least_83 rfl ?_
                    refine r_il F hl 6 rfl dX4_least_84 ?_
                    refine r_shr F dX4_least_86 ⟨by omega, by omega⟩ ?_
                    have b_24 : (k / 2 ^ k3) ≤ k := Nat.div_le_self _ _
                    refine r_ic F 1 dX4_least_87 rfl ?_
                    refine r_and F dX4_least_88 ?_
                    have b_25 : ((k / 2 ^ k3) &&& 1) ≤ 1 := Nat.and_le_right
                    refine r_add F dX4_least_89 ?_
                    refine r_is (lv' := [(0, .ref (q 0)), (1, .int (iI (x))), (2, .int (iI ((y : Nat) : Int))), (3, .int (iI ((k : Nat) : Int))), (4, .int (iI ((Bool.toNat (b) : Nat) : Int))), (5, .int (iI (((u + ((k / 2 ^ k3) &&& 1)) : Nat) : Int))), (6, .int (iI ((k3 : Nat) : Int)))]) F hl dX4_least_90 (by decide) [1, 2, 3, 4, 5, 0, 6] rfl (fun ls hl => ?_)
                    refine r_inc (lv' := [(0, .ref (q 0)), (1, .int (iI (x))), (2, .int (iI ((y : Nat) : Int))), (3, .int (iI ((k : Nat) : Int))), (4, .int (iI ((Bool.toNat (b) : Nat) : Int))), (5, .int (iI (((u + ((k / 2 ^ k3) &&& 1)) : Nat) : Int))), (6, .int (iI (((k3 + 1) : Nat) : Int)))]) F hl 6 rfl dX4_least_92 1 rfl (by decide) [1, 2, 3, 4, 5, 6, 0] rfl (fun ls hl => ?_)
                    refine r_goto 75 F dX4_least_95 (by decide) ?_
                    exact ih_14 ((u + ((k / 2 ^ k3) &&& 1))) ((k3 + 1)) _ _ ls (by omega) (by have h_ := hK; rw [lpR_step (by omega)] at h_; refine Eq.trans ?_ h_; first | rfl | (simp only [c_8, (Nat.not_le.mpr c_8), c_12, (Nat.not_lt.mp c_12), c_16, (Nat.not_le.mpr c_16), if_true, if_false, Bool.and_true, Bool.true_and, Bool.and_false, Bool.false_and, Bool.and_self, Bool.false_eq_true, ↓reduceIte, decide_true, decide_false, Int.toNat_natCast, Bool.toNat_true, Bool.toNat_false]; done) | (simp [c_8, (Nat.not_le.mpr c_8), c_12, (Nat.not_lt.mp c_12), c_16, (Nat.not_le.mpr c_16)]; done)) (by omega) (by omega) B hl
              exact lp_13 _ (0) (0) _ _ ls (Nat.lt_succ_self _) rfl (by omega) (by omega) B hl
            · refine r_il F hl 4 rfl dX4_least_39 ?_
              refine r_zeqb 60 F dX4_least_41 (by decide) (fun c_26 => ?_) (fun c_26 => ?_)
              · refine r_icb F false dX4_least_60 rfl ?_
                refine r_is (lv' := [(0, .ref (q 0)), (1, .int (iI (x))), (2, .int (iI ((y : Nat) : Int))), (3, .int (iI ((k : Nat) : Int))), (4, .int (iI ((Bool.toNat (false) : Nat) : Int))), (5, .int (iI ((k2 : Nat) : Int)))]) F hl dX4_least_61 (by decide) [1, 2, 3, 4, 0, 5] rfl (fun ls hl => ?_)
                refine r_inc (lv' := [(0, .ref (q 0)), (1, .int (iI (x))), (2, .int (iI ((y : Nat) : Int))), (3, .int (iI ((k : Nat) : Int))), (4, .int (iI ((Bool.toNat (false) : Nat) : Int))), (5, .int (iI (((k2 + 1) : Nat) : Int)))]) F hl 5 rfl dX4_least_63 1 rfl (by decide) [1, 2, 3, 4, 5, 0] rfl (fun ls hl => ?_)
                refine r_goto 30 F dX4_least_66 (by decide) ?_
                exact ih_10 (false) ((k2 + 1)) _ _ ls (by omega) (by have h_ := hJ; rw [lpR_step (by omega)] at h_; refine Eq.trans ?_ h_; first | rfl | (simp only [laB, c_8, (Nat.not_le.mpr c_8), c_12, (Nat.not_le.mpr c_12), c_26, if_true, if_false, Bool.and_true, Bool.true_and, Bool.and_false, Bool.false_and, Bool.and_self, Bool.false_eq_true, ↓reduceIte, decide_true, decide_false, Int.toNat_natCast, Bool.toNat_true, Bool.toNat_false]; done) | (simp [laB, c_8, (Nat.not_le.mpr c_8), c_12, (Nat.not_le.mpr c_12), c_26]; done)) (by omega) B hl
              · refine r_aln F hl 0 rfl dX4_least_44 rfl ?_
                refine gf_X4_34 F B.1 0 rfl (.ref (q 11)) rfl dX4_least_45 ?_
                refine r_il F hl 5 rfl dX4_least_48 ?_
                refine r_ald (f := (sp_finds (M 2) (M 8) (M 9) (M 11 0) (M 10) (M 5)).1) F B.1 9 rfl dX4_least_50 (by decide) (by omega) ?_
                have b_27 : ((sp_finds (M 2) (M 8) (M 9) (M 11 0) (M 10) (M 5)).1) (k2) < 32 := hb_1 (k2)
                refine r_iln F hl 3 rfl dX4_least_51 rfl ?_
                refine r_and F dX4_least_52 ?_
                have b_28 : (((sp_finds (M 2) (M 8) (M 9) (M 11 0) (M 10) (M 5)).1) (k2) &&& k) ≤ k := Nat.and_le_right
                refine r_zeq 60 F dX4_least_53 (by decide) (by omega) (fun c_29 => ?_) (fun c_29 => ?_)
                · refine r_icb F false dX4_least_60 rfl ?_
                  refine r_is (lv' := [(0, .ref (q 0)), (1, .int (iI (x))), (2, .int (iI ((y : Nat) : Int))), (3, .int (iI ((k : Nat) : Int))), (4, .int (iI ((Bool.toNat (false) : Nat) : Int))), (5, .int (iI ((k2 : Nat) : Int)))]) F hl dX4_least_61 (by decide) [1, 2, 3, 4, 0, 5] rfl (fun ls hl => ?_)
                  refine r_inc (lv' := [(0, .ref (q 0)), (1, .int (iI (x))), (2, .int (iI ((y : Nat) : Int))), (3, .int (iI ((k : Nat) : Int))), (4, .int (iI ((Bool.toNat (false) : Nat) : Int))), (5, .int (iI (((k2 + 1) : Nat) : Int)))]) F hl 5 rfl dX4_least_63 1 rfl (by decide) [1, 2, 3, 4, 5, 0] rfl (fun ls hl => ?_)
                  refine r_goto 30 F dX4_least_66 (by decide) ?_
                  exact ih_10 (false) ((k2 + 1)) _ _ ls (by omega) (by have h_ := hJ; rw [lpR_step (by omega)] at h_; refine Eq.trans ?_ h_; first | rfl | (simp only [laB, c_8, (Nat.not_le.mpr c_8), c_12, (Nat.not_le.mpr c_12), c_26, c_29, if_true, if_false, Bool.and_true, Bool.true_and, Bool.and_false, Bool.false_and, Bool.and_self, Bool.false_eq_true, ↓reduceIte, decide_true, decide_false, Int.toNat_natCast, Bool.toNat_true, Bool.toNat_false]; done) | (simp [laB, c_8, (Nat.not_le.mpr c_8), c_12, (Nat.not_le.mpr c_12), c_26, c_29]; done)) (by omega) B hl
                · refine r_icb F true dX4_least_56 rfl ?_
                  refine r_goto 61 F dX4_least_57 (by decide) ?_
                  refine r_is (lv' := [(0, .ref (q 0)), (1, .int (iI (x))), (2, .int (iI ((y : Nat) : Int))), (3, .int (iI ((k : Nat) : Int))), (4, .int (iI ((Bool.toNat (true) : Nat) : Int))), (5, .int (iI ((k2 : Nat) : Int)))]) F hl dX4_least_61 (by decide) [1, 2, 3, 4, 0, 5] rfl (fun ls hl => ?_)
                  refine r_inc (lv' := [(0, .ref (q 0)), (1, .int (iI (x))), (2, .int (iI ((y : Nat) : Int))), (3, .int (iI ((k : Nat) : Int))), (4, .int (iI ((Bool.toNat (true) : Nat) : Int))), (5, .int (iI (((k2 + 1) : Nat) : Int)))]) F hl 5 rfl dX4_least_63 1 rfl (by decide) [1, 2, 3, 4, 5, 0] rfl (fun ls hl => ?_)
                  refine r_goto 30 F dX4_least_66 (by decide) ?_
                  exact ih_10 (true) ((k2 + 1)) _ _ ls (by omega) (by have h_ := hJ; rw [lpR_step (by omega)] at h_; refine Eq.trans ?_ h_; first | rfl | (simp only [laB, c_8, (Nat.not_le.mpr c_8), c_12, (Nat.not_le.mpr c_12), c_26, c_29, if_true, if_false, Bool.and_true, Bool.true_and, Bool.and_false, Bool.false_and, Bool.and_self, Bool.false_eq_true, ↓reduceIte, decide_true, decide_false, Int.toNat_natCast, Bool.toNat_true, Bool.toNat_false]; done) | (simp [laB, c_8, (Nat.not_le.mpr c_8), c_12, (Nat.not_le.mpr c_12), c_26, c_29]; done)) (by omega) B hl
        exact lp_9 _ (true) (0) _ _ ls (Nat.lt_succ_self _) rfl (by omega) B hl
  exact lp_3 _ (-4) (6) (0) _ _ ls (Nat.lt_succ_self _) rfl (by omega) (by omega) (by omega) B hl
