abbrev rm_X4_ends : Room := { frames := 1, cells := 0, slots := 0, locals := 25 }
set_option maxHeartbeats 4000000 in
set_option maxRecDepth 100000 in
theorem k_X4_ends (l : Launch) (D : va_G) (cI cB : ClassId) (q : Nat → Nat) (M : St) (hp : 1 ≤ M 2 0 ∧ M 2 0 ≤ 5) (hbk : ∀ k, M 2 k < 256) (ha : ∀ k, M 5 k < 65536) (ha0 : M 5 0 < 65535) : CtV l yX4_ends cX4_ends 4 rm_X4_ends D cI cB [.ref (q 0)] (wM q cI M) (wM q cI (stR M 5 (sp_ends (M 2) (M 5)))) := by
  refine CtV.of RX4 (by decide) rfl (Nat.le_of_ble_eq_true rfl) ?_
  intro p e s m args below meth c H0 ls A hH hA F hr hlk B hl
  have hl : lv_has ls 4 [(0, .ref (q 0))] := hl
  refine r_aln F hl 0 rfl dX4_ends_0 rfl ?_
  refine gf_X4_22 F B.1 0 rfl (.ref (q 6)) rfl dX4_ends_1 ?_
  refine r_ic F 0 dX4_ends_4 rfl ?_
  refine r_dup2 F dX4_ends_5 rfl rfl ?_
  refine r_ald (f := M 5) F B.1 5 rfl dX4_ends_6 (by decide) (by omega) ?_
  have b_1 : M 5 (0) < 65536 := ha (0)
  refine r_ic F 1 dX4_ends_7 rfl ?_
  refine r_add F dX4_ends_8 ?_
  have hb_2 : ∀ j_, upN (M 5) (0) ((M 5 (0) + 1)) j_ < 65536 := upN_lt ha (by omega)
  refine r_ast (f := M 5) F B 5 (wM q cI (stR M 5 (upN (M 5) (0) ((M 5 (0) + 1))))) rfl dX4_ends_9 (by decide) (by omega) rfl (fun H locs B => ?_)
  refine r_ic F 0 dX4_ends_10 rfl ?_
  refine r_isn (lv' := [(0, .ref (q 0)), (1, .int (iI ((0 : Nat) : Int)))]) F hl dX4_ends_11 rfl (by decide) [1, 0] rfl (fun ls hl => ?_)
  have lp_3 : ∀ (nn_ : Nat) (i : Nat) (f : Nat → Nat) (H : Heap) (locs : List Loc) (ls : Array Slot), M 2 0 - i < nn_ → (lpR (enB (M 2)) (M 2 0) i f = sp_ends (M 2) (M 5)) → (∀ k, f k < 65536) → (i ≤ M 2 0) → Bx D A H0 (wM q cI (stR M 5 (f))) H locs → lv_has ls 4 [(0, .ref (q 0)), (1, .int (iI ((i : Nat) : Int)))] → W p l e rm_X4_ends s m args below meth c H locs 0 0 (Qw below args s D (wM q cI (stR M 5 (sp_ends (M 2) (M 5)))) A) (F0 m 12 ls []) := by
    intro nn_
    induction nn_ with
    | zero => intro i f H locs ls hlt; exact absurd hlt (Nat.not_lt_zero _)
    | succ nn_ ih =>
      have ih_4 := ih; clear ih
      intro i f H locs ls hlt hI hf hk B hl
      have hlt_5 := hlt
      refine r_iln F hl 1 rfl dX4_ends_12 rfl ?_
      refine r_aln F hl 0 rfl dX4_ends_13 rfl ?_
      refine gf_X4_13 F B.1 0 rfl (.ref (q 3)) rfl dX4_ends_14 ?_
      refine r_ic F 0 dX4_ends_17 rfl ?_
      refine r_ald (f := M 2) F B.1 2 rfl dX4_ends_18 (by decide) (by omega) ?_
      have b_6 : M 2 (0) < 256 := hbk (0)
      refine r_cge 127 F dX4_ends_19 (by decide) (by omega) (fun c_7 => ?_) (fun c_7 => ?_)
      · exact r_retV F hr hlk hH B dX4_ends_127 (by rw [show f = sp_ends (M 2) (M 5) from by rw [← hI, lpR_end (by omega)]])
      · refine r_aln F hl 0 rfl dX4_ends_22 rfl ?_
        refine gf_X4_22 F B.1 0 rfl (.ref (q 6)) rfl dX4_ends_23 ?_
        refine r_ic F 1 dX4_ends_26 rfl ?_
        refine r_ic F 2 dX4_ends_27 rfl ?_
        refine r_iln F hl 1 rfl dX4_ends_28 rfl ?_
        refine r_mul F dX4_ends_29 ?_
        refine r_add F dX4_ends_30 ?_
        refine r_ald (f := f) F B.1 5 rfl dX4_ends_31 (by decide) (by omega) ?_
        have b_8 : f ((1 + (2 * i))) < 65536 := hf ((1 + (2 * i)))
        refine r_isn (lv' := [(0, .ref (q 0)), (1, .int (iI ((i : Nat) : Int))), (2, .int (iI ((f ((1 + (2 * i))) : Nat) : Int)))]) F hl dX4_ends_32 rfl (by decide) [1, 2, 0] rfl (fun ls hl => ?_)
        refine r_aln F hl 0 rfl dX4_ends_33 rfl ?_
        refine gf_X4_22 F B.1 0 rfl (.ref (q 6)) rfl dX4_ends_34 ?_
        refine r_ic F 2 dX4_ends_37 rfl ?_
        refine r_ic F 2 dX4_ends_38 rfl ?_
        refine r_iln F hl 1 rfl dX4_ends_39 rfl ?_
        refine r_mul F dX4_ends_40 ?_
        refine r_add F dX4_ends_41 ?_
        refine r_ald (f := f) F B.1 5 rfl dX4_ends_42 (by decide) (by omega) ?_
        have b_9 : f ((2 + (2 * i))) < 65536 := hf ((2 + (2 * i)))
        refine r_isn (lv' := [(0, .ref (q 0)), (1, .int (iI ((i : Nat) : Int))), (2, .int (iI ((f ((1 + (2 * i))) : Nat) : Int))), (3, .int (iI ((f ((2 + (2 * i))) : Nat) : Int)))]) F hl dX4_ends_43 rfl (by decide) [1, 2, 3, 0] rfl (fun ls hl => ?_)
        refine r_aln F hl 0 rfl dX4_ends_44 rfl ?_
        refine gf_X4_22 F B.1 0 rfl (.ref (q 6)) rfl dX4_ends_45 ?_
        refine r_ic F 1 dX4_ends_48 rfl ?_
        refine r_ic F 2 dX4_ends_49 rfl ?_
        refine r_iln F hl 1 rfl dX4_ends_50 rfl ?_
        refine r_mul F dX4_ends_51 ?_
        refine r_add F dX4_ends_52 ?_
        refine r_iln F hl 2 rfl dX4_ends_53 rfl ?_
        refine r_aln F hl 0 rfl dX4_ends_54 rfl ?_
        refine r_iln F hl 3 rfl dX4_ends_55 rfl ?_
        refine r_iln F hl 2 rfl dX4_ends_56 rfl ?_
        refine r_cq F B.1 (k_X4_tells l D cI cB (q) ((stR M 5 (f))) (f ((2 + (2 * i)))) (f ((1 + (2 * i)))) (by omega) hbk) gw_X4_108 [0, 1, 2, 3, 4, 5, 6, 7, 8, 9, 10] rfl rfl rfl ⟨⟨rfl, rfl⟩, Nat.le_of_ble_eq_true rfl, Nat.le_of_ble_eq_true rfl⟩ ⟨Nat.le_of_ble_eq_true rfl, Nat.le_of_ble_eq_true rfl⟩ hl.1 rfl [.int (iI ((f ((1 + (2 * i))) : Nat) : Int)), .int (iI (((1 + (2 * i)) : Nat) : Int)), .ref (q 6)] rfl (Nat.le_of_ble_eq_true rfl) dX4_ends_57 ?_
        have hq_ := @tells_lt ((M 2) 4) (f ((2 + (2 * i)))) (f ((1 + (2 * i)))) (by omega)
        refine r_or F dX4_ends_60 ?_
        have b_10 : (f ((1 + (2 * i))) ||| sp_tells ((M 2) 4) (f ((2 + (2 * i)))) (f ((1 + (2 * i))))) < 65536 := or16 (by omega) (by omega)
        have hb_11 : ∀ j_, upN (f) ((1 + (2 * i))) ((f ((1 + (2 * i))) ||| sp_tells ((M 2) 4) (f ((2 + (2 * i)))) (f ((1 + (2 * i)))))) j_ < 65536 := upN_lt hf (by omega)
        refine r_ast (f := f) F B 5 (wM q cI (stR M 5 (upN (f) ((1 + (2 * i))) ((f ((1 + (2 * i))) ||| sp_tells ((M 2) 4) (f ((2 + (2 * i)))) (f ((1 + (2 * i))))))))) rfl dX4_ends_61 (by decide) (by omega) rfl (fun H locs B => ?_)
        refine r_aln F hl 0 rfl dX4_ends_62 rfl ?_
        refine gf_X4_22 F B.1 0 rfl (.ref (q 6)) rfl dX4_ends_63 ?_
        refine r_ic F 2 dX4_ends_66 rfl ?_
        refine r_ic F 2 dX4_ends_67 rfl ?_
        refine r_iln F hl 1 rfl dX4_ends_68 rfl ?_
        refine r_mul F dX4_ends_69 ?_
        refine r_add F dX4_ends_70 ?_
        refine r_iln F hl 3 rfl dX4_ends_71 rfl ?_
        refine r_aln F hl 0 rfl dX4_ends_72 rfl ?_
        refine r_iln F hl 2 rfl dX4_ends_73 rfl ?_
        refine r_iln F hl 3 rfl dX4_ends_74 rfl ?_
        refine r_cq F B.1 (k_X4_tells l D cI cB (q) ((stR M 5 (upN (f) ((1 + (2 * i))) ((f ((1 + (2 * i))) ||| sp_tells ((M 2) 4) (f ((2 + (2 * i)))) (f ((1 + (2 * i))))))))) (f ((1 + (2 * i)))) (f ((2 + (2 * i)))) (by omega) hbk) gw_X4_108 [0, 1, 2, 3, 4, 5, 6, 7, 8, 9, 10] rfl rfl rfl ⟨⟨rfl, rfl⟩, Nat.le_of_ble_eq_true rfl, Nat.le_of_ble_eq_true rfl⟩ ⟨Nat.le_of_ble_eq_true rfl, Nat.le_of_ble_eq_true rfl⟩ hl.1 rfl [.int (iI ((f ((2 + (2 * i))) : Nat) : Int)), .int (iI (((2 + (2 * i)) : Nat) : Int)), .ref (q 6)] rfl (Nat.le_of_ble_eq_true rfl) dX4_ends_75 ?_
        have hq_ := @tells_lt ((M 2) 4) (f ((1 + (2 * i)))) (f ((2 + (2 * i)))) (by omega)
        refine r_or F dX4_ends_78 ?_
        have b_12 : (f ((2 + (2 * i))) ||| sp_tells ((M 2) 4) (f ((1 + (2 * i)))) (f ((2 + (2 * i))))) < 65536 := or16 (by omega) (by omega)
        have hb_13 : ∀ j_, upN (upN (f) ((1 + (2 * i))) ((f ((1 + (2 * i))) ||| sp_tells ((M 2) 4) (f ((2 + (2 * i)))) (f ((1 + (2 * i))))))) ((2 + (2 * i))) ((f ((2 + (2 * i))) ||| sp_tells ((M 2) 4) (f ((1 + (2 * i)))) (f ((2 + (2 * i)))))) j_ < 65536 := upN_lt hb_11 (by omega)
        refine r_ast (f := upN (f) ((1 + (2 * i))) ((f ((1 + (2 * i))) ||| sp_tells ((M 2) 4) (f ((2 + (2 * i)))) (f ((1 + (2 * i))))))) F B 5 (wM q cI (stR M 5 (upN (upN (f) ((1 + (2 * i))) ((f ((1 + (2 * i))) ||| sp_tells ((M 2) 4) (f ((2 + (2 * i)))) (f ((1 + (2 * i))))))) ((2 + (2 * i))) ((f ((2 + (2 * i))) ||| sp_tells ((M 2) 4) (f ((1 + (2 * i)))) (f ((2 + (2 * i))))))))) rfl dX4_ends_79 (by decide) (by omega) rfl (fun H locs B => ?_)
        refine r_aln F hl 0 rfl dX4_ends_80 rfl ?_
        refine gf_X4_22 F B.1 0 rfl (.ref (q 6)) rfl dX4_ends_81 ?_
        refine r_ic F 1 dX4_ends_84 rfl ?_
        refine r_ic F 2 dX4_ends_85 rfl ?_
        refine r_iln F hl 1 rfl dX4_ends_86 rfl ?_
        refine r_mul F dX4_ends_87 ?_
        refine r_add F dX4_ends_88 ?_
        refine r_aln F hl 0 rfl dX4_ends_89 rfl ?_
        refine gf_X4_22 F B.1 0 rfl (.ref (q 6)) rfl dX4_ends_90 ?_
        refine r_ic F 0 dX4_ends_93 rfl ?_
        refine r_ald (f := upN (upN (f) ((1 + (2 * i))) ((f ((1 + (2 * i))) ||| sp_tells ((M 2) 4) (f ((2 + (2 * i)))) (f ((1 + (2 * i))))))) ((2 + (2 * i))) ((f ((2 + (2 * i))) ||| sp_tells ((M 2) 4) (f ((1 + (2 * i)))) (f ((2 + (2 * i))))))) F B.1 5 rfl dX4_ends_94 (by decide) (by omega) ?_
        have b_14 : (upN (upN (f) ((1 + (2 * i))) ((f ((1 + (2 * i))) ||| sp_tells ((M 2) 4) (f ((2 + (2 * i)))) (f ((1 + (2 * i))))))) ((2 + (2 * i))) ((f ((2 + (2 * i))) ||| sp_tells ((M 2) 4) (f ((1 + (2 * i)))) (f ((2 + (2 * i))))))) (0) < 65536 := hb_13 (0)
        refine r_ic F 2 dX4_ends_95 rfl ?_
        refine r_rem F dX4_ends_96 (by omega) ?_
        refine r_add F dX4_ends_97 ?_
        refine r_dup2 F dX4_ends_98 rfl rfl ?_
        refine r_ald (f := upN (upN (f) ((1 + (2 * i))) ((f ((1 + (2 * i))) ||| sp_tells ((M 2) 4) (f ((2 + (2 * i)))) (f ((1 + (2 * i))))))) ((2 + (2 * i))) ((f ((2 + (2 * i))) ||| sp_tells ((M 2) 4) (f ((1 + (2 * i)))) (f ((2 + (2 * i))))))) F B.1 5 rfl dX4_ends_99 (by decide) (by omega) ?_
        have b_15 : (upN (upN (f) ((1 + (2 * i))) ((f ((1 + (2 * i))) ||| sp_tells ((M 2) 4) (f ((2 + (2 * i)))) (f ((1 + (2 * i))))))) ((2 + (2 * i))) ((f ((2 + (2 * i))) ||| sp_tells ((M 2) 4) (f ((1 + (2 * i)))) (f ((2 + (2 * i))))))) (((1 + (2 * i)) + ((upN (upN (f) ((1 + (2 * i))) ((f ((1 + (2 * i))) ||| sp_tells ((M 2) 4) (f ((2 + (2 * i)))) (f ((1 + (2 * i))))))) ((2 + (2 * i))) ((f ((2 + (2 * i))) ||| sp_tells ((M 2) 4) (f ((1 + (2 * i)))) (f ((2 + (2 * i))))))) (0) % 2))) < 65536 := hb_13 (((1 + (2 * i)) + ((upN (upN (f) ((1 + (2 * i))) ((f ((1 + (2 * i))) ||| sp_tells ((M 2) 4) (f ((2 + (2 * i)))) (f ((1 + (2 * i))))))) ((2 + (2 * i))) ((f ((2 + (2 * i))) ||| sp_tells ((M 2) 4) (f ((1 + (2 * i)))) (f ((2 + (2 * i))))))) (0) % 2)))
        refine r_aln F hl 0 rfl dX4_ends_100 rfl ?_
        refine gf_X4_22 F B.1 0 rfl (.ref (q 6)) rfl dX4_ends_101 ?_
        refine r_bp F 11 dX4_ends_104 rfl ?_
        refine r_iln F hl 1 rfl dX4_ends_106 rfl ?_
        refine r_add F dX4_ends_107 ?_
        refine r_ald (f := upN (upN (f) ((1 + (2 * i))) ((f ((1 + (2 * i))) ||| sp_tells ((M 2) 4) (f ((2 + (2 * i)))) (f ((1 + (2 * i))))))) ((2 + (2 * i))) ((f ((2 + (2 * i))) ||| sp_tells ((M 2) 4) (f ((1 + (2 * i)))) (f ((2 + (2 * i))))))) F B.1 5 rfl dX4_ends_108 (by decide) (by omega) ?_
        have b_16 : (upN (upN (f) ((1 + (2 * i))) ((f ((1 + (2 * i))) ||| sp_tells ((M 2) 4) (f ((2 + (2 * i)))) (f ((1 + (2 * i))))))) ((2 + (2 * i))) ((f ((2 + (2 * i))) ||| sp_tells ((M 2) 4) (f ((1 + (2 * i)))) (f ((2 + (2 * i))))))) ((11 + i)) < 65536 := hb_13 ((11 + i))
        refine r_or F dX4_ends_109 ?_
        have b_17 : ((upN (upN (f) ((1 + (2 * i))) ((f ((1 + (2 * i))) ||| sp_tells ((M 2) 4) (f ((2 + (2 * i)))) (f ((1 + (2 * i))))))) ((2 + (2 * i))) ((f ((2 + (2 * i))) ||| sp_tells ((M 2) 4) (f ((1 + (2 * i)))) (f ((2 + (2 * i))))))) (((1 + (2 * i)) + ((upN (upN (f) ((1 + (2 * i))) ((f ((1 + (2 * i))) ||| sp_tells ((M 2) 4) (f ((2 + (2 * i)))) (f ((1 + (2 * i))))))) ((2 + (2 * i))) ((f ((2 + (2 * i))) ||| sp_tells ((M 2) 4) (f ((1 + (2 * i)))) (f ((2 + (2 * i))))))) (0) % 2))) ||| (upN (upN (f) ((1 + (2 * i))) ((f ((1 + (2 * i))) ||| sp_tells ((M 2) 4) (f ((2 + (2 * i)))) (f ((1 + (2 * i))))))) ((2 + (2 * i))) ((f ((2 + (2 * i))) ||| sp_tells ((M 2) 4) (f ((1 + (2 * i)))) (f ((2 + (2 * i))))))) ((11 + i))) < 65536 := or16 (by omega) (by omega)
        have hb_18 : ∀ j_, upN (upN (upN (f) ((1 + (2 * i))) ((f ((1 + (2 * i))) ||| sp_tells ((M 2) 4) (f ((2 + (2 * i)))) (f ((1 + (2 * i))))))) ((2 + (2 * i))) ((f ((2 + (2 * i))) ||| sp_tells ((M 2) 4) (f ((1 + (2 * i)))) (f ((2 + (2 * i))))))) (((1 + (2 * i)) + ((upN (upN (f) ((1 + (2 * i))) ((f ((1 + (2 * i))) ||| sp_tells ((M 2) 4) (f ((2 + (2 * i)))) (f ((1 + (2 * i))))))) ((2 + (2 * i))) ((f ((2 + (2 * i))) ||| sp_tells ((M 2) 4) (f ((1 + (2 * i)))) (f ((2 + (2 * i))))))) (0) % 2))) (((upN (upN (f) ((1 + (2 * i))) ((f ((1 + (2 * i))) ||| sp_tells ((M 2) 4) (f ((2 + (2 * i)))) (f ((1 + (2 * i))))))) ((2 + (2 * i))) ((f ((2 + (2 * i))) ||| sp_tells ((M 2) 4) (f ((1 + (2 * i)))) (f ((2 + (2 * i))))))) (((1 + (2 * i)) + ((upN (upN (f) ((1 + (2 * i))) ((f ((1 + (2 * i))) ||| sp_tells ((M 2) 4) (f ((2 + (2 * i)))) (f ((1 + (2 * i))))))) ((2 + (2 * i))) ((f ((2 + (2 * i))) ||| sp_tells ((M 2) 4) (f ((1 + (2 * i)))) (f ((2 + (2 * i))))))) (0) % 2))) ||| (upN (upN (f) ((1 + (2 * i))) ((f ((1 + (2 * i))) ||| sp_tells ((M 2) 4) (f ((2 + (2 * i)))) (f ((1 + (2 * i))))))) ((2 + (2 * i))) ((f ((2 + (2 * i))) ||| sp_tells ((M 2) 4) (f ((1 + (2 * i)))) (f ((2 + (2 * i))))))) ((11 + i)))) j_ < 65536 := upN_lt hb_13 (by omega)
        refine r_ast (f := upN (upN (f) ((1 + (2 * i))) ((f ((1 + (2 * i))) ||| sp_tells ((M 2) 4) (f ((2 + (2 * i)))) (f ((1 + (2 * i))))))) ((2 + (2 * i))) ((f ((2 + (2 * i))) ||| sp_tells ((M 2) 4) (f ((1 + (2 * i)))) (f ((2 + (2 * i))))))) F B 5 (wM q cI (stR M 5 (upN (upN (upN (f) ((1 + (2 * i))) ((f ((1 + (2 * i))) ||| sp_tells ((M 2) 4) (f ((2 + (2 * i)))) (f ((1 + (2 * i))))))) ((2 + (2 * i))) ((f ((2 + (2 * i))) ||| sp_tells ((M 2) 4) (f ((1 + (2 * i)))) (f ((2 + (2 * i))))))) (((1 + (2 * i)) + ((upN (upN (f) ((1 + (2 * i))) ((f ((1 + (2 * i))) ||| sp_tells ((M 2) 4) (f ((2 + (2 * i)))) (f ((1 + (2 * i))))))) ((2 + (2 * i))) ((f ((2 + (2 * i))) ||| sp_tells ((M 2) 4) (f ((1 + (2 * i)))) (f ((2 + (2 * i))))))) (0) % 2))) (((upN (upN (f) ((1 + (2 * i))) ((f ((1 + (2 * i))) ||| sp_tells ((M 2) 4) (f ((2 + (2 * i)))) (f ((1 + (2 * i))))))) ((2 + (2 * i))) ((f ((2 + (2 * i))) ||| sp_tells ((M 2) 4) (f ((1 + (2 * i)))) (f ((2 + (2 * i))))))) (((1 + (2 * i)) + ((upN (upN (f) ((1 + (2 * i))) ((f ((1 + (2 * i))) ||| sp_tells ((M 2) 4) (f ((2 + (2 * i)))) (f ((1 + (2 * i))))))) ((2 + (2 * i))) ((f ((2 + (2 * i))) ||| sp_tells ((M 2) 4) (f ((1 + (2 * i)))) (f ((2 + (2 * i))))))) (0) % 2))) ||| (upN (upN (f) ((1 + (2 * i))) ((f ((1 + (2 * i))) ||| sp_tells ((M 2) 4) (f ((2 + (2 * i)))) (f ((1 + (2 * i))))))) ((2 + (2 * i))) ((f ((2 + (2 * i))) ||| sp_tells ((M 2) 4) (f ((1 + (2 * i)))) (f ((2 + (2 * i))))))) ((11 + i))))))) rfl dX4_ends_110 (by decide) (by omega) rfl (fun H locs B => ?_)
        refine r_aln F hl 0 rfl dX4_ends_111 rfl ?_
        refine gf_X4_22 F B.1 0 rfl (.ref (q 6)) rfl dX4_ends_112 ?_
        refine r_bp F 11 dX4_ends_115 rfl ?_
        refine r_iln F hl 1 rfl dX4_ends_117 rfl ?_
        refine r_add F dX4_ends_118 ?_
        refine r_ic F 0 dX4_ends_119 rfl ?_
        have hb_19 : ∀ j_, upN (upN (upN (upN (f) ((1 + (2 * i))) ((f ((1 + (2 * i))) ||| sp_tells ((M 2) 4) (f ((2 + (2 * i)))) (f ((1 + (2 * i))))))) ((2 + (2 * i))) ((f ((2 + (2 * i))) ||| sp_tells ((M 2) 4) (f ((1 + (2 * i)))) (f ((2 + (2 * i))))))) (((1 + (2 * i)) + ((upN (upN (f) ((1 + (2 * i))) ((f ((1 + (2 * i))) ||| sp_tells ((M 2) 4) (f ((2 + (2 * i)))) (f ((1 + (2 * i))))))) ((2 + (2 * i))) ((f ((2 + (2 * i))) ||| sp_tells ((M 2) 4) (f ((1 + (2 * i)))) (f ((2 + (2 * i))))))) (0) % 2))) (((upN (upN (f) ((1 + (2 * i))) ((f ((1 + (2 * i))) ||| sp_tells ((M 2) 4) (f ((2 + (2 * i)))) (f ((1 + (2 * i))))))) ((2 + (2 * i))) ((f ((2 + (2 * i))) ||| sp_tells ((M 2) 4) (f ((1 + (2 * i)))) (f ((2 + (2 * i))))))) (((1 + (2 * i)) + ((upN (upN (f) ((1 + (2 * i))) ((f ((1 + (2 * i))) ||| sp_tells ((M 2) 4) (f ((2 + (2 * i)))) (f ((1 + (2 * i))))))) ((2 + (2 * i))) ((f ((2 + (2 * i))) ||| sp_tells ((M 2) 4) (f ((1 + (2 * i)))) (f ((2 + (2 * i))))))) (0) % 2))) ||| (upN (upN (f) ((1 + (2 * i))) ((f ((1 + (2 * i))) ||| sp_tells ((M 2) 4) (f ((2 + (2 * i)))) (f ((1 + (2 * i))))))) ((2 + (2 * i))) ((f ((2 + (2 * i))) ||| sp_tells ((M 2) 4) (f ((1 + (2 * i)))) (f ((2 + (2 * i))))))) ((11 + i))))) ((11 + i)) (0) j_ < 65536 := upN_lt hb_18 (by omega)
        refine r_ast (f := upN (upN (upN (f) ((1 + (2 * i))) ((f ((1 + (2 * i))) ||| sp_tells ((M 2) 4) (f ((2 + (2 * i)))) (f ((1 + (2 * i))))))) ((2 + (2 * i))) ((f ((2 + (2 * i))) ||| sp_tells ((M 2) 4) (f ((1 + (2 * i)))) (f ((2 + (2 * i))))))) (((1 + (2 * i)) + ((upN (upN (f) ((1 + (2 * i))) ((f ((1 + (2 * i))) ||| sp_tells ((M 2) 4) (f ((2 + (2 * i)))) (f ((1 + (2 * i))))))) ((2 + (2 * i))) ((f ((2 + (2 * i))) ||| sp_tells ((M 2) 4) (f ((1 + (2 * i)))) (f ((2 + (2 * i))))))) (0) % 2))) (((upN (upN (f) ((1 + (2 * i))) ((f ((1 + (2 * i))) ||| sp_tells ((M 2) 4) (f ((2 + (2 * i)))) (f ((1 + (2 * i))))))) ((2 + (2 * i))) ((f ((2 + (2 * i))) ||| sp_tells ((M 2) 4) (f ((1 + (2 * i)))) (f ((2 + (2 * i))))))) (((1 + (2 * i)) + ((upN (upN (f) ((1 + (2 * i))) ((f ((1 + (2 * i))) ||| sp_tells ((M 2) 4) (f ((2 + (2 * i)))) (f ((1 + (2 * i))))))) ((2 + (2 * i))) ((f ((2 + (2 * i))) ||| sp_tells ((M 2) 4) (f ((1 + (2 * i)))) (f ((2 + (2 * i))))))) (0) % 2))) ||| (upN (upN (f) ((1 + (2 * i))) ((f ((1 + (2 * i))) ||| sp_tells ((M 2) 4) (f ((2 + (2 * i)))) (f ((1 + (2 * i))))))) ((2 + (2 * i))) ((f ((2 + (2 * i))) ||| sp_tells ((M 2) 4) (f ((1 + (2 * i)))) (f ((2 + (2 * i))))))) ((11 + i))))) F B 5 (wM q cI (stR M 5 (upN (upN (upN (upN (f) ((1 + (2 * i))) ((f ((1 + (2 * i))) ||| sp_tells ((M 2) 4) (f ((2 + (2 * i)))) (f ((1 + (2 * i))))))) ((2 + (2 * i))) ((f ((2 + (2 * i))) ||| sp_tells ((M 2) 4) (f ((1 + (2 * i)))) (f ((2 + (2 * i))))))) (((1 + (2 * i)) + ((upN (upN (f) ((1 + (2 * i))) ((f ((1 + (2 * i))) ||| sp_tells ((M 2) 4) (f ((2 + (2 * i)))) (f ((1 + (2 * i))))))) ((2 + (2 * i))) ((f ((2 + (2 * i))) ||| sp_tells ((M 2) 4) (f ((1 + (2 * i)))) (f ((2 + (2 * i))))))) (0) % 2))) (((upN (upN (f) ((1 + (2 * i))) ((f ((1 + (2 * i))) ||| sp_tells ((M 2) 4) (f ((2 + (2 * i)))) (f ((1 + (2 * i))))))) ((2 + (2 * i))) ((f ((2 + (2 * i))) ||| sp_tells ((M 2) 4) (f ((1 + (2 * i)))) (f ((2 + (2 * i))))))) (((1 + (2 * i)) + ((upN (upN (f) ((1 + (2 * i))) ((f ((1 + (2 * i))) ||| sp_tells ((M 2) 4) (f ((2 + (2 * i)))) (f ((1 + (2 * i))))))) ((2 + (2 * i))) ((f ((2 + (2 * i))) ||| sp_tells ((M 2) 4) (f ((1 + (2 * i)))) (f ((2 + (2 * i))))))) (0) % 2))) ||| (upN (upN (f) ((1 + (2 * i))) ((f ((1 + (2 * i))) ||| sp_tells ((M 2) 4) (f ((2 + (2 * i)))) (f ((1 + (2 * i))))))) ((2 + (2 * i))) ((f ((2 + (2 * i))) ||| sp_tells ((M 2) 4) (f ((1 + (2 * i)))) (f ((2 + (2 * i))))))) ((11 + i))))) ((11 + i)) (0)))) rfl dX4_ends_120 (by decide) (by omega) rfl (fun H locs B => ?_)
        refine r_inc (lv' := [(0, .ref (q 0)), (1, .int (iI (((i + 1) : Nat) : Int))), (2, .int (iI ((f ((1 + (2 * i))) : Nat) : Int))), (3, .int (iI ((f ((2 + (2 * i))) : Nat) : Int)))]) F hl 1 rfl dX4_ends_121 1 rfl (by decide) [1, 0, 2, 3] rfl (fun ls hl => ?_)
        refine r_goto 12 F dX4_ends_124 (by decide) ?_
        exact ih_4 ((i + 1)) (upN (upN (upN (upN (f) ((1 + (2 * i))) ((f ((1 + (2 * i))) ||| sp_tells ((M 2) 4) (f ((2 + (2 * i)))) (f ((1 + (2 * i))))))) ((2 + (2 * i))) ((f ((2 + (2 * i))) ||| sp_tells ((M 2) 4) (f ((1 + (2 * i)))) (f ((2 + (2 * i))))))) (((1 + (2 * i)) + ((upN (upN (f) ((1 + (2 * i))) ((f ((1 + (2 * i))) ||| sp_tells ((M 2) 4) (f ((2 + (2 * i)))) (f ((1 + (2 * i))))))) ((2 + (2 * i))) ((f ((2 + (2 * i))) ||| sp_tells ((M 2) 4) (f ((1 + (2 * i)))) (f ((2 + (2 * i))))))) (0) % 2))) (((upN (upN (f) ((1 + (2 * i))) ((f ((1 + (2 * i))) ||| sp_tells ((M 2) 4) (f ((2 + (2 * i)))) (f ((1 + (2 * i))))))) ((2 + (2 * i))) ((f ((2 + (2 * i))) ||| sp_tells ((M 2) 4) (f ((1 + (2 * i)))) (f ((2 + (2 * i))))))) (((1 + (2 * i)) + ((upN (upN (f) ((1 + (2 * i))) ((f ((1 + (2 * i))) ||| sp_tells ((M 2) 4) (f ((2 + (2 * i)))) (f ((1 + (2 * i))))))) ((2 + (2 * i))) ((f ((2 + (2 * i))) ||| sp_tells ((M 2) 4) (f ((1 + (2 * i)))) (f ((2 + (2 * i))))))) (0) % 2))) ||| (upN (upN (f) ((1 + (2 * i))) ((f ((1 + (2 * i))) ||| sp_tells ((M 2) 4) (f ((2 + (2 * i)))) (f ((1 + (2 * i))))))) ((2 + (2 * i))) ((f ((2 + (2 * i))) ||| sp_tells ((M 2) 4) (f ((1 + (2 * i)))) (f ((2 + (2 * i))))))) ((11 + i))))) ((11 + i)) (0)) _ _ ls (by omega) (by have h_ := hI; rw [lpR_step (by omega)] at h_; refine Eq.trans ?_ h_; first | rfl | (simp only [enB, c_7, (Nat.not_le.mpr c_7), if_true, if_false, Bool.and_true, Bool.true_and, Bool.and_false, Bool.false_and, Bool.and_self, Bool.false_eq_true, ↓reduceIte, decide_true, decide_false, Int.toNat_natCast, Bool.toNat_true, Bool.toNat_false]; done) | (simp [enB, c_7, (Nat.not_le.mpr c_7)]; done)) hb_19 (by omega) B (lv_sub hl [0, 1] rfl)
  exact lp_3 _ (0) (upN (M 5) (0) ((M 5 (0) + 1))) _ _ ls (Nat.lt_succ_self _) rfl hb_2 (by omega) B hl
abbrev rm_X4_plays : Room := { frames := 2, cells := 0, slots := 0, locals := 48 }
set_option maxHeartbeats 4000000 in
set_option maxRecDepth 100000 in
theorem k_X4_plays (l : Launch) (D : va_G) (cI cB : ClassId) (q : Nat → Nat) (M : St) (n : Nat) (hn : n ≤ 60) (hp : 1 ≤ M 2 0 ∧ M 2 0 ≤ 5) (hbk : ∀ k, M 2 k < 256) (hs : ∀ k, M 4 k < 65536) (hs0 : M 4 0 ≤ 9999) (ha : ∀ k, M 5 k < 65536) : CtV l yX4_plays cX4_plays 3 rm_X4_plays D cI cB [.ref (q 0), .int (iI ((n : Nat) : Int))] (wM q cI M) (wM q cI (stR M 5 (sp_plays (M 2) (M 4) (M 5) n))) := by
  refine CtV.of RX4 (by decide) rfl (Nat.le_of_ble_eq_true rfl) ?_
  intro p e s m args below meth c H0 ls A hH hA F hr hlk B hl
  have hl : lv_has ls 3 [(0, .ref (q 0)), (1, .int (iI ((n : Nat) : Int)))] := hl
  refine r_ic F 0 dX4_plays_0 rfl ?_
  refine r_isn (lv' := [(0, .ref (q 0)), (1, .int (iI ((n : Nat) : Int))), (2, .int (iI ((0 : Nat) : Int)))]) F hl dX4_plays_1 rfl (by decide) [1, 2, 0] rfl (fun ls hl => ?_)
  have lp_1 : ∀ (nn_ : Nat) (k : Nat) (f : Nat → Nat) (H : Heap) (locs : List Loc) (ls : Array Slot), 16 - k < nn_ → (lpR (fun k f => upN f k (M 4 k)) 16 k f = cp16 (M 4) (M 5)) → (∀ k, f k < 65536) → (k ≤ 16) → Bx D A H0 (wM q cI (stR M 5 (f))) H locs → lv_has ls 3 [(0, .ref (q 0)), (1, .int (iI ((n : Nat) : Int))), (2, .int (iI ((k : Nat) : Int)))] → W p l e rm_X4_plays s m args below meth c H locs 0 0 (Qw below args s D (wM q cI (stR M 5 (sp_plays (M 2) (M 4) (M 5) n))) A) (F0 m 2 ls []) := by
    intro nn_
    induction nn_ with
    | zero => intro k f H locs ls hlt; exact absurd hlt (Nat.not_lt_zero _)
    | succ nn_ ih =>
      have ih_2 := ih; clear ih
      intro k f H locs ls hlt hI hf hk B hl
      have hlt_3 := hlt
      refine r_iln F hl 2 rfl dX4_plays_2 rfl ?_
      refine r_bp F 16 dX4_plays_3 rfl ?_
      refine r_cge 26 F dX4_plays_5 (by decide) (by omega) (fun c_4 => ?_) (fun c_4 => ?_)
      · refine r_ic F 0 dX4_plays_26 rfl ?_
        refine r_isn (lv' := [(0, .ref (q 0)), (1, .int (iI ((n : Nat) : Int))), (2, .int (iI ((0 : Nat) : Int)))]) F hl dX4_plays_27 rfl (by decide) [1, 2, 0] rfl (fun ls hl => ?_)
        have lp_5 : ∀ (nn_ : Nat) (k2 : Nat) (f2 : Nat → Nat) (H : Heap) (locs : List Loc) (ls : Array Slot), n - k2 < nn_ → (lpR (fun _ => sp_ends (M 2)) n k2 f2 = sp_plays (M 2) (M 4) (M 5) n) → (∀ k, f2 k < 65536) → (f2 0 = M 4 0 + k2) → (k2 ≤ n) → Bx D A H0 (wM q cI (stR M 5 (f2))) H locs → lv_has ls 3 [(0, .ref (q 0)), (1, .int (iI ((n : Nat) : Int))), (2, .int (iI ((k2 : Nat) : Int)))] → W p l e rm_X4_plays s m args below meth c H locs 0 0 (Qw below args s D (wM q cI (stR M 5 (sp_plays (M 2) (M 4) (M 5) n))) A) (F0 m 28 ls []) := by
          intro nn_
          induction nn_ with
          | zero => intro k2 f2 H locs ls hlt; exact absurd hlt (Nat.not_lt_zero _)
          | succ nn_ ih =>
            have ih_6 := ih; clear ih
            intro k2 f2 H locs ls hlt hI2 hf2 h02 hk2 B hl
            have hlt_7 := hlt
            refine r_iln F hl 2 rfl dX4_plays_28 rfl ?_
            refine r_iln F hl 1 rfl dX4_plays_29 rfl ?_
            refine r_cge 43 F dX4_plays_30 (by decide) (by omega) (fun c_8 => ?_) (fun c_8 => ?_)
            · exact r_retV F hr hlk hH B dX4_plays_43 (by rw [show f2 = sp_plays (M 2) (M 4) (M 5) n from by rw [← hI2, lpR_end (by omega)]])
            · refine r_aln F hl 0 rfl dX4_plays_33 rfl ?_
              refine r_cvW F hA B (k_X4_ends l D cI cB (q) ((stR M 5 (f2)))  hp hbk hf2 (show (f2) 0 < 65535 from by omega)) gw_X4_112 rfl rfl ⟨⟨rfl, rfl⟩, Nat.le_of_ble_eq_true rfl, Nat.le_of_ble_eq_true rfl⟩ ⟨Nat.le_of_ble_eq_true rfl, Nat.le_of_ble_eq_true rfl⟩ hl.1 rfl [] rfl (Nat.le_of_ble_eq_true rfl) dX4_plays_34 (fun H locs B => ?_)
              have hb_9 : ∀ j_, (sp_ends (M 2) (f2)) j_ < 65536 := ends_lt hf2 (by omega)
              have hq_ := @ends_0 (M 2) (f2)
              refine r_inc (lv' := [(0, .ref (q 0)), (1, .int (iI ((n : Nat) : Int))), (2, .int (iI (((k2 + 1) : Nat) : Int)))]) F hl 2 rfl dX4_plays_37 1 rfl (by decide) [1, 2, 0] rfl (fun ls hl => ?_)
              refine r_goto 28 F dX4_plays_40 (by decide) ?_
              exact ih_6 ((k2 + 1)) (sp_ends (M 2) (f2)) _ _ ls (by omega) (by have h_ := hI2; rw [lpR_step (by omega)] at h_; refine Eq.trans ?_ h_; first | rfl | (simp only [c_4, (Nat.not_lt.mp c_4), c_8, (Nat.not_le.mpr c_8), if_true, if_false, Bool.and_true, Bool.true_and, Bool.and_false, Bool.false_and, Bool.and_self, Bool.false_eq_true, ↓reduceIte, decide_true, decide_false, Int.toNat_natCast, Bool.toNat_true, Bool.toNat_false]; done) | (simp [c_4, (Nat.not_lt.mp c_4), c_8, (Nat.not_le.mpr c_8)]; done)) hb_9 (by omega) (by omega) B hl
        exact lp_5 _ (0) (f) _ _ ls (Nat.lt_succ_self _) (by rw [show f = cp16 (M 4) (M 5) from by rw [← hI, lpR_end (by omega)]]; rfl) hf (by rw [show f = cp16 (M 4) (M 5) from by rw [← hI, lpR_end (by omega)]]; rfl) (by omega) B hl
      · refine r_aln F hl 0 rfl dX4_plays_8 rfl ?_
        refine gf_X4_22 F B.1 0 rfl (.ref (q 6)) rfl dX4_plays_9 ?_
        refine r_iln F hl 2 rfl dX4_plays_12 rfl ?_
        refine r_aln F hl 0 rfl dX4_plays_13 rfl ?_
        refine gf_X4_19 F B.1 0 rfl (.ref (q 5)) rfl dX4_plays_14 ?_
        refine r_iln F hl 2 rfl dX4_plays_17 rfl ?_
        refine r_ald (f := M 4) F B.1 4 rfl dX4_plays_18 (by decide) (by omega) ?_
        have b_10 : M 4 (k) < 65536 := hs (k)
        have hb_11 : ∀ j_, upN (f) (k) (M 4 (k)) j_ < 65536 := upN_lt hf (by omega)
        refine r_ast (f := f) F B 5 (wM q cI (stR M 5 (upN (f) (k) (M 4 (k))))) rfl dX4_plays_19 (by decide) (by omega) rfl (fun H locs B => ?_)
        refine r_inc (lv' := [(0, .ref (q 0)), (1, .int (iI ((n : Nat) : Int))), (2, .int (iI (((k + 1) : Nat) : Int)))]) F hl 2 rfl dX4_plays_20 1 rfl (by decide) [1, 2, 0] rfl (fun ls hl => ?_)
        refine r_goto 2 F dX4_plays_23 (by decide) ?_
        exact ih_2 ((k + 1)) (upN (f) (k) (M 4 (k))) _ _ ls (by omega) (by have h_ := hI; rw [lpR_step (by omega)] at h_; refine Eq.trans ?_ h_; first | rfl | (simp only [c_4, (Nat.not_le.mpr c_4), if_true, if_false, Bool.and_true, Bool.true_and, Bool.and_false, Bool.false_and, Bool.and_self, Bool.false_eq_true, ↓reduceIte, decide_true, decide_false, Int.toNat_natCast, Bool.toNat_true, Bool.toNat_false]; done) | (simp [c_4, (Nat.not_le.mpr c_4)]; done)) hb_11 (by omega) B hl
  exact lp_1 _ (0) (M 5) _ _ ls (Nat.lt_succ_self _) rfl ha (by omega) B hl
abbrev rm_X4_half : Room := { frames := 2, cells := 0, slots := 0, locals := 43 }
set_option maxHeartbeats 4000000 in
set_option maxRecDepth 100000 in
theorem k_X4_half (l : Launch) (D : va_G) (cI cB : ClassId) (q : Nat → Nat) (M : St) (i d w : Int) (hi : (-2147483648 ≤ i ∧ i < 2147483648)) (hd : (-2147483648 ≤ d ∧ d < 2147483648)) (hw : (-2147483648 ≤ w ∧ w < 2147483648)) (hp : 1 ≤ M 2 0 ∧ M 2 0 ≤ 5) (hbk : ∀ k, M 2 k < 256) (hs : ∀ k, M 4 k < 65536) : CtQ l yX4_half cX4_half 4 (some .int) rm_X4_half D cI cB [.ref (q 0), .int (iI (i)), .int (iI (d)), .int (iI (w))] (wM q cI M) ((iI (g_half (M 2) (M 4) i d w))) := by
  refine CtQ.of RX4 (by decide) rfl (Nat.le_of_ble_eq_true rfl) ?_
  intro p e s m args below meth c H ls hH F hr hlk P hl
  have hl : lv_has ls 4 [(0, .ref (q 0)), (1, .int (iI (i))), (2, .int (iI (d))), (3, .int (iI (w)))] := hl
  refine r_aln F hl 0 rfl dX4_half_0 rfl ?_
  refine r_iln F hl 1 rfl dX4_half_1 rfl ?_
  refine r_cq F P (k_X4_isPerson l D cI cB (q) (M) (i) (by omega) hbk) gw_X4_99 [0, 1, 2, 3, 4, 5, 6, 7, 8, 9, 10] rfl rfl rfl ⟨⟨rfl, rfl⟩, Nat.le_of_ble_eq_true rfl, Nat.le_of_ble_eq_true rfl⟩ ⟨Nat.le_of_ble_eq_true rfl, Nat.le_of_ble_eq_true rfl⟩ hl.1 rfl [] rfl (Nat.le_of_ble_eq_true rfl) dX4_half_2 ?_
  refine r_zeqb 26 F dX4_half_5 (by decide) (fun c_1 => ?_) (fun c_1 => ?_)
  · have c_1d := c_1
    simp only [isIn, isP, decide_eq_true_eq, decide_eq_false_iff_not] at c_1d
    refine r_icz F (-1) dX4_half_26 rfl ?_
    exact r_retQ F hr hlk hH dX4_half_27 (by first | rfl | (simp only [g_half, vHalf, c_1, if_true, if_false, Bool.and_true, Bool.true_and, Bool.and_false, Bool.false_and, Bool.and_self, Bool.false_eq_true, ↓reduceIte, decide_true, decide_false, Int.toNat_natCast, Bool.toNat_true, Bool.toNat_false]; first | done | rfl | (simp only [if_true, if_true, if_false, Bool.and_true, Bool.true_and, Bool.and_false, Bool.false_and, Bool.and_self, Bool.false_eq_true, ↓reduceIte, decide_true, decide_false, Int.toNat_natCast, Bool.toNat_true, Bool.toNat_false]; first | done | rfl) | (simp only [if_true]; first | done | rfl) | (simp [if_true]; done) | (simp [if_true]; first | rfl | omega)) | (simp [g_half, vHalf, c_1]; done) | (simp [g_half, vHalf, c_1]; omega) | (simp only [g_half, vHalf, c_1, if_true, if_false, Bool.and_true, Bool.true_and, Bool.and_false, Bool.false_and, Bool.and_self, Bool.false_eq_true, ↓reduceIte, decide_true, decide_false, Int.toNat_natCast, Bool.toNat_true, Bool.toNat_false]; try simp only [if_true, if_true, if_false, Bool.and_true, Bool.true_and, Bool.and_false, Bool.false_and, Bool.and_self, Bool.false_eq_true, ↓reduceIte, decide_true, decide_false, Int.toNat_natCast, Bool.toNat_true, Bool.toNat_false]; rfl))
  · have c_1d := c_1
    simp only [isIn, isP, decide_eq_true_eq, decide_eq_false_iff_not] at c_1d
    refine r_iln F hl 2 rfl dX4_half_8 rfl ?_
    refine r_ic F 0 dX4_half_9 rfl ?_
    refine r_ic F 1 dX4_half_10 rfl ?_
    refine r_sq F P (k_X4_in l D cI cB (d) ((0 : Int)) ((1 : Int)) (by omega) (by omega) (by omega)) gw_X4_40 [] rfl ⟨⟨rfl, rfl⟩, Nat.le_of_ble_eq_true rfl, Nat.le_of_ble_eq_true rfl⟩ ⟨Nat.le_of_ble_eq_true rfl, Nat.le_of_ble_eq_true rfl⟩ hl.1 rfl [] rfl (Nat.le_of_ble_eq_true rfl) dX4_half_11 ?_
    refine r_zeqb 26 F dX4_half_14 (by decide) (fun c_2 => ?_) (fun c_2 => ?_)
    · have c_2d := c_2
      simp only [isIn, isP, decide_eq_true_eq, decide_eq_false_iff_not] at c_2d
      refine r_icz F (-1) dX4_half_26 rfl ?_
      exact r_retQ F hr hlk hH dX4_half_27 (by first | rfl | (simp only [g_half, vHalf, c_1, c_2, if_true, if_false, Bool.and_true, Bool.true_and, Bool.and_false, Bool.false_and, Bool.and_self, Bool.false_eq_true, ↓reduceIte, decide_true, decide_false, Int.toNat_natCast, Bool.toNat_true, Bool.toNat_false]; first | done | rfl | (simp only [if_true, if_true, if_false, Bool.and_true, Bool.true_and, Bool.and_false, Bool.false_and, Bool.and_self, Bool.false_eq_true, ↓reduceIte, decide_true, decide_false, Int.toNat_natCast, Bool.toNat_true, Bool.toNat_false]; first | done | rfl) | (simp only [if_true]; first | done | rfl) | (simp [if_true]; done) | (simp [if_true]; first | rfl | omega)) | (simp [g_half, vHalf, c_1, c_2]; done) | (simp [g_half, vHalf, c_1, c_2]; omega) | (simp only [g_half, vHalf, c_1, c_2, if_true, if_false, Bool.and_true, Bool.true_and, Bool.and_false, Bool.false_and, Bool.and_self, Bool.false_eq_true, ↓reduceIte, decide_true, decide_false, Int.toNat_natCast, Bool.toNat_true, Bool.toNat_false]; try simp only [if_true, if_true, if_false, Bool.and_true, Bool.true_and, Bool.and_false, Bool.false_and, Bool.and_self, Bool.false_eq_true, ↓reduceIte, decide_true, decide_false, Int.toNat_natCast, Bool.toNat_true, Bool.toNat_false]; rfl))
    · have c_2d := c_2
      simp only [isIn, isP, decide_eq_true_eq, decide_eq_false_iff_not] at c_2d
      refine r_iln F hl 3 rfl dX4_half_17 rfl ?_
      refine r_ic F 0 dX4_half_18 rfl ?_
      refine r_ic F 2 dX4_half_19 rfl ?_
      refine r_sq F P (k_X4_in l D cI cB (w) ((0 : Int)) ((2 : Int)) (by omega) (by omega) (by omega)) gw_X4_40 [] rfl ⟨⟨rfl, rfl⟩, Nat.le_of_ble_eq_true rfl, Nat.le_of_ble_eq_true rfl⟩ ⟨Nat.le_of_ble_eq_true rfl, Nat.le_of_ble_eq_true rfl⟩ hl.1 rfl [] rfl (Nat.le_of_ble_eq_true rfl) dX4_half_20 ?_
      refine r_zneb 28 F dX4_half_23 (by decide) (fun c_3 => ?_) (fun c_3 => ?_)
      · have c_3d := c_3
        simp only [isIn, isP, decide_eq_true_eq, decide_eq_false_iff_not] at c_3d
        obtain ⟨i_, rfl⟩ : ∃ k : Nat, i = (k : Int) := ⟨i.toNat, by omega⟩
        have hl : lv_has ls 4 [(0, .ref (q 0)), (1, .int (iI ((i_ : Nat) : Int))), (2, .int (iI (d))), (3, .int (iI (w)))] := hl
        obtain ⟨d_, rfl⟩ : ∃ k : Nat, d = (k : Int) := ⟨d.toNat, by omega⟩
        have hl : lv_has ls 4 [(0, .ref (q 0)), (1, .int (iI ((i_ : Nat) : Int))), (2, .int (iI ((d_ : Nat) : Int))), (3, .int (iI (w)))] := hl
        obtain ⟨w_, rfl⟩ : ∃ k : Nat, w = (k : Int) := ⟨w.toNat, by omega⟩
        have hl : lv_has ls 4 [(0, .ref (q 0)), (1, .int (iI ((i_ : Nat) : Int))), (2, .int (iI ((d_ : Nat) : Int))), (3, .int (iI ((w_ : Nat) : Int)))] := hl
        refine r_iln F hl 3 rfl dX4_half_28 rfl ?_
        refine r_zne 48 F dX4_half_29 (by decide) (by omega) (fun c_4 => ?_) (fun c_4 => ?_)
        · refine r_iln F hl 3 rfl dX4_half_48 rfl ?_
          refine r_ic F 1 dX4_half_49 rfl ?_
          refine r_cne 68 F dX4_half_50 (by decide) (by omega) (fun c_5 => ?_) (fun c_5 => ?_)
          · refine r_iln F hl 2 rfl dX4_half_68 rfl ?_
            refine r_aln F hl 0 rfl dX4_half_69 rfl ?_
            refine r_cq F P (k_X4_awake l D cI cB (q) (M)  hs) gw_X4_102 [0, 1, 2, 3, 4, 5, 6, 7, 8, 9, 10] rfl rfl rfl ⟨⟨rfl, rfl⟩, Nat.le_of_ble_eq_true rfl, Nat.le_of_ble_eq_true rfl⟩ ⟨Nat.le_of_ble_eq_true rfl, Nat.le_of_ble_eq_true rfl⟩ hl.1 rfl [.int (iI ((d_ : Nat) : Int))] rfl (Nat.le_of_ble_eq_true rfl) dX4_half_70 ?_
            refine r_cne 80 F dX4_half_73 (by decide) (by omega) (fun c_6 => ?_) (fun c_6 => ?_)
            · refine r_aln F hl 0 rfl dX4_half_80 rfl ?_
              refine gf_X4_19 F P 0 rfl (.ref (q 5)) rfl dX4_half_81 ?_
              refine r_bp F 11 dX4_half_84 rfl ?_
              refine r_iln F hl 1 rfl dX4_half_86 rfl ?_
              refine r_add F dX4_half_87 ?_
              refine r_ald (f := M 4) F P 4 rfl dX4_half_88 (by decide) (by omega) ?_
              have b_7 : M 4 ((11 + i_)) < 65536 := hs ((11 + i_))
              exact r_retQ F hr hlk hH dX4_half_89 (by first | rfl | (simp only [g_half, vHalf, c_1, c_2, c_3, if_true, if_false, Bool.and_true, Bool.true_and, Bool.and_false, Bool.false_and, Bool.and_self, Bool.false_eq_true, ↓reduceIte, decide_true, decide_false, Int.toNat_natCast, Bool.toNat_true, Bool.toNat_false]; first | done | rfl | (simp only [c_4, c_5, c_6, if_true, if_false, Bool.and_true, Bool.true_and, Bool.and_false, Bool.false_and, Bool.and_self, Bool.false_eq_true, ↓reduceIte, decide_true, decide_false, Int.toNat_natCast, Bool.toNat_true, Bool.toNat_false]; first | done | rfl) | (simp only [if_neg c_4, if_neg c_5, if_neg c_6]; first | done | rfl) | (simp [c_4, c_5, c_6]; done) | (simp [c_4, c_5, c_6]; first | rfl | omega)) | (simp [g_half, vHalf, c_1, c_2, c_3, c_4, c_5, c_6]; done) | (simp [g_half, vHalf, c_1, c_2, c_3, c_4, c_5, c_6]; omega) | (simp only [g_half, vHalf, c_1, c_2, c_3, if_true, if_false, Bool.and_true, Bool.true_and, Bool.and_false, Bool.false_and, Bool.and_self, Bool.false_eq_true, ↓reduceIte, decide_true, decide_false, Int.toNat_natCast, Bool.toNat_true, Bool.toNat_false]; try simp only [c_4, c_5, c_6, if_true, if_false, Bool.and_true, Bool.true_and, Bool.and_false, Bool.false_and, Bool.and_self, Bool.false_eq_true, ↓reduceIte, decide_true, decide_false, Int.toNat_natCast, Bool.toNat_true, Bool.toNat_false]; rfl))
            · refine r_ic F 0 dX4_half_76 rfl ?_
              refine r_goto 89 F dX4_half_77 (by decide) ?_
              exact r_retQ F hr hlk hH dX4_half_89 (by first | rfl | (simp only [g_half, vHalf, c_1, c_2, c_3, if_true, if_false, Bool.and_true, Bool.true_and, Bool.and_false, Bool.false_and, Bool.and_self, Bool.false_eq_true, ↓reduceIte, decide_true, decide_false, Int.toNat_natCast, Bool.toNat_true, Bool.toNat_false]; first | done | rfl | (simp only [c_4, c_5, c_6, if_true, if_false, Bool.and_true, Bool.true_and, Bool.and_false, Bool.false_and, Bool.and_self, Bool.false_eq_true, ↓reduceIte, decide_true, decide_false, Int.toNat_natCast, Bool.toNat_true, Bool.toNat_false]; first | done | rfl) | (simp only [if_neg c_4, if_neg c_5, if_pos c_6]; first | done | rfl) | (simp [c_4, c_5, c_6]; done) | (simp [c_4, c_5, c_6]; first | rfl | omega)) | (simp [g_half, vHalf, c_1, c_2, c_3, c_4, c_5, c_6]; done) | (simp [g_half, vHalf, c_1, c_2, c_3, c_4, c_5, c_6]; omega) | (simp only [g_half, vHalf, c_1, c_2, c_3, if_true, if_false, Bool.and_true, Bool.true_and, Bool.and_false, Bool.false_and, Bool.and_self, Bool.false_eq_true, ↓reduceIte, decide_true, decide_false, Int.toNat_natCast, Bool.toNat_true, Bool.toNat_false]; try simp only [c_4, c_5, c_6, if_true, if_false, Bool.and_true, Bool.true_and, Bool.and_false, Bool.false_and, Bool.and_self, Bool.false_eq_true, ↓reduceIte, decide_true, decide_false, Int.toNat_natCast, Bool.toNat_true, Bool.toNat_false]; rfl))
          · refine r_aln F hl 0 rfl dX4_half_53 rfl ?_
            refine gf_X4_19 F P 0 rfl (.ref (q 5)) rfl dX4_half_54 ?_
            refine r_ic F 1 dX4_half_57 rfl ?_
            refine r_ic F 2 dX4_half_58 rfl ?_
            refine r_iln F hl 1 rfl dX4_half_59 rfl ?_
            refine r_mul F dX4_half_60 ?_
            refine r_add F dX4_half_61 ?_
            refine r_iln F hl 2 rfl dX4_half_62 rfl ?_
            refine r_add F dX4_half_63 ?_
            refine r_ald (f := M 4) F P 4 rfl dX4_half_64 (by decide) (by omega) ?_
            have b_8 : M 4 (((1 + (2 * i_)) + d_)) < 65536 := hs (((1 + (2 * i_)) + d_))
            refine r_goto 89 F dX4_half_65 (by decide) ?_
            exact r_retQ F hr hlk hH dX4_half_89 (by first | rfl | (simp only [g_half, vHalf, c_1, c_2, c_3, if_true, if_false, Bool.and_true, Bool.true_and, Bool.and_false, Bool.false_and, Bool.and_self, Bool.false_eq_true, ↓reduceIte, decide_true, decide_false, Int.toNat_natCast, Bool.toNat_true, Bool.toNat_false]; first | done | rfl | (simp only [c_4, c_5, if_true, if_false, Bool.and_true, Bool.true_and, Bool.and_false, Bool.false_and, Bool.and_self, Bool.false_eq_true, ↓reduceIte, decide_true, decide_false, Int.toNat_natCast, Bool.toNat_true, Bool.toNat_false]; first | done | rfl) | (simp only [if_neg c_4, if_pos c_5]; first | done | rfl) | (simp [c_4, c_5]; done) | (simp [c_4, c_5]; first | rfl | omega)) | (simp [g_half, vHalf, c_1, c_2, c_3, c_4, c_5]; done) | (simp [g_half, vHalf, c_1, c_2, c_3, c_4, c_5]; omega) | (simp only [g_half, vHalf, c_1, c_2, c_3, if_true, if_false, Bool.and_true, Bool.true_and, Bool.and_false, Bool.false_and, Bool.and_self, Bool.false_eq_true, ↓reduceIte, decide_true, decide_false, Int.toNat_natCast, Bool.toNat_true, Bool.toNat_false]; try simp only [c_4, c_5, if_true, if_false, Bool.and_true, Bool.true_and, Bool.and_false, Bool.false_and, Bool.and_self, Bool.false_eq_true, ↓reduceIte, decide_true, decide_false, Int.toNat_natCast, Bool.toNat_true, Bool.toNat_false]; rfl))
        · refine r_aln F hl 0 rfl dX4_half_32 rfl ?_
          refine gf_X4_13 F P 0 rfl (.ref (q 3)) rfl dX4_half_33 ?_
          refine r_bp F 8 dX4_half_36 rfl ?_
          refine r_ic F 2 dX4_half_38 rfl ?_
          refine r_iln F hl 1 rfl dX4_half_39 rfl ?_
          refine r_mul F dX4_half_40 ?_
          refine r_add F dX4_half_41 ?_
          refine r_iln F hl 2 rfl dX4_half_42 rfl ?_
          refine r_add F dX4_half_43 ?_
          refine r_ald (f := M 2) F P 2 rfl dX4_half_44 (by decide) (by omega) ?_
          have b_9 : M 2 (((8 + (2 * i_)) + d_)) < 256 := hbk (((8 + (2 * i_)) + d_))
          refine r_goto 89 F dX4_half_45 (by decide) ?_
          exact r_retQ F hr hlk hH dX4_half_89 (by first | rfl | (simp only [g_half, vHalf, c_1, c_2, c_3, if_true, if_false, Bool.and_true, Bool.true_and, Bool.and_false, Bool.false_and, Bool.and_self, Bool.false_eq_true, ↓reduceIte, decide_true, decide_false, Int.toNat_natCast, Bool.toNat_true, Bool.toNat_false]; first | done | rfl | (simp only [c_4, if_true, if_false, Bool.and_true, Bool.true_and, Bool.and_false, Bool.false_and, Bool.and_self, Bool.false_eq_true, ↓reduceIte, decide_true, decide_false, Int.toNat_natCast, Bool.toNat_true, Bool.toNat_false]; first | done | rfl) | (simp only [if_pos c_4]; first | done | rfl) | (simp [c_4]; done) | (simp [c_4]; first | rfl | omega)) | (simp [g_half, vHalf, c_1, c_2, c_3, c_4]; done) | (simp [g_half, vHalf, c_1, c_2, c_3, c_4]; omega) | (simp only [g_half, vHalf, c_1, c_2, c_3, if_true, if_false, Bool.and_true, Bool.true_and, Bool.and_false, Bool.false_and, Bool.and_self, Bool.false_eq_true, ↓reduceIte, decide_true, decide_false, Int.toNat_natCast, Bool.toNat_true, Bool.toNat_false]; try simp only [c_4, if_true, if_false, Bool.and_true, Bool.true_and, Bool.and_false, Bool.false_and, Bool.and_self, Bool.false_eq_true, ↓reduceIte, decide_true, decide_false, Int.toNat_natCast, Bool.toNat_true, Bool.toNat_false]; rfl))
      · have c_3d := c_3
        simp only [isIn, isP, decide_eq_true_eq, decide_eq_false_iff_not] at c_3d
        refine r_icz F (-1) dX4_half_26 rfl ?_
        exact r_retQ F hr hlk hH dX4_half_27 (by first | rfl | (simp only [g_half, vHalf, c_1, c_2, c_3, if_true, if_false, Bool.and_true, Bool.true_and, Bool.and_false, Bool.false_and, Bool.and_self, Bool.false_eq_true, ↓reduceIte, decide_true, decide_false, Int.toNat_natCast, Bool.toNat_true, Bool.toNat_false]; first | done | rfl | (simp only [if_true, if_true, if_false, Bool.and_true, Bool.true_and, Bool.and_false, Bool.false_and, Bool.and_self, Bool.false_eq_true, ↓reduceIte, decide_true, decide_false, Int.toNat_natCast, Bool.toNat_true, Bool.toNat_false]; first | done | rfl) | (simp only [if_true]; first | done | rfl) | (simp [if_true]; done) | (simp [if_true]; first | rfl | omega)) | (simp [g_half, vHalf, c_1, c_2, c_3]; done) | (simp [g_half, vHalf, c_1, c_2, c_3]; omega) | (simp only [g_half, vHalf, c_1, c_2, c_3, if_true, if_false, Bool.and_true, Bool.true_and, Bool.and_false, Bool.false_and, Bool.and_self, Bool.false_eq_true, ↓reduceIte, decide_true, decide_false, Int.toNat_natCast, Bool.toNat_true, Bool.toNat_false]; try simp only [if_true, if_true, if_false, Bool.and_true, Bool.true_and, Bool.and_false, Bool.false_and, Bool.and_self, Bool.false_eq_true, ↓reduceIte, decide_true, decide_false, Int.toNat_natCast, Bool.toNat_true, Bool.toNat_false]; rfl))
abbrev rm_X4_deed : Room := { frames := 2, cells := 0, slots := 0, locals := 43 }
set_option maxHeartbeats 4000000 in
set_option maxRecDepth 100000 in
theorem k_X4_deed (l : Launch) (D : va_G) (cI cB : ClassId) (q : Nat → Nat) (M : St) (i f : Int) (hi : (-2147483648 ≤ i ∧ i < 2147483648)) (hf : (-2147483648 ≤ f ∧ f < 2147483648)) (hp : 1 ≤ M 2 0 ∧ M 2 0 ≤ 5) (hbk : ∀ k, M 2 k < 256) (hs : ∀ k, M 4 k < 65536) : CtQ l yX4_deed cX4_deed 3 (some .int) rm_X4_deed D cI cB [.ref (q 0), .int (iI (i)), .int (iI (f))] (wM q cI M) ((iI (g_deed (M 2) (M 4) i f))) := by
  refine CtQ.of RX4 (by decide) rfl (Nat.le_of_ble_eq_true rfl) ?_
  intro p e s m args below meth c H ls hH F hr hlk P hl
  have hl : lv_has ls 3 [(0, .ref (q 0)), (1, .int (iI (i))), (2, .int (iI (f)))] := hl
  refine r_aln F hl 0 rfl dX4_deed_0 rfl ?_
  refine r_iln F hl 1 rfl dX4_deed_1 rfl ?_
  refine r_cq F P (k_X4_isPerson l D cI cB (q) (M) (i) (by omega) hbk) gw_X4_99 [0, 1, 2, 3, 4, 5, 6, 7, 8, 9, 10] rfl rfl rfl ⟨⟨rfl, rfl⟩, Nat.le_of_ble_eq_true rfl, Nat.le_of_ble_eq_true rfl⟩ ⟨Nat.le_of_ble_eq_true rfl, Nat.le_of_ble_eq_true rfl⟩ hl.1 rfl [] rfl (Nat.le_of_ble_eq_true rfl) dX4_deed_2 ?_
  refine r_zeqb 15 F dX4_deed_5 (by decide) (fun c_1 => ?_) (fun c_1 => ?_)
  · have c_1d := c_1
    simp only [isIn, isP, decide_eq_true_eq, decide_eq_false_iff_not] at c_1d
    refine r_icz F (-1) dX4_deed_15 rfl ?_
    exact r_retQ F hr hlk hH dX4_deed_16 (by first | rfl | (simp only [g_deed, vDeed, c_1, if_true, if_false, Bool.and_true, Bool.true_and, Bool.and_false, Bool.false_and, Bool.and_self, Bool.false_eq_true, ↓reduceIte, decide_true, decide_false, Int.toNat_natCast, Bool.toNat_true, Bool.toNat_false]; first | done | rfl | (simp only [if_true, if_true, if_false, Bool.and_true, Bool.true_and, Bool.and_false, Bool.false_and, Bool.and_self, Bool.false_eq_true, ↓reduceIte, decide_true, decide_false, Int.toNat_natCast, Bool.toNat_true, Bool.toNat_false]; first | done | rfl) | (simp only [if_true]; first | done | rfl) | (simp [if_true]; done) | (simp [if_true]; first | rfl | omega)) | (simp [g_deed, vDeed, c_1]; done) | (simp [g_deed, vDeed, c_1]; omega) | (simp only [g_deed, vDeed, c_1, if_true, if_false, Bool.and_true, Bool.true_and, Bool.and_false, Bool.false_and, Bool.and_self, Bool.false_eq_true, ↓reduceIte, decide_true, decide_false, Int.toNat_natCast, Bool.toNat_true, Bool.toNat_false]; try simp only [if_true, if_true, if_false, Bool.and_true, Bool.true_and, Bool.and_false, Bool.false_and, Bool.and_self, Bool.false_eq_true, ↓reduceIte, decide_true, decide_false, Int.toNat_natCast, Bool.toNat_true, Bool.toNat_false]; rfl))
  · have c_1d := c_1
    simp only [isIn, isP, decide_eq_true_eq, decide_eq_false_iff_not] at c_1d
    refine r_iln F hl 2 rfl dX4_deed_8 rfl ?_
    refine r_sq F P (k_X4_isSet l D cI cB (f) (by omega)) gw_X4_105 [] rfl ⟨⟨rfl, rfl⟩, Nat.le_of_ble_eq_true rfl, Nat.le_of_ble_eq_true rfl⟩ ⟨Nat.le_of_ble_eq_true rfl, Nat.le_of_ble_eq_true rfl⟩ hl.1 rfl [] rfl (Nat.le_of_ble_eq_true rfl) dX4_deed_9 ?_
    refine r_zneb 17 F dX4_deed_12 (by decide) (fun c_2 => ?_) (fun c_2 => ?_)
    · have c_2d := c_2
      simp only [isIn, isP, decide_eq_true_eq, decide_eq_false_iff_not] at c_2d
      obtain ⟨i_, rfl⟩ : ∃ k : Nat, i = (k : Int) := ⟨i.toNat, by omega⟩
      have hl : lv_has ls 3 [(0, .ref (q 0)), (1, .int (iI ((i_ : Nat) : Int))), (2, .int (iI (f)))] := hl
      obtain ⟨f_, rfl⟩ : ∃ k : Nat, f = (k : Int) := ⟨f.toNat, by omega⟩
      have hl : lv_has ls 3 [(0, .ref (q 0)), (1, .int (iI ((i_ : Nat) : Int))), (2, .int (iI ((f_ : Nat) : Int)))] := hl
      refine r_iln F hl 2 rfl dX4_deed_17 rfl ?_
      refine r_aln F hl 0 rfl dX4_deed_18 rfl ?_
      refine gf_X4_19 F P 0 rfl (.ref (q 5)) rfl dX4_deed_19 ?_
      refine r_ic F 1 dX4_deed_22 rfl ?_
      refine r_ic F 2 dX4_deed_23 rfl ?_
      refine r_iln F hl 1 rfl dX4_deed_24 rfl ?_
      refine r_mul F dX4_deed_25 ?_
      refine r_add F dX4_deed_26 ?_
      refine r_aln F hl 0 rfl dX4_deed_27 rfl ?_
      refine r_cq F P (k_X4_awake l D cI cB (q) (M)  hs) gw_X4_102 [0, 1, 2, 3, 4, 5, 6, 7, 8, 9, 10] rfl rfl rfl ⟨⟨rfl, rfl⟩, Nat.le_of_ble_eq_true rfl, Nat.le_of_ble_eq_true rfl⟩ ⟨Nat.le_of_ble_eq_true rfl, Nat.le_of_ble_eq_true rfl⟩ hl.1 rfl [.int (iI (((1 + (2 * i_)) : Nat) : Int)), .ref (q 5), .int (iI ((f_ : Nat) : Int))] rfl (Nat.le_of_ble_eq_true rfl) dX4_deed_28 ?_
      refine r_add F dX4_deed_31 ?_
      refine r_ald (f := M 4) F P 4 rfl dX4_deed_32 (by decide) (by omega) ?_
      have b_3 : M 4 (((1 + (2 * i_)) + ((M 4) 0 % 2))) < 65536 := hs (((1 + (2 * i_)) + ((M 4) 0 % 2)))
      refine r_icz F (-1) dX4_deed_33 rfl ?_
      refine r_xorr F dX4_deed_34 (iI (((M 4 (((1 + (2 * i_)) + ((M 4) 0 % 2))) : Nat) : Int)) ^^^ iI (-1)) rfl ?_
      refine r_andr F dX4_deed_35 _ (iI_anot _ _) ?_
      have b_4 : anot (f_) (M 4 (((1 + (2 * i_)) + ((M 4) 0 % 2)))) < 65536 := anot16 (by omega)
      refine r_zne 43 F dX4_deed_36 (by decide) (by omega) (fun c_5 => ?_) (fun c_5 => ?_)
      · refine r_ic F 0 dX4_deed_43 rfl ?_
        exact r_retQ F hr hlk hH dX4_deed_44 (by first | rfl | (simp only [g_deed, vDeed, c_1, c_2, if_true, if_false, Bool.and_true, Bool.true_and, Bool.and_false, Bool.false_and, Bool.and_self, Bool.false_eq_true, ↓reduceIte, decide_true, decide_false, Int.toNat_natCast, Bool.toNat_true, Bool.toNat_false]; first | done | rfl | (simp only [c_5, if_true, if_false, Bool.and_true, Bool.true_and, Bool.and_false, Bool.false_and, Bool.and_self, Bool.false_eq_true, ↓reduceIte, decide_true, decide_false, Int.toNat_natCast, Bool.toNat_true, Bool.toNat_false]; first | done | rfl) | (simp only [if_neg c_5]; first | done | rfl) | (simp [c_5]; done) | (simp [c_5]; first | rfl | omega)) | (simp [g_deed, vDeed, c_1, c_2, c_5]; done) | (simp [g_deed, vDeed, c_1, c_2, c_5]; omega) | (simp only [g_deed, vDeed, c_1, c_2, if_true, if_false, Bool.and_true, Bool.true_and, Bool.and_false, Bool.false_and, Bool.and_self, Bool.false_eq_true, ↓reduceIte, decide_true, decide_false, Int.toNat_natCast, Bool.toNat_true, Bool.toNat_false]; try simp only [c_5, if_true, if_false, Bool.and_true, Bool.true_and, Bool.and_false, Bool.false_and, Bool.and_self, Bool.false_eq_true, ↓reduceIte, decide_true, decide_false, Int.toNat_natCast, Bool.toNat_true, Bool.toNat_false]; rfl))
      · refine r_ic F 1 dX4_deed_39 rfl ?_
        refine r_goto 44 F dX4_deed_40 (by decide) ?_
        exact r_retQ F hr hlk hH dX4_deed_44 (by first | rfl | (simp only [g_deed, vDeed, c_1, c_2, if_true, if_false, Bool.and_true, Bool.true_and, Bool.and_false, Bool.false_and, Bool.and_self, Bool.false_eq_true, ↓reduceIte, decide_true, decide_false, Int.toNat_natCast, Bool.toNat_true, Bool.toNat_false]; first | done | rfl | (simp only [c_5, if_true, if_false, Bool.and_true, Bool.true_and, Bool.and_false, Bool.false_and, Bool.and_self, Bool.false_eq_true, ↓reduceIte, decide_true, decide_false, Int.toNat_natCast, Bool.toNat_true, Bool.toNat_false]; first | done | rfl) | (simp only [if_pos c_5]; first | done | rfl) | (simp [c_5]; done) | (simp [c_5]; first | rfl | omega)) | (simp [g_deed, vDeed, c_1, c_2, c_5]; done) | (simp [g_deed, vDeed, c_1, c_2, c_5]; omega) | (simp only [g_deed, vDeed, c_1, c_2, if_true, if_false, Bool.and_true, Bool.true_and, Bool.and_false, Bool.false_and, Bool.and_self, Bool.false_eq_true, ↓reduceIte, decide_true, decide_false, Int.toNat_natCast, Bool.toNat_true, Bool.toNat_false]; try simp only [c_5, if_true, if_false, Bool.and_true, Bool.true_and, Bool.and_false, Bool.false_and, Bool.and_self, Bool.false_eq_true, ↓reduceIte, decide_true, decide_false, Int.toNat_natCast, Bool.toNat_true, Bool.toNat_false]; rfl))
    · have c_2d := c_2
      simp only [isIn, isP, decide_eq_true_eq, decide_eq_false_iff_not] at c_2d
      refine r_icz F (-1) dX4_deed_15 rfl ?_
      exact r_retQ F hr hlk hH dX4_deed_16 (by first | rfl | (simp only [g_deed, vDeed, c_1, c_2, if_true, if_false, Bool.and_true, Bool.true_and, Bool.and_false, Bool.false_and, Bool.and_self, Bool.false_eq_true, ↓reduceIte, decide_true, decide_false, Int.toNat_natCast, Bool.toNat_true, Bool.toNat_false]; first | done | rfl | (simp only [if_true, if_true, if_false, Bool.and_true, Bool.true_and, Bool.and_false, Bool.false_and, Bool.and_self, Bool.false_eq_true, ↓reduceIte, decide_true, decide_false, Int.toNat_natCast, Bool.toNat_true, Bool.toNat_false]; first | done | rfl) | (simp only [if_true]; first | done | rfl) | (simp [if_true]; done) | (simp [if_true]; first | rfl | omega)) | (simp [g_deed, vDeed, c_1, c_2]; done) | (simp [g_deed, vDeed, c_1, c_2]; omega) | (simp only [g_deed, vDeed, c_1, c_2, if_true, if_false, Bool.and_true, Bool.true_and, Bool.and_false, Bool.false_and, Bool.and_self, Bool.false_eq_true, ↓reduceIte, decide_true, decide_false, Int.toNat_natCast, Bool.toNat_true, Bool.toNat_false]; try simp only [if_true, if_true, if_false, Bool.and_true, Bool.true_and, Bool.and_false, Bool.false_and, Bool.and_self, Bool.false_eq_true, ↓reduceIte, decide_true, decide_false, Int.toNat_natCast, Bool.toNat_true, Bool.toNat_false]; rfl))
abbrev rm_X4_see : Room := { frames := 2, cells := 0, slots := 0, locals := 43 }
set_option maxHeartbeats 4000000 in
set_option maxRecDepth 100000 in
theorem k_X4_see (l : Launch) (D : va_G) (cI cB : ClassId) (q : Nat → Nat) (M : St) (i f : Int) (hi : (-2147483648 ≤ i ∧ i < 2147483648)) (hf : (-2147483648 ≤ f ∧ f < 2147483648)) (hp : 1 ≤ M 2 0 ∧ M 2 0 ≤ 5) (hbk : ∀ k, M 2 k < 256) (hs : ∀ k, M 4 k < 65536) : CtU l yX4_see cX4_see 3 (some .int) rm_X4_see D cI cB [.ref (q 0), .int (iI (i)), .int (iI (f))] (wM q cI M) (wM q cI (stR M 4 (g_seeS (M 2) (M 4) i f))) ((iI (g_see (M 2) (M 4) i f))) := by
  refine CtU.of RX4 (by decide) rfl (Nat.le_of_ble_eq_true rfl) ?_
  intro p e s m args below meth c H0 ls A hH hA F hr hlk B hl
  have hl : lv_has ls 3 [(0, .ref (q 0)), (1, .int (iI (i))), (2, .int (iI (f)))] := hl
  refine r_aln F hl 0 rfl dX4_see_0 rfl ?_
  refine r_iln F hl 1 rfl dX4_see_1 rfl ?_
  refine r_cq F B.1 (k_X4_isPerson l D cI cB (q) (M) (i) (by omega) hbk) gw_X4_99 [0, 1, 2, 3, 4, 5, 6, 7, 8, 9, 10] rfl rfl rfl ⟨⟨rfl, rfl⟩, Nat.le_of_ble_eq_true rfl, Nat.le_of_ble_eq_true rfl⟩ ⟨Nat.le_of_ble_eq_true rfl, Nat.le_of_ble_eq_true rfl⟩ hl.1 rfl [] rfl (Nat.le_of_ble_eq_true rfl) dX4_see_2 ?_
  refine r_zeqb 18 F dX4_see_5 (by decide) (fun c_1 => ?_) (fun c_1 => ?_)
  · have c_1d := c_1
    simp only [isIn, isP, decide_eq_true_eq, decide_eq_false_iff_not] at c_1d
    refine r_icz F (-1) dX4_see_18 rfl ?_
    exact r_retU F hr hlk hH B dX4_see_19 (by first | rfl | (simp only [g_see, g_seeS, vSee, c_1, if_true, if_false, Bool.and_true, Bool.true_and, Bool.and_false, Bool.false_and, Bool.and_self, Bool.false_eq_true, ↓reduceIte, decide_true, decide_false, Int.toNat_natCast, Bool.toNat_true, Bool.toNat_false]; first | done | rfl | (simp only [if_true, if_true, if_false, Bool.and_true, Bool.true_and, Bool.and_false, Bool.false_and, Bool.and_self, Bool.false_eq_true, ↓reduceIte, decide_true, decide_false, Int.toNat_natCast, Bool.toNat_true, Bool.toNat_false]; first | done | rfl) | (simp only [if_true]; first | done | rfl) | (simp [if_true]; done) | (simp [if_true]; first | rfl | omega)) | (simp [g_see, g_seeS, vSee, c_1]; done) | (simp [g_see, g_seeS, vSee, c_1]; omega) | (simp only [g_see, g_seeS, vSee, c_1, if_true, if_false, Bool.and_true, Bool.true_and, Bool.and_false, Bool.false_and, Bool.and_self, Bool.false_eq_true, ↓reduceIte, decide_true, decide_false, Int.toNat_natCast, Bool.toNat_true, Bool.toNat_false]; try simp only [if_true, if_true, if_false, Bool.and_true, Bool.true_and, Bool.and_false, Bool.false_and, Bool.and_self, Bool.false_eq_true, ↓reduceIte, decide_true, decide_false, Int.toNat_natCast, Bool.toNat_true, Bool.toNat_false]; rfl)) (by first | rfl | (simp only [g_see, g_seeS, vSee, c_1, if_true, if_false, Bool.and_true, Bool.true_and, Bool.and_false, Bool.false_and, Bool.and_self, Bool.false_eq_true, ↓reduceIte, decide_true, decide_false, Int.toNat_natCast, Bool.toNat_true, Bool.toNat_false]; first | done | rfl | (simp only [if_true, if_true, if_false, Bool.and_true, Bool.true_and, Bool.and_false, Bool.false_and, Bool.and_self, Bool.false_eq_true, ↓reduceIte, decide_true, decide_false, Int.toNat_natCast, Bool.toNat_true, Bool.toNat_false]; first | done | rfl) | (simp only [if_true]; first | done | rfl) | (simp [if_true]; done) | (simp [if_true]; first | rfl | omega)) | (simp [g_see, g_seeS, vSee, c_1]; done) | (simp [g_see, g_seeS, vSee, c_1]; omega) | (simp only [g_see, g_seeS, vSee, c_1, if_true, if_false, Bool.and_true, Bool.true_and, Bool.and_false, Bool.false_and, Bool.and_self, Bool.false_eq_true, ↓reduceIte, decide_true, decide_false, Int.toNat_natCast, Bool.toNat_true, Bool.toNat_false]; try simp only [if_true, if_true, if_false, Bool.and_true, Bool.true_and, Bool.and_false, Bool.false_and, Bool.and_self, Bool.false_eq_true, ↓reduceIte, decide_true, decide_false, Int.toNat_natCast, Bool.toNat_true, Bool.toNat_false]; rfl))
  · have c_1d := c_1
    simp only [isIn, isP, decide_eq_true_eq, decide_eq_false_iff_not] at c_1d
    refine r_iln F hl 2 rfl dX4_see_8 rfl ?_
    refine r_ic F 0 dX4_see_9 rfl ?_
    refine r_bp F 7 dX4_see_10 rfl ?_
    refine r_sq F B.1 (k_X4_in l D cI cB (f) ((0 : Int)) ((7 : Int)) (by omega) (by omega) (by omega)) gw_X4_40 [] rfl ⟨⟨rfl, rfl⟩, Nat.le_of_ble_eq_true rfl, Nat.le_of_ble_eq_true rfl⟩ ⟨Nat.le_of_ble_eq_true rfl, Nat.le_of_ble_eq_true rfl⟩ hl.1 rfl [] rfl (Nat.le_of_ble_eq_true rfl) dX4_see_12 ?_
    refine r_zneb 20 F dX4_see_15 (by decide) (fun c_2 => ?_) (fun c_2 => ?_)
    · have c_2d := c_2
      simp only [isIn, isP, decide_eq_true_eq, decide_eq_false_iff_not] at c_2d
      obtain ⟨i_, rfl⟩ : ∃ k : Nat, i = (k : Int) := ⟨i.toNat, by omega⟩
      have hl : lv_has ls 3 [(0, .ref (q 0)), (1, .int (iI ((i_ : Nat) : Int))), (2, .int (iI (f)))] := hl
      obtain ⟨f_, rfl⟩ : ∃ k : Nat, f = (k : Int) := ⟨f.toNat, by omega⟩
      have hl : lv_has ls 3 [(0, .ref (q 0)), (1, .int (iI ((i_ : Nat) : Int))), (2, .int (iI ((f_ : Nat) : Int)))] := hl
      refine r_aln F hl 0 rfl dX4_see_20 rfl ?_
      refine gf_X4_19 F B.1 0 rfl (.ref (q 5)) rfl dX4_see_21 ?_
      refine r_ic F 1 dX4_see_24 rfl ?_
      refine r_ic F 2 dX4_see_25 rfl ?_
      refine r_iln F hl 1 rfl dX4_see_26 rfl ?_
      refine r_mul F dX4_see_27 ?_
      refine r_add F dX4_see_28 ?_
      refine r_aln F hl 0 rfl dX4_see_29 rfl ?_
      refine r_cq F B.1 (k_X4_awake l D cI cB (q) (M)  hs) gw_X4_102 [0, 1, 2, 3, 4, 5, 6, 7, 8, 9, 10] rfl rfl rfl ⟨⟨rfl, rfl⟩, Nat.le_of_ble_eq_true rfl, Nat.le_of_ble_eq_true rfl⟩ ⟨Nat.le_of_ble_eq_true rfl, Nat.le_of_ble_eq_true rfl⟩ hl.1 rfl [.int (iI (((1 + (2 * i_)) : Nat) : Int)), .ref (q 5)] rfl (Nat.le_of_ble_eq_true rfl) dX4_see_30 ?_
      refine r_add F dX4_see_33 ?_
      refine r_dup2 F dX4_see_34 rfl rfl ?_
      refine r_ald (f := M 4) F B.1 4 rfl dX4_see_35 (by decide) (by omega) ?_
      have b_3 : M 4 (((1 + (2 * i_)) + ((M 4) 0 % 2))) < 65536 := hs (((1 + (2 * i_)) + ((M 4) 0 % 2)))
      refine r_ic F 1 dX4_see_36 rfl ?_
      refine r_iln F hl 2 rfl dX4_see_37 rfl ?_
      have b_4 : 1 * 2 ^ (f_) < 65536 := pw16 (by omega)
      refine r_shl F dX4_see_38 ⟨by omega, by omega⟩ ?_
      refine r_or F dX4_see_39 ?_
      have b_5 : (M 4 (((1 + (2 * i_)) + ((M 4) 0 % 2))) ||| (1 * 2 ^ f_)) < 65536 := or16 (by omega) (by omega)
      have hb_6 : ∀ j_, upN (M 4) (((1 + (2 * i_)) + ((M 4) 0 % 2))) ((M 4 (((1 + (2 * i_)) + ((M 4) 0 % 2))) ||| (1 * 2 ^ f_))) j_ < 65536 := upN_lt hs (by omega)
      refine r_ast (f := M 4) F B 4 (wM q cI (stR M 4 (upN (M 4) (((1 + (2 * i_)) + ((M 4) 0 % 2))) ((M 4 (((1 + (2 * i_)) + ((M 4) 0 % 2))) ||| (1 * 2 ^ f_)))))) rfl dX4_see_40 (by decide) (by omega) rfl (fun H locs B => ?_)
      refine r_aln F hl 0 rfl dX4_see_41 rfl ?_
      refine gf_X4_19 F B.1 0 rfl (.ref (q 5)) rfl dX4_see_42 ?_
      refine r_ic F 1 dX4_see_45 rfl ?_
      refine r_ic F 2 dX4_see_46 rfl ?_
      refine r_iln F hl 1 rfl dX4_see_47 rfl ?_
      refine r_mul F dX4_see_48 ?_
      refine r_add F dX4_see_49 ?_
      refine r_aln F hl 0 rfl dX4_see_50 rfl ?_
      refine r_cq F B.1 (k_X4_awake l D cI cB (q) ((stR M 4 (upN (M 4) (((1 + (2 * i_)) + ((M 4) 0 % 2))) ((M 4 (((1 + (2 * i_)) + ((M 4) 0 % 2))) ||| (1 * 2 ^ f_))))))  hb_6) gw_X4_102 [0, 1, 2, 3, 4, 5, 6, 7, 8, 9, 10] rfl rfl rfl ⟨⟨rfl, rfl⟩, Nat.le_of_ble_eq_true rfl, Nat.le_of_ble_eq_true rfl⟩ ⟨Nat.le_of_ble_eq_true rfl, Nat.le_of_ble_eq_true rfl⟩ hl.1 rfl [.int (iI (((1 + (2 * i_)) : Nat) : Int)), .ref (q 5)] rfl (Nat.le_of_ble_eq_true rfl) dX4_see_51 ?_
      refine r_add F dX4_see_54 ?_
      refine r_ald (f := upN (M 4) (((1 + (2 * i_)) + ((M 4) 0 % 2))) ((M 4 (((1 + (2 * i_)) + ((M 4) 0 % 2))) ||| (1 * 2 ^ f_)))) F B.1 4 rfl dX4_see_55 (by decide) (by omega) ?_
      have b_7 : (upN (M 4) (((1 + (2 * i_)) + ((M 4) 0 % 2))) ((M 4 (((1 + (2 * i_)) + ((M 4) 0 % 2))) ||| (1 * 2 ^ f_)))) (((1 + (2 * i_)) + ((upN (M 4) (((1 + (2 * i_)) + ((M 4) 0 % 2))) ((M 4 (((1 + (2 * i_)) + ((M 4) 0 % 2))) ||| (1 * 2 ^ f_)))) 0 % 2))) < 65536 := hb_6 (((1 + (2 * i_)) + ((upN (M 4) (((1 + (2 * i_)) + ((M 4) 0 % 2))) ((M 4 (((1 + (2 * i_)) + ((M 4) 0 % 2))) ||| (1 * 2 ^ f_)))) 0 % 2)))
      exact r_retU F hr hlk hH B dX4_see_56 (by first | rfl | (simp only [g_see, g_seeS, vSee, c_1, c_2, if_true, if_false, Bool.and_true, Bool.true_and, Bool.and_false, Bool.false_and, Bool.and_self, Bool.false_eq_true, ↓reduceIte, decide_true, decide_false, Int.toNat_natCast, Bool.toNat_true, Bool.toNat_false]; first | done | rfl | (simp only [if_true, if_true, if_false, Bool.and_true, Bool.true_and, Bool.and_false, Bool.false_and, Bool.and_self, Bool.false_eq_true, ↓reduceIte, decide_true, decide_false, Int.toNat_natCast, Bool.toNat_true, Bool.toNat_false]; first | done | rfl) | (simp only [if_true]; first | done | rfl) | (simp [if_true]; done) | (simp [if_true]; first | rfl | omega)) | (simp [g_see, g_seeS, vSee, c_1, c_2]; done) | (simp [g_see, g_seeS, vSee, c_1, c_2]; omega) | (simp only [g_see, g_seeS, vSee, c_1, c_2, if_true, if_false, Bool.and_true, Bool.true_and, Bool.and_false, Bool.false_and, Bool.and_self, Bool.false_eq_true, ↓reduceIte, decide_true, decide_false, Int.toNat_natCast, Bool.toNat_true, Bool.toNat_false]; try simp only [if_true, if_true, if_false, Bool.and_true, Bool.true_and, Bool.and_false, Bool.false_and, Bool.and_self, Bool.false_eq_true, ↓reduceIte, decide_true, decide_false, Int.toNat_natCast, Bool.toNat_true, Bool.toNat_false]; rfl)) (by first | rfl | (simp only [g_see, g_seeS, vSee, c_1, c_2, if_true, if_false, Bool.and_true, Bool.true_and, Bool.and_false, Bool.false_and, Bool.and_self, Bool.false_eq_true, ↓reduceIte, decide_true, decide_false, Int.toNat_natCast, Bool.toNat_true, Bool.toNat_false]; first | done | rfl | (simp only [if_true, if_true, if_false, Bool.and_true, Bool.true_and, Bool.and_false, Bool.false_and, Bool.and_self, Bool.false_eq_true, ↓reduceIte, decide_true, decide_false, Int.toNat_natCast, Bool.toNat_true, Bool.toNat_false]; first | done | rfl) | (simp only [if_true]; first | done | rfl) | (simp [if_true]; done) | (simp [if_true]; first | rfl | omega)) | (simp [g_see, g_seeS, vSee, c_1, c_2]; done) | (simp [g_see, g_seeS, vSee, c_1, c_2]; omega) | (simp only [g_see, g_seeS, vSee, c_1, c_2, if_true, if_false, Bool.and_true, Bool.true_and, Bool.and_false, Bool.false_and, Bool.and_self, Bool.false_eq_true, ↓reduceIte, decide_true, decide_false, Int.toNat_natCast, Bool.toNat_true, Bool.toNat_false]; try simp only [if_true, if_true, if_false, Bool.and_true, Bool.true_and, Bool.and_false, Bool.false_and, Bool.and_self, Bool.false_eq_true, ↓reduceIte, decide_true, decide_false, Int.toNat_natCast, Bool.toNat_true, Bool.toNat_false]; rfl))
    · have c_2d := c_2
      simp only [isIn, isP, decide_eq_true_eq, decide_eq_false_iff_not] at c_2d
      refine r_icz F (-1) dX4_see_18 rfl ?_
      exact r_retU F hr hlk hH B dX4_see_19 (by first | rfl | (simp only [g_see, g_seeS, vSee, c_1, c_2, if_true, if_false, Bool.and_true, Bool.true_and, Bool.and_false, Bool.false_and, Bool.and_self, Bool.false_eq_true, ↓reduceIte, decide_true, decide_false, Int.toNat_natCast, Bool.toNat_true, Bool.toNat_false]; first | done | rfl | (simp only [if_true, if_true, if_false, Bool.and_true, Bool.true_and, Bool.and_false, Bool.false_and, Bool.and_self, Bool.false_eq_true, ↓reduceIte, decide_true, decide_false, Int.toNat_natCast, Bool.toNat_true, Bool.toNat_false]; first | done | rfl) | (simp only [if_true]; first | done | rfl) | (simp [if_true]; done) | (simp [if_true]; first | rfl | omega)) | (simp [g_see, g_seeS, vSee, c_1, c_2]; done) | (simp [g_see, g_seeS, vSee, c_1, c_2]; omega) | (simp only [g_see, g_seeS, vSee, c_1, c_2, if_true, if_false, Bool.and_true, Bool.true_and, Bool.and_false, Bool.false_and, Bool.and_self, Bool.false_eq_true, ↓reduceIte, decide_true, decide_false, Int.toNat_natCast, Bool.toNat_true, Bool.toNat_false]; try simp only [if_true, if_true, if_false, Bool.and_true, Bool.true_and, Bool.and_false, Bool.false_and, Bool.and_self, Bool.false_eq_true, ↓reduceIte, decide_true, decide_false, Int.toNat_natCast, Bool.toNat_true, Bool.toNat_false]; rfl)) (by first | rfl | (simp only [g_see, g_seeS, vSee, c_1, c_2, if_true, if_false, Bool.and_true, Bool.true_and, Bool.and_false, Bool.false_and, Bool.and_self, Bool.false_eq_true, ↓reduceIte, decide_true, decide_false, Int.toNat_natCast, Bool.toNat_true, Bool.toNat_false]; first | done | rfl | (simp only [if_true, if_true, if_false, Bool.and_true, Bool.true_and, Bool.and_false, Bool.false_and, Bool.and_self, Bool.false_eq_true, ↓reduceIte, decide_true, decide_false, Int.toNat_natCast, Bool.toNat_true, Bool.toNat_false]; first | done | rfl) | (simp only [if_true]; first | done | rfl) | (simp [if_true]; done) | (simp [if_true]; first | rfl | omega)) | (simp [g_see, g_seeS, vSee, c_1, c_2]; done) | (simp [g_see, g_seeS, vSee, c_1, c_2]; omega) | (simp only [g_see, g_seeS, vSee, c_1, c_2, if_true, if_false, Bool.and_true, Bool.true_and, Bool.and_false, Bool.false_and, Bool.and_self, Bool.false_eq_true, ↓reduceIte, decide_true, decide_false, Int.toNat_natCast, Bool.toNat_true, Bool.toNat_false]; try simp only [if_true, if_true, if_false, Bool.and_true, Bool.true_and, Bool.and_false, Bool.false_and, Bool.and_self, Bool.false_eq_true, ↓reduceIte, decide_true, decide_false, Int.toNat_natCast, Bool.toNat_true, Bool.toNat_false]; rfl))
abbrev rm_X4_note : Room := { frames := 2, cells := 0, slots := 0, locals := 43 }
set_option maxHeartbeats 4000000 in
set_option maxRecDepth 100000 in
theorem k_X4_note (l : Launch) (D : va_G) (cI cB : ClassId) (q : Nat → Nat) (M : St) (i f : Int) (hi : (-2147483648 ≤ i ∧ i < 2147483648)) (hf : (-2147483648 ≤ f ∧ f < 2147483648)) (hp : 1 ≤ M 2 0 ∧ M 2 0 ≤ 5) (hbk : ∀ k, M 2 k < 256) (hs : ∀ k, M 4 k < 65536) : CtU l yX4_note cX4_note 3 (some .int) rm_X4_note D cI cB [.ref (q 0), .int (iI (i)), .int (iI (f))] (wM q cI M) (wM q cI (stR M 4 (g_noteS (M 2) (M 4) i f))) ((iI (g_note (M 2) (M 4) i f))) := by
  refine CtU.of RX4 (by decide) rfl (Nat.le_of_ble_eq_true rfl) ?_
  intro p e s m args below meth c H0 ls A hH hA F hr hlk B hl
  have hl : lv_has ls 3 [(0, .ref (q 0)), (1, .int (iI (i))), (2, .int (iI (f)))] := hl
  refine r_aln F hl 0 rfl dX4_note_0 rfl ?_
  refine r_iln F hl 1 rfl dX4_note_1 rfl ?_
  refine r_cq F B.1 (k_X4_isPerson l D cI cB (q) (M) (i) (by omega) hbk) gw_X4_99 [0, 1, 2, 3, 4, 5, 6, 7, 8, 9, 10] rfl rfl rfl ⟨⟨rfl, rfl⟩, Nat.le_of_ble_eq_true rfl, Nat.le_of_ble_eq_true rfl⟩ ⟨Nat.le_of_ble_eq_true rfl, Nat.le_of_ble_eq_true rfl⟩ hl.1 rfl [] rfl (Nat.le_of_ble_eq_true rfl) dX4_note_2 ?_
  refine r_zeqb 18 F dX4_note_5 (by decide) (fun c_1 => ?_) (fun c_1 => ?_)
  · have c_1d := c_1
    simp only [isIn, isP, decide_eq_true_eq, decide_eq_false_iff_not] at c_1d
    refine r_icz F (-1) dX4_note_18 rfl ?_
    exact r_retU F hr hlk hH B dX4_note_19 (by first | rfl | (simp only [g_note, g_noteS, vSee, bNote, c_1, if_true, if_false, Bool.and_true, Bool.true_and, Bool.and_false, Bool.false_and, Bool.and_self, Bool.false_eq_true, ↓reduceIte, decide_true, decide_false, Int.toNat_natCast, Bool.toNat_true, Bool.toNat_false]; first | done | rfl | (simp only [if_true, if_true, if_false, Bool.and_true, Bool.true_and, Bool.and_false, Bool.false_and, Bool.and_self, Bool.false_eq_true, ↓reduceIte, decide_true, decide_false, Int.toNat_natCast, Bool.toNat_true, Bool.toNat_false]; first | done | rfl) | (simp only [if_true]; first | done | rfl) | (simp [if_true]; done) | (simp [if_true]; first | rfl | omega)) | (simp [g_note, g_noteS, vSee, bNote, c_1]; done) | (simp [g_note, g_noteS, vSee, bNote, c_1]; omega) | (simp only [g_note, g_noteS, vSee, bNote, c_1, if_true, if_false, Bool.and_true, Bool.true_and, Bool.and_false, Bool.false_and, Bool.and_self, Bool.false_eq_true, ↓reduceIte, decide_true, decide_false, Int.toNat_natCast, Bool.toNat_true, Bool.toNat_false]; try simp only [if_true, if_true, if_false, Bool.and_true, Bool.true_and, Bool.and_false, Bool.false_and, Bool.and_self, Bool.false_eq_true, ↓reduceIte, decide_true, decide_false, Int.toNat_natCast, Bool.toNat_true, Bool.toNat_false]; rfl)) (by first | rfl | (simp only [g_note, g_noteS, vSee, bNote, c_1, if_true, if_false, Bool.and_true, Bool.true_and, Bool.and_false, Bool.false_and, Bool.and_self, Bool.false_eq_true, ↓reduceIte, decide_true, decide_false, Int.toNat_natCast, Bool.toNat_true, Bool.toNat_false]; first | done | rfl | (simp only [if_true, if_true, if_false, Bool.and_true, Bool.true_and, Bool.and_false, Bool.false_and, Bool.and_self, Bool.false_eq_true, ↓reduceIte, decide_true, decide_false, Int.toNat_natCast, Bool.toNat_true, Bool.toNat_false]; first | done | rfl) | (simp only [if_true]; first | done | rfl) | (simp [if_true]; done) | (simp [if_true]; first | rfl | omega)) | (simp [g_note, g_noteS, vSee, bNote, c_1]; done) | (simp [g_note, g_noteS, vSee, bNote, c_1]; omega) | (simp only [g_note, g_noteS, vSee, bNote, c_1, if_true, if_false, Bool.and_true, Bool.true_and, Bool.and_false, Bool.false_and, Bool.and_self, Bool.false_eq_true, ↓reduceIte, decide_true, decide_false, Int.toNat_natCast, Bool.toNat_true, Bool.toNat_false]; try simp only [if_true, if_true, if_false, Bool.and_true, Bool.true_and, Bool.and_false, Bool.false_and, Bool.and_self, Bool.false_eq_true, ↓reduceIte, decide_true, decide_false, Int.toNat_natCast, Bool.toNat_true, Bool.toNat_false]; rfl))
  · have c_1d := c_1
    simp only [isIn, isP, decide_eq_true_eq, decide_eq_false_iff_not] at c_1d
    refine r_iln F hl 2 rfl dX4_note_8 rfl ?_
    refine r_ic F 0 dX4_note_9 rfl ?_
    refine r_bp F 7 dX4_note_10 rfl ?_
    refine r_sq F B.1 (k_X4_in l D cI cB (f) ((0 : Int)) ((7 : Int)) (by omega) (by omega) (by omega)) gw_X4_40 [] rfl ⟨⟨rfl, rfl⟩, Nat.le_of_ble_eq_true rfl, Nat.le_of_ble_eq_true rfl⟩ ⟨Nat.le_of_ble_eq_true rfl, Nat.le_of_ble_eq_true rfl⟩ hl.1 rfl [] rfl (Nat.le_of_ble_eq_true rfl) dX4_note_12 ?_
    refine r_zneb 20 F dX4_note_15 (by decide) (fun c_2 => ?_) (fun c_2 => ?_)
    · have c_2d := c_2
      simp only [isIn, isP, decide_eq_true_eq, decide_eq_false_iff_not] at c_2d
      obtain ⟨i_, rfl⟩ : ∃ k : Nat, i = (k : Int) := ⟨i.toNat, by omega⟩
      have hl : lv_has ls 3 [(0, .ref (q 0)), (1, .int (iI ((i_ : Nat) : Int))), (2, .int (iI (f)))] := hl
      obtain ⟨f_, rfl⟩ : ∃ k : Nat, f = (k : Int) := ⟨f.toNat, by omega⟩
      have hl : lv_has ls 3 [(0, .ref (q 0)), (1, .int (iI ((i_ : Nat) : Int))), (2, .int (iI ((f_ : Nat) : Int)))] := hl
      refine r_aln F hl 0 rfl dX4_note_20 rfl ?_
      refine gf_X4_19 F B.1 0 rfl (.ref (q 5)) rfl dX4_note_21 ?_
      refine r_ic F 1 dX4_note_24 rfl ?_
      refine r_ic F 2 dX4_note_25 rfl ?_
      refine r_iln F hl 1 rfl dX4_note_26 rfl ?_
      refine r_mul F dX4_note_27 ?_
      refine r_add F dX4_note_28 ?_
      refine r_aln F hl 0 rfl dX4_note_29 rfl ?_
      refine r_cq F B.1 (k_X4_awake l D cI cB (q) (M)  hs) gw_X4_102 [0, 1, 2, 3, 4, 5, 6, 7, 8, 9, 10] rfl rfl rfl ⟨⟨rfl, rfl⟩, Nat.le_of_ble_eq_true rfl, Nat.le_of_ble_eq_true rfl⟩ ⟨Nat.le_of_ble_eq_true rfl, Nat.le_of_ble_eq_true rfl⟩ hl.1 rfl [.int (iI (((1 + (2 * i_)) : Nat) : Int)), .ref (q 5)] rfl (Nat.le_of_ble_eq_true rfl) dX4_note_30 ?_
      refine r_add F dX4_note_33 ?_
      refine r_ald (f := M 4) F B.1 4 rfl dX4_note_34 (by decide) (by omega) ?_
      have b_3 : M 4 (((1 + (2 * i_)) + ((M 4) 0 % 2))) < 65536 := hs (((1 + (2 * i_)) + ((M 4) 0 % 2)))
      refine r_iln F hl 2 rfl dX4_note_35 rfl ?_
      refine r_shr F dX4_note_36 ⟨by omega, by omega⟩ ?_
      have b_4 : (M 4 (((1 + (2 * i_)) + ((M 4) 0 % 2))) / 2 ^ f_) ≤ M 4 (((1 + (2 * i_)) + ((M 4) 0 % 2))) := Nat.div_le_self _ _
      refine r_ic F 1 dX4_note_37 rfl ?_
      refine r_and F dX4_note_38 ?_
      have b_5 : ((M 4 (((1 + (2 * i_)) + ((M 4) 0 % 2))) / 2 ^ f_) &&& 1) ≤ 1 := Nat.and_le_right
      refine r_zne 45 F dX4_note_39 (by decide) (by omega) (fun c_6 => ?_) (fun c_6 => ?_)
      · refine r_aln F hl 0 rfl dX4_note_45 rfl ?_
        refine gf_X4_19 F B.1 0 rfl (.ref (q 5)) rfl dX4_note_46 ?_
        refine r_bp F 11 dX4_note_49 rfl ?_
        refine r_iln F hl 1 rfl dX4_note_51 rfl ?_
        refine r_add F dX4_note_52 ?_
        refine r_dup2 F dX4_note_53 rfl rfl ?_
        refine r_ald (f := M 4) F B.1 4 rfl dX4_note_54 (by decide) (by omega) ?_
        have b_7 : M 4 ((11 + i_)) < 65536 := hs ((11 + i_))
        refine r_ic F 1 dX4_note_55 rfl ?_
        refine r_iln F hl 2 rfl dX4_note_56 rfl ?_
        have b_8 : 1 * 2 ^ (f_) < 65536 := pw16 (by omega)
        refine r_shl F dX4_note_57 ⟨by omega, by omega⟩ ?_
        refine r_or F dX4_note_58 ?_
        have b_9 : (M 4 ((11 + i_)) ||| (1 * 2 ^ f_)) < 65536 := or16 (by omega) (by omega)
        have hb_10 : ∀ j_, upN (M 4) ((11 + i_)) ((M 4 ((11 + i_)) ||| (1 * 2 ^ f_))) j_ < 65536 := upN_lt hs (by omega)
        refine r_ast (f := M 4) F B 4 (wM q cI (stR M 4 (upN (M 4) ((11 + i_)) ((M 4 ((11 + i_)) ||| (1 * 2 ^ f_)))))) rfl dX4_note_59 (by decide) (by omega) rfl (fun H locs B => ?_)
        refine r_aln F hl 0 rfl dX4_note_60 rfl ?_
        refine gf_X4_19 F B.1 0 rfl (.ref (q 5)) rfl dX4_note_61 ?_
        refine r_bp F 11 dX4_note_64 rfl ?_
        refine r_iln F hl 1 rfl dX4_note_66 rfl ?_
        refine r_add F dX4_note_67 ?_
        refine r_ald (f := upN (M 4) ((11 + i_)) ((M 4 ((11 + i_)) ||| (1 * 2 ^ f_)))) F B.1 4 rfl dX4_note_68 (by decide) (by omega) ?_
        have b_11 : (upN (M 4) ((11 + i_)) ((M 4 ((11 + i_)) ||| (1 * 2 ^ f_)))) ((11 + i_)) < 65536 := hb_10 ((11 + i_))
        exact r_retU F hr hlk hH B dX4_note_69 (by first | rfl | (simp only [g_note, g_noteS, vSee, bNote, c_1, c_2, if_true, if_false, Bool.and_true, Bool.true_and, Bool.and_false, Bool.false_and, Bool.and_self, Bool.false_eq_true, ↓reduceIte, decide_true, decide_false, Int.toNat_natCast, Bool.toNat_true, Bool.toNat_false]; first | done | rfl | (simp only [c_6, if_true, if_false, Bool.and_true, Bool.true_and, Bool.and_false, Bool.false_and, Bool.and_self, Bool.false_eq_true, ↓reduceIte, decide_true, decide_false, Int.toNat_natCast, Bool.toNat_true, Bool.toNat_false]; first | done | rfl) | (simp only [if_neg c_6]; first | done | rfl) | (simp [c_6]; done) | (simp [c_6]; first | rfl | omega)) | (simp [g_note, g_noteS, vSee, bNote, c_1, c_2, c_6]; done) | (simp [g_note, g_noteS, vSee, bNote, c_1, c_2, c_6]; omega) | (simp only [g_note, g_noteS, vSee, bNote, c_1, c_2, if_true, if_false, Bool.and_true, Bool.true_and, Bool.and_false, Bool.false_and, Bool.and_self, Bool.false_eq_true, ↓reduceIte, decide_true, decide_false, Int.toNat_natCast, Bool.toNat_true, Bool.toNat_false]; try simp only [c_6, if_true, if_false, Bool.and_true, Bool.true_and, Bool.and_false, Bool.false_and, Bool.and_self, Bool.false_eq_true, ↓reduceIte, decide_true, decide_false, Int.toNat_natCast, Bool.toNat_true, Bool.toNat_false]; rfl)) (by first | rfl | (simp only [g_note, g_noteS, vSee, bNote, c_1, c_2, if_true, if_false, Bool.and_true, Bool.true_and, Bool.and_false, Bool.false_and, Bool.and_self, Bool.false_eq_true, ↓reduceIte, decide_true, decide_false, Int.toNat_natCast, Bool.toNat_true, Bool.toNat_false]; first | done | rfl | (simp only [c_6, if_true, if_false, Bool.and_true, Bool.true_and, Bool.and_false, Bool.false_and, Bool.and_self, Bool.false_eq_true, ↓reduceIte, decide_true, decide_false, Int.toNat_natCast, Bool.toNat_true, Bool.toNat_false]; first | done | rfl) | (simp only [if_neg c_6]; first | done | rfl) | (simp [c_6]; done) | (simp [c_6]; first | rfl | omega)) | (simp [g_note, g_noteS, vSee, bNote, c_1, c_2, c_6]; done) | (simp [g_note, g_noteS, vSee, bNote, c_1, c_2, c_6]; omega) | (simp only [g_note, g_noteS, vSee, bNote, c_1, c_2, if_true, if_false, Bool.and_true, Bool.true_and, Bool.and_false, Bool.false_and, Bool.and_self, Bool.false_eq_true, ↓reduceIte, decide_true, decide_false, Int.toNat_natCast, Bool.toNat_true, Bool.toNat_false]; try simp only [c_6, if_true, if_false, Bool.and_true, Bool.true_and, Bool.and_false, Bool.false_and, Bool.and_self, Bool.false_eq_true, ↓reduceIte, decide_true, decide_false, Int.toNat_natCast, Bool.toNat_true, Bool.toNat_false]; rfl))
      · refine r_bpz F (-2) dX4_note_42 rfl ?_
        exact r_retU F hr hlk hH B dX4_note_44 (by first | rfl | (simp only [g_note, g_noteS, vSee, bNote, c_1, c_2, if_true, if_false, Bool.and_true, Bool.true_and, Bool.and_false, Bool.false_and, Bool.and_self, Bool.false_eq_true, ↓reduceIte, decide_true, decide_false, Int.toNat_natCast, Bool.toNat_true, Bool.toNat_false]; first | done | rfl | (simp only [c_6, if_true, if_false, Bool.and_true, Bool.true_and, Bool.and_false, Bool.false_and, Bool.and_self, Bool.false_eq_true, ↓reduceIte, decide_true, decide_false, Int.toNat_natCast, Bool.toNat_true, Bool.toNat_false]; first | done | rfl) | (simp only [if_pos c_6]; first | done | rfl) | (simp [c_6]; done) | (simp [c_6]; first | rfl | omega)) | (simp [g_note, g_noteS, vSee, bNote, c_1, c_2, c_6]; done) | (simp [g_note, g_noteS, vSee, bNote, c_1, c_2, c_6]; omega) | (simp only [g_note, g_noteS, vSee, bNote, c_1, c_2, if_true, if_false, Bool.and_true, Bool.true_and, Bool.and_false, Bool.false_and, Bool.and_self, Bool.false_eq_true, ↓reduceIte, decide_true, decide_false, Int.toNat_natCast, Bool.toNat_true, Bool.toNat_false]; try simp only [c_6, if_true, if_false, Bool.and_true, Bool.true_and, Bool.and_false, Bool.false_and, Bool.and_self, Bool.false_eq_true, ↓reduceIte, decide_true, decide_false, Int.toNat_natCast, Bool.toNat_true, Bool.toNat_false]; rfl)) (by first | rfl | (simp only [g_note, g_noteS, vSee, bNote, c_1, c_2, if_true, if_false, Bool.and_true, Bool.true_and, Bool.and_false, Bool.false_and, Bool.and_self, Bool.false_eq_true, ↓reduceIte, decide_true, decide_false, Int.toNat_natCast, Bool.toNat_true, Bool.toNat_false]; first | done | rfl | (simp only [c_6, if_true, if_false, Bool.and_true, Bool.true_and, Bool.and_false, Bool.false_and, Bool.and_self, Bool.false_eq_true, ↓reduceIte, decide_true, decide_false, Int.toNat_natCast, Bool.toNat_true, Bool.toNat_false]; first | done | rfl) | (simp only [if_pos c_6]; first | done | rfl) | (simp [c_6]; done) | (simp [c_6]; first | rfl | omega)) | (simp [g_note, g_noteS, vSee, bNote, c_1, c_2, c_6]; done) | (simp [g_note, g_noteS, vSee, bNote, c_1, c_2, c_6]; omega) | (simp only [g_note, g_noteS, vSee, bNote, c_1, c_2, if_true, if_false, Bool.and_true, Bool.true_and, Bool.and_false, Bool.false_and, Bool.and_self, Bool.false_eq_true, ↓reduceIte, decide_true, decide_false, Int.toNat_natCast, Bool.toNat_true, Bool.toNat_false]; try simp only [c_6, if_true, if_false, Bool.and_true, Bool.true_and, Bool.and_false, Bool.false_and, Bool.and_self, Bool.false_eq_true, ↓reduceIte, decide_true, decide_false, Int.toNat_natCast, Bool.toNat_true, Bool.toNat_false]; rfl))
    · have c_2d := c_2
      simp only [isIn, isP, decide_eq_true_eq, decide_eq_false_iff_not] at c_2d
      refine r_icz F (-1) dX4_note_18 rfl ?_
      exact r_retU F hr hlk hH B dX4_note_19 (by first | rfl | (simp only [g_note, g_noteS, vSee, bNote, c_1, c_2, if_true, if_false, Bool.and_true, Bool.true_and, Bool.and_false, Bool.false_and, Bool.and_self, Bool.false_eq_true, ↓reduceIte, decide_true, decide_false, Int.toNat_natCast, Bool.toNat_true, Bool.toNat_false]; first | done | rfl | (simp only [if_true, if_true, if_false, Bool.and_true, Bool.true_and, Bool.and_false, Bool.false_and, Bool.and_self, Bool.false_eq_true, ↓reduceIte, decide_true, decide_false, Int.toNat_natCast, Bool.toNat_true, Bool.toNat_false]; first | done | rfl) | (simp only [if_true]; first | done | rfl) | (simp [if_true]; done) | (simp [if_true]; first | rfl | omega)) | (simp [g_note, g_noteS, vSee, bNote, c_1, c_2]; done) | (simp [g_note, g_noteS, vSee, bNote, c_1, c_2]; omega) | (simp only [g_note, g_noteS, vSee, bNote, c_1, c_2, if_true, if_false, Bool.and_true, Bool.true_and, Bool.and_false, Bool.false_and, Bool.and_self, Bool.false_eq_true, ↓reduceIte, decide_true, decide_false, Int.toNat_natCast, Bool.toNat_true, Bool.toNat_false]; try simp only [if_true, if_true, if_false, Bool.and_true, Bool.true_and, Bool.and_false, Bool.false_and, Bool.and_self, Bool.false_eq_true, ↓reduceIte, decide_true, decide_false, Int.toNat_natCast, Bool.toNat_true, Bool.toNat_false]; rfl)) (by first | rfl | (simp only [g_note, g_noteS, vSee, bNote, c_1, c_2, if_true, if_false, Bool.and_true, Bool.true_and, Bool.and_false, Bool.false_and, Bool.and_self, Bool.false_eq_true, ↓reduceIte, decide_true, decide_false, Int.toNat_natCast, Bool.toNat_true, Bool.toNat_false]; first | done | rfl | (simp only [if_true, if_true, if_false, Bool.and_true, Bool.true_and, Bool.and_false, Bool.false_and, Bool.and_self, Bool.false_eq_true, ↓reduceIte, decide_true, decide_false, Int.toNat_natCast, Bool.toNat_true, Bool.toNat_false]; first | done | rfl) | (simp only [if_true]; first | done | rfl) | (simp [if_true]; done) | (simp [if_true]; first | rfl | omega)) | (simp [g_note, g_noteS, vSee, bNote, c_1, c_2]; done) | (simp [g_note, g_noteS, vSee, bNote, c_1, c_2]; omega) | (simp only [g_note, g_noteS, vSee, bNote, c_1, c_2, if_true, if_false, Bool.and_true, Bool.true_and, Bool.and_false, Bool.false_and, Bool.and_self, Bool.false_eq_true, ↓reduceIte, decide_true, decide_false, Int.toNat_natCast, Bool.toNat_true, Bool.toNat_false]; try simp only [if_true, if_true, if_false, Bool.and_true, Bool.true_and, Bool.and_false, Bool.false_and, Bool.and_self, Bool.false_eq_true, ↓reduceIte, decide_true, decide_false, Int.toNat_natCast, Bool.toNat_true, Bool.toNat_false]; rfl))
abbrev rm_X4_shifts : Room := { frames := 3, cells := 0, slots := 0, locals := 70 }
set_option maxHeartbeats 4000000 in
set_option maxRecDepth 100000 in
theorem k_X4_shifts (l : Launch) (D : va_G) (cI cB : ClassId) (q : Nat → Nat) (M : St) (n : Int) (hn : (-2147483648 ≤ n ∧ n < 2147483648)) (hp : 1 ≤ M 2 0 ∧ M 2 0 ≤ 5) (hbk : ∀ k, M 2 k < 256) (hs : ∀ k, M 4 k < 65536) (hs0 : M 4 0 ≤ 9999) (ha : ∀ k, M 5 k < 65536) : CtU l yX4_shifts cX4_shifts 3 (some .int) rm_X4_shifts D cI cB [.ref (q 0), .int (iI (n))] (wM q cI M) (wM q cI (stR (stR M 4 (g_shiftsS (M 2) (M 4) (M 5) n)) 5 (g_shiftsA (M 2) (M 4) (M 5) n))) ((iI (g_shifts (M 2) (M 4) (M 5) n))) := by
  refine CtU.of RX4 (by decide) rfl (Nat.le_of_ble_eq_true rfl) ?_
  intro p e s m args below meth c H0 ls A hH hA F hr hlk B hl
  have hl : lv_has ls 3 [(0, .ref (q 0)), (1, .int (iI (n)))] := hl
  refine r_iln F hl 1 rfl dX4_shifts_0 rfl ?_
  refine r_ic F 1 dX4_shifts_1 rfl ?_
  refine r_bp F 40 dX4_shifts_2 rfl ?_
  refine r_sq F B.1 (k_X4_in l D cI cB (n) ((1 : Int)) ((40 : Int)) (by omega) (by omega) (by omega)) gw_X4_40 [] rfl ⟨⟨rfl, rfl⟩, Nat.le_of_ble_eq_true rfl, Nat.le_of_ble_eq_true rfl⟩ ⟨Nat.le_of_ble_eq_true rfl, Nat.le_of_ble_eq_true rfl⟩ hl.1 rfl [] rfl (Nat.le_of_ble_eq_true rfl) dX4_shifts_4 ?_
  refine r_zneb 12 F dX4_shifts_7 (by decide) (fun c_1 => ?_) (fun c_1 => ?_)
  · have c_1d := c_1
    simp only [isIn, isP, decide_eq_true_eq, decide_eq_false_iff_not] at c_1d
    obtain ⟨n_, rfl⟩ : ∃ k : Nat, n = (k : Int) := ⟨n.toNat, by omega⟩
    have hl : lv_has ls 3 [(0, .ref (q 0)), (1, .int (iI ((n_ : Nat) : Int)))] := hl
    refine r_aln F hl 0 rfl dX4_shifts_12 rfl ?_
    refine gf_X4_19 F B.1 0 rfl (.ref (q 5)) rfl dX4_shifts_13 ?_
    refine r_ic F 0 dX4_shifts_16 rfl ?_
    refine r_ald (f := M 4) F B.1 4 rfl dX4_shifts_17 (by decide) (by omega) ?_
    have b_2 : M 4 (0) < 65536 := hs (0)
    refine r_iln F hl 1 rfl dX4_shifts_18 rfl ?_
    refine r_add F dX4_shifts_19 ?_
    refine r_sp F 9999 dX4_shifts_20 rfl ?_
    refine r_cle 29 F dX4_shifts_23 (by decide) (by omega) (fun c_3 => ?_) (fun c_3 => ?_)
    · have hv_ : decide (M 4 0 + n_ ≤ 9999) = true := decide_eq_true (by omega)
      refine r_aln F hl 0 rfl dX4_shifts_29 rfl ?_
      refine r_iln F hl 1 rfl dX4_shifts_30 rfl ?_
      refine r_cvW F hA B (k_X4_plays l D cI cB (q) (M) (n_) (by omega) hp hbk hs hs0 ha) gw_X4_115 rfl rfl ⟨⟨rfl, rfl⟩, Nat.le_of_ble_eq_true rfl, Nat.le_of_ble_eq_true rfl⟩ ⟨Nat.le_of_ble_eq_true rfl, Nat.le_of_ble_eq_true rfl⟩ hl.1 rfl [] rfl (Nat.le_of_ble_eq_true rfl) dX4_shifts_31 (fun H locs B => ?_)
      have hb_4 : ∀ j_, (sp_plays (M 2) (M 4) (M 5) (n_)) j_ < 65536 := (plays_all hs ha (by omega)).1
      have hq_ := (@plays_all (M 2) (M 4) (M 5) (n_) hs ha (by omega)).2
      refine r_ic F 0 dX4_shifts_34 rfl ?_
      refine r_isn (lv' := [(0, .ref (q 0)), (1, .int (iI ((n_ : Nat) : Int))), (2, .int (iI ((0 : Nat) : Int)))]) F hl dX4_shifts_35 rfl (by decide) [1, 2, 0] rfl (fun ls hl => ?_)
      have lp_5 : ∀ (nn_ : Nat) (k : Nat) (f : Nat → Nat) (H : Heap) (locs : List Loc) (ls : Array Slot), 16 - k < nn_ → (lpR (fun k f => upN f k (sp_plays (M 2) (M 4) (M 5) n_ k)) 16 k f = cp16 (sp_plays (M 2) (M 4) (M 5) n_) (M 4)) → (∀ k, f k < 65536) → (k ≤ 16) → Bx D A H0 (wM q cI (stR (stR M 5 (sp_plays (M 2) (M 4) (M 5) (n_))) 4 (f))) H locs → lv_has ls 3 [(0, .ref (q 0)), (1, .int (iI ((n_ : Nat) : Int))), (2, .int (iI ((k : Nat) : Int)))] → W p l e rm_X4_shifts s m args below meth c H locs 0 0 (Qu below args s D ((iI (g_shifts (M 2) (M 4) (M 5) ((n_ : Nat) : Int)))) (wM q cI (stR (stR M 4 (g_shiftsS (M 2) (M 4) (M 5) ((n_ : Nat) : Int))) 5 (g_shiftsA (M 2) (M 4) (M 5) ((n_ : Nat) : Int)))) A) (F0 m 36 ls []) := by
        intro nn_
        induction nn_ with
        | zero => intro k f H locs ls hlt; exact absurd hlt (Nat.not_lt_zero _)
        | succ nn_ ih =>
          have ih_6 := ih; clear ih
          intro k f H locs ls hlt hI hf hk B hl
          have hlt_7 := hlt
          refine r_iln F hl 2 rfl dX4_shifts_36 rfl ?_
          refine r_bp F 16 dX4_shifts_37 rfl ?_
          refine r_cge 60 F dX4_shifts_39 (by decide) (by omega) (fun c_8 => ?_) (fun c_8 => ?_)
          · obtain rfl : f = cp16 (sp_plays (M 2) (M 4) (M 5) n_) (M 4) := by rw [← hI, lpR_end (by omega)]
            refine r_aln F hl 0 rfl dX4_shifts_60 rfl ?_
            refine gf_X4_19 F B.1 0 rfl (.ref (q 5)) rfl dX4_shifts_61 ?_
            refine r_ic F 0 dX4_shifts_64 rfl ?_
            refine r_ald (f := (cp16 (sp_plays (M 2) (M 4) (M 5) n_) (M 4))) F B.1 4 rfl dX4_shifts_65 (by decide) (by omega) ?_
            have b_9 : ((cp16 (sp_plays (M 2) (M 4) (M 5) n_) (M 4))) (0) < 65536 := hf (0)
            exact r_retU F hr hlk hH B dX4_shifts_66 (by first | rfl | (simp only [g_shifts, g_shiftsS, vShift, c_1, hv_, if_true, if_false, Bool.and_true, Bool.true_and, Bool.and_false, Bool.false_and, Bool.and_self, Bool.false_eq_true, ↓reduceIte, decide_true, decide_false, Int.toNat_natCast, Bool.toNat_true, Bool.toNat_false]; first | done | rfl | (simp only [c_3, (Nat.not_lt.mp c_3), c_8, (Nat.not_lt.mp c_8), if_true, if_false, Bool.and_true, Bool.true_and, Bool.and_false, Bool.false_and, Bool.and_self, Bool.false_eq_true, ↓reduceIte, decide_true, decide_false, Int.toNat_natCast, Bool.toNat_true, Bool.toNat_false]; first | done | rfl) | (simp only [if_neg c_3, if_pos (Nat.not_lt.mp c_3), if_neg c_8, if_pos (Nat.not_lt.mp c_8)]; first | done | rfl) | (simp [c_3, (Nat.not_lt.mp c_3), c_8, (Nat.not_lt.mp c_8)]; done) | (simp [c_3, (Nat.not_lt.mp c_3), c_8, (Nat.not_lt.mp c_8)]; first | rfl | omega)) | (simp [g_shifts, g_shiftsS, vShift, c_1, c_3, (Nat.not_lt.mp c_3), c_8, (Nat.not_lt.mp c_8), hv_]; done) | (simp [g_shifts, g_shiftsS, vShift, c_1, c_3, (Nat.not_lt.mp c_3), c_8, (Nat.not_lt.mp c_8), hv_]; omega) | (simp only [g_shifts, g_shiftsS, vShift, c_1, hv_, if_true, if_false, Bool.and_true, Bool.true_and, Bool.and_false, Bool.false_and, Bool.and_self, Bool.false_eq_true, ↓reduceIte, decide_true, decide_false, Int.toNat_natCast, Bool.toNat_true, Bool.toNat_false]; try simp only [c_3, (Nat.not_lt.mp c_3), c_8, (Nat.not_lt.mp c_8), if_true, if_false, Bool.and_true, Bool.true_and, Bool.and_false, Bool.false_and, Bool.and_self, Bool.false_eq_true, ↓reduceIte, decide_true, decide_false, Int.toNat_natCast, Bool.toNat_true, Bool.toNat_false]; rfl)) (by first | rfl | (simp only [g_shiftsS, g_shiftsA, vShift, c_1, hv_, if_true, if_false, Bool.and_true, Bool.true_and, Bool.and_false, Bool.false_and, Bool.and_self, Bool.false_eq_true, ↓reduceIte, decide_true, decide_false, Int.toNat_natCast, Bool.toNat_true, Bool.toNat_false]; first | done | rfl | (simp only [c_3, (Nat.not_lt.mp c_3), c_8, (Nat.not_lt.mp c_8), if_true, if_false, Bool.and_true, Bool.true_and, Bool.and_false, Bool.false_and, Bool.and_self, Bool.false_eq_true, ↓reduceIte, decide_true, decide_false, Int.toNat_natCast, Bool.toNat_true, Bool.toNat_false]; first | done | rfl) | (simp only [if_neg c_3, if_pos (Nat.not_lt.mp c_3), if_neg c_8, if_pos (Nat.not_lt.mp c_8)]; first | done | rfl) | (simp [c_3, (Nat.not_lt.mp c_3), c_8, (Nat.not_lt.mp c_8)]; done) | (simp [c_3, (Nat.not_lt.mp c_3), c_8, (Nat.not_lt.mp c_8)]; first | rfl | omega)) | (simp [g_shiftsS, g_shiftsA, vShift, c_1, c_3, (Nat.not_lt.mp c_3), c_8, (Nat.not_lt.mp c_8), hv_]; done) | (simp [g_shiftsS, g_shiftsA, vShift, c_1, c_3, (Nat.not_lt.mp c_3), c_8, (Nat.not_lt.mp c_8), hv_]; omega) | (simp only [g_shiftsS, g_shiftsA, vShift, c_1, hv_, if_true, if_false, Bool.and_true, Bool.true_and, Bool.and_false, Bool.false_and, Bool.and_self, Bool.false_eq_true, ↓reduceIte, decide_true, decide_false, Int.toNat_natCast, Bool.toNat_true, Bool.toNat_false]; try simp only [c_3, (Nat.not_lt.mp c_3), c_8, (Nat.not_lt.mp c_8), if_true, if_false, Bool.and_true, Bool.true_and, Bool.and_false, Bool.false_and, Bool.and_self, Bool.false_eq_true, ↓reduceIte, decide_true, decide_false, Int.toNat_natCast, Bool.toNat_true, Bool.toNat_false]; rfl))
          · refine r_aln F hl 0 rfl dX4_shifts_42 rfl ?_
            refine gf_X4_19 F B.1 0 rfl (.ref (q 5)) rfl dX4_shifts_43 ?_
            refine r_iln F hl 2 rfl dX4_shifts_46 rfl ?_
            refine r_aln F hl 0 rfl dX4_shifts_47 rfl ?_
            refine gf_X4_22 F B.1 0 rfl (.ref (q 6)) rfl dX4_shifts_48 ?_
            refine r_iln F hl 2 rfl dX4_shifts_51 rfl ?_
            refine r_ald (f := sp_plays (M 2) (M 4) (M 5) (n_)) F B.1 5 rfl dX4_shifts_52 (by decide) (by omega) ?_
            have b_10 : (sp_plays (M 2) (M 4) (M 5) (n_)) (k) < 65536 := hb_4 (k)
            have hb_11 : ∀ j_, upN (f) (k) ((sp_plays (M 2) (M 4) (M 5) (n_)) (k)) j_ < 65536 := upN_lt hf (by omega)
            refine r_ast (f := f) F B 4 (wM q cI (stR (stR M 5 (sp_plays (M 2) (M 4) (M 5) (n_))) 4 (upN (f) (k) ((sp_plays (M 2) (M 4) (M 5) (n_)) (k))))) rfl dX4_shifts_53 (by decide) (by omega) rfl (fun H locs B => ?_)
            refine r_inc (lv' := [(0, .ref (q 0)), (1, .int (iI ((n_ : Nat) : Int))), (2, .int (iI (((k + 1) : Nat) : Int)))]) F hl 2 rfl dX4_shifts_54 1 rfl (by decide) [1, 2, 0] rfl (fun ls hl => ?_)
            refine r_goto 36 F dX4_shifts_57 (by decide) ?_
            exact ih_6 ((k + 1)) (upN (f) (k) ((sp_plays (M 2) (M 4) (M 5) (n_)) (k))) _ _ ls (by omega) (by have h_ := hI; rw [lpR_step (by omega)] at h_; refine Eq.trans ?_ h_; first | rfl | (simp only [c_1, c_3, (Nat.not_lt.mp c_3), c_8, (Nat.not_le.mpr c_8), if_true, if_false, Bool.and_true, Bool.true_and, Bool.and_false, Bool.false_and, Bool.and_self, Bool.false_eq_true, ↓reduceIte, decide_true, decide_false, Int.toNat_natCast, Bool.toNat_true, Bool.toNat_false]; done) | (simp [c_1, c_3, (Nat.not_lt.mp c_3), c_8, (Nat.not_le.mpr c_8)]; done)) hb_11 (by omega) B hl
      exact lp_5 _ (0) (M 4) _ _ ls (Nat.lt_succ_self _) rfl hs (by omega) B hl
    · have hv_ : decide (M 4 0 + n_ ≤ 9999) = false := decide_eq_false (by omega)
      refine r_bpz F (-2) dX4_shifts_26 rfl ?_
      exact r_retU F hr hlk hH B dX4_shifts_28 (by first | rfl | (simp only [g_shifts, g_shiftsS, vShift, c_1, hv_, if_true, if_false, Bool.and_true, Bool.true_and, Bool.and_false, Bool.false_and, Bool.and_self, Bool.false_eq_true, ↓reduceIte, decide_true, decide_false, Int.toNat_natCast, Bool.toNat_true, Bool.toNat_false]; first | done | rfl | (simp only [c_3, (Nat.not_le.mpr c_3), if_true, if_false, Bool.and_true, Bool.true_and, Bool.and_false, Bool.false_and, Bool.and_self, Bool.false_eq_true, ↓reduceIte, decide_true, decide_false, Int.toNat_natCast, Bool.toNat_true, Bool.toNat_false]; first | done | rfl) | (simp only [if_pos c_3, if_neg (Nat.not_le.mpr c_3)]; first | done | rfl) | (simp [c_3, (Nat.not_le.mpr c_3)]; done) | (simp [c_3, (Nat.not_le.mpr c_3)]; first | rfl | omega)) | (simp [g_shifts, g_shiftsS, vShift, c_1, c_3, (Nat.not_le.mpr c_3), hv_]; done) | (simp [g_shifts, g_shiftsS, vShift, c_1, c_3, (Nat.not_le.mpr c_3), hv_]; omega) | (simp only [g_shifts, g_shiftsS, vShift, c_1, hv_, if_true, if_false, Bool.and_true, Bool.true_and, Bool.and_false, Bool.false_and, Bool.and_self, Bool.false_eq_true, ↓reduceIte, decide_true, decide_false, Int.toNat_natCast, Bool.toNat_true, Bool.toNat_false]; try simp only [c_3, (Nat.not_le.mpr c_3), if_true, if_false, Bool.and_true, Bool.true_and, Bool.and_false, Bool.false_and, Bool.and_self, Bool.false_eq_true, ↓reduceIte, decide_true, decide_false, Int.toNat_natCast, Bool.toNat_true, Bool.toNat_false]; rfl)) (by first | rfl | (simp only [g_shiftsS, g_shiftsA, vShift, c_1, hv_, if_true, if_false, Bool.and_true, Bool.true_and, Bool.and_false, Bool.false_and, Bool.and_self, Bool.false_eq_true, ↓reduceIte, decide_true, decide_false, Int.toNat_natCast, Bool.toNat_true, Bool.toNat_false]; first | done | rfl | (simp only [c_3, (Nat.not_le.mpr c_3), if_true, if_false, Bool.and_true, Bool.true_and, Bool.and_false, Bool.false_and, Bool.and_self, Bool.false_eq_true, ↓reduceIte, decide_true, decide_false, Int.toNat_natCast, Bool.toNat_true, Bool.toNat_false]; first | done | rfl) | (simp only [if_pos c_3, if_neg (Nat.not_le.mpr c_3)]; first | done | rfl) | (simp [c_3, (Nat.not_le.mpr c_3)]; done) | (simp [c_3, (Nat.not_le.mpr c_3)]; first | rfl | omega)) | (simp [g_shiftsS, g_shiftsA, vShift, c_1, c_3, (Nat.not_le.mpr c_3), hv_]; done) | (simp [g_shiftsS, g_shiftsA, vShift, c_1, c_3, (Nat.not_le.mpr c_3), hv_]; omega) | (simp only [g_shiftsS, g_shiftsA, vShift, c_1, hv_, if_true, if_false, Bool.and_true, Bool.true_and, Bool.and_false, Bool.false_and, Bool.and_self, Bool.false_eq_true, ↓reduceIte, decide_true, decide_false, Int.toNat_natCast, Bool.toNat_true, Bool.toNat_false]; try simp only [c_3, (Nat.not_le.mpr c_3), if_true, if_false, Bool.and_true, Bool.true_and, Bool.and_false, Bool.false_and, Bool.and_self, Bool.false_eq_true, ↓reduceIte, decide_true, decide_false, Int.toNat_natCast, Bool.toNat_true, Bool.toNat_false]; rfl))
  · have c_1d := c_1
    simp only [isIn, isP, decide_eq_true_eq, decide_eq_false_iff_not] at c_1d
    refine r_icz F (-1) dX4_shifts_10 rfl ?_
    exact r_retU F hr hlk hH B dX4_shifts_11 (by first | rfl | (simp only [g_shifts, g_shiftsS, vShift, c_1, if_true, if_false, Bool.and_true, Bool.true_and, Bool.and_false, Bool.false_and, Bool.and_self, Bool.false_eq_true, ↓reduceIte, decide_true, decide_false, Int.toNat_natCast, Bool.toNat_true, Bool.toNat_false]; first | done | rfl | (simp only [if_true, if_true, if_false, Bool.and_true, Bool.true_and, Bool.and_false, Bool.false_and, Bool.and_self, Bool.false_eq_true, ↓reduceIte, decide_true, decide_false, Int.toNat_natCast, Bool.toNat_true, Bool.toNat_false]; first | done | rfl) | (simp only [if_true]; first | done | rfl) | (simp [if_true]; done) | (simp [if_true]; first | rfl | omega)) | (simp [g_shifts, g_shiftsS, vShift, c_1]; done) | (simp [g_shifts, g_shiftsS, vShift, c_1]; omega) | (simp only [g_shifts, g_shiftsS, vShift, c_1, if_true, if_false, Bool.and_true, Bool.true_and, Bool.and_false, Bool.false_and, Bool.and_self, Bool.false_eq_true, ↓reduceIte, decide_true, decide_false, Int.toNat_natCast, Bool.toNat_true, Bool.toNat_false]; try simp only [if_true, if_true, if_false, Bool.and_true, Bool.true_and, Bool.and_false, Bool.false_and, Bool.and_self, Bool.false_eq_true, ↓reduceIte, decide_true, decide_false, Int.toNat_natCast, Bool.toNat_true, Bool.toNat_false]; rfl)) (by first | rfl | (simp only [g_shiftsS, g_shiftsA, vShift, c_1, if_true, if_false, Bool.and_true, Bool.true_and, Bool.and_false, Bool.false_and, Bool.and_self, Bool.false_eq_true, ↓reduceIte, decide_true, decide_false, Int.toNat_natCast, Bool.toNat_true, Bool.toNat_false]; first | done | rfl | (simp only [if_true, if_true, if_false, Bool.and_true, Bool.true_and, Bool.and_false, Bool.false_and, Bool.and_self, Bool.false_eq_true, ↓reduceIte, decide_true, decide_false, Int.toNat_natCast, Bool.toNat_true, Bool.toNat_false]; first | done | rfl) | (simp only [if_true]; first | done | rfl) | (simp [if_true]; done) | (simp [if_true]; first | rfl | omega)) | (simp [g_shiftsS, g_shiftsA, vShift, c_1]; done) | (simp [g_shiftsS, g_shiftsA, vShift, c_1]; omega) | (simp only [g_shiftsS, g_shiftsA, vShift, c_1, if_true, if_false, Bool.and_true, Bool.true_and, Bool.and_false, Bool.false_and, Bool.and_self, Bool.false_eq_true, ↓reduceIte, decide_true, decide_false, Int.toNat_natCast, Bool.toNat_true, Bool.toNat_false]; try simp only [if_true, if_true, if_false, Bool.and_true, Bool.true_and, Bool.and_false, Bool.false_and, Bool.and_self, Bool.false_eq_true, ↓reduceIte, decide_true, decide_false, Int.toNat_natCast, Bool.toNat_true, Bool.toNat_false]; rfl))
abbrev rm_X4_knows : Room := { frames := 3, cells := 0, slots := 0, locals := 70 }
set_option maxHeartbeats 4000000 in
set_option maxRecDepth 100000 in
theorem k_X4_knows (l : Launch) (D : va_G) (cI cB : ClassId) (q : Nat → Nat) (M : St) (n i d : Int) (hn : (-2147483648 ≤ n ∧ n < 2147483648)) (hi : (-2147483648 ≤ i ∧ i < 2147483648)) (hd : (-2147483648 ≤ d ∧ d < 2147483648)) (hp : 1 ≤ M 2 0 ∧ M 2 0 ≤ 5) (hbk : ∀ k, M 2 k < 256) (hs : ∀ k, M 4 k < 65536) (hs0 : M 4 0 ≤ 9999) (ha : ∀ k, M 5 k < 65536) : CtU l yX4_knows cX4_knows 4 (some .int) rm_X4_knows D cI cB [.ref (q 0), .int (iI (n)), .int (iI (i)), .int (iI (d))] (wM q cI M) (wM q cI (stR M 5 (g_knowsA (M 2) (M 4) (M 5) n i d))) ((iI (g_knows (M 2) (M 4) (M 5) n i d))) := by
  refine CtU.of RX4 (by decide) rfl (Nat.le_of_ble_eq_true rfl) ?_
  intro p e s m args below meth c H0 ls A hH hA F hr hlk B hl
  have hl : lv_has ls 4 [(0, .ref (q 0)), (1, .int (iI (n))), (2, .int (iI (i))), (3, .int (iI (d)))] := hl
  refine r_iln F hl 1 rfl dX4_knows_0 rfl ?_
  refine r_ic F 0 dX4_knows_1 rfl ?_
  refine r_bp F 40 dX4_knows_2 rfl ?_
  refine r_sq F B.1 (k_X4_in l D cI cB (n) ((0 : Int)) ((40 : Int)) (by omega) (by omega) (by omega)) gw_X4_40 [] rfl ⟨⟨rfl, rfl⟩, Nat.le_of_ble_eq_true rfl, Nat.le_of_ble_eq_true rfl⟩ ⟨Nat.le_of_ble_eq_true rfl, Nat.le_of_ble_eq_true rfl⟩ hl.1 rfl [] rfl (Nat.le_of_ble_eq_true rfl) dX4_knows_4 ?_
  refine r_zeqb 27 F dX4_knows_7 (by decide) (fun c_1 => ?_) (fun c_1 => ?_)
  · have c_1d := c_1
    simp only [isIn, isP, decide_eq_true_eq, decide_eq_false_iff_not] at c_1d
    refine r_icz F (-1) dX4_knows_27 rfl ?_
    exact r_retU F hr hlk hH B dX4_knows_28 (by first | rfl | (simp only [g_knows, g_knowsA, vKnows, c_1, if_true, if_false, Bool.and_true, Bool.true_and, Bool.and_false, Bool.false_and, Bool.and_self, Bool.false_eq_true, ↓reduceIte, decide_true, decide_false, Int.toNat_natCast, Bool.toNat_true, Bool.toNat_false]; first | done | rfl | (simp only [if_true, if_true, if_false, Bool.and_true, Bool.true_and, Bool.and_false, Bool.false_and, Bool.and_self, Bool.false_eq_true, ↓reduceIte, decide_true, decide_false, Int.toNat_natCast, Bool.toNat_true, Bool.toNat_false]; first | done | rfl) | (simp only [if_true]; first | done | rfl) | (simp [if_true]; done) | (simp [if_true]; first | rfl | omega)) | (simp [g_knows, g_knowsA, vKnows, c_1]; done) | (simp [g_knows, g_knowsA, vKnows, c_1]; omega) | (simp only [g_knows, g_knowsA, vKnows, c_1, if_true, if_false, Bool.and_true, Bool.true_and, Bool.and_false, Bool.false_and, Bool.and_self, Bool.false_eq_true, ↓reduceIte, decide_true, decide_false, Int.toNat_natCast, Bool.toNat_true, Bool.toNat_false]; try simp only [if_true, if_true, if_false, Bool.and_true, Bool.true_and, Bool.and_false, Bool.false_and, Bool.and_self, Bool.false_eq_true, ↓reduceIte, decide_true, decide_false, Int.toNat_natCast, Bool.toNat_true, Bool.toNat_false]; rfl)) (by first | rfl | (simp only [g_knows, g_knowsA, vKnows, c_1, if_true, if_false, Bool.and_true, Bool.true_and, Bool.and_false, Bool.false_and, Bool.and_self, Bool.false_eq_true, ↓reduceIte, decide_true, decide_false, Int.toNat_natCast, Bool.toNat_true, Bool.toNat_false]; first | done | rfl | (simp only [if_true, if_true, if_false, Bool.and_true, Bool.true_and, Bool.and_false, Bool.false_and, Bool.and_self, Bool.false_eq_true, ↓reduceIte, decide_true, decide_false, Int.toNat_natCast, Bool.toNat_true, Bool.toNat_false]; first | done | rfl) | (simp only [if_true]; first | done | rfl) | (simp [if_true]; done) | (simp [if_true]; first | rfl | omega)) | (simp [g_knows, g_knowsA, vKnows, c_1]; done) | (simp [g_knows, g_knowsA, vKnows, c_1]; omega) | (simp only [g_knows, g_knowsA, vKnows, c_1, if_true, if_false, Bool.and_true, Bool.true_and, Bool.and_false, Bool.false_and, Bool.and_self, Bool.false_eq_true, ↓reduceIte, decide_true, decide_false, Int.toNat_natCast, Bool.toNat_true, Bool.toNat_false]; try simp only [if_true, if_true, if_false, Bool.and_true, Bool.true_and, Bool.and_false, Bool.false_and, Bool.and_self, Bool.false_eq_true, ↓reduceIte, decide_true, decide_false, Int.toNat_natCast, Bool.toNat_true, Bool.toNat_false]; rfl))
  · have c_1d := c_1
    simp only [isIn, isP, decide_eq_true_eq, decide_eq_false_iff_not] at c_1d
    refine r_aln F hl 0 rfl dX4_knows_10 rfl ?_
    refine r_iln F hl 2 rfl dX4_knows_11 rfl ?_
    refine r_cq F B.1 (k_X4_isPerson l D cI cB (q) (M) (i) (by omega) hbk) gw_X4_99 [0, 1, 2, 3, 4, 5, 6, 7, 8, 9, 10] rfl rfl rfl ⟨⟨rfl, rfl⟩, Nat.le_of_ble_eq_true rfl, Nat.le_of_ble_eq_true rfl⟩ ⟨Nat.le_of_ble_eq_true rfl, Nat.le_of_ble_eq_true rfl⟩ hl.1 rfl [] rfl (Nat.le_of_ble_eq_true rfl) dX4_knows_12 ?_
    refine r_zeqb 27 F dX4_knows_15 (by decide) (fun c_2 => ?_) (fun c_2 => ?_)
    · have c_2d := c_2
      simp only [isIn, isP, decide_eq_true_eq, decide_eq_false_iff_not] at c_2d
      refine r_icz F (-1) dX4_knows_27 rfl ?_
      exact r_retU F hr hlk hH B dX4_knows_28 (by first | rfl | (simp only [g_knows, g_knowsA, vKnows, c_1, c_2, if_true, if_false, Bool.and_true, Bool.true_and, Bool.and_false, Bool.false_and, Bool.and_self, Bool.false_eq_true, ↓reduceIte, decide_true, decide_false, Int.toNat_natCast, Bool.toNat_true, Bool.toNat_false]; first | done | rfl | (simp only [if_true, if_true, if_false, Bool.and_true, Bool.true_and, Bool.and_false, Bool.false_and, Bool.and_self, Bool.false_eq_true, ↓reduceIte, decide_true, decide_false, Int.toNat_natCast, Bool.toNat_true, Bool.toNat_false]; first | done | rfl) | (simp only [if_true]; first | done | rfl) | (simp [if_true]; done) | (simp [if_true]; first | rfl | omega)) | (simp [g_knows, g_knowsA, vKnows, c_1, c_2]; done) | (simp [g_knows, g_knowsA, vKnows, c_1, c_2]; omega) | (simp only [g_knows, g_knowsA, vKnows, c_1, c_2, if_true, if_false, Bool.and_true, Bool.true_and, Bool.and_false, Bool.false_and, Bool.and_self, Bool.false_eq_true, ↓reduceIte, decide_true, decide_false, Int.toNat_natCast, Bool.toNat_true, Bool.toNat_false]; try simp only [if_true, if_true, if_false, Bool.and_true, Bool.true_and, Bool.and_false, Bool.false_and, Bool.and_self, Bool.false_eq_true, ↓reduceIte, decide_true, decide_false, Int.toNat_natCast, Bool.toNat_true, Bool.toNat_false]; rfl)) (by first | rfl | (simp only [g_knows, g_knowsA, vKnows, c_1, c_2, if_true, if_false, Bool.and_true, Bool.true_and, Bool.and_false, Bool.false_and, Bool.and_self, Bool.false_eq_true, ↓reduceIte, decide_true, decide_false, Int.toNat_natCast, Bool.toNat_true, Bool.toNat_false]; first | done | rfl | (simp only [if_true, if_true, if_false, Bool.and_true, Bool.true_and, Bool.and_false, Bool.false_and, Bool.and_self, Bool.false_eq_true, ↓reduceIte, decide_true, decide_false, Int.toNat_natCast, Bool.toNat_true, Bool.toNat_false]; first | done | rfl) | (simp only [if_true]; first | done | rfl) | (simp [if_true]; done) | (simp [if_true]; first | rfl | omega)) | (simp [g_knows, g_knowsA, vKnows, c_1, c_2]; done) | (simp [g_knows, g_knowsA, vKnows, c_1, c_2]; omega) | (simp only [g_knows, g_knowsA, vKnows, c_1, c_2, if_true, if_false, Bool.and_true, Bool.true_and, Bool.and_false, Bool.false_and, Bool.and_self, Bool.false_eq_true, ↓reduceIte, decide_true, decide_false, Int.toNat_natCast, Bool.toNat_true, Bool.toNat_false]; try simp only [if_true, if_true, if_false, Bool.and_true, Bool.true_and, Bool.and_false, Bool.false_and, Bool.and_self, Bool.false_eq_true, ↓reduceIte, decide_true, decide_false, Int.toNat_natCast, Bool.toNat_true, Bool.toNat_false]; rfl))
    · have c_2d := c_2
      simp only [isIn, isP, decide_eq_true_eq, decide_eq_false_iff_not] at c_2d
      refine r_iln F hl 3 rfl dX4_knows_18 rfl ?_
      refine r_ic F 0 dX4_knows_19 rfl ?_
      refine r_ic F 1 dX4_knows_20 rfl ?_
      refine r_sq F B.1 (k_X4_in l D cI cB (d) ((0 : Int)) ((1 : Int)) (by omega) (by omega) (by omega)) gw_X4_40 [] rfl ⟨⟨rfl, rfl⟩, Nat.le_of_ble_eq_true rfl, Nat.le_of_ble_eq_true rfl⟩ ⟨Nat.le_of_ble_eq_true rfl, Nat.le_of_ble_eq_true rfl⟩ hl.1 rfl [] rfl (Nat.le_of_ble_eq_true rfl) dX4_knows_21 ?_
      refine r_zneb 29 F dX4_knows_24 (by decide) (fun c_3 => ?_) (fun c_3 => ?_)
      · have c_3d := c_3
        simp only [isIn, isP, decide_eq_true_eq, decide_eq_false_iff_not] at c_3d
        obtain ⟨n_, rfl⟩ : ∃ k : Nat, n = (k : Int) := ⟨n.toNat, by omega⟩
        have hl : lv_has ls 4 [(0, .ref (q 0)), (1, .int (iI ((n_ : Nat) : Int))), (2, .int (iI (i))), (3, .int (iI (d)))] := hl
        obtain ⟨i_, rfl⟩ : ∃ k : Nat, i = (k : Int) := ⟨i.toNat, by omega⟩
        have hl : lv_has ls 4 [(0, .ref (q 0)), (1, .int (iI ((n_ : Nat) : Int))), (2, .int (iI ((i_ : Nat) : Int))), (3, .int (iI (d)))] := hl
        obtain ⟨d_, rfl⟩ : ∃ k : Nat, d = (k : Int) := ⟨d.toNat, by omega⟩
        have hl : lv_has ls 4 [(0, .ref (q 0)), (1, .int (iI ((n_ : Nat) : Int))), (2, .int (iI ((i_ : Nat) : Int))), (3, .int (iI ((d_ : Nat) : Int)))] := hl
        refine r_aln F hl 0 rfl dX4_knows_29 rfl ?_
        refine r_iln F hl 1 rfl dX4_knows_30 rfl ?_
        refine r_cvW F hA B (k_X4_plays l D cI cB (q) (M) (n_) (by omega) hp hbk hs hs0 ha) gw_X4_115 rfl rfl ⟨⟨rfl, rfl⟩, Nat.le_of_ble_eq_true rfl, Nat.le_of_ble_eq_true rfl⟩ ⟨Nat.le_of_ble_eq_true rfl, Nat.le_of_ble_eq_true rfl⟩ hl.1 rfl [] rfl (Nat.le_of_ble_eq_true rfl) dX4_knows_31 (fun H locs B => ?_)
        have hb_4 : ∀ j_, (sp_plays (M 2) (M 4) (M 5) (n_)) j_ < 65536 := (plays_all hs ha (by omega)).1
        have hq_ := (@plays_all (M 2) (M 4) (M 5) (n_) hs ha (by omega)).2
        refine r_aln F hl 0 rfl dX4_knows_34 rfl ?_
        refine gf_X4_22 F B.1 0 rfl (.ref (q 6)) rfl dX4_knows_35 ?_
        refine r_ic F 1 dX4_knows_38 rfl ?_
        refine r_ic F 2 dX4_knows_39 rfl ?_
        refine r_iln F hl 2 rfl dX4_knows_40 rfl ?_
        refine r_mul F dX4_knows_41 ?_
        refine r_add F dX4_knows_42 ?_
        refine r_iln F hl 3 rfl dX4_knows_43 rfl ?_
        refine r_add F dX4_knows_44 ?_
        refine r_ald (f := sp_plays (M 2) (M 4) (M 5) (n_)) F B.1 5 rfl dX4_knows_45 (by decide) (by omega) ?_
        have b_5 : (sp_plays (M 2) (M 4) (M 5) (n_)) (((1 + (2 * i_)) + d_)) < 65536 := hb_4 (((1 + (2 * i_)) + d_))
        exact r_retU F hr hlk hH B dX4_knows_46 (by first | rfl | (simp only [g_knows, g_knowsA, vKnows, c_1, c_2, c_3, if_true, if_false, Bool.and_true, Bool.true_and, Bool.and_false, Bool.false_and, Bool.and_self, Bool.false_eq_true, ↓reduceIte, decide_true, decide_false, Int.toNat_natCast, Bool.toNat_true, Bool.toNat_false]; first | done | rfl | (simp only [if_true, if_true, if_false, Bool.and_true, Bool.true_and, Bool.and_false, Bool.false_and, Bool.and_self, Bool.false_eq_true, ↓reduceIte, decide_true, decide_false, Int.toNat_natCast, Bool.toNat_true, Bool.toNat_false]; first | done | rfl) | (simp only [if_true]; first | done | rfl) | (simp [if_true]; done) | (simp [if_true]; first | rfl | omega)) | (simp [g_knows, g_knowsA, vKnows, c_1, c_2, c_3]; done) | (simp [g_knows, g_knowsA, vKnows, c_1, c_2, c_3]; omega) | (simp only [g_knows, g_knowsA, vKnows, c_1, c_2, c_3, if_true, if_false, Bool.and_true, Bool.true_and, Bool.and_false, Bool.false_and, Bool.and_self, Bool.false_eq_true, ↓reduceIte, decide_true, decide_false, Int.toNat_natCast, Bool.toNat_true, Bool.toNat_false]; try simp only [if_true, if_true, if_false, Bool.and_true, Bool.true_and, Bool.and_false, Bool.false_and, Bool.and_self, Bool.false_eq_true, ↓reduceIte, decide_true, decide_false, Int.toNat_natCast, Bool.toNat_true, Bool.toNat_false]; rfl)) (by first | rfl | (simp only [g_knows, g_knowsA, vKnows, c_1, c_2, c_3, if_true, if_false, Bool.and_true, Bool.true_and, Bool.and_false, Bool.false_and, Bool.and_self, Bool.false_eq_true, ↓reduceIte, decide_true, decide_false, Int.toNat_natCast, Bool.toNat_true, Bool.toNat_false]; first | done | rfl | (simp only [if_true, if_true, if_false, Bool.and_true, Bool.true_and, Bool.and_false, Bool.false_and, Bool.and_self, Bool.false_eq_true, ↓reduceIte, decide_true, decide_false, Int.toNat_natCast, Bool.toNat_true, Bool.toNat_false]; first | done | rfl) | (simp only [if_true]; first | done | rfl) | (simp [if_true]; done) | (simp [if_true]; first | rfl | omega)) | (simp [g_knows, g_knowsA, vKnows, c_1, c_2, c_3]; done) | (simp [g_knows, g_knowsA, vKnows, c_1, c_2, c_3]; omega) | (simp only [g_knows, g_knowsA, vKnows, c_1, c_2, c_3, if_true, if_false, Bool.and_true, Bool.true_and, Bool.and_false, Bool.false_and, Bool.and_self, Bool.false_eq_true, ↓reduceIte, decide_true, decide_false, Int.toNat_natCast, Bool.toNat_true, Bool.toNat_false]; try simp only [if_true, if_true, if_false, Bool.and_true, Bool.true_and, Bool.and_false, Bool.false_and, Bool.and_self, Bool.false_eq_true, ↓reduceIte, decide_true, decide_false, Int.toNat_natCast, Bool.toNat_true, Bool.toNat_false]; rfl))
      · have c_3d := c_3
        simp only [isIn, isP, decide_eq_true_eq, decide_eq_false_iff_not] at c_3d
        refine r_icz F (-1) dX4_knows_27 rfl ?_
        exact r_retU F hr hlk hH B dX4_knows_28 (by first | rfl | (simp only [g_knows, g_knowsA, vKnows, c_1, c_2, c_3, if_true, if_false, Bool.and_true, Bool.true_and, Bool.and_false, Bool.false_and, Bool.and_self, Bool.false_eq_true, ↓reduceIte, decide_true, decide_false, Int.toNat_natCast, Bool.toNat_true, Bool.toNat_false]; first | done | rfl | (simp only [if_true, if_true, if_false, Bool.and_true, Bool.true_and, Bool.and_false, Bool.false_and, Bool.and_self, Bool.false_eq_true, ↓reduceIte, decide_true, decide_false, Int.toNat_natCast, Bool.toNat_true, Bool.toNat_false]; first | done | rfl) | (simp only [if_true]; first | done | rfl) | (simp [if_true]; done) | (simp [if_true]; first | rfl | omega)) | (simp [g_knows, g_knowsA, vKnows, c_1, c_2, c_3]; done) | (simp [g_knows, g_knowsA, vKnows, c_1, c_2, c_3]; omega) | (simp only [g_knows, g_knowsA, vKnows, c_1, c_2, c_3, if_true, if_false, Bool.and_true, Bool.true_and, Bool.and_false, Bool.false_and, Bool.and_self, Bool.false_eq_true, ↓reduceIte, decide_true, decide_false, Int.toNat_natCast, Bool.toNat_true, Bool.toNat_false]; try simp only [if_true, if_true, if_false, Bool.and_true, Bool.true_and, Bool.and_false, Bool.false_and, Bool.and_self, Bool.false_eq_true, ↓reduceIte, decide_true, decide_false, Int.toNat_natCast, Bool.toNat_true, Bool.toNat_false]; rfl)) (by first | rfl | (simp only [g_knows, g_knowsA, vKnows, c_1, c_2, c_3, if_true, if_false, Bool.and_true, Bool.true_and, Bool.and_false, Bool.false_and, Bool.and_self, Bool.false_eq_true, ↓reduceIte, decide_true, decide_false, Int.toNat_natCast, Bool.toNat_true, Bool.toNat_false]; first | done | rfl | (simp only [if_true, if_true, if_false, Bool.and_true, Bool.true_and, Bool.and_false, Bool.false_and, Bool.and_self, Bool.false_eq_true, ↓reduceIte, decide_true, decide_false, Int.toNat_natCast, Bool.toNat_true, Bool.toNat_false]; first | done | rfl) | (simp only [if_true]; first | done | rfl) | (simp [if_true]; done) | (simp [if_true]; first | rfl | omega)) | (simp [g_knows, g_knowsA, vKnows, c_1, c_2, c_3]; done) | (simp [g_knows, g_knowsA, vKnows, c_1, c_2, c_3]; omega) | (simp only [g_knows, g_knowsA, vKnows, c_1, c_2, c_3, if_true, if_false, Bool.and_true, Bool.true_and, Bool.and_false, Bool.false_and, Bool.and_self, Bool.false_eq_true, ↓reduceIte, decide_true, decide_false, Int.toNat_natCast, Bool.toNat_true, Bool.toNat_false]; try simp only [if_true, if_true, if_false, Bool.and_true, Bool.true_and, Bool.and_false, Bool.false_and, Bool.and_self, Bool.false_eq_true, ↓reduceIte, decide_true, decide_false, Int.toNat_natCast, Bool.toNat_true, Bool.toNat_false]; rfl))
abbrev rm_X4_could : Room := { frames := 3, cells := 0, slots := 0, locals := 70 }
set_option maxHeartbeats 4000000 in
set_option maxRecDepth 100000 in
theorem k_X4_could (l : Launch) (D : va_G) (cI cB : ClassId) (q : Nat → Nat) (M : St) (n x : Int) (hn : (-2147483648 ≤ n ∧ n < 2147483648)) (hx : (-2147483648 ≤ x ∧ x < 2147483648)) (hp : 1 ≤ M 2 0 ∧ M 2 0 ≤ 5) (hbk : ∀ k, M 2 k < 256) (hs : ∀ k, M 4 k < 65536) (hs0 : M 4 0 ≤ 9999) (ha : ∀ k, M 5 k < 65536) : CtU l yX4_could cX4_could 3 (some .int) rm_X4_could D cI cB [.ref (q 0), .int (iI (n)), .int (iI (x))] (wM q cI M) (wM q cI (stR M 5 (g_couldA (M 2) (M 4) (M 5) n x))) ((iI (g_could (M 2) (M 4) (M 5) n x))) := by
  refine CtU.of RX4 (by decide) rfl (Nat.le_of_ble_eq_true rfl) ?_
  intro p e s m args below meth c H0 ls A hH hA F hr hlk B hl
  have hl : lv_has ls 3 [(0, .ref (q 0)), (1, .int (iI (n))), (2, .int (iI (x)))] := hl
  refine r_iln F hl 1 rfl dX4_could_0 rfl ?_
  refine r_ic F 0 dX4_could_1 rfl ?_
  refine r_bp F 40 dX4_could_2 rfl ?_
  refine r_sq F B.1 (k_X4_in l D cI cB (n) ((0 : Int)) ((40 : Int)) (by omega) (by omega) (by omega)) gw_X4_40 [] rfl ⟨⟨rfl, rfl⟩, Nat.le_of_ble_eq_true rfl, Nat.le_of_ble_eq_true rfl⟩ ⟨Nat.le_of_ble_eq_true rfl, Nat.le_of_ble_eq_true rfl⟩ hl.1 rfl [] rfl (Nat.le_of_ble_eq_true rfl) dX4_could_4 ?_
  refine r_zeqb 17 F dX4_could_7 (by decide) (fun c_1 => ?_) (fun c_1 => ?_)
  · have c_1d := c_1
    simp only [isIn, isP, decide_eq_true_eq, decide_eq_false_iff_not] at c_1d
    refine r_icz F (-1) dX4_could_17 rfl ?_
    exact r_retU F hr hlk hH B dX4_could_18 (by first | rfl | (simp only [g_could, g_couldA, vCould, c_1, if_true, if_false, Bool.and_true, Bool.true_and, Bool.and_false, Bool.false_and, Bool.and_self, Bool.false_eq_true, ↓reduceIte, decide_true, decide_false, Int.toNat_natCast, Bool.toNat_true, Bool.toNat_false]; first | done | rfl | (simp only [if_true, if_true, if_false, Bool.and_true, Bool.true_and, Bool.and_false, Bool.false_and, Bool.and_self, Bool.false_eq_true, ↓reduceIte, decide_true, decide_false, Int.toNat_natCast, Bool.toNat_true, Bool.toNat_false]; first | done | rfl) | (simp only [if_true]; first | done | rfl) | (simp [if_true]; done) | (simp [if_true]; first | rfl | omega)) | (simp [g_could, g_couldA, vCould, c_1]; done) | (simp [g_could, g_couldA, vCould, c_1]; omega) | (simp only [g_could, g_couldA, vCould, c_1, if_true, if_false, Bool.and_true, Bool.true_and, Bool.and_false, Bool.false_and, Bool.and_self, Bool.false_eq_true, ↓reduceIte, decide_true, decide_false, Int.toNat_natCast, Bool.toNat_true, Bool.toNat_false]; try simp only [if_true, if_true, if_false, Bool.and_true, Bool.true_and, Bool.and_false, Bool.false_and, Bool.and_self, Bool.false_eq_true, ↓reduceIte, decide_true, decide_false, Int.toNat_natCast, Bool.toNat_true, Bool.toNat_false]; rfl)) (by first | rfl | (simp only [g_could, g_couldA, vCould, c_1, if_true, if_false, Bool.and_true, Bool.true_and, Bool.and_false, Bool.false_and, Bool.and_self, Bool.false_eq_true, ↓reduceIte, decide_true, decide_false, Int.toNat_natCast, Bool.toNat_true, Bool.toNat_false]; first | done | rfl | (simp only [if_true, if_true, if_false, Bool.and_true, Bool.true_and, Bool.and_false, Bool.false_and, Bool.and_self, Bool.false_eq_true, ↓reduceIte, decide_true, decide_false, Int.toNat_natCast, Bool.toNat_true, Bool.toNat_false]; first | done | rfl) | (simp only [if_true]; first | done | rfl) | (simp [if_true]; done) | (simp [if_true]; first | rfl | omega)) | (simp [g_could, g_couldA, vCould, c_1]; done) | (simp [g_could, g_couldA, vCould, c_1]; omega) | (simp only [g_could, g_couldA, vCould, c_1, if_true, if_false, Bool.and_true, Bool.true_and, Bool.and_false, Bool.false_and, Bool.and_self, Bool.false_eq_true, ↓reduceIte, decide_true, decide_false, Int.toNat_natCast, Bool.toNat_true, Bool.toNat_false]; try simp only [if_true, if_true, if_false, Bool.and_true, Bool.true_and, Bool.and_false, Bool.false_and, Bool.and_self, Bool.false_eq_true, ↓reduceIte, decide_true, decide_false, Int.toNat_natCast, Bool.toNat_true, Bool.toNat_false]; rfl))
  · have c_1d := c_1
    simp only [isIn, isP, decide_eq_true_eq, decide_eq_false_iff_not] at c_1d
    refine r_iln F hl 2 rfl dX4_could_10 rfl ?_
    refine r_sq F B.1 (k_X4_isSet l D cI cB (x) (by omega)) gw_X4_105 [] rfl ⟨⟨rfl, rfl⟩, Nat.le_of_ble_eq_true rfl, Nat.le_of_ble_eq_true rfl⟩ ⟨Nat.le_of_ble_eq_true rfl, Nat.le_of_ble_eq_true rfl⟩ hl.1 rfl [] rfl (Nat.le_of_ble_eq_true rfl) dX4_could_11 ?_
    refine r_zneb 19 F dX4_could_14 (by decide) (fun c_2 => ?_) (fun c_2 => ?_)
    · have c_2d := c_2
      simp only [isIn, isP, decide_eq_true_eq, decide_eq_false_iff_not] at c_2d
      obtain ⟨n_, rfl⟩ : ∃ k : Nat, n = (k : Int) := ⟨n.toNat, by omega⟩
      have hl : lv_has ls 3 [(0, .ref (q 0)), (1, .int (iI ((n_ : Nat) : Int))), (2, .int (iI (x)))] := hl
      obtain ⟨x_, rfl⟩ : ∃ k : Nat, x = (k : Int) := ⟨x.toNat, by omega⟩
      have hl : lv_has ls 3 [(0, .ref (q 0)), (1, .int (iI ((n_ : Nat) : Int))), (2, .int (iI ((x_ : Nat) : Int)))] := hl
      refine r_aln F hl 0 rfl dX4_could_19 rfl ?_
      refine r_iln F hl 1 rfl dX4_could_20 rfl ?_
      refine r_cvW F hA B (k_X4_plays l D cI cB (q) (M) (n_) (by omega) hp hbk hs hs0 ha) gw_X4_115 rfl rfl ⟨⟨rfl, rfl⟩, Nat.le_of_ble_eq_true rfl, Nat.le_of_ble_eq_true rfl⟩ ⟨Nat.le_of_ble_eq_true rfl, Nat.le_of_ble_eq_true rfl⟩ hl.1 rfl [] rfl (Nat.le_of_ble_eq_true rfl) dX4_could_21 (fun H locs B => ?_)
      have hb_3 : ∀ j_, (sp_plays (M 2) (M 4) (M 5) (n_)) j_ < 65536 := (plays_all hs ha (by omega)).1
      have hq_ := (@plays_all (M 2) (M 4) (M 5) (n_) hs ha (by omega)).2
      refine r_aln F hl 0 rfl dX4_could_24 rfl ?_
      refine r_iln F hl 2 rfl dX4_could_25 rfl ?_
      refine r_cq F B.1 (k_X4_whoKnow l D cI cB (q) ((stR M 5 (sp_plays (M 2) (M 4) (M 5) (n_)))) (x_) (by omega) hp hbk hb_3) gw_X4_129 [0, 1, 2, 3, 4, 5, 6, 7, 8, 9, 10] rfl rfl rfl ⟨⟨rfl, rfl⟩, Nat.le_of_ble_eq_true rfl, Nat.le_of_ble_eq_true rfl⟩ ⟨Nat.le_of_ble_eq_true rfl, Nat.le_of_ble_eq_true rfl⟩ hl.1 rfl [] rfl (Nat.le_of_ble_eq_true rfl) dX4_could_26 ?_
      have hq_ := @who_lt ((M 2) 0) (x_) (sp_plays (M 2) (M 4) (M 5) (n_)) (by omega)
      exact r_retU F hr hlk hH B dX4_could_29 (by first | rfl | (simp only [g_could, g_couldA, vCould, c_1, c_2, if_true, if_false, Bool.and_true, Bool.true_and, Bool.and_false, Bool.false_and, Bool.and_self, Bool.false_eq_true, ↓reduceIte, decide_true, decide_false, Int.toNat_natCast, Bool.toNat_true, Bool.toNat_false]; first | done | rfl | (simp only [if_true, if_true, if_false, Bool.and_true, Bool.true_and, Bool.and_false, Bool.false_and, Bool.and_self, Bool.false_eq_true, ↓reduceIte, decide_true, decide_false, Int.toNat_natCast, Bool.toNat_true, Bool.toNat_false]; first | done | rfl) | (simp only [if_true]; first | done | rfl) | (simp [if_true]; done) | (simp [if_true]; first | rfl | omega)) | (simp [g_could, g_couldA, vCould, c_1, c_2]; done) | (simp [g_could, g_couldA, vCould, c_1, c_2]; omega) | (simp only [g_could, g_couldA, vCould, c_1, c_2, if_true, if_false, Bool.and_true, Bool.true_and, Bool.and_false, Bool.false_and, Bool.and_self, Bool.false_eq_true, ↓reduceIte, decide_true, decide_false, Int.toNat_natCast, Bool.toNat_true, Bool.toNat_false]; try simp only [if_true, if_true, if_false, Bool.and_true, Bool.true_and, Bool.and_false, Bool.false_and, Bool.and_self, Bool.false_eq_true, ↓reduceIte, decide_true, decide_false, Int.toNat_natCast, Bool.toNat_true, Bool.toNat_false]; rfl)) (by first | rfl | (simp only [g_could, g_couldA, vCould, c_1, c_2, if_true, if_false, Bool.and_true, Bool.true_and, Bool.and_false, Bool.false_and, Bool.and_self, Bool.false_eq_true, ↓reduceIte, decide_true, decide_false, Int.toNat_natCast, Bool.toNat_true, Bool.toNat_false]; first | done | rfl | (simp only [if_true, if_true, if_false, Bool.and_true, Bool.true_and, Bool.and_false, Bool.false_and, Bool.and_self, Bool.false_eq_true, ↓reduceIte, decide_true, decide_false, Int.toNat_natCast, Bool.toNat_true, Bool.toNat_false]; first | done | rfl) | (simp only [if_true]; first | done | rfl) | (simp [if_true]; done) | (simp [if_true]; first | rfl | omega)) | (simp [g_could, g_couldA, vCould, c_1, c_2]; done) | (simp [g_could, g_couldA, vCould, c_1, c_2]; omega) | (simp only [g_could, g_couldA, vCould, c_1, c_2, if_true, if_false, Bool.and_true, Bool.true_and, Bool.and_false, Bool.false_and, Bool.and_self, Bool.false_eq_true, ↓reduceIte, decide_true, decide_false, Int.toNat_natCast, Bool.toNat_true, Bool.toNat_false]; try simp only [if_true, if_true, if_false, Bool.and_true, Bool.true_and, Bool.and_false, Bool.false_and, Bool.and_self, Bool.false_eq_true, ↓reduceIte, decide_true, decide_false, Int.toNat_natCast, Bool.toNat_true, Bool.toNat_false]; rfl))
    · have c_2d := c_2
      simp only [isIn, isP, decide_eq_true_eq, decide_eq_false_iff_not] at c_2d
      refine r_icz F (-1) dX4_could_17 rfl ?_
      exact r_retU F hr hlk hH B dX4_could_18 (by first | rfl | (simp only [g_could, g_couldA, vCould, c_1, c_2, if_true, if_false, Bool.and_true, Bool.true_and, Bool.and_false, Bool.false_and, Bool.and_self, Bool.false_eq_true, ↓reduceIte, decide_true, decide_false, Int.toNat_natCast, Bool.toNat_true, Bool.toNat_false]; first | done | rfl | (simp only [if_true, if_true, if_false, Bool.and_true, Bool.true_and, Bool.and_false, Bool.false_and, Bool.and_self, Bool.false_eq_true, ↓reduceIte, decide_true, decide_false, Int.toNat_natCast, Bool.toNat_true, Bool.toNat_false]; first | done | rfl) | (simp only [if_true]; first | done | rfl) | (simp [if_true]; done) | (simp [if_true]; first | rfl | omega)) | (simp [g_could, g_couldA, vCould, c_1, c_2]; done) | (simp [g_could, g_couldA, vCould, c_1, c_2]; omega) | (simp only [g_could, g_couldA, vCould, c_1, c_2, if_true, if_false, Bool.and_true, Bool.true_and, Bool.and_false, Bool.false_and, Bool.and_self, Bool.false_eq_true, ↓reduceIte, decide_true, decide_false, Int.toNat_natCast, Bool.toNat_true, Bool.toNat_false]; try simp only [if_true, if_true, if_false, Bool.and_true, Bool.true_and, Bool.and_false, Bool.false_and, Bool.and_self, Bool.false_eq_true, ↓reduceIte, decide_true, decide_false, Int.toNat_natCast, Bool.toNat_true, Bool.toNat_false]; rfl)) (by first | rfl | (simp only [g_could, g_couldA, vCould, c_1, c_2, if_true, if_false, Bool.and_true, Bool.true_and, Bool.and_false, Bool.false_and, Bool.and_self, Bool.false_eq_true, ↓reduceIte, decide_true, decide_false, Int.toNat_natCast, Bool.toNat_true, Bool.toNat_false]; first | done | rfl | (simp only [if_true, if_true, if_false, Bool.and_true, Bool.true_and, Bool.and_false, Bool.false_and, Bool.and_self, Bool.false_eq_true, ↓reduceIte, decide_true, decide_false, Int.toNat_natCast, Bool.toNat_true, Bool.toNat_false]; first | done | rfl) | (simp only [if_true]; first | done | rfl) | (simp [if_true]; done) | (simp [if_true]; first | rfl | omega)) | (simp [g_could, g_couldA, vCould, c_1, c_2]; done) | (simp [g_could, g_couldA, vCould, c_1, c_2]; omega) | (simp only [g_could, g_couldA, vCould, c_1, c_2, if_true, if_false, Bool.and_true, Bool.true_and, Bool.and_false, Bool.false_and, Bool.and_self, Bool.false_eq_true, ↓reduceIte, decide_true, decide_false, Int.toNat_natCast, Bool.toNat_true, Bool.toNat_false]; try simp only [if_true, if_true, if_false, Bool.and_true, Bool.true_and, Bool.and_false, Bool.false_and, Bool.and_self, Bool.false_eq_true, ↓reduceIte, decide_true, decide_false, Int.toNat_natCast, Bool.toNat_true, Bool.toNat_false]; rfl))
abbrev rm_X4_purse : Room := { frames := 1, cells := 0, slots := 0, locals := 24 }
set_option maxHeartbeats 4000000 in
set_option maxRecDepth 100000 in
theorem k_X4_purse (l : Launch) (D : va_G) (cI cB : ClassId) (q : Nat → Nat) (M : St) (x y d : Int) (hx : (-2147483648 ≤ x ∧ x < 2147483648)) (hy : (-2147483648 ≤ y ∧ y < 2147483648)) (hd : (-2147483648 ≤ d ∧ d < 2147483648)) (hbk : ∀ k, M 2 k < 256) : CtQ l yX4_purse cX4_purse 4 (some .int) rm_X4_purse D cI cB [.ref (q 0), .int (iI (x)), .int (iI (y)), .int (iI (d))] (wM q cI M) ((iI (g_purse (M 2) x y d))) := by
  refine CtQ.of RX4 (by decide) rfl (Nat.le_of_ble_eq_true rfl) ?_
  intro p e s m args below meth c H ls hH F hr hlk P hl
  have hl : lv_has ls 4 [(0, .ref (q 0)), (1, .int (iI (x))), (2, .int (iI (y))), (3, .int (iI (d)))] := hl
  refine r_iln F hl 1 rfl dX4_purse_0 rfl ?_
  refine r_ic F 0 dX4_purse_1 rfl ?_
  refine r_bp F 9 dX4_purse_2 rfl ?_
  refine r_sq F P (k_X4_in l D cI cB (x) ((0 : Int)) ((9 : Int)) (by omega) (by omega) (by omega)) gw_X4_40 [] rfl ⟨⟨rfl, rfl⟩, Nat.le_of_ble_eq_true rfl, Nat.le_of_ble_eq_true rfl⟩ ⟨Nat.le_of_ble_eq_true rfl, Nat.le_of_ble_eq_true rfl⟩ hl.1 rfl [] rfl (Nat.le_of_ble_eq_true rfl) dX4_purse_4 ?_
  refine r_zeqb 39 F dX4_purse_7 (by decide) (fun c_1 => ?_) (fun c_1 => ?_)
  · have c_1d := c_1
    simp only [isIn, isP, decide_eq_true_eq, decide_eq_false_iff_not] at c_1d
    refine r_icz F (-1) dX4_purse_39 rfl ?_
    exact r_retQ F hr hlk hH dX4_purse_40 (by first | rfl | (simp only [g_purse, vPurse, c_1, if_true, if_false, Bool.and_true, Bool.true_and, Bool.and_false, Bool.false_and, Bool.and_self, Bool.false_eq_true, ↓reduceIte, decide_true, decide_false, Int.toNat_natCast, Bool.toNat_true, Bool.toNat_false]; first | done | rfl | (simp only [if_true, if_true, if_false, Bool.and_true, Bool.true_and, Bool.and_false, Bool.false_and, Bool.and_self, Bool.false_eq_true, ↓reduceIte, decide_true, decide_false, Int.toNat_natCast, Bool.toNat_true, Bool.toNat_false]; first | done | rfl) | (simp only [if_true]; first | done | rfl) | (simp [if_true]; done) | (simp [if_true]; first | rfl | omega)) | (simp [g_purse, vPurse, c_1]; done) | (simp [g_purse, vPurse, c_1]; omega) | (simp only [g_purse, vPurse, c_1, if_true, if_false, Bool.and_true, Bool.true_and, Bool.and_false, Bool.false_and, Bool.and_self, Bool.false_eq_true, ↓reduceIte, decide_true, decide_false, Int.toNat_natCast, Bool.toNat_true, Bool.toNat_false]; try simp only [if_true, if_true, if_false, Bool.and_true, Bool.true_and, Bool.and_false, Bool.false_and, Bool.and_self, Bool.false_eq_true, ↓reduceIte, decide_true, decide_false, Int.toNat_natCast, Bool.toNat_true, Bool.toNat_false]; rfl))
  · have c_1d := c_1
    simp only [isIn, isP, decide_eq_true_eq, decide_eq_false_iff_not] at c_1d
    refine r_iln F hl 2 rfl dX4_purse_10 rfl ?_
    refine r_ic F 0 dX4_purse_11 rfl ?_
    refine r_bp F 9 dX4_purse_12 rfl ?_
    refine r_sq F P (k_X4_in l D cI cB (y) ((0 : Int)) ((9 : Int)) (by omega) (by omega) (by omega)) gw_X4_40 [] rfl ⟨⟨rfl, rfl⟩, Nat.le_of_ble_eq_true rfl, Nat.le_of_ble_eq_true rfl⟩ ⟨Nat.le_of_ble_eq_true rfl, Nat.le_of_ble_eq_true rfl⟩ hl.1 rfl [] rfl (Nat.le_of_ble_eq_true rfl) dX4_purse_14 ?_
    refine r_zeqb 39 F dX4_purse_17 (by decide) (fun c_2 => ?_) (fun c_2 => ?_)
    · have c_2d := c_2
      simp only [isIn, isP, decide_eq_true_eq, decide_eq_false_iff_not] at c_2d
      refine r_icz F (-1) dX4_purse_39 rfl ?_
      exact r_retQ F hr hlk hH dX4_purse_40 (by first | rfl | (simp only [g_purse, vPurse, c_1, c_2, if_true, if_false, Bool.and_true, Bool.true_and, Bool.and_false, Bool.false_and, Bool.and_self, Bool.false_eq_true, ↓reduceIte, decide_true, decide_false, Int.toNat_natCast, Bool.toNat_true, Bool.toNat_false]; first | done | rfl | (simp only [if_true, if_true, if_false, Bool.and_true, Bool.true_and, Bool.and_false, Bool.false_and, Bool.and_self, Bool.false_eq_true, ↓reduceIte, decide_true, decide_false, Int.toNat_natCast, Bool.toNat_true, Bool.toNat_false]; first | done | rfl) | (simp only [if_true]; first | done | rfl) | (simp [if_true]; done) | (simp [if_true]; first | rfl | omega)) | (simp [g_purse, vPurse, c_1, c_2]; done) | (simp [g_purse, vPurse, c_1, c_2]; omega) | (simp only [g_purse, vPurse, c_1, c_2, if_true, if_false, Bool.and_true, Bool.true_and, Bool.and_false, Bool.false_and, Bool.and_self, Bool.false_eq_true, ↓reduceIte, decide_true, decide_false, Int.toNat_natCast, Bool.toNat_true, Bool.toNat_false]; try simp only [if_true, if_true, if_false, Bool.and_true, Bool.true_and, Bool.and_false, Bool.false_and, Bool.and_self, Bool.false_eq_true, ↓reduceIte, decide_true, decide_false, Int.toNat_natCast, Bool.toNat_true, Bool.toNat_false]; rfl))
    · have c_2d := c_2
      simp only [isIn, isP, decide_eq_true_eq, decide_eq_false_iff_not] at c_2d
      refine r_iln F hl 3 rfl dX4_purse_20 rfl ?_
      refine r_ic F 0 dX4_purse_21 rfl ?_
      refine r_ic F 1 dX4_purse_22 rfl ?_
      refine r_sq F P (k_X4_in l D cI cB (d) ((0 : Int)) ((1 : Int)) (by omega) (by omega) (by omega)) gw_X4_40 [] rfl ⟨⟨rfl, rfl⟩, Nat.le_of_ble_eq_true rfl, Nat.le_of_ble_eq_true rfl⟩ ⟨Nat.le_of_ble_eq_true rfl, Nat.le_of_ble_eq_true rfl⟩ hl.1 rfl [] rfl (Nat.le_of_ble_eq_true rfl) dX4_purse_23 ?_
      refine r_zeqb 39 F dX4_purse_26 (by decide) (fun c_3 => ?_) (fun c_3 => ?_)
      · have c_3d := c_3
        simp only [isIn, isP, decide_eq_true_eq, decide_eq_false_iff_not] at c_3d
        refine r_icz F (-1) dX4_purse_39 rfl ?_
        exact r_retQ F hr hlk hH dX4_purse_40 (by first | rfl | (simp only [g_purse, vPurse, c_1, c_2, c_3, if_true, if_false, Bool.and_true, Bool.true_and, Bool.and_false, Bool.false_and, Bool.and_self, Bool.false_eq_true, ↓reduceIte, decide_true, decide_false, Int.toNat_natCast, Bool.toNat_true, Bool.toNat_false]; first | done | rfl | (simp only [if_true, if_true, if_false, Bool.and_true, Bool.true_and, Bool.and_false, Bool.false_and, Bool.and_self, Bool.false_eq_true, ↓reduceIte, decide_true, decide_false, Int.toNat_natCast, Bool.toNat_true, Bool.toNat_false]; first | done | rfl) | (simp only [if_true]; first | done | rfl) | (simp [if_true]; done) | (simp [if_true]; first | rfl | omega)) | (simp [g_purse, vPurse, c_1, c_2, c_3]; done) | (simp [g_purse, vPurse, c_1, c_2, c_3]; omega) | (simp only [g_purse, vPurse, c_1, c_2, c_3, if_true, if_false, Bool.and_true, Bool.true_and, Bool.and_false, Bool.false_and, Bool.and_self, Bool.false_eq_true, ↓reduceIte, decide_true, decide_false, Int.toNat_natCast, Bool.toNat_true, Bool.toNat_false]; try simp only [if_true, if_true, if_false, Bool.and_true, Bool.true_and, Bool.and_false, Bool.false_and, Bool.and_self, Bool.false_eq_true, ↓reduceIte, decide_true, decide_false, Int.toNat_natCast, Bool.toNat_true, Bool.toNat_false]; rfl))
      · have c_3d := c_3
        simp only [isIn, isP, decide_eq_true_eq, decide_eq_false_iff_not] at c_3d
        obtain ⟨x_, rfl⟩ : ∃ k : Nat, x = (k : Int) := ⟨x.toNat, by omega⟩
        have hl : lv_has ls 4 [(0, .ref (q 0)), (1, .int (iI ((x_ : Nat) : Int))), (2, .int (iI (y))), (3, .int (iI (d)))] := hl
        obtain ⟨y_, rfl⟩ : ∃ k : Nat, y = (k : Int) := ⟨y.toNat, by omega⟩
        have hl : lv_has ls 4 [(0, .ref (q 0)), (1, .int (iI ((x_ : Nat) : Int))), (2, .int (iI ((y_ : Nat) : Int))), (3, .int (iI (d)))] := hl
        obtain ⟨d_, rfl⟩ : ∃ k : Nat, d = (k : Int) := ⟨d.toNat, by omega⟩
        have hl : lv_has ls 4 [(0, .ref (q 0)), (1, .int (iI ((x_ : Nat) : Int))), (2, .int (iI ((y_ : Nat) : Int))), (3, .int (iI ((d_ : Nat) : Int)))] := hl
        refine r_aln F hl 0 rfl dX4_purse_29 rfl ?_
        refine r_iln F hl 1 rfl dX4_purse_30 rfl ?_
        refine r_iln F hl 2 rfl dX4_purse_31 rfl ?_
        refine r_iln F hl 3 rfl dX4_purse_32 rfl ?_
        refine r_cq F P (k_X4_holds l D cI cB (q) (M) (x_) (y_) (d_) (by omega) hbk) gw_X4_132 [0, 1, 2, 3, 4, 5, 6, 7, 8, 9, 10] rfl rfl rfl ⟨⟨rfl, rfl⟩, Nat.le_of_ble_eq_true rfl, Nat.le_of_ble_eq_true rfl⟩ ⟨Nat.le_of_ble_eq_true rfl, Nat.le_of_ble_eq_true rfl⟩ hl.1 rfl [] rfl (Nat.le_of_ble_eq_true rfl) dX4_purse_33 ?_
        have hq_ := @holds_le ((M 2) 5) ((M 2) 6) ((M 2) 7) (x_) (y_) (d_) (hbk 5) (hbk 6) (hbk 7) (by omega) (by omega)
        refine r_goto 40 F dX4_purse_36 (by decide) ?_
        exact r_retQ F hr hlk hH dX4_purse_40 (by first | rfl | (simp only [g_purse, vPurse, c_1, c_2, c_3, if_true, if_false, Bool.and_true, Bool.true_and, Bool.and_false, Bool.false_and, Bool.and_self, Bool.false_eq_true, ↓reduceIte, decide_true, decide_false, Int.toNat_natCast, Bool.toNat_true, Bool.toNat_false]; first | done | rfl | (simp only [if_true, if_true, if_false, Bool.and_true, Bool.true_and, Bool.and_false, Bool.false_and, Bool.and_self, Bool.false_eq_true, ↓reduceIte, decide_true, decide_false, Int.toNat_natCast, Bool.toNat_true, Bool.toNat_false]; first | done | rfl) | (simp only [if_true]; first | done | rfl) | (simp [if_true]; done) | (simp [if_true]; first | rfl | omega)) | (simp [g_purse, vPurse, c_1, c_2, c_3]; done) | (simp [g_purse, vPurse, c_1, c_2, c_3]; omega) | (simp only [g_purse, vPurse, c_1, c_2, c_3, if_true, if_false, Bool.and_true, Bool.true_and, Bool.and_false, Bool.false_and, Bool.and_self, Bool.false_eq_true, ↓reduceIte, decide_true, decide_false, Int.toNat_natCast, Bool.toNat_true, Bool.toNat_false]; try simp only [if_true, if_true, if_false, Bool.and_true, Bool.true_and, Bool.and_false, Bool.false_and, Bool.and_self, Bool.false_eq_true, ↓reduceIte, decide_true, decide_false, Int.toNat_natCast, Bool.toNat_true, Bool.toNat_false]; rfl))
abbrev rm_X4_camps : Room := { frames := 2, cells := 0, slots := 0, locals := 44 }
set_option maxHeartbeats 4000000 in
set_option maxRecDepth 100000 in
theorem k_X4_camps (l : Launch) (D : va_G) (cI cB : ClassId) (q : Nat → Nat) (M : St) (w : Int) (hw : (-2147483648 ≤ w ∧ w < 2147483648)) (hp : 1 ≤ M 2 0 ∧ M 2 0 ≤ 5) (hbk : ∀ k, M 2 k < 256) (hpr : M 2 2 ≤ 8 ∧ ∀ k, 64 ≤ k → k < 80 → M 2 k < 16) : CtQ l yX4_camps cX4_camps 4 (some .int) rm_X4_camps D cI cB [.ref (q 0), .int (iI (w))] (wM q cI M) ((iI (g_camps (M 2) w))) := by
  refine CtQ.of RX4 (by decide) rfl (Nat.le_of_ble_eq_true rfl) ?_
  intro p e s m args below meth c H ls hH F hr hlk P hl
  have hl : lv_has ls 4 [(0, .ref (q 0)), (1, .int (iI (w)))] := hl
  refine r_iln F hl 1 rfl dX4_camps_0 rfl ?_
  refine r_ic F 0 dX4_camps_1 rfl ?_
  refine r_ic F 1 dX4_camps_2 rfl ?_
  refine r_sq F P (k_X4_in l D cI cB (w) ((0 : Int)) ((1 : Int)) (by omega) (by omega) (by omega)) gw_X4_40 [] rfl ⟨⟨rfl, rfl⟩, Nat.le_of_ble_eq_true rfl, Nat.le_of_ble_eq_true rfl⟩ ⟨Nat.le_of_ble_eq_true rfl, Nat.le_of_ble_eq_true rfl⟩ hl.1 rfl [] rfl (Nat.le_of_ble_eq_true rfl) dX4_camps_3 ?_
  refine r_zneb 11 F dX4_camps_6 (by decide) (fun c_1 => ?_) (fun c_1 => ?_)
  · have c_1d := c_1
    simp only [isIn, isP, decide_eq_true_eq, decide_eq_false_iff_not] at c_1d
    obtain ⟨w_, rfl⟩ : ∃ k : Nat, w = (k : Int) := ⟨w.toNat, by omega⟩
    have hl : lv_has ls 4 [(0, .ref (q 0)), (1, .int (iI ((w_ : Nat) : Int)))] := hl
    refine r_ic F 0 dX4_camps_11 rfl ?_
    refine r_isn (lv' := [(0, .ref (q 0)), (1, .int (iI ((w_ : Nat) : Int))), (2, .int (iI ((0 : Nat) : Int)))]) F hl dX4_camps_12 rfl (by decide) [1, 2, 0] rfl (fun ls hl => ?_)
    refine r_ic F 1 dX4_camps_13 rfl ?_
    refine r_isn (lv' := [(0, .ref (q 0)), (1, .int (iI ((w_ : Nat) : Int))), (2, .int (iI ((0 : Nat) : Int))), (3, .int (iI ((1 : Nat) : Int)))]) F hl dX4_camps_14 rfl (by decide) [1, 2, 3, 0] rfl (fun ls hl => ?_)
    have lp_2 : ∀ (nn_ : Nat) (y : Nat) (k : Nat) (ls : Array Slot), 1 * 2 ^ M 2 0 - k < nn_ → (lpR (cmB (M 2)) (1 * 2 ^ M 2 0) k y = cmR (M 2)) → (y < 65536) → (k ≤ 1 * 2 ^ M 2 0) → lv_has ls 4 [(0, .ref (q 0)), (1, .int (iI ((w_ : Nat) : Int))), (2, .int (iI ((y : Nat) : Int))), (3, .int (iI ((k : Nat) : Int)))] → W p l e rm_X4_camps s m args below meth c H [] 0 0 (Qq below args s ((iI (g_camps (M 2) ((w_ : Nat) : Int))))) (F0 m 15 ls []) := by
      intro nn_
      induction nn_ with
      | zero => intro y k ls hlt; exact absurd hlt (Nat.not_lt_zero _)
      | succ nn_ ih =>
        have ih_3 := ih; clear ih
        intro y k ls hlt hI hy hk hl
        have hlt_4 := hlt
        refine r_iln F hl 3 rfl dX4_camps_15 rfl ?_
        refine r_ic F 1 dX4_camps_16 rfl ?_
        refine r_aln F hl 0 rfl dX4_camps_17 rfl ?_
        refine gf_X4_13 F P 0 rfl (.ref (q 3)) rfl dX4_camps_18 ?_
        refine r_ic F 0 dX4_camps_21 rfl ?_
        refine r_ald (f := M 2) F P 2 rfl dX4_camps_22 (by decide) (by omega) ?_
        have b_5 : M 2 (0) < 256 := hbk (0)
        have b_6 : 1 * 2 ^ (M 2 (0)) < 65536 := pw16 (by omega)
        refine r_shl F dX4_camps_23 ⟨by omega, by omega⟩ ?_
        refine r_cge 52 F dX4_camps_24 (by decide) (by omega) (fun c_7 => ?_) (fun c_7 => ?_)
        · obtain rfl : y = cmR (M 2) := by rw [← hI, lpR_end (by omega)]
          refine r_iln F hl 1 rfl dX4_camps_52 rfl ?_
          refine r_zne 64 F dX4_camps_53 (by decide) (by omega) (fun c_8 => ?_) (fun c_8 => ?_)
          · refine r_iln F hl 2 rfl dX4_camps_64 rfl ?_
            exact r_retQ F hr hlk hH dX4_camps_65 (by first | rfl | (simp only [g_camps, c_1, if_true, if_false, Bool.and_true, Bool.true_and, Bool.and_false, Bool.false_and, Bool.and_self, Bool.false_eq_true, ↓reduceIte, decide_true, decide_false, Int.toNat_natCast, Bool.toNat_true, Bool.toNat_false]; first | done | rfl | (simp only [c_7, (Nat.not_lt.mp c_7), c_8, if_true, if_false, Bool.and_true, Bool.true_and, Bool.and_false, Bool.false_and, Bool.and_self, Bool.false_eq_true, ↓reduceIte, decide_true, decide_false, Int.toNat_natCast, Bool.toNat_true, Bool.toNat_false]; first | done | rfl) | (simp only [if_neg c_7, if_pos (Nat.not_lt.mp c_7), if_neg c_8]; first | done | rfl) | (simp [c_7, (Nat.not_lt.mp c_7), c_8]; done) | (simp [c_7, (Nat.not_lt.mp c_7), c_8]; first | rfl | omega)) | (simp [g_camps, c_1, c_7, (Nat.not_lt.mp c_7), c_8]; done) | (simp [g_camps, c_1, c_7, (Nat.not_lt.mp c_7), c_8]; omega) | (simp only [g_camps, c_1, if_true, if_false, Bool.and_true, Bool.true_and, Bool.and_false, Bool.false_and, Bool.and_self, Bool.false_eq_true, ↓reduceIte, decide_true, decide_false, Int.toNat_natCast, Bool.toNat_true, Bool.toNat_false]; try simp only [c_7, (Nat.not_lt.mp c_7), c_8, if_true, if_false, Bool.and_true, Bool.true_and, Bool.and_false, Bool.false_and, Bool.and_self, Bool.false_eq_true, ↓reduceIte, decide_true, decide_false, Int.toNat_natCast, Bool.toNat_true, Bool.toNat_false]; rfl))
          · refine r_aln F hl 0 rfl dX4_camps_56 rfl ?_
            refine r_iln F hl 2 rfl dX4_camps_57 rfl ?_
            refine r_cq F P (k_X4_parts l D cI cB (q) (M) ((cmR (M 2))) (by omega) hbk hpr) gw_X4_143 [0, 1, 2, 3, 4, 5, 6, 7, 8, 9, 10] rfl rfl rfl ⟨⟨rfl, rfl⟩, Nat.le_of_ble_eq_true rfl, Nat.le_of_ble_eq_true rfl⟩ ⟨Nat.le_of_ble_eq_true rfl, Nat.le_of_ble_eq_true rfl⟩ hl.1 rfl [] rfl (Nat.le_of_ble_eq_true rfl) dX4_camps_58 ?_
            have hq_ := @parts_le (M 2) ((cmR (M 2)))
            refine r_goto 65 F dX4_camps_61 (by decide) ?_
            exact r_retQ F hr hlk hH dX4_camps_65 (by first | rfl | (simp only [g_camps, c_1, if_true, if_false, Bool.and_true, Bool.true_and, Bool.and_false, Bool.false_and, Bool.and_self, Bool.false_eq_true, ↓reduceIte, decide_true, decide_false, Int.toNat_natCast, Bool.toNat_true, Bool.toNat_false]; first | done | rfl | (simp only [c_7, (Nat.not_lt.mp c_7), c_8, if_true, if_false, Bool.and_true, Bool.true_and, Bool.and_false, Bool.false_and, Bool.and_self, Bool.false_eq_true, ↓reduceIte, decide_true, decide_false, Int.toNat_natCast, Bool.toNat_true, Bool.toNat_false]; first | done | rfl) | (simp only [if_neg c_7, if_pos (Nat.not_lt.mp c_7), if_pos c_8]; first | done | rfl) | (simp [c_7, (Nat.not_lt.mp c_7), c_8]; done) | (simp [c_7, (Nat.not_lt.mp c_7), c_8]; first | rfl | omega)) | (simp [g_camps, c_1, c_7, (Nat.not_lt.mp c_7), c_8]; done) | (simp [g_camps, c_1, c_7, (Nat.not_lt.mp c_7), c_8]; omega) | (simp only [g_camps, c_1, if_true, if_false, Bool.and_true, Bool.true_and, Bool.and_false, Bool.false_and, Bool.and_self, Bool.false_eq_true, ↓reduceIte, decide_true, decide_false, Int.toNat_natCast, Bool.toNat_true, Bool.toNat_false]; try simp only [c_7, (Nat.not_lt.mp c_7), c_8, if_true, if_false, Bool.and_true, Bool.true_and, Bool.and_false, Bool.false_and, Bool.and_self, Bool.false_eq_true, ↓reduceIte, decide_true, decide_false, Int.toNat_natCast, Bool.toNat_true, Bool.toNat_false]; rfl))
        · refine r_aln F hl 0 rfl dX4_camps_27 rfl ?_
          refine r_iln F hl 3 rfl dX4_camps_28 rfl ?_
          refine r_cq F P (k_X4_parts l D cI cB (q) (M) (k) (by omega) hbk hpr) gw_X4_143 [0, 1, 2, 3, 4, 5, 6, 7, 8, 9, 10] rfl rfl rfl ⟨⟨rfl, rfl⟩, Nat.le_of_ble_eq_true rfl, Nat.le_of_ble_eq_true rfl⟩ ⟨Nat.le_of_ble_eq_true rfl, Nat.le_of_ble_eq_true rfl⟩ hl.1 rfl [] rfl (Nat.le_of_ble_eq_true rfl) dX4_camps_29 ?_
          have hq_ := @parts_le (M 2) (k)
          refine r_aln F hl 0 rfl dX4_camps_32 rfl ?_
          refine r_iln F hl 2 rfl dX4_camps_33 rfl ?_
          refine r_cq F P (k_X4_parts l D cI cB (q) (M) (y) (by omega) hbk hpr) gw_X4_143 [0, 1, 2, 3, 4, 5, 6, 7, 8, 9, 10] rfl rfl rfl ⟨⟨rfl, rfl⟩, Nat.le_of_ble_eq_true rfl, Nat.le_of_ble_eq_true rfl⟩ ⟨Nat.le_of_ble_eq_true rfl, Nat.le_of_ble_eq_true rfl⟩ hl.1 rfl [.int (iI ((sp_parts (M 2) (k) : Nat) : Int))] rfl (Nat.le_of_ble_eq_true rfl) dX4_camps_34 ?_
          have hq_ := @parts_le (M 2) (y)
          refine r_cge 44 F dX4_camps_37 (by decide) (by omega) (fun c_9 => ?_) (fun c_9 => ?_)
          · refine r_iln F hl 2 rfl dX4_camps_44 rfl ?_
            refine r_isn (lv' := [(0, .ref (q 0)), (1, .int (iI ((w_ : Nat) : Int))), (2, .int (iI ((y : Nat) : Int))), (3, .int (iI ((k : Nat) : Int)))]) F hl dX4_camps_45 rfl (by decide) [1, 2, 0, 3] rfl (fun ls hl => ?_)
            refine r_inc (lv' := [(0, .ref (q 0)), (1, .int (iI ((w_ : Nat) : Int))), (2, .int (iI ((y : Nat) : Int))), (3, .int (iI (((k + 1) : Nat) : Int)))]) F hl 3 rfl dX4_camps_46 1 rfl (by decide) [1, 2, 3, 0] rfl (fun ls hl => ?_)
            refine r_goto 15 F dX4_camps_49 (by decide) ?_
            exact ih_3 (y) ((k + 1)) ls (by omega) (by have h_ := hI; rw [lpR_step (by omega)] at h_; refine Eq.trans ?_ h_; first | rfl | (simp only [cmB, c_1, c_7, (Nat.not_le.mpr c_7), c_9, (Nat.not_lt.mp c_9), if_true, if_false, Bool.and_true, Bool.true_and, Bool.and_false, Bool.false_and, Bool.and_self, Bool.false_eq_true, ↓reduceIte, decide_true, decide_false, Int.toNat_natCast, Bool.toNat_true, Bool.toNat_false]; done) | (simp [cmB, c_1, c_7, (Nat.not_le.mpr c_7), c_9, (Nat.not_lt.mp c_9)]; done)) (by omega) (by omega) hl
          · refine r_iln F hl 3 rfl dX4_camps_40 rfl ?_
            refine r_goto 45 F dX4_camps_41 (by decide) ?_
            refine r_isn (lv' := [(0, .ref (q 0)), (1, .int (iI ((w_ : Nat) : Int))), (2, .int (iI ((k : Nat) : Int))), (3, .int (iI ((k : Nat) : Int)))]) F hl dX4_camps_45 rfl (by decide) [1, 2, 0, 3] rfl (fun ls hl => ?_)
            refine r_inc (lv' := [(0, .ref (q 0)), (1, .int (iI ((w_ : Nat) : Int))), (2, .int (iI ((k : Nat) : Int))), (3, .int (iI (((k + 1) : Nat) : Int)))]) F hl 3 rfl dX4_camps_46 1 rfl (by decide) [1, 2, 3, 0] rfl (fun ls hl => ?_)
            refine r_goto 15 F dX4_camps_49 (by decide) ?_
            exact ih_3 (k) ((k + 1)) ls (by omega) (by have h_ := hI; rw [lpR_step (by omega)] at h_; refine Eq.trans ?_ h_; first | rfl | (simp only [cmB, c_1, c_7, (Nat.not_le.mpr c_7), c_9, (Nat.not_le.mpr c_9), if_true, if_false, Bool.and_true, Bool.true_and, Bool.and_false, Bool.false_and, Bool.and_self, Bool.false_eq_true, ↓reduceIte, decide_true, decide_false, Int.toNat_natCast, Bool.toNat_true, Bool.toNat_false]; done) | (simp [cmB, c_1, c_7, (Nat.not_le.mpr c_7), c_9, (Nat.not_le.mpr c_9)]; done)) (by omega) (by omega) hl
    exact lp_2 _ (0) (1) ls (Nat.lt_succ_self _) rfl (by omega) (by have := Nat.two_pow_pos (M 2 0); omega) hl
  · have c_1d := c_1
    simp only [isIn, isP, decide_eq_true_eq, decide_eq_false_iff_not] at c_1d
    refine r_icz F (-1) dX4_camps_9 rfl ?_
    exact r_retQ F hr hlk hH dX4_camps_10 (by first | rfl | (simp only [g_camps, c_1, if_true, if_false, Bool.and_true, Bool.true_and, Bool.and_false, Bool.false_and, Bool.and_self, Bool.false_eq_true, ↓reduceIte, decide_true, decide_false, Int.toNat_natCast, Bool.toNat_true, Bool.toNat_false]; first | done | rfl | (simp only [if_true, if_true, if_false, Bool.and_true, Bool.true_and, Bool.and_false, Bool.false_and, Bool.and_self, Bool.false_eq_true, ↓reduceIte, decide_true, decide_false, Int.toNat_natCast, Bool.toNat_true, Bool.toNat_false]; first | done | rfl) | (simp only [if_true]; first | done | rfl) | (simp [if_true]; done) | (simp [if_true]; first | rfl | omega)) | (simp [g_camps, c_1]; done) | (simp [g_camps, c_1]; omega) | (simp only [g_camps, c_1, if_true, if_false, Bool.and_true, Bool.true_and, Bool.and_false, Bool.false_and, Bool.and_self, Bool.false_eq_true, ↓reduceIte, decide_true, decide_false, Int.toNat_natCast, Bool.toNat_true, Bool.toNat_false]; try simp only [if_true, if_true, if_false, Bool.and_true, Bool.true_and, Bool.and_false, Bool.false_and, Bool.and_self, Bool.false_eq_true, ↓reduceIte, decide_true, decide_false, Int.toNat_natCast, Bool.toNat_true, Bool.toNat_false]; rfl))
abbrev rm_X4_wipe : Room := { frames := 0, cells := 0, slots := 0, locals := 0 }
set_option maxHeartbeats 4000000 in
set_option maxRecDepth 100000 in
theorem k_X4_wipe (l : Launch) (D : va_G) (cI cB : ClassId) (q : Nat → Nat) (M : St)  : CtU l yX4_wipe cX4_wipe 2 (some .int) rm_X4_wipe D cI cB [.ref (q 0)] (wM q cI M) (wM q cI (stR M 1 (fun _ => 0))) ((iI ((M 1 0 : Nat) : Int))) := by
  refine CtU.of RX4 (by decide) rfl (Nat.le_of_ble_eq_true rfl) ?_
  intro p e s m args below meth c H0 ls A hH hA F hr hlk B hl
  have hl : lv_has ls 2 [(0, .ref (q 0))] := hl
  refine r_aln F hl 0 rfl dX4_wipe_0 rfl ?_
  refine gf_X4_44 F B.1 0 rfl (.int (iI ((M 1 0 : Nat) : Int))) rfl dX4_wipe_1 ?_
  refine r_isn (lv' := [(0, .ref (q 0)), (1, .int (iI ((M 1 0 : Nat) : Int)))]) F hl dX4_wipe_4 rfl (by decide) [1, 0] rfl (fun ls hl => ?_)
  refine r_aln F hl 0 rfl dX4_wipe_5 rfl ?_
  refine r_ic F 0 dX4_wipe_6 rfl ?_
  refine pf_X4_44 F B 0 (wM q cI (stR M 1 (fun _ => 0))) rfl rfl rfl (Nat.le_of_ble_eq_true rfl) rfl dX4_wipe_7 (fun H locs B => ?_)
  refine r_iln F hl 1 rfl dX4_wipe_10 rfl ?_
  exact r_retU F hr hlk hH B dX4_wipe_11 (by first | rfl | (simp only [if_true, if_false, Bool.and_true, Bool.true_and, Bool.and_false, Bool.false_and, Bool.and_self, Bool.false_eq_true, ↓reduceIte, decide_true, decide_false, Int.toNat_natCast, Bool.toNat_true, Bool.toNat_false]; first | done | rfl | (simp only [if_true, if_true, if_false, Bool.and_true, Bool.true_and, Bool.and_false, Bool.false_and, Bool.and_self, Bool.false_eq_true, ↓reduceIte, decide_true, decide_false, Int.toNat_natCast, Bool.toNat_true, Bool.toNat_false]; first | done | rfl) | (simp only [if_true]; first | done | rfl) | (simp [if_true]; done) | (simp [if_true]; first | rfl | omega)) | (simp [if_true]; done) | (simp [if_true]; omega) | (simp only [if_true, if_false, Bool.and_true, Bool.true_and, Bool.and_false, Bool.false_and, Bool.and_self, Bool.false_eq_true, ↓reduceIte, decide_true, decide_false, Int.toNat_natCast, Bool.toNat_true, Bool.toNat_false]; try simp only [if_true, if_true, if_false, Bool.and_true, Bool.true_and, Bool.and_false, Bool.false_and, Bool.and_self, Bool.false_eq_true, ↓reduceIte, decide_true, decide_false, Int.toNat_natCast, Bool.toNat_true, Bool.toNat_false]; rfl)) (by first | rfl | (simp only [if_true, if_false, Bool.and_true, Bool.true_and, Bool.and_false, Bool.false_and, Bool.and_self, Bool.false_eq_true, ↓reduceIte, decide_true, decide_false, Int.toNat_natCast, Bool.toNat_true, Bool.toNat_false]; first | done | rfl | (simp only [if_true, if_true, if_false, Bool.and_true, Bool.true_and, Bool.and_false, Bool.false_and, Bool.and_self, Bool.false_eq_true, ↓reduceIte, decide_true, decide_false, Int.toNat_natCast, Bool.toNat_true, Bool.toNat_false]; first | done | rfl) | (simp only [if_true]; first | done | rfl) | (simp [if_true]; done) | (simp [if_true]; first | rfl | omega)) | (simp [if_true]; done) | (simp [if_true]; omega) | (simp only [if_true, if_false, Bool.and_true, Bool.true_and, Bool.and_false, Bool.false_and, Bool.and_self, Bool.false_eq_true, ↓reduceIte, decide_true, decide_false, Int.toNat_natCast, Bool.toNat_true, Bool.toNat_false]; try simp only [if_true, if_true, if_false, Bool.and_true, Bool.true_and, Bool.and_false, Bool.false_and, Bool.and_self, Bool.false_eq_true, ↓reduceIte, decide_true, decide_false, Int.toNat_natCast, Bool.toNat_true, Bool.toNat_false]; rfl))
abbrev rm_X4_forget : Room := { frames := 0, cells := 0, slots := 0, locals := 0 }
set_option maxHeartbeats 4000000 in
set_option maxRecDepth 100000 in
theorem k_X4_forget (l : Launch) (D : va_G) (cI cB : ClassId) (q : Nat → Nat) (M : St)  : CtU l yX4_forget cX4_forget 2 (some .int) rm_X4_forget D cI cB [.ref (q 0)] (wM q cI M) (wM q cI (stR M 11 (fun _ => 0))) ((iI ((M 11 0 : Nat) : Int))) := by
  refine CtU.of RX4 (by decide) rfl (Nat.le_of_ble_eq_true rfl) ?_
  intro p e s m args below meth c H0 ls A hH hA F hr hlk B hl
  have hl : lv_has ls 2 [(0, .ref (q 0))] := hl
  refine r_aln F hl 0 rfl dX4_forget_0 rfl ?_
  refine gf_X4_93 F B.1 0 rfl (.int (iI ((M 11 0 : Nat) : Int))) rfl dX4_forget_1 ?_
  refine r_isn (lv' := [(0, .ref (q 0)), (1, .int (iI ((M 11 0 : Nat) : Int)))]) F hl dX4_forget_4 rfl (by decide) [1, 0] rfl (fun ls hl => ?_)
  refine r_aln F hl 0 rfl dX4_forget_5 rfl ?_
  refine r_ic F 0 dX4_forget_6 rfl ?_
  refine pf_X4_93 F B 0 (wM q cI (stR M 11 (fun _ => 0))) rfl rfl rfl (Nat.le_of_ble_eq_true rfl) rfl dX4_forget_7 (fun H locs B => ?_)
  refine r_iln F hl 1 rfl dX4_forget_10 rfl ?_
  exact r_retU F hr hlk hH B dX4_forget_11 (by first | rfl | (simp only [if_true, if_false, Bool.and_true, Bool.true_and, Bool.and_false, Bool.false_and, Bool.and_self, Bool.false_eq_true, ↓reduceIte, decide_true, decide_false, Int.toNat_natCast, Bool.toNat_true, Bool.toNat_false]; first | done | rfl | (simp only [if_true, if_true, if_false, Bool.and_true, Bool.true_and, Bool.and_false, Bool.false_and, Bool.and_self, Bool.false_eq_true, ↓reduceIte, decide_true, decide_false, Int.toNat_natCast, Bool.toNat_true, Bool.toNat_false]; first | done | rfl) | (simp only [if_true]; first | done | rfl) | (simp [if_true]; done) | (simp [if_true]; first | rfl | omega)) | (simp [if_true]; done) | (simp [if_true]; omega) | (simp only [if_true, if_false, Bool.and_true, Bool.true_and, Bool.and_false, Bool.false_and, Bool.and_self, Bool.false_eq_true, ↓reduceIte, decide_true, decide_false, Int.toNat_natCast, Bool.toNat_true, Bool.toNat_false]; try simp only [if_true, if_true, if_false, Bool.and_true, Bool.true_and, Bool.and_false, Bool.false_and, Bool.and_self, Bool.false_eq_true, ↓reduceIte, decide_true, decide_false, Int.toNat_natCast, Bool.toNat_true, Bool.toNat_false]; rfl)) (by first | rfl | (simp only [if_true, if_false, Bool.and_true, Bool.true_and, Bool.and_false, Bool.false_and, Bool.and_self, Bool.false_eq_true, ↓reduceIte, decide_true, decide_false, Int.toNat_natCast, Bool.toNat_true, Bool.toNat_false]; first | done | rfl | (simp only [if_true, if_true, if_false, Bool.and_true, Bool.true_and, Bool.and_false, Bool.false_and, Bool.and_self, Bool.false_eq_true, ↓reduceIte, decide_true, decide_false, Int.toNat_natCast, Bool.toNat_true, Bool.toNat_false]; first | done | rfl) | (simp only [if_true]; first | done | rfl) | (simp [if_true]; done) | (simp [if_true]; first | rfl | omega)) | (simp [if_true]; done) | (simp [if_true]; omega) | (simp only [if_true, if_false, Bool.and_true, Bool.true_and, Bool.and_false, Bool.false_and, Bool.and_self, Bool.false_eq_true, ↓reduceIte, decide_true, decide_false, Int.toNat_natCast, Bool.toNat_true, Bool.toNat_false]; try simp only [if_true, if_true, if_false, Bool.and_true, Bool.true_and, Bool.and_false, Bool.false_and, Bool.and_self, Bool.false_eq_true, ↓reduceIte, decide_true, decide_false, Int.toNat_natCast, Bool.toNat_true, Bool.toNat_false]; rfl))
