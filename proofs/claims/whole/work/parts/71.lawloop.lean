section LawLoop
variable {p : Program} {l : Launch} {e : Env} {s : State} {m : MethodId} {below : List Frame} {meth : Method} {c : Code} {H : Heap} {locs : List Loc} {Z : State → Prop}
variable {b L i : Nat} {xs : Nat → Int32} {D : va_G} {cI cB : ClassId} {pc : Nat} {ls : Array Slot} {rest : List Value} {Q : Nat → Nat → Nat} {q : Nat → Nat} {X : Nat → St} {M : St}
set_option maxHeartbeats 4000000 in
set_option maxRecDepth 100000 in
/-- one call, as the script spells it -/
theorem law_body (F : LF p m c s b L xs D cI cB) (hl : lv_has ls 4 (LL b Q q i)) (hi : i + 5 ≤ L) (hv : Inv X M) (B : LB s D cI cB Q X q M H locs) (back : LK p l e s m below meth c b D cI cB Q q ls Z) : W p l e room_1 s m #[Value.ref b] below meth c H locs 42 1166 Z (F0 m 26 ls []) := by
  refine r_aln F.1 hl 0 rfl dL_law_26 rfl ?_
  refine r_iln F.1 hl 3 rfl dL_law_27 rfl ?_
  refine r_sld F B (by omega) dL_law_28 ?_
  refine r_bp F.1 31 dL_law_29 rfl ?_
  obtain ⟨t, ht, et⟩ := i32_31 (iI (xs i).toInt)
  refine r_andr F.1 dL_law_31 (iI (t : Int)) et ?_
  clear et
  match t, ht with
  | 0, _ => exact lv_tableIn (off := 120) (tgt := 152) F.1.1.1 F.1.1.2.1 dL_law_32 (by decide +kernel) (by decide +kernel) (by decide +kernel) (by decide) (cs_write F hl hi hv B back)
  | 1, _ => exact lv_tableIn (off := 183) (tgt := 215) F.1.1.1 F.1.1.2.1 dL_law_32 (by decide +kernel) (by decide +kernel) (by decide +kernel) (by decide) (cs_wipe F hl hi hv B back)
  | 2, _ => exact lv_tableIn (off := 196) (tgt := 228) F.1.1.1 F.1.1.2.1 dL_law_32 (by decide +kernel) (by decide +kernel) (by decide +kernel) (by decide) (cs_fault F hl hi hv B back)
  | 3, _ => exact lv_tableIn (off := 209) (tgt := 241) F.1.1.1 F.1.1.2.1 dL_law_32 (by decide +kernel) (by decide +kernel) (by decide +kernel) (by decide) (cs_lay F hl hi hv B back)
  | 4, _ => exact lv_tableIn (off := 222) (tgt := 254) F.1.1.1 F.1.1.2.1 dL_law_32 (by decide +kernel) (by decide +kernel) (by decide +kernel) (by decide) (cs_half F hl hi hv B back)
  | 5, _ => exact lv_tableIn (off := 265) (tgt := 297) F.1.1.1 F.1.1.2.1 dL_law_32 (by decide +kernel) (by decide +kernel) (by decide +kernel) (by decide) (cs_see F hl hi hv B back)
  | 6, _ => exact lv_tableIn (off := 298) (tgt := 330) F.1.1.1 F.1.1.2.1 dL_law_32 (by decide +kernel) (by decide +kernel) (by decide +kernel) (by decide) (cs_note F hl hi hv B back)
  | 7, _ => exact lv_tableIn (off := 331) (tgt := 363) F.1.1.1 F.1.1.2.1 dL_law_32 (by decide +kernel) (by decide +kernel) (by decide +kernel) (by decide) (cs_deed F hl hi hv B back)
  | 8, _ => exact lv_tableIn (off := 364) (tgt := 396) F.1.1.1 F.1.1.2.1 dL_law_32 (by decide +kernel) (by decide +kernel) (by decide +kernel) (by decide) (cs_shifts F hl hi hv B back)
  | 9, _ => exact lv_tableIn (off := 387) (tgt := 419) F.1.1.1 F.1.1.2.1 dL_law_32 (by decide +kernel) (by decide +kernel) (by decide +kernel) (by decide) (cs_done F hl hi hv B back)
  | 10, _ => exact lv_tableIn (off := 420) (tgt := 452) F.1.1.1 F.1.1.2.1 dL_law_32 (by decide +kernel) (by decide +kernel) (by decide +kernel) (by decide) (cs_handed F hl hi hv B back)
  | 11, _ => exact lv_tableIn (off := 453) (tgt := 485) F.1.1.1 F.1.1.2.1 dL_law_32 (by decide +kernel) (by decide +kernel) (by decide +kernel) (by decide) (cs_best F hl hi hv B back)
  | 12, _ => exact lv_tableIn (off := 476) (tgt := 508) F.1.1.1 F.1.1.2.1 dL_law_32 (by decide +kernel) (by decide +kernel) (by decide +kernel) (by decide) (cs_knows F hl hi hv B back)
  | 13, _ => exact lv_tableIn (off := 519) (tgt := 551) F.1.1.1 F.1.1.2.1 dL_law_32 (by decide +kernel) (by decide +kernel) (by decide +kernel) (by decide) (cs_could F hl hi hv B back)
  | 14, _ => exact lv_tableIn (off := 552) (tgt := 584) F.1.1.1 F.1.1.2.1 dL_law_32 (by decide +kernel) (by decide +kernel) (by decide +kernel) (by decide) (cs_alike F hl hi hv B back)
  | 15, _ => exact lv_tableIn (off := 575) (tgt := 607) F.1.1.1 F.1.1.2.1 dL_law_32 (by decide +kernel) (by decide +kernel) (by decide +kernel) (by decide) (cs_purse F hl hi hv B back)
  | 16, _ => exact lv_tableIn (off := 618) (tgt := 650) F.1.1.1 F.1.1.2.1 dL_law_32 (by decide +kernel) (by decide +kernel) (by decide +kernel) (by decide) (cs_rests F hl hi hv B back)
  | 17, _ => exact lv_tableIn (off := 641) (tgt := 673) F.1.1.1 F.1.1.2.1 dL_law_32 (by decide +kernel) (by decide +kernel) (by decide +kernel) (by decide) (cs_camps F hl hi hv B back)
  | 18, _ => exact lv_tableIn (off := 664) (tgt := 696) F.1.1.1 F.1.1.2.1 dL_law_32 (by decide +kernel) (by decide +kernel) (by decide +kernel) (by decide) (cs_seen F hl hi hv B back)
  | 19, _ => exact lv_tableIn (off := 697) (tgt := 729) F.1.1.1 F.1.1.2.1 dL_law_32 (by decide +kernel) (by decide +kernel) (by decide +kernel) (by decide) (cs_forget F hl hi hv B back)
  | 20, _ => exact lv_tableIn (off := 710) (tgt := 742) F.1.1.1 F.1.1.2.1 dL_law_32 (by decide +kernel) (by decide +kernel) (by decide +kernel) (by decide) (cs_fits F hl hi hv B back)
  | 21, _ => exact lv_tableIn (off := 723) (tgt := 755) F.1.1.1 F.1.1.2.1 dL_law_32 (by decide +kernel) (by decide +kernel) (by decide +kernel) (by decide) (cs_least F hl hi hv B back)
  | 22, _ => exact lv_tableIn (off := 736) (tgt := 768) F.1.1.1 F.1.1.2.1 dL_law_32 (by decide +kernel) (by decide +kernel) (by decide +kernel) (by decide) (cs_month F hl hi hv B back)
  | 23, _ => exact lv_tableIn (off := 789) (tgt := 821) F.1.1.1 F.1.1.2.1 dL_law_32 (by decide +kernel) (by decide +kernel) (by decide +kernel) (by decide) (cs_keep F hl hi hv B back)
  | 24, _ => exact lv_tableIn (off := 802) (tgt := 834) F.1.1.1 F.1.1.2.1 dL_law_32 (by decide +kernel) (by decide +kernel) (by decide +kernel) (by decide) (cs_back F hl hi hv B back)
  | 25, _ => exact lv_tableIn (off := 815) (tgt := 847) F.1.1.1 F.1.1.2.1 dL_law_32 (by decide +kernel) (by decide +kernel) (by decide +kernel) (by decide) (cs_count F hl hi hv B back)
  | t + 26, h => exact lv_tableOut (tgt := 870) F.1.1.1 F.1.1.2.1 dL_law_32 (Or.inr (by rw [iI_toInt (by omega)]; omega)) (by decide) (back _ _ _ _ _ rfl hv B)
end LawLoop
section LawLoop2
variable {p : Program} {l : Launch} {e : Env} {s : State} {m : MethodId} {below : List Frame} {meth : Method} {c : Code}
variable {b L : Nat} {xs : Nat → Int32} {D : va_G} {cI cB : ClassId}
set_option maxHeartbeats 4000000 in
set_option maxRecDepth 100000 in
theorem law_loop (F : LF p m c s b L xs D cI cB) (hr : meth.sig.returnType = ret) (hlk : meth.locks = false) : ∀ (n i : Nat), i ≤ L → L + 1 ≤ i + n → ∀ (Q : Nat → Nat → Nat) (q : Nat → Nat) (X : Nat → St) (M : St) (H : Heap) (locs : List Loc) (ls : Array Slot), Inv X M → LB s D cI cB Q X q M H locs → lv_has ls 4 (LL b Q q i) → W p l e room_1 s m #[Value.ref b] below meth c H locs 42 1166 (lw_Z below #[Value.ref b] s) (F0 m 18 ls []) := by
  intro n
  induction n with
  | zero => intro i h1 h2; exact absurd h2 (by omega)
  | succ n ih =>
    intro i hi hn Q q X M H locs ls hv B hl
    have hL := F.2.2.2
    refine r_iln F.1 hl 3 rfl dL_law_18 rfl ?_
    refine r_aln F.1 hl 0 rfl dL_law_19 rfl ?_
    refine va_slen F.1.1.1 F.1.1.2.1 F.2.1 F.2.2.1 (Nat.not_le.mpr F.2.2.1) B.2.2 dL_law_20 ?_
    refine r_top (iI (L : Int)) (iI_n L).symm ?_
    refine r_icz F.1 5 dL_law_21 rfl ?_
    refine r_subz F.1 dL_law_22 ?_
    refine r_cgtz 876 F.1 dL_law_23 (by decide) ⟨by omega, by omega⟩ (fun c1 => ?_) (fun c1 => ?_)
    · refine lv_iconst (v := 1) F.1.1.1 F.1.1.2.1 dL_law_876 (by decide) ?_
      refine va_forget (fun q hq => B.2.2.2.2 q hq) ?_
      exact lw_ret F.1.1.1 F.1.1.2.1 hr hlk dL_law_877
    · refine law_body F hl (by omega) hv B ?_
      intro X' M' Q' H' locs' hQ hv' B'
      refine r_inc (lv' := LL b Q q (i + 5)) F.1 hl 3 rfl dL_law_870 5 rfl (by decide) [1, 2, 3, 0] rfl (fun ls' hl' => ?_)
      refine r_goto 18 F.1 dL_law_873 (by decide) ?_
      have e0 : Q' 0 0 = Q 0 0 := by rw [hQ]
      refine ih (i + 5) (by omega) (by omega) Q' q X' M' H' locs' ls' hv' B' ?_
      show lv_has ls' 4 [(0, .ref b), (1, .ref (Q' 0 0)), (2, .ref (q 0)), (3, .int (iI ((i + 5 : Nat) : Int)))]
      rw [e0]
      exact hl'
end LawLoop2
