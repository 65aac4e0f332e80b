-- ===== the law: its own rows
theorem i32r (x : Int32) : -2147483648 ≤ x.toInt ∧ x.toInt < 2147483648 := ⟨Int32.le_toInt x, Int32.toInt_lt x⟩
theorem i32_31 (x : Int32) : ∃ t : Nat, t < 32 ∧ x &&& iI ((31 : Nat) : Int) = iI (t : Int) := by
  refine ⟨(x &&& iI ((31 : Nat) : Int)).toBitVec.toNat, ?_, ?_⟩
  · have h : (x &&& iI ((31 : Nat) : Int)).toBitVec = x.toBitVec &&& BitVec.ofInt 32 ((31 : Nat) : Int) := rfl
    rw [h, BitVec.toNat_and]
    exact Nat.lt_of_le_of_lt Nat.and_le_right (by decide)
  · apply Int32.toBitVec_inj.1
    show _ = BitVec.ofInt 32 _
    rw [BitVec.ofInt_natCast, BitVec.ofNat_toNat, BitVec.setWidth_eq]
/-- what the law's frame stands on -/
def LF (p : Program) (m : MethodId) (c : Code) (s : State) (b L : Nat) (xs : Nat → Int32) (D : va_G) (cI cB : ClassId) : Prop := Fx p m c cL_law 4 s #[Value.ref b] RL D cI cB ∧ va_X b L xs s s.heap ∧ b < s.heap.size ∧ L ≤ 2560
abbrev LA (s : State) : Nat → Prop := fun q => s.heap.size ≤ q
abbrev LB (s : State) (D : va_G) (cI cB : ClassId) (Q : Nat → Nat → Nat) (X : Nat → St) (q : Nat → Nat) (M : St) (H : Heap) (locs : List Loc) : Prop := Bx D (LA s) s.heap (wH Q cI cB X ++ wM q cI M) H locs
abbrev LL (b : Nat) (Q : Nat → Nat → Nat) (q : Nat → Nat) (i : Nat) : List (Nat × Value) := [(0, .ref b), (1, .ref (Q 0 0)), (2, .ref (q 0)), (3, .int (iI (i : Int)))]
section LawRows
variable {p : Program} {l : Launch} {e : Env} {s : State} {m : MethodId} {below : List Frame} {meth : Method} {c : Code} {H : Heap} {locs : List Loc} {Z : State → Prop}
variable {b L i : Nat} {xs : Nat → Int32} {D : va_G} {cI cB : ClassId} {pc : Nat} {ls : Array Slot} {rest : List Value} {Q : Nat → Nat → Nat} {q : Nat → Nat} {X : Nat → St} {M : St}
theorem r_sld {j : Nat} (F : LF p m c s b L xs D cI cB) (B : LB s D cI cB Q X q M H locs) (hj : j < L) (d : decode cL_law pc = .ok (.iaload, 1)) (kk : W p l e room_1 s m #[Value.ref b] below meth c H locs 42 1166 Z (F0 m (pc + 1) ls (.int (iI (xs j).toInt) :: rest))) : W p l e room_1 s m #[Value.ref b] below meth c H locs 42 1166 Z (F0 m pc ls (.int (iI (j : Int)) :: .ref b :: rest)) := by
  have hL := F.2.2.2
  refine va_sld F.1.1.1 F.1.1.2.1 F.2.1 F.2.2.1 (Nat.not_le.mpr F.2.2.1) B.2.2 (iI_in hj (by omega)) d ?_
  rw [iI_clamp (by omega), ← iI_x (xs j)]
  exact kk
theorem r_arg (k : Nat) {n : Int} (F : LF p m c s b L xs D cI cB) (B : LB s D cI cB Q X q M H locs) (hl : lv_has ls 4 (LL b Q q i)) (hi : i + 5 ≤ L) (hk : k < 5) (hn : Int32.ofInt n = iI (k : Int)) (d0 : decode cL_law pc = .ok (.aload_n 0, 1)) (d1 : decode cL_law (pc + 1) = .ok (.iload_n 3, 1)) (d2 : decode cL_law (pc + 1 + 1) = .ok (.iconst n, 1)) (d3 : decode cL_law (pc + 1 + 1 + 1) = .ok (.iadd, 1)) (d4 : decode cL_law (pc + 1 + 1 + 1 + 1) = .ok (.iaload, 1)) (kk : W p l e room_1 s m #[Value.ref b] below meth c H locs 42 1166 Z (F0 m (pc + 1 + 1 + 1 + 1 + 1) ls (.int (iI (xs (i + k)).toInt) :: rest))) : W p l e room_1 s m #[Value.ref b] below meth c H locs 42 1166 Z (F0 m pc ls rest) := by
  refine r_aln F.1 hl 0 rfl d0 rfl ?_
  refine r_iln F.1 hl 3 rfl d1 rfl ?_
  refine r_ic F.1 k d2 hn ?_
  refine r_add F.1 d3 ?_
  exact r_sld F B (by omega) d4 kk
theorem r_leq {r r0 : Int32} {off : Int} (F : LF p m c s b L xs D cI cB) (d : decode cL_law pc = .ok (.if_icmp .eq off, 3)) (ht : (pc : Int) + off = ((870 : Nat) : Int)) (h : r0 = r) (kk : W p l e room_1 s m #[Value.ref b] below meth c H locs 42 1166 Z (F0 m 870 ls [])) : W p l e room_1 s m #[Value.ref b] below meth c H locs 42 1166 Z (F0 m pc ls [.int r, .int r0]) :=
  lv_icmp_eq (tgt := 870) F.1.1.1 F.1.1.2.1 d ht (fun _ => kk) (fun z => absurd h z)
set_option maxHeartbeats 4000000 in
set_option maxRecDepth 100000 in
theorem r_lx {y : MethodName} {bytes : ByteArray} {maxL n idx : Nat} {ret : Option FieldType} {rm : Room} {As st0 : List Value} {Q' : Nat → Nat → Nat} {X' : Nat → St} {r : Int32} (F : LF p m c s b L xs D cI cB) (B : LB s D cI cB Q X q M H locs) (hq : CtU l y bytes maxL ret rm D cI cB (.ref (Q 0 0) :: As) (wH Q cI cB X) (wH Q' cI cB X') r) (gw : VW RL idx RX3 y bytes maxL ret n) (hR : Rm room_1 rm maxL) (hl : ls.size = 4) (hn : As.length = n) (hst : st0 = As.reverse ++ [.ref (Q 0 0)]) (d : decode cL_law pc = .ok (.invokevirtual idx, 3)) (kk : ∀ (H : Heap) (locs : List Loc), LB s D cI cB Q' X' q M H locs → W p l e room_1 s m #[Value.ref b] below meth c H locs 42 1166 Z (F0 m (pc + 3) ls [.int r])) : W p l e room_1 s m #[Value.ref b] below meth c H locs 42 1166 Z (F0 m pc ls st0) :=
  r_cu (ci := 3) (r := r) F.1 (fun _ h => h) B hq gw [0, 1, 2, 3, 4, 5, 6, 7, 8, 9, 10, 11, 12, 13, 14, 15, 16, 17, 18, 19, 20, 21, 22, 23, 24, 25, 26, 27, 28, 29, 30] rfl rfl [31, 32, 33, 34, 35, 36, 37, 38, 39, 40, 41] (wM q cI M) rfl rfl (by decide) [11, 12, 13, 14, 15, 16, 17, 18, 19, 20, 21, 22, 23, 24, 25, 26, 27, 28, 29, 30, 31, 32, 33, 34, 35, 36, 37, 38, 39, 40, 41, 0, 1, 2, 3, 4, 5, 6, 7, 8, 9, 10] (wH Q' cI cB X' ++ wM q cI M) rfl rfl rfl rfl hR ⟨Nat.le_of_ble_eq_true rfl, Nat.le_of_ble_eq_true rfl⟩ hl hn [] hst (Nat.zero_le _) d kk
set_option maxHeartbeats 4000000 in
set_option maxRecDepth 100000 in
theorem r_lm {y : MethodName} {bytes : ByteArray} {maxL n idx : Nat} {ret : Option FieldType} {rm : Room} {As st0 : List Value} {M' : St} {r r0 : Int32} (F : LF p m c s b L xs D cI cB) (B : LB s D cI cB Q X q M H locs) (hq : CtU l y bytes maxL ret rm D cI cB (.ref (q 0) :: As) (wM q cI M) (wM q cI M') r) (gw : VW RL idx RX4 y bytes maxL ret n) (hR : Rm room_1 rm maxL) (hl : ls.size = 4) (hn : As.length = n) (hst : st0 = As.reverse ++ [.ref (q 0), .int r0]) (d : decode cL_law pc = .ok (.invokevirtual idx, 3)) (kk : ∀ (H : Heap) (locs : List Loc), LB s D cI cB Q X q M' H locs → W p l e room_1 s m #[Value.ref b] below meth c H locs 42 1166 Z (F0 m (pc + 3) ls [.int r, .int r0])) : W p l e room_1 s m #[Value.ref b] below meth c H locs 42 1166 Z (F0 m pc ls st0) :=
  r_cu (ci := 4) (r := r) F.1 (fun _ h => h) B hq gw [31, 32, 33, 34, 35, 36, 37, 38, 39, 40, 41] rfl rfl [0, 1, 2, 3, 4, 5, 6, 7, 8, 9, 10, 11, 12, 13, 14, 15, 16, 17, 18, 19, 20, 21, 22, 23, 24, 25, 26, 27, 28, 29, 30] (wH Q cI cB X) rfl rfl (by decide) [0, 1, 2, 3, 4, 5, 6, 7, 8, 9, 10, 11, 12, 13, 14, 15, 16, 17, 18, 19, 20, 21, 22, 23, 24, 25, 26, 27, 28, 29, 30, 31, 32, 33, 34, 35, 36, 37, 38, 39, 40, 41] (wH Q cI cB X ++ wM q cI M') rfl rfl rfl rfl hR ⟨Nat.le_of_ble_eq_true rfl, Nat.le_of_ble_eq_true rfl⟩ hl hn [.int r0] hst (Nat.le_of_ble_eq_true rfl) d kk
set_option maxHeartbeats 4000000 in
set_option maxRecDepth 100000 in
theorem r_lxq {y : MethodName} {bytes : ByteArray} {maxL n idx : Nat} {ret : Option FieldType} {rm : Room} {As st0 : List Value} {r : Int32} (F : LF p m c s b L xs D cI cB) (B : LB s D cI cB Q X q M H locs) (hq : CtQ l y bytes maxL ret rm D cI cB (.ref (Q 0 0) :: As) (wH Q cI cB X) r) (gw : VW RL idx RX3 y bytes maxL ret n) (hR : Rm room_1 rm maxL) (hl : ls.size = 4) (hn : As.length = n) (hst : st0 = As.reverse ++ [.ref (Q 0 0)]) (d : decode cL_law pc = .ok (.invokevirtual idx, 3)) (kk : W p l e room_1 s m #[Value.ref b] below meth c H locs 42 1166 Z (F0 m (pc + 3) ls [.int r])) : W p l e room_1 s m #[Value.ref b] below meth c H locs 42 1166 Z (F0 m pc ls st0) :=
  r_cq (ci := 3) (r := r) F.1 B.1 hq gw [0, 1, 2, 3, 4, 5, 6, 7, 8, 9, 10, 11, 12, 13, 14, 15, 16, 17, 18, 19, 20, 21, 22, 23, 24, 25, 26, 27, 28, 29, 30] rfl rfl rfl hR ⟨Nat.le_of_ble_eq_true rfl, Nat.le_of_ble_eq_true rfl⟩ hl hn [] hst (Nat.zero_le _) d kk
set_option maxHeartbeats 4000000 in
set_option maxRecDepth 100000 in
theorem r_lmq {y : MethodName} {bytes : ByteArray} {maxL n idx : Nat} {ret : Option FieldType} {rm : Room} {As st0 : List Value} {r r0 : Int32} (F : LF p m c s b L xs D cI cB) (B : LB s D cI cB Q X q M H locs) (hq : CtQ l y bytes maxL ret rm D cI cB (.ref (q 0) :: As) (wM q cI M) r) (gw : VW RL idx RX4 y bytes maxL ret n) (hR : Rm room_1 rm maxL) (hl : ls.size = 4) (hn : As.length = n) (hst : st0 = As.reverse ++ [.ref (q 0), .int r0]) (d : decode cL_law pc = .ok (.invokevirtual idx, 3)) (kk : W p l e room_1 s m #[Value.ref b] below meth c H locs 42 1166 Z (F0 m (pc + 3) ls [.int r, .int r0])) : W p l e room_1 s m #[Value.ref b] below meth c H locs 42 1166 Z (F0 m pc ls st0) :=
  r_cq (ci := 4) (r := r) F.1 B.1 hq gw [31, 32, 33, 34, 35, 36, 37, 38, 39, 40, 41] rfl rfl rfl hR ⟨Nat.le_of_ble_eq_true rfl, Nat.le_of_ble_eq_true rfl⟩ hl hn [.int r0] hst (Nat.le_of_ble_eq_true rfl) d kk
/-- the law goes on behind a call -/
def LK (p : Program) (l : Launch) (e : Env) (s : State) (m : MethodId) (below : List Frame) (meth : Method) (c : Code) (b : Nat) (D : va_G) (cI cB : ClassId) (Q : Nat → Nat → Nat) (q : Nat → Nat) (ls : Array Slot) (Z : State → Prop) : Prop :=
  ∀ (X : Nat → St) (M : St) (Q' : Nat → Nat → Nat) (H : Heap) (locs : List Loc), Q' 0 = Q 0 → Inv X M → LB s D cI cB Q' X q M H locs → W p l e room_1 s m #[Value.ref b] below meth c H locs 42 1166 Z (F0 m 870 ls [])
theorem layQ_0 : c_layQ Q X 0 = Q 0 := by
  unfold c_layQ
  split <;> rfl
end LawRows
