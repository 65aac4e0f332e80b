-- ===== longs
def byteOf (v : Int64) (k : Nat) : Nat := v.toBitVec.toNat / 2 ^ (8 * k) % 256
theorem byteOf_lt (v : Int64) (k : Nat) : byteOf v k < 256 := Nat.mod_lt _ (by decide)
theorem sh8 : ∀ k : Nat, k < 8 → (((iI ((8 * k : Nat) : Int)).toInt64 &&& 63).toBitVec.smod 64).toNat = 8 * k := by decide +kernel
theorem byte_shr (v : Int64) {k : Nat} (hk : k < 8) : ((v >>> ((iI ((8 * k : Nat) : Int)).toInt64 &&& 63)) &&& 255).toInt32 = iI ((byteOf v k : Nat) : Int) := by
  have hs := sh8 k hk
  rw [iI_n (byteOf v k)]
  apply Int32.toBitVec_inj.1
  apply BitVec.eq_of_getLsbD_eq
  intro i hi
  have e1 : ((v >>> ((iI ((8 * k : Nat) : Int)).toInt64 &&& 63)) &&& 255).toInt32.toBitVec = ((v.toBitVec.sshiftRight (((iI ((8 * k : Nat) : Int)).toInt64 &&& 63).toBitVec.smod 64).toNat) &&& 255#64).signExtend 32 := rfl
  have e2 : (nI (byteOf v k)).toBitVec = BitVec.ofNat 32 (byteOf v k) := rfl
  rw [e1, e2, hs, BitVec.getLsbD_signExtend, BitVec.getLsbD_and, BitVec.getLsbD_sshiftRight, BitVec.getLsbD_ofNat, BitVec.getLsbD_ofNat]
  have e3 : Nat.testBit 255 i = decide (i < 8) := by rw [show (255 : Nat) = 2 ^ 8 - 1 from rfl, Nat.testBit_two_pow_sub_one]
  have e4 : (byteOf v k).testBit i = (decide (i < 8) && v.toBitVec.toNat.testBit (8 * k + i)) := by
    show (v.toBitVec.toNat / 2 ^ (8 * k) % 2 ^ 8).testBit i = _
    rw [Nat.testBit_mod_two_pow, Nat.testBit_div_two_pow, Nat.add_comm]
  rw [e3, e4]
  by_cases h8 : i < 8
  · have h1 : 8 * k + i < 64 := by omega
    have h2 : i < 64 := by omega
    simp [h8, hi, h1, h2, BitVec.getLsbD]
  · have h2 : i < 64 := by omega
    simp [h8, hi, h2]
section RowsL
variable {p : Program} {l : Launch} {e : Env} {R : Room} {s : State} {m : MethodId} {args : Array Value} {below : List Frame} {meth : Method} {c : Code} {H : Heap} {locs : List Loc} {cells slots : Nat} {Q : State → Prop}
variable {cc : ByteArray} {nL : Nat} {own : String} {pc : Nat} {ls : Array Slot} {rest : List Value} {D : va_G} {cI cB : ClassId} {A : Nat → Prop} {ws : va_W} {H0 : Heap}
theorem r_ldc2 {idx : Nat} (v : Int64) (F : Fx p m c cc nL s args own D cI cB) (hw : Cond.constantLong own idx v ∈ tb) (d : decode cc pc = .ok (.ldc2_w idx, 3)) (kk : W p l e R s m args below meth c H locs cells slots Q (F0 m (pc + 3) ls (.long v :: rest))) : W p l e R s m args below meth c H locs cells slots Q (F0 m pc ls rest) := lv_ldc2 F.1.1 F.1.2.1 F.1.2.2.2.1 (F.1.2.2.2.2 _ hw) d kk
theorem r_i2l {a : Nat} (F : Fx p m c cc nL s args own D cI cB) (d : decode cc pc = .ok (.i2l, 1)) (h : a < 2147483648) (kk : W p l e R s m args below meth c H locs cells slots Q (F0 m (pc + 1) ls (.long (lN a) :: rest))) : W p l e R s m args below meth c H locs cells slots Q (F0 m pc ls (.int (iI (a : Int)) :: rest)) := lv_i2l F.1.1 F.1.2.1 d (by rw [iI_n]; exact nI_l (by omega)) kk
theorem r_l2i {a : Nat} (F : Fx p m c cc nL s args own D cI cB) (d : decode cc pc = .ok (.l2i, 1)) (kk : W p l e R s m args below meth c H locs cells slots Q (F0 m (pc + 1) ls (.int (iI (a : Int)) :: rest))) : W p l e R s m args below meth c H locs cells slots Q (F0 m pc ls (.long (lN a) :: rest)) := lv_l2i F.1.1 F.1.2.1 d (by rw [iI_n]; exact lN_i a) kk
theorem r_ladd {a b : Nat} (F : Fx p m c cc nL s args own D cI cB) (d : decode cc pc = .ok (.ladd, 1)) (kk : W p l e R s m args below meth c H locs cells slots Q (F0 m (pc + 1) ls (.long (lN (a + b)) :: rest))) : W p l e R s m args below meth c H locs cells slots Q (F0 m pc ls (.long (lN b) :: .long (lN a) :: rest)) := lv_ladd F.1.1 F.1.2.1 d (by rw [lN_add]; exact kk)
theorem r_lmul {a b : Nat} (F : Fx p m c cc nL s args own D cI cB) (d : decode cc pc = .ok (.lmul, 1)) (kk : W p l e R s m args below meth c H locs cells slots Q (F0 m (pc + 1) ls (.long (lN (a * b)) :: rest))) : W p l e R s m args below meth c H locs cells slots Q (F0 m pc ls (.long (lN b) :: .long (lN a) :: rest)) := lv_lmul F.1.1 F.1.2.1 d (by rw [lN_mul]; exact kk)
theorem r_lrem {a b : Nat} (F : Fx p m c cc nL s args own D cI cB) (d : decode cc pc = .ok (.lrem, 1)) (ha : a < 2 ^ 63) (h0 : 0 < b) (hb : b < 2 ^ 31) (kk : W p l e R s m args below meth c H locs cells slots Q (F0 m (pc + 1) ls (.long (lN (a % b)) :: rest))) : W p l e R s m args below meth c H locs cells slots Q (F0 m pc ls (.long (lN b) :: .long (lN a) :: rest)) := lv_lrem F.1.1 F.1.2.1 d (fun z => by have z2 : lN b = lN 0 := z; rw [lN_eq hb (by decide)] at z2; omega) (by rw [pk_lRem ha h0 (by omega)]; exact kk)
theorem r_lsL {i : Nat} {x : Int64} {lv lv' : List (Nat × Value)} (F : Fx p m c cc nL s args own D cI cB) (hl : lv_has ls nL lv) (d : decode cc pc = .ok (.lstore i, 2)) (hn : i + 1 < nL) (ps : List Nat) (hp : lv_pick ((i, Value.long x) :: lv.filter (fun q => !(q.1 == i) && (!(q.1 == i + 1) && !(q.1 + 1 == i && q.2.category == 2)))) ps = lv') (kk : ∀ ls' : Array Slot, lv_has ls' nL lv' → W p l e R s m args below meth c H locs cells slots Q (F0 m (pc + 2) ls' rest)) : W p l e R s m args below meth c H locs cells slots Q (F0 m pc ls (.long x :: rest)) := lv_lstore F.1.1 F.1.2.1 d hl hn rfl (fun ls' h => kk ls' (lv_sub h ps hp))
theorem r_lsLn {k : Fin 4} {i : Nat} {x : Int64} {lv lv' : List (Nat × Value)} (F : Fx p m c cc nL s args own D cI cB) (hl : lv_has ls nL lv) (d : decode cc pc = .ok (.lstore_n k, 1)) (hi : (k : Nat) = i) (hn : i + 1 < nL) (ps : List Nat) (hp : lv_pick ((i, Value.long x) :: lv.filter (fun q => !(q.1 == i) && (!(q.1 == i + 1) && !(q.1 + 1 == i && q.2.category == 2)))) ps = lv') (kk : ∀ ls' : Array Slot, lv_has ls' nL lv' → W p l e R s m args below meth c H locs cells slots Q (F0 m (pc + 1) ls' rest)) : W p l e R s m args below meth c H locs cells slots Q (F0 m pc ls (.long x :: rest)) := lv_lstore_n F.1.1 F.1.2.1 d hi hl hn rfl (fun ls' h => kk ls' (lv_sub h ps hp))
theorem r_byte {v : Int64} {k : Nat} (F : Fx p m c cc nL s args own D cI cB) (hw : Cond.constantLong own 48 255 ∈ tb) (hk : k < 8) (d1 : decode cc pc = .ok (.lshr, 1)) (d2 : decode cc (pc + 1) = .ok (.ldc2_w 48, 3)) (d3 : decode cc (pc + 1 + 3) = .ok (.land, 1)) (d4 : decode cc (pc + 1 + 3 + 1) = .ok (.l2i, 1)) (kk : W p l e R s m args below meth c H locs cells slots Q (F0 m (pc + 1 + 3 + 1 + 1) ls (.int (iI ((byteOf v k : Nat) : Int)) :: rest))) : W p l e R s m args below meth c H locs cells slots Q (F0 m pc ls (.int (iI ((8 * k : Nat) : Int)) :: .long v :: rest)) :=
  lv_lshr F.1.1 F.1.2.1 d1 rfl (r_ldc2 255 F hw d2 (lv_land F.1.1 F.1.2.1 d3 (lv_l2i F.1.1 F.1.2.1 d4 (byte_shr v hk) kk)))
end RowsL
theorem kL_X3_195 : Cond.constantLong RX3 195 7919 ∈ tb := tb_i 485 (by decide +kernel) rfl
theorem kL_X3_197 : Cond.constantLong RX3 197 6151 ∈ tb := tb_i 486 (by decide +kernel) rfl
theorem kL_X3_199 : Cond.constantLong RX3 199 65521 ∈ tb := tb_i 487 (by decide +kernel) rfl
theorem kL_X4_48 : Cond.constantLong RX4 48 255 ∈ tb := tb_i 564 (by decide +kernel) rfl
theorem kL_X4_149 : Cond.constantLong RX4 149 7919 ∈ tb := tb_i 759 (by decide +kernel) rfl
theorem kL_X4_151 : Cond.constantLong RX4 151 6151 ∈ tb := tb_i 760 (by decide +kernel) rfl
theorem kL_X4_153 : Cond.constantLong RX4 153 65521 ∈ tb := tb_i 761 (by decide +kernel) rfl
theorem kL_L_13 : Cond.constantLong RL 13 4294967295 ∈ tb := tb_i 774 (by decide +kernel) rfl
theorem sq_lt {x : Nat} (h : x < 100000000) : x * x < 2 ^ 63 := Nat.lt_of_le_of_lt (Nat.mul_le_mul (Nat.le_of_lt h) (Nat.le_of_lt h)) (by decide)
/-- the draw -/
def drw (z k : Nat) : Nat := (7919 * z + 6151 * k + 1) * (7919 * z + 6151 * k + 1) % 65521
theorem drw_lt {z k : Nat} : drw z k < 65521 := Nat.mod_lt _ (by decide)
def mnB (bk : Nat → Nat) (z k : Nat) (f : Nat → Nat) : Nat → Nat := sp_ends bk (upN f (1 + 2 * (drw z k / 8 % bk 0) + f 0 % 2) (f (1 + 2 * (drw z k / 8 % bk 0) + f 0 % 2) ||| 1 * 2 ^ (drw z k % 8)))
def sp_month (bk s f : Nat → Nat) (z n : Nat) : Nat → Nat := lpR (mnB bk z) n 0 (sp_plays bk s f 0)
def vMonth (p : Nat) (z n i d : Int) : Bool := isIn z 0 9999 && isIn n 1 60 && isP p i && isIn d 0 1
def g_monthA (bk s f : Nat → Nat) (z n i d : Int) : Nat → Nat := if vMonth (bk 0) z n i d then sp_month bk s f z.toNat n.toNat else f
def g_month (bk s f : Nat → Nat) (z n i d : Int) : Int := if vMonth (bk 0) z n i d then (sp_month bk s f z.toNat n.toNat (1 + 2 * i.toNat + d.toNat) : Int) else -1
-- ===== the model: the text
/-- bytes are written: how many yet, the text, its length -/
def wrF (v : Int64) : Nat → (Nat → Nat) → Nat → (Nat → Nat) × Nat
  | 0, t, n => (t, n)
  | j + 1, t, n => wrF v j (upN t n (byteOf v j)) (n + 1)
def vWrite (len : Nat) (n : Int) : Bool := isIn n 1 8 && decide (len + n.toNat ≤ 300)
def g_writeT (t : Nat → Nat) (len : Nat) (n : Int) (v : Int64) : Nat → Nat := if vWrite len n then (wrF v n.toNat t len).1 else t
def g_writeL (t : Nat → Nat) (len : Nat) (n : Int) (v : Int64) : Nat := if vWrite len n then (wrF v n.toNat t len).2 else len
def g_write (t : Nat → Nat) (len : Nat) (n : Int) (v : Int64) : Int := if isIn n 1 8 then (if vWrite len n then ((wrF v n.toNat t len).2 : Int) else -3) else -1
