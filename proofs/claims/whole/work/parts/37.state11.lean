-- ===== the class: its world
def wO (q : Nat → Nat) (p l d n t f s : Nat) (cI : ClassId) (O : St) : va_W :=
  [(q 0, .inr (3, [.ref p, .ref l, .ref d, .ref n, .ref t, .ref f, .ref s, .int (iI (O 7 0 : Int)), .ref (q 9), .int (iI (O 9 0 : Int)), .ref (q 11), .ref (q 12)])), (q 9, aI cI 10 (O 8)), (q 11, aI cI 10 (O 10)), (q 12, aI cI 10 (O 11))]
def wH (Q : Nat → Nat → Nat) (cI cB : ClassId) (X : Nat → St) : va_W :=
  wO (Q 0) ((Q 1) 0) ((Q 2) 0) ((Q 3) 0) ((Q 4) 0) ((Q 5) 0) ((Q 6) 0) ((Q 7) 0) cI (X 0) ++ wP (Q 1) cI cB (X 1) ++ wT (Q 2) cI (X 2) ++ wT (Q 3) cI (X 3) ++ wS (Q 4) cI (X 4) ++ wS (Q 5) cI (X 5) ++ wS (Q 6) cI (X 6) ++ wS (Q 7) cI (X 7)
def xR (X : Nat → St) (i : Nat) (S : St) : Nat → St := fun k => if k = i then S else X k
def sw23 (Q : Nat → Nat → Nat) : Nat → Nat → Nat := fun k => if k = 2 then Q 3 else if k = 3 then Q 2 else Q k
theorem bx_perm {D : va_G} {A : Nat → Prop} {H0 H : Heap} {ws ws' : va_W} {locs : List Loc} (B : Bx D A H0 ws H locs) (ps : List Nat) (h : ps.map (fun i => ws[i]?) = ws'.map some) (hn : va_nd ps = true) : Bx D A H0 ws' H locs := ⟨va_P.sub B.1 ps (fm_some ps _ ws' h), va_D.sub B.2.1 ps hn h, B.2.2⟩
/-- a question whose answer is an address -/
def CtR (l : Launch) (y : MethodName) (cd : ByteArray) (nL : Nat) (ret : Option FieldType) (rm : Room) (D : va_G) (cI cB : ClassId) (av : List Value) (wc : va_W) (a : Nat) : Prop :=
  Met l y (.code y cd nL ret :: tb) rm (va_Pc av (fun U => va_P D vwCl wc U.heap ∧ KK D cI cB U)) (va_Sr (fun k => k = a) (fun k => .ref k)) 0 0 (fun _ => False)
theorem CtR.of {l : Launch} {y : MethodName} {cd : ByteArray} {nL : Nat} {ret : Option FieldType} {rm : Room} {D : va_G} {cI cB : ClassId} {av : List Value} {wc : va_W} {a : Nat} (own : String) (hy : plainName y.cls = true) (ho : y.cls = own) (hn : (lg_sl av).length ≤ nL)
    (body : ∀ p e s m args below meth c H ls, s.heap = H → Fx p m c cd nL s args own D cI cB → meth.sig.returnType = ret → meth.locks = false → va_P D vwCl wc H → lv_has ls nL (lv_args 0 av) →
      W p l e rm s m args below meth c H [] 0 0 (MQ below (va_Sr (fun k => k = a) (fun k => .ref k)) args s 0 0 (fun _ => False)) (F0 m 0 ls [])) : CtR l y cd nL ret rm D cI cB av wc a := by
  refine Met.ofW (cc := cd) (maxL := nL) (ret := ret) hy rfl ?_
  intro p e s m args below meth c s₁ B hml hv
  obtain ⟨rfl, hP, hK⟩ := hv
  have hts := atoms_spec (ws := .code y cd nL ret :: tb) B.pre
  have hown : s.vm.findClass own = some m.cls := by rw [← ho]; exact findClass_of_methodNamed B.named
  rw [lg_entry_eq]
  exact body p e s m av.toArray below meth c s.heap _ rfl ⟨⟨B.exec, B.bytes, hml, hown, fun w h => hts w (List.mem_cons_of_mem _ h)⟩, hK⟩ B.returns B.notSynchronized hP (lv_entry av hn)
section Rows3
variable {p : Program} {l : Launch} {e : Env} {R : Room} {s : State} {m : MethodId} {args : Array Value} {below : List Frame} {meth : Method} {c : Code} {H : Heap} {locs : List Loc} {cells slots : Nat} {Q : State → Prop}
variable {cc : ByteArray} {nL : Nat} {own : String} {pc : Nat} {ls : Array Slot} {rest : List Value} {D : va_G} {cI cB : ClassId} {A : Nat → Prop} {ws : va_W} {H0 : Heap}
theorem r_retR {b a : Nat} {cn : String} (F : Fx p m c cc nL s args own D cI cB) (hr : meth.sig.returnType = some (.object cn)) (hlk : meth.locks = false) (hH : s.heap = H) (d : decode cc pc = .ok (.areturn, 1)) (hv : b = a) : W p l e R s m args below meth c H [] 0 0 (MQ below (va_Sr (fun k => k = a) (fun k => .ref k)) args s 0 0 (fun _ => False)) (F0 m pc ls [.ref b]) :=
  W.aret F.1.1 F.1.2.1 hr (Or.inl ⟨_, rfl⟩) (Or.inr ⟨_, rfl⟩) (fun t ht _ => ⟨b, rfl, hv, ht.trans hH.symm⟩) (fun _ h => by cases h) d hlk
theorem r_cr {y : MethodName} {bytes : ByteArray} {maxL n idx ci a : Nat} {ret : Option FieldType} {rm : Room} {C : String} {T : u_T} {N : Nat} {fs : List Value} {As st0 : List Value} {wc : va_W} (r : Nat) (F : Fx p m c cc nL s args own D cI cB) (P : va_P D vwCl ws H) (hq : CtR l y bytes maxL ret rm D cI cB (.ref a :: As) wc r) (gw : VW own idx C y bytes maxL ret n) (is : List Nat) (his : is.map (fun i => ws[i]?) = wc.map some) (hrv : wc[0]? = some (a, .inr (ci, fs))) (hci : vwCl[ci]? = some (C, T, N)) (hR : Rm R rm maxL) (hcs : cells ≤ R.cells ∧ slots ≤ R.slots) (hl : ls.size = nL) (hn : As.length = n) (rest : List Value) (hst : st0 = As.reverse ++ .ref a :: rest) (h8 : (rest.map fun v => v.category).sum ≤ 8) (d : decode cc pc = .ok (.invokevirtual idx, 3)) (kk : W p l e R s m args below meth c H locs cells slots Q (F0 m (pc + 3) ls (.ref r :: rest))) : W p l e R s m args below meth c H locs cells slots Q (F0 m pc ls st0) := by
  have hPc := va_P.sub P is (fm_some is ws wc his)
  refine va_csr (W.runV (As := As) (rest := rest) F.1 hq (cwV n F.1.2.2.2.2 gw.1 rfl hR.1.1 hR.1.2 gw.2 hR.2) ⟨blindQ, va_recv F.2.1 hPc hci hrv, fun U hU hW => ⟨rfl, by rw [hU]; exact hPc, F.2.warm hW⟩⟩ rfl hn hl hst (lv_room h8) d ⟨hcs.1, hcs.2⟩) (fun x hx => ?_)
  subst hx
  exact kk
/-- the words of a call of a static method of another class -/
def OW (own : String) (idx : Nat) (y : MethodName) (bytes : ByteArray) (maxL : Nat) (ret : Option FieldType) (n : Nat) : Prop :=
  GoodIn tb (va_wsS own idx y (.code y bytes maxL ret :: tb)) ∧ (y.cls ≠ "java/lang/invoke/MethodHandle" ∧ y.cls ≠ "java/lang/invoke/VarHandle" ∧ (parseMethodDescriptor y.desc).map (fun d => d.parameters.length) = some n)
theorem r_sqO {y : MethodName} {bytes : ByteArray} {maxL n idx : Nat} {ret : Option FieldType} {rm : Room} {As st0 : List Value} {wc : va_W} {r : Int32} (F : Fx p m c cc nL s args own D cI cB) (P : va_P D vwCl ws H) (hq : CtQ l y bytes maxL ret rm D cI cB As wc r) (gw : OW own idx y bytes maxL ret n) (is : List Nat) (his : is.map (fun i => ws[i]?) = wc.map some) (hR : Rm R rm maxL) (hcs : cells ≤ R.cells ∧ slots ≤ R.slots) (hl : ls.size = nL) (hn : As.length = n) (rest : List Value) (hst : st0 = As.reverse ++ rest) (h8 : (rest.map fun v => v.category).sum ≤ 8) (d : decode cc pc = .ok (.invokestatic idx, 3)) (kk : W p l e R s m args below meth c H locs cells slots Q (F0 m (pc + 3) ls (.int r :: rest))) : W p l e R s m args below meth c H locs cells slots Q (F0 m pc ls st0) := by
  have hPc := va_P.sub P is (fm_some is ws wc his)
  refine vp_callSi (W.runS (As := As) (rest := rest) F.1 hq (va_cwS n F.1.2.2.2.2 gw.1 rfl hR.1.1 hR.1.2 gw.2 hR.2) ⟨blindQ, fun U hU hW => ⟨rfl, by rw [hU]; exact hPc, F.2.warm hW⟩⟩ rfl hn hl hst (lv_room h8) d ⟨hcs.1, hcs.2⟩) (fun x hx => ?_)
  subst hx
  exact kk
end Rows3
theorem gw_X3_165 : OW RX3 165 yJ6_bitCount_0f7a4 cJ6_bitCount_0f7a4 1 (some .int) 1 := ⟨fun w hw => (List.mem_append.mp hw).elim (fun h => by
    simp only [List.mem_cons, List.not_mem_nil, or_false] at h
    rcases h with rfl | rfl | rfl
    · exact tb_self _ km_X3_165
    · exact tb_self _ kt_J6_bitCount_0f7a4
    · exact tb_self _ ki_J6) (tb_cons kc_J6_bitCount_0f7a4 w), by decide +kernel⟩
theorem kJ_265 : Cond.constant RJ6 265 1431655765 ∈ tb := tb_i 471 (by decide +kernel) rfl
theorem kJ_266 : Cond.constant RJ6 266 858993459 ∈ tb := tb_i 472 (by decide +kernel) rfl
theorem kJ_267 : Cond.constant RJ6 267 252645135 ∈ tb := tb_i 473 (by decide +kernel) rfl
-- ===== the byte of a long, by the unsigned shift
theorem sh8u : ∀ k : Nat, k < 8 → (((iI ((8 * k : Nat) : Int)).toInt64.toUInt64 &&& Int64.toUInt64 63).toBitVec % 64).toNat = 8 * k := by decide +kernel
theorem sx_8 : ∀ b : Nat, b < 256 → iI (sx b) = (Int8.ofNat b).toInt32 := by decide +kernel
theorem byte_ushr (v : Int64) {k : Nat} (hk : k < 8) : vp_nar .byte ((v.toUInt64 >>> ((iI ((8 * k : Nat) : Int)).toInt64.toUInt64 &&& Int64.toUInt64 63)).toInt64.toInt32.toInt8.toInt32) = iI (sx (byteOf v k)) := by
  rw [pk_vb, sx_8 _ (byteOf_lt v k)]
  congr 1
  apply Int8.toBitVec_inj.1
  apply BitVec.eq_of_getLsbD_eq
  intro i hi
  have hs := sh8u k hk
  have e1 : (v.toUInt64 >>> ((iI ((8 * k : Nat) : Int)).toInt64.toUInt64 &&& Int64.toUInt64 63)).toInt64.toInt32.toInt8.toBitVec = ((v.toBitVec >>> (((iI ((8 * k : Nat) : Int)).toInt64.toUInt64 &&& Int64.toUInt64 63).toBitVec % 64)).signExtend 32).signExtend 8 := rfl
  have e2 : (Int8.ofNat (byteOf v k)).toBitVec = BitVec.ofNat 8 (byteOf v k) := rfl
  have e5 : v.toBitVec >>> (((iI ((8 * k : Nat) : Int)).toInt64.toUInt64 &&& Int64.toUInt64 63).toBitVec % 64) = v.toBitVec >>> (8 * k) := congrArg (fun n : Nat => v.toBitVec >>> n) hs
  rw [e1, e2, e5, BitVec.getLsbD_signExtend, BitVec.getLsbD_signExtend, BitVec.getLsbD_ushiftRight, BitVec.getLsbD_ofNat]
  have e4 : (byteOf v k).testBit i = (decide (i < 8) && v.toBitVec.toNat.testBit (8 * k + i)) := by
    show (v.toBitVec.toNat / 2 ^ (8 * k) % 2 ^ 8).testBit i = _
    rw [Nat.testBit_mod_two_pow, Nat.testBit_div_two_pow, Nat.add_comm]
  rw [e4]
  have h2 : i < 32 := by omega
  have h3 : i < 64 := by omega
  simp [hi, h2, h3, BitVec.getLsbD]
def bcE (x : Int32) : Int32 :=
  let c1 : Int32 := 1431655765
  let c2 : Int32 := 858993459
  let c3 : Int32 := 252645135
  let x1 := x - ((x.toUInt32 >>> ((iI ((1 : Nat) : Int)).toUInt32 &&& Int32.toUInt32 31)).toInt32 &&& c1)
  let x2 := (x1 &&& c2) + ((x1.toUInt32 >>> ((iI ((2 : Nat) : Int)).toUInt32 &&& Int32.toUInt32 31)).toInt32 &&& c2)
  let x3 := (x2 + (x2.toUInt32 >>> ((iI ((4 : Nat) : Int)).toUInt32 &&& Int32.toUInt32 31)).toInt32) &&& c3
  let x4 := x3 + (x3.toUInt32 >>> ((iI ((8 : Nat) : Int)).toUInt32 &&& Int32.toUInt32 31)).toInt32
  let x5 := x4 + (x4.toUInt32 >>> ((iI ((16 : Nat) : Int)).toUInt32 &&& Int32.toUInt32 31)).toInt32
  x5 &&& iI ((63 : Nat) : Int)
theorem bcE_ok : ∀ n : Nat, n < 32 → bcE (iI (n : Int)) = iI ((lnR n : Nat) : Int) := by decide +kernel
