def iI (z : Int) : Int32 := Int32.ofInt z
theorem iI_n (n : Nat) : iI (n : Int) = nI n := by
  apply Int32.toInt_inj.mp
  show (Int32.ofInt (n : Int)).toInt = (Int32.ofNat n).toInt
  rw [Int32.toInt_ofInt, Int32.toInt_ofNat']
theorem iI_toInt {z : Int} (h : -2147483648 ≤ z ∧ z < 2147483648) : (iI z).toInt = z := by
  show (Int32.ofInt z).toInt = z
  have e : (Int32.size : Int) = 4294967296 := rfl
  rw [Int32.toInt_ofInt]
  exact Int.bmod_eq_of_le (by omega) (by omega)
theorem iI_x (x : Int32) : iI x.toInt = x := Int32.ofInt_toInt x
theorem iI_add (a b : Int) : iI a + iI b = iI (a + b) := (Int32.ofInt_add a b).symm
theorem iI_sub (a b : Int) : iI a - iI b = iI (a - b) := (Int32.ofInt_sub a b).symm
theorem iI_mul (a b : Int) : iI a * iI b = iI (a * b) := (Int32.ofInt_mul a b).symm
theorem iI_neg (a : Int) : -iI a = iI (-a) := (Int32.ofInt_neg a).symm
theorem iI_lt {a b : Int} (ha : -2147483648 ≤ a ∧ a < 2147483648) (hb : -2147483648 ≤ b ∧ b < 2147483648) : iI a < iI b ↔ a < b := by
  rw [Int32.lt_iff_toInt_lt, iI_toInt ha, iI_toInt hb]
theorem iI_le {a b : Int} (ha : -2147483648 ≤ a ∧ a < 2147483648) (hb : -2147483648 ≤ b ∧ b < 2147483648) : iI a ≤ iI b ↔ a ≤ b := by
  rw [Int32.le_iff_toInt_le, iI_toInt ha, iI_toInt hb]
theorem iI_eq {a b : Int} (ha : -2147483648 ≤ a ∧ a < 2147483648) (hb : -2147483648 ≤ b ∧ b < 2147483648) : iI a = iI b ↔ a = b := by
  rw [← Int32.toInt_inj, iI_toInt ha, iI_toInt hb]
theorem iI_0 : iI 0 = 0 := by decide
theorem iI_clamp {k : Nat} (h : k < 2147483648) : (iI (k : Int)).toNatClampNeg = k := by
  rw [iI_n]; exact nI_clamp (by omega)
theorem iI_in {k n : Nat} (h : k < n) (hn : n < 2147483648) : vp_in (iI (k : Int)) n := by
  rw [iI_n]; exact vp_in_nI h (by omega)
theorem iI_and (a b : Nat) : iI (a : Int) &&& iI (b : Int) = iI ((a &&& b : Nat) : Int) := by
  rw [iI_n, iI_n, iI_n]
  apply Int32.toBitVec_inj.1
  show BitVec.ofNat 32 a &&& BitVec.ofNat 32 b = BitVec.ofNat 32 (a &&& b)
  apply BitVec.eq_of_getLsbD_eq
  intro i hi
  simp [hi]
theorem iI_or (a b : Nat) : iI (a : Int) ||| iI (b : Int) = iI ((a ||| b : Nat) : Int) := by
  rw [iI_n, iI_n, iI_n]
  apply Int32.toBitVec_inj.1
  show BitVec.ofNat 32 a ||| BitVec.ofNat 32 b = BitVec.ofNat 32 (a ||| b)
  apply BitVec.eq_of_getLsbD_eq
  intro i hi
  simp [hi]
theorem iI_xor (a b : Nat) : iI (a : Int) ^^^ iI (b : Int) = iI ((a ^^^ b : Nat) : Int) := by
  rw [iI_n, iI_n, iI_n]
  apply Int32.toBitVec_inj.1
  show BitVec.ofNat 32 a ^^^ BitVec.ofNat 32 b = BitVec.ofNat 32 (a ^^^ b)
  apply BitVec.eq_of_getLsbD_eq
  intro i hi
  simp [hi]
/-- a without what is in b -/
def anot (a b : Nat) : Nat := a ^^^ (a &&& b)
theorem iI_anot (a b : Nat) : iI (a : Int) &&& (iI (b : Int) ^^^ iI (-1)) = iI ((anot a b : Nat) : Int) := by
  rw [iI_n, iI_n, iI_n]
  apply Int32.toBitVec_inj.1
  show BitVec.ofNat 32 a &&& (BitVec.ofNat 32 b ^^^ BitVec.ofInt 32 (-1)) = BitVec.ofNat 32 (a ^^^ (a &&& b))
  apply BitVec.eq_of_getLsbD_eq
  intro i hi
  have e : (BitVec.ofInt 32 (-1)) = BitVec.allOnes 32 := by decide
  rw [e]
  simp only [BitVec.getLsbD_and, BitVec.getLsbD_xor, BitVec.getLsbD_ofNat, BitVec.getLsbD_allOnes, Nat.testBit_xor, Nat.testBit_and, hi, decide_true, Bool.true_and]
  cases a.testBit i <;> cases b.testBit i <;> rfl
theorem iI_sm : ∀ n : Nat, n < 32 → ((iI (n : Int) &&& 31).toBitVec.smod 32).toNat = n := by decide +kernel
theorem iI_shl {a n : Nat} (hn : n < 32) (h : a * 2 ^ n < 2147483648) : iI (a : Int) <<< (iI (n : Int) &&& 31) = iI ((a * 2 ^ n : Nat) : Int) := by
  rw [iI_n a, iI_n (a * 2 ^ n)]
  exact pk_shlN _ n (iI_sm n hn) (by omega)
theorem iI_shr {a n : Nat} (hn : n < 32) (h : a < 2147483648) : iI (a : Int) >>> (iI (n : Int) &&& 31) = iI ((a / 2 ^ n : Nat) : Int) := by
  rw [iI_n a, iI_n (a / 2 ^ n)]
  exact pk_shrN (by omega) _ n (iI_sm n hn)
theorem iI_div {a b : Nat} (ha : a < 2147483648) (h0 : 0 < b) (hb : b < 2147483648) : iI (a : Int) / iI (b : Int) = iI ((a / b : Nat) : Int) := by
  rw [iI_n a, iI_n b, iI_n (a / b)]
  exact pk_div (by omega) h0 (by omega)
theorem iI_rem {a b : Nat} (ha : a < 2147483648) (h0 : 0 < b) (hb : b < 2147483648) : iI (a : Int) - iI (a : Int) / iI (b : Int) * iI (b : Int) = iI ((a % b : Nat) : Int) := by
  rw [iI_n a, iI_n b, iI_n (a % b)]
  exact pk_rem (by omega) h0 (by omega)
theorem iI_ne0 {b : Nat} (h0 : 0 < b) (hb : b < 2147483648) : ¬ iI (b : Int) = 0 := by
  rw [← iI_0, iI_eq (by omega) (by omega)]
  omega
theorem toNat_lt2 (b : Bool) : b.toNat < 2 := by cases b <;> decide
/-- the state of an object: numbers by row and place -/
abbrev St : Type := Nat → Nat → Nat
def upN (f : Nat → Nat) (k v : Nat) : Nat → Nat := fun j => if j = k then v else f j
def stA (M : St) (a k v : Nat) : St := fun b => if b = a then upN (M a) k v else M b
def Bd (M : St) : Prop := ∀ a k, M a k < 65536
theorem bd_st {M : St} {a k v : Nat} (h : Bd M) (hv : v < 65536) : Bd (stA M a k v) := by
  intro b j
  show (if b = a then upN (M a) k v else M b) j < 65536
  by_cases hb : b = a
  · rw [if_pos hb]
    show (if j = k then v else M a j) < 65536
    by_cases hj : j = k
    · rw [if_pos hj]; exact hv
    · rw [if_neg hj]; exact h a j
  · rw [if_neg hb]; exact h b j
theorem bd_or {a b : Nat} (n : Nat) (ha : a < 2 ^ n) (hb : b < 2 ^ n) : a ||| b < 2 ^ n := Nat.or_lt_two_pow ha hb
theorem bd_and {a b : Nat} (c : Nat) (ha : a < c) : a &&& b < c := Nat.lt_of_le_of_lt Nat.and_le_left ha
theorem bd_anot {a b : Nat} (n : Nat) (ha : a < 2 ^ n) : anot a b < 2 ^ n := Nat.xor_lt_two_pow ha (Nat.lt_of_le_of_lt Nat.and_le_left ha)
abbrev aI (cI : ClassId) (n : Nat) (f : Nat → Nat) : va_E := .inl (cI, n, .inl (fun k => iI (f k : Int)))
def sx (b : Nat) : Int := if b < 128 then (b : Int) else (b : Int) - 256
abbrev aB (cB : ClassId) (n : Nat) (f : Nat → Nat) : va_E := .inl (cB, n, .inl (fun k => iI (sx (f k))))
abbrev tyIB (cI cB : ClassId) : List (ClassId × FieldType) := [(cI, .int), (cB, .byte)]
def KK (D : va_G) (cI cB : ClassId) (U : State) : Prop := va_K D vwCl (tyIB cI cB) U ∧ ∀ w ∈ nst, va_Nw w U
theorem nst_warm {w : Cond} (hw : isNest w = true) {s U : State} (hW : s.WarmedH U.vm) (h : va_Nw w s) : va_Nw w U := by
  cases w <;> first | exact va_Nw.warmF hW h | exact va_Nw.warmM hW h | (simp [isNest] at hw; done)
theorem nst_tab {w : Cond} (hw : isNest w = true) : w.onTables = true := by
  cases w <;> first | rfl | (simp [isNest] at hw; done)
theorem nst_is {w : Cond} (h : w ∈ nst) : isNest w = true := (List.mem_filter.mp h).2
theorem KK.warm {D : va_G} {cI cB : ClassId} {s U : State} (h : KK D cI cB s) (hW : s.WarmedH U.vm) : KK D cI cB U :=
  ⟨va_K.moved hW.alike h.1, fun w hw => nst_warm (nst_is hw) hW (h.2 w hw)⟩
theorem KK.call {D : va_G} {cI cB : ClassId} {U : State} {g : JFrame} {mk : MethodId} {a : Array Value} (h : KK D cI cB U) : KK D cI cB (U.calling g mk a) :=
  ⟨va_K.moved (u := U) (U := U.calling g mk a) (Vm.Alike.refl U.vm) h.1, fun w hw => va_Nw.same (u := U) (U := U.calling g mk a) (nst_tab (nst_is hw)) rfl (h.2 w hw)⟩
theorem tb_of {w : Cond} (h : w ∈ lw_tbl) (hg : goodWord w = true) : w ∈ tb := List.mem_filter.mpr ⟨h, hg⟩
theorem tb_i {w : Cond} (i : Nat) (h : lw_tbl[i]? = some w) (hg : goodWord w = true) : w ∈ tb := tb_of (List.mem_of_getElem? h) hg
theorem nst_i {w : Cond} (i : Nat) (h : lw_tbl[i]? = some w) (hg : isNest w = true) : w ∈ nst := List.mem_filter.mpr ⟨List.mem_of_getElem? h, hg⟩
theorem tb_self : GoodIn tb tb := fun w h => ⟨h, good_of_word (List.mem_filter.mp h).2⟩
theorem tb_cons {w : Cond} (h : w ∈ tb) : GoodIn tb (w :: tb) := fun x hx => (List.mem_cons.mp hx).elim (fun e => e ▸ tb_self w h) (tb_self x)
theorem uwsX {C : String} {T : u_T} {N : Nat} (h : ∀ w ∈ u_ws C T N, w ∈ lw_tbl) (hg : (u_ws C T N).all goodWord = true) : ∀ w ∈ u_ws C T N, w ∈ tb := fun w hw => tb_of (h w hw) (List.all_eq_true.mp hg w hw)
abbrev Fx (p : Program) (m : MethodId) (c : Code) (cc : ByteArray) (nL : Nat) (s : State) (args : Array Value) (own : String) (D : va_G) (cI cB : ClassId) : Prop :=
  CallFix p m c cc nL s args tb own ∧ KK D cI cB s
abbrev Bx (D : va_G) (A : Nat → Prop) (H0 : Heap) (ws : va_W) (H : Heap) (locs : List Loc) : Prop := va_P D vwCl ws H ∧ va_D A ws ∧ va_S A H0 H locs
/-- the words of a call of an instance method -/
def VW (own : String) (idx : Nat) (C : String) (y : MethodName) (bytes : ByteArray) (maxL : Nat) (ret : Option FieldType) (n : Nat) : Prop :=
  GoodIn tb (wsV own idx C y (.code y bytes maxL ret :: tb)) ∧ (y.cls = C ∧ y.cls ≠ "java/lang/invoke/MethodHandle" ∧ y.cls ≠ "java/lang/invoke/VarHandle" ∧ (parseMethodDescriptor y.desc).map (fun d => d.parameters.length) = some n)
theorem VW.mk {own : String} {idx : Nat} {C : String} {y : MethodName} {bytes : ByteArray} {maxL : Nat} {ret : Option FieldType} {n : Nat} (h1 : Cond.methodLink own idx y ∈ tb) (h2 : Cond.instanceMethod y ∈ tb) (h3 : Cond.selects C y y ∈ tb) (h4 : Cond.initialized C ∈ tb) (h5 : Cond.code y bytes maxL ret ∈ tb)
    (hd : y.cls = C ∧ y.cls ≠ "java/lang/invoke/MethodHandle" ∧ y.cls ≠ "java/lang/invoke/VarHandle" ∧ (parseMethodDescriptor y.desc).map (fun d => d.parameters.length) = some n) : VW own idx C y bytes maxL ret n :=
  ⟨fun w hw => (List.mem_append.mp hw).elim (fun h => by
    simp only [List.mem_cons, List.not_mem_nil, or_false] at h
    rcases h with rfl | rfl | rfl | rfl
    · exact tb_self _ h1
    · exact tb_self _ h2
    · exact tb_self _ h3
    · exact tb_self _ h4) (tb_cons h5 w), hd⟩
/-- the words of a call of a static method of the own class -/
def SW (own : String) (idx : Nat) (y : MethodName) (bytes : ByteArray) (maxL : Nat) (ret : Option FieldType) (n : Nat) : Prop :=
  GoodIn tb (wsS own idx y (.code y bytes maxL ret :: tb)) ∧ (y.cls = own ∧ y.cls ≠ "java/lang/invoke/MethodHandle" ∧ y.cls ≠ "java/lang/invoke/VarHandle" ∧ (parseMethodDescriptor y.desc).map (fun d => d.parameters.length) = some n)
theorem SW.mk {own : String} {idx : Nat} {y : MethodName} {bytes : ByteArray} {maxL : Nat} {ret : Option FieldType} {n : Nat} (h1 : Cond.methodLink own idx y ∈ tb) (h2 : Cond.static y ∈ tb) (h4 : Cond.initialized own ∈ tb) (h5 : Cond.code y bytes maxL ret ∈ tb)
    (hd : y.cls = own ∧ y.cls ≠ "java/lang/invoke/MethodHandle" ∧ y.cls ≠ "java/lang/invoke/VarHandle" ∧ (parseMethodDescriptor y.desc).map (fun d => d.parameters.length) = some n) : SW own idx y bytes maxL ret n :=
  ⟨fun w hw => (List.mem_append.mp hw).elim (fun h => by
    simp only [List.mem_cons, List.not_mem_nil, or_false] at h
    rcases h with rfl | rfl | rfl
    · exact tb_self _ h1
    · exact tb_self _ h2
    · exact tb_self _ h4) (tb_cons h5 w), hd⟩
/-- contracts: a question (nothing is written), a deed with an int answer, a deed without -/
def CtQ (l : Launch) (y : MethodName) (cd : ByteArray) (nL : Nat) (ret : Option FieldType) (rm : Room) (D : va_G) (cI cB : ClassId) (av : List Value) (wc : va_W) (r : Int32) : Prop :=
  Met l y (.code y cd nL ret :: tb) rm (va_Pc av (fun U => va_P D vwCl wc U.heap ∧ KK D cI cB U)) (vp_Si (fun x => x = r)) 0 0 (fun _ => False)
def QU (D : va_G) (r : Int32) (wc' : va_W) (A : Nat → Prop) : Array Value → State → Outcome → State → Prop := va_Qi (fun x (_ : Unit) => x = r) (fun _ t => va_P D vwCl wc' t.heap ∧ va_D A wc') A
def QV (D : va_G) (wc' : va_W) (A : Nat → Prop) : Array Value → State → Outcome → State → Prop := va_Qv (fun (_ : Unit) => True) (fun _ t => va_P D vwCl wc' t.heap ∧ va_D A wc') A
def CtU (l : Launch) (y : MethodName) (cd : ByteArray) (nL : Nat) (ret : Option FieldType) (rm : Room) (D : va_G) (cI cB : ClassId) (av : List Value) (wc wc' : va_W) (r : Int32) : Prop :=
  ∀ sz, Met l y (.code y cd nL ret :: tb) rm (va_Pc av (fun U => U.heap.size = sz ∧ va_P D vwCl wc U.heap ∧ KK D cI cB U ∧ va_D (fun _ => True) wc)) (QU D r wc' (va_A wc sz)) 0 0 (va_A wc sz)
def CtV (l : Launch) (y : MethodName) (cd : ByteArray) (nL : Nat) (rm : Room) (D : va_G) (cI cB : ClassId) (av : List Value) (wc wc' : va_W) : Prop :=
  ∀ sz, Met l y (.code y cd nL none :: tb) rm (va_Pc av (fun U => U.heap.size = sz ∧ va_P D vwCl wc U.heap ∧ KK D cI cB U ∧ va_D (fun _ => True) wc)) (QV D wc' (va_A wc sz)) 0 0 (va_A wc sz)
abbrev Qq (below : List Frame) (args : Array Value) (s : State) (r : Int32) : State → Prop := MQ below (vp_Si (fun x => x = r)) args s 0 0 (fun _ => False)
abbrev Qu (below : List Frame) (args : Array Value) (s : State) (D : va_G) (r : Int32) (wc' : va_W) (A : Nat → Prop) : State → Prop := MQ below (QU D r wc' A) args s 0 0 A
abbrev Qw (below : List Frame) (args : Array Value) (s : State) (D : va_G) (wc' : va_W) (A : Nat → Prop) : State → Prop := MQ below (QV D wc' A) args s 0 0 A
theorem CtQ.of {l : Launch} {y : MethodName} {cd : ByteArray} {nL : Nat} {ret : Option FieldType} {rm : Room} {D : va_G} {cI cB : ClassId} {av : List Value} {wc : va_W} {r : Int32} (own : String) (hy : plainName y.cls = true) (ho : y.cls = own) (hn : (lg_sl av).length ≤ nL)
    (body : ∀ p e s m args below meth c H ls, s.heap = H → Fx p m c cd nL s args own D cI cB → meth.sig.returnType = ret → meth.locks = false → va_P D vwCl wc H → lv_has ls nL (lv_args 0 av) →
      W p l e rm s m args below meth c H [] 0 0 (Qq below args s r) (F0 m 0 ls [])) : CtQ l y cd nL ret rm D cI cB av wc r := by
  refine Met.ofW (cc := cd) (maxL := nL) (ret := ret) hy rfl ?_
  intro p e s m args below meth c s₁ B hml hv
  obtain ⟨rfl, hP, hK⟩ := hv
  have hts := atoms_spec (ws := .code y cd nL ret :: tb) B.pre
  have hown : s.vm.findClass own = some m.cls := by rw [← ho]; exact findClass_of_methodNamed B.named
  rw [lg_entry_eq]
  exact body p e s m av.toArray below meth c s.heap _ rfl ⟨⟨B.exec, B.bytes, hml, hown, fun w h => hts w (List.mem_cons_of_mem _ h)⟩, hK⟩ B.returns B.notSynchronized hP (lv_entry av hn)
theorem CtU.of {l : Launch} {y : MethodName} {cd : ByteArray} {nL : Nat} {ret : Option FieldType} {rm : Room} {D : va_G} {cI cB : ClassId} {av : List Value} {wc wc' : va_W} {r : Int32} (own : String) (hy : plainName y.cls = true) (ho : y.cls = own) (hn : (lg_sl av).length ≤ nL)
    (body : ∀ p e s m args below meth c H ls (A : Nat → Prop), s.heap = H → (∀ q, H.size ≤ q → A q) → Fx p m c cd nL s args own D cI cB → meth.sig.returnType = ret → meth.locks = false → Bx D A H wc H [] → lv_has ls nL (lv_args 0 av) →
      W p l e rm s m args below meth c H [] 0 0 (Qu below args s D r wc' A) (F0 m 0 ls [])) : CtU l y cd nL ret rm D cI cB av wc wc' r := by
  intro sz
  refine Met.ofW (cc := cd) (maxL := nL) (ret := ret) hy rfl ?_
  intro p e s m args below meth c s₁ B hml hv
  obtain ⟨rfl, hsz, hP, hK, hD⟩ := hv
  subst hsz
  have hts := atoms_spec (ws := .code y cd nL ret :: tb) B.pre
  have hown : s.vm.findClass own = some m.cls := by rw [← ho]; exact findClass_of_methodNamed B.named
  rw [lg_entry_eq]
  exact body p e s m av.toArray below meth c s.heap _ _ rfl (fun q h => Or.inr h) ⟨⟨B.exec, B.bytes, hml, hown, fun w h => hts w (List.mem_cons_of_mem _ h)⟩, hK⟩ B.returns B.notSynchronized ⟨hP, hD.self, va_S.rf⟩ (lv_entry av hn)
theorem CtV.of {l : Launch} {y : MethodName} {cd : ByteArray} {nL : Nat} {rm : Room} {D : va_G} {cI cB : ClassId} {av : List Value} {wc wc' : va_W} (own : String) (hy : plainName y.cls = true) (ho : y.cls = own) (hn : (lg_sl av).length ≤ nL)
    (body : ∀ p e s m args below meth c H ls (A : Nat → Prop), s.heap = H → (∀ q, H.size ≤ q → A q) → Fx p m c cd nL s args own D cI cB → meth.sig.returnType = none → meth.locks = false → Bx D A H wc H [] → lv_has ls nL (lv_args 0 av) →
      W p l e rm s m args below meth c H [] 0 0 (Qw below args s D wc' A) (F0 m 0 ls [])) : CtV l y cd nL rm D cI cB av wc wc' := by
  intro sz
  refine Met.ofW (cc := cd) (maxL := nL) (ret := none) hy rfl ?_
  intro p e s m args below meth c s₁ B hml hv
  obtain ⟨rfl, hsz, hP, hK, hD⟩ := hv
  subst hsz
  have hts := atoms_spec (ws := .code y cd nL none :: tb) B.pre
  have hown : s.vm.findClass own = some m.cls := by rw [← ho]; exact findClass_of_methodNamed B.named
  rw [lg_entry_eq]
  exact body p e s m av.toArray below meth c s.heap _ _ rfl (fun q h => Or.inr h) ⟨⟨B.exec, B.bytes, hml, hown, fun w h => hts w (List.mem_cons_of_mem _ h)⟩, hK⟩ B.returns B.notSynchronized ⟨hP, hD.self, va_S.rf⟩ (lv_entry av hn)
section Rows
variable {p : Program} {l : Launch} {e : Env} {R : Room} {s : State} {m : MethodId} {args : Array Value} {below : List Frame} {meth : Method} {c : Code} {H : Heap} {locs : List Loc} {cells slots : Nat} {Q : State → Prop}
variable {cc : ByteArray} {nL : Nat} {own : String} {pc : Nat} {ls : Array Slot} {rest : List Value} {D : va_G} {cI cB : ClassId} {A : Nat → Prop} {ws : va_W} {H0 : Heap}
theorem r_retQ {v r : Int32} (F : Fx p m c cc nL s args own D cI cB) (hr : meth.sig.returnType = some .int) (hlk : meth.locks = false) (hH : s.heap = H) (d : decode cc pc = .ok (.ireturn, 1)) (hv : v = r) : W p l e R s m args below meth c H [] 0 0 (Qq below args s r) (F0 m pc ls [.int v]) :=
  W.iret F.1.1 F.1.2.1 hr (fun t ht _ => ⟨v, rfl, hv, ht.trans hH.symm⟩) (fun _ h => by cases h) d hlk
theorem nar_b (b : Bool) : narrow .boolean (.int (iI (b.toNat : Int))) = .int (iI (b.toNat : Int)) := by cases b <;> decide
theorem r_retQb {b : Bool} {r : Int32} (F : Fx p m c cc nL s args own D cI cB) (hr : meth.sig.returnType = some .boolean) (hlk : meth.locks = false) (hH : s.heap = H) (d : decode cc pc = .ok (.ireturn, 1)) (hv : iI (b.toNat : Int) = r) : W p l e R s m args below meth c H [] 0 0 (Qq below args s r) (F0 m pc ls [.int (iI (b.toNat : Int))]) :=
  W.zret F.1.1 F.1.2.1 hr (nar_b b) (fun t ht _ => ⟨_, rfl, hv, ht.trans hH.symm⟩) (fun _ h => by cases h) d hlk
theorem r_retU {v r : Int32} {wc' : va_W} (F : Fx p m c cc nL s args own D cI cB) (hr : meth.sig.returnType = some .int) (hlk : meth.locks = false) (hH : s.heap = H0) (B : Bx D A H0 ws H locs) (d : decode cc pc = .ok (.ireturn, 1)) (hv : v = r) (hw : ws = wc') : W p l e R s m args below meth c H locs 0 0 (Qu below args s D r wc' A) (F0 m pc ls [.int v]) := by
  subst hw
  subst hH
  exact W.iret F.1.1 F.1.2.1 hr (fun t ht _ => ⟨⟨v, (), rfl, hv, by rw [ht]; exact B.1, B.2.1⟩, B.2.2.F ht⟩) B.2.2.2.2 d hlk
theorem r_retUb {b : Bool} {r : Int32} {wc' : va_W} (F : Fx p m c cc nL s args own D cI cB) (hr : meth.sig.returnType = some .boolean) (hlk : meth.locks = false) (hH : s.heap = H0) (B : Bx D A H0 ws H locs) (d : decode cc pc = .ok (.ireturn, 1)) (hv : iI (b.toNat : Int) = r) (hw : ws = wc') : W p l e R s m args below meth c H locs 0 0 (Qu below args s D r wc' A) (F0 m pc ls [.int (iI (b.toNat : Int))]) := by
  subst hw
  subst hH
  exact W.zret F.1.1 F.1.2.1 hr (nar_b b) (fun t ht _ => ⟨⟨_, (), rfl, hv, by rw [ht]; exact B.1, B.2.1⟩, B.2.2.F ht⟩) B.2.2.2.2 d hlk
theorem r_retV {wc' : va_W} (F : Fx p m c cc nL s args own D cI cB) (hr : meth.sig.returnType = none) (hlk : meth.locks = false) (hH : s.heap = H0) (B : Bx D A H0 ws H locs) (d : decode cc pc = .ok (.return_, 1)) (hw : ws = wc') : W p l e R s m args below meth c H locs 0 0 (Qw below args s D wc' A) (F0 m pc ls []) := by
  subst hw
  subst hH
  exact W.vret F.1.1 F.1.2.1 hr (fun t ht _ => ⟨⟨(), rfl, trivial, by rw [ht]; exact B.1, B.2.1⟩, B.2.2.F ht⟩) B.2.2.2.2 d hlk

theorem r_ic {n : Int} (F : Fx p m c cc nL s args own D cI cB) (k : Nat) (d : decode cc pc = .ok (.iconst n, 1)) (hv : Int32.ofInt n = iI (k : Int)) (kk : W p l e R s m args below meth c H locs cells slots Q (F0 m (pc + 1) ls (.int (iI (k : Int)) :: rest))) : W p l e R s m args below meth c H locs cells slots Q (F0 m pc ls rest) := lv_iconst F.1.1 F.1.2.1 d hv kk
theorem r_icz {n : Int} (F : Fx p m c cc nL s args own D cI cB) (k : Int) (d : decode cc pc = .ok (.iconst n, 1)) (hv : Int32.ofInt n = iI k) (kk : W p l e R s m args below meth c H locs cells slots Q (F0 m (pc + 1) ls (.int (iI k) :: rest))) : W p l e R s m args below meth c H locs cells slots Q (F0 m pc ls rest) := lv_iconst F.1.1 F.1.2.1 d hv kk
theorem r_icb {n : Int} (F : Fx p m c cc nL s args own D cI cB) (k : Bool) (d : decode cc pc = .ok (.iconst n, 1)) (hv : Int32.ofInt n = iI (k.toNat : Int)) (kk : W p l e R s m args below meth c H locs cells slots Q (F0 m (pc + 1) ls (.int (iI (k.toNat : Int)) :: rest))) : W p l e R s m args below meth c H locs cells slots Q (F0 m pc ls rest) := lv_iconst F.1.1 F.1.2.1 d hv kk
theorem r_bp {n : Int} (F : Fx p m c cc nL s args own D cI cB) (k : Nat) (d : decode cc pc = .ok (.bipush n, 2)) (hv : (Int8.ofInt n).toInt32 = iI (k : Int)) (kk : W p l e R s m args below meth c H locs cells slots Q (F0 m (pc + 2) ls (.int (iI (k : Int)) :: rest))) : W p l e R s m args below meth c H locs cells slots Q (F0 m pc ls rest) := lv_bipush F.1.1 F.1.2.1 d hv kk
theorem r_bpz {n : Int} (F : Fx p m c cc nL s args own D cI cB) (k : Int) (d : decode cc pc = .ok (.bipush n, 2)) (hv : (Int8.ofInt n).toInt32 = iI k) (kk : W p l e R s m args below meth c H locs cells slots Q (F0 m (pc + 2) ls (.int (iI k) :: rest))) : W p l e R s m args below meth c H locs cells slots Q (F0 m pc ls rest) := lv_bipush F.1.1 F.1.2.1 d hv kk
theorem r_bpb {n : Int} (F : Fx p m c cc nL s args own D cI cB) (k : Bool) (d : decode cc pc = .ok (.bipush n, 2)) (hv : (Int8.ofInt n).toInt32 = iI (k.toNat : Int)) (kk : W p l e R s m args below meth c H locs cells slots Q (F0 m (pc + 2) ls (.int (iI (k.toNat : Int)) :: rest))) : W p l e R s m args below meth c H locs cells slots Q (F0 m pc ls rest) := lv_bipush F.1.1 F.1.2.1 d hv kk
theorem r_sp {n : Int} (F : Fx p m c cc nL s args own D cI cB) (k : Nat) (d : decode cc pc = .ok (.sipush n, 3)) (hv : (Int16.ofInt n).toInt32 = iI (k : Int)) (kk : W p l e R s m args below meth c H locs cells slots Q (F0 m (pc + 3) ls (.int (iI (k : Int)) :: rest))) : W p l e R s m args below meth c H locs cells slots Q (F0 m pc ls rest) := lv_sipush F.1.1 F.1.2.1 d hv kk
theorem r_spz {n : Int} (F : Fx p m c cc nL s args own D cI cB) (k : Int) (d : decode cc pc = .ok (.sipush n, 3)) (hv : (Int16.ofInt n).toInt32 = iI k) (kk : W p l e R s m args below meth c H locs cells slots Q (F0 m (pc + 3) ls (.int (iI k) :: rest))) : W p l e R s m args below meth c H locs cells slots Q (F0 m pc ls rest) := lv_sipush F.1.1 F.1.2.1 d hv kk
theorem r_spb {n : Int} (F : Fx p m c cc nL s args own D cI cB) (k : Bool) (d : decode cc pc = .ok (.sipush n, 3)) (hv : (Int16.ofInt n).toInt32 = iI (k.toNat : Int)) (kk : W p l e R s m args below meth c H locs cells slots Q (F0 m (pc + 3) ls (.int (iI (k.toNat : Int)) :: rest))) : W p l e R s m args below meth c H locs cells slots Q (F0 m pc ls rest) := lv_sipush F.1.1 F.1.2.1 d hv kk
theorem r_iln {k : Fin 4} {i : Nat} {x : Int32} {lv : List (Nat × Value)} (F : Fx p m c cc nL s args own D cI cB) (hl : lv_has ls nL lv) (pos : Nat) (hp : lv[pos]? = some (i, .int x)) (d : decode cc pc = .ok (.iload_n k, 1)) (hi : (k : Nat) = i) (kk : W p l e R s m args below meth c H locs cells slots Q (F0 m (pc + 1) ls (.int x :: rest))) : W p l e R s m args below meth c H locs cells slots Q (F0 m pc ls rest) := lv_iload_n F.1.1 F.1.2.1 d hi (lv_at hl pos hp) kk
theorem r_il {i : Nat} {x : Int32} {lv : List (Nat × Value)} (F : Fx p m c cc nL s args own D cI cB) (hl : lv_has ls nL lv) (pos : Nat) (hp : lv[pos]? = some (i, .int x)) (d : decode cc pc = .ok (.iload i, 2)) (kk : W p l e R s m args below meth c H locs cells slots Q (F0 m (pc + 2) ls (.int x :: rest))) : W p l e R s m args below meth c H locs cells slots Q (F0 m pc ls rest) := lv_iload F.1.1 F.1.2.1 d (lv_at hl pos hp) kk
theorem r_aln {k : Fin 4} {i : Nat} {x : Nat} {lv : List (Nat × Value)} (F : Fx p m c cc nL s args own D cI cB) (hl : lv_has ls nL lv) (pos : Nat) (hp : lv[pos]? = some (i, .ref x)) (d : decode cc pc = .ok (.aload_n k, 1)) (hi : (k : Nat) = i) (kk : W p l e R s m args below meth c H locs cells slots Q (F0 m (pc + 1) ls (.ref x :: rest))) : W p l e R s m args below meth c H locs cells slots Q (F0 m pc ls rest) := lv_aload_n F.1.1 F.1.2.1 d hi (lv_at hl pos hp) kk
theorem r_al {i : Nat} {x : Nat} {lv : List (Nat × Value)} (F : Fx p m c cc nL s args own D cI cB) (hl : lv_has ls nL lv) (pos : Nat) (hp : lv[pos]? = some (i, .ref x)) (d : decode cc pc = .ok (.aload i, 2)) (kk : W p l e R s m args below meth c H locs cells slots Q (F0 m (pc + 2) ls (.ref x :: rest))) : W p l e R s m args below meth c H locs cells slots Q (F0 m pc ls rest) := lv_aload F.1.1 F.1.2.1 d (lv_at hl pos hp) kk
theorem r_lln {k : Fin 4} {i : Nat} {x : Int64} {lv : List (Nat × Value)} (F : Fx p m c cc nL s args own D cI cB) (hl : lv_has ls nL lv) (pos : Nat) (hp : lv[pos]? = some (i, .long x)) (d : decode cc pc = .ok (.lload_n k, 1)) (hi : (k : Nat) = i) (kk : W p l e R s m args below meth c H locs cells slots Q (F0 m (pc + 1) ls (.long x :: rest))) : W p l e R s m args below meth c H locs cells slots Q (F0 m pc ls rest) := lv_lload_n F.1.1 F.1.2.1 d hi (lv_at hl pos hp) kk
theorem r_ll {i : Nat} {x : Int64} {lv : List (Nat × Value)} (F : Fx p m c cc nL s args own D cI cB) (hl : lv_has ls nL lv) (pos : Nat) (hp : lv[pos]? = some (i, .long x)) (d : decode cc pc = .ok (.lload i, 2)) (kk : W p l e R s m args below meth c H locs cells slots Q (F0 m (pc + 2) ls (.long x :: rest))) : W p l e R s m args below meth c H locs cells slots Q (F0 m pc ls rest) := lv_lload F.1.1 F.1.2.1 d (lv_at hl pos hp) kk
theorem r_isn {k : Fin 4} {i : Nat} {x : Int32} {lv lv' : List (Nat × Value)} (F : Fx p m c cc nL s args own D cI cB) (hl : lv_has ls nL lv) (d : decode cc pc = .ok (.istore_n k, 1)) (hi : (k : Nat) = i) (hn : i < nL) (ps : List Nat)
    (hp : lv_pick ((i, Value.int x) :: lv.filter (fun q => !(q.1 == i) && !(q.1 + 1 == i && q.2.category == 2))) ps = lv') (kk : ∀ ls' : Array Slot, lv_has ls' nL lv' → W p l e R s m args below meth c H locs cells slots Q (F0 m (pc + 1) ls' rest)) : W p l e R s m args below meth c H locs cells slots Q (F0 m pc ls (.int x :: rest)) :=
  lv_istore_n F.1.1 F.1.2.1 d hi hl hn rfl (fun ls' h => kk ls' (lv_sub h ps hp))
theorem r_is {i : Nat} {x : Int32} {lv lv' : List (Nat × Value)} (F : Fx p m c cc nL s args own D cI cB) (hl : lv_has ls nL lv) (d : decode cc pc = .ok (.istore i, 2)) (hn : i < nL) (ps : List Nat)
    (hp : lv_pick ((i, Value.int x) :: lv.filter (fun q => !(q.1 == i) && !(q.1 + 1 == i && q.2.category == 2))) ps = lv') (kk : ∀ ls' : Array Slot, lv_has ls' nL lv' → W p l e R s m args below meth c H locs cells slots Q (F0 m (pc + 2) ls' rest)) : W p l e R s m args below meth c H locs cells slots Q (F0 m pc ls (.int x :: rest)) :=
  lv_istore F.1.1 F.1.2.1 d hl hn rfl (fun ls' h => kk ls' (lv_sub h ps hp))
theorem r_asn {k : Fin 4} {i : Nat} {x : Nat} {lv lv' : List (Nat × Value)} (F : Fx p m c cc nL s args own D cI cB) (hl : lv_has ls nL lv) (d : decode cc pc = .ok (.astore_n k, 1)) (hi : (k : Nat) = i) (hn : i < nL) (ps : List Nat)
    (hp : lv_pick ((i, Value.ref x) :: lv.filter (fun q => !(q.1 == i) && !(q.1 + 1 == i && q.2.category == 2))) ps = lv') (kk : ∀ ls' : Array Slot, lv_has ls' nL lv' → W p l e R s m args below meth c H locs cells slots Q (F0 m (pc + 1) ls' rest)) : W p l e R s m args below meth c H locs cells slots Q (F0 m pc ls (.ref x :: rest)) :=
  lv_astore_n F.1.1 F.1.2.1 d hi hl hn rfl (fun ls' h => kk ls' (lv_sub h ps hp))
theorem r_as {i : Nat} {x : Nat} {lv lv' : List (Nat × Value)} (F : Fx p m c cc nL s args own D cI cB) (hl : lv_has ls nL lv) (d : decode cc pc = .ok (.astore i, 2)) (hn : i < nL) (ps : List Nat)
    (hp : lv_pick ((i, Value.ref x) :: lv.filter (fun q => !(q.1 == i) && !(q.1 + 1 == i && q.2.category == 2))) ps = lv') (kk : ∀ ls' : Array Slot, lv_has ls' nL lv' → W p l e R s m args below meth c H locs cells slots Q (F0 m (pc + 2) ls' rest)) : W p l e R s m args below meth c H locs cells slots Q (F0 m pc ls (.ref x :: rest)) :=
  lv_astore F.1.1 F.1.2.1 d hl hn rfl (fun ls' h => kk ls' (lv_sub h ps hp))
theorem r_inc {i : Nat} {a : Nat} {n : Int} {lv lv' : List (Nat × Value)} (F : Fx p m c cc nL s args own D cI cB) (hl : lv_has ls nL lv) (pos : Nat) (hk : lv[pos]? = some (i, .int (iI (a : Int)))) (d : decode cc pc = .ok (.iinc i n, 3)) (k : Nat) (hnk : n = (k : Int)) (hn : i < nL) (ps : List Nat)
    (hp : lv_pick ((i, Value.int (iI ((a + k : Nat) : Int))) :: lv.filter (fun q => !(q.1 == i) && !(q.1 + 1 == i && q.2.category == 2))) ps = lv') (kk : ∀ ls' : Array Slot, lv_has ls' nL lv' → W p l e R s m args below meth c H locs cells slots Q (F0 m (pc + 3) ls' rest)) : W p l e R s m args below meth c H locs cells slots Q (F0 m pc ls rest) :=
  lv_iinc (v := iI ((a + k : Nat) : Int)) F.1.1 F.1.2.1 d hl hk (by rw [hnk]; exact iI_add a k) hn rfl (fun ls' h => kk ls' (lv_sub h ps hp))
theorem r_incz {i : Nat} {a b : Int} {n : Int} {lv lv' : List (Nat × Value)} (F : Fx p m c cc nL s args own D cI cB) (hl : lv_has ls nL lv) (pos : Nat) (hk : lv[pos]? = some (i, .int (iI a))) (d : decode cc pc = .ok (.iinc i n, 3)) (hb : a + n = b) (hn : i < nL) (ps : List Nat)
    (hp : lv_pick ((i, Value.int (iI b)) :: lv.filter (fun q => !(q.1 == i) && !(q.1 + 1 == i && q.2.category == 2))) ps = lv') (kk : ∀ ls' : Array Slot, lv_has ls' nL lv' → W p l e R s m args below meth c H locs cells slots Q (F0 m (pc + 3) ls' rest)) : W p l e R s m args below meth c H locs cells slots Q (F0 m pc ls rest) :=
  lv_iinc (v := iI b) F.1.1 F.1.2.1 d hl hk (by rw [← hb]; exact iI_add a n) hn rfl (fun ls' h => kk ls' (lv_sub h ps hp))
theorem r_add {a b : Nat} (F : Fx p m c cc nL s args own D cI cB) (d : decode cc pc = .ok (.iadd, 1)) (kk : W p l e R s m args below meth c H locs cells slots Q (F0 m (pc + 1) ls (.int (iI ((a + b : Nat) : Int)) :: rest))) : W p l e R s m args below meth c H locs cells slots Q (F0 m pc ls (.int (iI (b : Int)) :: .int (iI (a : Int)) :: rest)) := lv_iadd F.1.1 F.1.2.1 d (by rw [show iI (a : Int) + iI (b : Int) = iI ((a + b : Nat) : Int) from iI_add a b]; exact kk)
theorem r_sub {a b : Nat} (F : Fx p m c cc nL s args own D cI cB) (d : decode cc pc = .ok (.isub, 1)) (h : b ≤ a) (kk : W p l e R s m args below meth c H locs cells slots Q (F0 m (pc + 1) ls (.int (iI ((a - b : Nat) : Int)) :: rest))) : W p l e R s m args below meth c H locs cells slots Q (F0 m pc ls (.int (iI (b : Int)) :: .int (iI (a : Int)) :: rest)) := lv_isub F.1.1 F.1.2.1 d (by rw [show iI (a : Int) - iI (b : Int) = iI ((a - b : Nat) : Int) from by rw [iI_sub, Int.natCast_sub h]]; exact kk)
theorem r_mul {a b : Nat} (F : Fx p m c cc nL s args own D cI cB) (d : decode cc pc = .ok (.imul, 1)) (kk : W p l e R s m args below meth c H locs cells slots Q (F0 m (pc + 1) ls (.int (iI ((a * b : Nat) : Int)) :: rest))) : W p l e R s m args below meth c H locs cells slots Q (F0 m pc ls (.int (iI (b : Int)) :: .int (iI (a : Int)) :: rest)) := lv_imul F.1.1 F.1.2.1 d (by rw [show iI (a : Int) * iI (b : Int) = iI ((a * b : Nat) : Int) from by rw [iI_mul, Int.natCast_mul]]; exact kk)
theorem r_and {a b : Nat} (F : Fx p m c cc nL s args own D cI cB) (d : decode cc pc = .ok (.iand, 1)) (kk : W p l e R s m args below meth c H locs cells slots Q (F0 m (pc + 1) ls (.int (iI ((a &&& b : Nat) : Int)) :: rest))) : W p l e R s m args below meth c H locs cells slots Q (F0 m pc ls (.int (iI (b : Int)) :: .int (iI (a : Int)) :: rest)) := lv_iand F.1.1 F.1.2.1 d (by rw [iI_and a b]; exact kk)
theorem r_or {a b : Nat} (F : Fx p m c cc nL s args own D cI cB) (d : decode cc pc = .ok (.ior, 1)) (kk : W p l e R s m args below meth c H locs cells slots Q (F0 m (pc + 1) ls (.int (iI ((a ||| b : Nat) : Int)) :: rest))) : W p l e R s m args below meth c H locs cells slots Q (F0 m pc ls (.int (iI (b : Int)) :: .int (iI (a : Int)) :: rest)) := lv_ior F.1.1 F.1.2.1 d (by rw [iI_or a b]; exact kk)
theorem r_xor {a b : Nat} (F : Fx p m c cc nL s args own D cI cB) (d : decode cc pc = .ok (.ixor, 1)) (kk : W p l e R s m args below meth c H locs cells slots Q (F0 m (pc + 1) ls (.int (iI ((a ^^^ b : Nat) : Int)) :: rest))) : W p l e R s m args below meth c H locs cells slots Q (F0 m pc ls (.int (iI (b : Int)) :: .int (iI (a : Int)) :: rest)) := lv_ixor F.1.1 F.1.2.1 d (by rw [iI_xor a b]; exact kk)
theorem r_shl {a b : Nat} (F : Fx p m c cc nL s args own D cI cB) (d : decode cc pc = .ok (.ishl, 1)) (h : b < 32 ∧ a * 2 ^ b < 2147483648) (kk : W p l e R s m args below meth c H locs cells slots Q (F0 m (pc + 1) ls (.int (iI ((a * 2 ^ b : Nat) : Int)) :: rest))) : W p l e R s m args below meth c H locs cells slots Q (F0 m pc ls (.int (iI (b : Int)) :: .int (iI (a : Int)) :: rest)) := lv_ishl F.1.1 F.1.2.1 d (by rw [iI_shl h.1 h.2]; exact kk)
theorem r_shr {a b : Nat} (F : Fx p m c cc nL s args own D cI cB) (d : decode cc pc = .ok (.ishr, 1)) (h : b < 32 ∧ a < 2147483648) (kk : W p l e R s m args below meth c H locs cells slots Q (F0 m (pc + 1) ls (.int (iI ((a / 2 ^ b : Nat) : Int)) :: rest))) : W p l e R s m args below meth c H locs cells slots Q (F0 m pc ls (.int (iI (b : Int)) :: .int (iI (a : Int)) :: rest)) := lv_ishr F.1.1 F.1.2.1 d (by rw [iI_shr h.1 h.2]; exact kk)
theorem r_div {a b : Nat} (F : Fx p m c cc nL s args own D cI cB) (d : decode cc pc = .ok (.idiv, 1)) (h : a < 2147483648 ∧ 0 < b ∧ b < 2147483648) (kk : W p l e R s m args below meth c H locs cells slots Q (F0 m (pc + 1) ls (.int (iI ((a / b : Nat) : Int)) :: rest))) : W p l e R s m args below meth c H locs cells slots Q (F0 m pc ls (.int (iI (b : Int)) :: .int (iI (a : Int)) :: rest)) := lv_idiv F.1.1 F.1.2.1 d (iI_ne0 h.2.1 h.2.2) (by rw [iI_div h.1 h.2.1 h.2.2]; exact kk)
theorem r_rem {a b : Nat} (F : Fx p m c cc nL s args own D cI cB) (d : decode cc pc = .ok (.irem, 1)) (h : a < 2147483648 ∧ 0 < b ∧ b < 2147483648) (kk : W p l e R s m args below meth c H locs cells slots Q (F0 m (pc + 1) ls (.int (iI ((a % b : Nat) : Int)) :: rest))) : W p l e R s m args below meth c H locs cells slots Q (F0 m pc ls (.int (iI (b : Int)) :: .int (iI (a : Int)) :: rest)) := lv_irem F.1.1 F.1.2.1 d (iI_ne0 h.2.1 h.2.2) (by rw [iI_rem h.1 h.2.1 h.2.2]; exact kk)
theorem r_addz {a b : Int} (F : Fx p m c cc nL s args own D cI cB) (d : decode cc pc = .ok (.iadd, 1)) (kk : W p l e R s m args below meth c H locs cells slots Q (F0 m (pc + 1) ls (.int (iI (a + b)) :: rest))) : W p l e R s m args below meth c H locs cells slots Q (F0 m pc ls (.int (iI b) :: .int (iI a) :: rest)) := lv_iadd F.1.1 F.1.2.1 d (by rw [iI_add]; exact kk)
theorem r_subz {a b : Int} (F : Fx p m c cc nL s args own D cI cB) (d : decode cc pc = .ok (.isub, 1)) (kk : W p l e R s m args below meth c H locs cells slots Q (F0 m (pc + 1) ls (.int (iI (a - b)) :: rest))) : W p l e R s m args below meth c H locs cells slots Q (F0 m pc ls (.int (iI b) :: .int (iI a) :: rest)) := lv_isub F.1.1 F.1.2.1 d (by rw [iI_sub]; exact kk)
theorem r_mulz {a b : Int} (F : Fx p m c cc nL s args own D cI cB) (d : decode cc pc = .ok (.imul, 1)) (kk : W p l e R s m args below meth c H locs cells slots Q (F0 m (pc + 1) ls (.int (iI (a * b)) :: rest))) : W p l e R s m args below meth c H locs cells slots Q (F0 m pc ls (.int (iI b) :: .int (iI a) :: rest)) := lv_imul F.1.1 F.1.2.1 d (by rw [iI_mul]; exact kk)
theorem r_negz {a : Int} (F : Fx p m c cc nL s args own D cI cB) (d : decode cc pc = .ok (.ineg, 1)) (kk : W p l e R s m args below meth c H locs cells slots Q (F0 m (pc + 1) ls (.int (iI (-a)) :: rest))) : W p l e R s m args below meth c H locs cells slots Q (F0 m pc ls (.int (iI a) :: rest)) := lv_ineg F.1.1 F.1.2.1 d (by rw [iI_neg]; exact kk)
theorem r_andr {a b : Int32} (F : Fx p m c cc nL s args own D cI cB) (d : decode cc pc = .ok (.iand, 1)) (v : Int32) (hv : a &&& b = v) (kk : W p l e R s m args below meth c H locs cells slots Q (F0 m (pc + 1) ls (.int v :: rest))) : W p l e R s m args below meth c H locs cells slots Q (F0 m pc ls (.int b :: .int a :: rest)) := lv_iand F.1.1 F.1.2.1 d (by rw [hv]; exact kk)
theorem r_orr {a b : Int32} (F : Fx p m c cc nL s args own D cI cB) (d : decode cc pc = .ok (.ior, 1)) (v : Int32) (hv : a ||| b = v) (kk : W p l e R s m args below meth c H locs cells slots Q (F0 m (pc + 1) ls (.int v :: rest))) : W p l e R s m args below meth c H locs cells slots Q (F0 m pc ls (.int b :: .int a :: rest)) := lv_ior F.1.1 F.1.2.1 d (by rw [hv]; exact kk)
theorem r_xorr {a b : Int32} (F : Fx p m c cc nL s args own D cI cB) (d : decode cc pc = .ok (.ixor, 1)) (v : Int32) (hv : a ^^^ b = v) (kk : W p l e R s m args below meth c H locs cells slots Q (F0 m (pc + 1) ls (.int v :: rest))) : W p l e R s m args below meth c H locs cells slots Q (F0 m pc ls (.int b :: .int a :: rest)) := lv_ixor F.1.1 F.1.2.1 d (by rw [hv]; exact kk)
theorem r_dup {va : Value} (F : Fx p m c cc nL s args own D cI cB) (d : decode cc pc = .ok (.dup, 1)) (hva : va.category = 1) (kk : W p l e R s m args below meth c H locs cells slots Q (F0 m (pc + 1) ls (va :: va :: rest))) : W p l e R s m args below meth c H locs cells slots Q (F0 m pc ls (va :: rest)) := lv_dup F.1.1 F.1.2.1 d hva kk
theorem r_dup2 {va vb : Value} (F : Fx p m c cc nL s args own D cI cB) (d : decode cc pc = .ok (.dup2, 1)) (hva : va.category = 1) (hvb : vb.category = 1) (kk : W p l e R s m args below meth c H locs cells slots Q (F0 m (pc + 1) ls (va :: vb :: va :: vb :: rest))) : W p l e R s m args below meth c H locs cells slots Q (F0 m pc ls (va :: vb :: rest)) := lv_dup2_11 F.1.1 F.1.2.1 d hva hvb kk
theorem r_pop {va : Value} (F : Fx p m c cc nL s args own D cI cB) (d : decode cc pc = .ok (.pop, 1)) (hva : va.category = 1) (kk : W p l e R s m args below meth c H locs cells slots Q (F0 m (pc + 1) ls rest)) : W p l e R s m args below meth c H locs cells slots Q (F0 m pc ls (va :: rest)) := lv_pop F.1.1 F.1.2.1 d hva kk
theorem r_goto {off : Int} (tgt : Nat) (F : Fx p m c cc nL s args own D cI cB) (d : decode cc pc = .ok (.goto off, 3)) (ht : (pc : Int) + off = (tgt : Int)) (kk : W p l e R s m args below meth c H locs cells slots Q (F0 m tgt ls rest)) : W p l e R s m args below meth c H locs cells slots Q (F0 m pc ls rest) := lv_goto F.1.1 F.1.2.1 d ht kk
theorem r_top {x : Int32} (y : Int32) (h : x = y) (kk : W p l e R s m args below meth c H locs cells slots Q (F0 m pc ls (.int y :: rest))) : W p l e R s m args below meth c H locs cells slots Q (F0 m pc ls (.int x :: rest)) := by rw [h]; exact kk
theorem r_ceq {a b : Nat} {off : Int} (tgt : Nat) (F : Fx p m c cc nL s args own D cI cB) (d : decode cc pc = .ok (.if_icmp .eq off, 3)) (ht : (pc : Int) + off = (tgt : Int)) (h : a < 2147483648 ∧ b < 2147483648) (kt : a = b → W p l e R s m args below meth c H locs cells slots Q (F0 m tgt ls rest)) (kf : ¬ a = b → W p l e R s m args below meth c H locs cells slots Q (F0 m (pc + 3) ls rest)) : W p l e R s m args below meth c H locs cells slots Q (F0 m pc ls (.int (iI (b : Int)) :: .int (iI (a : Int)) :: rest)) := by
  have e : iI (a : Int) = iI (b : Int) ↔ a = b := by rw [iI_eq (by omega) (by omega)] <;> omega
  exact lv_icmp_eq F.1.1 F.1.2.1 d ht (fun q => kt (e.mp q)) (fun q => kf (fun z => q (e.mpr z)))
theorem r_ceqz {a b : Int} {off : Int} (tgt : Nat) (F : Fx p m c cc nL s args own D cI cB) (d : decode cc pc = .ok (.if_icmp .eq off, 3)) (ht : (pc : Int) + off = (tgt : Int)) (h : (-2147483648 ≤ a ∧ a < 2147483648) ∧ -2147483648 ≤ b ∧ b < 2147483648) (kt : a = b → W p l e R s m args below meth c H locs cells slots Q (F0 m tgt ls rest)) (kf : ¬ a = b → W p l e R s m args below meth c H locs cells slots Q (F0 m (pc + 3) ls rest)) : W p l e R s m args below meth c H locs cells slots Q (F0 m pc ls (.int (iI b) :: .int (iI a) :: rest)) := by
  have e : iI a = iI b ↔ a = b := by rw [iI_eq (by omega) (by omega)] <;> omega
  exact lv_icmp_eq F.1.1 F.1.2.1 d ht (fun q => kt (e.mp q)) (fun q => kf (fun z => q (e.mpr z)))
theorem r_zeq {a : Nat} {off : Int} (tgt : Nat) (F : Fx p m c cc nL s args own D cI cB) (d : decode cc pc = .ok (.ifCond .eq off, 3)) (ht : (pc : Int) + off = (tgt : Int)) (h : a < 2147483648) (kt : a = 0 → W p l e R s m args below meth c H locs cells slots Q (F0 m tgt ls rest)) (kf : ¬ a = 0 → W p l e R s m args below meth c H locs cells slots Q (F0 m (pc + 3) ls rest)) : W p l e R s m args below meth c H locs cells slots Q (F0 m pc ls (.int (iI (a : Int)) :: rest)) := by
  have e : iI (a : Int) = 0 ↔ a = 0 := by rw [← iI_0]; rw [iI_eq (by omega) (by omega)] <;> omega
  exact lv_if_eq F.1.1 F.1.2.1 d ht (fun q => kt (e.mp q)) (fun q => kf (fun z => q (e.mpr z)))
theorem r_zeqz {a : Int} {off : Int} (tgt : Nat) (F : Fx p m c cc nL s args own D cI cB) (d : decode cc pc = .ok (.ifCond .eq off, 3)) (ht : (pc : Int) + off = (tgt : Int)) (h : -2147483648 ≤ a ∧ a < 2147483648) (kt : a = 0 → W p l e R s m args below meth c H locs cells slots Q (F0 m tgt ls rest)) (kf : ¬ a = 0 → W p l e R s m args below meth c H locs cells slots Q (F0 m (pc + 3) ls rest)) : W p l e R s m args below meth c H locs cells slots Q (F0 m pc ls (.int (iI a) :: rest)) := by
  have e : iI a = 0 ↔ a = 0 := by rw [← iI_0]; rw [iI_eq (by omega) (by omega)] <;> omega
  exact lv_if_eq F.1.1 F.1.2.1 d ht (fun q => kt (e.mp q)) (fun q => kf (fun z => q (e.mpr z)))
theorem r_cne {a b : Nat} {off : Int} (tgt : Nat) (F : Fx p m c cc nL s args own D cI cB) (d : decode cc pc = .ok (.if_icmp .ne off, 3)) (ht : (pc : Int) + off = (tgt : Int)) (h : a < 2147483648 ∧ b < 2147483648) (kt : ¬ a = b → W p l e R s m args below meth c H locs cells slots Q (F0 m tgt ls rest)) (kf : a = b → W p l e R s m args below meth c H locs cells slots Q (F0 m (pc + 3) ls rest)) : W p l e R s m args below meth c H locs cells slots Q (F0 m pc ls (.int (iI (b : Int)) :: .int (iI (a : Int)) :: rest)) := by
  have e : iI (a : Int) = iI (b : Int) ↔ a = b := by rw [iI_eq (by omega) (by omega)] <;> omega
  exact lv_icmp_ne F.1.1 F.1.2.1 d ht (fun q => kt (fun z => q (e.mpr z))) (fun q => kf (e.mp q))
theorem r_cnez {a b : Int} {off : Int} (tgt : Nat) (F : Fx p m c cc nL s args own D cI cB) (d : decode cc pc = .ok (.if_icmp .ne off, 3)) (ht : (pc : Int) + off = (tgt : Int)) (h : (-2147483648 ≤ a ∧ a < 2147483648) ∧ -2147483648 ≤ b ∧ b < 2147483648) (kt : ¬ a = b → W p l e R s m args below meth c H locs cells slots Q (F0 m tgt ls rest)) (kf : a = b → W p l e R s m args below meth c H locs cells slots Q (F0 m (pc + 3) ls rest)) : W p l e R s m args below meth c H locs cells slots Q (F0 m pc ls (.int (iI b) :: .int (iI a) :: rest)) := by
  have e : iI a = iI b ↔ a = b := by rw [iI_eq (by omega) (by omega)] <;> omega
  exact lv_icmp_ne F.1.1 F.1.2.1 d ht (fun q => kt (fun z => q (e.mpr z))) (fun q => kf (e.mp q))
theorem r_zne {a : Nat} {off : Int} (tgt : Nat) (F : Fx p m c cc nL s args own D cI cB) (d : decode cc pc = .ok (.ifCond .ne off, 3)) (ht : (pc : Int) + off = (tgt : Int)) (h : a < 2147483648) (kt : ¬ a = 0 → W p l e R s m args below meth c H locs cells slots Q (F0 m tgt ls rest)) (kf : a = 0 → W p l e R s m args below meth c H locs cells slots Q (F0 m (pc + 3) ls rest)) : W p l e R s m args below meth c H locs cells slots Q (F0 m pc ls (.int (iI (a : Int)) :: rest)) := by
  have e : iI (a : Int) = 0 ↔ a = 0 := by rw [← iI_0]; rw [iI_eq (by omega) (by omega)] <;> omega
  exact lv_if_ne F.1.1 F.1.2.1 d ht (fun q => kt (fun z => q (e.mpr z))) (fun q => kf (e.mp q))
theorem r_znez {a : Int} {off : Int} (tgt : Nat) (F : Fx p m c cc nL s args own D cI cB) (d : decode cc pc = .ok (.ifCond .ne off, 3)) (ht : (pc : Int) + off = (tgt : Int)) (h : -2147483648 ≤ a ∧ a < 2147483648) (kt : ¬ a = 0 → W p l e R s m args below meth c H locs cells slots Q (F0 m tgt ls rest)) (kf : a = 0 → W p l e R s m args below meth c H locs cells slots Q (F0 m (pc + 3) ls rest)) : W p l e R s m args below meth c H locs cells slots Q (F0 m pc ls (.int (iI a) :: rest)) := by
  have e : iI a = 0 ↔ a = 0 := by rw [← iI_0]; rw [iI_eq (by omega) (by omega)] <;> omega
  exact lv_if_ne F.1.1 F.1.2.1 d ht (fun q => kt (fun z => q (e.mpr z))) (fun q => kf (e.mp q))
theorem r_clt {a b : Nat} {off : Int} (tgt : Nat) (F : Fx p m c cc nL s args own D cI cB) (d : decode cc pc = .ok (.if_icmp .lt off, 3)) (ht : (pc : Int) + off = (tgt : Int)) (h : a < 2147483648 ∧ b < 2147483648) (kt : a < b → W p l e R s m args below meth c H locs cells slots Q (F0 m tgt ls rest)) (kf : ¬ a < b → W p l e R s m args below meth c H locs cells slots Q (F0 m (pc + 3) ls rest)) : W p l e R s m args below meth c H locs cells slots Q (F0 m pc ls (.int (iI (b : Int)) :: .int (iI (a : Int)) :: rest)) := by
  have e : iI (a : Int) < iI (b : Int) ↔ a < b := by rw [iI_lt (by omega) (by omega)] <;> omega
  exact lv_icmp_lt F.1.1 F.1.2.1 d ht (fun q => kt (e.mp q)) (fun q => kf (fun z => q (e.mpr z)))
theorem r_cltz {a b : Int} {off : Int} (tgt : Nat) (F : Fx p m c cc nL s args own D cI cB) (d : decode cc pc = .ok (.if_icmp .lt off, 3)) (ht : (pc : Int) + off = (tgt : Int)) (h : (-2147483648 ≤ a ∧ a < 2147483648) ∧ -2147483648 ≤ b ∧ b < 2147483648) (kt : a < b → W p l e R s m args below meth c H locs cells slots Q (F0 m tgt ls rest)) (kf : ¬ a < b → W p l e R s m args below meth c H locs cells slots Q (F0 m (pc + 3) ls rest)) : W p l e R s m args below meth c H locs cells slots Q (F0 m pc ls (.int (iI b) :: .int (iI a) :: rest)) := by
  have e : iI a < iI b ↔ a < b := by rw [iI_lt (by omega) (by omega)] <;> omega
  exact lv_icmp_lt F.1.1 F.1.2.1 d ht (fun q => kt (e.mp q)) (fun q => kf (fun z => q (e.mpr z)))
theorem r_zlt {a : Nat} {off : Int} (tgt : Nat) (F : Fx p m c cc nL s args own D cI cB) (d : decode cc pc = .ok (.ifCond .lt off, 3)) (ht : (pc : Int) + off = (tgt : Int)) (h : a < 2147483648) (kt : a < 0 → W p l e R s m args below meth c H locs cells slots Q (F0 m tgt ls rest)) (kf : ¬ a < 0 → W p l e R s m args below meth c H locs cells slots Q (F0 m (pc + 3) ls rest)) : W p l e R s m args below meth c H locs cells slots Q (F0 m pc ls (.int (iI (a : Int)) :: rest)) := by
  have e : iI (a : Int) < 0 ↔ a < 0 := by rw [← iI_0]; rw [iI_lt (by omega) (by omega)] <;> omega
  exact lv_if_lt F.1.1 F.1.2.1 d ht (fun q => kt (e.mp q)) (fun q => kf (fun z => q (e.mpr z)))
theorem r_zltz {a : Int} {off : Int} (tgt : Nat) (F : Fx p m c cc nL s args own D cI cB) (d : decode cc pc = .ok (.ifCond .lt off, 3)) (ht : (pc : Int) + off = (tgt : Int)) (h : -2147483648 ≤ a ∧ a < 2147483648) (kt : a < 0 → W p l e R s m args below meth c H locs cells slots Q (F0 m tgt ls rest)) (kf : ¬ a < 0 → W p l e R s m args below meth c H locs cells slots Q (F0 m (pc + 3) ls rest)) : W p l e R s m args below meth c H locs cells slots Q (F0 m pc ls (.int (iI a) :: rest)) := by
  have e : iI a < 0 ↔ a < 0 := by rw [← iI_0]; rw [iI_lt (by omega) (by omega)] <;> omega
  exact lv_if_lt F.1.1 F.1.2.1 d ht (fun q => kt (e.mp q)) (fun q => kf (fun z => q (e.mpr z)))
theorem r_cge {a b : Nat} {off : Int} (tgt : Nat) (F : Fx p m c cc nL s args own D cI cB) (d : decode cc pc = .ok (.if_icmp .ge off, 3)) (ht : (pc : Int) + off = (tgt : Int)) (h : a < 2147483648 ∧ b < 2147483648) (kt : ¬ a < b → W p l e R s m args below meth c H locs cells slots Q (F0 m tgt ls rest)) (kf : a < b → W p l e R s m args below meth c H locs cells slots Q (F0 m (pc + 3) ls rest)) : W p l e R s m args below meth c H locs cells slots Q (F0 m pc ls (.int (iI (b : Int)) :: .int (iI (a : Int)) :: rest)) := by
  have e : iI (b : Int) ≤ iI (a : Int) ↔ ¬ (a < b) := by rw [iI_le (by omega) (by omega)] <;> omega
  exact lv_icmp_ge F.1.1 F.1.2.1 d ht (fun q => kt (e.mp q)) (fun q => kf (Decidable.byContradiction fun z => q (e.mpr z)))
theorem r_cgez {a b : Int} {off : Int} (tgt : Nat) (F : Fx p m c cc nL s args own D cI cB) (d : decode cc pc = .ok (.if_icmp .ge off, 3)) (ht : (pc : Int) + off = (tgt : Int)) (h : (-2147483648 ≤ a ∧ a < 2147483648) ∧ -2147483648 ≤ b ∧ b < 2147483648) (kt : ¬ a < b → W p l e R s m args below meth c H locs cells slots Q (F0 m tgt ls rest)) (kf : a < b → W p l e R s m args below meth c H locs cells slots Q (F0 m (pc + 3) ls rest)) : W p l e R s m args below meth c H locs cells slots Q (F0 m pc ls (.int (iI b) :: .int (iI a) :: rest)) := by
  have e : iI b ≤ iI a ↔ ¬ (a < b) := by rw [iI_le (by omega) (by omega)] <;> omega
  exact lv_icmp_ge F.1.1 F.1.2.1 d ht (fun q => kt (e.mp q)) (fun q => kf (Decidable.byContradiction fun z => q (e.mpr z)))
theorem r_zge {a : Nat} {off : Int} (tgt : Nat) (F : Fx p m c cc nL s args own D cI cB) (d : decode cc pc = .ok (.ifCond .ge off, 3)) (ht : (pc : Int) + off = (tgt : Int)) (h : a < 2147483648) (kt : ¬ a < 0 → W p l e R s m args below meth c H locs cells slots Q (F0 m tgt ls rest)) (kf : a < 0 → W p l e R s m args below meth c H locs cells slots Q (F0 m (pc + 3) ls rest)) : W p l e R s m args below meth c H locs cells slots Q (F0 m pc ls (.int (iI (a : Int)) :: rest)) := by
  have e : 0 ≤ iI (a : Int) ↔ ¬ (a < 0) := by rw [← iI_0]; rw [iI_le (by omega) (by omega)] <;> omega
  exact lv_if_ge F.1.1 F.1.2.1 d ht (fun q => kt (e.mp q)) (fun q => kf (Decidable.byContradiction fun z => q (e.mpr z)))
theorem r_zgez {a : Int} {off : Int} (tgt : Nat) (F : Fx p m c cc nL s args own D cI cB) (d : decode cc pc = .ok (.ifCond .ge off, 3)) (ht : (pc : Int) + off = (tgt : Int)) (h : -2147483648 ≤ a ∧ a < 2147483648) (kt : ¬ a < 0 → W p l e R s m args below meth c H locs cells slots Q (F0 m tgt ls rest)) (kf : a < 0 → W p l e R s m args below meth c H locs cells slots Q (F0 m (pc + 3) ls rest)) : W p l e R s m args below meth c H locs cells slots Q (F0 m pc ls (.int (iI a) :: rest)) := by
  have e : 0 ≤ iI a ↔ ¬ (a < 0) := by rw [← iI_0]; rw [iI_le (by omega) (by omega)] <;> omega
  exact lv_if_ge F.1.1 F.1.2.1 d ht (fun q => kt (e.mp q)) (fun q => kf (Decidable.byContradiction fun z => q (e.mpr z)))
theorem r_cgt {a b : Nat} {off : Int} (tgt : Nat) (F : Fx p m c cc nL s args own D cI cB) (d : decode cc pc = .ok (.if_icmp .gt off, 3)) (ht : (pc : Int) + off = (tgt : Int)) (h : a < 2147483648 ∧ b < 2147483648) (kt : b < a → W p l e R s m args below meth c H locs cells slots Q (F0 m tgt ls rest)) (kf : ¬ b < a → W p l e R s m args below meth c H locs cells slots Q (F0 m (pc + 3) ls rest)) : W p l e R s m args below meth c H locs cells slots Q (F0 m pc ls (.int (iI (b : Int)) :: .int (iI (a : Int)) :: rest)) := by
  have e : iI (b : Int) < iI (a : Int) ↔ b < a := by rw [iI_lt (by omega) (by omega)] <;> omega
  exact lv_icmp_gt F.1.1 F.1.2.1 d ht (fun q => kt (e.mp q)) (fun q => kf (fun z => q (e.mpr z)))
theorem r_cgtz {a b : Int} {off : Int} (tgt : Nat) (F : Fx p m c cc nL s args own D cI cB) (d : decode cc pc = .ok (.if_icmp .gt off, 3)) (ht : (pc : Int) + off = (tgt : Int)) (h : (-2147483648 ≤ a ∧ a < 2147483648) ∧ -2147483648 ≤ b ∧ b < 2147483648) (kt : b < a → W p l e R s m args below meth c H locs cells slots Q (F0 m tgt ls rest)) (kf : ¬ b < a → W p l e R s m args below meth c H locs cells slots Q (F0 m (pc + 3) ls rest)) : W p l e R s m args below meth c H locs cells slots Q (F0 m pc ls (.int (iI b) :: .int (iI a) :: rest)) := by
  have e : iI b < iI a ↔ b < a := by rw [iI_lt (by omega) (by omega)] <;> omega
  exact lv_icmp_gt F.1.1 F.1.2.1 d ht (fun q => kt (e.mp q)) (fun q => kf (fun z => q (e.mpr z)))
theorem r_zgt {a : Nat} {off : Int} (tgt : Nat) (F : Fx p m c cc nL s args own D cI cB) (d : decode cc pc = .ok (.ifCond .gt off, 3)) (ht : (pc : Int) + off = (tgt : Int)) (h : a < 2147483648) (kt : 0 < a → W p l e R s m args below meth c H locs cells slots Q (F0 m tgt ls rest)) (kf : ¬ 0 < a → W p l e R s m args below meth c H locs cells slots Q (F0 m (pc + 3) ls rest)) : W p l e R s m args below meth c H locs cells slots Q (F0 m pc ls (.int (iI (a : Int)) :: rest)) := by
  have e : 0 < iI (a : Int) ↔ 0 < a := by rw [← iI_0]; rw [iI_lt (by omega) (by omega)] <;> omega
  exact lv_if_gt F.1.1 F.1.2.1 d ht (fun q => kt (e.mp q)) (fun q => kf (fun z => q (e.mpr z)))
theorem r_zgtz {a : Int} {off : Int} (tgt : Nat) (F : Fx p m c cc nL s args own D cI cB) (d : decode cc pc = .ok (.ifCond .gt off, 3)) (ht : (pc : Int) + off = (tgt : Int)) (h : -2147483648 ≤ a ∧ a < 2147483648) (kt : 0 < a → W p l e R s m args below meth c H locs cells slots Q (F0 m tgt ls rest)) (kf : ¬ 0 < a → W p l e R s m args below meth c H locs cells slots Q (F0 m (pc + 3) ls rest)) : W p l e R s m args below meth c H locs cells slots Q (F0 m pc ls (.int (iI a) :: rest)) := by
  have e : 0 < iI a ↔ 0 < a := by rw [← iI_0]; rw [iI_lt (by omega) (by omega)] <;> omega
  exact lv_if_gt F.1.1 F.1.2.1 d ht (fun q => kt (e.mp q)) (fun q => kf (fun z => q (e.mpr z)))
theorem r_cle {a b : Nat} {off : Int} (tgt : Nat) (F : Fx p m c cc nL s args own D cI cB) (d : decode cc pc = .ok (.if_icmp .le off, 3)) (ht : (pc : Int) + off = (tgt : Int)) (h : a < 2147483648 ∧ b < 2147483648) (kt : ¬ b < a → W p l e R s m args below meth c H locs cells slots Q (F0 m tgt ls rest)) (kf : b < a → W p l e R s m args below meth c H locs cells slots Q (F0 m (pc + 3) ls rest)) : W p l e R s m args below meth c H locs cells slots Q (F0 m pc ls (.int (iI (b : Int)) :: .int (iI (a : Int)) :: rest)) := by
  have e : iI (a : Int) ≤ iI (b : Int) ↔ ¬ (b < a) := by rw [iI_le (by omega) (by omega)] <;> omega
  exact lv_icmp_le F.1.1 F.1.2.1 d ht (fun q => kt (e.mp q)) (fun q => kf (Decidable.byContradiction fun z => q (e.mpr z)))
theorem r_clez {a b : Int} {off : Int} (tgt : Nat) (F : Fx p m c cc nL s args own D cI cB) (d : decode cc pc = .ok (.if_icmp .le off, 3)) (ht : (pc : Int) + off = (tgt : Int)) (h : (-2147483648 ≤ a ∧ a < 2147483648) ∧ -2147483648 ≤ b ∧ b < 2147483648) (kt : ¬ b < a → W p l e R s m args below meth c H locs cells slots Q (F0 m tgt ls rest)) (kf : b < a → W p l e R s m args below meth c H locs cells slots Q (F0 m (pc + 3) ls rest)) : W p l e R s m args below meth c H locs cells slots Q (F0 m pc ls (.int (iI b) :: .int (iI a) :: rest)) := by
  have e : iI a ≤ iI b ↔ ¬ (b < a) := by rw [iI_le (by omega) (by omega)] <;> omega
  exact lv_icmp_le F.1.1 F.1.2.1 d ht (fun q => kt (e.mp q)) (fun q => kf (Decidable.byContradiction fun z => q (e.mpr z)))
theorem r_zle {a : Nat} {off : Int} (tgt : Nat) (F : Fx p m c cc nL s args own D cI cB) (d : decode cc pc = .ok (.ifCond .le off, 3)) (ht : (pc : Int) + off = (tgt : Int)) (h : a < 2147483648) (kt : ¬ 0 < a → W p l e R s m args below meth c H locs cells slots Q (F0 m tgt ls rest)) (kf : 0 < a → W p l e R s m args below meth c H locs cells slots Q (F0 m (pc + 3) ls rest)) : W p l e R s m args below meth c H locs cells slots Q (F0 m pc ls (.int (iI (a : Int)) :: rest)) := by
  have e : iI (a : Int) ≤ 0 ↔ ¬ (0 < a) := by rw [← iI_0]; rw [iI_le (by omega) (by omega)] <;> omega
  exact lv_if_le F.1.1 F.1.2.1 d ht (fun q => kt (e.mp q)) (fun q => kf (Decidable.byContradiction fun z => q (e.mpr z)))
theorem r_zlez {a : Int} {off : Int} (tgt : Nat) (F : Fx p m c cc nL s args own D cI cB) (d : decode cc pc = .ok (.ifCond .le off, 3)) (ht : (pc : Int) + off = (tgt : Int)) (h : -2147483648 ≤ a ∧ a < 2147483648) (kt : ¬ 0 < a → W p l e R s m args below meth c H locs cells slots Q (F0 m tgt ls rest)) (kf : 0 < a → W p l e R s m args below meth c H locs cells slots Q (F0 m (pc + 3) ls rest)) : W p l e R s m args below meth c H locs cells slots Q (F0 m pc ls (.int (iI a) :: rest)) := by
  have e : iI a ≤ 0 ↔ ¬ (0 < a) := by rw [← iI_0]; rw [iI_le (by omega) (by omega)] <;> omega
  exact lv_if_le F.1.1 F.1.2.1 d ht (fun q => kt (e.mp q)) (fun q => kf (Decidable.byContradiction fun z => q (e.mpr z)))
theorem b_z (b : Bool) : iI (b.toNat : Int) = 0 ↔ b = false := by cases b <;> decide
theorem r_zeqb {b : Bool} {off : Int} (tgt : Nat) (F : Fx p m c cc nL s args own D cI cB) (d : decode cc pc = .ok (.ifCond .eq off, 3)) (ht : (pc : Int) + off = (tgt : Int)) (kt : b = false → W p l e R s m args below meth c H locs cells slots Q (F0 m tgt ls rest)) (kf : b = true → W p l e R s m args below meth c H locs cells slots Q (F0 m (pc + 3) ls rest)) : W p l e R s m args below meth c H locs cells slots Q (F0 m pc ls (.int (iI (b.toNat : Int)) :: rest)) :=
  lv_if_eq F.1.1 F.1.2.1 d ht (fun q => kt ((b_z b).mp q)) (fun q => kf (by cases b; exact absurd ((b_z _).mpr rfl) q; rfl))
theorem r_zneb {b : Bool} {off : Int} (tgt : Nat) (F : Fx p m c cc nL s args own D cI cB) (d : decode cc pc = .ok (.ifCond .ne off, 3)) (ht : (pc : Int) + off = (tgt : Int)) (kt : b = true → W p l e R s m args below meth c H locs cells slots Q (F0 m tgt ls rest)) (kf : b = false → W p l e R s m args below meth c H locs cells slots Q (F0 m (pc + 3) ls rest)) : W p l e R s m args below meth c H locs cells slots Q (F0 m pc ls (.int (iI (b.toNat : Int)) :: rest)) :=
  lv_if_ne F.1.1 F.1.2.1 d ht (fun q => kt (by cases b; exact absurd ((b_z _).mpr rfl) q; rfl)) (fun q => kf ((b_z b).mp q))
theorem r_ald {a n k : Nat} {f : Nat → Nat} (F : Fx p m c cc nL s args own D cI cB) (P : va_P D vwCl ws H) (q0 : Nat) (ha : ws[q0]? = some (a, aI cI n f)) (d : decode cc pc = .ok (.iaload, 1)) (hn : n < 2147483648) (hk : k < n) (kk : W p l e R s m args below meth c H locs cells slots Q (F0 m (pc + 1) ls (.int (iI (f k : Int)) :: rest))) : W p l e R s m args below meth c H locs cells slots Q (F0 m pc ls (.int (iI (k : Int)) :: .ref a :: rest)) :=
  va_iald F.1.1 F.1.2.1 F.2.1 P q0 0 ha rfl (iI_in hk hn) d (by rw [iI_clamp (by omega)]; exact kk)
theorem r_bld {a n k : Nat} {f : Nat → Nat} (F : Fx p m c cc nL s args own D cI cB) (P : va_P D vwCl ws H) (q0 : Nat) (ha : ws[q0]? = some (a, aB cB n f)) (d : decode cc pc = .ok (.baload, 1)) (hn : n < 2147483648) (hk : k < n) (kk : W p l e R s m args below meth c H locs cells slots Q (F0 m (pc + 1) ls (.int (iI (sx (f k))) :: rest))) : W p l e R s m args below meth c H locs cells slots Q (F0 m pc ls (.int (iI (k : Int)) :: .ref a :: rest)) :=
  va_bald F.1.1 F.1.2.1 F.2.1 P q0 1 ha rfl (iI_in hk hn) d (by rw [iI_clamp (by omega)]; exact kk)
theorem upd_aI (f : Nat → Nat) (k v : Nat) : upd (fun j => iI (f j : Int)) k (iI (v : Int)) = fun j => iI (upN f k v j : Int) := by
  funext j
  unfold upd upN
  by_cases h : j = k
  · simp [h]
  · simp [h]
theorem r_ast {a n k v : Nat} {f : Nat → Nat} (F : Fx p m c cc nL s args own D cI cB) (B : Bx D A H0 ws H locs) (q0 : Nat) (ws' : va_W) (ha : ws[q0]? = some (a, aI cI n f)) (d : decode cc pc = .ok (.iastore, 1)) (hn : n < 2147483648) (hk : k < n) (hw : ws.set q0 (a, aI cI n (upN f k v)) = ws') (kk : ∀ (H : Heap) (locs : List Loc), Bx D A H0 ws' H locs → W p l e R s m args below meth c H locs cells slots Q (F0 m (pc + 1) ls rest)) : W p l e R s m args below meth c H locs cells slots Q (F0 m pc ls (.int (iI (v : Int)) :: .int (iI (k : Int)) :: .ref a :: rest)) := by
  refine va_iast F.1.1 F.1.2.1 F.2.1 B.1 B.2.1 B.2.2 q0 0 ha rfl (iI_in hk hn) d (fun H1 locs1 hP hD hS => ?_)
  rw [iI_clamp (by omega), upd_aI, hw] at hP hD
  exact kk H1 locs1 ⟨hP, hD, hS⟩
theorem upd_aB (f : Nat → Nat) (k v : Nat) : upd (fun j => iI (sx (f j))) k (iI (sx v)) = fun j => iI (sx (upN f k v j)) := by
  funext j
  unfold upd upN
  by_cases h : j = k
  · simp [h]
  · simp [h]
theorem r_bst {a n k : Nat} {x : Int32} {f : Nat → Nat} (F : Fx p m c cc nL s args own D cI cB) (B : Bx D A H0 ws H locs) (q0 : Nat) (v : Nat) (ws' : va_W) (ha : ws[q0]? = some (a, aB cB n f)) (d : decode cc pc = .ok (.bastore, 1)) (hn : n < 2147483648) (hk : k < n) (hx : vp_nar .byte x = iI (sx v)) (hw : ws.set q0 (a, aB cB n (upN f k v)) = ws') (kk : ∀ (H : Heap) (locs : List Loc), Bx D A H0 ws' H locs → W p l e R s m args below meth c H locs cells slots Q (F0 m (pc + 1) ls rest)) : W p l e R s m args below meth c H locs cells slots Q (F0 m pc ls (.int x :: .int (iI (k : Int)) :: .ref a :: rest)) := by
  refine va_bast F.1.1 F.1.2.1 F.2.1 B.1 B.2.1 B.2.2 q0 1 ha rfl (iI_in hk hn) d (fun H1 locs1 hP hD hS => ?_)
  rw [iI_clamp (by omega), hx, upd_aB, hw] at hP hD
  exact kk H1 locs1 ⟨hP, hD, hS⟩

theorem r_gf {C : String} {T : u_T} {N ci idx a : Nat} (F : Fx p m c cc nL s args own D cI cB) (hin : ∀ w ∈ u_ws C T N, w ∈ tb) (hc : vwCl[ci]? = some (C, T, N)) (k : Nat) (hk : k < N) (hl : Cond.fieldLink own idx (T k).1 (T k).2.1 (T k).2.2.1 ∈ tb) (P : va_P D vwCl ws H) (q0 : Nat) {fs : List Value} (he : ws[q0]? = some (a, .inr (ci, fs))) (v : Value) (hv : fs[k]? = some v) (d : decode cc pc = .ok (.getfield idx, 3)) (kk : W p l e R s m args below meth c H locs cells slots Q (F0 m (pc + 3) ls (v :: rest))) : W p l e R s m args below meth c H locs cells slots Q (F0 m pc ls (.ref a :: rest)) :=
  va_get F.1.1 F.1.2.1 F.1.2.2.2.2 hin F.1.2.2.2.1 F.2.1 P q0 he hc k hk (F.1.2.2.2.2 _ hl) (fun _ h => h) hv d kk
theorem r_gfN {C host : String} {T : u_T} {N ci idx a : Nat} (F : Fx p m c cc nL s args own D cI cB) (hin : ∀ w ∈ u_ws C T N, w ∈ tb) (hc : vwCl[ci]? = some (C, T, N)) (k : Nat) (hk : k < N) (hl : Cond.fieldLinkNest own idx (T k).1 (T k).2.1 (T k).2.2.1 host ∈ nst) (P : va_P D vwCl ws H) (q0 : Nat) {fs : List Value} (he : ws[q0]? = some (a, .inr (ci, fs))) (v : Value) (hv : fs[k]? = some v) (d : decode cc pc = .ok (.getfield idx, 3)) (kk : W p l e R s m args below meth c H locs cells slots Q (F0 m (pc + 3) ls (v :: rest))) : W p l e R s m args below meth c H locs cells slots Q (F0 m pc ls (.ref a :: rest)) :=
  va_getN F.1.1 F.1.2.1 F.1.2.2.2.2 hin F.1.2.2.2.1 F.2.1 P q0 he hc k hk (va_Nw.use rfl (F.2.2 _ hl)) (fun _ h => h) hv d kk
theorem r_pf {C : String} {T : u_T} {N ci idx a : Nat} {ty0 : Nat → FieldType} (F : Fx p m c cc nL s args own D cI cB) (hin : ∀ w ∈ u_ws C T N, w ∈ tb) (hc : vwCl[ci]? = some (C, T, N)) (hty : ∀ k, k < N → parseFieldDescriptor (T k).2.2.1 = some (ty0 k)) (hnm : ∀ a, a < N → ∀ b, b < N → a ≠ b → (T a).2.1 ≠ (T b).2.1) (k : Nat) (hk : k < N) (hl : Cond.fieldLink own idx (T k).1 (T k).2.1 (T k).2.2.1 ∈ tb) (hfin : (T k).2.2.2 = false) (B : Bx D A H0 ws H locs) (q0 : Nat) (ws' : va_W) {fs : List Value} (he : ws[q0]? = some (a, .inr (ci, fs))) {v : Value} (hn : narrow (ty0 k) v = v) (hfit : fits (ty0 k) v = true) (hlen : k < fs.length) (hw : ws.set q0 (a, .inr (ci, fs.set k v)) = ws') (d : decode cc pc = .ok (.putfield idx, 3)) (kk : ∀ (H : Heap) (locs : List Loc), Bx D A H0 ws' H locs → W p l e R s m args below meth c H locs cells slots Q (F0 m (pc + 3) ls rest)) : W p l e R s m args below meth c H locs cells slots Q (F0 m pc ls (v :: .ref a :: rest)) :=
  va_put F.1.1 F.1.2.1 F.1.2.2.2.2 hin ty0 hty hnm F.1.2.2.2.1 F.2.1 B.1 B.2.1 B.2.2 q0 he hc k hk (F.1.2.2.2.2 _ hl) (fun _ h => h) hfin (hty k hk) hn hfit hlen d (fun H1 locs1 hP hD hS => by
    rw [hw] at hP hD
    exact kk H1 locs1 ⟨hP, hD, hS⟩)
theorem r_pfN {C host : String} {T : u_T} {N ci idx a : Nat} {ty0 : Nat → FieldType} (F : Fx p m c cc nL s args own D cI cB) (hin : ∀ w ∈ u_ws C T N, w ∈ tb) (hc : vwCl[ci]? = some (C, T, N)) (hty : ∀ k, k < N → parseFieldDescriptor (T k).2.2.1 = some (ty0 k)) (hnm : ∀ a, a < N → ∀ b, b < N → a ≠ b → (T a).2.1 ≠ (T b).2.1) (k : Nat) (hk : k < N) (hl : Cond.fieldLinkNest own idx (T k).1 (T k).2.1 (T k).2.2.1 host ∈ nst) (hfin : (T k).2.2.2 = false) (B : Bx D A H0 ws H locs) (q0 : Nat) (ws' : va_W) {fs : List Value} (he : ws[q0]? = some (a, .inr (ci, fs))) {v : Value} (hn : narrow (ty0 k) v = v) (hfit : fits (ty0 k) v = true) (hlen : k < fs.length) (hw : ws.set q0 (a, .inr (ci, fs.set k v)) = ws') (d : decode cc pc = .ok (.putfield idx, 3)) (kk : ∀ (H : Heap) (locs : List Loc), Bx D A H0 ws' H locs → W p l e R s m args below meth c H locs cells slots Q (F0 m (pc + 3) ls rest)) : W p l e R s m args below meth c H locs cells slots Q (F0 m pc ls (v :: .ref a :: rest)) :=
  va_putN F.1.1 F.1.2.1 F.1.2.2.2.2 hin ty0 hty hnm F.1.2.2.2.1 F.2.1 B.1 B.2.1 B.2.2 q0 he hc k hk (va_Nw.use rfl (F.2.2 _ hl)) (fun _ h => h) hfin (hty k hk) hn hfit hlen d (fun H1 locs1 hP hD hS => by
    rw [hw] at hP hD
    exact kk H1 locs1 ⟨hP, hD, hS⟩)

theorem fm_some : ∀ (is : List Nat) (ws wc : va_W), is.map (fun i => ws[i]?) = wc.map some → is.filterMap (fun i => ws[i]?) = wc
  | [], _, [], _ => rfl
  | [], _, _ :: _, h => by simp at h
  | _ :: _, _, [], h => by simp at h
  | i :: is, ws, x :: wc, h => by
    simp only [List.map_cons, List.cons.injEq] at h
    rw [List.filterMap_cons, h.1]
    simp only
    rw [fm_some is ws wc h.2]
theorem blindQ {av : List Value} {wc : va_W} : FrameBlind (va_Pc av (fun U => va_P D vwCl wc U.heap ∧ KK D cI cB U)) := fun a U g mk q => by
  obtain ⟨q0, qP, qK⟩ := q
  exact ⟨q0, qP, qK.call⟩
theorem blindU {av : List Value} {wc : va_W} {sz : Nat} : FrameBlind (va_Pc av (fun U => U.heap.size = sz ∧ va_P D vwCl wc U.heap ∧ KK D cI cB U ∧ va_D (fun _ => True) wc)) := fun a U g mk q => by
  obtain ⟨q0, q1, qP, qK, qD⟩ := q
  exact ⟨q0, q1, qP, qK.call, qD⟩
abbrev Rm (R rm : Room) (maxL : Nat) : Prop := (rm.cells = 0 ∧ rm.slots = 0) ∧ rm.frames + 1 ≤ R.frames ∧ 8 + (maxL + 11) + rm.locals ≤ R.locals
/-- a call of a question, of an instance -/
theorem r_cq {y : MethodName} {bytes : ByteArray} {maxL n idx ci a : Nat} {ret : Option FieldType} {rm : Room} {C : String} {T : u_T} {N : Nat} {fs : List Value} {As st0 : List Value} {wc : va_W} {r : Int32} (F : Fx p m c cc nL s args own D cI cB) (P : va_P D vwCl ws H) (hq : CtQ l y bytes maxL ret rm D cI cB (.ref a :: As) wc r) (gw : VW own idx C y bytes maxL ret n) (is : List Nat) (his : is.map (fun i => ws[i]?) = wc.map some) (hrv : wc[0]? = some (a, .inr (ci, fs))) (hci : vwCl[ci]? = some (C, T, N)) (hR : Rm R rm maxL) (hcs : cells ≤ R.cells ∧ slots ≤ R.slots) (hl : ls.size = nL) (hn : As.length = n) (rest : List Value) (hst : st0 = As.reverse ++ .ref a :: rest) (h8 : (rest.map fun v => v.category).sum ≤ 8) (d : decode cc pc = .ok (.invokevirtual idx, 3)) (kk : W p l e R s m args below meth c H locs cells slots Q (F0 m (pc + 3) ls (.int r :: rest))) : W p l e R s m args below meth c H locs cells slots Q (F0 m pc ls st0) := by
  have hPc := va_P.sub P is (fm_some is ws wc his)
  refine vp_callSi (W.runV (As := As) (rest := rest) F.1 hq (cwV n F.1.2.2.2.2 gw.1 rfl hR.1.1 hR.1.2 gw.2 hR.2) ⟨blindQ, va_recv F.2.1 hPc hci hrv, fun U hU hW => ⟨rfl, by rw [hU]; exact hPc, F.2.warm hW⟩⟩ rfl hn hl hst (lv_room h8) d ⟨hcs.1, hcs.2⟩) (fun x hx => ?_)
  subst hx
  exact kk
/-- a call of a question, static, of the own class -/
theorem r_sq {y : MethodName} {bytes : ByteArray} {maxL n idx : Nat} {ret : Option FieldType} {rm : Room} {As st0 : List Value} {wc : va_W} {r : Int32} (F : Fx p m c cc nL s args own D cI cB) (P : va_P D vwCl ws H) (hq : CtQ l y bytes maxL ret rm D cI cB As wc r) (gw : SW own idx y bytes maxL ret n) (is : List Nat) (his : is.map (fun i => ws[i]?) = wc.map some) (hR : Rm R rm maxL) (hcs : cells ≤ R.cells ∧ slots ≤ R.slots) (hl : ls.size = nL) (hn : As.length = n) (rest : List Value) (hst : st0 = As.reverse ++ rest) (h8 : (rest.map fun v => v.category).sum ≤ 8) (d : decode cc pc = .ok (.invokestatic idx, 3)) (kk : W p l e R s m args below meth c H locs cells slots Q (F0 m (pc + 3) ls (.int r :: rest))) : W p l e R s m args below meth c H locs cells slots Q (F0 m pc ls st0) := by
  have hPc := va_P.sub P is (fm_some is ws wc his)
  refine vp_callSi (W.runS (As := As) (rest := rest) F.1 hq (cwS n F.1.2.2.2.2 gw.1 rfl hR.1.1 hR.1.2 gw.2 hR.2) ⟨blindQ, fun U hU hW => ⟨rfl, by rw [hU]; exact hPc, F.2.warm hW⟩⟩ rfl hn hl hst (lv_room h8) d ⟨hcs.1, hcs.2⟩) (fun x hx => ?_)
  subst hx
  exact kk

end Rows
