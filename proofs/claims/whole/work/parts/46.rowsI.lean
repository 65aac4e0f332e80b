theorem ko_X3 : Cond.methodLink RX3 3 Lib.objectInit ∈ tb := tb_i 55 (by decide +kernel) rfl
theorem ko_i : Cond.instanceMethod Lib.objectInit ∈ tb := tb_i 56 (by decide +kernel) rfl
theorem ko_c : Cond.code Lib.objectInit ⟨#[0xb1]⟩ 1 none ∈ tb := tb_i 57 (by decide +kernel) rfl
theorem ko_X0 : Cond.methodLink RX0 3 Lib.objectInit ∈ tb := tb_i 63 (by decide +kernel) rfl
theorem ka_B : Cond.arrayClass .byte ∈ tb := tb_i 78 (by decide +kernel) rfl
theorem ka_I : Cond.arrayClass .int ∈ tb := tb_i 79 (by decide +kernel) rfl
theorem ko_X2 : Cond.methodLink RX2 3 Lib.objectInit ∈ tb := tb_i 85 (by decide +kernel) rfl
theorem ko_X1 : Cond.methodLink RX1 3 Lib.objectInit ∈ tb := tb_i 147 (by decide +kernel) rfl
theorem ko_X4 : Cond.methodLink RX4 1 Lib.objectInit ∈ tb := tb_i 513 (by decide +kernel) rfl
theorem iI_nonneg {n : Nat} (h : n < 2147483648) : ¬ iI (n : Int) < 0 := fun z => absurd ((iI_lt (b := 0) (by omega) (by omega)).mp (show iI (n : Int) < iI 0 from z)) (by omega)
/-- a constructor: the world of the new object, before and after; the cells and slots that it takes -/
def CtI {S : Type} (l : Launch) (y : MethodName) (cd : ByteArray) (nL : Nat) (rm : Room) (D : va_G) (cI cB : ClassId) (a : Nat) (wc : va_W) (post : S → Prop) (Y : S → va_W) (nc ns : Nat) : Prop :=
  ∀ sz, Met l y (.code y cd nL none :: tb) rm (va_Pc [.ref a] (fun U => U.heap.size = sz ∧ va_P D vwCl wc U.heap ∧ KK D cI cB U ∧ va_D (fun _ => True) wc)) (va_Qv post (fun u t => va_P D vwCl (Y u) t.heap ∧ va_D (va_A wc sz) (Y u)) (va_A wc sz)) nc ns (va_A wc sz)
abbrev Qi {S : Type} (below : List Frame) (args : Array Value) (s : State) (D : va_G) (post : S → Prop) (Y : S → va_W) (nc ns : Nat) (A : Nat → Prop) : State → Prop := MQ below (va_Qv post (fun u t => va_P D vwCl (Y u) t.heap ∧ va_D A (Y u)) A) args s nc ns A
theorem CtI.of {S : Type} {l : Launch} {y : MethodName} {cd : ByteArray} {nL : Nat} {rm : Room} {D : va_G} {cI cB : ClassId} {a : Nat} {wc : va_W} {post : S → Prop} {Y : S → va_W} {nc ns : Nat} (own : String) (hy : plainName y.cls = true) (ho : y.cls = own) (hyn : y.name = "<init>") (hn : (lg_sl [.ref a]).length ≤ nL)
    (body : ∀ p e s m args below meth c H ls (A : Nat → Prop), s.heap = H → (∀ q, H.size ≤ q → A q) → Fx p m c cd nL s args own D cI cB → meth.sig.returnType = none → meth.locks = false → meth.name = "<init>" → Bx D A H wc H [] → lv_has ls nL (lv_args 0 [.ref a]) →
      W p l e rm s m args below meth c H [] 0 0 (Qi below args s D post Y nc ns A) (F0 m 0 ls [])) : CtI l y cd nL rm D cI cB a wc post Y nc ns := by
  intro sz
  refine Met.ofW (cc := cd) (maxL := nL) (ret := none) hy rfl ?_
  intro p e s m args below meth c s₁ B hml hv
  obtain ⟨rfl, hsz, hP, hK, hD⟩ := hv
  subst hsz
  have hts := atoms_spec (ws := .code y cd nL none :: tb) B.pre
  have hown : s.vm.findClass own = some m.cls := by rw [← ho]; exact findClass_of_methodNamed B.named
  rw [lg_entry_eq]
  exact body p e s m [.ref a].toArray below meth c s.heap _ _ rfl (fun q h => Or.inr h) ⟨⟨B.exec, B.bytes, hml, hown, fun w h => hts w (List.mem_cons_of_mem _ h)⟩, hK⟩ B.returns B.notSynchronized (((name_of_methodNamed B.named B.method).1).trans hyn) ⟨hP, hD.self, va_S.rf⟩ (lv_entry [.ref a] hn)
section RowsI
variable {p : Program} {l : Launch} {e : Env} {R : Room} {s : State} {m : MethodId} {args : Array Value} {below : List Frame} {meth : Method} {c : Code} {H : Heap} {locs : List Loc} {cells slots : Nat} {Q : State → Prop}
variable {cc : ByteArray} {nL : Nat} {own : String} {pc : Nat} {ls : Array Slot} {rest : List Value} {D : va_G} {cI cB : ClassId} {A : Nat → Prop} {ws : va_W} {H0 : Heap}
theorem r_retI {S : Type} {post : S → Prop} {Y : S → va_W} (u : S) (F : Fx p m c cc nL s args own D cI cB) (hr : meth.sig.returnType = none) (hlk : meth.locks = false) (hH : s.heap = H0) (B : Bx D A H0 ws H locs) (d : decode cc pc = .ok (.return_, 1)) (hp : post u) (hw : ws = Y u) : W p l e R s m args below meth c H locs cells slots (Qi below args s D post Y cells slots A) (F0 m pc ls []) := by
  subst hw
  subst hH
  exact W.vret F.1.1 F.1.2.1 hr (fun t ht _ => ⟨⟨u, rfl, hp, by rw [ht]; exact B.1, B.2.1⟩, B.2.2.F ht⟩) B.2.2.2.2 d hlk
theorem r_oi {idx a : Nat} (F : Fx p m c cc nL s args own D cI cB) (hm : Cond.methodLink own idx Lib.objectInit ∈ tb) (hl : ls.size = nL) (h1 : 1 ≤ R.frames) (h2 : 2 * (F0 m pc ls (.ref a :: rest)).monitorRoom + (rest.map fun v => v.category).sum + 12 ≤ R.locals) (d : decode cc pc = .ok (.invokespecial idx, 3)) (kk : W p l e R s m args below meth c H locs cells slots Q (F0 m (pc + 3) ls rest)) : W p l e R s m args below meth c H locs cells slots Q (F0 m pc ls (.ref a :: rest)) :=
  W.objInit F.1.1 F.1.2.1 F.1.2.2.2.1 (F.1.2.2.2.2 _ hm) (F.1.2.2.2.2 _ ko_i) (F.1.2.2.2.2 _ ko_c) rfl (hl.trans F.1.2.2.1.symm) rfl d h1 h2 kk
theorem r_nwI (n : Nat) (F : Fx p m c cc nL s args own D cI cB) (hA : ∀ q, H0.size ≤ q → A q) (B : Bx D A H0 ws H locs) (hn : n ≤ 1000) (hc : cells + 1 ≤ R.cells) (hs : slots + n ≤ R.slots) (d : decode cc pc = .ok (.newarray .int, 2)) (kk : ∀ (q : Nat) (H : Heap), Bx D A H0 (ws ++ [(q, aI cI n (fun _ => 0))]) H locs → W p l e R s m args below meth c H locs (cells + 1) (slots + n) Q (F0 m (pc + 2) ls (.ref q :: rest))) : W p l e R s m args below meth c H locs cells slots Q (F0 m pc ls (.int (iI (n : Int)) :: rest)) := by
  have hcb : componentBytes (newarray.typeOf ArrayType.int) ≤ 8 := by decide
  have hby : n * componentBytes (newarray.typeOf ArrayType.int) ≤ 536870912 := Nat.le_trans (Nat.mul_le_mul hn hcb) (by decide)
  refine va_newa (atype := .int) (N' := n) (a0 := (n, .inl (fun _ => iI ((0 : Nat) : Int)))) F.1.1 F.1.2.1 (F.1.2.2.2.2 _ ka_I) rfl F.2.1 B.1 B.2.1 B.2.2 hA (fun cA => rfl) (iI_nonneg (by omega)) (iI_clamp (by omega)) hby hc hs d ?_
  intro q cA H1 hK hP hD hS
  have h1 : s.vm.findClass ("[" ++ FieldType.int.toString) = some cA := (hK.2 2 (cA, .int) rfl).2
  have h2 : s.vm.findClass ("[" ++ FieldType.int.toString) = some cI := (F.2.1.2 0 (cI, .int) rfl).2
  have e1 : cA = cI := Option.some.inj (h1.symm.trans h2)
  rw [e1] at hP hD
  exact kk q H1 ⟨hP, hD, hS⟩
theorem r_nwB (n : Nat) (F : Fx p m c cc nL s args own D cI cB) (hA : ∀ q, H0.size ≤ q → A q) (B : Bx D A H0 ws H locs) (hn : n ≤ 1000) (hc : cells + 1 ≤ R.cells) (hs : slots + n ≤ R.slots) (d : decode cc pc = .ok (.newarray .byte, 2)) (kk : ∀ (q : Nat) (H : Heap), Bx D A H0 (ws ++ [(q, aB cB n (fun _ => 0))]) H locs → W p l e R s m args below meth c H locs (cells + 1) (slots + n) Q (F0 m (pc + 2) ls (.ref q :: rest))) : W p l e R s m args below meth c H locs cells slots Q (F0 m pc ls (.int (iI (n : Int)) :: rest)) := by
  have hcb : componentBytes (newarray.typeOf ArrayType.byte) ≤ 8 := by decide
  have hby : n * componentBytes (newarray.typeOf ArrayType.byte) ≤ 536870912 := Nat.le_trans (Nat.mul_le_mul hn hcb) (by decide)
  refine va_newa (atype := .byte) (N' := n) (a0 := (n, .inl (fun _ => iI (sx 0)))) F.1.1 F.1.2.1 (F.1.2.2.2.2 _ ka_B) rfl F.2.1 B.1 B.2.1 B.2.2 hA (fun cA => rfl) (iI_nonneg (by omega)) (iI_clamp (by omega)) hby hc hs d ?_
  intro q cA H1 hK hP hD hS
  have h1 : s.vm.findClass ("[" ++ FieldType.byte.toString) = some cA := (hK.2 2 (cA, .byte) rfl).2
  have h2 : s.vm.findClass ("[" ++ FieldType.byte.toString) = some cB := (F.2.1.2 1 (cB, .byte) rfl).2
  have e1 : cA = cB := Option.some.inj (h1.symm.trans h2)
  rw [e1] at hP hD
  exact kk q H1 ⟨hP, hD, hS⟩
theorem r_pfF {C : String} {T : u_T} {N ci idx a : Nat} {ty0 : Nat → FieldType} (F : Fx p m c cc nL s args own D cI cB) (hme : meth.name = "<init>") (hin : ∀ w ∈ u_ws C T N, w ∈ tb) (hc : vwCl[ci]? = some (C, T, N)) (hty : ∀ k, k < N → parseFieldDescriptor (T k).2.2.1 = some (ty0 k)) (hnm : ∀ a, a < N → ∀ b, b < N → a ≠ b → (T a).2.1 ≠ (T b).2.1) (k : Nat) (hk : k < N) (hl : Cond.fieldLink own idx (T k).1 (T k).2.1 (T k).2.2.1 ∈ tb) (hfin : (T k).2.2.2 = true) (hdecl : (T k).1 = own) (B : Bx D A H0 ws H locs) (q0 : Nat) (ws' : va_W) {fs : List Value} (he : ws[q0]? = some (a, .inr (ci, fs))) {v : Value} (hn : narrow (ty0 k) v = v) (hfit : fits (ty0 k) v = true) (hlen : k < fs.length) (hw : ws.set q0 (a, .inr (ci, fs.set k v)) = ws') (d : decode cc pc = .ok (.putfield idx, 3)) (kk : ∀ (H : Heap) (locs : List Loc), Bx D A H0 ws' H locs → W p l e R s m args below meth c H locs cells slots Q (F0 m (pc + 3) ls rest)) : W p l e R s m args below meth c H locs cells slots Q (F0 m pc ls (v :: .ref a :: rest)) :=
  va_putF F.1.1 F.1.2.1 F.1.2.2.2.2 hin ty0 hty hnm F.1.2.2.2.1 F.2.1 B.1 B.2.1 B.2.2 q0 he hc k hk (F.1.2.2.2.2 _ hl) (fun _ h => h) hfin hme hdecl (hty k hk) hn hfit hlen d (fun H1 locs1 hP hD hS => by
    rw [hw] at hP hD
    exact kk H1 locs1 ⟨hP, hD, hS⟩)
theorem r_nw {C : String} {T : u_T} {N ci idx : Nat} {ty0 : Nat → FieldType} (F : Fx p m c cc nL s args own D cI cB) (hin : ∀ w ∈ u_ws C T N, w ∈ tb) (hc : vwCl[ci]? = some (C, T, N)) (hty : ∀ k, k < N → parseFieldDescriptor (T k).2.2.1 = some (ty0 k)) (hcl : Cond.classLink own idx C ∈ tb) (hins : Cond.instantiable C N ∈ tb) (hini : Cond.initialized C ∈ tb) (hA : ∀ q, H0.size ≤ q → A q) (B : Bx D A H0 ws H locs) (fs : List Value) (hfs : ∀ j, j < N → defaultValue (ty0 j) = vp_V fs j) (hcs : cells + 1 ≤ R.cells) (hss : slots + N ≤ R.slots) (d : decode cc pc = .ok (.new idx, 3)) (kk : ∀ (q : Nat) (H : Heap), Bx D A H0 (ws ++ [(q, .inr (ci, fs))]) H locs → W p l e R s m args below meth c H locs (cells + 1) (slots + N) Q (F0 m (pc + 3) ls (.ref q :: rest))) : W p l e R s m args below meth c H locs cells slots Q (F0 m pc ls rest) :=
  va_new F.1.1 F.1.2.1 F.1.2.2.2.2 hin ty0 hty F.1.2.2.2.1 (F.1.2.2.2.2 _ hcl) (F.1.2.2.2.2 _ hins) (F.1.2.2.2.2 _ hini) F.2.1 B.1 B.2.1 B.2.2 hA hc hfs hcs hss d (fun q H1 hP hD hS => kk q H1 ⟨hP, hD, hS⟩)
theorem r_ci {S : Type} {post : S → Prop} {Y : S → va_W} {y : MethodName} {bytes : ByteArray} {maxL idx a nc ns : Nat} {rm : Room} {wc : va_W} (F : Fx p m c cc nL s args own D cI cB) (hA : ∀ q, H0.size ≤ q → A q) (B : Bx D A H0 ws H locs) (hq : CtI l y bytes maxL rm D cI cB a wc post Y nc ns) (hm : Cond.methodLink own idx y ∈ tb) (hi : Cond.instanceMethod y ∈ tb) (hini : Cond.initialized y.cls ∈ tb) (hco : Cond.code y bytes maxL none ∈ tb) (hyn : y.name = "<init>") (hd : y.cls ≠ "java/lang/invoke/MethodHandle" ∧ y.cls ≠ "java/lang/invoke/VarHandle" ∧ (parseMethodDescriptor y.desc).map (fun d => d.parameters.length) = some 0) (isC : List Nat) (hC : isC.map (fun i => ws[i]?) = wc.map some) (hnC : va_nd isC = true) (isR : List Nat) (wr : va_W) (hWr : isR.map (fun i => ws[i]?) = wr.map some) (hnd : va_nd isR = true) (hdis : ∀ i ∈ isR, i ∉ isC) (hR : (rm.cells = nc ∧ rm.slots = ns) ∧ rm.frames + 1 ≤ R.frames ∧ 8 + (maxL + 11) + rm.locals ≤ R.locals) (hcs : cells + nc ≤ R.cells ∧ slots + ns ≤ R.slots) (hl : ls.size = nL) (h8 : (rest.map fun v => v.category).sum ≤ 8) (d : decode cc pc = .ok (.invokespecial idx, 3)) (kk : ∀ (u : S) (H : Heap) (locs : List Loc), post u → Bx D A H0 (wr ++ Y u) H locs → W p l e R s m args below meth c H locs (cells + nc) (slots + ns) Q (F0 m (pc + 3) ls rest)) : W p l e R s m args below meth c H locs cells slots Q (F0 m pc ls (.ref a :: rest)) := by
  have hPc := va_P.sub B.1 isC (fm_some isC ws wc hC)
  have hDc : va_D (fun _ => True) wc := (va_D.sub B.2.1 isC hnC hC).weaken (fun _ _ _ _ => trivial)
  have hFc := va_free (wc := wc) B.2.1 B.2.2 hA isC hC
  refine va_callv (va_runI (As := []) (rest := rest) F.1 (hq H.size) (cwI 0 F.1.2.2.2.2 (tb_cons hco) rfl hR.1.1 hR.1.2 (F.1.2.2.2.2 _ hini) (F.1.2.2.2.2 _ hm) (F.1.2.2.2.2 _ hi) hyn hd hR.2) ⟨blindU, fun U hU hW => ⟨rfl, by rw [hU], by rw [hU]; exact hPc, F.2.warm hW, hDc⟩⟩ rfl rfl hl rfl (lv_room h8) d hcs) B.2.2 (fun q _ h => hFc q h) hFc (fun u t H1 locs1 ht hvm hx hB hz1 hk1 hS => ?_)
  obtain ⟨hP1, hD1⟩ := hB
  rw [ht] at hP1
  obtain ⟨hP', hD'⟩ := va_join (wr := wr) (w1 := Y u) B.1 B.2.1 isC isR hC hWr hnd hdis hk1 hFc hP1 hD1
  exact kk u H1 locs1 hx ⟨hP', hD', hS⟩
theorem r_ciN {S : Type} {post : S → Prop} {Y : S → va_W} {y : MethodName} {bytes : ByteArray} {maxL idx a nc ns : Nat} {rm : Room} {wc : va_W} (F : Fx p m c cc nL s args own D cI cB) (hA : ∀ q, H0.size ≤ q → A q) (B : Bx D A H0 ws H locs) (hq : CtI l y bytes maxL rm D cI cB a wc post Y nc ns) {host : String} (hm : Cond.methodLinkNest own idx y host ∈ nst) (hi : Cond.instanceMethod y ∈ tb) (hini : Cond.initialized y.cls ∈ tb) (hco : Cond.code y bytes maxL none ∈ tb) (hyn : y.name = "<init>") (hd : y.cls ≠ "java/lang/invoke/MethodHandle" ∧ y.cls ≠ "java/lang/invoke/VarHandle" ∧ (parseMethodDescriptor y.desc).map (fun d => d.parameters.length) = some 0) (isC : List Nat) (hC : isC.map (fun i => ws[i]?) = wc.map some) (hnC : va_nd isC = true) (isR : List Nat) (wr : va_W) (hWr : isR.map (fun i => ws[i]?) = wr.map some) (hnd : va_nd isR = true) (hdis : ∀ i ∈ isR, i ∉ isC) (hR : (rm.cells = nc ∧ rm.slots = ns) ∧ rm.frames + 1 ≤ R.frames ∧ 8 + (maxL + 11) + rm.locals ≤ R.locals) (hcs : cells + nc ≤ R.cells ∧ slots + ns ≤ R.slots) (hl : ls.size = nL) (h8 : (rest.map fun v => v.category).sum ≤ 8) (d : decode cc pc = .ok (.invokespecial idx, 3)) (kk : ∀ (u : S) (H : Heap) (locs : List Loc), post u → Bx D A H0 (wr ++ Y u) H locs → W p l e R s m args below meth c H locs (cells + nc) (slots + ns) Q (F0 m (pc + 3) ls rest)) : W p l e R s m args below meth c H locs cells slots Q (F0 m pc ls (.ref a :: rest)) := by
  have hPc := va_P.sub B.1 isC (fm_some isC ws wc hC)
  have hDc : va_D (fun _ => True) wc := (va_D.sub B.2.1 isC hnC hC).weaken (fun _ _ _ _ => trivial)
  have hFc := va_free (wc := wc) B.2.1 B.2.2 hA isC hC
  refine va_callv (va_runIN (As := []) (rest := rest) F.1 (hq H.size) ⟨va_cnB 0 F.1.2.2.2.2 (tb_cons hco) rfl hR.1.1 hR.1.2 (F.2.2 _ hm) (F.1.2.2.2.2 _ hini) hd hR.2, hyn, F.1.2.2.2.2 _ hi⟩ ⟨blindU, fun U hU hW => ⟨rfl, by rw [hU], by rw [hU]; exact hPc, F.2.warm hW, hDc⟩⟩ rfl rfl hl rfl (lv_room h8) d hcs) B.2.2 (fun q _ h => hFc q h) hFc (fun u t H1 locs1 ht hvm hx hB hz1 hk1 hS => ?_)
  obtain ⟨hP1, hD1⟩ := hB
  rw [ht] at hP1
  obtain ⟨hP', hD'⟩ := va_join (wr := wr) (w1 := Y u) B.1 B.2.1 isC isR hC hWr hnd hdis hk1 hFc hP1 hD1
  exact kk u H1 locs1 hx ⟨hP', hD', hS⟩
end RowsI
