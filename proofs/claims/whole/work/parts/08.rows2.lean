theorem range_some (l : va_W) : (List.range l.length).map (fun i => l[i]?) = l.map some := by
  apply List.ext_getElem?
  intro i
  by_cases h : i < l.length
  · simp [h]
  · simp [h]
section Rows2
variable {p : Program} {l : Launch} {e : Env} {R : Room} {s : State} {m : MethodId} {args : Array Value} {below : List Frame} {meth : Method} {c : Code} {H : Heap} {locs : List Loc} {cells slots : Nat} {Q : State → Prop}
variable {cc : ByteArray} {nL : Nat} {own : String} {pc : Nat} {ls : Array Slot} {rest : List Value} {D : va_G} {cI cB : ClassId} {A : Nat → Prop} {ws : va_W} {H0 : Heap}

/-- a call of a deed that has a part of the world -/
theorem r_cu {y : MethodName} {bytes : ByteArray} {maxL n idx ci a : Nat} {ret : Option FieldType} {rm : Room} {C : String} {T : u_T} {N : Nat} {fs : List Value} {As st0 : List Value} {wc wc' : va_W} {r : Int32} (F : Fx p m c cc nL s args own D cI cB) (hA : ∀ q, H0.size ≤ q → A q) (B : Bx D A H0 ws H locs) (hq : CtU l y bytes maxL ret rm D cI cB (.ref a :: As) wc wc' r) (gw : VW own idx C y bytes maxL ret n) (isC : List Nat) (hC : isC.map (fun i => ws[i]?) = wc.map some) (hnC : va_nd isC = true) (isR : List Nat) (wr : va_W) (hWr : isR.map (fun i => ws[i]?) = wr.map some) (hnd : va_nd isR = true) (hdis : ∀ i ∈ isR, i ∉ isC) (ps : List Nat) (ws' : va_W) (hps : ps.map (fun i => (wr ++ wc')[i]?) = ws'.map some) (hnp : va_nd ps = true) (hrv : wc[0]? = some (a, .inr (ci, fs))) (hci : vwCl[ci]? = some (C, T, N)) (hR : Rm R rm maxL) (hcs : cells ≤ R.cells ∧ slots ≤ R.slots) (hl : ls.size = nL) (hn : As.length = n) (rest : List Value) (hst : st0 = As.reverse ++ .ref a :: rest) (h8 : (rest.map fun v => v.category).sum ≤ 8) (d : decode cc pc = .ok (.invokevirtual idx, 3)) (kk : ∀ (H : Heap) (locs : List Loc), Bx D A H0 ws' H locs → W p l e R s m args below meth c H locs cells slots Q (F0 m (pc + 3) ls (.int r :: rest))) : W p l e R s m args below meth c H locs cells slots Q (F0 m pc ls st0) := by
  have hPc := va_P.sub B.1 isC (fm_some isC ws wc hC)
  have hDc : va_D (fun _ => True) wc := (va_D.sub B.2.1 isC hnC hC).weaken (fun _ _ _ _ => trivial)
  have hFc := va_free (wc := wc) B.2.1 B.2.2 hA isC hC
  refine va_calli (va_runV (As := As) (rest := rest) F.1 (hq H.size) (cwV n F.1.2.2.2.2 gw.1 rfl hR.1.1 hR.1.2 gw.2 hR.2) ⟨blindU, va_recv F.2.1 hPc hci hrv, fun U hU hW => ⟨rfl, by rw [hU], by rw [hU]; exact hPc, F.2.warm hW, hDc⟩⟩ rfl hn hl hst (lv_room h8) d ⟨hcs.1, hcs.2⟩) B.2.2 (fun q _ h => hFc q h) hFc (fun x u t H1 locs1 ht hvm hx hB hz1 hk1 hS => ?_)
  subst hx
  obtain ⟨hP1, hD1⟩ := hB
  rw [ht] at hP1
  obtain ⟨hP', hD'⟩ := va_join (wr := wr) (w1 := wc') B.1 B.2.1 isC isR hC hWr hnd hdis hk1 hFc hP1 hD1
  exact kk H1 locs1 ⟨va_P.sub hP' ps (fm_some ps _ ws' hps), va_D.sub hD' ps hnp hps, hS⟩
/-- a call of a deed that has the whole world -/
theorem r_cuW {y : MethodName} {bytes : ByteArray} {maxL n idx ci a : Nat} {ret : Option FieldType} {rm : Room} {C : String} {T : u_T} {N : Nat} {fs : List Value} {As st0 : List Value} {wc wc' : va_W} {r : Int32} (F : Fx p m c cc nL s args own D cI cB) (hA : ∀ q, H0.size ≤ q → A q) (B : Bx D A H0 wc H locs) (hq : CtU l y bytes maxL ret rm D cI cB (.ref a :: As) wc wc' r) (gw : VW own idx C y bytes maxL ret n) (hrv : wc[0]? = some (a, .inr (ci, fs))) (hci : vwCl[ci]? = some (C, T, N)) (hR : Rm R rm maxL) (hcs : cells ≤ R.cells ∧ slots ≤ R.slots) (hl : ls.size = nL) (hn : As.length = n) (rest : List Value) (hst : st0 = As.reverse ++ .ref a :: rest) (h8 : (rest.map fun v => v.category).sum ≤ 8) (d : decode cc pc = .ok (.invokevirtual idx, 3)) (kk : ∀ (H : Heap) (locs : List Loc), Bx D A H0 wc' H locs → W p l e R s m args below meth c H locs cells slots Q (F0 m (pc + 3) ls (.int r :: rest))) : W p l e R s m args below meth c H locs cells slots Q (F0 m pc ls st0) := by
  have hDc : va_D (fun _ => True) wc := B.2.1.weaken (fun _ _ _ _ => trivial)
  have hFc : ∀ q, va_A wc H.size q → A q := fun q h => by
    rcases h with ⟨k, e', h⟩ | h
    · exact B.2.1.2 k _ h
    · exact hA q (Nat.le_trans B.2.2.1 h)
  refine va_calli (va_runV (As := As) (rest := rest) F.1 (hq H.size) (cwV n F.1.2.2.2.2 gw.1 rfl hR.1.1 hR.1.2 gw.2 hR.2) ⟨blindU, va_recv F.2.1 B.1 hci hrv, fun U hU hW => ⟨rfl, by rw [hU], by rw [hU]; exact B.1, F.2.warm hW, hDc⟩⟩ rfl hn hl hst (lv_room h8) d ⟨hcs.1, hcs.2⟩) B.2.2 (fun q _ h => hFc q h) hFc (fun x u t H1 locs1 ht hvm hx hB hz1 hk1 hS => ?_)
  subst hx
  obtain ⟨hP1, hD1⟩ := hB
  rw [ht] at hP1
  exact kk H1 locs1 ⟨hP1, hD1.weaken (fun k q _ h => hFc q.1 h), hS⟩
/-- a call of a deed that has a part of the world -/
theorem r_cv {y : MethodName} {bytes : ByteArray} {maxL n idx ci a : Nat} {rm : Room} {C : String} {T : u_T} {N : Nat} {fs : List Value} {As st0 : List Value} {wc wc' : va_W}  (F : Fx p m c cc nL s args own D cI cB) (hA : ∀ q, H0.size ≤ q → A q) (B : Bx D A H0 ws H locs) (hq : CtV l y bytes maxL rm D cI cB (.ref a :: As) wc wc') (gw : VW own idx C y bytes maxL none n) (isC : List Nat) (hC : isC.map (fun i => ws[i]?) = wc.map some) (hnC : va_nd isC = true) (isR : List Nat) (wr : va_W) (hWr : isR.map (fun i => ws[i]?) = wr.map some) (hnd : va_nd isR = true) (hdis : ∀ i ∈ isR, i ∉ isC) (ps : List Nat) (ws' : va_W) (hps : ps.map (fun i => (wr ++ wc')[i]?) = ws'.map some) (hnp : va_nd ps = true) (hrv : wc[0]? = some (a, .inr (ci, fs))) (hci : vwCl[ci]? = some (C, T, N)) (hR : Rm R rm maxL) (hcs : cells ≤ R.cells ∧ slots ≤ R.slots) (hl : ls.size = nL) (hn : As.length = n) (rest : List Value) (hst : st0 = As.reverse ++ .ref a :: rest) (h8 : (rest.map fun v => v.category).sum ≤ 8) (d : decode cc pc = .ok (.invokevirtual idx, 3)) (kk : ∀ (H : Heap) (locs : List Loc), Bx D A H0 ws' H locs → W p l e R s m args below meth c H locs cells slots Q (F0 m (pc + 3) ls (rest))) : W p l e R s m args below meth c H locs cells slots Q (F0 m pc ls st0) := by
  have hPc := va_P.sub B.1 isC (fm_some isC ws wc hC)
  have hDc : va_D (fun _ => True) wc := (va_D.sub B.2.1 isC hnC hC).weaken (fun _ _ _ _ => trivial)
  have hFc := va_free (wc := wc) B.2.1 B.2.2 hA isC hC
  refine va_callv (va_runV (As := As) (rest := rest) F.1 (hq H.size) (cwV n F.1.2.2.2.2 gw.1 rfl hR.1.1 hR.1.2 gw.2 hR.2) ⟨blindU, va_recv F.2.1 hPc hci hrv, fun U hU hW => ⟨rfl, by rw [hU], by rw [hU]; exact hPc, F.2.warm hW, hDc⟩⟩ rfl hn hl hst (lv_room h8) d ⟨hcs.1, hcs.2⟩) B.2.2 (fun q _ h => hFc q h) hFc (fun u t H1 locs1 ht hvm hx hB hz1 hk1 hS => ?_)
  obtain ⟨hP1, hD1⟩ := hB
  rw [ht] at hP1
  obtain ⟨hP', hD'⟩ := va_join (wr := wr) (w1 := wc') B.1 B.2.1 isC isR hC hWr hnd hdis hk1 hFc hP1 hD1
  exact kk H1 locs1 ⟨va_P.sub hP' ps (fm_some ps _ ws' hps), va_D.sub hD' ps hnp hps, hS⟩
/-- a call of a deed that has the whole world -/
theorem r_cvW {y : MethodName} {bytes : ByteArray} {maxL n idx ci a : Nat} {rm : Room} {C : String} {T : u_T} {N : Nat} {fs : List Value} {As st0 : List Value} {wc wc' : va_W}  (F : Fx p m c cc nL s args own D cI cB) (hA : ∀ q, H0.size ≤ q → A q) (B : Bx D A H0 wc H locs) (hq : CtV l y bytes maxL rm D cI cB (.ref a :: As) wc wc') (gw : VW own idx C y bytes maxL none n) (hrv : wc[0]? = some (a, .inr (ci, fs))) (hci : vwCl[ci]? = some (C, T, N)) (hR : Rm R rm maxL) (hcs : cells ≤ R.cells ∧ slots ≤ R.slots) (hl : ls.size = nL) (hn : As.length = n) (rest : List Value) (hst : st0 = As.reverse ++ .ref a :: rest) (h8 : (rest.map fun v => v.category).sum ≤ 8) (d : decode cc pc = .ok (.invokevirtual idx, 3)) (kk : ∀ (H : Heap) (locs : List Loc), Bx D A H0 wc' H locs → W p l e R s m args below meth c H locs cells slots Q (F0 m (pc + 3) ls (rest))) : W p l e R s m args below meth c H locs cells slots Q (F0 m pc ls st0) := by
  have hDc : va_D (fun _ => True) wc := B.2.1.weaken (fun _ _ _ _ => trivial)
  have hFc : ∀ q, va_A wc H.size q → A q := fun q h => by
    rcases h with ⟨k, e', h⟩ | h
    · exact B.2.1.2 k _ h
    · exact hA q (Nat.le_trans B.2.2.1 h)
  refine va_callv (va_runV (As := As) (rest := rest) F.1 (hq H.size) (cwV n F.1.2.2.2.2 gw.1 rfl hR.1.1 hR.1.2 gw.2 hR.2) ⟨blindU, va_recv F.2.1 B.1 hci hrv, fun U hU hW => ⟨rfl, by rw [hU], by rw [hU]; exact B.1, F.2.warm hW, hDc⟩⟩ rfl hn hl hst (lv_room h8) d ⟨hcs.1, hcs.2⟩) B.2.2 (fun q _ h => hFc q h) hFc (fun u t H1 locs1 ht hvm hx hB hz1 hk1 hS => ?_)
  obtain ⟨hP1, hD1⟩ := hB
  rw [ht] at hP1
  exact kk H1 locs1 ⟨hP1, hD1.weaken (fun k q _ h => hFc q.1 h), hS⟩
/-- the words of a call of a static method of a nest mate -/
def NW (own : String) (idx : Nat) (y : MethodName) (host : String) (bytes : ByteArray) (maxL : Nat) (ret : Option FieldType) (n : Nat) : Prop :=
  Cond.methodLinkNest own idx y host ∈ nst ∧ Cond.static y ∈ tb ∧ Cond.initialized y.cls ∈ tb ∧ Cond.code y bytes maxL ret ∈ tb ∧ (y.cls ≠ "java/lang/invoke/MethodHandle" ∧ y.cls ≠ "java/lang/invoke/VarHandle" ∧ (parseMethodDescriptor y.desc).map (fun d => d.parameters.length) = some n)
theorem r_sqN {y : MethodName} {host : String} {bytes : ByteArray} {maxL n idx : Nat} {ret : Option FieldType} {rm : Room} {As st0 : List Value} {wc : va_W} {r : Int32} (F : Fx p m c cc nL s args own D cI cB) (P : va_P D vwCl ws H) (hq : CtQ l y bytes maxL ret rm D cI cB As wc r) (gw : NW own idx y host bytes maxL ret n) (is : List Nat) (his : is.map (fun i => ws[i]?) = wc.map some) (hR : Rm R rm maxL) (hcs : cells ≤ R.cells ∧ slots ≤ R.slots) (hl : ls.size = nL) (hn : As.length = n) (rest : List Value) (hst : st0 = As.reverse ++ rest) (h8 : (rest.map fun v => v.category).sum ≤ 8) (d : decode cc pc = .ok (.invokestatic idx, 3)) (kk : W p l e R s m args below meth c H locs cells slots Q (F0 m (pc + 3) ls (.int r :: rest))) : W p l e R s m args below meth c H locs cells slots Q (F0 m pc ls st0) := by
  have hPc := va_P.sub P is (fm_some is ws wc his)
  obtain ⟨g1, g2, g3, g4, g5⟩ := gw
  refine vp_callSi (va_Run.run (va_runSN (As := As) (rest := rest) F.1 hq ⟨va_cnB n F.1.2.2.2.2 (tb_cons g4) rfl hR.1.1 hR.1.2 (F.2.2 _ g1) (F.1.2.2.2.2 _ g3) g5 hR.2, F.1.2.2.2.2 _ g2, trivial⟩ ⟨blindQ, fun U hU hW => ⟨rfl, by rw [hU]; exact hPc, F.2.warm hW⟩⟩ rfl hn hl hst (lv_room h8) d ⟨hcs.1, hcs.2⟩)) (fun x hx => ?_)
  subst hx
  exact kk
theorem w_max : Cond.static Lib.Math.max.name ∈ tb ∧ Cond.initialized "java/lang/Math" ∈ tb ∧ Cond.code Lib.Math.max.name Lib.Math.max.code 2 (some .int) ∈ tb := ⟨tb_of (by decide +kernel) rfl, tb_of (by decide +kernel) rfl, tb_of (by decide +kernel) rfl⟩
theorem w_min : Cond.static Lib.Math.min.name ∈ tb ∧ Cond.initialized "java/lang/Math" ∈ tb ∧ Cond.code Lib.Math.min.name Lib.Math.min.code 2 (some .int) ∈ tb := ⟨tb_of (by decide +kernel) rfl, tb_of (by decide +kernel) rfl, tb_of (by decide +kernel) rfl⟩
theorem r_max {a b : Int} {idx : Nat} (F : Fx p m c cc nL s args own D cI cB) (hm : Cond.methodLink own idx Lib.Math.max.name ∈ tb) (hl : ls.size = nL) (h1 : 1 ≤ R.frames) (h2 : (rest.map fun v => v.category).sum + 13 ≤ R.locals) (hcs : cells ≤ R.cells ∧ slots ≤ R.slots) (hr : (-2147483648 ≤ a ∧ a < 2147483648) ∧ -2147483648 ≤ b ∧ b < 2147483648) (d : decode cc pc = .ok (.invokestatic idx, 3)) (kk : W p l e R s m args below meth c H locs cells slots Q (F0 m (pc + 3) ls (.int (iI (max a b)) :: rest))) : W p l e R s m args below meth c H locs cells slots Q (F0 m pc ls (.int (iI b) :: .int (iI a) :: rest)) := by
  refine va_mmax F.1.1 F.1.2.1 (F.1.2.2.1.trans hl.symm) F.1.2.2.2.1 (F.1.2.2.2.2 _ hm) (F.1.2.2.2.2 _ w_max.1) (F.1.2.2.2.2 _ w_max.2.1) (F.1.2.2.2.2 _ w_max.2.2) h1 h2 hcs.1 hcs.2 d ?_
  have e : (if iI a < iI b then iI b else iI a) = iI (max a b) := by
    by_cases h : a < b
    · rw [if_pos ((iI_lt hr.1 hr.2).mpr h), Int.max_eq_right (by omega)]
    · rw [if_neg (fun z => h ((iI_lt hr.1 hr.2).mp z)), Int.max_eq_left (by omega)]
  rw [e]
  exact kk
theorem r_min {a b : Int} {idx : Nat} (F : Fx p m c cc nL s args own D cI cB) (hm : Cond.methodLink own idx Lib.Math.min.name ∈ tb) (hl : ls.size = nL) (h1 : 1 ≤ R.frames) (h2 : (rest.map fun v => v.category).sum + 13 ≤ R.locals) (hcs : cells ≤ R.cells ∧ slots ≤ R.slots) (hr : (-2147483648 ≤ a ∧ a < 2147483648) ∧ -2147483648 ≤ b ∧ b < 2147483648) (d : decode cc pc = .ok (.invokestatic idx, 3)) (kk : W p l e R s m args below meth c H locs cells slots Q (F0 m (pc + 3) ls (.int (iI (min a b)) :: rest))) : W p l e R s m args below meth c H locs cells slots Q (F0 m pc ls (.int (iI b) :: .int (iI a) :: rest)) := by
  refine va_mmin F.1.1 F.1.2.1 (F.1.2.2.1.trans hl.symm) F.1.2.2.2.1 (F.1.2.2.2.2 _ hm) (F.1.2.2.2.2 _ w_min.1) (F.1.2.2.2.2 _ w_min.2.1) (F.1.2.2.2.2 _ w_min.2.2) h1 h2 hcs.1 hcs.2 d ?_
  have e : (if iI b < iI a then iI b else iI a) = iI (min a b) := by
    by_cases h : b < a
    · rw [if_pos ((iI_lt hr.2 hr.1).mpr h), Int.min_eq_right (by omega)]
    · rw [if_neg (fun z => h ((iI_lt hr.2 hr.1).mp z)), Int.min_eq_left (by omega)]
  first | (rw [e]; exact kk) | (rw [← e] at kk; first | exact kk | (simpa using kk))
def cpN (f g : Nat → Nat) (n : Nat) : Nat → Nat := fun k => if k < n then f k else g k
theorem cpy_aI (f g : Nat → Nat) (n : Nat) : va_cpy (fun j => iI (f j : Int)) (fun j => iI (g j : Int)) 0 0 n = fun j => iI (cpN f g n j : Int) := by
  funext j
  unfold va_cpy cpN
  by_cases h : j < n
  · simp [h]
  · simp [h]
theorem w_cpy : Cond.native arraycopyName ∈ tb ∧ Cond.static arraycopyName ∈ tb ∧ Cond.initialized "java/lang/System" ∈ tb := ⟨tb_of (by decide +kernel) rfl, tb_of (by decide +kernel) rfl, tb_of (by decide +kernel) rfl⟩
theorem r_cpy {a0 a1 n0 n1 n idx : Nat} {f g : Nat → Nat} (F : Fx p m c cc nL s args own D cI cB) (hm : Cond.methodLink own idx arraycopyName ∈ tb) (hl : ls.size = nL) (h1 : 1 ≤ R.frames) (h2 : (rest.map fun v => v.category).sum + (nativeFrameWords "java/lang/System" "arraycopy" 5 + 11) ≤ R.locals) (B : Bx D A H0 ws H locs) (q0 q1 : Nat) (ws' : va_W) (ha0 : ws[q0]? = some (a0, aI cI n0 f)) (ha1 : ws[q1]? = some (a1, aI cI n1 g)) (hn0 : n ≤ n0) (hn1 : n ≤ n1) (hn : n < 2147483648) (hw : ws.set q1 (a1, aI cI n1 (cpN f g n)) = ws') (d : decode cc pc = .ok (.invokestatic idx, 3)) (kk : ∀ (H : Heap) (locs : List Loc), Bx D A H0 ws' H locs → W p l e R s m args below meth c H locs cells slots Q (F0 m (pc + 3) ls rest)) : W p l e R s m args below meth c H locs cells slots Q (F0 m pc ls (.int (iI (n : Int)) :: .int (iI ((0 : Nat) : Int)) :: .ref a1 :: .int (iI ((0 : Nat) : Int)) :: .ref a0 :: rest)) := by
  have z0 : (iI ((0 : Nat) : Int)).toNatClampNeg = 0 := by decide
  have zn : (iI (n : Int)).toNatClampNeg = n := iI_clamp hn
  have p0 : ¬ iI ((0 : Nat) : Int) < 0 := by decide
  have pn : ¬ iI (n : Int) < 0 := by rw [← iI_0, iI_lt (by omega) (by omega)]; omega
  refine va_copyi F.1.1 F.1.2.1 (F.1.2.2.1.trans hl.symm) F.1.2.2.2.1 (F.1.2.2.2.2 _ hm) (F.1.2.2.2.2 _ w_cpy.1) (F.1.2.2.2.2 _ w_cpy.2.1) (F.1.2.2.2.2 _ w_cpy.2.2) F.2.1 B.1 B.2.1 B.2.2 q0 q1 0 0 ha0 ha1 rfl rfl rfl p0 p0 pn (by rw [z0, zn]; omega) (by rw [z0, zn]; omega) (fun _ _ => rfl) h1 h2 d (fun H1 locs1 hP hD hS => ?_)
  rw [z0, zn, cpy_aI, hw] at hP hD
  exact kk H1 locs1 ⟨hP, hD, hS⟩
theorem r_tin {z dflt lo hi off : Int} {offs : Array Int} {len : Nat} (tgt : Nat) (F : Fx p m c cc nL s args own D cI cB) (d : decode cc pc = .ok (.tableswitch dflt lo hi offs, len)) (hz : -2147483648 ≤ z ∧ z < 2147483648) (h1 : ¬ z < lo) (h2 : ¬ hi < z) (ho : offs[(z - lo).toNat]? = some off) (ht : (pc : Int) + off = (tgt : Int)) (kk : W p l e R s m args below meth c H locs cells slots Q (F0 m tgt ls rest)) : W p l e R s m args below meth c H locs cells slots Q (F0 m pc ls (.int (iI z) :: rest)) :=
  lv_tableIn F.1.1 F.1.2.1 d (by rw [iI_toInt hz]; exact h1) (by rw [iI_toInt hz]; exact h2) (by rw [iI_toInt hz]; exact ho) ht kk
theorem r_tout {z dflt lo hi : Int} {offs : Array Int} {len : Nat} (tgt : Nat) (F : Fx p m c cc nL s args own D cI cB) (d : decode cc pc = .ok (.tableswitch dflt lo hi offs, len)) (hz : -2147483648 ≤ z ∧ z < 2147483648) (h : z < lo ∨ hi < z) (ht : (pc : Int) + dflt = (tgt : Int)) (kk : W p l e R s m args below meth c H locs cells slots Q (F0 m tgt ls rest)) : W p l e R s m args below meth c H locs cells slots Q (F0 m pc ls (.int (iI z) :: rest)) :=
  lv_tableOut F.1.1 F.1.2.1 d (by rw [iI_toInt hz]; exact h) ht kk
end Rows2
