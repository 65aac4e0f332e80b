-- ===== what holds between two calls
def Pg (P : St) (t : Nat → Nat) (n : Nat) : Prop := P 1 0 ≤ 300 ∧ (∀ k, P 0 k < 256) ∧ (∀ k, P 3 k < 1000) ∧ P 0 = t ∧ P 1 0 = n
def Sb (S : St) : Prop := (∀ k, S 1 k < 65536) ∧ ∀ k, S 2 k < 65536
def Sk (S : St) : Prop := S 0 0 ≤ 9999 ∧ Sb S
def Ow (O : St) : Prop := (∀ k, O 8 k < 32) ∧ O 9 0 ≤ 10 ∧ O 7 0 ≤ 2 ∧ (∀ k, O 10 k < 4096) ∧ ∀ k, O 11 k < 4096
def lt6 (f : Nat → Nat) : Prop := ∀ k, f k < 65536
def Inv (X : Nat → St) (M : St) : Prop :=
  (Tok (X 2) ∧ 1 ≤ X 2 0 0 ∧ Tok (X 3)) ∧ Pg (X 1) (M 0) (M 1 0) ∧ (Sk (X 4) ∧ Sb (X 5) ∧ Sk (X 6) ∧ Sk (X 7)) ∧ Ow (X 0) ∧
  (Dbd (M 2) ∧ (∀ k, M 3 k < 256) ∧ lt6 (M 4) ∧ lt6 (M 5) ∧ lt6 (M 6) ∧ (∀ k, M 8 k < 41) ∧ (∀ k, M 9 k < 256) ∧ (∀ k, M 10 k < 32) ∧ ∀ k, M 13 k < 1000) ∧
  RT (X 2) (M 2) ∧ RX X (M 4) ∧ RK (X 2 0 0) (M 7 0) (X 6) (X 7) (M 6) ∧ X 0 7 0 = M 7 0 ∧ X 0 9 0 = M 11 0 ∧ RD (M 2) (M 8) (M 9) (M 11 0) (X 0 8)
section InvP
variable {X : Nat → St} {M : St}
theorem Inv.T (h : Inv X M) : Tok (X 2) := h.1.1
theorem Inv.p (h : Inv X M) : 1 ≤ X 2 0 0 := h.1.2.1
theorem Inv.p5 (h : Inv X M) : X 2 0 0 ≤ 5 := h.1.1.1.1
theorem Inv.Td (h : Inv X M) : Tok (X 3) := h.1.2.2
theorem Inv.gl (h : Inv X M) : X 1 1 0 ≤ 300 := h.2.1.1
theorem Inv.gb (h : Inv X M) : ∀ k, X 1 0 k < 256 := h.2.1.2.1
theorem Inv.gn (h : Inv X M) : ∀ k, X 1 3 k < 1000 := h.2.1.2.2.1
theorem Inv.tx (h : Inv X M) : X 1 0 = M 0 := h.2.1.2.2.2.1
theorem Inv.tl (h : Inv X M) : X 1 1 0 = M 1 0 := h.2.1.2.2.2.2
theorem Inv.s4 (h : Inv X M) : Sk (X 4) := h.2.2.1.1
theorem Inv.s5 (h : Inv X M) : Sb (X 5) := h.2.2.1.2.1
theorem Inv.s6 (h : Inv X M) : Sk (X 6) := h.2.2.1.2.2.1
theorem Inv.s7 (h : Inv X M) : Sk (X 7) := h.2.2.1.2.2.2
theorem Inv.ow (h : Inv X M) : Ow (X 0) := h.2.2.2.1
theorem Inv.bk (h : Inv X M) : Dbd (M 2) := h.2.2.2.2.1.1
theorem Inv.m3 (h : Inv X M) : ∀ k, M 3 k < 256 := h.2.2.2.2.1.2.1
theorem Inv.m4 (h : Inv X M) : ∀ k, M 4 k < 65536 := h.2.2.2.2.1.2.2.1
theorem Inv.m5 (h : Inv X M) : ∀ k, M 5 k < 65536 := h.2.2.2.2.1.2.2.2.1
theorem Inv.m6 (h : Inv X M) : ∀ k, M 6 k < 65536 := h.2.2.2.2.1.2.2.2.2.1
theorem Inv.m8 (h : Inv X M) : ∀ k, M 8 k < 41 := h.2.2.2.2.1.2.2.2.2.2.1
theorem Inv.m9 (h : Inv X M) : ∀ k, M 9 k < 256 := h.2.2.2.2.1.2.2.2.2.2.2.1
theorem Inv.m10 (h : Inv X M) : ∀ k, M 10 k < 32 := h.2.2.2.2.1.2.2.2.2.2.2.2.1
theorem Inv.m13 (h : Inv X M) : ∀ k, M 13 k < 1000 := h.2.2.2.2.1.2.2.2.2.2.2.2.2
theorem Inv.rt (h : Inv X M) : RT (X 2) (M 2) := h.2.2.2.2.2.1
theorem Inv.rx (h : Inv X M) : RX X (M 4) := h.2.2.2.2.2.2.1
theorem Inv.rk (h : Inv X M) : RK (X 2 0 0) (M 7 0) (X 6) (X 7) (M 6) := h.2.2.2.2.2.2.2.1
theorem Inv.e7 (h : Inv X M) : X 0 7 0 = M 7 0 := h.2.2.2.2.2.2.2.2.1
theorem Inv.e9 (h : Inv X M) : X 0 9 0 = M 11 0 := h.2.2.2.2.2.2.2.2.2.1
theorem Inv.rd (h : Inv X M) : RD (M 2) (M 8) (M 9) (M 11 0) (X 0 8) := h.2.2.2.2.2.2.2.2.2.2
theorem Inv.bk2 (h : Inv X M) : ∀ k, M 2 k < 256 := h.bk.lt
theorem Inv.hp (h : Inv X M) : 1 ≤ M 2 0 ∧ M 2 0 ≤ 5 := by have a := h.rt.1.1; have b := h.p; have c := h.p5; omega
theorem Inv.ht (h : Inv X M) : M 2 1 ≤ 4 := by have a := h.rt.1.2.1; have b := h.T.1.2.1; omega
theorem Inv.hst (h : Inv X M) : ∀ k, 32 ≤ k → k < 64 → M 2 k < 6 := fun k h1 h2 => by have a := h.bk k; rw [bd_st6 ⟨h1, h2⟩] at a; exact a
theorem Inv.hln (h : Inv X M) : M 2 3 ≤ 8 ∧ ∀ k, 28 ≤ k → k < 32 → M 2 k ≤ 8 := ⟨Nat.le_of_lt_succ (h.bk 3), fun k h1 h2 => by have a := h.bk k; rw [bd_ln ⟨h1, h2⟩] at a; omega⟩
theorem Inv.hpr (h : Inv X M) : M 2 2 ≤ 8 ∧ ∀ k, 64 ≤ k → k < 80 → M 2 k < 16 := ⟨by have a := h.rt.1.2.2.1; have b := h.T.1.2.2.2.1; omega, fun k h1 h2 => by have a := h.bk k; rw [bd_pr ⟨h1, h2⟩] at a; exact a⟩
theorem Inv.s40 (h : Inv X M) : M 4 0 ≤ 9999 := by have a := h.rx.1; have b := h.s4.1; omega
theorem Inv.l7 (h : Inv X M) : M 7 0 ≤ 2 := by have a := h.e7; have b := h.ow.2.2.1; omega
theorem Inv.l11 (h : Inv X M) : M 11 0 ≤ 10 := by have a := h.e9; have b := h.ow.2.1; omega
theorem Inv.ml (h : Inv X M) : M 1 0 ≤ 300 := by have a := h.tl; have b := h.gl; omega
theorem Inv.mt (h : Inv X M) : ∀ k, M 0 k < 256 := by rw [← h.tx]; exact h.gb
end InvP
-- ===== each call keeps it, and answers alike
section InvS
variable {X : Nat → St} {M : St}
theorem inv_write (h : Inv X M) (n : Int) (v : Int64) : g_write (X 1 0) (X 1 1 0) n v = g_write (M 0) (M 1 0) n v ∧ Inv (xR X 1 (stR (stR (X 1) 0 (g_writeT (X 1 0) (X 1 1 0) n v)) 1 (fun _ => g_writeL (X 1 0) (X 1 1 0) n v))) (stR (stR M 0 (g_writeT (M 0) (M 1 0) n v)) 1 (fun _ => g_writeL (M 0) (M 1 0) n v)) := by
  have e1 := h.tx
  have e2 := h.tl
  refine ⟨by rw [e1, e2], h.1, ⟨writeL_le h.gb h.gl, writeT_lt h.gb, h.gn, ?_, ?_⟩, h.2.2⟩
  · show g_writeT (X 1 0) (X 1 1 0) n v = g_writeT (M 0) (M 1 0) n v; rw [e1, e2]
  · show g_writeL (X 1 0) (X 1 1 0) n v = g_writeL (M 0) (M 1 0) n v; rw [e1, e2]
theorem inv_wipe (h : Inv X M) : X 1 1 0 = M 1 0 ∧ Inv (xR X 1 (stR (X 1) 1 (fun _ => 0))) (stR M 1 (fun _ => 0)) :=
  ⟨h.tl, h.1, ⟨Nat.zero_le _, h.gb, h.gn, h.tx, rfl⟩, h.2.2⟩
theorem inv_fault (h : Inv X M) : (cRo X).1 = (reR M).1 ∧ Inv (xR (xR X 1 (stR (stR (X 1) 2 (fun _ => (cRo X).2.1)) 3 (cRo X).2.2.1)) 3 (cRo X).2.2.2) (stR (stR (stR M 12 (fun _ => (reR M).2.1)) 13 (reR M).2.2.1) 3 (reR M).2.2.2) := by
  have hr := read_rel (n := X 1 1 0) h.gb h.gl h.m13 h.gn h.m3 h.Td
  rw [h.tx, h.tl] at hr
  have ho := ro_ok (n := X 1 1 0) h.gb h.gn h.Td
  have hm := re_ok h.m13 h.m3
  refine ⟨by show (sp_ro (X 1 0) (X 1 1 0) (X 1 3) (X 3)).1 = _; rw [h.tx, h.tl]; exact hr.1, ⟨h.T, h.p, ho.2.2.2⟩, ⟨h.gl, h.gb, ho.2.2.1, h.tx, h.tl⟩, h.2.2.1, h.ow, ⟨h.bk, hm.2.2.2.2, h.m4, h.m5, h.m6, h.m8, h.m9, h.m10, hm.2.2.1⟩, h.2.2.2.2.2⟩
theorem seeN_ok {i f : Int} (h : Sk (X 4)) : Sk (c_seeN X i f) := by
  unfold c_seeN
  split
  · rename_i c; exact ⟨h.1, upN_lt h.2.1 (or16 (h.2.1 _) (vSee_f c)), h.2.2⟩
  · exact h
theorem noteN_ok {i f : Int} (h : Sk (X 4)) : Sk (c_noteN X i f) := by
  unfold c_noteN
  split
  · rename_i c
    split
    · exact h
    · exact ⟨h.1, h.2.1, upN_lt h.2.2 (or16 (h.2.2 _) (vSee_f c))⟩
  · exact h
theorem shiftsN_ok {n : Int} (h : Sk (X 4)) : Sk (c_shiftsN X n) := by
  unfold c_shiftsN
  split
  · rename_i c
    unfold vShC at c
    rw [Bool.and_eq_true] at c
    have c2 := of_decide_eq_true c.2
    have he := es_all (p := X 2 0 0) (N := X 2 10 0) (k := n.toNat) (n := X 4 0 0) h.2.1 h.2.2
    exact ⟨by show (cEs X n.toNat).1 ≤ 9999; rw [he.1]; exact c2, he.2.1, he.2.2⟩
  · exact h
theorem ctr_ok {n : Nat} (h : Sk (X 4)) (h5 : Sb (X 5)) : Sb (cTr X n) :=
  (es_all (p := X 2 0 0) (N := X 2 10 0) (k := n) (n := X 4 0 0) (cpN_lt (n := 10) h.2.1 h5.1) (cpN_lt (n := 5) h.2.2 h5.2)).2
theorem inv_see (h : Inv X M) (i f : Int) : c_see X i f = g_see (M 2) (M 4) i f ∧ Inv (xR X 4 (c_seeN X i f)) (stR M 4 (g_seeS (M 2) (M 4) i f)) := by
  obtain ⟨a, b⟩ := see_rel h.rt h.p5 h.rx i f
  exact ⟨a, h.1, h.2.1, ⟨seeN_ok h.s4, h.s5, h.s6, h.s7⟩, h.ow, ⟨h.bk, h.m3, seeS_lt h.m4, h.m5, h.m6, h.m8, h.m9, h.m10, h.m13⟩, h.rt, b, h.rk, h.e7, h.e9, h.rd⟩
theorem inv_note (h : Inv X M) (i f : Int) : c_note X i f = g_note (M 2) (M 4) i f ∧ Inv (xR X 4 (c_noteN X i f)) (stR M 4 (g_noteS (M 2) (M 4) i f)) := by
  obtain ⟨a, b⟩ := note_rel h.rt h.p5 h.rx i f
  exact ⟨a, h.1, h.2.1, ⟨noteN_ok h.s4, h.s5, h.s6, h.s7⟩, h.ow, ⟨h.bk, h.m3, noteS_lt h.m4, h.m5, h.m6, h.m8, h.m9, h.m10, h.m13⟩, h.rt, b, h.rk, h.e7, h.e9, h.rd⟩
theorem inv_shifts (h : Inv X M) (n : Int) : c_shifts X n = g_shifts (M 2) (M 4) (M 5) n ∧ Inv (xR X 4 (c_shiftsN X n)) (stR (stR M 4 (g_shiftsS (M 2) (M 4) (M 5) n)) 5 (g_shiftsA (M 2) (M 4) (M 5) n)) := by
  obtain ⟨a, b⟩ := shifts_rel (f := M 5) h.rt h.p5 h.rx n
  exact ⟨a, h.1, h.2.1, ⟨shiftsN_ok h.s4, h.s5, h.s6, h.s7⟩, h.ow, ⟨h.bk, h.m3, shiftsS_lt h.m4 h.m5, shiftsA_lt h.m4 h.m5, h.m6, h.m8, h.m9, h.m10, h.m13⟩, h.rt, b, h.rk, h.e7, h.e9, h.rd⟩
theorem inv_tr (h : Inv X M) {S : St} {f : Nat → Nat} (hS : Sb S) (hf : ∀ k, f k < 65536) : Inv (xR X 5 S) (stR M 5 f) :=
  ⟨h.1, h.2.1, ⟨h.s4, hS, h.s6, h.s7⟩, h.ow, ⟨h.bk, h.m3, h.m4, hf, h.m6, h.m8, h.m9, h.m10, h.m13⟩, h.rt, h.rx, h.rk, h.e7, h.e9, h.rd⟩
theorem knowsR_ok {n i d : Int} (h : Inv X M) : Sb (c_knowsR X n i d) := by
  unfold c_knowsR
  split
  · exact ctr_ok h.s4 h.s5
  · exact h.s5
theorem couldR_ok {n x : Int} (h : Inv X M) : Sb (c_couldR X n x) := by
  unfold c_couldR
  split
  · exact ctr_ok h.s4 h.s5
  · exact h.s5
theorem caF_lt {p N i : Nat} : ∀ m n x (f g : Nat → Nat), (∀ k, f k < 65536) → (∀ k, g k < 65536) → (∀ k, (caF p N i m n x f g).2.2.1 k < 65536) ∧ ∀ k, (caF p N i m n x f g).2.2.2 k < 65536
  | 0, n, x, f, g, hf, hg => ⟨hf, hg⟩
  | m + 1, n, x, f, g, hf, hg => by
    have he := es_all (p := p) (N := N) (k := 1) (n := x) hf hg
    unfold caF
    split
    · exact ⟨hf, hg⟩
    · exact caF_lt m (n + 1) _ _ _ he.2.1 he.2.2
theorem alikeR_ok {i : Int} (h : Inv X M) : Sb (c_alikeR X i) := by
  unfold c_alikeR
  split
  · exact caF_lt 41 0 _ _ _ (cpN_lt (n := 10) h.s4.2.1 h.s5.1) (cpN_lt (n := 5) h.s4.2.2 h.s5.2)
  · exact h.s5
theorem cmR2_lt {z n : Nat} (h : Sk (X 4)) (h5 : Sb (X 5)) : (∀ k, (cmR2 X z n).2.1 k < 65536) ∧ ∀ k, (cmR2 X z n).2.2 k < 65536 :=
  lpR_inv (P := fun (a : Nat × (Nat → Nat) × (Nat → Nat)) => (∀ k, a.2.1 k < 65536) ∧ ∀ k, a.2.2 k < 65536) (f := cmnB (X 2 0 0) (X 2 10 0) z) (fun k a ha => (es_all (p := X 2 0 0) (N := X 2 10 0) (k := 1) (n := a.1) (upN_lt ha.1 (or16 (ha.1 _) (pw16 (Nat.lt_of_lt_of_le (Nat.mod_lt _ (by decide)) (by decide))))) ha.2).2) ⟨cpN_lt (n := 10) h.2.1 h5.1, cpN_lt (n := 5) h.2.2 h5.2⟩
theorem monthR_ok {z n i d : Int} (h : Inv X M) : Sb (c_monthR X z n i d) := by
  unfold c_monthR
  split
  · exact cmR2_lt h.s4 h.s5
  · exact h.s5
theorem inv_knows (h : Inv X M) (n i d : Int) : c_knows X n i d = g_knows (M 2) (M 4) (M 5) n i d ∧ Inv (xR X 5 (c_knowsR X n i d)) (stR M 5 (g_knowsA (M 2) (M 4) (M 5) n i d)) :=
  ⟨knows_rel h.rt h.p5 h.rx n i d, inv_tr h (knowsR_ok h) (knowsA_lt h.s40 h.m4 h.m5)⟩
theorem inv_could (h : Inv X M) (n x : Int) : c_could X n x = g_could (M 2) (M 4) (M 5) n x ∧ Inv (xR X 5 (c_couldR X n x)) (stR M 5 (g_couldA (M 2) (M 4) (M 5) n x)) :=
  ⟨could_rel h.rt h.p5 h.rx n x, inv_tr h (couldR_ok h) (couldA_lt h.s40 h.m4 h.m5)⟩
theorem inv_alike (h : Inv X M) (i : Int) : c_alike X i = g_alike (M 2) (M 4) (M 5) i ∧ Inv (xR X 5 (c_alikeR X i)) (stR M 5 (g_alikeA (M 2) (M 4) (M 5) i)) :=
  ⟨alike_rel h.rt h.p5 h.rx i, inv_tr h (alikeR_ok h) (alikeA_lt h.s40 h.m4 h.m5)⟩
theorem inv_month (h : Inv X M) (z n i d : Int) : c_month X z n i d = g_month (M 2) (M 4) (M 5) z n i d ∧ Inv (xR X 5 (c_monthR X z n i d)) (stR M 5 (g_monthA (M 2) (M 4) (M 5) z n i d)) :=
  ⟨month_rel h.rt h.p5 h.p h.rx z n i d, inv_tr h (monthR_ok h) (monthA_lt h.s40 h.m4 h.m5)⟩
theorem inv_rests (h : Inv X M) (w : Int) : c_rests X w = g_rests (M 2) w ∧ Inv (xR X 0 (c_restsO X w)) M := by
  refine ⟨rests_rel h.rt w, ?_⟩
  unfold c_restsO
  split
  · have hm := fm_lt h.T h.ow.2.2.2.1 h.ow.2.2.2.2
    exact ⟨h.1, h.2.1, h.2.2.1, ⟨h.ow.1, h.ow.2.1, h.ow.2.2.1, hm.1, hm.2⟩, h.2.2.2.2.1, h.rt, h.rx, h.rk, h.e7, h.e9, h.rd⟩
  · exact ⟨h.1, h.2.1, h.2.2.1, h.ow, h.2.2.2.2.1, h.rt, h.rx, h.rk, h.e7, h.e9, h.rd⟩
theorem inv_forget (h : Inv X M) : X 0 9 0 = M 11 0 ∧ Inv (xR X 0 (stR (X 0) 9 (fun _ => 0))) (stR M 11 (fun _ => 0)) :=
  ⟨h.e9, h.1, h.2.1, h.2.2.1, ⟨h.ow.1, Nat.zero_le _, h.ow.2.2⟩, h.2.2.2.2.1, h.rt, h.rx, h.rk, h.e7, rfl, fun k hk => absurd hk (Nat.not_lt_zero k)⟩
theorem seenO_ok {t f : Int} (h : Inv X M) : Ow (c_seenO X t f) := by
  unfold c_seenO
  split
  · split
    · rename_i c
      exact ⟨upN_lt h.ow.1 (able_lt h.p5), c, h.ow.2.2⟩
    · exact h.ow
  · exact h.ow
theorem seenR_ok {t f : Int} (h : Inv X M) : Sb (c_seenR X t f) := by
  unfold c_seenR
  split
  · split
    · exact (es_all (p := X 2 0 0) (N := X 2 10 0) (k := t.toNat) (n := 0) (cpN_lt (n := 10) (fun k => Nat.lt_trans (h.T.2.2.1 k) (by decide)) h.s5.1) (clr5_lt h.s5.2)).2
    · exact h.s5
  · exact h.s5
theorem seenO_7 {t f : Int} : c_seenO X t f 7 0 = X 0 7 0 := by
  unfold c_seenO
  split
  · split <;> rfl
  · rfl
theorem inv_seen (h : Inv X M) (t f : Int) : c_seen X t f = g_seen M t f ∧ Inv (xR (xR X 0 (c_seenO X t f)) 5 (c_seenR X t f)) (stR (stR (stR M 8 (g_seenT M t f)) 9 (g_seenF M t f)) 11 (fun _ => g_seenD M t f)) := by
  obtain ⟨a, b, c⟩ := seen_rd h.rt h.p5 h.e9 h.rd h.l11 t f
  exact ⟨a, h.1, h.2.1, ⟨h.s4, seenR_ok h, h.s6, h.s7⟩, seenO_ok h, ⟨h.bk, h.m3, h.m4, h.m5, h.m6, seenT_lt h.m8, seenF_lt h.m9, h.m10, h.m13⟩, h.rt, h.rx, h.rk, seenO_7.trans h.e7, b, c⟩
theorem fin_rel (h : Inv X M) : ∀ k, k < M 11 0 → (finR M).1 k = X 0 8 k := finds_rel h.rd
theorem inv_fin (h : Inv X M) : Inv X (stR (stR M 10 (finR M).1) 5 (finR M).2) := by
  have hf := finds_lt (df := M 9) (n := M 11 0) h.hp.2 h.bk2 h.m8 h.m10 h.m5
  exact ⟨h.1, h.2.1, h.2.2.1, h.ow, ⟨h.bk, h.m3, h.m4, hf.2, h.m6, h.m8, h.m9, hf.1, h.m13⟩, h.rt, h.rx, h.rk, h.e7, h.e9, h.rd⟩
theorem inv_fits (h : Inv X M) : sp_fits (X 2 0 0) (X 0 9 0) (X 0 8) = sp_fits (M 2 0) (M 11 0) (finR M).1 := by
  rw [h.e9, ← h.rt.1.1]
  exact (fits_eq (fin_rel h)).symm
theorem inv_least (h : Inv X M) : c_least X = sp_least (M 2 0) (M 11 0) (finR M).1 := by
  rw [h.rt.1.1]
  exact least_rel h.e9 (fin_rel h)
theorem cpS_ok {A B : St} (hA : Sk A) (hB : Sk B) : Sk (cpS A B) := ⟨hA.1, cpN_lt (n := 10) hA.2.1 hB.2.1, cpN_lt (n := 5) hA.2.2 hB.2.2⟩
theorem keep6_ok (h : Inv X M) : Sk (c_keep6 X) := by
  unfold c_keep6
  split
  · split
    · exact cpS_ok h.s4 h.s6
    · exact h.s6
  · exact h.s6
theorem keep7_ok (h : Inv X M) : Sk (c_keep7 X) := by
  unfold c_keep7
  split
  · split
    · exact h.s7
    · exact cpS_ok h.s4 h.s7
  · exact h.s7
theorem back4_ok (h : Inv X M) : Sk (c_back4 X) := by
  unfold c_back4
  split
  · split
    · exact cpS_ok h.s6 h.s4
    · exact cpS_ok h.s7 h.s4
  · exact h.s4
theorem inv_keep (h : Inv X M) : c_keep X = g_keep M ∧ Inv (xR (xR (xR X 0 (stR (X 0) 7 (fun _ => c_keepN X))) 6 (c_keep6 X)) 7 (c_keep7 X)) (stR (stR M 7 (fun _ => g_keepN M)) 6 (g_keepK M)) := by
  obtain ⟨a, b, c⟩ := keep_rel h.p5 h.rx h.e7 h.l7 h.rk
  have hn : c_keepN X ≤ 2 := by have := h.ow.2.2.1; unfold c_keepN; split <;> omega
  exact ⟨a, h.1, h.2.1, ⟨h.s4, h.s5, keep6_ok h, keep7_ok h⟩, ⟨h.ow.1, h.ow.2.1, hn, h.ow.2.2.2⟩, ⟨h.bk, h.m3, h.m4, h.m5, keepK_lt h.m4 h.m6, h.m8, h.m9, h.m10, h.m13⟩, h.rt, h.rx, c, b, h.e9, h.rd⟩
theorem inv_back (h : Inv X M) : c_back X = g_back M ∧ Inv (xR (xR X 0 (stR (X 0) 7 (fun _ => c_backN X))) 4 (c_back4 X)) (stR (stR M 7 (fun _ => g_backN M)) 4 (g_backS M)) := by
  obtain ⟨a, b, c, d⟩ := back_rel h.p5 h.rx h.e7 h.l7 h.rk
  have hn : c_backN X ≤ 2 := by have := h.ow.2.2.1; unfold c_backN; split <;> omega
  exact ⟨a, h.1, h.2.1, ⟨back4_ok h, h.s5, h.s6, h.s7⟩, ⟨h.ow.1, h.ow.2.1, hn, h.ow.2.2.2⟩, ⟨h.bk, h.m3, backS_lt h.m4 h.m6, h.m5, h.m6, h.m8, h.m9, h.m10, h.m13⟩, h.rt, d, c, b, h.e9, h.rd⟩
theorem inv_count (h : Inv X M) (w : Int) : c_count X w = g_count M w := by
  obtain ⟨a0, a1, a2, a3, a4, _⟩ := h.rt.1
  have b := h.rx.1
  unfold c_count g_count
  by_cases c0 : w = 0
  · subst c0; rw [if_pos rfl, if_pos (show isIn 0 0 2 = true from rfl)]; exact congrArg _ a0.symm
  rw [if_neg c0]
  by_cases c1 : w = 1
  · subst c1; rw [if_pos rfl, if_pos (show isIn 1 0 2 = true from rfl)]; exact congrArg _ a1.symm
  rw [if_neg c1]
  by_cases c2 : w = 2
  · subst c2; rw [if_pos rfl, if_pos (show isIn 2 0 2 = true from rfl)]; exact congrArg _ a2.symm
  rw [if_neg c2, if_neg (fun z : isIn w 0 2 = true => by have := isIn_le z; omega), b, h.e9, h.e7, h.tl, a3, a4]
theorem inv_lay (h : Inv X M) : c_lay X = g_lay M ∧ Inv (c_layX X) (stR (stR (stR (stR (stR (stR (stR M 12 (fun _ => (reR M).2.1)) 13 ((reR M).2.2.1)) 3 ((reR M).2.2.2)) 2 (g_layB M)) 4 (g_layS M)) 11 (fun _ => g_layD M)) 7 (fun _ => g_layK M)) := by
  have hr0 := read_rel (n := X 1 1 0) h.gb h.gl h.m13 h.gn h.m3 h.Td
  have hr : RoR (reR M) (cRo X) := by
    show RoR (rdR (M 0) (M 1 0) (M 13) (M 3)) (sp_ro (X 1 0) (X 1 1 0) (X 1 3) (X 3))
    rw [← h.tx, ← h.tl]; exact hr0
  have ho : (-4 ≤ (cRo X).1 ∧ (cRo X).1 < X 1 1 0 + 1) ∧ (cRo X).2.1 ≤ X 1 1 0 ∧ (∀ j, (cRo X).2.2.1 j < 1000) ∧ Tok (cRo X).2.2.2 := ro_ok (n := X 1 1 0) h.gb h.gn h.Td
  have hm := re_ok h.m13 h.m3
  have hbd := bd_re h.m13 h.m3
  have hb : cLy X = bLay M := by
    unfold cLy bLay
    by_cases c : (reR M).1 = -4
    · have e := (hr.2 c).1.1.1
      have c' : (cRo X).1 = -4 := hr.1.trans c
      rw [c, c', e]
      by_cases z : (cRo X).2.2.2 0 0 = 0
      · rw [z]; rfl
      · rw [decide_eq_true (show (-4 : Int) = -4 ∧ ¬ (cRo X).2.2.2 0 0 = 0 from ⟨rfl, z⟩), decide_eq_false z]; rfl
    · have c' : ¬ (cRo X).1 = -4 := fun z => c (hr.1.symm.trans z)
      rw [decide_eq_false c, decide_eq_false (fun z => c' z.1)]; rfl
  unfold c_lay g_lay c_layX g_layB g_layS g_layD g_layK
  cases hc : bLay M
  · have hc' : ¬ cLy X = true := by rw [hb, hc]; decide
    rw [if_neg hc', if_neg hc']
    exact ⟨rfl, ⟨h.T, h.p, ho.2.2.2⟩, ⟨h.gl, h.gb, ho.2.2.1, h.tx, h.tl⟩, h.2.2.1, h.ow, ⟨h.bk, hm.2.2.2.2, h.m4, h.m5, h.m6, h.m8, h.m9, h.m10, hm.2.2.1⟩, h.rt, h.rx, h.rk, h.e7, h.e9, h.rd⟩
  · have hc' : cLy X = true := by rw [hb, hc]
    have hd := of_decide_eq_true hc'
    have h4 : (reR M).1 = -4 := hr.1.symm.trans hd.1
    obtain ⟨r1, r2, r3⟩ := hr.2 h4
    have hT := ho.2.2.2
    have hRT : RT (cRo X).2.2.2 (cp80 (reR M).2.2.2 (M 2)) := RT_eq r1 hT (fun j hj => cp80_at hj)
    have hbk : Dbd (cp80 (reR M).2.2.2 (M 2)) := bd_cp80 hbd h.bk
    rw [if_pos hc', if_pos hc']
    refine ⟨?_, ⟨hT, ?_, h.T⟩, ⟨h.gl, h.gb, ho.2.2.1, h.tx, h.tl⟩, ⟨⟨Nat.zero_le _, ?_, ?_⟩, h.s5, h.s6, h.s7⟩, ⟨h.ow.1, Nat.zero_le _, Nat.zero_le _, h.ow.2.2.2⟩, ⟨hbk, hm.2.2.2.2, ?_, h.m5, h.m6, h.m8, h.m9, h.m10, hm.2.2.1⟩, hRT, ?_, ⟨fun z => absurd (show 1 ≤ 0 from z) (by decide), fun z => absurd (show 2 ≤ 0 from z) (by decide)⟩, rfl, rfl, fun k hk => absurd hk (Nat.not_lt_zero k)⟩
    · exact congrArg _ hRT.1.1.symm
    · exact Nat.pos_of_ne_zero hd.2
    · exact cpN_lt (n := 10) (fun k => Nat.lt_trans (hT.2.2.1 k) (by decide)) h.s4.2.1
    · exact clr5_lt h.s4.2.2
    · exact start_lt hbk.lt h.m4
    · exact RS_st hT.1.1 (fun k hk => (hRT.2.1 k hk).2)
end InvS
-- ===== as they are made
theorem inv_0 : Inv xz1 mz0 := by
  refine ⟨⟨tok_tz4, by decide, tok_tz0⟩, ⟨by decide, fun _ => Nat.le_of_ble_eq_true rfl, fun _ => Nat.le_of_ble_eq_true rfl, rfl, rfl⟩, ⟨⟨Nat.le_of_ble_eq_true rfl, ?_, ?_⟩, ⟨fun _ => Nat.le_of_ble_eq_true rfl, fun _ => Nat.le_of_ble_eq_true rfl⟩, ⟨by decide, fun _ => Nat.le_of_ble_eq_true rfl, fun _ => Nat.le_of_ble_eq_true rfl⟩, ⟨by decide, fun _ => Nat.le_of_ble_eq_true rfl, fun _ => Nat.le_of_ble_eq_true rfl⟩⟩, ⟨fun _ => Nat.le_of_ble_eq_true rfl, by decide, by decide, fun _ => Nat.le_of_ble_eq_true rfl, fun _ => Nat.le_of_ble_eq_true rfl⟩, ⟨?_, fun _ => Nat.le_of_ble_eq_true rfl, fun _ => Nat.le_of_ble_eq_true rfl, fun _ => Nat.le_of_ble_eq_true rfl, fun _ => Nat.le_of_ble_eq_true rfl, fun _ => Nat.le_of_ble_eq_true rfl, fun _ => Nat.le_of_ble_eq_true rfl, fun _ => Nat.le_of_ble_eq_true rfl, fun _ => Nat.le_of_ble_eq_true rfl⟩, ?_, ?_, ⟨fun z => absurd (show 1 ≤ 0 from z) (by decide), fun z => absurd (show 2 ≤ 0 from z) (by decide)⟩, rfl, rfl, fun k hk => absurd hk (Nat.not_lt_zero k)⟩
  · exact cpN_lt (n := 10) (fun k => Nat.lt_trans (tok_tz4.2.2.1 k) (by decide)) (fun _ => Nat.le_of_ble_eq_true rfl)
  · exact clr5_lt (fun _ => Nat.le_of_ble_eq_true rfl)
  · have h0 : Dbd (z0 2) := fun k => (bd_le k).2
    exact ((((((((((h0.up (k := 0) (v := 1) (by decide)).up (k := 1) (v := 1) (by decide)).up (k := 3) (v := 3) (by decide)).up (k := 4) (v := 2) (by decide)).up (k := 5) (v := 9) (by decide)).up (k := 6) (v := 1) (by decide)).up (k := 7) (v := 1) (by decide)).up (k := 8) (v := 1) (by decide)).up (k := 9) (v := 2) (by decide)).up (k := 28) (v := 2) (by decide)).up (k := 33) (v := 1) (by decide)
  · refine ⟨⟨rfl, rfl, rfl, rfl, rfl, rfl, rfl, rfl⟩, fun k hk => ?_, fun j hj => ?_, fun k hk => absurd (show k < 2 * 0 from hk) (Nat.not_lt_zero k)⟩
    · have hk : k < 2 := hk
      match k, hk with
      | 0, _ => exact ⟨rfl, rfl⟩
      | 1, _ => exact ⟨rfl, rfl⟩
    · have hj : j < 1 := hj
      match j, hj with
      | 0, _ =>
        refine ⟨rfl, ⟨by decide, by decide⟩, fun k hk => ?_⟩
        have hk : k < 2 := hk
        match k, hk with
        | 0, _ => rfl
        | 1, _ => rfl
  · refine ⟨rfl, fun k hk => ?_, fun i hi => ?_⟩
    · have hk : k < 2 := hk
      match k, hk with
      | 0, _ => rfl
      | 1, _ => rfl
    · have hi : i < 1 := hi
      match i, hi with
      | 0, _ => rfl
