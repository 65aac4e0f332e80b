theorem kk_start {s : State} {a : Array Value} (hts : ∀ w ∈ tb, w.before a s = true) (hn : ∀ w ∈ nst, w.before a s = true) : ∃ (D : va_G) (cI cB : ClassId), KK D cI cB s := by
  obtain ⟨c0, i0, h0⟩ := u_known (C := RX0) (T := TX0) (N := 4) (n := 4) hts uX0 (hts _ kb_X0)
  obtain ⟨c1, i1, h1⟩ := u_known (C := RX1) (T := TX1) (N := 3) (n := 3) hts uX1 (hts _ kb_X1)
  obtain ⟨c2, i2, h2⟩ := u_known (C := RX2) (T := TX2) (N := 14) (n := 14) hts uX2 (hts _ kb_X2)
  obtain ⟨c3, i3, h3⟩ := u_known (C := RX3) (T := TX3) (N := 12) (n := 12) hts uX3 (hts _ kb_X3)
  obtain ⟨c4, i4, h4⟩ := u_known (C := RX4) (T := TX4) (N := 14) (n := 14) hts uX4 (hts _ kb_X4)
  obtain ⟨cI, kI, comI, e1, e2, e3⟩ := Cond.arrayClass_spec (hts _ ka_I)
  obtain ⟨cB, kB, comB, f1, f2, f3⟩ := Cond.arrayClass_spec (hts _ ka_B)
  refine ⟨(fun k => if k = 0 then c0 else if k = 1 then c1 else if k = 2 then c2 else if k = 3 then c3 else c4, fun k => if k = 0 then i0 else if k = 1 then i1 else if k = 2 then i2 else if k = 3 then i3 else i4), cI, cB, ⟨?_, ?_⟩, fun w hw => va_Nw.of (nst_tab (nst_is hw)) (hn w hw)⟩
  · intro k q hq
    match k, hq with
    | 0, hq => cases hq; exact h0
    | 1, hq => cases hq; exact h1
    | 2, hq => cases hq; exact h2
    | 3, hq => cases hq; exact h3
    | 4, hq => cases hq; exact h4
    | k + 5, hq => simp [vwCl] at hq
  · intro k q hq
    match k, hq with
    | 0, hq => cases hq; exact ⟨fun n z => ⟨fun k h => (by cases h), kI, e2, comI, e3⟩, e1⟩
    | 1, hq => cases hq; exact ⟨fun n z => ⟨fun k h => (by cases h), kB, f2, comB, f3⟩, f1⟩
    | k + 2, hq => simp [tyIB] at hq
set_option maxHeartbeats 4000000 in
set_option maxRecDepth 100000 in
/-- from the entry, for every script of at most 2560 ints, the law comes to its end with true -/
theorem whole_start {p : Program} {e : Env} {s : State} {m : MethodId} {below : List Frame} {meth : Method} {c : Code} (l : Launch) (hflags : l.flags = flags0) {b L : Nat} {xs : Nat → Int32} (hL : L ≤ 2560) (C0 : lw_At p s m meth c b L xs) : W p l e room_1 s m #[Value.ref b] below meth c s.heap [] 0 0 (lw_Z below #[Value.ref b] s) (entryFrame m ([Value.ref b] : List Value).toArray 4) := by
  obtain ⟨hx, hb, hr, hml, hown, hts, hX, hbl, hlocks, hgv⟩ := C0
  have htb : ∀ w ∈ tb, w.before #[Value.ref b] s = true := fun w h => hts w (List.mem_filter.mp h).1
  obtain ⟨D, cI, cB, hK⟩ := kk_start htb (fun w h => hts w (List.mem_filter.mp h).1)
  have F : Fx p m c cL_law 4 s #[Value.ref b] RL D cI cB := ⟨⟨hx, hb, hml, hown, htb⟩, hK⟩
  have hF : LF p m c s b L xs D cI cB := ⟨F, hX, hbl, hL⟩
  have hA : ∀ q : Nat, s.heap.size ≤ q → LA s q := fun _ h => h
  have B : Bx D (LA s) s.heap [] s.heap [] := ⟨fun k q h => by simp at h, ⟨fun i j p q h => by simp at h, fun k q h => by simp at h⟩, va_S.rf⟩
  have hl := lv_entry ([.ref b]) (n := 4) (Nat.le_of_ble_eq_true rfl)
  rw [lg_entry_eq]
  generalize (lg_sl ([.ref b]) ++ List.replicate (4 - (lg_sl ([.ref b])).length) Slot.unset).toArray = ls at hl ⊢
  have hl : lv_has ls 4 [(0, .ref b)] := hl
  refine r_nw (ci := 3) F uX3 rfl tyX3_ok kl_L_7 kb_X3 ki_X3 hA B dfX3 dfX3_ok (Nat.le_of_ble_eq_true rfl) (Nat.le_of_ble_eq_true rfl) dL_law_0 (fun q1 H B => ?_)
  refine r_dup F dL_law_3 rfl ?_
  refine r_ci F hA B (k_X3_init l D cI cB q1) km_L_9 kn_X3_init ki_X3 kc_X3_init rfl (by decide +kernel) [0] rfl rfl [] [] rfl rfl (by decide) ⟨⟨rfl, rfl⟩, (Nat.le_of_ble_eq_true rfl), (Nat.le_of_ble_eq_true rfl)⟩ ⟨(Nat.le_of_ble_eq_true rfl), (Nat.le_of_ble_eq_true rfl)⟩ hl.1 (Nat.le_of_ble_eq_true rfl) dL_law_4 (fun Q H locs hp B_ => ?_)
  obtain rfl : Q 0 0 = q1 := hp
  have B : Bx D (LA s) s.heap (wH Q cI cB xz1) H locs := B_
  refine r_asn (lv' := [(0, .ref b), (1, .ref (Q 0 0))]) F hl dL_law_7 rfl (by decide) [1, 0] rfl (fun ls hl => ?_)
  refine r_nw (ci := 4) F uX4 rfl tyX4_ok kl_L_10 kb_X4 ki_X4 hA B dfX4 dfX4_ok (Nat.le_of_ble_eq_true rfl) (Nat.le_of_ble_eq_true rfl) dL_law_8 (fun q2 H B => ?_)
  refine r_dup F dL_law_11 rfl ?_
  refine r_ci F hA B (k_X4_init l D cI cB q2) km_L_12 kn_X4_init ki_X4 kc_X4_init rfl (by decide +kernel) [31] rfl rfl [0, 1, 2, 3, 4, 5, 6, 7, 8, 9, 10, 11, 12, 13, 14, 15, 16, 17, 18, 19, 20, 21, 22, 23, 24, 25, 26, 27, 28, 29, 30] (wH Q cI cB xz1) rfl rfl (by decide) ⟨⟨rfl, rfl⟩, (Nat.le_of_ble_eq_true rfl), (Nat.le_of_ble_eq_true rfl)⟩ ⟨(Nat.le_of_ble_eq_true rfl), (Nat.le_of_ble_eq_true rfl)⟩ hl.1 (Nat.le_of_ble_eq_true rfl) dL_law_12 (fun q H locs hp B_ => ?_)
  obtain rfl : q 0 = q2 := hp
  have B : LB s D cI cB Q xz1 q mz0 H locs := B_
  refine r_asn (lv' := [(0, .ref b), (1, .ref (Q 0 0)), (2, .ref (q 0))]) F hl dL_law_15 rfl (by decide) [1, 2, 0] rfl (fun ls hl => ?_)
  refine r_ic F 0 dL_law_16 rfl ?_
  refine r_isn (lv' := LL b Q q 0) F hl dL_law_17 rfl (by decide) [1, 2, 3, 0] rfl (fun ls hl => ?_)
  exact law_loop hF hr hlocks (L + 1) 0 (Nat.zero_le L) (by omega) Q q xz1 mz0 H locs ls inv_0 B hl
