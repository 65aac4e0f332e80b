-- what write and lay of the class leave behind
theorem apLn_t {n : Nat} (h : n < 300) : apLn n = n + 1 := by unfold apLn vAp; rw [if_pos (decide_eq_true h)]
theorem apBy_t {n v : Nat} {f : Nat → Nat} (h : n < 300) : apBy n v f = upN f n v := by unfold apBy vAp; rw [if_pos (decide_eq_true h)]
theorem apBy_lt {n v : Nat} {f : Nat → Nat} (hf : ∀ k, f k < 256) (hv : v < 256) : ∀ k, apBy n v f k < 256 := by
  unfold apBy; split
  · exact upN_lt hf hv
  · exact hf
theorem wrF_ap {v : Int64} {j u : Nat} {f : Nat → Nat} (hj : 1 ≤ j) (hu : u < 300) : wrF v (j - 1) (apBy u (byteOf v (j - 1)) f) (apLn u) = wrF v j f u := by
  rw [apBy_t hu, apLn_t hu]
  obtain ⟨j2, rfl⟩ : ∃ a, j = a + 1 := ⟨j - 1, by omega⟩
  rfl
abbrev cRo (X : Nat → St) : Int × Nat × (Nat → Nat) × St := sp_ro ((X 1) 0) ((X 1) 1 0) ((X 1) 3) (X 3)
def cLy (X : Nat → St) : Bool := decide ((cRo X).1 = -4 ∧ ¬ (cRo X).2.2.2 0 0 = 0)
def c_lay (X : Nat → St) : Int := if cLy X then ((cRo X).2.2.2 0 0 : Int) else -2
def c_layP (X : Nat → St) : St := stR (stR (X 1) 2 (fun _ => (cRo X).2.1)) 3 (cRo X).2.2.1
def c_layO (X : Nat → St) : St := stR (stR (X 0) 7 (fun _ => 0)) 9 (fun _ => 0)
def c_layS (X : Nat → St) : St := stR (stR (stR (X 4) 0 (fun _ => 0)) 1 (cpN ((cRo X).2.2.2 2) ((X 4) 1) 10)) 2 (clr5 ((X 4) 2))
def c_layX (X : Nat → St) : Nat → St := if cLy X then xR (xR (xR (xR (xR X 0 (c_layO X)) 1 (c_layP X)) 2 (cRo X).2.2.2) 3 (X 2)) 4 (c_layS X) else xR (xR X 1 (c_layP X)) 3 (cRo X).2.2.2
def c_layQ (Q : Nat → Nat → Nat) (X : Nat → St) : Nat → Nat → Nat := if cLy X then sw23 Q else Q
theorem w_lay1 {Q : Nat → Nat → Nat} {cI cB : ClassId} {X : Nat → St} (h : cLy X = true) : wH (c_layQ Q X) cI cB (c_layX X) = wH (sw23 Q) cI cB (xR (xR (xR (xR (xR X 0 (c_layO X)) 1 (c_layP X)) 2 (cRo X).2.2.2) 3 (X 2)) 4 (c_layS X)) := by
  unfold c_layQ c_layX; rw [if_pos h, if_pos h]
theorem w_lay0 {Q : Nat → Nat → Nat} {cI cB : ClassId} {X : Nat → St} (h : cLy X = false) : wH (c_layQ Q X) cI cB (c_layX X) = wH Q cI cB (xR (xR X 1 (c_layP X)) 3 (cRo X).2.2.2) := by
  have h' : ¬ cLy X = true := by rw [h]; decide
  unfold c_layQ c_layX; rw [if_neg h', if_neg h']
