section
-- ===== PART A: goes FIRST, ahead of the names: the tables' words, and 'selects' of the private methods out of them =====
/-- a private method of a class that the tables say can be made, by its rows of tables_1 -/
def lw_okq (q : MethodName × Nat) : Prop := (q.1.cls ≠ "java/lang/invoke/MethodHandle" ∧ q.1.cls ≠ "java/lang/invoke/VarHandle") ∧ Cond.instantiable q.1.cls q.2 ∈ tables_1 ∧ Cond.privateMethod q.1 ∈ tables_1 ∧ Cond.instanceMethod q.1 ∈ tables_1
theorem lw_p0 : lw_okq (⟨"HalfAsleep$Page", "readItem", "(LHalfAsleep$Town;)Z"⟩, 4) := ⟨⟨by decide +kernel, by decide +kernel⟩, List.mem_of_getElem? (i := 18) (by decide +kernel), List.mem_of_getElem? (i := 198) (by decide +kernel), List.mem_of_getElem? (i := 199) (by decide +kernel)⟩
theorem lw_p1 : lw_okq (⟨"HalfAsleep$Page", "next", "()I"⟩, 4) := ⟨⟨by decide +kernel, by decide +kernel⟩, List.mem_of_getElem? (i := 18) (by decide +kernel), List.mem_of_getElem? (i := 202) (by decide +kernel), List.mem_of_getElem? (i := 203) (by decide +kernel)⟩
theorem lw_p2 : lw_okq (⟨"HalfAsleep$Page", "readNumbers", "(I)Z"⟩, 4) := ⟨⟨by decide +kernel, by decide +kernel⟩, List.mem_of_getElem? (i := 18) (by decide +kernel), List.mem_of_getElem? (i := 206) (by decide +kernel), List.mem_of_getElem? (i := 207) (by decide +kernel)⟩
theorem lw_p3 : lw_okq (⟨"HalfAsleep$Page", "readNumber", "()I"⟩, 4) := ⟨⟨by decide +kernel, by decide +kernel⟩, List.mem_of_getElem? (i := 18) (by decide +kernel), List.mem_of_getElem? (i := 210) (by decide +kernel), List.mem_of_getElem? (i := 211) (by decide +kernel)⟩
theorem lw_p4 : lw_okq (⟨"HalfAsleep$Page", "readSign", "(I)Z"⟩, 4) := ⟨⟨by decide +kernel, by decide +kernel⟩, List.mem_of_getElem? (i := 18) (by decide +kernel), List.mem_of_getElem? (i := 217) (by decide +kernel), List.mem_of_getElem? (i := 218) (by decide +kernel)⟩
theorem lw_p5 : lw_okq (⟨"HalfAsleep$Page", "readSteps", "(LHalfAsleep$Town;)Z"⟩, 4) := ⟨⟨by decide +kernel, by decide +kernel⟩, List.mem_of_getElem? (i := 18) (by decide +kernel), List.mem_of_getElem? (i := 222) (by decide +kernel), List.mem_of_getElem? (i := 223) (by decide +kernel)⟩
theorem lw_p6 : lw_okq (⟨"HalfAsleep$Town", "isHalfHere", "(II)Z"⟩, 14) := ⟨⟨by decide +kernel, by decide +kernel⟩, List.mem_of_getElem? (i := 40) (by decide +kernel), List.mem_of_getElem? (i := 240) (by decide +kernel), List.mem_of_getElem? (i := 241) (by decide +kernel)⟩
theorem lw_p7 : lw_okq (⟨"HalfAsleep", "isPerson", "(I)Z"⟩, 12) := ⟨⟨by decide +kernel, by decide +kernel⟩, List.mem_of_getElem? (i := 10) (by decide +kernel), List.mem_of_getElem? (i := 263) (by decide +kernel), List.mem_of_getElem? (i := 264) (by decide +kernel)⟩
theorem lw_p8 : lw_okq (⟨"HalfAsleep$Standing", "tellOneAnother", "(II)V"⟩, 3) := ⟨⟨by decide +kernel, by decide +kernel⟩, List.mem_of_getElem? (i := 102) (by decide +kernel), List.mem_of_getElem? (i := 310) (by decide +kernel), List.mem_of_getElem? (i := 311) (by decide +kernel)⟩
theorem lw_p9 : lw_okq (⟨"HalfAsleep$Standing", "readNotes", "(I)V"⟩, 3) := ⟨⟨by decide +kernel, by decide +kernel⟩, List.mem_of_getElem? (i := 102) (by decide +kernel), List.mem_of_getElem? (i := 317) (by decide +kernel), List.mem_of_getElem? (i := 318) (by decide +kernel)⟩
theorem lw_p10 : lw_okq (⟨"HalfAsleep", "isTrade", "(I)Z"⟩, 12) := ⟨⟨by decide +kernel, by decide +kernel⟩, List.mem_of_getElem? (i := 10) (by decide +kernel), List.mem_of_getElem? (i := 325) (by decide +kernel), List.mem_of_getElem? (i := 326) (by decide +kernel)⟩
theorem lw_p11 : lw_okq (⟨"HalfAsleep$Town", "stepAfterShift", "(IIII)I"⟩, 14) := ⟨⟨by decide +kernel, by decide +kernel⟩, List.mem_of_getElem? (i := 40) (by decide +kernel), List.mem_of_getElem? (i := 333) (by decide +kernel), List.mem_of_getElem? (i := 334) (by decide +kernel)⟩
theorem lw_p12 : lw_okq (⟨"HalfAsleep$Town", "hasSkillFor", "(IIII)Z"⟩, 14) := ⟨⟨by decide +kernel, by decide +kernel⟩, List.mem_of_getElem? (i := 40) (by decide +kernel), List.mem_of_getElem? (i := 340) (by decide +kernel), List.mem_of_getElem? (i := 341) (by decide +kernel)⟩
theorem lw_p13 : lw_okq (⟨"HalfAsleep", "findMostByTakes", "()V"⟩, 12) := ⟨⟨by decide +kernel, by decide +kernel⟩, List.mem_of_getElem? (i := 10) (by decide +kernel), List.mem_of_getElem? (i := 396) (by decide +kernel), List.mem_of_getElem? (i := 397) (by decide +kernel)⟩
theorem lw_p14 : lw_okq (⟨"HalfAsleep", "explainsAllDeeds", "(I)Z"⟩, 12) := ⟨⟨by decide +kernel, by decide +kernel⟩, List.mem_of_getElem? (i := 10) (by decide +kernel), List.mem_of_getElem? (i := 434) (by decide +kernel), List.mem_of_getElem? (i := 435) (by decide +kernel)⟩
theorem lw_p15 : lw_okq (⟨"HalfAsleep", "keptPlace", "(I)LHalfAsleep$Standing;"⟩, 12) := ⟨⟨by decide +kernel, by decide +kernel⟩, List.mem_of_getElem? (i := 10) (by decide +kernel), List.mem_of_getElem? (i := 456) (by decide +kernel), List.mem_of_getElem? (i := 457) (by decide +kernel)⟩
def lw_privs_1 : List (MethodName × Nat) := [(⟨"HalfAsleep$Page", "readItem", "(LHalfAsleep$Town;)Z"⟩, 4), (⟨"HalfAsleep$Page", "next", "()I"⟩, 4), (⟨"HalfAsleep$Page", "readNumbers", "(I)Z"⟩, 4), (⟨"HalfAsleep$Page", "readNumber", "()I"⟩, 4), (⟨"HalfAsleep$Page", "readSign", "(I)Z"⟩, 4), (⟨"HalfAsleep$Page", "readSteps", "(LHalfAsleep$Town;)Z"⟩, 4), (⟨"HalfAsleep$Town", "isHalfHere", "(II)Z"⟩, 14), (⟨"HalfAsleep", "isPerson", "(I)Z"⟩, 12), (⟨"HalfAsleep$Standing", "tellOneAnother", "(II)V"⟩, 3), (⟨"HalfAsleep$Standing", "readNotes", "(I)V"⟩, 3), (⟨"HalfAsleep", "isTrade", "(I)Z"⟩, 12), (⟨"HalfAsleep$Town", "stepAfterShift", "(IIII)I"⟩, 14), (⟨"HalfAsleep$Town", "hasSkillFor", "(IIII)Z"⟩, 14), (⟨"HalfAsleep", "findMostByTakes", "()V"⟩, 12), (⟨"HalfAsleep", "explainsAllDeeds", "(I)Z"⟩, 12), (⟨"HalfAsleep", "keptPlace", "(I)LHalfAsleep$Standing;"⟩, 12)]
theorem lw_r1 : ∀ q ∈ lw_privs_1, lw_okq q := List.forall_mem_cons.mpr ⟨lw_p0, List.forall_mem_cons.mpr ⟨lw_p1, List.forall_mem_cons.mpr ⟨lw_p2, List.forall_mem_cons.mpr ⟨lw_p3, List.forall_mem_cons.mpr ⟨lw_p4, List.forall_mem_cons.mpr ⟨lw_p5, List.forall_mem_cons.mpr ⟨lw_p6, List.forall_mem_cons.mpr ⟨lw_p7, List.forall_mem_cons.mpr ⟨lw_p8, List.forall_mem_cons.mpr ⟨lw_p9, List.forall_mem_cons.mpr ⟨lw_p10, List.forall_mem_cons.mpr ⟨lw_p11, List.forall_mem_cons.mpr ⟨lw_p12, List.forall_mem_cons.mpr ⟨lw_p13, List.forall_mem_cons.mpr ⟨lw_p14, List.forall_mem_cons.mpr ⟨lw_p15, fun _ h => absurd h List.not_mem_nil⟩⟩⟩⟩⟩⟩⟩⟩⟩⟩⟩⟩⟩⟩⟩⟩
theorem lw_p16 : lw_okq (⟨"HalfAsleepModel", "reads", "()I"⟩, 14) := ⟨⟨by decide +kernel, by decide +kernel⟩, List.mem_of_getElem? (i := 468) (by decide +kernel), List.mem_of_getElem? (i := 533) (by decide +kernel), List.mem_of_getElem? (i := 534) (by decide +kernel)⟩
theorem lw_p17 : lw_okq (⟨"HalfAsleepModel", "item", "()Z"⟩, 14) := ⟨⟨by decide +kernel, by decide +kernel⟩, List.mem_of_getElem? (i := 468) (by decide +kernel), List.mem_of_getElem? (i := 537) (by decide +kernel), List.mem_of_getElem? (i := 538) (by decide +kernel)⟩
theorem lw_p18 : lw_okq (⟨"HalfAsleepModel", "byteAt", "(I)I"⟩, 14) := ⟨⟨by decide +kernel, by decide +kernel⟩, List.mem_of_getElem? (i := 468) (by decide +kernel), List.mem_of_getElem? (i := 541) (by decide +kernel), List.mem_of_getElem? (i := 542) (by decide +kernel)⟩
theorem lw_p19 : lw_okq (⟨"HalfAsleepModel", "person", "()Z"⟩, 14) := ⟨⟨by decide +kernel, by decide +kernel⟩, List.mem_of_getElem? (i := 468) (by decide +kernel), List.mem_of_getElem? (i := 545) (by decide +kernel), List.mem_of_getElem? (i := 546) (by decide +kernel)⟩
theorem lw_p20 : lw_okq (⟨"HalfAsleepModel", "numbers", "(I)Z"⟩, 14) := ⟨⟨by decide +kernel, by decide +kernel⟩, List.mem_of_getElem? (i := 468) (by decide +kernel), List.mem_of_getElem? (i := 549) (by decide +kernel), List.mem_of_getElem? (i := 550) (by decide +kernel)⟩
theorem lw_p21 : lw_okq (⟨"HalfAsleepModel", "isFigure", "()Z"⟩, 14) := ⟨⟨by decide +kernel, by decide +kernel⟩, List.mem_of_getElem? (i := 468) (by decide +kernel), List.mem_of_getElem? (i := 553) (by decide +kernel), List.mem_of_getElem? (i := 554) (by decide +kernel)⟩
theorem lw_p22 : lw_okq (⟨"HalfAsleepModel", "trade", "()Z"⟩, 14) := ⟨⟨by decide +kernel, by decide +kernel⟩, List.mem_of_getElem? (i := 468) (by decide +kernel), List.mem_of_getElem? (i := 557) (by decide +kernel), List.mem_of_getElem? (i := 558) (by decide +kernel)⟩
theorem lw_p23 : lw_okq (⟨"HalfAsleepModel", "one", "(III)Z"⟩, 14) := ⟨⟨by decide +kernel, by decide +kernel⟩, List.mem_of_getElem? (i := 468) (by decide +kernel), List.mem_of_getElem? (i := 561) (by decide +kernel), List.mem_of_getElem? (i := 562) (by decide +kernel)⟩
theorem lw_p24 : lw_okq (⟨"HalfAsleepModel", "known", "()Z"⟩, 14) := ⟨⟨by decide +kernel, by decide +kernel⟩, List.mem_of_getElem? (i := 468) (by decide +kernel), List.mem_of_getElem? (i := 565) (by decide +kernel), List.mem_of_getElem? (i := 566) (by decide +kernel)⟩
theorem lw_p25 : lw_okq (⟨"HalfAsleepModel", "isHalf", "(I)Z"⟩, 14) := ⟨⟨by decide +kernel, by decide +kernel⟩, List.mem_of_getElem? (i := 468) (by decide +kernel), List.mem_of_getElem? (i := 569) (by decide +kernel), List.mem_of_getElem? (i := 570) (by decide +kernel)⟩
theorem lw_p26 : lw_okq (⟨"HalfAsleepModel", "married", "()Z"⟩, 14) := ⟨⟨by decide +kernel, by decide +kernel⟩, List.mem_of_getElem? (i := 468) (by decide +kernel), List.mem_of_getElem? (i := 573) (by decide +kernel), List.mem_of_getElem? (i := 574) (by decide +kernel)⟩
theorem lw_p27 : lw_okq (⟨"HalfAsleepModel", "pursed", "()Z"⟩, 14) := ⟨⟨by decide +kernel, by decide +kernel⟩, List.mem_of_getElem? (i := 468) (by decide +kernel), List.mem_of_getElem? (i := 577) (by decide +kernel), List.mem_of_getElem? (i := 578) (by decide +kernel)⟩
theorem lw_p28 : lw_okq (⟨"HalfAsleepModel", "isPerson", "(I)Z"⟩, 14) := ⟨⟨by decide +kernel, by decide +kernel⟩, List.mem_of_getElem? (i := 468) (by decide +kernel), List.mem_of_getElem? (i := 589) (by decide +kernel), List.mem_of_getElem? (i := 590) (by decide +kernel)⟩
theorem lw_p29 : lw_okq (⟨"HalfAsleepModel", "awake", "()I"⟩, 14) := ⟨⟨by decide +kernel, by decide +kernel⟩, List.mem_of_getElem? (i := 468) (by decide +kernel), List.mem_of_getElem? (i := 593) (by decide +kernel), List.mem_of_getElem? (i := 594) (by decide +kernel)⟩
theorem lw_p30 : lw_okq (⟨"HalfAsleepModel", "plays", "(I)V"⟩, 14) := ⟨⟨by decide +kernel, by decide +kernel⟩, List.mem_of_getElem? (i := 468) (by decide +kernel), List.mem_of_getElem? (i := 616) (by decide +kernel), List.mem_of_getElem? (i := 617) (by decide +kernel)⟩
theorem lw_p31 : lw_okq (⟨"HalfAsleepModel", "ends", "()V"⟩, 14) := ⟨⟨by decide +kernel, by decide +kernel⟩, List.mem_of_getElem? (i := 468) (by decide +kernel), List.mem_of_getElem? (i := 620) (by decide +kernel), List.mem_of_getElem? (i := 621) (by decide +kernel)⟩
def lw_privs_2 : List (MethodName × Nat) := [(⟨"HalfAsleepModel", "reads", "()I"⟩, 14), (⟨"HalfAsleepModel", "item", "()Z"⟩, 14), (⟨"HalfAsleepModel", "byteAt", "(I)I"⟩, 14), (⟨"HalfAsleepModel", "person", "()Z"⟩, 14), (⟨"HalfAsleepModel", "numbers", "(I)Z"⟩, 14), (⟨"HalfAsleepModel", "isFigure", "()Z"⟩, 14), (⟨"HalfAsleepModel", "trade", "()Z"⟩, 14), (⟨"HalfAsleepModel", "one", "(III)Z"⟩, 14), (⟨"HalfAsleepModel", "known", "()Z"⟩, 14), (⟨"HalfAsleepModel", "isHalf", "(I)Z"⟩, 14), (⟨"HalfAsleepModel", "married", "()Z"⟩, 14), (⟨"HalfAsleepModel", "pursed", "()Z"⟩, 14), (⟨"HalfAsleepModel", "isPerson", "(I)Z"⟩, 14), (⟨"HalfAsleepModel", "awake", "()I"⟩, 14), (⟨"HalfAsleepModel", "plays", "(I)V"⟩, 14), (⟨"HalfAsleepModel", "ends", "()V"⟩, 14)]
theorem lw_r2 : ∀ q ∈ lw_privs_2, lw_okq q := List.forall_mem_cons.mpr ⟨lw_p16, List.forall_mem_cons.mpr ⟨lw_p17, List.forall_mem_cons.mpr ⟨lw_p18, List.forall_mem_cons.mpr ⟨lw_p19, List.forall_mem_cons.mpr ⟨lw_p20, List.forall_mem_cons.mpr ⟨lw_p21, List.forall_mem_cons.mpr ⟨lw_p22, List.forall_mem_cons.mpr ⟨lw_p23, List.forall_mem_cons.mpr ⟨lw_p24, List.forall_mem_cons.mpr ⟨lw_p25, List.forall_mem_cons.mpr ⟨lw_p26, List.forall_mem_cons.mpr ⟨lw_p27, List.forall_mem_cons.mpr ⟨lw_p28, List.forall_mem_cons.mpr ⟨lw_p29, List.forall_mem_cons.mpr ⟨lw_p30, List.forall_mem_cons.mpr ⟨lw_p31, fun _ h => absurd h List.not_mem_nil⟩⟩⟩⟩⟩⟩⟩⟩⟩⟩⟩⟩⟩⟩⟩⟩
theorem lw_p32 : lw_okq (⟨"HalfAsleepModel", "tells", "(II)I"⟩, 14) := ⟨⟨by decide +kernel, by decide +kernel⟩, List.mem_of_getElem? (i := 468) (by decide +kernel), List.mem_of_getElem? (i := 624) (by decide +kernel), List.mem_of_getElem? (i := 625) (by decide +kernel)⟩
theorem lw_p33 : lw_okq (⟨"HalfAsleepModel", "isTrade", "(I)Z"⟩, 14) := ⟨⟨by decide +kernel, by decide +kernel⟩, List.mem_of_getElem? (i := 468) (by decide +kernel), List.mem_of_getElem? (i := 632) (by decide +kernel), List.mem_of_getElem? (i := 633) (by decide +kernel)⟩
theorem lw_p34 : lw_okq (⟨"HalfAsleepModel", "doneBy", "(II)I"⟩, 14) := ⟨⟨by decide +kernel, by decide +kernel⟩, List.mem_of_getElem? (i := 468) (by decide +kernel), List.mem_of_getElem? (i := 636) (by decide +kernel), List.mem_of_getElem? (i := 637) (by decide +kernel)⟩
theorem lw_p35 : lw_okq (⟨"HalfAsleepModel", "has", "(IIII)Z"⟩, 14) := ⟨⟨by decide +kernel, by decide +kernel⟩, List.mem_of_getElem? (i := 468) (by decide +kernel), List.mem_of_getElem? (i := 640) (by decide +kernel), List.mem_of_getElem? (i := 641) (by decide +kernel)⟩
theorem lw_p36 : lw_okq (⟨"HalfAsleepModel", "whoKnow", "(I)I"⟩, 14) := ⟨⟨by decide +kernel, by decide +kernel⟩, List.mem_of_getElem? (i := 468) (by decide +kernel), List.mem_of_getElem? (i := 660) (by decide +kernel), List.mem_of_getElem? (i := 661) (by decide +kernel)⟩
theorem lw_p37 : lw_okq (⟨"HalfAsleepModel", "holds", "(III)I"⟩, 14) := ⟨⟨by decide +kernel, by decide +kernel⟩, List.mem_of_getElem? (i := 468) (by decide +kernel), List.mem_of_getElem? (i := 672) (by decide +kernel), List.mem_of_getElem? (i := 673) (by decide +kernel)⟩
theorem lw_p38 : lw_okq (⟨"HalfAsleepModel", "rest", "(II)Z"⟩, 14) := ⟨⟨by decide +kernel, by decide +kernel⟩, List.mem_of_getElem? (i := 468) (by decide +kernel), List.mem_of_getElem? (i := 680) (by decide +kernel), List.mem_of_getElem? (i := 681) (by decide +kernel)⟩
theorem lw_p39 : lw_okq (⟨"HalfAsleepModel", "parts", "(I)I"⟩, 14) := ⟨⟨by decide +kernel, by decide +kernel⟩, List.mem_of_getElem? (i := 468) (by decide +kernel), List.mem_of_getElem? (i := 688) (by decide +kernel), List.mem_of_getElem? (i := 689) (by decide +kernel)⟩
theorem lw_p40 : lw_okq (⟨"HalfAsleepModel", "finds", "()V"⟩, 14) := ⟨⟨by decide +kernel, by decide +kernel⟩, List.mem_of_getElem? (i := 468) (by decide +kernel), List.mem_of_getElem? (i := 707) (by decide +kernel), List.mem_of_getElem? (i := 708) (by decide +kernel)⟩
def lw_privs_3 : List (MethodName × Nat) := [(⟨"HalfAsleepModel", "tells", "(II)I"⟩, 14), (⟨"HalfAsleepModel", "isTrade", "(I)Z"⟩, 14), (⟨"HalfAsleepModel", "doneBy", "(II)I"⟩, 14), (⟨"HalfAsleepModel", "has", "(IIII)Z"⟩, 14), (⟨"HalfAsleepModel", "whoKnow", "(I)I"⟩, 14), (⟨"HalfAsleepModel", "holds", "(III)I"⟩, 14), (⟨"HalfAsleepModel", "rest", "(II)Z"⟩, 14), (⟨"HalfAsleepModel", "parts", "(I)I"⟩, 14), (⟨"HalfAsleepModel", "finds", "()V"⟩, 14)]
theorem lw_r3 : ∀ q ∈ lw_privs_3, lw_okq q := List.forall_mem_cons.mpr ⟨lw_p32, List.forall_mem_cons.mpr ⟨lw_p33, List.forall_mem_cons.mpr ⟨lw_p34, List.forall_mem_cons.mpr ⟨lw_p35, List.forall_mem_cons.mpr ⟨lw_p36, List.forall_mem_cons.mpr ⟨lw_p37, List.forall_mem_cons.mpr ⟨lw_p38, List.forall_mem_cons.mpr ⟨lw_p39, List.forall_mem_cons.mpr ⟨lw_p40, fun _ h => absurd h List.not_mem_nil⟩⟩⟩⟩⟩⟩⟩⟩⟩
def lw_privs : List (MethodName × Nat) := lw_privs_1 ++ (lw_privs_2 ++ (lw_privs_3))
def lw_tbl : List Cond := k2_sels lw_privs ++ tables_1
theorem lw_privs_ok : ∀ q ∈ lw_privs, lw_okq q := by
  show ∀ q ∈ lw_privs_1 ++ (lw_privs_2 ++ (lw_privs_3)), lw_okq q
  exact List.forall_mem_append.mpr ⟨lw_r1, List.forall_mem_append.mpr ⟨lw_r2, lw_r3⟩⟩
def RX0 : String := "HalfAsleep$Page"
def TX0 : u_T := fun k => match k with
  | 0 => ("HalfAsleep$Page", "bytes", "[B", true)
  | 1 => ("HalfAsleep$Page", "length", "I", false)
  | 2 => ("HalfAsleep$Page", "place", "I", false)
  | _ => ("HalfAsleep$Page", "numbers", "[I", true)
def tyX0 : Nat → FieldType := fun k => match k with
  | 0 => .array .byte
  | 1 => .int
  | 2 => .int
  | _ => .array .int
abbrev wsX00 : List Cond := u_ws RX0 TX0 4
theorem nmX0 : ∀ a, a < 4 → ∀ b, b < 4 → a ≠ b → (TX0 a).2.1 ≠ (TX0 b).2.1 := by decide +kernel
theorem tyX0_ok : ∀ k, k < 4 → parseFieldDescriptor (TX0 k).2.2.1 = some (tyX0 k) := by decide +kernel
abbrev cX0_init : ByteArray := prog_2_method_1_code
def yX0_init : MethodName := ⟨RX0, "<init>", "()V"⟩
abbrev cX0_append : ByteArray := prog_2_method_2_code
def yX0_append : MethodName := ⟨RX0, "append", "(B)V"⟩
abbrev cX0_readInto : ByteArray := prog_2_method_3_code
def yX0_readInto : MethodName := ⟨RX0, "readInto", "(LHalfAsleep$Town;)I"⟩
abbrev cX0_readItem : ByteArray := prog_2_method_4_code
def yX0_readItem : MethodName := ⟨RX0, "readItem", "(LHalfAsleep$Town;)Z"⟩
abbrev cX0_readNumbers : ByteArray := prog_2_method_5_code
def yX0_readNumbers : MethodName := ⟨RX0, "readNumbers", "(I)Z"⟩
abbrev cX0_readNumber : ByteArray := prog_2_method_6_code
def yX0_readNumber : MethodName := ⟨RX0, "readNumber", "()I"⟩
abbrev cX0_readSteps : ByteArray := prog_2_method_7_code
def yX0_readSteps : MethodName := ⟨RX0, "readSteps", "(LHalfAsleep$Town;)Z"⟩
abbrev cX0_readSign : ByteArray := prog_2_method_8_code
def yX0_readSign : MethodName := ⟨RX0, "readSign", "(I)Z"⟩
abbrev cX0_next : ByteArray := prog_2_method_9_code
def yX0_next : MethodName := ⟨RX0, "next", "()I"⟩
def RX1 : String := "HalfAsleep$Standing"
def TX1 : u_T := fun k => match k with
  | 0 => ("HalfAsleep$Standing", "shift", "I", false)
  | 1 => ("HalfAsleep$Standing", "known", "[I", true)
  | _ => ("HalfAsleep$Standing", "hung", "[I", true)
def tyX1 : Nat → FieldType := fun k => match k with
  | 0 => .int
  | 1 => .array .int
  | _ => .array .int
abbrev wsX10 : List Cond := u_ws RX1 TX1 3
theorem nmX1 : ∀ a, a < 3 → ∀ b, b < 3 → a ≠ b → (TX1 a).2.1 ≠ (TX1 b).2.1 := by decide +kernel
theorem tyX1_ok : ∀ k, k < 3 → parseFieldDescriptor (TX1 k).2.2.1 = some (tyX1 k) := by decide +kernel
abbrev cX1_init : ByteArray := prog_3_method_1_code
def yX1_init : MethodName := ⟨RX1, "<init>", "()V"⟩
abbrev cX1_startFrom : ByteArray := prog_3_method_2_code
def yX1_startFrom : MethodName := ⟨RX1, "startFrom", "(LHalfAsleep$Town;)V"⟩
abbrev cX1_copyFrom : ByteArray := prog_3_method_3_code
def yX1_copyFrom : MethodName := ⟨RX1, "copyFrom", "(LHalfAsleep$Standing;)V"⟩
abbrev cX1_awake : ByteArray := prog_3_method_4_code
def yX1_awake : MethodName := ⟨RX1, "awake", "()I"⟩
abbrev cX1_awakeKnows : ByteArray := prog_3_method_5_code
def yX1_awakeKnows : MethodName := ⟨RX1, "awakeKnows", "(I)I"⟩
abbrev cX1_learn : ByteArray := prog_3_method_6_code
def yX1_learn : MethodName := ⟨RX1, "learn", "(II)V"⟩
abbrev cX1_ableTo : ByteArray := prog_3_method_7_code
def yX1_ableTo : MethodName := ⟨RX1, "ableTo", "(II)I"⟩
abbrev cX1_endShifts : ByteArray := prog_3_method_8_code
def yX1_endShifts : MethodName := ⟨RX1, "endShifts", "(LHalfAsleep$Town;I)V"⟩
abbrev cX1_tellOneAnother : ByteArray := prog_3_method_9_code
def yX1_tellOneAnother : MethodName := ⟨RX1, "tellOneAnother", "(II)V"⟩
abbrev cX1_readNotes : ByteArray := prog_3_method_10_code
def yX1_readNotes : MethodName := ⟨RX1, "readNotes", "(I)V"⟩
abbrev cX1_lowest : ByteArray := prog_3_method_11_code
def yX1_lowest : MethodName := ⟨RX1, "lowest", "(II)I"⟩
def RX2 : String := "HalfAsleep$Town"
def TX2 : u_T := fun k => match k with
  | 0 => ("HalfAsleep$Town", "persons", "I", false)
  | 1 => ("HalfAsleep$Town", "skills", "[I", true)
  | 2 => ("HalfAsleep$Town", "knownFirst", "[I", true)
  | 3 => ("HalfAsleep$Town", "trades", "I", false)
  | 4 => ("HalfAsleep$Town", "steps", "[I", true)
  | 5 => ("HalfAsleep$Town", "tradeLengths", "[I", true)
  | 6 => ("HalfAsleep$Town", "openSteps", "I", false)
  | 7 => ("HalfAsleep$Town", "pairs", "I", false)
  | 8 => ("HalfAsleep$Town", "pairHalves", "[I", true)
  | 9 => ("HalfAsleep$Town", "stepsPerShift", "I", false)
  | 10 => ("HalfAsleep$Town", "factsTold", "I", false)
  | 11 => ("HalfAsleep$Town", "coins", "I", false)
  | 12 => ("HalfAsleep$Town", "worthLeft", "I", false)
  | _ => ("HalfAsleep$Town", "worthRight", "I", false)
def tyX2 : Nat → FieldType := fun k => match k with
  | 0 => .int
  | 1 => .array .int
  | 2 => .array .int
  | 3 => .int
  | 4 => .array .int
  | 5 => .array .int
  | 6 => .int
  | 7 => .int
  | 8 => .array .int
  | 9 => .int
  | 10 => .int
  | 11 => .int
  | 12 => .int
  | _ => .int
abbrev wsX20 : List Cond := u_ws RX2 TX2 14
theorem nmX2 : ∀ a, a < 14 → ∀ b, b < 14 → a ≠ b → (TX2 a).2.1 ≠ (TX2 b).2.1 := by decide +kernel
theorem tyX2_ok : ∀ k, k < 14 → parseFieldDescriptor (TX2 k).2.2.1 = some (tyX2 k) := by decide +kernel
abbrev cX2_init : ByteArray := prog_4_method_1_code
def yX2_init : MethodName := ⟨RX2, "<init>", "()V"⟩
abbrev cX2_empty : ByteArray := prog_4_method_2_code
def yX2_empty : MethodName := ⟨RX2, "empty", "()V"⟩
abbrev cX2_addPerson : ByteArray := prog_4_method_3_code
def yX2_addPerson : MethodName := ⟨RX2, "addPerson", "(II)Z"⟩
abbrev cX2_addStep : ByteArray := prog_4_method_4_code
def yX2_addStep : MethodName := ⟨RX2, "addStep", "(I)Z"⟩
abbrev cX2_endTrade : ByteArray := prog_4_method_5_code
def yX2_endTrade : MethodName := ⟨RX2, "endTrade", "()Z"⟩
abbrev cX2_setStepsPerShift : ByteArray := prog_4_method_6_code
def yX2_setStepsPerShift : MethodName := ⟨RX2, "setStepsPerShift", "(I)Z"⟩
abbrev cX2_setFactsTold : ByteArray := prog_4_method_7_code
def yX2_setFactsTold : MethodName := ⟨RX2, "setFactsTold", "(I)Z"⟩
abbrev cX2_setKnown : ByteArray := prog_4_method_8_code
def yX2_setKnown : MethodName := ⟨RX2, "setKnown", "(III)Z"⟩
abbrev cX2_addPair : ByteArray := prog_4_method_9_code
def yX2_addPair : MethodName := ⟨RX2, "addPair", "(IIII)Z"⟩
abbrev cX2_setPurse : ByteArray := prog_4_method_10_code
def yX2_setPurse : MethodName := ⟨RX2, "setPurse", "(III)Z"⟩
abbrev cX2_isHalfHere : ByteArray := prog_4_method_11_code
def yX2_isHalfHere : MethodName := ⟨RX2, "isHalfHere", "(II)Z"⟩
abbrev cX2_hasSkillFor : ByteArray := prog_4_method_12_code
def yX2_hasSkillFor : MethodName := ⟨RX2, "hasSkillFor", "(IIII)Z"⟩
abbrev cX2_shiftsNeeded : ByteArray := prog_4_method_13_code
def yX2_shiftsNeeded : MethodName := ⟨RX2, "shiftsNeeded", "(III)I"⟩
abbrev cX2_stepAfterShift : ByteArray := prog_4_method_14_code
def yX2_stepAfterShift : MethodName := ⟨RX2, "stepAfterShift", "(IIII)I"⟩
abbrev cX2_fewestHandings : ByteArray := prog_4_method_15_code
def yX2_fewestHandings : MethodName := ⟨RX2, "fewestHandings", "(II)I"⟩
abbrev cX2_share : ByteArray := prog_4_method_16_code
def yX2_share : MethodName := ⟨RX2, "share", "(III)I"⟩
abbrev cX2_partings : ByteArray := prog_4_method_17_code
def yX2_partings : MethodName := ⟨RX2, "partings", "(I)I"⟩
abbrev cX2_campOf : ByteArray := prog_4_method_18_code
def yX2_campOf : MethodName := ⟨RX2, "campOf", "(II)I"⟩
abbrev cX2_personByDraw : ByteArray := prog_4_method_19_code
def yX2_personByDraw : MethodName := ⟨RX2, "personByDraw", "(I)I"⟩
def RX3 : String := "HalfAsleep"
def TX3 : u_T := fun k => match k with
  | 0 => ("HalfAsleep", "page", "LHalfAsleep$Page;", true)
  | 1 => ("HalfAsleep", "laid", "LHalfAsleep$Town;", false)
  | 2 => ("HalfAsleep", "draft", "LHalfAsleep$Town;", false)
  | 3 => ("HalfAsleep", "now", "LHalfAsleep$Standing;", true)
  | 4 => ("HalfAsleep", "trial", "LHalfAsleep$Standing;", true)
  | 5 => ("HalfAsleep", "firstKept", "LHalfAsleep$Standing;", true)
  | 6 => ("HalfAsleep", "secondKept", "LHalfAsleep$Standing;", true)
  | 7 => ("HalfAsleep", "keptNumber", "I", false)
  | 8 => ("HalfAsleep", "doers", "[I", true)
  | 9 => ("HalfAsleep", "deeds", "I", false)
  | 10 => ("HalfAsleep", "mostLeft", "[I", true)
  | _ => ("HalfAsleep", "mostRight", "[I", true)
def tyX3 : Nat → FieldType := fun k => match k with
  | 0 => .object "HalfAsleep$Page"
  | 1 => .object "HalfAsleep$Town"
  | 2 => .object "HalfAsleep$Town"
  | 3 => .object "HalfAsleep$Standing"
  | 4 => .object "HalfAsleep$Standing"
  | 5 => .object "HalfAsleep$Standing"
  | 6 => .object "HalfAsleep$Standing"
  | 7 => .int
  | 8 => .array .int
  | 9 => .int
  | 10 => .array .int
  | _ => .array .int
abbrev wsX30 : List Cond := u_ws RX3 TX3 12
theorem nmX3 : ∀ a, a < 12 → ∀ b, b < 12 → a ≠ b → (TX3 a).2.1 ≠ (TX3 b).2.1 := by decide +kernel
theorem tyX3_ok : ∀ k, k < 12 → parseFieldDescriptor (TX3 k).2.2.1 = some (tyX3 k) := by decide +kernel
abbrev cX3_init : ByteArray := prog_1_method_1_code
def yX3_init : MethodName := ⟨RX3, "<init>", "()V"⟩
abbrev cX3_write : ByteArray := prog_1_method_2_code
def yX3_write : MethodName := ⟨RX3, "write", "(IJ)I"⟩
abbrev cX3_wipe : ByteArray := prog_1_method_3_code
def yX3_wipe : MethodName := ⟨RX3, "wipe", "()I"⟩
abbrev cX3_fault : ByteArray := prog_1_method_4_code
def yX3_fault : MethodName := ⟨RX3, "fault", "()I"⟩
abbrev cX3_lay : ByteArray := prog_1_method_5_code
def yX3_lay : MethodName := ⟨RX3, "lay", "()I"⟩
abbrev cX3_half : ByteArray := prog_1_method_6_code
def yX3_half : MethodName := ⟨RX3, "half", "(III)I"⟩
abbrev cX3_see : ByteArray := prog_1_method_7_code
def yX3_see : MethodName := ⟨RX3, "see", "(II)I"⟩
abbrev cX3_note : ByteArray := prog_1_method_8_code
def yX3_note : MethodName := ⟨RX3, "note", "(II)I"⟩
abbrev cX3_deed : ByteArray := prog_1_method_9_code
def yX3_deed : MethodName := ⟨RX3, "deed", "(II)I"⟩
abbrev cX3_shifts : ByteArray := prog_1_method_10_code
def yX3_shifts : MethodName := ⟨RX3, "shifts", "(I)I"⟩
abbrev cX3_done : ByteArray := prog_1_method_11_code
def yX3_done : MethodName := ⟨RX3, "done", "(II)I"⟩
abbrev cX3_handed : ByteArray := prog_1_method_12_code
def yX3_handed : MethodName := ⟨RX3, "handed", "(II)I"⟩
abbrev cX3_best : ByteArray := prog_1_method_13_code
def yX3_best : MethodName := ⟨RX3, "best", "(I)I"⟩
abbrev cX3_knows : ByteArray := prog_1_method_14_code
def yX3_knows : MethodName := ⟨RX3, "knows", "(III)I"⟩
abbrev cX3_could : ByteArray := prog_1_method_15_code
def yX3_could : MethodName := ⟨RX3, "could", "(II)I"⟩
abbrev cX3_alike : ByteArray := prog_1_method_16_code
def yX3_alike : MethodName := ⟨RX3, "alike", "(I)I"⟩
abbrev cX3_purse : ByteArray := prog_1_method_17_code
def yX3_purse : MethodName := ⟨RX3, "purse", "(III)I"⟩
abbrev cX3_rests : ByteArray := prog_1_method_18_code
def yX3_rests : MethodName := ⟨RX3, "rests", "(I)I"⟩
abbrev cX3_camps : ByteArray := prog_1_method_19_code
def yX3_camps : MethodName := ⟨RX3, "camps", "(I)I"⟩
abbrev cX3_seen : ByteArray := prog_1_method_20_code
def yX3_seen : MethodName := ⟨RX3, "seen", "(II)I"⟩
abbrev cX3_forget : ByteArray := prog_1_method_21_code
def yX3_forget : MethodName := ⟨RX3, "forget", "()I"⟩
abbrev cX3_fits : ByteArray := prog_1_method_22_code
def yX3_fits : MethodName := ⟨RX3, "fits", "()I"⟩
abbrev cX3_least : ByteArray := prog_1_method_23_code
def yX3_least : MethodName := ⟨RX3, "least", "()I"⟩
abbrev cX3_month : ByteArray := prog_1_method_24_code
def yX3_month : MethodName := ⟨RX3, "month", "(IIII)I"⟩
abbrev cX3_keep : ByteArray := prog_1_method_25_code
def yX3_keep : MethodName := ⟨RX3, "keep", "()I"⟩
abbrev cX3_back : ByteArray := prog_1_method_26_code
def yX3_back : MethodName := ⟨RX3, "back", "()I"⟩
abbrev cX3_count : ByteArray := prog_1_method_27_code
def yX3_count : MethodName := ⟨RX3, "count", "(I)I"⟩
abbrev cX3_isPerson : ByteArray := prog_1_method_28_code
def yX3_isPerson : MethodName := ⟨RX3, "isPerson", "(I)Z"⟩
abbrev cX3_isTrade : ByteArray := prog_1_method_29_code
def yX3_isTrade : MethodName := ⟨RX3, "isTrade", "(I)Z"⟩
abbrev cX3_isHalf : ByteArray := prog_1_method_30_code
def yX3_isHalf : MethodName := ⟨RX3, "isHalf", "(I)Z"⟩
abbrev cX3_isFact : ByteArray := prog_1_method_31_code
def yX3_isFact : MethodName := ⟨RX3, "isFact", "(I)Z"⟩
abbrev cX3_areFacts : ByteArray := prog_1_method_32_code
def yX3_areFacts : MethodName := ⟨RX3, "areFacts", "(I)Z"⟩
abbrev cX3_isAhead : ByteArray := prog_1_method_33_code
def yX3_isAhead : MethodName := ⟨RX3, "isAhead", "(I)Z"⟩
abbrev cX3_isTake : ByteArray := prog_1_method_34_code
def yX3_isTake : MethodName := ⟨RX3, "isTake", "(I)Z"⟩
abbrev cX3_holdsAll : ByteArray := prog_1_method_35_code
def yX3_holdsAll : MethodName := ⟨RX3, "holdsAll", "(II)Z"⟩
abbrev cX3_draw : ByteArray := prog_1_method_36_code
def yX3_draw : MethodName := ⟨RX3, "draw", "(II)I"⟩
abbrev cX3_keptPlace : ByteArray := prog_1_method_37_code
def yX3_keptPlace : MethodName := ⟨RX3, "keptPlace", "(I)LHalfAsleep$Standing;"⟩
abbrev cX3_explainsAllDeeds : ByteArray := prog_1_method_38_code
def yX3_explainsAllDeeds : MethodName := ⟨RX3, "explainsAllDeeds", "(I)Z"⟩
abbrev cX3_findMostByTakes : ByteArray := prog_1_method_39_code
def yX3_findMostByTakes : MethodName := ⟨RX3, "findMostByTakes", "()V"⟩
def RX4 : String := "HalfAsleepModel"
def TX4 : u_T := fun k => match k with
  | 0 => ("HalfAsleepModel", "text", "[I", true)
  | 1 => ("HalfAsleepModel", "length", "I", false)
  | 2 => ("HalfAsleepModel", "book", "[I", true)
  | 3 => ("HalfAsleepModel", "draft", "[I", true)
  | 4 => ("HalfAsleepModel", "s", "[I", true)
  | 5 => ("HalfAsleepModel", "ahead", "[I", true)
  | 6 => ("HalfAsleepModel", "kept", "[I", true)
  | 7 => ("HalfAsleepModel", "keptMany", "I", false)
  | 8 => ("HalfAsleepModel", "deedShift", "[I", true)
  | 9 => ("HalfAsleepModel", "deedFacts", "[I", true)
  | 10 => ("HalfAsleepModel", "can", "[I", true)
  | 11 => ("HalfAsleepModel", "deeds", "I", false)
  | 12 => ("HalfAsleepModel", "at", "I", false)
  | _ => ("HalfAsleepModel", "told", "[I", true)
def tyX4 : Nat → FieldType := fun k => match k with
  | 0 => .array .int
  | 1 => .int
  | 2 => .array .int
  | 3 => .array .int
  | 4 => .array .int
  | 5 => .array .int
  | 6 => .array .int
  | 7 => .int
  | 8 => .array .int
  | 9 => .array .int
  | 10 => .array .int
  | 11 => .int
  | 12 => .int
  | _ => .array .int
abbrev wsX40 : List Cond := u_ws RX4 TX4 14
theorem nmX4 : ∀ a, a < 14 → ∀ b, b < 14 → a ≠ b → (TX4 a).2.1 ≠ (TX4 b).2.1 := by decide +kernel
theorem tyX4_ok : ∀ k, k < 14 → parseFieldDescriptor (TX4 k).2.2.1 = some (tyX4 k) := by decide +kernel
abbrev cX4_init : ByteArray := prog_6_method_1_code
def yX4_init : MethodName := ⟨RX4, "<init>", "()V"⟩
abbrev cX4_in : ByteArray := prog_6_method_3_code
def yX4_in : MethodName := ⟨RX4, "in", "(III)Z"⟩
abbrev cX4_isPerson : ByteArray := prog_6_method_4_code
def yX4_isPerson : MethodName := ⟨RX4, "isPerson", "(I)Z"⟩
abbrev cX4_isTrade : ByteArray := prog_6_method_5_code
def yX4_isTrade : MethodName := ⟨RX4, "isTrade", "(I)Z"⟩
abbrev cX4_isSet : ByteArray := prog_6_method_6_code
def yX4_isSet : MethodName := ⟨RX4, "isSet", "(I)Z"⟩
abbrev cX4_write : ByteArray := prog_6_method_7_code
def yX4_write : MethodName := ⟨RX4, "write", "(IJ)I"⟩
abbrev cX4_wipe : ByteArray := prog_6_method_8_code
def yX4_wipe : MethodName := ⟨RX4, "wipe", "()I"⟩
abbrev cX4_byteAt : ByteArray := prog_6_method_9_code
def yX4_byteAt : MethodName := ⟨RX4, "byteAt", "(I)I"⟩
abbrev cX4_isFigure : ByteArray := prog_6_method_10_code
def yX4_isFigure : MethodName := ⟨RX4, "isFigure", "()Z"⟩
abbrev cX4_numbers : ByteArray := prog_6_method_11_code
def yX4_numbers : MethodName := ⟨RX4, "numbers", "(I)Z"⟩
abbrev cX4_person : ByteArray := prog_6_method_12_code
def yX4_person : MethodName := ⟨RX4, "person", "()Z"⟩
abbrev cX4_trade : ByteArray := prog_6_method_13_code
def yX4_trade : MethodName := ⟨RX4, "trade", "()Z"⟩
abbrev cX4_isHalf : ByteArray := prog_6_method_14_code
def yX4_isHalf : MethodName := ⟨RX4, "isHalf", "(I)Z"⟩
abbrev cX4_known : ByteArray := prog_6_method_15_code
def yX4_known : MethodName := ⟨RX4, "known", "()Z"⟩
abbrev cX4_married : ByteArray := prog_6_method_16_code
def yX4_married : MethodName := ⟨RX4, "married", "()Z"⟩
abbrev cX4_pursed : ByteArray := prog_6_method_17_code
def yX4_pursed : MethodName := ⟨RX4, "pursed", "()Z"⟩
abbrev cX4_one : ByteArray := prog_6_method_18_code
def yX4_one : MethodName := ⟨RX4, "one", "(III)Z"⟩
abbrev cX4_item : ByteArray := prog_6_method_19_code
def yX4_item : MethodName := ⟨RX4, "item", "()Z"⟩
abbrev cX4_reads : ByteArray := prog_6_method_20_code
def yX4_reads : MethodName := ⟨RX4, "reads", "()I"⟩
abbrev cX4_fault : ByteArray := prog_6_method_21_code
def yX4_fault : MethodName := ⟨RX4, "fault", "()I"⟩
abbrev cX4_lay : ByteArray := prog_6_method_22_code
def yX4_lay : MethodName := ⟨RX4, "lay", "()I"⟩
abbrev cX4_awake : ByteArray := prog_6_method_23_code
def yX4_awake : MethodName := ⟨RX4, "awake", "()I"⟩
abbrev cX4_half : ByteArray := prog_6_method_24_code
def yX4_half : MethodName := ⟨RX4, "half", "(III)I"⟩
abbrev cX4_see : ByteArray := prog_6_method_25_code
def yX4_see : MethodName := ⟨RX4, "see", "(II)I"⟩
abbrev cX4_note : ByteArray := prog_6_method_26_code
def yX4_note : MethodName := ⟨RX4, "note", "(II)I"⟩
abbrev cX4_deed : ByteArray := prog_6_method_27_code
def yX4_deed : MethodName := ⟨RX4, "deed", "(II)I"⟩
abbrev cX4_tells : ByteArray := prog_6_method_28_code
def yX4_tells : MethodName := ⟨RX4, "tells", "(II)I"⟩
abbrev cX4_ends : ByteArray := prog_6_method_29_code
def yX4_ends : MethodName := ⟨RX4, "ends", "()V"⟩
abbrev cX4_plays : ByteArray := prog_6_method_30_code
def yX4_plays : MethodName := ⟨RX4, "plays", "(I)V"⟩
abbrev cX4_shifts : ByteArray := prog_6_method_31_code
def yX4_shifts : MethodName := ⟨RX4, "shifts", "(I)I"⟩
abbrev cX4_has : ByteArray := prog_6_method_32_code
def yX4_has : MethodName := ⟨RX4, "has", "(IIII)Z"⟩
abbrev cX4_doneBy : ByteArray := prog_6_method_33_code
def yX4_doneBy : MethodName := ⟨RX4, "doneBy", "(II)I"⟩
abbrev cX4_done : ByteArray := prog_6_method_34_code
def yX4_done : MethodName := ⟨RX4, "done", "(II)I"⟩
abbrev cX4_handed : ByteArray := prog_6_method_35_code
def yX4_handed : MethodName := ⟨RX4, "handed", "(II)I"⟩
abbrev cX4_best : ByteArray := prog_6_method_36_code
def yX4_best : MethodName := ⟨RX4, "best", "(I)I"⟩
abbrev cX4_knows : ByteArray := prog_6_method_37_code
def yX4_knows : MethodName := ⟨RX4, "knows", "(III)I"⟩
abbrev cX4_whoKnow : ByteArray := prog_6_method_38_code
def yX4_whoKnow : MethodName := ⟨RX4, "whoKnow", "(I)I"⟩
abbrev cX4_could : ByteArray := prog_6_method_39_code
def yX4_could : MethodName := ⟨RX4, "could", "(II)I"⟩
abbrev cX4_alike : ByteArray := prog_6_method_40_code
def yX4_alike : MethodName := ⟨RX4, "alike", "(I)I"⟩
abbrev cX4_holds : ByteArray := prog_6_method_41_code
def yX4_holds : MethodName := ⟨RX4, "holds", "(III)I"⟩
abbrev cX4_purse : ByteArray := prog_6_method_42_code
def yX4_purse : MethodName := ⟨RX4, "purse", "(III)I"⟩
abbrev cX4_rest : ByteArray := prog_6_method_43_code
def yX4_rest : MethodName := ⟨RX4, "rest", "(II)Z"⟩
abbrev cX4_rests : ByteArray := prog_6_method_44_code
def yX4_rests : MethodName := ⟨RX4, "rests", "(I)I"⟩
abbrev cX4_camp : ByteArray := prog_6_method_45_code
def yX4_camp : MethodName := ⟨RX4, "camp", "(II)I"⟩
abbrev cX4_parts : ByteArray := prog_6_method_46_code
def yX4_parts : MethodName := ⟨RX4, "parts", "(I)I"⟩
abbrev cX4_camps : ByteArray := prog_6_method_47_code
def yX4_camps : MethodName := ⟨RX4, "camps", "(I)I"⟩
abbrev cX4_seen : ByteArray := prog_6_method_48_code
def yX4_seen : MethodName := ⟨RX4, "seen", "(II)I"⟩
abbrev cX4_forget : ByteArray := prog_6_method_49_code
def yX4_forget : MethodName := ⟨RX4, "forget", "()I"⟩
abbrev cX4_finds : ByteArray := prog_6_method_50_code
def yX4_finds : MethodName := ⟨RX4, "finds", "()V"⟩
abbrev cX4_fits : ByteArray := prog_6_method_51_code
def yX4_fits : MethodName := ⟨RX4, "fits", "()I"⟩
abbrev cX4_least : ByteArray := prog_6_method_52_code
def yX4_least : MethodName := ⟨RX4, "least", "()I"⟩
abbrev cX4_month : ByteArray := prog_6_method_53_code
def yX4_month : MethodName := ⟨RX4, "month", "(IIII)I"⟩
abbrev cX4_keep : ByteArray := prog_6_method_54_code
def yX4_keep : MethodName := ⟨RX4, "keep", "()I"⟩
abbrev cX4_back : ByteArray := prog_6_method_55_code
def yX4_back : MethodName := ⟨RX4, "back", "()I"⟩
abbrev cX4_count : ByteArray := prog_6_method_56_code
def yX4_count : MethodName := ⟨RX4, "count", "(I)I"⟩
def RJ6 : String := "java/lang/Integer"
abbrev cJ6_bitCount_0f7a4 : ByteArray := prog_7_method_49_code
def yJ6_bitCount_0f7a4 : MethodName := ⟨RJ6, "bitCount", "(I)I"⟩
def RJ9 : String := "java/lang/Math"
abbrev cJ9_max_7cf53 : ByteArray := prog_8_method_65_code
def yJ9_max_7cf53 : MethodName := ⟨RJ9, "max", "(II)I"⟩
abbrev cJ9_min_7cf53 : ByteArray := prog_8_method_69_code
def yJ9_min_7cf53 : MethodName := ⟨RJ9, "min", "(II)I"⟩
def RJ10 : String := "java/lang/System"
def RL : String := "HalfAsleepLaw"
abbrev cL_law : ByteArray := code
def yL_law : MethodName := ⟨RL, "law", "([I)Z"⟩
abbrev vwCl : List vw_C := [(RX0, TX0, 4), (RX1, TX1, 3), (RX2, TX2, 14), (RX3, TX3, 12), (RX4, TX4, 14)]
theorem inX0 : ∀ w ∈ wsX00, w ∈ lw_tbl := by decide +kernel
theorem inX1 : ∀ w ∈ wsX10, w ∈ lw_tbl := by decide +kernel
theorem inX2 : ∀ w ∈ wsX20, w ∈ lw_tbl := by decide +kernel
theorem inX3 : ∀ w ∈ wsX30, w ∈ lw_tbl := by decide +kernel
theorem inX4 : ∀ w ∈ wsX40, w ∈ lw_tbl := by decide +kernel
def isNest : Cond → Bool
  | .fieldLinkNest .. => true
  | .methodLinkNest .. => true
  | _ => false
def tb : List Cond := lw_tbl.filter goodWord
def nst : List Cond := lw_tbl.filter isNest
end
section
theorem dX0_init_0 : decode cX0_init 0 = .ok (.aload_n 0, 1) := by decide +kernel
theorem dX0_init_1 : decode cX0_init 1 = .ok (.invokespecial 3, 3) := by decide +kernel
theorem dX0_init_4 : decode cX0_init 4 = .ok (.aload_n 0, 1) := by decide +kernel
theorem dX0_init_5 : decode cX0_init 5 = .ok (.sipush 300, 3) := by decide +kernel
theorem dX0_init_8 : decode cX0_init 8 = .ok (.newarray .byte, 2) := by decide +kernel
theorem dX0_init_10 : decode cX0_init 10 = .ok (.putfield 9, 3) := by decide +kernel
theorem dX0_init_13 : decode cX0_init 13 = .ok (.aload_n 0, 1) := by decide +kernel
theorem dX0_init_14 : decode cX0_init 14 = .ok (.iconst 4, 1) := by decide +kernel
theorem dX0_init_15 : decode cX0_init 15 = .ok (.newarray .int, 2) := by decide +kernel
theorem dX0_init_17 : decode cX0_init 17 = .ok (.putfield 15, 3) := by decide +kernel
theorem dX0_init_20 : decode cX0_init 20 = .ok (.return_, 1) := by decide +kernel
theorem dX0_append_0 : decode cX0_append 0 = .ok (.aload_n 0, 1) := by decide +kernel
theorem dX0_append_1 : decode cX0_append 1 = .ok (.getfield 19, 3) := by decide +kernel
theorem dX0_append_4 : decode cX0_append 4 = .ok (.sipush 300, 3) := by decide +kernel
theorem dX0_append_7 : decode cX0_append 7 = .ok (.if_icmp .ge 23, 3) := by decide +kernel
theorem dX0_append_10 : decode cX0_append 10 = .ok (.aload_n 0, 1) := by decide +kernel
theorem dX0_append_11 : decode cX0_append 11 = .ok (.getfield 9, 3) := by decide +kernel
theorem dX0_append_14 : decode cX0_append 14 = .ok (.aload_n 0, 1) := by decide +kernel
theorem dX0_append_15 : decode cX0_append 15 = .ok (.getfield 19, 3) := by decide +kernel
theorem dX0_append_18 : decode cX0_append 18 = .ok (.iload_n 1, 1) := by decide +kernel
theorem dX0_append_19 : decode cX0_append 19 = .ok (.bastore, 1) := by decide +kernel
theorem dX0_append_20 : decode cX0_append 20 = .ok (.aload_n 0, 1) := by decide +kernel
theorem dX0_append_21 : decode cX0_append 21 = .ok (.dup, 1) := by decide +kernel
theorem dX0_append_22 : decode cX0_append 22 = .ok (.getfield 19, 3) := by decide +kernel
theorem dX0_append_25 : decode cX0_append 25 = .ok (.iconst 1, 1) := by decide +kernel
theorem dX0_append_26 : decode cX0_append 26 = .ok (.iadd, 1) := by decide +kernel
theorem dX0_append_27 : decode cX0_append 27 = .ok (.putfield 19, 3) := by decide +kernel
theorem dX0_append_30 : decode cX0_append 30 = .ok (.return_, 1) := by decide +kernel
theorem dX0_readInto_0 : decode cX0_readInto 0 = .ok (.aload_n 1, 1) := by decide +kernel
theorem dX0_readInto_1 : decode cX0_readInto 1 = .ok (.invokevirtual 23, 3) := by decide +kernel
theorem dX0_readInto_4 : decode cX0_readInto 4 = .ok (.aload_n 0, 1) := by decide +kernel
theorem dX0_readInto_5 : decode cX0_readInto 5 = .ok (.iconst 0, 1) := by decide +kernel
theorem dX0_readInto_6 : decode cX0_readInto 6 = .ok (.putfield 28, 3) := by decide +kernel
theorem dX0_readInto_9 : decode cX0_readInto 9 = .ok (.iconst 0, 1) := by decide +kernel
theorem dX0_readInto_10 : decode cX0_readInto 10 = .ok (.istore_n 2, 1) := by decide +kernel
theorem dX0_readInto_11 : decode cX0_readInto 11 = .ok (.iload_n 2, 1) := by decide +kernel
theorem dX0_readInto_12 : decode cX0_readInto 12 = .ok (.sipush 300, 3) := by decide +kernel
theorem dX0_readInto_15 : decode cX0_readInto 15 = .ok (.if_icmp .ge 35, 3) := by decide +kernel
theorem dX0_readInto_18 : decode cX0_readInto 18 = .ok (.aload_n 0, 1) := by decide +kernel
theorem dX0_readInto_19 : decode cX0_readInto 19 = .ok (.getfield 28, 3) := by decide +kernel
theorem dX0_readInto_22 : decode cX0_readInto 22 = .ok (.aload_n 0, 1) := by decide +kernel
theorem dX0_readInto_23 : decode cX0_readInto 23 = .ok (.getfield 19, 3) := by decide +kernel
theorem dX0_readInto_26 : decode cX0_readInto 26 = .ok (.if_icmp .ge 24, 3) := by decide +kernel
theorem dX0_readInto_29 : decode cX0_readInto 29 = .ok (.aload_n 0, 1) := by decide +kernel
theorem dX0_readInto_30 : decode cX0_readInto 30 = .ok (.getfield 28, 3) := by decide +kernel
theorem dX0_readInto_33 : decode cX0_readInto 33 = .ok (.istore_n 3, 1) := by decide +kernel
theorem dX0_readInto_34 : decode cX0_readInto 34 = .ok (.aload_n 0, 1) := by decide +kernel
theorem dX0_readInto_35 : decode cX0_readInto 35 = .ok (.aload_n 1, 1) := by decide +kernel
theorem dX0_readInto_36 : decode cX0_readInto 36 = .ok (.invokevirtual 31, 3) := by decide +kernel
theorem dX0_readInto_39 : decode cX0_readInto 39 = .ok (.ifCond .ne 5, 3) := by decide +kernel
theorem dX0_readInto_42 : decode cX0_readInto 42 = .ok (.iload_n 3, 1) := by decide +kernel
theorem dX0_readInto_43 : decode cX0_readInto 43 = .ok (.ireturn, 1) := by decide +kernel
theorem dX0_readInto_44 : decode cX0_readInto 44 = .ok (.iinc 2 1, 3) := by decide +kernel
theorem dX0_readInto_47 : decode cX0_readInto 47 = .ok (.goto (-36), 3) := by decide +kernel
theorem dX0_readInto_50 : decode cX0_readInto 50 = .ok (.bipush (-4), 2) := by decide +kernel
theorem dX0_readInto_52 : decode cX0_readInto 52 = .ok (.ireturn, 1) := by decide +kernel
theorem dX0_readItem_0 : decode cX0_readItem 0 = .ok (.aload_n 0, 1) := by decide +kernel
theorem dX0_readItem_1 : decode cX0_readItem 1 = .ok (.invokevirtual 35, 3) := by decide +kernel
theorem dX0_readItem_4 : decode cX0_readItem 4 = .ok (.istore_n 2, 1) := by decide +kernel
theorem dX0_readItem_5 : decode cX0_readItem 5 = .ok (.aload_n 0, 1) := by decide +kernel
theorem dX0_readItem_6 : decode cX0_readItem 6 = .ok (.dup, 1) := by decide +kernel
theorem dX0_readItem_7 : decode cX0_readItem 7 = .ok (.getfield 28, 3) := by decide +kernel
theorem dX0_readItem_10 : decode cX0_readItem 10 = .ok (.iconst 1, 1) := by decide +kernel
theorem dX0_readItem_11 : decode cX0_readItem 11 = .ok (.iadd, 1) := by decide +kernel
theorem dX0_readItem_12 : decode cX0_readItem 12 = .ok (.putfield 28, 3) := by decide +kernel
theorem dX0_readItem_15 : decode cX0_readItem 15 = .ok (.iload_n 2, 1) := by decide +kernel
theorem dX0_readItem_16 : decode cX0_readItem 16 = .ok (.tableswitch 323 99 117 #[146, 323, 323, 323, 323, 323, 323, 125, 200, 323, 239, 173, 323, 92, 323, 323, 323, 323, 284], 92) := by decide +kernel
theorem dX0_readItem_108 : decode cX0_readItem 108 = .ok (.aload_n 0, 1) := by decide +kernel
theorem dX0_readItem_109 : decode cX0_readItem 109 = .ok (.iconst 2, 1) := by decide +kernel
theorem dX0_readItem_110 : decode cX0_readItem 110 = .ok (.invokevirtual 39, 3) := by decide +kernel
theorem dX0_readItem_113 : decode cX0_readItem 113 = .ok (.ifCond .eq 26, 3) := by decide +kernel
theorem dX0_readItem_116 : decode cX0_readItem 116 = .ok (.aload_n 1, 1) := by decide +kernel
theorem dX0_readItem_117 : decode cX0_readItem 117 = .ok (.aload_n 0, 1) := by decide +kernel
theorem dX0_readItem_118 : decode cX0_readItem 118 = .ok (.getfield 15, 3) := by decide +kernel
theorem dX0_readItem_121 : decode cX0_readItem 121 = .ok (.iconst 0, 1) := by decide +kernel
theorem dX0_readItem_122 : decode cX0_readItem 122 = .ok (.iaload, 1) := by decide +kernel
theorem dX0_readItem_123 : decode cX0_readItem 123 = .ok (.aload_n 0, 1) := by decide +kernel
theorem dX0_readItem_124 : decode cX0_readItem 124 = .ok (.getfield 15, 3) := by decide +kernel
theorem dX0_readItem_127 : decode cX0_readItem 127 = .ok (.iconst 1, 1) := by decide +kernel
theorem dX0_readItem_128 : decode cX0_readItem 128 = .ok (.iaload, 1) := by decide +kernel
theorem dX0_readItem_129 : decode cX0_readItem 129 = .ok (.invokevirtual 43, 3) := by decide +kernel
theorem dX0_readItem_132 : decode cX0_readItem 132 = .ok (.ifCond .eq 7, 3) := by decide +kernel
theorem dX0_readItem_135 : decode cX0_readItem 135 = .ok (.iconst 1, 1) := by decide +kernel
theorem dX0_readItem_136 : decode cX0_readItem 136 = .ok (.goto 4, 3) := by decide +kernel
theorem dX0_readItem_139 : decode cX0_readItem 139 = .ok (.iconst 0, 1) := by decide +kernel
theorem dX0_readItem_140 : decode cX0_readItem 140 = .ok (.ireturn, 1) := by decide +kernel
theorem dX0_readItem_141 : decode cX0_readItem 141 = .ok (.aload_n 0, 1) := by decide +kernel
theorem dX0_readItem_142 : decode cX0_readItem 142 = .ok (.aload_n 1, 1) := by decide +kernel
theorem dX0_readItem_143 : decode cX0_readItem 143 = .ok (.invokevirtual 47, 3) := by decide +kernel
theorem dX0_readItem_146 : decode cX0_readItem 146 = .ok (.ifCond .eq 14, 3) := by decide +kernel
theorem dX0_readItem_149 : decode cX0_readItem 149 = .ok (.aload_n 1, 1) := by decide +kernel
theorem dX0_readItem_150 : decode cX0_readItem 150 = .ok (.invokevirtual 50, 3) := by decide +kernel
theorem dX0_readItem_153 : decode cX0_readItem 153 = .ok (.ifCond .eq 7, 3) := by decide +kernel
theorem dX0_readItem_156 : decode cX0_readItem 156 = .ok (.iconst 1, 1) := by decide +kernel
theorem dX0_readItem_157 : decode cX0_readItem 157 = .ok (.goto 4, 3) := by decide +kernel
theorem dX0_readItem_160 : decode cX0_readItem 160 = .ok (.iconst 0, 1) := by decide +kernel
theorem dX0_readItem_161 : decode cX0_readItem 161 = .ok (.ireturn, 1) := by decide +kernel
theorem dX0_readItem_162 : decode cX0_readItem 162 = .ok (.aload_n 0, 1) := by decide +kernel
theorem dX0_readItem_163 : decode cX0_readItem 163 = .ok (.iconst 1, 1) := by decide +kernel
theorem dX0_readItem_164 : decode cX0_readItem 164 = .ok (.invokevirtual 39, 3) := by decide +kernel
theorem dX0_readItem_167 : decode cX0_readItem 167 = .ok (.ifCond .eq 20, 3) := by decide +kernel
theorem dX0_readItem_170 : decode cX0_readItem 170 = .ok (.aload_n 1, 1) := by decide +kernel
theorem dX0_readItem_171 : decode cX0_readItem 171 = .ok (.aload_n 0, 1) := by decide +kernel
theorem dX0_readItem_172 : decode cX0_readItem 172 = .ok (.getfield 15, 3) := by decide +kernel
theorem dX0_readItem_175 : decode cX0_readItem 175 = .ok (.iconst 0, 1) := by decide +kernel
theorem dX0_readItem_176 : decode cX0_readItem 176 = .ok (.iaload, 1) := by decide +kernel
theorem dX0_readItem_177 : decode cX0_readItem 177 = .ok (.invokevirtual 54, 3) := by decide +kernel
theorem dX0_readItem_180 : decode cX0_readItem 180 = .ok (.ifCond .eq 7, 3) := by decide +kernel
theorem dX0_readItem_183 : decode cX0_readItem 183 = .ok (.iconst 1, 1) := by decide +kernel
theorem dX0_readItem_184 : decode cX0_readItem 184 = .ok (.goto 4, 3) := by decide +kernel
theorem dX0_readItem_187 : decode cX0_readItem 187 = .ok (.iconst 0, 1) := by decide +kernel
theorem dX0_readItem_188 : decode cX0_readItem 188 = .ok (.ireturn, 1) := by decide +kernel
theorem dX0_readItem_189 : decode cX0_readItem 189 = .ok (.aload_n 0, 1) := by decide +kernel
theorem dX0_readItem_190 : decode cX0_readItem 190 = .ok (.iconst 1, 1) := by decide +kernel
theorem dX0_readItem_191 : decode cX0_readItem 191 = .ok (.invokevirtual 39, 3) := by decide +kernel
theorem dX0_readItem_194 : decode cX0_readItem 194 = .ok (.ifCond .eq 20, 3) := by decide +kernel
theorem dX0_readItem_197 : decode cX0_readItem 197 = .ok (.aload_n 1, 1) := by decide +kernel
theorem dX0_readItem_198 : decode cX0_readItem 198 = .ok (.aload_n 0, 1) := by decide +kernel
theorem dX0_readItem_199 : decode cX0_readItem 199 = .ok (.getfield 15, 3) := by decide +kernel
theorem dX0_readItem_202 : decode cX0_readItem 202 = .ok (.iconst 0, 1) := by decide +kernel
theorem dX0_readItem_203 : decode cX0_readItem 203 = .ok (.iaload, 1) := by decide +kernel
theorem dX0_readItem_204 : decode cX0_readItem 204 = .ok (.invokevirtual 57, 3) := by decide +kernel
theorem dX0_readItem_207 : decode cX0_readItem 207 = .ok (.ifCond .eq 7, 3) := by decide +kernel
theorem dX0_readItem_210 : decode cX0_readItem 210 = .ok (.iconst 1, 1) := by decide +kernel
theorem dX0_readItem_211 : decode cX0_readItem 211 = .ok (.goto 4, 3) := by decide +kernel
theorem dX0_readItem_214 : decode cX0_readItem 214 = .ok (.iconst 0, 1) := by decide +kernel
theorem dX0_readItem_215 : decode cX0_readItem 215 = .ok (.ireturn, 1) := by decide +kernel
theorem dX0_readItem_216 : decode cX0_readItem 216 = .ok (.aload_n 0, 1) := by decide +kernel
theorem dX0_readItem_217 : decode cX0_readItem 217 = .ok (.iconst 3, 1) := by decide +kernel
theorem dX0_readItem_218 : decode cX0_readItem 218 = .ok (.invokevirtual 39, 3) := by decide +kernel
theorem dX0_readItem_221 : decode cX0_readItem 221 = .ok (.ifCond .eq 32, 3) := by decide +kernel
theorem dX0_readItem_224 : decode cX0_readItem 224 = .ok (.aload_n 1, 1) := by decide +kernel
theorem dX0_readItem_225 : decode cX0_readItem 225 = .ok (.aload_n 0, 1) := by decide +kernel
theorem dX0_readItem_226 : decode cX0_readItem 226 = .ok (.getfield 15, 3) := by decide +kernel
theorem dX0_readItem_229 : decode cX0_readItem 229 = .ok (.iconst 0, 1) := by decide +kernel
theorem dX0_readItem_230 : decode cX0_readItem 230 = .ok (.iaload, 1) := by decide +kernel
theorem dX0_readItem_231 : decode cX0_readItem 231 = .ok (.aload_n 0, 1) := by decide +kernel
theorem dX0_readItem_232 : decode cX0_readItem 232 = .ok (.getfield 15, 3) := by decide +kernel
theorem dX0_readItem_235 : decode cX0_readItem 235 = .ok (.iconst 1, 1) := by decide +kernel
theorem dX0_readItem_236 : decode cX0_readItem 236 = .ok (.iaload, 1) := by decide +kernel
theorem dX0_readItem_237 : decode cX0_readItem 237 = .ok (.aload_n 0, 1) := by decide +kernel
theorem dX0_readItem_238 : decode cX0_readItem 238 = .ok (.getfield 15, 3) := by decide +kernel
theorem dX0_readItem_241 : decode cX0_readItem 241 = .ok (.iconst 2, 1) := by decide +kernel
theorem dX0_readItem_242 : decode cX0_readItem 242 = .ok (.iaload, 1) := by decide +kernel
theorem dX0_readItem_243 : decode cX0_readItem 243 = .ok (.invokevirtual 60, 3) := by decide +kernel
theorem dX0_readItem_246 : decode cX0_readItem 246 = .ok (.ifCond .eq 7, 3) := by decide +kernel
theorem dX0_readItem_249 : decode cX0_readItem 249 = .ok (.iconst 1, 1) := by decide +kernel
theorem dX0_readItem_250 : decode cX0_readItem 250 = .ok (.goto 4, 3) := by decide +kernel
theorem dX0_readItem_253 : decode cX0_readItem 253 = .ok (.iconst 0, 1) := by decide +kernel
theorem dX0_readItem_254 : decode cX0_readItem 254 = .ok (.ireturn, 1) := by decide +kernel
theorem dX0_readItem_255 : decode cX0_readItem 255 = .ok (.aload_n 0, 1) := by decide +kernel
theorem dX0_readItem_256 : decode cX0_readItem 256 = .ok (.iconst 4, 1) := by decide +kernel
theorem dX0_readItem_257 : decode cX0_readItem 257 = .ok (.invokevirtual 39, 3) := by decide +kernel
theorem dX0_readItem_260 : decode cX0_readItem 260 = .ok (.ifCond .eq 38, 3) := by decide +kernel
theorem dX0_readItem_263 : decode cX0_readItem 263 = .ok (.aload_n 1, 1) := by decide +kernel
theorem dX0_readItem_264 : decode cX0_readItem 264 = .ok (.aload_n 0, 1) := by decide +kernel
theorem dX0_readItem_265 : decode cX0_readItem 265 = .ok (.getfield 15, 3) := by decide +kernel
theorem dX0_readItem_268 : decode cX0_readItem 268 = .ok (.iconst 0, 1) := by decide +kernel
theorem dX0_readItem_269 : decode cX0_readItem 269 = .ok (.iaload, 1) := by decide +kernel
theorem dX0_readItem_270 : decode cX0_readItem 270 = .ok (.aload_n 0, 1) := by decide +kernel
theorem dX0_readItem_271 : decode cX0_readItem 271 = .ok (.getfield 15, 3) := by decide +kernel
theorem dX0_readItem_274 : decode cX0_readItem 274 = .ok (.iconst 1, 1) := by decide +kernel
theorem dX0_readItem_275 : decode cX0_readItem 275 = .ok (.iaload, 1) := by decide +kernel
theorem dX0_readItem_276 : decode cX0_readItem 276 = .ok (.aload_n 0, 1) := by decide +kernel
theorem dX0_readItem_277 : decode cX0_readItem 277 = .ok (.getfield 15, 3) := by decide +kernel
theorem dX0_readItem_280 : decode cX0_readItem 280 = .ok (.iconst 2, 1) := by decide +kernel
theorem dX0_readItem_281 : decode cX0_readItem 281 = .ok (.iaload, 1) := by decide +kernel
theorem dX0_readItem_282 : decode cX0_readItem 282 = .ok (.aload_n 0, 1) := by decide +kernel
theorem dX0_readItem_283 : decode cX0_readItem 283 = .ok (.getfield 15, 3) := by decide +kernel
theorem dX0_readItem_286 : decode cX0_readItem 286 = .ok (.iconst 3, 1) := by decide +kernel
theorem dX0_readItem_287 : decode cX0_readItem 287 = .ok (.iaload, 1) := by decide +kernel
theorem dX0_readItem_288 : decode cX0_readItem 288 = .ok (.invokevirtual 64, 3) := by decide +kernel
theorem dX0_readItem_291 : decode cX0_readItem 291 = .ok (.ifCond .eq 7, 3) := by decide +kernel
theorem dX0_readItem_294 : decode cX0_readItem 294 = .ok (.iconst 1, 1) := by decide +kernel
theorem dX0_readItem_295 : decode cX0_readItem 295 = .ok (.goto 4, 3) := by decide +kernel
theorem dX0_readItem_298 : decode cX0_readItem 298 = .ok (.iconst 0, 1) := by decide +kernel
theorem dX0_readItem_299 : decode cX0_readItem 299 = .ok (.ireturn, 1) := by decide +kernel
theorem dX0_readItem_300 : decode cX0_readItem 300 = .ok (.aload_n 0, 1) := by decide +kernel
theorem dX0_readItem_301 : decode cX0_readItem 301 = .ok (.iconst 3, 1) := by decide +kernel
theorem dX0_readItem_302 : decode cX0_readItem 302 = .ok (.invokevirtual 39, 3) := by decide +kernel
theorem dX0_readItem_305 : decode cX0_readItem 305 = .ok (.ifCond .eq 32, 3) := by decide +kernel
theorem dX0_readItem_308 : decode cX0_readItem 308 = .ok (.aload_n 1, 1) := by decide +kernel
theorem dX0_readItem_309 : decode cX0_readItem 309 = .ok (.aload_n 0, 1) := by decide +kernel
theorem dX0_readItem_310 : decode cX0_readItem 310 = .ok (.getfield 15, 3) := by decide +kernel
theorem dX0_readItem_313 : decode cX0_readItem 313 = .ok (.iconst 0, 1) := by decide +kernel
theorem dX0_readItem_314 : decode cX0_readItem 314 = .ok (.iaload, 1) := by decide +kernel
theorem dX0_readItem_315 : decode cX0_readItem 315 = .ok (.aload_n 0, 1) := by decide +kernel
theorem dX0_readItem_316 : decode cX0_readItem 316 = .ok (.getfield 15, 3) := by decide +kernel
theorem dX0_readItem_319 : decode cX0_readItem 319 = .ok (.iconst 1, 1) := by decide +kernel
theorem dX0_readItem_320 : decode cX0_readItem 320 = .ok (.iaload, 1) := by decide +kernel
theorem dX0_readItem_321 : decode cX0_readItem 321 = .ok (.aload_n 0, 1) := by decide +kernel
theorem dX0_readItem_322 : decode cX0_readItem 322 = .ok (.getfield 15, 3) := by decide +kernel
theorem dX0_readItem_325 : decode cX0_readItem 325 = .ok (.iconst 2, 1) := by decide +kernel
theorem dX0_readItem_326 : decode cX0_readItem 326 = .ok (.iaload, 1) := by decide +kernel
theorem dX0_readItem_327 : decode cX0_readItem 327 = .ok (.invokevirtual 68, 3) := by decide +kernel
theorem dX0_readItem_330 : decode cX0_readItem 330 = .ok (.ifCond .eq 7, 3) := by decide +kernel
theorem dX0_readItem_333 : decode cX0_readItem 333 = .ok (.iconst 1, 1) := by decide +kernel
theorem dX0_readItem_334 : decode cX0_readItem 334 = .ok (.goto 4, 3) := by decide +kernel
theorem dX0_readItem_337 : decode cX0_readItem 337 = .ok (.iconst 0, 1) := by decide +kernel
theorem dX0_readItem_338 : decode cX0_readItem 338 = .ok (.ireturn, 1) := by decide +kernel
theorem dX0_readItem_339 : decode cX0_readItem 339 = .ok (.iconst 0, 1) := by decide +kernel
theorem dX0_readItem_340 : decode cX0_readItem 340 = .ok (.ireturn, 1) := by decide +kernel
theorem dX0_readNumbers_0 : decode cX0_readNumbers 0 = .ok (.iconst 0, 1) := by decide +kernel
theorem dX0_readNumbers_1 : decode cX0_readNumbers 1 = .ok (.istore_n 2, 1) := by decide +kernel
theorem dX0_readNumbers_2 : decode cX0_readNumbers 2 = .ok (.iload_n 2, 1) := by decide +kernel
theorem dX0_readNumbers_3 : decode cX0_readNumbers 3 = .ok (.iload_n 1, 1) := by decide +kernel
theorem dX0_readNumbers_4 : decode cX0_readNumbers 4 = .ok (.if_icmp .ge 53, 3) := by decide +kernel
theorem dX0_readNumbers_7 : decode cX0_readNumbers 7 = .ok (.iload_n 2, 1) := by decide +kernel
theorem dX0_readNumbers_8 : decode cX0_readNumbers 8 = .ok (.iconst 4, 1) := by decide +kernel
theorem dX0_readNumbers_9 : decode cX0_readNumbers 9 = .ok (.if_icmp .ge 48, 3) := by decide +kernel
theorem dX0_readNumbers_12 : decode cX0_readNumbers 12 = .ok (.aload_n 0, 1) := by decide +kernel
theorem dX0_readNumbers_13 : decode cX0_readNumbers 13 = .ok (.invokevirtual 71, 3) := by decide +kernel
theorem dX0_readNumbers_16 : decode cX0_readNumbers 16 = .ok (.istore_n 3, 1) := by decide +kernel
theorem dX0_readNumbers_17 : decode cX0_readNumbers 17 = .ok (.iload_n 3, 1) := by decide +kernel
theorem dX0_readNumbers_18 : decode cX0_readNumbers 18 = .ok (.ifCond .lt 24, 3) := by decide +kernel
theorem dX0_readNumbers_21 : decode cX0_readNumbers 21 = .ok (.aload_n 0, 1) := by decide +kernel
theorem dX0_readNumbers_22 : decode cX0_readNumbers 22 = .ok (.iload_n 2, 1) := by decide +kernel
theorem dX0_readNumbers_23 : decode cX0_readNumbers 23 = .ok (.iconst 1, 1) := by decide +kernel
theorem dX0_readNumbers_24 : decode cX0_readNumbers 24 = .ok (.iadd, 1) := by decide +kernel
theorem dX0_readNumbers_25 : decode cX0_readNumbers 25 = .ok (.iload_n 1, 1) := by decide +kernel
theorem dX0_readNumbers_26 : decode cX0_readNumbers 26 = .ok (.if_icmp .ge 8, 3) := by decide +kernel
theorem dX0_readNumbers_29 : decode cX0_readNumbers 29 = .ok (.bipush 44, 2) := by decide +kernel
theorem dX0_readNumbers_31 : decode cX0_readNumbers 31 = .ok (.goto 5, 3) := by decide +kernel
theorem dX0_readNumbers_34 : decode cX0_readNumbers 34 = .ok (.bipush 59, 2) := by decide +kernel
theorem dX0_readNumbers_36 : decode cX0_readNumbers 36 = .ok (.invokevirtual 74, 3) := by decide +kernel
theorem dX0_readNumbers_39 : decode cX0_readNumbers 39 = .ok (.ifCond .ne 5, 3) := by decide +kernel
theorem dX0_readNumbers_42 : decode cX0_readNumbers 42 = .ok (.iconst 0, 1) := by decide +kernel
theorem dX0_readNumbers_43 : decode cX0_readNumbers 43 = .ok (.ireturn, 1) := by decide +kernel
theorem dX0_readNumbers_44 : decode cX0_readNumbers 44 = .ok (.aload_n 0, 1) := by decide +kernel
theorem dX0_readNumbers_45 : decode cX0_readNumbers 45 = .ok (.getfield 15, 3) := by decide +kernel
theorem dX0_readNumbers_48 : decode cX0_readNumbers 48 = .ok (.iload_n 2, 1) := by decide +kernel
theorem dX0_readNumbers_49 : decode cX0_readNumbers 49 = .ok (.iload_n 3, 1) := by decide +kernel
theorem dX0_readNumbers_50 : decode cX0_readNumbers 50 = .ok (.iastore, 1) := by decide +kernel
theorem dX0_readNumbers_51 : decode cX0_readNumbers 51 = .ok (.iinc 2 1, 3) := by decide +kernel
theorem dX0_readNumbers_54 : decode cX0_readNumbers 54 = .ok (.goto (-52), 3) := by decide +kernel
theorem dX0_readNumbers_57 : decode cX0_readNumbers 57 = .ok (.iconst 1, 1) := by decide +kernel
theorem dX0_readNumbers_58 : decode cX0_readNumbers 58 = .ok (.ireturn, 1) := by decide +kernel
theorem dX0_readNumber_0 : decode cX0_readNumber 0 = .ok (.iconst (-1), 1) := by decide +kernel
theorem dX0_readNumber_1 : decode cX0_readNumber 1 = .ok (.istore_n 1, 1) := by decide +kernel
theorem dX0_readNumber_2 : decode cX0_readNumber 2 = .ok (.iconst 0, 1) := by decide +kernel
theorem dX0_readNumber_3 : decode cX0_readNumber 3 = .ok (.istore_n 2, 1) := by decide +kernel
theorem dX0_readNumber_4 : decode cX0_readNumber 4 = .ok (.iload_n 2, 1) := by decide +kernel
theorem dX0_readNumber_5 : decode cX0_readNumber 5 = .ok (.iconst 3, 1) := by decide +kernel
theorem dX0_readNumber_6 : decode cX0_readNumber 6 = .ok (.if_icmp .ge 54, 3) := by decide +kernel
theorem dX0_readNumber_9 : decode cX0_readNumber 9 = .ok (.aload_n 0, 1) := by decide +kernel
theorem dX0_readNumber_10 : decode cX0_readNumber 10 = .ok (.invokevirtual 35, 3) := by decide +kernel
theorem dX0_readNumber_13 : decode cX0_readNumber 13 = .ok (.bipush 48, 2) := by decide +kernel
theorem dX0_readNumber_15 : decode cX0_readNumber 15 = .ok (.if_icmp .lt 45, 3) := by decide +kernel
theorem dX0_readNumber_18 : decode cX0_readNumber 18 = .ok (.aload_n 0, 1) := by decide +kernel
theorem dX0_readNumber_19 : decode cX0_readNumber 19 = .ok (.invokevirtual 35, 3) := by decide +kernel
theorem dX0_readNumber_22 : decode cX0_readNumber 22 = .ok (.bipush 57, 2) := by decide +kernel
theorem dX0_readNumber_24 : decode cX0_readNumber 24 = .ok (.if_icmp .gt 36, 3) := by decide +kernel
theorem dX0_readNumber_27 : decode cX0_readNumber 27 = .ok (.iload_n 1, 1) := by decide +kernel
theorem dX0_readNumber_28 : decode cX0_readNumber 28 = .ok (.iconst 0, 1) := by decide +kernel
theorem dX0_readNumber_29 : decode cX0_readNumber 29 = .ok (.invokestatic 77, 3) := by decide +kernel
theorem dX0_readNumber_32 : decode cX0_readNumber 32 = .ok (.bipush 10, 2) := by decide +kernel
theorem dX0_readNumber_34 : decode cX0_readNumber 34 = .ok (.imul, 1) := by decide +kernel
theorem dX0_readNumber_35 : decode cX0_readNumber 35 = .ok (.aload_n 0, 1) := by decide +kernel
theorem dX0_readNumber_36 : decode cX0_readNumber 36 = .ok (.invokevirtual 35, 3) := by decide +kernel
theorem dX0_readNumber_39 : decode cX0_readNumber 39 = .ok (.iadd, 1) := by decide +kernel
theorem dX0_readNumber_40 : decode cX0_readNumber 40 = .ok (.bipush 48, 2) := by decide +kernel
theorem dX0_readNumber_42 : decode cX0_readNumber 42 = .ok (.isub, 1) := by decide +kernel
theorem dX0_readNumber_43 : decode cX0_readNumber 43 = .ok (.istore_n 1, 1) := by decide +kernel
theorem dX0_readNumber_44 : decode cX0_readNumber 44 = .ok (.aload_n 0, 1) := by decide +kernel
theorem dX0_readNumber_45 : decode cX0_readNumber 45 = .ok (.dup, 1) := by decide +kernel
theorem dX0_readNumber_46 : decode cX0_readNumber 46 = .ok (.getfield 28, 3) := by decide +kernel
theorem dX0_readNumber_49 : decode cX0_readNumber 49 = .ok (.iconst 1, 1) := by decide +kernel
theorem dX0_readNumber_50 : decode cX0_readNumber 50 = .ok (.iadd, 1) := by decide +kernel
theorem dX0_readNumber_51 : decode cX0_readNumber 51 = .ok (.putfield 28, 3) := by decide +kernel
theorem dX0_readNumber_54 : decode cX0_readNumber 54 = .ok (.iinc 2 1, 3) := by decide +kernel
theorem dX0_readNumber_57 : decode cX0_readNumber 57 = .ok (.goto (-53), 3) := by decide +kernel
theorem dX0_readNumber_60 : decode cX0_readNumber 60 = .ok (.iload_n 1, 1) := by decide +kernel
theorem dX0_readNumber_61 : decode cX0_readNumber 61 = .ok (.ireturn, 1) := by decide +kernel
theorem dX0_readSteps_0 : decode cX0_readSteps 0 = .ok (.iconst 0, 1) := by decide +kernel
theorem dX0_readSteps_1 : decode cX0_readSteps 1 = .ok (.istore_n 2, 1) := by decide +kernel
theorem dX0_readSteps_2 : decode cX0_readSteps 2 = .ok (.iload_n 2, 1) := by decide +kernel
theorem dX0_readSteps_3 : decode cX0_readSteps 3 = .ok (.bipush 8, 2) := by decide +kernel
theorem dX0_readSteps_5 : decode cX0_readSteps 5 = .ok (.if_icmp .ge 44, 3) := by decide +kernel
theorem dX0_readSteps_8 : decode cX0_readSteps 8 = .ok (.aload_n 0, 1) := by decide +kernel
theorem dX0_readSteps_9 : decode cX0_readSteps 9 = .ok (.invokevirtual 35, 3) := by decide +kernel
theorem dX0_readSteps_12 : decode cX0_readSteps 12 = .ok (.bipush 59, 2) := by decide +kernel
theorem dX0_readSteps_14 : decode cX0_readSteps 14 = .ok (.if_icmp .eq 35, 3) := by decide +kernel
theorem dX0_readSteps_17 : decode cX0_readSteps 17 = .ok (.aload_n 1, 1) := by decide +kernel
theorem dX0_readSteps_18 : decode cX0_readSteps 18 = .ok (.aload_n 0, 1) := by decide +kernel
theorem dX0_readSteps_19 : decode cX0_readSteps 19 = .ok (.invokevirtual 35, 3) := by decide +kernel
theorem dX0_readSteps_22 : decode cX0_readSteps 22 = .ok (.bipush 48, 2) := by decide +kernel
theorem dX0_readSteps_24 : decode cX0_readSteps 24 = .ok (.isub, 1) := by decide +kernel
theorem dX0_readSteps_25 : decode cX0_readSteps 25 = .ok (.invokevirtual 83, 3) := by decide +kernel
theorem dX0_readSteps_28 : decode cX0_readSteps 28 = .ok (.ifCond .ne 5, 3) := by decide +kernel
theorem dX0_readSteps_31 : decode cX0_readSteps 31 = .ok (.iconst 0, 1) := by decide +kernel
theorem dX0_readSteps_32 : decode cX0_readSteps 32 = .ok (.ireturn, 1) := by decide +kernel
theorem dX0_readSteps_33 : decode cX0_readSteps 33 = .ok (.aload_n 0, 1) := by decide +kernel
theorem dX0_readSteps_34 : decode cX0_readSteps 34 = .ok (.dup, 1) := by decide +kernel
theorem dX0_readSteps_35 : decode cX0_readSteps 35 = .ok (.getfield 28, 3) := by decide +kernel
theorem dX0_readSteps_38 : decode cX0_readSteps 38 = .ok (.iconst 1, 1) := by decide +kernel
theorem dX0_readSteps_39 : decode cX0_readSteps 39 = .ok (.iadd, 1) := by decide +kernel
theorem dX0_readSteps_40 : decode cX0_readSteps 40 = .ok (.putfield 28, 3) := by decide +kernel
theorem dX0_readSteps_43 : decode cX0_readSteps 43 = .ok (.iinc 2 1, 3) := by decide +kernel
theorem dX0_readSteps_46 : decode cX0_readSteps 46 = .ok (.goto (-44), 3) := by decide +kernel
theorem dX0_readSteps_49 : decode cX0_readSteps 49 = .ok (.aload_n 0, 1) := by decide +kernel
theorem dX0_readSteps_50 : decode cX0_readSteps 50 = .ok (.bipush 59, 2) := by decide +kernel
theorem dX0_readSteps_52 : decode cX0_readSteps 52 = .ok (.invokevirtual 74, 3) := by decide +kernel
theorem dX0_readSteps_55 : decode cX0_readSteps 55 = .ok (.ireturn, 1) := by decide +kernel
theorem dX0_readSign_0 : decode cX0_readSign 0 = .ok (.aload_n 0, 1) := by decide +kernel
theorem dX0_readSign_1 : decode cX0_readSign 1 = .ok (.invokevirtual 35, 3) := by decide +kernel
theorem dX0_readSign_4 : decode cX0_readSign 4 = .ok (.iload_n 1, 1) := by decide +kernel
theorem dX0_readSign_5 : decode cX0_readSign 5 = .ok (.if_icmp .eq 5, 3) := by decide +kernel
theorem dX0_readSign_8 : decode cX0_readSign 8 = .ok (.iconst 0, 1) := by decide +kernel
theorem dX0_readSign_9 : decode cX0_readSign 9 = .ok (.ireturn, 1) := by decide +kernel
theorem dX0_readSign_10 : decode cX0_readSign 10 = .ok (.aload_n 0, 1) := by decide +kernel
theorem dX0_readSign_11 : decode cX0_readSign 11 = .ok (.dup, 1) := by decide +kernel
theorem dX0_readSign_12 : decode cX0_readSign 12 = .ok (.getfield 28, 3) := by decide +kernel
theorem dX0_readSign_15 : decode cX0_readSign 15 = .ok (.iconst 1, 1) := by decide +kernel
theorem dX0_readSign_16 : decode cX0_readSign 16 = .ok (.iadd, 1) := by decide +kernel
theorem dX0_readSign_17 : decode cX0_readSign 17 = .ok (.putfield 28, 3) := by decide +kernel
theorem dX0_readSign_20 : decode cX0_readSign 20 = .ok (.iconst 1, 1) := by decide +kernel
theorem dX0_readSign_21 : decode cX0_readSign 21 = .ok (.ireturn, 1) := by decide +kernel
theorem dX0_next_0 : decode cX0_next 0 = .ok (.aload_n 0, 1) := by decide +kernel
theorem dX0_next_1 : decode cX0_next 1 = .ok (.getfield 28, 3) := by decide +kernel
theorem dX0_next_4 : decode cX0_next 4 = .ok (.ifCond .lt 36, 3) := by decide +kernel
theorem dX0_next_7 : decode cX0_next 7 = .ok (.aload_n 0, 1) := by decide +kernel
theorem dX0_next_8 : decode cX0_next 8 = .ok (.getfield 28, 3) := by decide +kernel
theorem dX0_next_11 : decode cX0_next 11 = .ok (.aload_n 0, 1) := by decide +kernel
theorem dX0_next_12 : decode cX0_next 12 = .ok (.getfield 19, 3) := by decide +kernel
theorem dX0_next_15 : decode cX0_next 15 = .ok (.if_icmp .ge 25, 3) := by decide +kernel
theorem dX0_next_18 : decode cX0_next 18 = .ok (.aload_n 0, 1) := by decide +kernel
theorem dX0_next_19 : decode cX0_next 19 = .ok (.getfield 28, 3) := by decide +kernel
theorem dX0_next_22 : decode cX0_next 22 = .ok (.sipush 300, 3) := by decide +kernel
theorem dX0_next_25 : decode cX0_next 25 = .ok (.if_icmp .ge 15, 3) := by decide +kernel
theorem dX0_next_28 : decode cX0_next 28 = .ok (.aload_n 0, 1) := by decide +kernel
theorem dX0_next_29 : decode cX0_next 29 = .ok (.getfield 9, 3) := by decide +kernel
theorem dX0_next_32 : decode cX0_next 32 = .ok (.aload_n 0, 1) := by decide +kernel
theorem dX0_next_33 : decode cX0_next 33 = .ok (.getfield 28, 3) := by decide +kernel
theorem dX0_next_36 : decode cX0_next 36 = .ok (.baload, 1) := by decide +kernel
theorem dX0_next_37 : decode cX0_next 37 = .ok (.goto 4, 3) := by decide +kernel
theorem dX0_next_40 : decode cX0_next 40 = .ok (.iconst (-1), 1) := by decide +kernel
theorem dX0_next_41 : decode cX0_next 41 = .ok (.ireturn, 1) := by decide +kernel
theorem dX1_init_0 : decode cX1_init 0 = .ok (.aload_n 0, 1) := by decide +kernel
theorem dX1_init_1 : decode cX1_init 1 = .ok (.invokespecial 3, 3) := by decide +kernel
theorem dX1_init_4 : decode cX1_init 4 = .ok (.aload_n 0, 1) := by decide +kernel
theorem dX1_init_5 : decode cX1_init 5 = .ok (.bipush 10, 2) := by decide +kernel
theorem dX1_init_7 : decode cX1_init 7 = .ok (.newarray .int, 2) := by decide +kernel
theorem dX1_init_9 : decode cX1_init 9 = .ok (.putfield 9, 3) := by decide +kernel
theorem dX1_init_12 : decode cX1_init 12 = .ok (.aload_n 0, 1) := by decide +kernel
theorem dX1_init_13 : decode cX1_init 13 = .ok (.iconst 5, 1) := by decide +kernel
theorem dX1_init_14 : decode cX1_init 14 = .ok (.newarray .int, 2) := by decide +kernel
theorem dX1_init_16 : decode cX1_init 16 = .ok (.putfield 15, 3) := by decide +kernel
theorem dX1_init_19 : decode cX1_init 19 = .ok (.return_, 1) := by decide +kernel
theorem dX1_startFrom_0 : decode cX1_startFrom 0 = .ok (.aload_n 0, 1) := by decide +kernel
theorem dX1_startFrom_1 : decode cX1_startFrom 1 = .ok (.iconst 0, 1) := by decide +kernel
theorem dX1_startFrom_2 : decode cX1_startFrom 2 = .ok (.putfield 18, 3) := by decide +kernel
theorem dX1_startFrom_5 : decode cX1_startFrom 5 = .ok (.aload_n 1, 1) := by decide +kernel
theorem dX1_startFrom_6 : decode cX1_startFrom 6 = .ok (.getfield 22, 3) := by decide +kernel
theorem dX1_startFrom_9 : decode cX1_startFrom 9 = .ok (.iconst 0, 1) := by decide +kernel
theorem dX1_startFrom_10 : decode cX1_startFrom 10 = .ok (.aload_n 0, 1) := by decide +kernel
theorem dX1_startFrom_11 : decode cX1_startFrom 11 = .ok (.getfield 9, 3) := by decide +kernel
theorem dX1_startFrom_14 : decode cX1_startFrom 14 = .ok (.iconst 0, 1) := by decide +kernel
theorem dX1_startFrom_15 : decode cX1_startFrom 15 = .ok (.bipush 10, 2) := by decide +kernel
theorem dX1_startFrom_17 : decode cX1_startFrom 17 = .ok (.invokestatic 27, 3) := by decide +kernel
theorem dX1_startFrom_20 : decode cX1_startFrom 20 = .ok (.iconst 0, 1) := by decide +kernel
theorem dX1_startFrom_21 : decode cX1_startFrom 21 = .ok (.istore_n 2, 1) := by decide +kernel
theorem dX1_startFrom_22 : decode cX1_startFrom 22 = .ok (.iload_n 2, 1) := by decide +kernel
theorem dX1_startFrom_23 : decode cX1_startFrom 23 = .ok (.iconst 5, 1) := by decide +kernel
theorem dX1_startFrom_24 : decode cX1_startFrom 24 = .ok (.if_icmp .ge 16, 3) := by decide +kernel
theorem dX1_startFrom_27 : decode cX1_startFrom 27 = .ok (.aload_n 0, 1) := by decide +kernel
theorem dX1_startFrom_28 : decode cX1_startFrom 28 = .ok (.getfield 15, 3) := by decide +kernel
theorem dX1_startFrom_31 : decode cX1_startFrom 31 = .ok (.iload_n 2, 1) := by decide +kernel
theorem dX1_startFrom_32 : decode cX1_startFrom 32 = .ok (.iconst 0, 1) := by decide +kernel
theorem dX1_startFrom_33 : decode cX1_startFrom 33 = .ok (.iastore, 1) := by decide +kernel
theorem dX1_startFrom_34 : decode cX1_startFrom 34 = .ok (.iinc 2 1, 3) := by decide +kernel
theorem dX1_startFrom_37 : decode cX1_startFrom 37 = .ok (.goto (-15), 3) := by decide +kernel
theorem dX1_startFrom_40 : decode cX1_startFrom 40 = .ok (.return_, 1) := by decide +kernel
theorem dX1_copyFrom_0 : decode cX1_copyFrom 0 = .ok (.aload_n 0, 1) := by decide +kernel
theorem dX1_copyFrom_1 : decode cX1_copyFrom 1 = .ok (.aload_n 1, 1) := by decide +kernel
theorem dX1_copyFrom_2 : decode cX1_copyFrom 2 = .ok (.getfield 18, 3) := by decide +kernel
theorem dX1_copyFrom_5 : decode cX1_copyFrom 5 = .ok (.putfield 18, 3) := by decide +kernel
theorem dX1_copyFrom_8 : decode cX1_copyFrom 8 = .ok (.aload_n 1, 1) := by decide +kernel
theorem dX1_copyFrom_9 : decode cX1_copyFrom 9 = .ok (.getfield 9, 3) := by decide +kernel
theorem dX1_copyFrom_12 : decode cX1_copyFrom 12 = .ok (.iconst 0, 1) := by decide +kernel
theorem dX1_copyFrom_13 : decode cX1_copyFrom 13 = .ok (.aload_n 0, 1) := by decide +kernel
theorem dX1_copyFrom_14 : decode cX1_copyFrom 14 = .ok (.getfield 9, 3) := by decide +kernel
theorem dX1_copyFrom_17 : decode cX1_copyFrom 17 = .ok (.iconst 0, 1) := by decide +kernel
theorem dX1_copyFrom_18 : decode cX1_copyFrom 18 = .ok (.bipush 10, 2) := by decide +kernel
theorem dX1_copyFrom_20 : decode cX1_copyFrom 20 = .ok (.invokestatic 27, 3) := by decide +kernel
theorem dX1_copyFrom_23 : decode cX1_copyFrom 23 = .ok (.aload_n 1, 1) := by decide +kernel
theorem dX1_copyFrom_24 : decode cX1_copyFrom 24 = .ok (.getfield 15, 3) := by decide +kernel
theorem dX1_copyFrom_27 : decode cX1_copyFrom 27 = .ok (.iconst 0, 1) := by decide +kernel
theorem dX1_copyFrom_28 : decode cX1_copyFrom 28 = .ok (.aload_n 0, 1) := by decide +kernel
theorem dX1_copyFrom_29 : decode cX1_copyFrom 29 = .ok (.getfield 15, 3) := by decide +kernel
theorem dX1_copyFrom_32 : decode cX1_copyFrom 32 = .ok (.iconst 0, 1) := by decide +kernel
theorem dX1_copyFrom_33 : decode cX1_copyFrom 33 = .ok (.iconst 5, 1) := by decide +kernel
theorem dX1_copyFrom_34 : decode cX1_copyFrom 34 = .ok (.invokestatic 27, 3) := by decide +kernel
theorem dX1_copyFrom_37 : decode cX1_copyFrom 37 = .ok (.return_, 1) := by decide +kernel
theorem dX1_awake_0 : decode cX1_awake 0 = .ok (.aload_n 0, 1) := by decide +kernel
theorem dX1_awake_1 : decode cX1_awake 1 = .ok (.getfield 18, 3) := by decide +kernel
theorem dX1_awake_4 : decode cX1_awake 4 = .ok (.iconst 1, 1) := by decide +kernel
theorem dX1_awake_5 : decode cX1_awake 5 = .ok (.iand, 1) := by decide +kernel
theorem dX1_awake_6 : decode cX1_awake 6 = .ok (.ireturn, 1) := by decide +kernel
theorem dX1_awakeKnows_0 : decode cX1_awakeKnows 0 = .ok (.aload_n 0, 1) := by decide +kernel
theorem dX1_awakeKnows_1 : decode cX1_awakeKnows 1 = .ok (.getfield 9, 3) := by decide +kernel
theorem dX1_awakeKnows_4 : decode cX1_awakeKnows 4 = .ok (.iconst 2, 1) := by decide +kernel
theorem dX1_awakeKnows_5 : decode cX1_awakeKnows 5 = .ok (.iload_n 1, 1) := by decide +kernel
theorem dX1_awakeKnows_6 : decode cX1_awakeKnows 6 = .ok (.imul, 1) := by decide +kernel
theorem dX1_awakeKnows_7 : decode cX1_awakeKnows 7 = .ok (.aload_n 0, 1) := by decide +kernel
theorem dX1_awakeKnows_8 : decode cX1_awakeKnows 8 = .ok (.invokevirtual 33, 3) := by decide +kernel
theorem dX1_awakeKnows_11 : decode cX1_awakeKnows 11 = .ok (.iadd, 1) := by decide +kernel
theorem dX1_awakeKnows_12 : decode cX1_awakeKnows 12 = .ok (.iaload, 1) := by decide +kernel
theorem dX1_awakeKnows_13 : decode cX1_awakeKnows 13 = .ok (.ireturn, 1) := by decide +kernel
theorem dX1_learn_0 : decode cX1_learn 0 = .ok (.aload_n 0, 1) := by decide +kernel
theorem dX1_learn_1 : decode cX1_learn 1 = .ok (.getfield 9, 3) := by decide +kernel
theorem dX1_learn_4 : decode cX1_learn 4 = .ok (.iconst 2, 1) := by decide +kernel
theorem dX1_learn_5 : decode cX1_learn 5 = .ok (.iload_n 1, 1) := by decide +kernel
theorem dX1_learn_6 : decode cX1_learn 6 = .ok (.imul, 1) := by decide +kernel
theorem dX1_learn_7 : decode cX1_learn 7 = .ok (.aload_n 0, 1) := by decide +kernel
theorem dX1_learn_8 : decode cX1_learn 8 = .ok (.invokevirtual 33, 3) := by decide +kernel
theorem dX1_learn_11 : decode cX1_learn 11 = .ok (.iadd, 1) := by decide +kernel
theorem dX1_learn_12 : decode cX1_learn 12 = .ok (.dup2, 1) := by decide +kernel
theorem dX1_learn_13 : decode cX1_learn 13 = .ok (.iaload, 1) := by decide +kernel
theorem dX1_learn_14 : decode cX1_learn 14 = .ok (.iconst 1, 1) := by decide +kernel
theorem dX1_learn_15 : decode cX1_learn 15 = .ok (.iload_n 2, 1) := by decide +kernel
theorem dX1_learn_16 : decode cX1_learn 16 = .ok (.ishl, 1) := by decide +kernel
theorem dX1_learn_17 : decode cX1_learn 17 = .ok (.ior, 1) := by decide +kernel
theorem dX1_learn_18 : decode cX1_learn 18 = .ok (.iastore, 1) := by decide +kernel
theorem dX1_learn_19 : decode cX1_learn 19 = .ok (.return_, 1) := by decide +kernel
theorem dX1_ableTo_0 : decode cX1_ableTo 0 = .ok (.iconst 0, 1) := by decide +kernel
theorem dX1_ableTo_1 : decode cX1_ableTo 1 = .ok (.istore_n 3, 1) := by decide +kernel
theorem dX1_ableTo_2 : decode cX1_ableTo 2 = .ok (.iconst 0, 1) := by decide +kernel
theorem dX1_ableTo_3 : decode cX1_ableTo 3 = .ok (.istore 4, 2) := by decide +kernel
theorem dX1_ableTo_5 : decode cX1_ableTo 5 = .ok (.iload 4, 2) := by decide +kernel
theorem dX1_ableTo_7 : decode cX1_ableTo 7 = .ok (.iload_n 2, 1) := by decide +kernel
theorem dX1_ableTo_8 : decode cX1_ableTo 8 = .ok (.if_icmp .ge 29, 3) := by decide +kernel
theorem dX1_ableTo_11 : decode cX1_ableTo 11 = .ok (.aload_n 0, 1) := by decide +kernel
theorem dX1_ableTo_12 : decode cX1_ableTo 12 = .ok (.iload 4, 2) := by decide +kernel
theorem dX1_ableTo_14 : decode cX1_ableTo 14 = .ok (.invokevirtual 37, 3) := by decide +kernel
theorem dX1_ableTo_17 : decode cX1_ableTo 17 = .ok (.iload_n 1, 1) := by decide +kernel
theorem dX1_ableTo_18 : decode cX1_ableTo 18 = .ok (.invokestatic 41, 3) := by decide +kernel
theorem dX1_ableTo_21 : decode cX1_ableTo 21 = .ok (.ifCond .eq 10, 3) := by decide +kernel
theorem dX1_ableTo_24 : decode cX1_ableTo 24 = .ok (.iload_n 3, 1) := by decide +kernel
theorem dX1_ableTo_25 : decode cX1_ableTo 25 = .ok (.iconst 1, 1) := by decide +kernel
theorem dX1_ableTo_26 : decode cX1_ableTo 26 = .ok (.iload 4, 2) := by decide +kernel
theorem dX1_ableTo_28 : decode cX1_ableTo 28 = .ok (.ishl, 1) := by decide +kernel
theorem dX1_ableTo_29 : decode cX1_ableTo 29 = .ok (.ior, 1) := by decide +kernel
theorem dX1_ableTo_30 : decode cX1_ableTo 30 = .ok (.istore_n 3, 1) := by decide +kernel
theorem dX1_ableTo_31 : decode cX1_ableTo 31 = .ok (.iinc 4 1, 3) := by decide +kernel
theorem dX1_ableTo_34 : decode cX1_ableTo 34 = .ok (.goto (-29), 3) := by decide +kernel
theorem dX1_ableTo_37 : decode cX1_ableTo 37 = .ok (.iload_n 3, 1) := by decide +kernel
theorem dX1_ableTo_38 : decode cX1_ableTo 38 = .ok (.ireturn, 1) := by decide +kernel
theorem dX1_endShifts_0 : decode cX1_endShifts 0 = .ok (.iconst 0, 1) := by decide +kernel
theorem dX1_endShifts_1 : decode cX1_endShifts 1 = .ok (.istore_n 3, 1) := by decide +kernel
theorem dX1_endShifts_2 : decode cX1_endShifts 2 = .ok (.iload_n 3, 1) := by decide +kernel
theorem dX1_endShifts_3 : decode cX1_endShifts 3 = .ok (.iload_n 2, 1) := by decide +kernel
theorem dX1_endShifts_4 : decode cX1_endShifts 4 = .ok (.if_icmp .ge 53, 3) := by decide +kernel
theorem dX1_endShifts_7 : decode cX1_endShifts 7 = .ok (.iconst 0, 1) := by decide +kernel
theorem dX1_endShifts_8 : decode cX1_endShifts 8 = .ok (.istore 4, 2) := by decide +kernel
theorem dX1_endShifts_10 : decode cX1_endShifts 10 = .ok (.iload 4, 2) := by decide +kernel
theorem dX1_endShifts_12 : decode cX1_endShifts 12 = .ok (.aload_n 1, 1) := by decide +kernel
theorem dX1_endShifts_13 : decode cX1_endShifts 13 = .ok (.getfield 45, 3) := by decide +kernel
theorem dX1_endShifts_16 : decode cX1_endShifts 16 = .ok (.if_icmp .ge 25, 3) := by decide +kernel
theorem dX1_endShifts_19 : decode cX1_endShifts 19 = .ok (.aload_n 0, 1) := by decide +kernel
theorem dX1_endShifts_20 : decode cX1_endShifts 20 = .ok (.iload 4, 2) := by decide +kernel
theorem dX1_endShifts_22 : decode cX1_endShifts 22 = .ok (.aload_n 1, 1) := by decide +kernel
theorem dX1_endShifts_23 : decode cX1_endShifts 23 = .ok (.getfield 48, 3) := by decide +kernel
theorem dX1_endShifts_26 : decode cX1_endShifts 26 = .ok (.invokevirtual 51, 3) := by decide +kernel
theorem dX1_endShifts_29 : decode cX1_endShifts 29 = .ok (.aload_n 0, 1) := by decide +kernel
theorem dX1_endShifts_30 : decode cX1_endShifts 30 = .ok (.iload 4, 2) := by decide +kernel
theorem dX1_endShifts_32 : decode cX1_endShifts 32 = .ok (.invokevirtual 55, 3) := by decide +kernel
theorem dX1_endShifts_35 : decode cX1_endShifts 35 = .ok (.iinc 4 1, 3) := by decide +kernel
theorem dX1_endShifts_38 : decode cX1_endShifts 38 = .ok (.goto (-28), 3) := by decide +kernel
theorem dX1_endShifts_41 : decode cX1_endShifts 41 = .ok (.aload_n 0, 1) := by decide +kernel
theorem dX1_endShifts_42 : decode cX1_endShifts 42 = .ok (.dup, 1) := by decide +kernel
theorem dX1_endShifts_43 : decode cX1_endShifts 43 = .ok (.getfield 18, 3) := by decide +kernel
theorem dX1_endShifts_46 : decode cX1_endShifts 46 = .ok (.iconst 1, 1) := by decide +kernel
theorem dX1_endShifts_47 : decode cX1_endShifts 47 = .ok (.iadd, 1) := by decide +kernel
theorem dX1_endShifts_48 : decode cX1_endShifts 48 = .ok (.putfield 18, 3) := by decide +kernel
theorem dX1_endShifts_51 : decode cX1_endShifts 51 = .ok (.iinc 3 1, 3) := by decide +kernel
theorem dX1_endShifts_54 : decode cX1_endShifts 54 = .ok (.goto (-52), 3) := by decide +kernel
theorem dX1_endShifts_57 : decode cX1_endShifts 57 = .ok (.return_, 1) := by decide +kernel
theorem dX1_tellOneAnother_0 : decode cX1_tellOneAnother 0 = .ok (.aload_n 0, 1) := by decide +kernel
theorem dX1_tellOneAnother_1 : decode cX1_tellOneAnother 1 = .ok (.getfield 9, 3) := by decide +kernel
theorem dX1_tellOneAnother_4 : decode cX1_tellOneAnother 4 = .ok (.iconst 2, 1) := by decide +kernel
theorem dX1_tellOneAnother_5 : decode cX1_tellOneAnother 5 = .ok (.iload_n 1, 1) := by decide +kernel
theorem dX1_tellOneAnother_6 : decode cX1_tellOneAnother 6 = .ok (.imul, 1) := by decide +kernel
theorem dX1_tellOneAnother_7 : decode cX1_tellOneAnother 7 = .ok (.iaload, 1) := by decide +kernel
theorem dX1_tellOneAnother_8 : decode cX1_tellOneAnother 8 = .ok (.istore_n 3, 1) := by decide +kernel
theorem dX1_tellOneAnother_9 : decode cX1_tellOneAnother 9 = .ok (.aload_n 0, 1) := by decide +kernel
theorem dX1_tellOneAnother_10 : decode cX1_tellOneAnother 10 = .ok (.getfield 9, 3) := by decide +kernel
theorem dX1_tellOneAnother_13 : decode cX1_tellOneAnother 13 = .ok (.iconst 2, 1) := by decide +kernel
theorem dX1_tellOneAnother_14 : decode cX1_tellOneAnother 14 = .ok (.iload_n 1, 1) := by decide +kernel
theorem dX1_tellOneAnother_15 : decode cX1_tellOneAnother 15 = .ok (.imul, 1) := by decide +kernel
theorem dX1_tellOneAnother_16 : decode cX1_tellOneAnother 16 = .ok (.iconst 1, 1) := by decide +kernel
theorem dX1_tellOneAnother_17 : decode cX1_tellOneAnother 17 = .ok (.iadd, 1) := by decide +kernel
theorem dX1_tellOneAnother_18 : decode cX1_tellOneAnother 18 = .ok (.iaload, 1) := by decide +kernel
theorem dX1_tellOneAnother_19 : decode cX1_tellOneAnother 19 = .ok (.istore 4, 2) := by decide +kernel
theorem dX1_tellOneAnother_21 : decode cX1_tellOneAnother 21 = .ok (.aload_n 0, 1) := by decide +kernel
theorem dX1_tellOneAnother_22 : decode cX1_tellOneAnother 22 = .ok (.getfield 9, 3) := by decide +kernel
theorem dX1_tellOneAnother_25 : decode cX1_tellOneAnother 25 = .ok (.iconst 2, 1) := by decide +kernel
theorem dX1_tellOneAnother_26 : decode cX1_tellOneAnother 26 = .ok (.iload_n 1, 1) := by decide +kernel
theorem dX1_tellOneAnother_27 : decode cX1_tellOneAnother 27 = .ok (.imul, 1) := by decide +kernel
theorem dX1_tellOneAnother_28 : decode cX1_tellOneAnother 28 = .ok (.iload_n 3, 1) := by decide +kernel
theorem dX1_tellOneAnother_29 : decode cX1_tellOneAnother 29 = .ok (.iload 4, 2) := by decide +kernel
theorem dX1_tellOneAnother_31 : decode cX1_tellOneAnother 31 = .ok (.iload_n 3, 1) := by decide +kernel
theorem dX1_tellOneAnother_32 : decode cX1_tellOneAnother 32 = .ok (.iconst (-1), 1) := by decide +kernel
theorem dX1_tellOneAnother_33 : decode cX1_tellOneAnother 33 = .ok (.ixor, 1) := by decide +kernel
theorem dX1_tellOneAnother_34 : decode cX1_tellOneAnother 34 = .ok (.iand, 1) := by decide +kernel
theorem dX1_tellOneAnother_35 : decode cX1_tellOneAnother 35 = .ok (.iload_n 2, 1) := by decide +kernel
theorem dX1_tellOneAnother_36 : decode cX1_tellOneAnother 36 = .ok (.invokestatic 59, 3) := by decide +kernel
theorem dX1_tellOneAnother_39 : decode cX1_tellOneAnother 39 = .ok (.ior, 1) := by decide +kernel
theorem dX1_tellOneAnother_40 : decode cX1_tellOneAnother 40 = .ok (.iastore, 1) := by decide +kernel
theorem dX1_tellOneAnother_41 : decode cX1_tellOneAnother 41 = .ok (.aload_n 0, 1) := by decide +kernel
theorem dX1_tellOneAnother_42 : decode cX1_tellOneAnother 42 = .ok (.getfield 9, 3) := by decide +kernel
theorem dX1_tellOneAnother_45 : decode cX1_tellOneAnother 45 = .ok (.iconst 2, 1) := by decide +kernel
theorem dX1_tellOneAnother_46 : decode cX1_tellOneAnother 46 = .ok (.iload_n 1, 1) := by decide +kernel
theorem dX1_tellOneAnother_47 : decode cX1_tellOneAnother 47 = .ok (.imul, 1) := by decide +kernel
theorem dX1_tellOneAnother_48 : decode cX1_tellOneAnother 48 = .ok (.iconst 1, 1) := by decide +kernel
theorem dX1_tellOneAnother_49 : decode cX1_tellOneAnother 49 = .ok (.iadd, 1) := by decide +kernel
theorem dX1_tellOneAnother_50 : decode cX1_tellOneAnother 50 = .ok (.iload 4, 2) := by decide +kernel
theorem dX1_tellOneAnother_52 : decode cX1_tellOneAnother 52 = .ok (.iload_n 3, 1) := by decide +kernel
theorem dX1_tellOneAnother_53 : decode cX1_tellOneAnother 53 = .ok (.iload 4, 2) := by decide +kernel
theorem dX1_tellOneAnother_55 : decode cX1_tellOneAnother 55 = .ok (.iconst (-1), 1) := by decide +kernel
theorem dX1_tellOneAnother_56 : decode cX1_tellOneAnother 56 = .ok (.ixor, 1) := by decide +kernel
theorem dX1_tellOneAnother_57 : decode cX1_tellOneAnother 57 = .ok (.iand, 1) := by decide +kernel
theorem dX1_tellOneAnother_58 : decode cX1_tellOneAnother 58 = .ok (.iload_n 2, 1) := by decide +kernel
theorem dX1_tellOneAnother_59 : decode cX1_tellOneAnother 59 = .ok (.invokestatic 59, 3) := by decide +kernel
theorem dX1_tellOneAnother_62 : decode cX1_tellOneAnother 62 = .ok (.ior, 1) := by decide +kernel
theorem dX1_tellOneAnother_63 : decode cX1_tellOneAnother 63 = .ok (.iastore, 1) := by decide +kernel
theorem dX1_tellOneAnother_64 : decode cX1_tellOneAnother 64 = .ok (.return_, 1) := by decide +kernel
theorem dX1_readNotes_0 : decode cX1_readNotes 0 = .ok (.aload_n 0, 1) := by decide +kernel
theorem dX1_readNotes_1 : decode cX1_readNotes 1 = .ok (.getfield 9, 3) := by decide +kernel
theorem dX1_readNotes_4 : decode cX1_readNotes 4 = .ok (.iconst 2, 1) := by decide +kernel
theorem dX1_readNotes_5 : decode cX1_readNotes 5 = .ok (.iload_n 1, 1) := by decide +kernel
theorem dX1_readNotes_6 : decode cX1_readNotes 6 = .ok (.imul, 1) := by decide +kernel
theorem dX1_readNotes_7 : decode cX1_readNotes 7 = .ok (.iconst 1, 1) := by decide +kernel
theorem dX1_readNotes_8 : decode cX1_readNotes 8 = .ok (.iadd, 1) := by decide +kernel
theorem dX1_readNotes_9 : decode cX1_readNotes 9 = .ok (.aload_n 0, 1) := by decide +kernel
theorem dX1_readNotes_10 : decode cX1_readNotes 10 = .ok (.invokevirtual 33, 3) := by decide +kernel
theorem dX1_readNotes_13 : decode cX1_readNotes 13 = .ok (.isub, 1) := by decide +kernel
theorem dX1_readNotes_14 : decode cX1_readNotes 14 = .ok (.dup2, 1) := by decide +kernel
theorem dX1_readNotes_15 : decode cX1_readNotes 15 = .ok (.iaload, 1) := by decide +kernel
theorem dX1_readNotes_16 : decode cX1_readNotes 16 = .ok (.aload_n 0, 1) := by decide +kernel
theorem dX1_readNotes_17 : decode cX1_readNotes 17 = .ok (.getfield 15, 3) := by decide +kernel
theorem dX1_readNotes_20 : decode cX1_readNotes 20 = .ok (.iload_n 1, 1) := by decide +kernel
theorem dX1_readNotes_21 : decode cX1_readNotes 21 = .ok (.iaload, 1) := by decide +kernel
theorem dX1_readNotes_22 : decode cX1_readNotes 22 = .ok (.ior, 1) := by decide +kernel
theorem dX1_readNotes_23 : decode cX1_readNotes 23 = .ok (.iastore, 1) := by decide +kernel
theorem dX1_readNotes_24 : decode cX1_readNotes 24 = .ok (.aload_n 0, 1) := by decide +kernel
theorem dX1_readNotes_25 : decode cX1_readNotes 25 = .ok (.getfield 15, 3) := by decide +kernel
theorem dX1_readNotes_28 : decode cX1_readNotes 28 = .ok (.iload_n 1, 1) := by decide +kernel
theorem dX1_readNotes_29 : decode cX1_readNotes 29 = .ok (.iconst 0, 1) := by decide +kernel
theorem dX1_readNotes_30 : decode cX1_readNotes 30 = .ok (.iastore, 1) := by decide +kernel
theorem dX1_readNotes_31 : decode cX1_readNotes 31 = .ok (.return_, 1) := by decide +kernel
theorem dX1_lowest_0 : decode cX1_lowest 0 = .ok (.iload_n 0, 1) := by decide +kernel
theorem dX1_lowest_1 : decode cX1_lowest 1 = .ok (.istore_n 2, 1) := by decide +kernel
theorem dX1_lowest_2 : decode cX1_lowest 2 = .ok (.iconst 0, 1) := by decide +kernel
theorem dX1_lowest_3 : decode cX1_lowest 3 = .ok (.istore_n 3, 1) := by decide +kernel
theorem dX1_lowest_4 : decode cX1_lowest 4 = .ok (.iload_n 3, 1) := by decide +kernel
theorem dX1_lowest_5 : decode cX1_lowest 5 = .ok (.iload_n 1, 1) := by decide +kernel
theorem dX1_lowest_6 : decode cX1_lowest 6 = .ok (.if_icmp .ge 19, 3) := by decide +kernel
theorem dX1_lowest_9 : decode cX1_lowest 9 = .ok (.iload_n 2, 1) := by decide +kernel
theorem dX1_lowest_10 : decode cX1_lowest 10 = .ok (.ifCond .eq 15, 3) := by decide +kernel
theorem dX1_lowest_13 : decode cX1_lowest 13 = .ok (.iload_n 2, 1) := by decide +kernel
theorem dX1_lowest_14 : decode cX1_lowest 14 = .ok (.iload_n 2, 1) := by decide +kernel
theorem dX1_lowest_15 : decode cX1_lowest 15 = .ok (.iconst 1, 1) := by decide +kernel
theorem dX1_lowest_16 : decode cX1_lowest 16 = .ok (.isub, 1) := by decide +kernel
theorem dX1_lowest_17 : decode cX1_lowest 17 = .ok (.iand, 1) := by decide +kernel
theorem dX1_lowest_18 : decode cX1_lowest 18 = .ok (.istore_n 2, 1) := by decide +kernel
theorem dX1_lowest_19 : decode cX1_lowest 19 = .ok (.iinc 3 1, 3) := by decide +kernel
theorem dX1_lowest_22 : decode cX1_lowest 22 = .ok (.goto (-18), 3) := by decide +kernel
theorem dX1_lowest_25 : decode cX1_lowest 25 = .ok (.iload_n 0, 1) := by decide +kernel
theorem dX1_lowest_26 : decode cX1_lowest 26 = .ok (.iload_n 2, 1) := by decide +kernel
theorem dX1_lowest_27 : decode cX1_lowest 27 = .ok (.iconst (-1), 1) := by decide +kernel
theorem dX1_lowest_28 : decode cX1_lowest 28 = .ok (.ixor, 1) := by decide +kernel
theorem dX1_lowest_29 : decode cX1_lowest 29 = .ok (.iand, 1) := by decide +kernel
theorem dX1_lowest_30 : decode cX1_lowest 30 = .ok (.ireturn, 1) := by decide +kernel
theorem dX2_init_0 : decode cX2_init 0 = .ok (.aload_n 0, 1) := by decide +kernel
theorem dX2_init_1 : decode cX2_init 1 = .ok (.invokespecial 3, 3) := by decide +kernel
theorem dX2_init_4 : decode cX2_init 4 = .ok (.aload_n 0, 1) := by decide +kernel
theorem dX2_init_5 : decode cX2_init 5 = .ok (.bipush 10, 2) := by decide +kernel
theorem dX2_init_7 : decode cX2_init 7 = .ok (.newarray .int, 2) := by decide +kernel
theorem dX2_init_9 : decode cX2_init 9 = .ok (.putfield 9, 3) := by decide +kernel
theorem dX2_init_12 : decode cX2_init 12 = .ok (.aload_n 0, 1) := by decide +kernel
theorem dX2_init_13 : decode cX2_init 13 = .ok (.bipush 10, 2) := by decide +kernel
theorem dX2_init_15 : decode cX2_init 15 = .ok (.newarray .int, 2) := by decide +kernel
theorem dX2_init_17 : decode cX2_init 17 = .ok (.putfield 15, 3) := by decide +kernel
theorem dX2_init_20 : decode cX2_init 20 = .ok (.aload_n 0, 1) := by decide +kernel
theorem dX2_init_21 : decode cX2_init 21 = .ok (.bipush 32, 2) := by decide +kernel
theorem dX2_init_23 : decode cX2_init 23 = .ok (.newarray .int, 2) := by decide +kernel
theorem dX2_init_25 : decode cX2_init 25 = .ok (.putfield 18, 3) := by decide +kernel
theorem dX2_init_28 : decode cX2_init 28 = .ok (.aload_n 0, 1) := by decide +kernel
theorem dX2_init_29 : decode cX2_init 29 = .ok (.iconst 4, 1) := by decide +kernel
theorem dX2_init_30 : decode cX2_init 30 = .ok (.newarray .int, 2) := by decide +kernel
theorem dX2_init_32 : decode cX2_init 32 = .ok (.putfield 21, 3) := by decide +kernel
theorem dX2_init_35 : decode cX2_init 35 = .ok (.aload_n 0, 1) := by decide +kernel
theorem dX2_init_36 : decode cX2_init 36 = .ok (.bipush 16, 2) := by decide +kernel
theorem dX2_init_38 : decode cX2_init 38 = .ok (.newarray .int, 2) := by decide +kernel
theorem dX2_init_40 : decode cX2_init 40 = .ok (.putfield 24, 3) := by decide +kernel
theorem dX2_init_43 : decode cX2_init 43 = .ok (.aload_n 0, 1) := by decide +kernel
theorem dX2_init_44 : decode cX2_init 44 = .ok (.invokevirtual 27, 3) := by decide +kernel
theorem dX2_init_47 : decode cX2_init 47 = .ok (.return_, 1) := by decide +kernel
theorem dX2_empty_0 : decode cX2_empty 0 = .ok (.aload_n 0, 1) := by decide +kernel
theorem dX2_empty_1 : decode cX2_empty 1 = .ok (.iconst 0, 1) := by decide +kernel
theorem dX2_empty_2 : decode cX2_empty 2 = .ok (.putfield 30, 3) := by decide +kernel
theorem dX2_empty_5 : decode cX2_empty 5 = .ok (.aload_n 0, 1) := by decide +kernel
theorem dX2_empty_6 : decode cX2_empty 6 = .ok (.iconst 0, 1) := by decide +kernel
theorem dX2_empty_7 : decode cX2_empty 7 = .ok (.putfield 34, 3) := by decide +kernel
theorem dX2_empty_10 : decode cX2_empty 10 = .ok (.aload_n 0, 1) := by decide +kernel
theorem dX2_empty_11 : decode cX2_empty 11 = .ok (.iconst 0, 1) := by decide +kernel
theorem dX2_empty_12 : decode cX2_empty 12 = .ok (.putfield 37, 3) := by decide +kernel
theorem dX2_empty_15 : decode cX2_empty 15 = .ok (.aload_n 0, 1) := by decide +kernel
theorem dX2_empty_16 : decode cX2_empty 16 = .ok (.iconst 0, 1) := by decide +kernel
theorem dX2_empty_17 : decode cX2_empty 17 = .ok (.putfield 40, 3) := by decide +kernel
theorem dX2_empty_20 : decode cX2_empty 20 = .ok (.aload_n 0, 1) := by decide +kernel
theorem dX2_empty_21 : decode cX2_empty 21 = .ok (.iconst 3, 1) := by decide +kernel
theorem dX2_empty_22 : decode cX2_empty 22 = .ok (.putfield 43, 3) := by decide +kernel
theorem dX2_empty_25 : decode cX2_empty 25 = .ok (.aload_n 0, 1) := by decide +kernel
theorem dX2_empty_26 : decode cX2_empty 26 = .ok (.iconst 2, 1) := by decide +kernel
theorem dX2_empty_27 : decode cX2_empty 27 = .ok (.putfield 46, 3) := by decide +kernel
theorem dX2_empty_30 : decode cX2_empty 30 = .ok (.aload_n 0, 1) := by decide +kernel
theorem dX2_empty_31 : decode cX2_empty 31 = .ok (.bipush 9, 2) := by decide +kernel
theorem dX2_empty_33 : decode cX2_empty 33 = .ok (.putfield 49, 3) := by decide +kernel
theorem dX2_empty_36 : decode cX2_empty 36 = .ok (.aload_n 0, 1) := by decide +kernel
theorem dX2_empty_37 : decode cX2_empty 37 = .ok (.iconst 1, 1) := by decide +kernel
theorem dX2_empty_38 : decode cX2_empty 38 = .ok (.putfield 52, 3) := by decide +kernel
theorem dX2_empty_41 : decode cX2_empty 41 = .ok (.aload_n 0, 1) := by decide +kernel
theorem dX2_empty_42 : decode cX2_empty 42 = .ok (.iconst 1, 1) := by decide +kernel
theorem dX2_empty_43 : decode cX2_empty 43 = .ok (.putfield 55, 3) := by decide +kernel
theorem dX2_empty_46 : decode cX2_empty 46 = .ok (.return_, 1) := by decide +kernel
theorem dX2_addPerson_0 : decode cX2_addPerson 0 = .ok (.aload_n 0, 1) := by decide +kernel
theorem dX2_addPerson_1 : decode cX2_addPerson 1 = .ok (.getfield 30, 3) := by decide +kernel
theorem dX2_addPerson_4 : decode cX2_addPerson 4 = .ok (.iconst 5, 1) := by decide +kernel
theorem dX2_addPerson_5 : decode cX2_addPerson 5 = .ok (.if_icmp .ge 23, 3) := by decide +kernel
theorem dX2_addPerson_8 : decode cX2_addPerson 8 = .ok (.iload_n 1, 1) := by decide +kernel
theorem dX2_addPerson_9 : decode cX2_addPerson 9 = .ok (.ifCond .lt 19, 3) := by decide +kernel
theorem dX2_addPerson_12 : decode cX2_addPerson 12 = .ok (.iload_n 1, 1) := by decide +kernel
theorem dX2_addPerson_13 : decode cX2_addPerson 13 = .ok (.bipush 63, 2) := by decide +kernel
theorem dX2_addPerson_15 : decode cX2_addPerson 15 = .ok (.if_icmp .gt 13, 3) := by decide +kernel
theorem dX2_addPerson_18 : decode cX2_addPerson 18 = .ok (.iload_n 2, 1) := by decide +kernel
theorem dX2_addPerson_19 : decode cX2_addPerson 19 = .ok (.ifCond .lt 9, 3) := by decide +kernel
theorem dX2_addPerson_22 : decode cX2_addPerson 22 = .ok (.iload_n 2, 1) := by decide +kernel
theorem dX2_addPerson_23 : decode cX2_addPerson 23 = .ok (.bipush 63, 2) := by decide +kernel
theorem dX2_addPerson_25 : decode cX2_addPerson 25 = .ok (.if_icmp .le 5, 3) := by decide +kernel
theorem dX2_addPerson_28 : decode cX2_addPerson 28 = .ok (.iconst 0, 1) := by decide +kernel
theorem dX2_addPerson_29 : decode cX2_addPerson 29 = .ok (.ireturn, 1) := by decide +kernel
theorem dX2_addPerson_30 : decode cX2_addPerson 30 = .ok (.aload_n 0, 1) := by decide +kernel
theorem dX2_addPerson_31 : decode cX2_addPerson 31 = .ok (.getfield 9, 3) := by decide +kernel
theorem dX2_addPerson_34 : decode cX2_addPerson 34 = .ok (.iconst 2, 1) := by decide +kernel
theorem dX2_addPerson_35 : decode cX2_addPerson 35 = .ok (.aload_n 0, 1) := by decide +kernel
theorem dX2_addPerson_36 : decode cX2_addPerson 36 = .ok (.getfield 30, 3) := by decide +kernel
theorem dX2_addPerson_39 : decode cX2_addPerson 39 = .ok (.imul, 1) := by decide +kernel
theorem dX2_addPerson_40 : decode cX2_addPerson 40 = .ok (.iload_n 1, 1) := by decide +kernel
theorem dX2_addPerson_41 : decode cX2_addPerson 41 = .ok (.iastore, 1) := by decide +kernel
theorem dX2_addPerson_42 : decode cX2_addPerson 42 = .ok (.aload_n 0, 1) := by decide +kernel
theorem dX2_addPerson_43 : decode cX2_addPerson 43 = .ok (.getfield 9, 3) := by decide +kernel
theorem dX2_addPerson_46 : decode cX2_addPerson 46 = .ok (.iconst 2, 1) := by decide +kernel
theorem dX2_addPerson_47 : decode cX2_addPerson 47 = .ok (.aload_n 0, 1) := by decide +kernel
theorem dX2_addPerson_48 : decode cX2_addPerson 48 = .ok (.getfield 30, 3) := by decide +kernel
theorem dX2_addPerson_51 : decode cX2_addPerson 51 = .ok (.imul, 1) := by decide +kernel
theorem dX2_addPerson_52 : decode cX2_addPerson 52 = .ok (.iconst 1, 1) := by decide +kernel
theorem dX2_addPerson_53 : decode cX2_addPerson 53 = .ok (.iadd, 1) := by decide +kernel
theorem dX2_addPerson_54 : decode cX2_addPerson 54 = .ok (.iload_n 2, 1) := by decide +kernel
theorem dX2_addPerson_55 : decode cX2_addPerson 55 = .ok (.iastore, 1) := by decide +kernel
theorem dX2_addPerson_56 : decode cX2_addPerson 56 = .ok (.aload_n 0, 1) := by decide +kernel
theorem dX2_addPerson_57 : decode cX2_addPerson 57 = .ok (.getfield 15, 3) := by decide +kernel
theorem dX2_addPerson_60 : decode cX2_addPerson 60 = .ok (.iconst 2, 1) := by decide +kernel
theorem dX2_addPerson_61 : decode cX2_addPerson 61 = .ok (.aload_n 0, 1) := by decide +kernel
theorem dX2_addPerson_62 : decode cX2_addPerson 62 = .ok (.getfield 30, 3) := by decide +kernel
theorem dX2_addPerson_65 : decode cX2_addPerson 65 = .ok (.imul, 1) := by decide +kernel
theorem dX2_addPerson_66 : decode cX2_addPerson 66 = .ok (.iconst 0, 1) := by decide +kernel
theorem dX2_addPerson_67 : decode cX2_addPerson 67 = .ok (.iastore, 1) := by decide +kernel
theorem dX2_addPerson_68 : decode cX2_addPerson 68 = .ok (.aload_n 0, 1) := by decide +kernel
theorem dX2_addPerson_69 : decode cX2_addPerson 69 = .ok (.getfield 15, 3) := by decide +kernel
theorem dX2_addPerson_72 : decode cX2_addPerson 72 = .ok (.iconst 2, 1) := by decide +kernel
theorem dX2_addPerson_73 : decode cX2_addPerson 73 = .ok (.aload_n 0, 1) := by decide +kernel
theorem dX2_addPerson_74 : decode cX2_addPerson 74 = .ok (.getfield 30, 3) := by decide +kernel
theorem dX2_addPerson_77 : decode cX2_addPerson 77 = .ok (.imul, 1) := by decide +kernel
theorem dX2_addPerson_78 : decode cX2_addPerson 78 = .ok (.iconst 1, 1) := by decide +kernel
theorem dX2_addPerson_79 : decode cX2_addPerson 79 = .ok (.iadd, 1) := by decide +kernel
theorem dX2_addPerson_80 : decode cX2_addPerson 80 = .ok (.iconst 0, 1) := by decide +kernel
theorem dX2_addPerson_81 : decode cX2_addPerson 81 = .ok (.iastore, 1) := by decide +kernel
theorem dX2_addPerson_82 : decode cX2_addPerson 82 = .ok (.aload_n 0, 1) := by decide +kernel
theorem dX2_addPerson_83 : decode cX2_addPerson 83 = .ok (.dup, 1) := by decide +kernel
theorem dX2_addPerson_84 : decode cX2_addPerson 84 = .ok (.getfield 30, 3) := by decide +kernel
theorem dX2_addPerson_87 : decode cX2_addPerson 87 = .ok (.iconst 1, 1) := by decide +kernel
theorem dX2_addPerson_88 : decode cX2_addPerson 88 = .ok (.iadd, 1) := by decide +kernel
theorem dX2_addPerson_89 : decode cX2_addPerson 89 = .ok (.putfield 30, 3) := by decide +kernel
theorem dX2_addPerson_92 : decode cX2_addPerson 92 = .ok (.iconst 1, 1) := by decide +kernel
theorem dX2_addPerson_93 : decode cX2_addPerson 93 = .ok (.ireturn, 1) := by decide +kernel
theorem dX2_addStep_0 : decode cX2_addStep 0 = .ok (.aload_n 0, 1) := by decide +kernel
theorem dX2_addStep_1 : decode cX2_addStep 1 = .ok (.getfield 34, 3) := by decide +kernel
theorem dX2_addStep_4 : decode cX2_addStep 4 = .ok (.iconst 4, 1) := by decide +kernel
theorem dX2_addStep_5 : decode cX2_addStep 5 = .ok (.if_icmp .ge 21, 3) := by decide +kernel
theorem dX2_addStep_8 : decode cX2_addStep 8 = .ok (.aload_n 0, 1) := by decide +kernel
theorem dX2_addStep_9 : decode cX2_addStep 9 = .ok (.getfield 37, 3) := by decide +kernel
theorem dX2_addStep_12 : decode cX2_addStep 12 = .ok (.bipush 8, 2) := by decide +kernel
theorem dX2_addStep_14 : decode cX2_addStep 14 = .ok (.if_icmp .ge 12, 3) := by decide +kernel
theorem dX2_addStep_17 : decode cX2_addStep 17 = .ok (.iload_n 1, 1) := by decide +kernel
theorem dX2_addStep_18 : decode cX2_addStep 18 = .ok (.ifCond .lt 8, 3) := by decide +kernel
theorem dX2_addStep_21 : decode cX2_addStep 21 = .ok (.iload_n 1, 1) := by decide +kernel
theorem dX2_addStep_22 : decode cX2_addStep 22 = .ok (.iconst 5, 1) := by decide +kernel
theorem dX2_addStep_23 : decode cX2_addStep 23 = .ok (.if_icmp .le 5, 3) := by decide +kernel
theorem dX2_addStep_26 : decode cX2_addStep 26 = .ok (.iconst 0, 1) := by decide +kernel
theorem dX2_addStep_27 : decode cX2_addStep 27 = .ok (.ireturn, 1) := by decide +kernel
theorem dX2_addStep_28 : decode cX2_addStep 28 = .ok (.aload_n 0, 1) := by decide +kernel
theorem dX2_addStep_29 : decode cX2_addStep 29 = .ok (.getfield 18, 3) := by decide +kernel
theorem dX2_addStep_32 : decode cX2_addStep 32 = .ok (.bipush 8, 2) := by decide +kernel
theorem dX2_addStep_34 : decode cX2_addStep 34 = .ok (.aload_n 0, 1) := by decide +kernel
theorem dX2_addStep_35 : decode cX2_addStep 35 = .ok (.getfield 34, 3) := by decide +kernel
theorem dX2_addStep_38 : decode cX2_addStep 38 = .ok (.imul, 1) := by decide +kernel
theorem dX2_addStep_39 : decode cX2_addStep 39 = .ok (.aload_n 0, 1) := by decide +kernel
theorem dX2_addStep_40 : decode cX2_addStep 40 = .ok (.getfield 37, 3) := by decide +kernel
theorem dX2_addStep_43 : decode cX2_addStep 43 = .ok (.iadd, 1) := by decide +kernel
theorem dX2_addStep_44 : decode cX2_addStep 44 = .ok (.iload_n 1, 1) := by decide +kernel
theorem dX2_addStep_45 : decode cX2_addStep 45 = .ok (.iastore, 1) := by decide +kernel
theorem dX2_addStep_46 : decode cX2_addStep 46 = .ok (.aload_n 0, 1) := by decide +kernel
theorem dX2_addStep_47 : decode cX2_addStep 47 = .ok (.dup, 1) := by decide +kernel
theorem dX2_addStep_48 : decode cX2_addStep 48 = .ok (.getfield 37, 3) := by decide +kernel
theorem dX2_addStep_51 : decode cX2_addStep 51 = .ok (.iconst 1, 1) := by decide +kernel
theorem dX2_addStep_52 : decode cX2_addStep 52 = .ok (.iadd, 1) := by decide +kernel
theorem dX2_addStep_53 : decode cX2_addStep 53 = .ok (.putfield 37, 3) := by decide +kernel
theorem dX2_addStep_56 : decode cX2_addStep 56 = .ok (.iconst 1, 1) := by decide +kernel
theorem dX2_addStep_57 : decode cX2_addStep 57 = .ok (.ireturn, 1) := by decide +kernel
theorem dX2_endTrade_0 : decode cX2_endTrade 0 = .ok (.aload_n 0, 1) := by decide +kernel
theorem dX2_endTrade_1 : decode cX2_endTrade 1 = .ok (.getfield 34, 3) := by decide +kernel
theorem dX2_endTrade_4 : decode cX2_endTrade 4 = .ok (.iconst 4, 1) := by decide +kernel
theorem dX2_endTrade_5 : decode cX2_endTrade 5 = .ok (.if_icmp .ge 10, 3) := by decide +kernel
theorem dX2_endTrade_8 : decode cX2_endTrade 8 = .ok (.aload_n 0, 1) := by decide +kernel
theorem dX2_endTrade_9 : decode cX2_endTrade 9 = .ok (.getfield 37, 3) := by decide +kernel
theorem dX2_endTrade_12 : decode cX2_endTrade 12 = .ok (.ifCond .ne 5, 3) := by decide +kernel
theorem dX2_endTrade_15 : decode cX2_endTrade 15 = .ok (.iconst 0, 1) := by decide +kernel
theorem dX2_endTrade_16 : decode cX2_endTrade 16 = .ok (.ireturn, 1) := by decide +kernel
theorem dX2_endTrade_17 : decode cX2_endTrade 17 = .ok (.aload_n 0, 1) := by decide +kernel
theorem dX2_endTrade_18 : decode cX2_endTrade 18 = .ok (.getfield 21, 3) := by decide +kernel
theorem dX2_endTrade_21 : decode cX2_endTrade 21 = .ok (.aload_n 0, 1) := by decide +kernel
theorem dX2_endTrade_22 : decode cX2_endTrade 22 = .ok (.getfield 34, 3) := by decide +kernel
theorem dX2_endTrade_25 : decode cX2_endTrade 25 = .ok (.aload_n 0, 1) := by decide +kernel
theorem dX2_endTrade_26 : decode cX2_endTrade 26 = .ok (.getfield 37, 3) := by decide +kernel
theorem dX2_endTrade_29 : decode cX2_endTrade 29 = .ok (.iastore, 1) := by decide +kernel
theorem dX2_endTrade_30 : decode cX2_endTrade 30 = .ok (.aload_n 0, 1) := by decide +kernel
theorem dX2_endTrade_31 : decode cX2_endTrade 31 = .ok (.iconst 0, 1) := by decide +kernel
theorem dX2_endTrade_32 : decode cX2_endTrade 32 = .ok (.putfield 37, 3) := by decide +kernel
theorem dX2_endTrade_35 : decode cX2_endTrade 35 = .ok (.aload_n 0, 1) := by decide +kernel
theorem dX2_endTrade_36 : decode cX2_endTrade 36 = .ok (.dup, 1) := by decide +kernel
theorem dX2_endTrade_37 : decode cX2_endTrade 37 = .ok (.getfield 34, 3) := by decide +kernel
theorem dX2_endTrade_40 : decode cX2_endTrade 40 = .ok (.iconst 1, 1) := by decide +kernel
theorem dX2_endTrade_41 : decode cX2_endTrade 41 = .ok (.iadd, 1) := by decide +kernel
theorem dX2_endTrade_42 : decode cX2_endTrade 42 = .ok (.putfield 34, 3) := by decide +kernel
theorem dX2_endTrade_45 : decode cX2_endTrade 45 = .ok (.iconst 1, 1) := by decide +kernel
theorem dX2_endTrade_46 : decode cX2_endTrade 46 = .ok (.ireturn, 1) := by decide +kernel
theorem dX2_setStepsPerShift_0 : decode cX2_setStepsPerShift 0 = .ok (.iload_n 1, 1) := by decide +kernel
theorem dX2_setStepsPerShift_1 : decode cX2_setStepsPerShift 1 = .ok (.iconst 1, 1) := by decide +kernel
theorem dX2_setStepsPerShift_2 : decode cX2_setStepsPerShift 2 = .ok (.if_icmp .lt 9, 3) := by decide +kernel
theorem dX2_setStepsPerShift_5 : decode cX2_setStepsPerShift 5 = .ok (.iload_n 1, 1) := by decide +kernel
theorem dX2_setStepsPerShift_6 : decode cX2_setStepsPerShift 6 = .ok (.bipush 8, 2) := by decide +kernel
theorem dX2_setStepsPerShift_8 : decode cX2_setStepsPerShift 8 = .ok (.if_icmp .le 5, 3) := by decide +kernel
theorem dX2_setStepsPerShift_11 : decode cX2_setStepsPerShift 11 = .ok (.iconst 0, 1) := by decide +kernel
theorem dX2_setStepsPerShift_12 : decode cX2_setStepsPerShift 12 = .ok (.ireturn, 1) := by decide +kernel
theorem dX2_setStepsPerShift_13 : decode cX2_setStepsPerShift 13 = .ok (.aload_n 0, 1) := by decide +kernel
theorem dX2_setStepsPerShift_14 : decode cX2_setStepsPerShift 14 = .ok (.iload_n 1, 1) := by decide +kernel
theorem dX2_setStepsPerShift_15 : decode cX2_setStepsPerShift 15 = .ok (.putfield 43, 3) := by decide +kernel
theorem dX2_setStepsPerShift_18 : decode cX2_setStepsPerShift 18 = .ok (.iconst 1, 1) := by decide +kernel
theorem dX2_setStepsPerShift_19 : decode cX2_setStepsPerShift 19 = .ok (.ireturn, 1) := by decide +kernel
theorem dX2_setFactsTold_0 : decode cX2_setFactsTold 0 = .ok (.iload_n 1, 1) := by decide +kernel
theorem dX2_setFactsTold_1 : decode cX2_setFactsTold 1 = .ok (.ifCond .lt 9, 3) := by decide +kernel
theorem dX2_setFactsTold_4 : decode cX2_setFactsTold 4 = .ok (.iload_n 1, 1) := by decide +kernel
theorem dX2_setFactsTold_5 : decode cX2_setFactsTold 5 = .ok (.bipush 8, 2) := by decide +kernel
theorem dX2_setFactsTold_7 : decode cX2_setFactsTold 7 = .ok (.if_icmp .le 5, 3) := by decide +kernel
theorem dX2_setFactsTold_10 : decode cX2_setFactsTold 10 = .ok (.iconst 0, 1) := by decide +kernel
theorem dX2_setFactsTold_11 : decode cX2_setFactsTold 11 = .ok (.ireturn, 1) := by decide +kernel
theorem dX2_setFactsTold_12 : decode cX2_setFactsTold 12 = .ok (.aload_n 0, 1) := by decide +kernel
theorem dX2_setFactsTold_13 : decode cX2_setFactsTold 13 = .ok (.iload_n 1, 1) := by decide +kernel
theorem dX2_setFactsTold_14 : decode cX2_setFactsTold 14 = .ok (.putfield 46, 3) := by decide +kernel
theorem dX2_setFactsTold_17 : decode cX2_setFactsTold 17 = .ok (.iconst 1, 1) := by decide +kernel
theorem dX2_setFactsTold_18 : decode cX2_setFactsTold 18 = .ok (.ireturn, 1) := by decide +kernel
theorem dX2_setKnown_0 : decode cX2_setKnown 0 = .ok (.aload_n 0, 1) := by decide +kernel
theorem dX2_setKnown_1 : decode cX2_setKnown 1 = .ok (.iload_n 1, 1) := by decide +kernel
theorem dX2_setKnown_2 : decode cX2_setKnown 2 = .ok (.iload_n 2, 1) := by decide +kernel
theorem dX2_setKnown_3 : decode cX2_setKnown 3 = .ok (.invokevirtual 58, 3) := by decide +kernel
theorem dX2_setKnown_6 : decode cX2_setKnown 6 = .ok (.ifCond .eq 14, 3) := by decide +kernel
theorem dX2_setKnown_9 : decode cX2_setKnown 9 = .ok (.iload_n 3, 1) := by decide +kernel
theorem dX2_setKnown_10 : decode cX2_setKnown 10 = .ok (.ifCond .lt 10, 3) := by decide +kernel
theorem dX2_setKnown_13 : decode cX2_setKnown 13 = .ok (.iload_n 3, 1) := by decide +kernel
theorem dX2_setKnown_14 : decode cX2_setKnown 14 = .ok (.sipush 255, 3) := by decide +kernel
theorem dX2_setKnown_17 : decode cX2_setKnown 17 = .ok (.if_icmp .le 5, 3) := by decide +kernel
theorem dX2_setKnown_20 : decode cX2_setKnown 20 = .ok (.iconst 0, 1) := by decide +kernel
theorem dX2_setKnown_21 : decode cX2_setKnown 21 = .ok (.ireturn, 1) := by decide +kernel
theorem dX2_setKnown_22 : decode cX2_setKnown 22 = .ok (.aload_n 0, 1) := by decide +kernel
theorem dX2_setKnown_23 : decode cX2_setKnown 23 = .ok (.getfield 15, 3) := by decide +kernel
theorem dX2_setKnown_26 : decode cX2_setKnown 26 = .ok (.iconst 2, 1) := by decide +kernel
theorem dX2_setKnown_27 : decode cX2_setKnown 27 = .ok (.iload_n 1, 1) := by decide +kernel
theorem dX2_setKnown_28 : decode cX2_setKnown 28 = .ok (.imul, 1) := by decide +kernel
theorem dX2_setKnown_29 : decode cX2_setKnown 29 = .ok (.iload_n 2, 1) := by decide +kernel
theorem dX2_setKnown_30 : decode cX2_setKnown 30 = .ok (.iadd, 1) := by decide +kernel
theorem dX2_setKnown_31 : decode cX2_setKnown 31 = .ok (.iload_n 3, 1) := by decide +kernel
theorem dX2_setKnown_32 : decode cX2_setKnown 32 = .ok (.iastore, 1) := by decide +kernel
theorem dX2_setKnown_33 : decode cX2_setKnown 33 = .ok (.iconst 1, 1) := by decide +kernel
theorem dX2_setKnown_34 : decode cX2_setKnown 34 = .ok (.ireturn, 1) := by decide +kernel
theorem dX2_addPair_0 : decode cX2_addPair 0 = .ok (.aload_n 0, 1) := by decide +kernel
theorem dX2_addPair_1 : decode cX2_addPair 1 = .ok (.getfield 40, 3) := by decide +kernel
theorem dX2_addPair_4 : decode cX2_addPair 4 = .ok (.bipush 8, 2) := by decide +kernel
theorem dX2_addPair_6 : decode cX2_addPair 6 = .ok (.if_icmp .ge 27, 3) := by decide +kernel
theorem dX2_addPair_9 : decode cX2_addPair 9 = .ok (.aload_n 0, 1) := by decide +kernel
theorem dX2_addPair_10 : decode cX2_addPair 10 = .ok (.iload_n 1, 1) := by decide +kernel
theorem dX2_addPair_11 : decode cX2_addPair 11 = .ok (.iload_n 2, 1) := by decide +kernel
theorem dX2_addPair_12 : decode cX2_addPair 12 = .ok (.invokevirtual 58, 3) := by decide +kernel
theorem dX2_addPair_15 : decode cX2_addPair 15 = .ok (.ifCond .eq 18, 3) := by decide +kernel
theorem dX2_addPair_18 : decode cX2_addPair 18 = .ok (.aload_n 0, 1) := by decide +kernel
theorem dX2_addPair_19 : decode cX2_addPair 19 = .ok (.iload_n 3, 1) := by decide +kernel
theorem dX2_addPair_20 : decode cX2_addPair 20 = .ok (.iload 4, 2) := by decide +kernel
theorem dX2_addPair_22 : decode cX2_addPair 22 = .ok (.invokevirtual 58, 3) := by decide +kernel
theorem dX2_addPair_25 : decode cX2_addPair 25 = .ok (.ifCond .eq 8, 3) := by decide +kernel
theorem dX2_addPair_28 : decode cX2_addPair 28 = .ok (.iload_n 1, 1) := by decide +kernel
theorem dX2_addPair_29 : decode cX2_addPair 29 = .ok (.iload_n 3, 1) := by decide +kernel
theorem dX2_addPair_30 : decode cX2_addPair 30 = .ok (.if_icmp .ne 5, 3) := by decide +kernel
theorem dX2_addPair_33 : decode cX2_addPair 33 = .ok (.iconst 0, 1) := by decide +kernel
theorem dX2_addPair_34 : decode cX2_addPair 34 = .ok (.ireturn, 1) := by decide +kernel
theorem dX2_addPair_35 : decode cX2_addPair 35 = .ok (.aload_n 0, 1) := by decide +kernel
theorem dX2_addPair_36 : decode cX2_addPair 36 = .ok (.getfield 24, 3) := by decide +kernel
theorem dX2_addPair_39 : decode cX2_addPair 39 = .ok (.iconst 2, 1) := by decide +kernel
theorem dX2_addPair_40 : decode cX2_addPair 40 = .ok (.aload_n 0, 1) := by decide +kernel
theorem dX2_addPair_41 : decode cX2_addPair 41 = .ok (.getfield 40, 3) := by decide +kernel
theorem dX2_addPair_44 : decode cX2_addPair 44 = .ok (.imul, 1) := by decide +kernel
theorem dX2_addPair_45 : decode cX2_addPair 45 = .ok (.iconst 2, 1) := by decide +kernel
theorem dX2_addPair_46 : decode cX2_addPair 46 = .ok (.iload_n 1, 1) := by decide +kernel
theorem dX2_addPair_47 : decode cX2_addPair 47 = .ok (.imul, 1) := by decide +kernel
theorem dX2_addPair_48 : decode cX2_addPair 48 = .ok (.iload_n 2, 1) := by decide +kernel
theorem dX2_addPair_49 : decode cX2_addPair 49 = .ok (.iadd, 1) := by decide +kernel
theorem dX2_addPair_50 : decode cX2_addPair 50 = .ok (.iastore, 1) := by decide +kernel
theorem dX2_addPair_51 : decode cX2_addPair 51 = .ok (.aload_n 0, 1) := by decide +kernel
theorem dX2_addPair_52 : decode cX2_addPair 52 = .ok (.getfield 24, 3) := by decide +kernel
theorem dX2_addPair_55 : decode cX2_addPair 55 = .ok (.iconst 2, 1) := by decide +kernel
theorem dX2_addPair_56 : decode cX2_addPair 56 = .ok (.aload_n 0, 1) := by decide +kernel
theorem dX2_addPair_57 : decode cX2_addPair 57 = .ok (.getfield 40, 3) := by decide +kernel
theorem dX2_addPair_60 : decode cX2_addPair 60 = .ok (.imul, 1) := by decide +kernel
theorem dX2_addPair_61 : decode cX2_addPair 61 = .ok (.iconst 1, 1) := by decide +kernel
theorem dX2_addPair_62 : decode cX2_addPair 62 = .ok (.iadd, 1) := by decide +kernel
theorem dX2_addPair_63 : decode cX2_addPair 63 = .ok (.iconst 2, 1) := by decide +kernel
theorem dX2_addPair_64 : decode cX2_addPair 64 = .ok (.iload_n 3, 1) := by decide +kernel
theorem dX2_addPair_65 : decode cX2_addPair 65 = .ok (.imul, 1) := by decide +kernel
theorem dX2_addPair_66 : decode cX2_addPair 66 = .ok (.iload 4, 2) := by decide +kernel
theorem dX2_addPair_68 : decode cX2_addPair 68 = .ok (.iadd, 1) := by decide +kernel
theorem dX2_addPair_69 : decode cX2_addPair 69 = .ok (.iastore, 1) := by decide +kernel
theorem dX2_addPair_70 : decode cX2_addPair 70 = .ok (.aload_n 0, 1) := by decide +kernel
theorem dX2_addPair_71 : decode cX2_addPair 71 = .ok (.dup, 1) := by decide +kernel
theorem dX2_addPair_72 : decode cX2_addPair 72 = .ok (.getfield 40, 3) := by decide +kernel
theorem dX2_addPair_75 : decode cX2_addPair 75 = .ok (.iconst 1, 1) := by decide +kernel
theorem dX2_addPair_76 : decode cX2_addPair 76 = .ok (.iadd, 1) := by decide +kernel
theorem dX2_addPair_77 : decode cX2_addPair 77 = .ok (.putfield 40, 3) := by decide +kernel
theorem dX2_addPair_80 : decode cX2_addPair 80 = .ok (.iconst 1, 1) := by decide +kernel
theorem dX2_addPair_81 : decode cX2_addPair 81 = .ok (.ireturn, 1) := by decide +kernel
theorem dX2_setPurse_0 : decode cX2_setPurse 0 = .ok (.iload_n 1, 1) := by decide +kernel
theorem dX2_setPurse_1 : decode cX2_setPurse 1 = .ok (.ifCond .lt 31, 3) := by decide +kernel
theorem dX2_setPurse_4 : decode cX2_setPurse 4 = .ok (.iload_n 1, 1) := by decide +kernel
theorem dX2_setPurse_5 : decode cX2_setPurse 5 = .ok (.bipush 20, 2) := by decide +kernel
theorem dX2_setPurse_7 : decode cX2_setPurse 7 = .ok (.if_icmp .gt 25, 3) := by decide +kernel
theorem dX2_setPurse_10 : decode cX2_setPurse 10 = .ok (.iload_n 2, 1) := by decide +kernel
theorem dX2_setPurse_11 : decode cX2_setPurse 11 = .ok (.iconst 1, 1) := by decide +kernel
theorem dX2_setPurse_12 : decode cX2_setPurse 12 = .ok (.if_icmp .lt 20, 3) := by decide +kernel
theorem dX2_setPurse_15 : decode cX2_setPurse 15 = .ok (.iload_n 2, 1) := by decide +kernel
theorem dX2_setPurse_16 : decode cX2_setPurse 16 = .ok (.bipush 9, 2) := by decide +kernel
theorem dX2_setPurse_18 : decode cX2_setPurse 18 = .ok (.if_icmp .gt 14, 3) := by decide +kernel
theorem dX2_setPurse_21 : decode cX2_setPurse 21 = .ok (.iload_n 3, 1) := by decide +kernel
theorem dX2_setPurse_22 : decode cX2_setPurse 22 = .ok (.iconst 1, 1) := by decide +kernel
theorem dX2_setPurse_23 : decode cX2_setPurse 23 = .ok (.if_icmp .lt 9, 3) := by decide +kernel
theorem dX2_setPurse_26 : decode cX2_setPurse 26 = .ok (.iload_n 3, 1) := by decide +kernel
theorem dX2_setPurse_27 : decode cX2_setPurse 27 = .ok (.bipush 9, 2) := by decide +kernel
theorem dX2_setPurse_29 : decode cX2_setPurse 29 = .ok (.if_icmp .le 5, 3) := by decide +kernel
theorem dX2_setPurse_32 : decode cX2_setPurse 32 = .ok (.iconst 0, 1) := by decide +kernel
theorem dX2_setPurse_33 : decode cX2_setPurse 33 = .ok (.ireturn, 1) := by decide +kernel
theorem dX2_setPurse_34 : decode cX2_setPurse 34 = .ok (.aload_n 0, 1) := by decide +kernel
theorem dX2_setPurse_35 : decode cX2_setPurse 35 = .ok (.iload_n 1, 1) := by decide +kernel
theorem dX2_setPurse_36 : decode cX2_setPurse 36 = .ok (.putfield 49, 3) := by decide +kernel
theorem dX2_setPurse_39 : decode cX2_setPurse 39 = .ok (.aload_n 0, 1) := by decide +kernel
theorem dX2_setPurse_40 : decode cX2_setPurse 40 = .ok (.iload_n 2, 1) := by decide +kernel
theorem dX2_setPurse_41 : decode cX2_setPurse 41 = .ok (.putfield 52, 3) := by decide +kernel
theorem dX2_setPurse_44 : decode cX2_setPurse 44 = .ok (.aload_n 0, 1) := by decide +kernel
theorem dX2_setPurse_45 : decode cX2_setPurse 45 = .ok (.iload_n 3, 1) := by decide +kernel
theorem dX2_setPurse_46 : decode cX2_setPurse 46 = .ok (.putfield 55, 3) := by decide +kernel
theorem dX2_setPurse_49 : decode cX2_setPurse 49 = .ok (.iconst 1, 1) := by decide +kernel
theorem dX2_setPurse_50 : decode cX2_setPurse 50 = .ok (.ireturn, 1) := by decide +kernel
theorem dX2_isHalfHere_0 : decode cX2_isHalfHere 0 = .ok (.iload_n 1, 1) := by decide +kernel
theorem dX2_isHalfHere_1 : decode cX2_isHalfHere 1 = .ok (.ifCond .lt 22, 3) := by decide +kernel
theorem dX2_isHalfHere_4 : decode cX2_isHalfHere 4 = .ok (.iload_n 1, 1) := by decide +kernel
theorem dX2_isHalfHere_5 : decode cX2_isHalfHere 5 = .ok (.aload_n 0, 1) := by decide +kernel
theorem dX2_isHalfHere_6 : decode cX2_isHalfHere 6 = .ok (.getfield 30, 3) := by decide +kernel
theorem dX2_isHalfHere_9 : decode cX2_isHalfHere 9 = .ok (.if_icmp .ge 14, 3) := by decide +kernel
theorem dX2_isHalfHere_12 : decode cX2_isHalfHere 12 = .ok (.iload_n 2, 1) := by decide +kernel
theorem dX2_isHalfHere_13 : decode cX2_isHalfHere 13 = .ok (.invokestatic 62, 3) := by decide +kernel
theorem dX2_isHalfHere_16 : decode cX2_isHalfHere 16 = .ok (.ifCond .eq 7, 3) := by decide +kernel
theorem dX2_isHalfHere_19 : decode cX2_isHalfHere 19 = .ok (.iconst 1, 1) := by decide +kernel
theorem dX2_isHalfHere_20 : decode cX2_isHalfHere 20 = .ok (.goto 4, 3) := by decide +kernel
theorem dX2_isHalfHere_23 : decode cX2_isHalfHere 23 = .ok (.iconst 0, 1) := by decide +kernel
theorem dX2_isHalfHere_24 : decode cX2_isHalfHere 24 = .ok (.ireturn, 1) := by decide +kernel
theorem dX2_hasSkillFor_0 : decode cX2_hasSkillFor 0 = .ok (.aload_n 0, 1) := by decide +kernel
theorem dX2_hasSkillFor_1 : decode cX2_hasSkillFor 1 = .ok (.getfield 18, 3) := by decide +kernel
theorem dX2_hasSkillFor_4 : decode cX2_hasSkillFor 4 = .ok (.bipush 8, 2) := by decide +kernel
theorem dX2_hasSkillFor_6 : decode cX2_hasSkillFor 6 = .ok (.iload_n 3, 1) := by decide +kernel
theorem dX2_hasSkillFor_7 : decode cX2_hasSkillFor 7 = .ok (.imul, 1) := by decide +kernel
theorem dX2_hasSkillFor_8 : decode cX2_hasSkillFor 8 = .ok (.iload 4, 2) := by decide +kernel
theorem dX2_hasSkillFor_10 : decode cX2_hasSkillFor 10 = .ok (.iadd, 1) := by decide +kernel
theorem dX2_hasSkillFor_11 : decode cX2_hasSkillFor 11 = .ok (.iaload, 1) := by decide +kernel
theorem dX2_hasSkillFor_12 : decode cX2_hasSkillFor 12 = .ok (.istore 5, 2) := by decide +kernel
theorem dX2_hasSkillFor_14 : decode cX2_hasSkillFor 14 = .ok (.aload_n 0, 1) := by decide +kernel
theorem dX2_hasSkillFor_15 : decode cX2_hasSkillFor 15 = .ok (.getfield 9, 3) := by decide +kernel
theorem dX2_hasSkillFor_18 : decode cX2_hasSkillFor 18 = .ok (.iconst 2, 1) := by decide +kernel
theorem dX2_hasSkillFor_19 : decode cX2_hasSkillFor 19 = .ok (.iload_n 1, 1) := by decide +kernel
theorem dX2_hasSkillFor_20 : decode cX2_hasSkillFor 20 = .ok (.imul, 1) := by decide +kernel
theorem dX2_hasSkillFor_21 : decode cX2_hasSkillFor 21 = .ok (.iload_n 2, 1) := by decide +kernel
theorem dX2_hasSkillFor_22 : decode cX2_hasSkillFor 22 = .ok (.iadd, 1) := by decide +kernel
theorem dX2_hasSkillFor_23 : decode cX2_hasSkillFor 23 = .ok (.iaload, 1) := by decide +kernel
theorem dX2_hasSkillFor_24 : decode cX2_hasSkillFor 24 = .ok (.iload 5, 2) := by decide +kernel
theorem dX2_hasSkillFor_26 : decode cX2_hasSkillFor 26 = .ok (.ishr, 1) := by decide +kernel
theorem dX2_hasSkillFor_27 : decode cX2_hasSkillFor 27 = .ok (.iconst 1, 1) := by decide +kernel
theorem dX2_hasSkillFor_28 : decode cX2_hasSkillFor 28 = .ok (.iand, 1) := by decide +kernel
theorem dX2_hasSkillFor_29 : decode cX2_hasSkillFor 29 = .ok (.ifCond .eq 7, 3) := by decide +kernel
theorem dX2_hasSkillFor_32 : decode cX2_hasSkillFor 32 = .ok (.iconst 1, 1) := by decide +kernel
theorem dX2_hasSkillFor_33 : decode cX2_hasSkillFor 33 = .ok (.goto 4, 3) := by decide +kernel
theorem dX2_hasSkillFor_36 : decode cX2_hasSkillFor 36 = .ok (.iconst 0, 1) := by decide +kernel
theorem dX2_hasSkillFor_37 : decode cX2_hasSkillFor 37 = .ok (.ireturn, 1) := by decide +kernel
theorem dX2_shiftsNeeded_0 : decode cX2_shiftsNeeded 0 = .ok (.iconst 0, 1) := by decide +kernel
theorem dX2_shiftsNeeded_1 : decode cX2_shiftsNeeded 1 = .ok (.istore 4, 2) := by decide +kernel
theorem dX2_shiftsNeeded_3 : decode cX2_shiftsNeeded 3 = .ok (.iconst 0, 1) := by decide +kernel
theorem dX2_shiftsNeeded_4 : decode cX2_shiftsNeeded 4 = .ok (.istore 5, 2) := by decide +kernel
theorem dX2_shiftsNeeded_6 : decode cX2_shiftsNeeded 6 = .ok (.iload 5, 2) := by decide +kernel
theorem dX2_shiftsNeeded_8 : decode cX2_shiftsNeeded 8 = .ok (.bipush 16, 2) := by decide +kernel
theorem dX2_shiftsNeeded_10 : decode cX2_shiftsNeeded 10 = .ok (.if_icmp .ge 41, 3) := by decide +kernel
theorem dX2_shiftsNeeded_13 : decode cX2_shiftsNeeded 13 = .ok (.aload_n 0, 1) := by decide +kernel
theorem dX2_shiftsNeeded_14 : decode cX2_shiftsNeeded 14 = .ok (.iload_n 1, 1) := by decide +kernel
theorem dX2_shiftsNeeded_15 : decode cX2_shiftsNeeded 15 = .ok (.iload_n 3, 1) := by decide +kernel
theorem dX2_shiftsNeeded_16 : decode cX2_shiftsNeeded 16 = .ok (.iload 5, 2) := by decide +kernel
theorem dX2_shiftsNeeded_18 : decode cX2_shiftsNeeded 18 = .ok (.iadd, 1) := by decide +kernel
theorem dX2_shiftsNeeded_19 : decode cX2_shiftsNeeded 19 = .ok (.iconst 1, 1) := by decide +kernel
theorem dX2_shiftsNeeded_20 : decode cX2_shiftsNeeded 20 = .ok (.iand, 1) := by decide +kernel
theorem dX2_shiftsNeeded_21 : decode cX2_shiftsNeeded 21 = .ok (.iload_n 2, 1) := by decide +kernel
theorem dX2_shiftsNeeded_22 : decode cX2_shiftsNeeded 22 = .ok (.iload 4, 2) := by decide +kernel
theorem dX2_shiftsNeeded_24 : decode cX2_shiftsNeeded 24 = .ok (.invokevirtual 66, 3) := by decide +kernel
theorem dX2_shiftsNeeded_27 : decode cX2_shiftsNeeded 27 = .ok (.istore 4, 2) := by decide +kernel
theorem dX2_shiftsNeeded_29 : decode cX2_shiftsNeeded 29 = .ok (.iload 4, 2) := by decide +kernel
theorem dX2_shiftsNeeded_31 : decode cX2_shiftsNeeded 31 = .ok (.aload_n 0, 1) := by decide +kernel
theorem dX2_shiftsNeeded_32 : decode cX2_shiftsNeeded 32 = .ok (.getfield 21, 3) := by decide +kernel
theorem dX2_shiftsNeeded_35 : decode cX2_shiftsNeeded 35 = .ok (.iload_n 2, 1) := by decide +kernel
theorem dX2_shiftsNeeded_36 : decode cX2_shiftsNeeded 36 = .ok (.iaload, 1) := by decide +kernel
theorem dX2_shiftsNeeded_37 : decode cX2_shiftsNeeded 37 = .ok (.if_icmp .lt 8, 3) := by decide +kernel
theorem dX2_shiftsNeeded_40 : decode cX2_shiftsNeeded 40 = .ok (.iload 5, 2) := by decide +kernel
theorem dX2_shiftsNeeded_42 : decode cX2_shiftsNeeded 42 = .ok (.iconst 1, 1) := by decide +kernel
theorem dX2_shiftsNeeded_43 : decode cX2_shiftsNeeded 43 = .ok (.iadd, 1) := by decide +kernel
theorem dX2_shiftsNeeded_44 : decode cX2_shiftsNeeded 44 = .ok (.ireturn, 1) := by decide +kernel
theorem dX2_shiftsNeeded_45 : decode cX2_shiftsNeeded 45 = .ok (.iinc 5 1, 3) := by decide +kernel
theorem dX2_shiftsNeeded_48 : decode cX2_shiftsNeeded 48 = .ok (.goto (-42), 3) := by decide +kernel
theorem dX2_shiftsNeeded_51 : decode cX2_shiftsNeeded 51 = .ok (.bipush (-4), 2) := by decide +kernel
theorem dX2_shiftsNeeded_53 : decode cX2_shiftsNeeded 53 = .ok (.ireturn, 1) := by decide +kernel
theorem dX2_stepAfterShift_0 : decode cX2_stepAfterShift 0 = .ok (.aload_n 0, 1) := by decide +kernel
theorem dX2_stepAfterShift_1 : decode cX2_stepAfterShift 1 = .ok (.getfield 21, 3) := by decide +kernel
theorem dX2_stepAfterShift_4 : decode cX2_stepAfterShift 4 = .ok (.iload_n 3, 1) := by decide +kernel
theorem dX2_stepAfterShift_5 : decode cX2_stepAfterShift 5 = .ok (.iaload, 1) := by decide +kernel
theorem dX2_stepAfterShift_6 : decode cX2_stepAfterShift 6 = .ok (.iload 4, 2) := by decide +kernel
theorem dX2_stepAfterShift_8 : decode cX2_stepAfterShift 8 = .ok (.aload_n 0, 1) := by decide +kernel
theorem dX2_stepAfterShift_9 : decode cX2_stepAfterShift 9 = .ok (.getfield 43, 3) := by decide +kernel
theorem dX2_stepAfterShift_12 : decode cX2_stepAfterShift 12 = .ok (.iadd, 1) := by decide +kernel
theorem dX2_stepAfterShift_13 : decode cX2_stepAfterShift 13 = .ok (.invokestatic 70, 3) := by decide +kernel
theorem dX2_stepAfterShift_16 : decode cX2_stepAfterShift 16 = .ok (.istore 5, 2) := by decide +kernel
theorem dX2_stepAfterShift_18 : decode cX2_stepAfterShift 18 = .ok (.iload 4, 2) := by decide +kernel
theorem dX2_stepAfterShift_20 : decode cX2_stepAfterShift 20 = .ok (.istore 6, 2) := by decide +kernel
theorem dX2_stepAfterShift_22 : decode cX2_stepAfterShift 22 = .ok (.iload 6, 2) := by decide +kernel
theorem dX2_stepAfterShift_24 : decode cX2_stepAfterShift 24 = .ok (.iload 5, 2) := by decide +kernel
theorem dX2_stepAfterShift_26 : decode cX2_stepAfterShift 26 = .ok (.if_icmp .ge 21, 3) := by decide +kernel
theorem dX2_stepAfterShift_29 : decode cX2_stepAfterShift 29 = .ok (.aload_n 0, 1) := by decide +kernel
theorem dX2_stepAfterShift_30 : decode cX2_stepAfterShift 30 = .ok (.iload_n 1, 1) := by decide +kernel
theorem dX2_stepAfterShift_31 : decode cX2_stepAfterShift 31 = .ok (.iload_n 2, 1) := by decide +kernel
theorem dX2_stepAfterShift_32 : decode cX2_stepAfterShift 32 = .ok (.iload_n 3, 1) := by decide +kernel
theorem dX2_stepAfterShift_33 : decode cX2_stepAfterShift 33 = .ok (.iload 6, 2) := by decide +kernel
theorem dX2_stepAfterShift_35 : decode cX2_stepAfterShift 35 = .ok (.invokevirtual 76, 3) := by decide +kernel
theorem dX2_stepAfterShift_38 : decode cX2_stepAfterShift 38 = .ok (.ifCond .eq 9, 3) := by decide +kernel
theorem dX2_stepAfterShift_41 : decode cX2_stepAfterShift 41 = .ok (.iinc 6 1, 3) := by decide +kernel
theorem dX2_stepAfterShift_44 : decode cX2_stepAfterShift 44 = .ok (.goto (-22), 3) := by decide +kernel
theorem dX2_stepAfterShift_47 : decode cX2_stepAfterShift 47 = .ok (.iload 6, 2) := by decide +kernel
theorem dX2_stepAfterShift_49 : decode cX2_stepAfterShift 49 = .ok (.ireturn, 1) := by decide +kernel
theorem dX2_fewestHandings_0 : decode cX2_fewestHandings 0 = .ok (.bipush 16, 2) := by decide +kernel
theorem dX2_fewestHandings_2 : decode cX2_fewestHandings 2 = .ok (.istore_n 3, 1) := by decide +kernel
theorem dX2_fewestHandings_3 : decode cX2_fewestHandings 3 = .ok (.iconst 0, 1) := by decide +kernel
theorem dX2_fewestHandings_4 : decode cX2_fewestHandings 4 = .ok (.istore 4, 2) := by decide +kernel
theorem dX2_fewestHandings_6 : decode cX2_fewestHandings 6 = .ok (.iconst 0, 1) := by decide +kernel
theorem dX2_fewestHandings_7 : decode cX2_fewestHandings 7 = .ok (.istore 5, 2) := by decide +kernel
theorem dX2_fewestHandings_9 : decode cX2_fewestHandings 9 = .ok (.iconst 0, 1) := by decide +kernel
theorem dX2_fewestHandings_10 : decode cX2_fewestHandings 10 = .ok (.istore 6, 2) := by decide +kernel
theorem dX2_fewestHandings_12 : decode cX2_fewestHandings 12 = .ok (.iload 6, 2) := by decide +kernel
theorem dX2_fewestHandings_14 : decode cX2_fewestHandings 14 = .ok (.aload_n 0, 1) := by decide +kernel
theorem dX2_fewestHandings_15 : decode cX2_fewestHandings 15 = .ok (.getfield 21, 3) := by decide +kernel
theorem dX2_fewestHandings_18 : decode cX2_fewestHandings 18 = .ok (.iload_n 2, 1) := by decide +kernel
theorem dX2_fewestHandings_19 : decode cX2_fewestHandings 19 = .ok (.iaload, 1) := by decide +kernel
theorem dX2_fewestHandings_20 : decode cX2_fewestHandings 20 = .ok (.if_icmp .ge 71, 3) := by decide +kernel
theorem dX2_fewestHandings_23 : decode cX2_fewestHandings 23 = .ok (.iload 4, 2) := by decide +kernel
theorem dX2_fewestHandings_25 : decode cX2_fewestHandings 25 = .ok (.iload 5, 2) := by decide +kernel
theorem dX2_fewestHandings_27 : decode cX2_fewestHandings 27 = .ok (.iconst 1, 1) := by decide +kernel
theorem dX2_fewestHandings_28 : decode cX2_fewestHandings 28 = .ok (.iadd, 1) := by decide +kernel
theorem dX2_fewestHandings_29 : decode cX2_fewestHandings 29 = .ok (.invokestatic 70, 3) := by decide +kernel
theorem dX2_fewestHandings_32 : decode cX2_fewestHandings 32 = .ok (.istore 7, 2) := by decide +kernel
theorem dX2_fewestHandings_34 : decode cX2_fewestHandings 34 = .ok (.iload 5, 2) := by decide +kernel
theorem dX2_fewestHandings_36 : decode cX2_fewestHandings 36 = .ok (.iload 4, 2) := by decide +kernel
theorem dX2_fewestHandings_38 : decode cX2_fewestHandings 38 = .ok (.iconst 1, 1) := by decide +kernel
theorem dX2_fewestHandings_39 : decode cX2_fewestHandings 39 = .ok (.iadd, 1) := by decide +kernel
theorem dX2_fewestHandings_40 : decode cX2_fewestHandings 40 = .ok (.invokestatic 70, 3) := by decide +kernel
theorem dX2_fewestHandings_43 : decode cX2_fewestHandings 43 = .ok (.istore 8, 2) := by decide +kernel
theorem dX2_fewestHandings_45 : decode cX2_fewestHandings 45 = .ok (.aload_n 0, 1) := by decide +kernel
theorem dX2_fewestHandings_46 : decode cX2_fewestHandings 46 = .ok (.iload_n 1, 1) := by decide +kernel
theorem dX2_fewestHandings_47 : decode cX2_fewestHandings 47 = .ok (.iconst 0, 1) := by decide +kernel
theorem dX2_fewestHandings_48 : decode cX2_fewestHandings 48 = .ok (.iload_n 2, 1) := by decide +kernel
theorem dX2_fewestHandings_49 : decode cX2_fewestHandings 49 = .ok (.iload 6, 2) := by decide +kernel
theorem dX2_fewestHandings_51 : decode cX2_fewestHandings 51 = .ok (.invokevirtual 76, 3) := by decide +kernel
theorem dX2_fewestHandings_54 : decode cX2_fewestHandings 54 = .ok (.ifCond .eq 8, 3) := by decide +kernel
theorem dX2_fewestHandings_57 : decode cX2_fewestHandings 57 = .ok (.iload 7, 2) := by decide +kernel
theorem dX2_fewestHandings_59 : decode cX2_fewestHandings 59 = .ok (.goto 4, 3) := by decide +kernel
theorem dX2_fewestHandings_62 : decode cX2_fewestHandings 62 = .ok (.iload_n 3, 1) := by decide +kernel
theorem dX2_fewestHandings_63 : decode cX2_fewestHandings 63 = .ok (.istore 4, 2) := by decide +kernel
theorem dX2_fewestHandings_65 : decode cX2_fewestHandings 65 = .ok (.aload_n 0, 1) := by decide +kernel
theorem dX2_fewestHandings_66 : decode cX2_fewestHandings 66 = .ok (.iload_n 1, 1) := by decide +kernel
theorem dX2_fewestHandings_67 : decode cX2_fewestHandings 67 = .ok (.iconst 1, 1) := by decide +kernel
theorem dX2_fewestHandings_68 : decode cX2_fewestHandings 68 = .ok (.iload_n 2, 1) := by decide +kernel
theorem dX2_fewestHandings_69 : decode cX2_fewestHandings 69 = .ok (.iload 6, 2) := by decide +kernel
theorem dX2_fewestHandings_71 : decode cX2_fewestHandings 71 = .ok (.invokevirtual 76, 3) := by decide +kernel
theorem dX2_fewestHandings_74 : decode cX2_fewestHandings 74 = .ok (.ifCond .eq 8, 3) := by decide +kernel
theorem dX2_fewestHandings_77 : decode cX2_fewestHandings 77 = .ok (.iload 8, 2) := by decide +kernel
theorem dX2_fewestHandings_79 : decode cX2_fewestHandings 79 = .ok (.goto 4, 3) := by decide +kernel
theorem dX2_fewestHandings_82 : decode cX2_fewestHandings 82 = .ok (.iload_n 3, 1) := by decide +kernel
theorem dX2_fewestHandings_83 : decode cX2_fewestHandings 83 = .ok (.istore 5, 2) := by decide +kernel
theorem dX2_fewestHandings_85 : decode cX2_fewestHandings 85 = .ok (.iinc 6 1, 3) := by decide +kernel
theorem dX2_fewestHandings_88 : decode cX2_fewestHandings 88 = .ok (.goto (-76), 3) := by decide +kernel
theorem dX2_fewestHandings_91 : decode cX2_fewestHandings 91 = .ok (.iload 4, 2) := by decide +kernel
theorem dX2_fewestHandings_93 : decode cX2_fewestHandings 93 = .ok (.iload 5, 2) := by decide +kernel
theorem dX2_fewestHandings_95 : decode cX2_fewestHandings 95 = .ok (.invokestatic 70, 3) := by decide +kernel
theorem dX2_fewestHandings_98 : decode cX2_fewestHandings 98 = .ok (.istore 6, 2) := by decide +kernel
theorem dX2_fewestHandings_100 : decode cX2_fewestHandings 100 = .ok (.iload 6, 2) := by decide +kernel
theorem dX2_fewestHandings_102 : decode cX2_fewestHandings 102 = .ok (.iload_n 3, 1) := by decide +kernel
theorem dX2_fewestHandings_103 : decode cX2_fewestHandings 103 = .ok (.if_icmp .lt 8, 3) := by decide +kernel
theorem dX2_fewestHandings_106 : decode cX2_fewestHandings 106 = .ok (.bipush (-4), 2) := by decide +kernel
theorem dX2_fewestHandings_108 : decode cX2_fewestHandings 108 = .ok (.goto 5, 3) := by decide +kernel
theorem dX2_fewestHandings_111 : decode cX2_fewestHandings 111 = .ok (.iload 6, 2) := by decide +kernel
theorem dX2_fewestHandings_113 : decode cX2_fewestHandings 113 = .ok (.ireturn, 1) := by decide +kernel
theorem dX2_share_0 : decode cX2_share 0 = .ok (.aload_n 0, 1) := by decide +kernel
theorem dX2_share_1 : decode cX2_share 1 = .ok (.getfield 49, 3) := by decide +kernel
theorem dX2_share_4 : decode cX2_share 4 = .ok (.iload_n 1, 1) := by decide +kernel
theorem dX2_share_5 : decode cX2_share 5 = .ok (.isub, 1) := by decide +kernel
theorem dX2_share_6 : decode cX2_share 6 = .ok (.iload_n 2, 1) := by decide +kernel
theorem dX2_share_7 : decode cX2_share 7 = .ok (.isub, 1) := by decide +kernel
theorem dX2_share_8 : decode cX2_share 8 = .ok (.istore 4, 2) := by decide +kernel
theorem dX2_share_10 : decode cX2_share 10 = .ok (.iload 4, 2) := by decide +kernel
theorem dX2_share_12 : decode cX2_share 12 = .ok (.ifCond .ge 5, 3) := by decide +kernel
theorem dX2_share_15 : decode cX2_share 15 = .ok (.iconst 0, 1) := by decide +kernel
theorem dX2_share_16 : decode cX2_share 16 = .ok (.ireturn, 1) := by decide +kernel
theorem dX2_share_17 : decode cX2_share 17 = .ok (.iload_n 3, 1) := by decide +kernel
theorem dX2_share_18 : decode cX2_share 18 = .ok (.ifCond .ne 12, 3) := by decide +kernel
theorem dX2_share_21 : decode cX2_share 21 = .ok (.iload_n 1, 1) := by decide +kernel
theorem dX2_share_22 : decode cX2_share 22 = .ok (.aload_n 0, 1) := by decide +kernel
theorem dX2_share_23 : decode cX2_share 23 = .ok (.getfield 52, 3) := by decide +kernel
theorem dX2_share_26 : decode cX2_share 26 = .ok (.imul, 1) := by decide +kernel
theorem dX2_share_27 : decode cX2_share 27 = .ok (.goto 9, 3) := by decide +kernel
theorem dX2_share_30 : decode cX2_share 30 = .ok (.iload_n 2, 1) := by decide +kernel
theorem dX2_share_31 : decode cX2_share 31 = .ok (.aload_n 0, 1) := by decide +kernel
theorem dX2_share_32 : decode cX2_share 32 = .ok (.getfield 55, 3) := by decide +kernel
theorem dX2_share_35 : decode cX2_share 35 = .ok (.imul, 1) := by decide +kernel
theorem dX2_share_36 : decode cX2_share 36 = .ok (.istore 5, 2) := by decide +kernel
theorem dX2_share_38 : decode cX2_share 38 = .ok (.iload 5, 2) := by decide +kernel
theorem dX2_share_40 : decode cX2_share 40 = .ok (.iload 4, 2) := by decide +kernel
theorem dX2_share_42 : decode cX2_share 42 = .ok (.iconst 2, 1) := by decide +kernel
theorem dX2_share_43 : decode cX2_share 43 = .ok (.idiv, 1) := by decide +kernel
theorem dX2_share_44 : decode cX2_share 44 = .ok (.iadd, 1) := by decide +kernel
theorem dX2_share_45 : decode cX2_share 45 = .ok (.ireturn, 1) := by decide +kernel
theorem dX2_partings_0 : decode cX2_partings 0 = .ok (.iconst 0, 1) := by decide +kernel
theorem dX2_partings_1 : decode cX2_partings 1 = .ok (.istore_n 2, 1) := by decide +kernel
theorem dX2_partings_2 : decode cX2_partings 2 = .ok (.iconst 0, 1) := by decide +kernel
theorem dX2_partings_3 : decode cX2_partings 3 = .ok (.istore_n 3, 1) := by decide +kernel
theorem dX2_partings_4 : decode cX2_partings 4 = .ok (.iload_n 3, 1) := by decide +kernel
theorem dX2_partings_5 : decode cX2_partings 5 = .ok (.aload_n 0, 1) := by decide +kernel
theorem dX2_partings_6 : decode cX2_partings 6 = .ok (.getfield 40, 3) := by decide +kernel
theorem dX2_partings_9 : decode cX2_partings 9 = .ok (.if_icmp .ge 41, 3) := by decide +kernel
theorem dX2_partings_12 : decode cX2_partings 12 = .ok (.aload_n 0, 1) := by decide +kernel
theorem dX2_partings_13 : decode cX2_partings 13 = .ok (.getfield 24, 3) := by decide +kernel
theorem dX2_partings_16 : decode cX2_partings 16 = .ok (.iconst 2, 1) := by decide +kernel
theorem dX2_partings_17 : decode cX2_partings 17 = .ok (.iload_n 3, 1) := by decide +kernel
theorem dX2_partings_18 : decode cX2_partings 18 = .ok (.imul, 1) := by decide +kernel
theorem dX2_partings_19 : decode cX2_partings 19 = .ok (.iaload, 1) := by decide +kernel
theorem dX2_partings_20 : decode cX2_partings 20 = .ok (.iload_n 1, 1) := by decide +kernel
theorem dX2_partings_21 : decode cX2_partings 21 = .ok (.invokestatic 80, 3) := by decide +kernel
theorem dX2_partings_24 : decode cX2_partings 24 = .ok (.aload_n 0, 1) := by decide +kernel
theorem dX2_partings_25 : decode cX2_partings 25 = .ok (.getfield 24, 3) := by decide +kernel
theorem dX2_partings_28 : decode cX2_partings 28 = .ok (.iconst 2, 1) := by decide +kernel
theorem dX2_partings_29 : decode cX2_partings 29 = .ok (.iload_n 3, 1) := by decide +kernel
theorem dX2_partings_30 : decode cX2_partings 30 = .ok (.imul, 1) := by decide +kernel
theorem dX2_partings_31 : decode cX2_partings 31 = .ok (.iconst 1, 1) := by decide +kernel
theorem dX2_partings_32 : decode cX2_partings 32 = .ok (.iadd, 1) := by decide +kernel
theorem dX2_partings_33 : decode cX2_partings 33 = .ok (.iaload, 1) := by decide +kernel
theorem dX2_partings_34 : decode cX2_partings 34 = .ok (.iload_n 1, 1) := by decide +kernel
theorem dX2_partings_35 : decode cX2_partings 35 = .ok (.invokestatic 80, 3) := by decide +kernel
theorem dX2_partings_38 : decode cX2_partings 38 = .ok (.if_icmp .eq 6, 3) := by decide +kernel
theorem dX2_partings_41 : decode cX2_partings 41 = .ok (.iinc 2 1, 3) := by decide +kernel
theorem dX2_partings_44 : decode cX2_partings 44 = .ok (.iinc 3 1, 3) := by decide +kernel
theorem dX2_partings_47 : decode cX2_partings 47 = .ok (.goto (-43), 3) := by decide +kernel
theorem dX2_partings_50 : decode cX2_partings 50 = .ok (.iload_n 2, 1) := by decide +kernel
theorem dX2_partings_51 : decode cX2_partings 51 = .ok (.ireturn, 1) := by decide +kernel
theorem dX2_campOf_0 : decode cX2_campOf 0 = .ok (.iload_n 1, 1) := by decide +kernel
theorem dX2_campOf_1 : decode cX2_campOf 1 = .ok (.iload_n 0, 1) := by decide +kernel
theorem dX2_campOf_2 : decode cX2_campOf 2 = .ok (.iconst 1, 1) := by decide +kernel
theorem dX2_campOf_3 : decode cX2_campOf 3 = .ok (.ishr, 1) := by decide +kernel
theorem dX2_campOf_4 : decode cX2_campOf 4 = .ok (.ishr, 1) := by decide +kernel
theorem dX2_campOf_5 : decode cX2_campOf 5 = .ok (.iconst 1, 1) := by decide +kernel
theorem dX2_campOf_6 : decode cX2_campOf 6 = .ok (.iand, 1) := by decide +kernel
theorem dX2_campOf_7 : decode cX2_campOf 7 = .ok (.istore_n 2, 1) := by decide +kernel
theorem dX2_campOf_8 : decode cX2_campOf 8 = .ok (.iload_n 2, 1) := by decide +kernel
theorem dX2_campOf_9 : decode cX2_campOf 9 = .ok (.iload_n 0, 1) := by decide +kernel
theorem dX2_campOf_10 : decode cX2_campOf 10 = .ok (.iconst 1, 1) := by decide +kernel
theorem dX2_campOf_11 : decode cX2_campOf 11 = .ok (.iand, 1) := by decide +kernel
theorem dX2_campOf_12 : decode cX2_campOf 12 = .ok (.ixor, 1) := by decide +kernel
theorem dX2_campOf_13 : decode cX2_campOf 13 = .ok (.ireturn, 1) := by decide +kernel
theorem dX2_personByDraw_0 : decode cX2_personByDraw 0 = .ok (.aload_n 0, 1) := by decide +kernel
theorem dX2_personByDraw_1 : decode cX2_personByDraw 1 = .ok (.getfield 30, 3) := by decide +kernel
theorem dX2_personByDraw_4 : decode cX2_personByDraw 4 = .ok (.ifCond .gt 7, 3) := by decide +kernel
theorem dX2_personByDraw_7 : decode cX2_personByDraw 7 = .ok (.iconst 0, 1) := by decide +kernel
theorem dX2_personByDraw_8 : decode cX2_personByDraw 8 = .ok (.goto 12, 3) := by decide +kernel
theorem dX2_personByDraw_11 : decode cX2_personByDraw 11 = .ok (.iload_n 1, 1) := by decide +kernel
theorem dX2_personByDraw_12 : decode cX2_personByDraw 12 = .ok (.bipush 8, 2) := by decide +kernel
theorem dX2_personByDraw_14 : decode cX2_personByDraw 14 = .ok (.idiv, 1) := by decide +kernel
theorem dX2_personByDraw_15 : decode cX2_personByDraw 15 = .ok (.aload_n 0, 1) := by decide +kernel
theorem dX2_personByDraw_16 : decode cX2_personByDraw 16 = .ok (.getfield 30, 3) := by decide +kernel
theorem dX2_personByDraw_19 : decode cX2_personByDraw 19 = .ok (.irem, 1) := by decide +kernel
theorem dX2_personByDraw_20 : decode cX2_personByDraw 20 = .ok (.ireturn, 1) := by decide +kernel
theorem dJ6_bitCount_0f7a4_0 : decode cJ6_bitCount_0f7a4 0 = .ok (.iload_n 0, 1) := by decide +kernel
theorem dJ6_bitCount_0f7a4_1 : decode cJ6_bitCount_0f7a4 1 = .ok (.iload_n 0, 1) := by decide +kernel
theorem dJ6_bitCount_0f7a4_2 : decode cJ6_bitCount_0f7a4 2 = .ok (.iconst 1, 1) := by decide +kernel
theorem dJ6_bitCount_0f7a4_3 : decode cJ6_bitCount_0f7a4 3 = .ok (.iushr, 1) := by decide +kernel
theorem dJ6_bitCount_0f7a4_4 : decode cJ6_bitCount_0f7a4 4 = .ok (.ldc_w 265, 3) := by decide +kernel
theorem dJ6_bitCount_0f7a4_7 : decode cJ6_bitCount_0f7a4 7 = .ok (.iand, 1) := by decide +kernel
theorem dJ6_bitCount_0f7a4_8 : decode cJ6_bitCount_0f7a4 8 = .ok (.isub, 1) := by decide +kernel
theorem dJ6_bitCount_0f7a4_9 : decode cJ6_bitCount_0f7a4 9 = .ok (.istore_n 0, 1) := by decide +kernel
theorem dJ6_bitCount_0f7a4_10 : decode cJ6_bitCount_0f7a4 10 = .ok (.iload_n 0, 1) := by decide +kernel
theorem dJ6_bitCount_0f7a4_11 : decode cJ6_bitCount_0f7a4 11 = .ok (.ldc_w 266, 3) := by decide +kernel
theorem dJ6_bitCount_0f7a4_14 : decode cJ6_bitCount_0f7a4 14 = .ok (.iand, 1) := by decide +kernel
theorem dJ6_bitCount_0f7a4_15 : decode cJ6_bitCount_0f7a4 15 = .ok (.iload_n 0, 1) := by decide +kernel
theorem dJ6_bitCount_0f7a4_16 : decode cJ6_bitCount_0f7a4 16 = .ok (.iconst 2, 1) := by decide +kernel
theorem dJ6_bitCount_0f7a4_17 : decode cJ6_bitCount_0f7a4 17 = .ok (.iushr, 1) := by decide +kernel
theorem dJ6_bitCount_0f7a4_18 : decode cJ6_bitCount_0f7a4 18 = .ok (.ldc_w 266, 3) := by decide +kernel
theorem dJ6_bitCount_0f7a4_21 : decode cJ6_bitCount_0f7a4 21 = .ok (.iand, 1) := by decide +kernel
theorem dJ6_bitCount_0f7a4_22 : decode cJ6_bitCount_0f7a4 22 = .ok (.iadd, 1) := by decide +kernel
theorem dJ6_bitCount_0f7a4_23 : decode cJ6_bitCount_0f7a4 23 = .ok (.istore_n 0, 1) := by decide +kernel
theorem dJ6_bitCount_0f7a4_24 : decode cJ6_bitCount_0f7a4 24 = .ok (.iload_n 0, 1) := by decide +kernel
theorem dJ6_bitCount_0f7a4_25 : decode cJ6_bitCount_0f7a4 25 = .ok (.iload_n 0, 1) := by decide +kernel
theorem dJ6_bitCount_0f7a4_26 : decode cJ6_bitCount_0f7a4 26 = .ok (.iconst 4, 1) := by decide +kernel
theorem dJ6_bitCount_0f7a4_27 : decode cJ6_bitCount_0f7a4 27 = .ok (.iushr, 1) := by decide +kernel
theorem dJ6_bitCount_0f7a4_28 : decode cJ6_bitCount_0f7a4 28 = .ok (.iadd, 1) := by decide +kernel
theorem dJ6_bitCount_0f7a4_29 : decode cJ6_bitCount_0f7a4 29 = .ok (.ldc_w 267, 3) := by decide +kernel
theorem dJ6_bitCount_0f7a4_32 : decode cJ6_bitCount_0f7a4 32 = .ok (.iand, 1) := by decide +kernel
theorem dJ6_bitCount_0f7a4_33 : decode cJ6_bitCount_0f7a4 33 = .ok (.istore_n 0, 1) := by decide +kernel
theorem dJ6_bitCount_0f7a4_34 : decode cJ6_bitCount_0f7a4 34 = .ok (.iload_n 0, 1) := by decide +kernel
theorem dJ6_bitCount_0f7a4_35 : decode cJ6_bitCount_0f7a4 35 = .ok (.iload_n 0, 1) := by decide +kernel
theorem dJ6_bitCount_0f7a4_36 : decode cJ6_bitCount_0f7a4 36 = .ok (.bipush 8, 2) := by decide +kernel
theorem dJ6_bitCount_0f7a4_38 : decode cJ6_bitCount_0f7a4 38 = .ok (.iushr, 1) := by decide +kernel
theorem dJ6_bitCount_0f7a4_39 : decode cJ6_bitCount_0f7a4 39 = .ok (.iadd, 1) := by decide +kernel
theorem dJ6_bitCount_0f7a4_40 : decode cJ6_bitCount_0f7a4 40 = .ok (.istore_n 0, 1) := by decide +kernel
theorem dJ6_bitCount_0f7a4_41 : decode cJ6_bitCount_0f7a4 41 = .ok (.iload_n 0, 1) := by decide +kernel
theorem dJ6_bitCount_0f7a4_42 : decode cJ6_bitCount_0f7a4 42 = .ok (.iload_n 0, 1) := by decide +kernel
theorem dJ6_bitCount_0f7a4_43 : decode cJ6_bitCount_0f7a4 43 = .ok (.bipush 16, 2) := by decide +kernel
theorem dJ6_bitCount_0f7a4_45 : decode cJ6_bitCount_0f7a4 45 = .ok (.iushr, 1) := by decide +kernel
theorem dJ6_bitCount_0f7a4_46 : decode cJ6_bitCount_0f7a4 46 = .ok (.iadd, 1) := by decide +kernel
theorem dJ6_bitCount_0f7a4_47 : decode cJ6_bitCount_0f7a4 47 = .ok (.istore_n 0, 1) := by decide +kernel
theorem dJ6_bitCount_0f7a4_48 : decode cJ6_bitCount_0f7a4 48 = .ok (.iload_n 0, 1) := by decide +kernel
theorem dJ6_bitCount_0f7a4_49 : decode cJ6_bitCount_0f7a4 49 = .ok (.bipush 63, 2) := by decide +kernel
theorem dJ6_bitCount_0f7a4_51 : decode cJ6_bitCount_0f7a4 51 = .ok (.iand, 1) := by decide +kernel
theorem dJ6_bitCount_0f7a4_52 : decode cJ6_bitCount_0f7a4 52 = .ok (.ireturn, 1) := by decide +kernel
end
section
theorem dX3_init_0 : decode cX3_init 0 = .ok (.aload_n 0, 1) := by decide +kernel
theorem dX3_init_1 : decode cX3_init 1 = .ok (.invokespecial 3, 3) := by decide +kernel
theorem dX3_init_4 : decode cX3_init 4 = .ok (.aload_n 0, 1) := by decide +kernel
theorem dX3_init_5 : decode cX3_init 5 = .ok (.new 9, 3) := by decide +kernel
theorem dX3_init_8 : decode cX3_init 8 = .ok (.dup, 1) := by decide +kernel
theorem dX3_init_9 : decode cX3_init 9 = .ok (.invokespecial 11, 3) := by decide +kernel
theorem dX3_init_12 : decode cX3_init 12 = .ok (.putfield 12, 3) := by decide +kernel
theorem dX3_init_15 : decode cX3_init 15 = .ok (.aload_n 0, 1) := by decide +kernel
theorem dX3_init_16 : decode cX3_init 16 = .ok (.new 16, 3) := by decide +kernel
theorem dX3_init_19 : decode cX3_init 19 = .ok (.dup, 1) := by decide +kernel
theorem dX3_init_20 : decode cX3_init 20 = .ok (.invokespecial 18, 3) := by decide +kernel
theorem dX3_init_23 : decode cX3_init 23 = .ok (.putfield 19, 3) := by decide +kernel
theorem dX3_init_26 : decode cX3_init 26 = .ok (.aload_n 0, 1) := by decide +kernel
theorem dX3_init_27 : decode cX3_init 27 = .ok (.new 16, 3) := by decide +kernel
theorem dX3_init_30 : decode cX3_init 30 = .ok (.dup, 1) := by decide +kernel
theorem dX3_init_31 : decode cX3_init 31 = .ok (.invokespecial 18, 3) := by decide +kernel
theorem dX3_init_34 : decode cX3_init 34 = .ok (.putfield 23, 3) := by decide +kernel
theorem dX3_init_37 : decode cX3_init 37 = .ok (.aload_n 0, 1) := by decide +kernel
theorem dX3_init_38 : decode cX3_init 38 = .ok (.new 26, 3) := by decide +kernel
theorem dX3_init_41 : decode cX3_init 41 = .ok (.dup, 1) := by decide +kernel
theorem dX3_init_42 : decode cX3_init 42 = .ok (.invokespecial 28, 3) := by decide +kernel
theorem dX3_init_45 : decode cX3_init 45 = .ok (.putfield 29, 3) := by decide +kernel
theorem dX3_init_48 : decode cX3_init 48 = .ok (.aload_n 0, 1) := by decide +kernel
theorem dX3_init_49 : decode cX3_init 49 = .ok (.new 26, 3) := by decide +kernel
theorem dX3_init_52 : decode cX3_init 52 = .ok (.dup, 1) := by decide +kernel
theorem dX3_init_53 : decode cX3_init 53 = .ok (.invokespecial 28, 3) := by decide +kernel
theorem dX3_init_56 : decode cX3_init 56 = .ok (.putfield 33, 3) := by decide +kernel
theorem dX3_init_59 : decode cX3_init 59 = .ok (.aload_n 0, 1) := by decide +kernel
theorem dX3_init_60 : decode cX3_init 60 = .ok (.new 26, 3) := by decide +kernel
theorem dX3_init_63 : decode cX3_init 63 = .ok (.dup, 1) := by decide +kernel
theorem dX3_init_64 : decode cX3_init 64 = .ok (.invokespecial 28, 3) := by decide +kernel
theorem dX3_init_67 : decode cX3_init 67 = .ok (.putfield 36, 3) := by decide +kernel
theorem dX3_init_70 : decode cX3_init 70 = .ok (.aload_n 0, 1) := by decide +kernel
theorem dX3_init_71 : decode cX3_init 71 = .ok (.new 26, 3) := by decide +kernel
theorem dX3_init_74 : decode cX3_init 74 = .ok (.dup, 1) := by decide +kernel
theorem dX3_init_75 : decode cX3_init 75 = .ok (.invokespecial 28, 3) := by decide +kernel
theorem dX3_init_78 : decode cX3_init 78 = .ok (.putfield 39, 3) := by decide +kernel
theorem dX3_init_81 : decode cX3_init 81 = .ok (.aload_n 0, 1) := by decide +kernel
theorem dX3_init_82 : decode cX3_init 82 = .ok (.bipush 10, 2) := by decide +kernel
theorem dX3_init_84 : decode cX3_init 84 = .ok (.newarray .int, 2) := by decide +kernel
theorem dX3_init_86 : decode cX3_init 86 = .ok (.putfield 42, 3) := by decide +kernel
theorem dX3_init_89 : decode cX3_init 89 = .ok (.aload_n 0, 1) := by decide +kernel
theorem dX3_init_90 : decode cX3_init 90 = .ok (.bipush 10, 2) := by decide +kernel
theorem dX3_init_92 : decode cX3_init 92 = .ok (.newarray .int, 2) := by decide +kernel
theorem dX3_init_94 : decode cX3_init 94 = .ok (.putfield 46, 3) := by decide +kernel
theorem dX3_init_97 : decode cX3_init 97 = .ok (.aload_n 0, 1) := by decide +kernel
theorem dX3_init_98 : decode cX3_init 98 = .ok (.bipush 10, 2) := by decide +kernel
theorem dX3_init_100 : decode cX3_init 100 = .ok (.newarray .int, 2) := by decide +kernel
theorem dX3_init_102 : decode cX3_init 102 = .ok (.putfield 49, 3) := by decide +kernel
theorem dX3_init_105 : decode cX3_init 105 = .ok (.aload_n 0, 1) := by decide +kernel
theorem dX3_init_106 : decode cX3_init 106 = .ok (.getfield 19, 3) := by decide +kernel
theorem dX3_init_109 : decode cX3_init 109 = .ok (.iconst 1, 1) := by decide +kernel
theorem dX3_init_110 : decode cX3_init 110 = .ok (.iconst 2, 1) := by decide +kernel
theorem dX3_init_111 : decode cX3_init 111 = .ok (.invokevirtual 52, 3) := by decide +kernel
theorem dX3_init_114 : decode cX3_init 114 = .ok (.pop, 1) := by decide +kernel
theorem dX3_init_115 : decode cX3_init 115 = .ok (.aload_n 0, 1) := by decide +kernel
theorem dX3_init_116 : decode cX3_init 116 = .ok (.getfield 19, 3) := by decide +kernel
theorem dX3_init_119 : decode cX3_init 119 = .ok (.iconst 0, 1) := by decide +kernel
theorem dX3_init_120 : decode cX3_init 120 = .ok (.invokevirtual 56, 3) := by decide +kernel
theorem dX3_init_123 : decode cX3_init 123 = .ok (.pop, 1) := by decide +kernel
theorem dX3_init_124 : decode cX3_init 124 = .ok (.aload_n 0, 1) := by decide +kernel
theorem dX3_init_125 : decode cX3_init 125 = .ok (.getfield 19, 3) := by decide +kernel
theorem dX3_init_128 : decode cX3_init 128 = .ok (.iconst 1, 1) := by decide +kernel
theorem dX3_init_129 : decode cX3_init 129 = .ok (.invokevirtual 56, 3) := by decide +kernel
theorem dX3_init_132 : decode cX3_init 132 = .ok (.pop, 1) := by decide +kernel
theorem dX3_init_133 : decode cX3_init 133 = .ok (.aload_n 0, 1) := by decide +kernel
theorem dX3_init_134 : decode cX3_init 134 = .ok (.getfield 19, 3) := by decide +kernel
theorem dX3_init_137 : decode cX3_init 137 = .ok (.invokevirtual 60, 3) := by decide +kernel
theorem dX3_init_140 : decode cX3_init 140 = .ok (.pop, 1) := by decide +kernel
theorem dX3_init_141 : decode cX3_init 141 = .ok (.aload_n 0, 1) := by decide +kernel
theorem dX3_init_142 : decode cX3_init 142 = .ok (.getfield 29, 3) := by decide +kernel
theorem dX3_init_145 : decode cX3_init 145 = .ok (.aload_n 0, 1) := by decide +kernel
theorem dX3_init_146 : decode cX3_init 146 = .ok (.getfield 19, 3) := by decide +kernel
theorem dX3_init_149 : decode cX3_init 149 = .ok (.invokevirtual 64, 3) := by decide +kernel
theorem dX3_init_152 : decode cX3_init 152 = .ok (.return_, 1) := by decide +kernel
theorem dX3_write_0 : decode cX3_write 0 = .ok (.iload_n 1, 1) := by decide +kernel
theorem dX3_write_1 : decode cX3_write 1 = .ok (.iconst 1, 1) := by decide +kernel
theorem dX3_write_2 : decode cX3_write 2 = .ok (.if_icmp .lt 9, 3) := by decide +kernel
theorem dX3_write_5 : decode cX3_write 5 = .ok (.iload_n 1, 1) := by decide +kernel
theorem dX3_write_6 : decode cX3_write 6 = .ok (.bipush 8, 2) := by decide +kernel
theorem dX3_write_8 : decode cX3_write 8 = .ok (.if_icmp .le 5, 3) := by decide +kernel
theorem dX3_write_11 : decode cX3_write 11 = .ok (.iconst (-1), 1) := by decide +kernel
theorem dX3_write_12 : decode cX3_write 12 = .ok (.ireturn, 1) := by decide +kernel
theorem dX3_write_13 : decode cX3_write 13 = .ok (.aload_n 0, 1) := by decide +kernel
theorem dX3_write_14 : decode cX3_write 14 = .ok (.getfield 12, 3) := by decide +kernel
theorem dX3_write_17 : decode cX3_write 17 = .ok (.getfield 68, 3) := by decide +kernel
theorem dX3_write_20 : decode cX3_write 20 = .ok (.iload_n 1, 1) := by decide +kernel
theorem dX3_write_21 : decode cX3_write 21 = .ok (.iadd, 1) := by decide +kernel
theorem dX3_write_22 : decode cX3_write 22 = .ok (.sipush 300, 3) := by decide +kernel
theorem dX3_write_25 : decode cX3_write 25 = .ok (.if_icmp .le 6, 3) := by decide +kernel
theorem dX3_write_28 : decode cX3_write 28 = .ok (.bipush (-3), 2) := by decide +kernel
theorem dX3_write_30 : decode cX3_write 30 = .ok (.ireturn, 1) := by decide +kernel
theorem dX3_write_31 : decode cX3_write 31 = .ok (.iload_n 1, 1) := by decide +kernel
theorem dX3_write_32 : decode cX3_write 32 = .ok (.iconst 1, 1) := by decide +kernel
theorem dX3_write_33 : decode cX3_write 33 = .ok (.isub, 1) := by decide +kernel
theorem dX3_write_34 : decode cX3_write 34 = .ok (.istore 4, 2) := by decide +kernel
theorem dX3_write_36 : decode cX3_write 36 = .ok (.iload 4, 2) := by decide +kernel
theorem dX3_write_38 : decode cX3_write 38 = .ok (.ifCond .lt 25, 3) := by decide +kernel
theorem dX3_write_41 : decode cX3_write 41 = .ok (.aload_n 0, 1) := by decide +kernel
theorem dX3_write_42 : decode cX3_write 42 = .ok (.getfield 12, 3) := by decide +kernel
theorem dX3_write_45 : decode cX3_write 45 = .ok (.lload_n 2, 1) := by decide +kernel
theorem dX3_write_46 : decode cX3_write 46 = .ok (.bipush 8, 2) := by decide +kernel
theorem dX3_write_48 : decode cX3_write 48 = .ok (.iload 4, 2) := by decide +kernel
theorem dX3_write_50 : decode cX3_write 50 = .ok (.imul, 1) := by decide +kernel
theorem dX3_write_51 : decode cX3_write 51 = .ok (.lushr, 1) := by decide +kernel
theorem dX3_write_52 : decode cX3_write 52 = .ok (.l2i, 1) := by decide +kernel
theorem dX3_write_53 : decode cX3_write 53 = .ok (.i2b, 1) := by decide +kernel
theorem dX3_write_54 : decode cX3_write 54 = .ok (.invokevirtual 72, 3) := by decide +kernel
theorem dX3_write_57 : decode cX3_write 57 = .ok (.iinc 4 (-1), 3) := by decide +kernel
theorem dX3_write_60 : decode cX3_write 60 = .ok (.goto (-24), 3) := by decide +kernel
theorem dX3_write_63 : decode cX3_write 63 = .ok (.aload_n 0, 1) := by decide +kernel
theorem dX3_write_64 : decode cX3_write 64 = .ok (.getfield 12, 3) := by decide +kernel
theorem dX3_write_67 : decode cX3_write 67 = .ok (.getfield 68, 3) := by decide +kernel
theorem dX3_write_70 : decode cX3_write 70 = .ok (.ireturn, 1) := by decide +kernel
theorem dX3_wipe_0 : decode cX3_wipe 0 = .ok (.aload_n 0, 1) := by decide +kernel
theorem dX3_wipe_1 : decode cX3_wipe 1 = .ok (.getfield 12, 3) := by decide +kernel
theorem dX3_wipe_4 : decode cX3_wipe 4 = .ok (.getfield 68, 3) := by decide +kernel
theorem dX3_wipe_7 : decode cX3_wipe 7 = .ok (.istore_n 1, 1) := by decide +kernel
theorem dX3_wipe_8 : decode cX3_wipe 8 = .ok (.aload_n 0, 1) := by decide +kernel
theorem dX3_wipe_9 : decode cX3_wipe 9 = .ok (.getfield 12, 3) := by decide +kernel
theorem dX3_wipe_12 : decode cX3_wipe 12 = .ok (.iconst 0, 1) := by decide +kernel
theorem dX3_wipe_13 : decode cX3_wipe 13 = .ok (.putfield 68, 3) := by decide +kernel
theorem dX3_wipe_16 : decode cX3_wipe 16 = .ok (.iload_n 1, 1) := by decide +kernel
theorem dX3_wipe_17 : decode cX3_wipe 17 = .ok (.ireturn, 1) := by decide +kernel
theorem dX3_fault_0 : decode cX3_fault 0 = .ok (.aload_n 0, 1) := by decide +kernel
theorem dX3_fault_1 : decode cX3_fault 1 = .ok (.getfield 12, 3) := by decide +kernel
theorem dX3_fault_4 : decode cX3_fault 4 = .ok (.aload_n 0, 1) := by decide +kernel
theorem dX3_fault_5 : decode cX3_fault 5 = .ok (.getfield 23, 3) := by decide +kernel
theorem dX3_fault_8 : decode cX3_fault 8 = .ok (.invokevirtual 76, 3) := by decide +kernel
theorem dX3_fault_11 : decode cX3_fault 11 = .ok (.ireturn, 1) := by decide +kernel
theorem dX3_lay_0 : decode cX3_lay 0 = .ok (.aload_n 0, 1) := by decide +kernel
theorem dX3_lay_1 : decode cX3_lay 1 = .ok (.getfield 12, 3) := by decide +kernel
theorem dX3_lay_4 : decode cX3_lay 4 = .ok (.aload_n 0, 1) := by decide +kernel
theorem dX3_lay_5 : decode cX3_lay 5 = .ok (.getfield 23, 3) := by decide +kernel
theorem dX3_lay_8 : decode cX3_lay 8 = .ok (.invokevirtual 76, 3) := by decide +kernel
theorem dX3_lay_11 : decode cX3_lay 11 = .ok (.bipush (-4), 2) := by decide +kernel
theorem dX3_lay_13 : decode cX3_lay 13 = .ok (.if_icmp .ne 13, 3) := by decide +kernel
theorem dX3_lay_16 : decode cX3_lay 16 = .ok (.aload_n 0, 1) := by decide +kernel
theorem dX3_lay_17 : decode cX3_lay 17 = .ok (.getfield 23, 3) := by decide +kernel
theorem dX3_lay_20 : decode cX3_lay 20 = .ok (.getfield 80, 3) := by decide +kernel
theorem dX3_lay_23 : decode cX3_lay 23 = .ok (.ifCond .ne 6, 3) := by decide +kernel
theorem dX3_lay_26 : decode cX3_lay 26 = .ok (.bipush (-2), 2) := by decide +kernel
theorem dX3_lay_28 : decode cX3_lay 28 = .ok (.ireturn, 1) := by decide +kernel
theorem dX3_lay_29 : decode cX3_lay 29 = .ok (.aload_n 0, 1) := by decide +kernel
theorem dX3_lay_30 : decode cX3_lay 30 = .ok (.getfield 19, 3) := by decide +kernel
theorem dX3_lay_33 : decode cX3_lay 33 = .ok (.astore_n 1, 1) := by decide +kernel
theorem dX3_lay_34 : decode cX3_lay 34 = .ok (.aload_n 0, 1) := by decide +kernel
theorem dX3_lay_35 : decode cX3_lay 35 = .ok (.aload_n 0, 1) := by decide +kernel
theorem dX3_lay_36 : decode cX3_lay 36 = .ok (.getfield 23, 3) := by decide +kernel
theorem dX3_lay_39 : decode cX3_lay 39 = .ok (.putfield 19, 3) := by decide +kernel
theorem dX3_lay_42 : decode cX3_lay 42 = .ok (.aload_n 0, 1) := by decide +kernel
theorem dX3_lay_43 : decode cX3_lay 43 = .ok (.aload_n 1, 1) := by decide +kernel
theorem dX3_lay_44 : decode cX3_lay 44 = .ok (.putfield 23, 3) := by decide +kernel
theorem dX3_lay_47 : decode cX3_lay 47 = .ok (.aload_n 0, 1) := by decide +kernel
theorem dX3_lay_48 : decode cX3_lay 48 = .ok (.getfield 29, 3) := by decide +kernel
theorem dX3_lay_51 : decode cX3_lay 51 = .ok (.aload_n 0, 1) := by decide +kernel
theorem dX3_lay_52 : decode cX3_lay 52 = .ok (.getfield 19, 3) := by decide +kernel
theorem dX3_lay_55 : decode cX3_lay 55 = .ok (.invokevirtual 64, 3) := by decide +kernel
theorem dX3_lay_58 : decode cX3_lay 58 = .ok (.aload_n 0, 1) := by decide +kernel
theorem dX3_lay_59 : decode cX3_lay 59 = .ok (.iconst 0, 1) := by decide +kernel
theorem dX3_lay_60 : decode cX3_lay 60 = .ok (.putfield 83, 3) := by decide +kernel
theorem dX3_lay_63 : decode cX3_lay 63 = .ok (.aload_n 0, 1) := by decide +kernel
theorem dX3_lay_64 : decode cX3_lay 64 = .ok (.iconst 0, 1) := by decide +kernel
theorem dX3_lay_65 : decode cX3_lay 65 = .ok (.putfield 86, 3) := by decide +kernel
theorem dX3_lay_68 : decode cX3_lay 68 = .ok (.aload_n 0, 1) := by decide +kernel
theorem dX3_lay_69 : decode cX3_lay 69 = .ok (.getfield 19, 3) := by decide +kernel
theorem dX3_lay_72 : decode cX3_lay 72 = .ok (.getfield 80, 3) := by decide +kernel
theorem dX3_lay_75 : decode cX3_lay 75 = .ok (.ireturn, 1) := by decide +kernel
theorem dX3_half_0 : decode cX3_half 0 = .ok (.aload_n 0, 1) := by decide +kernel
theorem dX3_half_1 : decode cX3_half 1 = .ok (.iload_n 1, 1) := by decide +kernel
theorem dX3_half_2 : decode cX3_half 2 = .ok (.invokevirtual 89, 3) := by decide +kernel
theorem dX3_half_5 : decode cX3_half 5 = .ok (.ifCond .eq 10, 3) := by decide +kernel
theorem dX3_half_8 : decode cX3_half 8 = .ok (.iload_n 2, 1) := by decide +kernel
theorem dX3_half_9 : decode cX3_half 9 = .ok (.invokestatic 92, 3) := by decide +kernel
theorem dX3_half_12 : decode cX3_half 12 = .ok (.ifCond .ne 5, 3) := by decide +kernel
theorem dX3_half_15 : decode cX3_half 15 = .ok (.iconst (-1), 1) := by decide +kernel
theorem dX3_half_16 : decode cX3_half 16 = .ok (.ireturn, 1) := by decide +kernel
theorem dX3_half_17 : decode cX3_half 17 = .ok (.iload_n 3, 1) := by decide +kernel
theorem dX3_half_18 : decode cX3_half 18 = .ok (.tableswitch 79 0 2 #[26, 40, 54], 26) := by decide +kernel
theorem dX3_half_44 : decode cX3_half 44 = .ok (.aload_n 0, 1) := by decide +kernel
theorem dX3_half_45 : decode cX3_half 45 = .ok (.getfield 19, 3) := by decide +kernel
theorem dX3_half_48 : decode cX3_half 48 = .ok (.getfield 95, 3) := by decide +kernel
theorem dX3_half_51 : decode cX3_half 51 = .ok (.iconst 2, 1) := by decide +kernel
theorem dX3_half_52 : decode cX3_half 52 = .ok (.iload_n 1, 1) := by decide +kernel
theorem dX3_half_53 : decode cX3_half 53 = .ok (.imul, 1) := by decide +kernel
theorem dX3_half_54 : decode cX3_half 54 = .ok (.iload_n 2, 1) := by decide +kernel
theorem dX3_half_55 : decode cX3_half 55 = .ok (.iadd, 1) := by decide +kernel
theorem dX3_half_56 : decode cX3_half 56 = .ok (.iaload, 1) := by decide +kernel
theorem dX3_half_57 : decode cX3_half 57 = .ok (.ireturn, 1) := by decide +kernel
theorem dX3_half_58 : decode cX3_half 58 = .ok (.aload_n 0, 1) := by decide +kernel
theorem dX3_half_59 : decode cX3_half 59 = .ok (.getfield 29, 3) := by decide +kernel
theorem dX3_half_62 : decode cX3_half 62 = .ok (.getfield 98, 3) := by decide +kernel
theorem dX3_half_65 : decode cX3_half 65 = .ok (.iconst 2, 1) := by decide +kernel
theorem dX3_half_66 : decode cX3_half 66 = .ok (.iload_n 1, 1) := by decide +kernel
theorem dX3_half_67 : decode cX3_half 67 = .ok (.imul, 1) := by decide +kernel
theorem dX3_half_68 : decode cX3_half 68 = .ok (.iload_n 2, 1) := by decide +kernel
theorem dX3_half_69 : decode cX3_half 69 = .ok (.iadd, 1) := by decide +kernel
theorem dX3_half_70 : decode cX3_half 70 = .ok (.iaload, 1) := by decide +kernel
theorem dX3_half_71 : decode cX3_half 71 = .ok (.ireturn, 1) := by decide +kernel
theorem dX3_half_72 : decode cX3_half 72 = .ok (.iload_n 2, 1) := by decide +kernel
theorem dX3_half_73 : decode cX3_half 73 = .ok (.aload_n 0, 1) := by decide +kernel
theorem dX3_half_74 : decode cX3_half 74 = .ok (.getfield 29, 3) := by decide +kernel
theorem dX3_half_77 : decode cX3_half 77 = .ok (.invokevirtual 101, 3) := by decide +kernel
theorem dX3_half_80 : decode cX3_half 80 = .ok (.if_icmp .ne 7, 3) := by decide +kernel
theorem dX3_half_83 : decode cX3_half 83 = .ok (.iconst 0, 1) := by decide +kernel
theorem dX3_half_84 : decode cX3_half 84 = .ok (.goto 12, 3) := by decide +kernel
theorem dX3_half_87 : decode cX3_half 87 = .ok (.aload_n 0, 1) := by decide +kernel
theorem dX3_half_88 : decode cX3_half 88 = .ok (.getfield 29, 3) := by decide +kernel
theorem dX3_half_91 : decode cX3_half 91 = .ok (.getfield 105, 3) := by decide +kernel
theorem dX3_half_94 : decode cX3_half 94 = .ok (.iload_n 1, 1) := by decide +kernel
theorem dX3_half_95 : decode cX3_half 95 = .ok (.iaload, 1) := by decide +kernel
theorem dX3_half_96 : decode cX3_half 96 = .ok (.ireturn, 1) := by decide +kernel
theorem dX3_half_97 : decode cX3_half 97 = .ok (.iconst (-1), 1) := by decide +kernel
theorem dX3_half_98 : decode cX3_half 98 = .ok (.ireturn, 1) := by decide +kernel
theorem dX3_see_0 : decode cX3_see 0 = .ok (.aload_n 0, 1) := by decide +kernel
theorem dX3_see_1 : decode cX3_see 1 = .ok (.iload_n 1, 1) := by decide +kernel
theorem dX3_see_2 : decode cX3_see 2 = .ok (.invokevirtual 89, 3) := by decide +kernel
theorem dX3_see_5 : decode cX3_see 5 = .ok (.ifCond .eq 10, 3) := by decide +kernel
theorem dX3_see_8 : decode cX3_see 8 = .ok (.iload_n 2, 1) := by decide +kernel
theorem dX3_see_9 : decode cX3_see 9 = .ok (.invokestatic 108, 3) := by decide +kernel
theorem dX3_see_12 : decode cX3_see 12 = .ok (.ifCond .ne 5, 3) := by decide +kernel
theorem dX3_see_15 : decode cX3_see 15 = .ok (.iconst (-1), 1) := by decide +kernel
theorem dX3_see_16 : decode cX3_see 16 = .ok (.ireturn, 1) := by decide +kernel
theorem dX3_see_17 : decode cX3_see 17 = .ok (.aload_n 0, 1) := by decide +kernel
theorem dX3_see_18 : decode cX3_see 18 = .ok (.getfield 29, 3) := by decide +kernel
theorem dX3_see_21 : decode cX3_see 21 = .ok (.iload_n 1, 1) := by decide +kernel
theorem dX3_see_22 : decode cX3_see 22 = .ok (.iload_n 2, 1) := by decide +kernel
theorem dX3_see_23 : decode cX3_see 23 = .ok (.invokevirtual 111, 3) := by decide +kernel
theorem dX3_see_26 : decode cX3_see 26 = .ok (.aload_n 0, 1) := by decide +kernel
theorem dX3_see_27 : decode cX3_see 27 = .ok (.getfield 29, 3) := by decide +kernel
theorem dX3_see_30 : decode cX3_see 30 = .ok (.iload_n 1, 1) := by decide +kernel
theorem dX3_see_31 : decode cX3_see 31 = .ok (.invokevirtual 115, 3) := by decide +kernel
theorem dX3_see_34 : decode cX3_see 34 = .ok (.ireturn, 1) := by decide +kernel
theorem dX3_note_0 : decode cX3_note 0 = .ok (.aload_n 0, 1) := by decide +kernel
theorem dX3_note_1 : decode cX3_note 1 = .ok (.iload_n 1, 1) := by decide +kernel
theorem dX3_note_2 : decode cX3_note 2 = .ok (.invokevirtual 89, 3) := by decide +kernel
theorem dX3_note_5 : decode cX3_note 5 = .ok (.ifCond .eq 10, 3) := by decide +kernel
theorem dX3_note_8 : decode cX3_note 8 = .ok (.iload_n 2, 1) := by decide +kernel
theorem dX3_note_9 : decode cX3_note 9 = .ok (.invokestatic 108, 3) := by decide +kernel
theorem dX3_note_12 : decode cX3_note 12 = .ok (.ifCond .ne 5, 3) := by decide +kernel
theorem dX3_note_15 : decode cX3_note 15 = .ok (.iconst (-1), 1) := by decide +kernel
theorem dX3_note_16 : decode cX3_note 16 = .ok (.ireturn, 1) := by decide +kernel
theorem dX3_note_17 : decode cX3_note 17 = .ok (.iconst 1, 1) := by decide +kernel
theorem dX3_note_18 : decode cX3_note 18 = .ok (.iload_n 2, 1) := by decide +kernel
theorem dX3_note_19 : decode cX3_note 19 = .ok (.ishl, 1) := by decide +kernel
theorem dX3_note_20 : decode cX3_note 20 = .ok (.istore_n 3, 1) := by decide +kernel
theorem dX3_note_21 : decode cX3_note 21 = .ok (.aload_n 0, 1) := by decide +kernel
theorem dX3_note_22 : decode cX3_note 22 = .ok (.getfield 29, 3) := by decide +kernel
theorem dX3_note_25 : decode cX3_note 25 = .ok (.iload_n 1, 1) := by decide +kernel
theorem dX3_note_26 : decode cX3_note 26 = .ok (.invokevirtual 115, 3) := by decide +kernel
theorem dX3_note_29 : decode cX3_note 29 = .ok (.iload_n 3, 1) := by decide +kernel
theorem dX3_note_30 : decode cX3_note 30 = .ok (.iand, 1) := by decide +kernel
theorem dX3_note_31 : decode cX3_note 31 = .ok (.ifCond .ne 6, 3) := by decide +kernel
theorem dX3_note_34 : decode cX3_note 34 = .ok (.bipush (-2), 2) := by decide +kernel
theorem dX3_note_36 : decode cX3_note 36 = .ok (.ireturn, 1) := by decide +kernel
theorem dX3_note_37 : decode cX3_note 37 = .ok (.aload_n 0, 1) := by decide +kernel
theorem dX3_note_38 : decode cX3_note 38 = .ok (.getfield 29, 3) := by decide +kernel
theorem dX3_note_41 : decode cX3_note 41 = .ok (.getfield 105, 3) := by decide +kernel
theorem dX3_note_44 : decode cX3_note 44 = .ok (.iload_n 1, 1) := by decide +kernel
theorem dX3_note_45 : decode cX3_note 45 = .ok (.dup2, 1) := by decide +kernel
theorem dX3_note_46 : decode cX3_note 46 = .ok (.iaload, 1) := by decide +kernel
theorem dX3_note_47 : decode cX3_note 47 = .ok (.iload_n 3, 1) := by decide +kernel
theorem dX3_note_48 : decode cX3_note 48 = .ok (.ior, 1) := by decide +kernel
theorem dX3_note_49 : decode cX3_note 49 = .ok (.iastore, 1) := by decide +kernel
theorem dX3_note_50 : decode cX3_note 50 = .ok (.aload_n 0, 1) := by decide +kernel
theorem dX3_note_51 : decode cX3_note 51 = .ok (.getfield 29, 3) := by decide +kernel
theorem dX3_note_54 : decode cX3_note 54 = .ok (.getfield 105, 3) := by decide +kernel
theorem dX3_note_57 : decode cX3_note 57 = .ok (.iload_n 1, 1) := by decide +kernel
theorem dX3_note_58 : decode cX3_note 58 = .ok (.iaload, 1) := by decide +kernel
theorem dX3_note_59 : decode cX3_note 59 = .ok (.ireturn, 1) := by decide +kernel
theorem dX3_deed_0 : decode cX3_deed 0 = .ok (.aload_n 0, 1) := by decide +kernel
theorem dX3_deed_1 : decode cX3_deed 1 = .ok (.iload_n 1, 1) := by decide +kernel
theorem dX3_deed_2 : decode cX3_deed 2 = .ok (.invokevirtual 89, 3) := by decide +kernel
theorem dX3_deed_5 : decode cX3_deed 5 = .ok (.ifCond .eq 10, 3) := by decide +kernel
theorem dX3_deed_8 : decode cX3_deed 8 = .ok (.iload_n 2, 1) := by decide +kernel
theorem dX3_deed_9 : decode cX3_deed 9 = .ok (.invokestatic 119, 3) := by decide +kernel
theorem dX3_deed_12 : decode cX3_deed 12 = .ok (.ifCond .ne 5, 3) := by decide +kernel
theorem dX3_deed_15 : decode cX3_deed 15 = .ok (.iconst (-1), 1) := by decide +kernel
theorem dX3_deed_16 : decode cX3_deed 16 = .ok (.ireturn, 1) := by decide +kernel
theorem dX3_deed_17 : decode cX3_deed 17 = .ok (.aload_n 0, 1) := by decide +kernel
theorem dX3_deed_18 : decode cX3_deed 18 = .ok (.getfield 29, 3) := by decide +kernel
theorem dX3_deed_21 : decode cX3_deed 21 = .ok (.iload_n 1, 1) := by decide +kernel
theorem dX3_deed_22 : decode cX3_deed 22 = .ok (.invokevirtual 115, 3) := by decide +kernel
theorem dX3_deed_25 : decode cX3_deed 25 = .ok (.iload_n 2, 1) := by decide +kernel
theorem dX3_deed_26 : decode cX3_deed 26 = .ok (.invokestatic 122, 3) := by decide +kernel
theorem dX3_deed_29 : decode cX3_deed 29 = .ok (.ifCond .eq 7, 3) := by decide +kernel
theorem dX3_deed_32 : decode cX3_deed 32 = .ok (.iconst 1, 1) := by decide +kernel
theorem dX3_deed_33 : decode cX3_deed 33 = .ok (.goto 4, 3) := by decide +kernel
theorem dX3_deed_36 : decode cX3_deed 36 = .ok (.iconst 0, 1) := by decide +kernel
theorem dX3_deed_37 : decode cX3_deed 37 = .ok (.ireturn, 1) := by decide +kernel
theorem dX3_shifts_0 : decode cX3_shifts 0 = .ok (.iload_n 1, 1) := by decide +kernel
theorem dX3_shifts_1 : decode cX3_shifts 1 = .ok (.iconst 1, 1) := by decide +kernel
theorem dX3_shifts_2 : decode cX3_shifts 2 = .ok (.if_icmp .lt 9, 3) := by decide +kernel
theorem dX3_shifts_5 : decode cX3_shifts 5 = .ok (.iload_n 1, 1) := by decide +kernel
theorem dX3_shifts_6 : decode cX3_shifts 6 = .ok (.bipush 40, 2) := by decide +kernel
theorem dX3_shifts_8 : decode cX3_shifts 8 = .ok (.if_icmp .le 5, 3) := by decide +kernel
theorem dX3_shifts_11 : decode cX3_shifts 11 = .ok (.iconst (-1), 1) := by decide +kernel
theorem dX3_shifts_12 : decode cX3_shifts 12 = .ok (.ireturn, 1) := by decide +kernel
theorem dX3_shifts_13 : decode cX3_shifts 13 = .ok (.aload_n 0, 1) := by decide +kernel
theorem dX3_shifts_14 : decode cX3_shifts 14 = .ok (.getfield 29, 3) := by decide +kernel
theorem dX3_shifts_17 : decode cX3_shifts 17 = .ok (.getfield 125, 3) := by decide +kernel
theorem dX3_shifts_20 : decode cX3_shifts 20 = .ok (.iload_n 1, 1) := by decide +kernel
theorem dX3_shifts_21 : decode cX3_shifts 21 = .ok (.iadd, 1) := by decide +kernel
theorem dX3_shifts_22 : decode cX3_shifts 22 = .ok (.sipush 9999, 3) := by decide +kernel
theorem dX3_shifts_25 : decode cX3_shifts 25 = .ok (.if_icmp .le 6, 3) := by decide +kernel
theorem dX3_shifts_28 : decode cX3_shifts 28 = .ok (.bipush (-2), 2) := by decide +kernel
theorem dX3_shifts_30 : decode cX3_shifts 30 = .ok (.ireturn, 1) := by decide +kernel
theorem dX3_shifts_31 : decode cX3_shifts 31 = .ok (.aload_n 0, 1) := by decide +kernel
theorem dX3_shifts_32 : decode cX3_shifts 32 = .ok (.getfield 29, 3) := by decide +kernel
theorem dX3_shifts_35 : decode cX3_shifts 35 = .ok (.aload_n 0, 1) := by decide +kernel
theorem dX3_shifts_36 : decode cX3_shifts 36 = .ok (.getfield 19, 3) := by decide +kernel
theorem dX3_shifts_39 : decode cX3_shifts 39 = .ok (.iload_n 1, 1) := by decide +kernel
theorem dX3_shifts_40 : decode cX3_shifts 40 = .ok (.invokevirtual 128, 3) := by decide +kernel
theorem dX3_shifts_43 : decode cX3_shifts 43 = .ok (.aload_n 0, 1) := by decide +kernel
theorem dX3_shifts_44 : decode cX3_shifts 44 = .ok (.getfield 29, 3) := by decide +kernel
theorem dX3_shifts_47 : decode cX3_shifts 47 = .ok (.getfield 125, 3) := by decide +kernel
theorem dX3_shifts_50 : decode cX3_shifts 50 = .ok (.ireturn, 1) := by decide +kernel
theorem dX3_done_0 : decode cX3_done 0 = .ok (.aload_n 0, 1) := by decide +kernel
theorem dX3_done_1 : decode cX3_done 1 = .ok (.iload_n 1, 1) := by decide +kernel
theorem dX3_done_2 : decode cX3_done 2 = .ok (.invokevirtual 89, 3) := by decide +kernel
theorem dX3_done_5 : decode cX3_done 5 = .ok (.ifCond .eq 11, 3) := by decide +kernel
theorem dX3_done_8 : decode cX3_done 8 = .ok (.aload_n 0, 1) := by decide +kernel
theorem dX3_done_9 : decode cX3_done 9 = .ok (.iload_n 2, 1) := by decide +kernel
theorem dX3_done_10 : decode cX3_done 10 = .ok (.invokevirtual 132, 3) := by decide +kernel
theorem dX3_done_13 : decode cX3_done 13 = .ok (.ifCond .ne 5, 3) := by decide +kernel
theorem dX3_done_16 : decode cX3_done 16 = .ok (.iconst (-1), 1) := by decide +kernel
theorem dX3_done_17 : decode cX3_done 17 = .ok (.ireturn, 1) := by decide +kernel
theorem dX3_done_18 : decode cX3_done 18 = .ok (.aload_n 0, 1) := by decide +kernel
theorem dX3_done_19 : decode cX3_done 19 = .ok (.getfield 19, 3) := by decide +kernel
theorem dX3_done_22 : decode cX3_done 22 = .ok (.iload_n 1, 1) := by decide +kernel
theorem dX3_done_23 : decode cX3_done 23 = .ok (.iload_n 2, 1) := by decide +kernel
theorem dX3_done_24 : decode cX3_done 24 = .ok (.aload_n 0, 1) := by decide +kernel
theorem dX3_done_25 : decode cX3_done 25 = .ok (.getfield 29, 3) := by decide +kernel
theorem dX3_done_28 : decode cX3_done 28 = .ok (.getfield 125, 3) := by decide +kernel
theorem dX3_done_31 : decode cX3_done 31 = .ok (.invokevirtual 135, 3) := by decide +kernel
theorem dX3_done_34 : decode cX3_done 34 = .ok (.ireturn, 1) := by decide +kernel
theorem dX3_handed_0 : decode cX3_handed 0 = .ok (.aload_n 0, 1) := by decide +kernel
theorem dX3_handed_1 : decode cX3_handed 1 = .ok (.iload_n 1, 1) := by decide +kernel
theorem dX3_handed_2 : decode cX3_handed 2 = .ok (.invokevirtual 89, 3) := by decide +kernel
theorem dX3_handed_5 : decode cX3_handed 5 = .ok (.ifCond .eq 11, 3) := by decide +kernel
theorem dX3_handed_8 : decode cX3_handed 8 = .ok (.aload_n 0, 1) := by decide +kernel
theorem dX3_handed_9 : decode cX3_handed 9 = .ok (.iload_n 2, 1) := by decide +kernel
theorem dX3_handed_10 : decode cX3_handed 10 = .ok (.invokevirtual 132, 3) := by decide +kernel
theorem dX3_handed_13 : decode cX3_handed 13 = .ok (.ifCond .ne 5, 3) := by decide +kernel
theorem dX3_handed_16 : decode cX3_handed 16 = .ok (.iconst (-1), 1) := by decide +kernel
theorem dX3_handed_17 : decode cX3_handed 17 = .ok (.ireturn, 1) := by decide +kernel
theorem dX3_handed_18 : decode cX3_handed 18 = .ok (.aload_n 0, 1) := by decide +kernel
theorem dX3_handed_19 : decode cX3_handed 19 = .ok (.getfield 19, 3) := by decide +kernel
theorem dX3_handed_22 : decode cX3_handed 22 = .ok (.iload_n 1, 1) := by decide +kernel
theorem dX3_handed_23 : decode cX3_handed 23 = .ok (.iload_n 2, 1) := by decide +kernel
theorem dX3_handed_24 : decode cX3_handed 24 = .ok (.invokevirtual 139, 3) := by decide +kernel
theorem dX3_handed_27 : decode cX3_handed 27 = .ok (.ireturn, 1) := by decide +kernel
theorem dX3_best_0 : decode cX3_best 0 = .ok (.aload_n 0, 1) := by decide +kernel
theorem dX3_best_1 : decode cX3_best 1 = .ok (.iload_n 1, 1) := by decide +kernel
theorem dX3_best_2 : decode cX3_best 2 = .ok (.invokevirtual 132, 3) := by decide +kernel
theorem dX3_best_5 : decode cX3_best 5 = .ok (.ifCond .ne 5, 3) := by decide +kernel
theorem dX3_best_8 : decode cX3_best 8 = .ok (.iconst (-1), 1) := by decide +kernel
theorem dX3_best_9 : decode cX3_best 9 = .ok (.ireturn, 1) := by decide +kernel
theorem dX3_best_10 : decode cX3_best 10 = .ok (.bipush (-4), 2) := by decide +kernel
theorem dX3_best_12 : decode cX3_best 12 = .ok (.istore_n 2, 1) := by decide +kernel
theorem dX3_best_13 : decode cX3_best 13 = .ok (.bipush (-4), 2) := by decide +kernel
theorem dX3_best_15 : decode cX3_best 15 = .ok (.istore_n 3, 1) := by decide +kernel
theorem dX3_best_16 : decode cX3_best 16 = .ok (.iconst 0, 1) := by decide +kernel
theorem dX3_best_17 : decode cX3_best 17 = .ok (.istore 4, 2) := by decide +kernel
theorem dX3_best_19 : decode cX3_best 19 = .ok (.iload 4, 2) := by decide +kernel
theorem dX3_best_21 : decode cX3_best 21 = .ok (.aload_n 0, 1) := by decide +kernel
theorem dX3_best_22 : decode cX3_best 22 = .ok (.getfield 19, 3) := by decide +kernel
theorem dX3_best_25 : decode cX3_best 25 = .ok (.getfield 80, 3) := by decide +kernel
theorem dX3_best_28 : decode cX3_best 28 = .ok (.if_icmp .ge 53, 3) := by decide +kernel
theorem dX3_best_31 : decode cX3_best 31 = .ok (.aload_n 0, 1) := by decide +kernel
theorem dX3_best_32 : decode cX3_best 32 = .ok (.getfield 19, 3) := by decide +kernel
theorem dX3_best_35 : decode cX3_best 35 = .ok (.iload 4, 2) := by decide +kernel
theorem dX3_best_37 : decode cX3_best 37 = .ok (.iload_n 1, 1) := by decide +kernel
theorem dX3_best_38 : decode cX3_best 38 = .ok (.aload_n 0, 1) := by decide +kernel
theorem dX3_best_39 : decode cX3_best 39 = .ok (.getfield 29, 3) := by decide +kernel
theorem dX3_best_42 : decode cX3_best 42 = .ok (.getfield 125, 3) := by decide +kernel
theorem dX3_best_45 : decode cX3_best 45 = .ok (.invokevirtual 135, 3) := by decide +kernel
theorem dX3_best_48 : decode cX3_best 48 = .ok (.istore 5, 2) := by decide +kernel
theorem dX3_best_50 : decode cX3_best 50 = .ok (.iload 5, 2) := by decide +kernel
theorem dX3_best_52 : decode cX3_best 52 = .ok (.bipush (-4), 2) := by decide +kernel
theorem dX3_best_54 : decode cX3_best 54 = .ok (.if_icmp .eq 21, 3) := by decide +kernel
theorem dX3_best_57 : decode cX3_best 57 = .ok (.iload_n 3, 1) := by decide +kernel
theorem dX3_best_58 : decode cX3_best 58 = .ok (.bipush (-4), 2) := by decide +kernel
theorem dX3_best_60 : decode cX3_best 60 = .ok (.if_icmp .eq 9, 3) := by decide +kernel
theorem dX3_best_63 : decode cX3_best 63 = .ok (.iload 5, 2) := by decide +kernel
theorem dX3_best_65 : decode cX3_best 65 = .ok (.iload_n 2, 1) := by decide +kernel
theorem dX3_best_66 : decode cX3_best 66 = .ok (.if_icmp .ge 9, 3) := by decide +kernel
theorem dX3_best_69 : decode cX3_best 69 = .ok (.iload 5, 2) := by decide +kernel
theorem dX3_best_71 : decode cX3_best 71 = .ok (.istore_n 2, 1) := by decide +kernel
theorem dX3_best_72 : decode cX3_best 72 = .ok (.iload 4, 2) := by decide +kernel
theorem dX3_best_74 : decode cX3_best 74 = .ok (.istore_n 3, 1) := by decide +kernel
theorem dX3_best_75 : decode cX3_best 75 = .ok (.iinc 4 1, 3) := by decide +kernel
theorem dX3_best_78 : decode cX3_best 78 = .ok (.goto (-59), 3) := by decide +kernel
theorem dX3_best_81 : decode cX3_best 81 = .ok (.iload_n 3, 1) := by decide +kernel
theorem dX3_best_82 : decode cX3_best 82 = .ok (.ireturn, 1) := by decide +kernel
theorem dX3_knows_0 : decode cX3_knows 0 = .ok (.iload_n 1, 1) := by decide +kernel
theorem dX3_knows_1 : decode cX3_knows 1 = .ok (.invokestatic 143, 3) := by decide +kernel
theorem dX3_knows_4 : decode cX3_knows 4 = .ok (.ifCond .eq 18, 3) := by decide +kernel
theorem dX3_knows_7 : decode cX3_knows 7 = .ok (.aload_n 0, 1) := by decide +kernel
theorem dX3_knows_8 : decode cX3_knows 8 = .ok (.iload_n 2, 1) := by decide +kernel
theorem dX3_knows_9 : decode cX3_knows 9 = .ok (.invokevirtual 89, 3) := by decide +kernel
theorem dX3_knows_12 : decode cX3_knows 12 = .ok (.ifCond .eq 10, 3) := by decide +kernel
theorem dX3_knows_15 : decode cX3_knows 15 = .ok (.iload_n 3, 1) := by decide +kernel
theorem dX3_knows_16 : decode cX3_knows 16 = .ok (.invokestatic 92, 3) := by decide +kernel
theorem dX3_knows_19 : decode cX3_knows 19 = .ok (.ifCond .ne 5, 3) := by decide +kernel
theorem dX3_knows_22 : decode cX3_knows 22 = .ok (.iconst (-1), 1) := by decide +kernel
theorem dX3_knows_23 : decode cX3_knows 23 = .ok (.ireturn, 1) := by decide +kernel
theorem dX3_knows_24 : decode cX3_knows 24 = .ok (.aload_n 0, 1) := by decide +kernel
theorem dX3_knows_25 : decode cX3_knows 25 = .ok (.getfield 33, 3) := by decide +kernel
theorem dX3_knows_28 : decode cX3_knows 28 = .ok (.aload_n 0, 1) := by decide +kernel
theorem dX3_knows_29 : decode cX3_knows 29 = .ok (.getfield 29, 3) := by decide +kernel
theorem dX3_knows_32 : decode cX3_knows 32 = .ok (.invokevirtual 146, 3) := by decide +kernel
theorem dX3_knows_35 : decode cX3_knows 35 = .ok (.aload_n 0, 1) := by decide +kernel
theorem dX3_knows_36 : decode cX3_knows 36 = .ok (.getfield 33, 3) := by decide +kernel
theorem dX3_knows_39 : decode cX3_knows 39 = .ok (.aload_n 0, 1) := by decide +kernel
theorem dX3_knows_40 : decode cX3_knows 40 = .ok (.getfield 19, 3) := by decide +kernel
theorem dX3_knows_43 : decode cX3_knows 43 = .ok (.iload_n 1, 1) := by decide +kernel
theorem dX3_knows_44 : decode cX3_knows 44 = .ok (.invokevirtual 128, 3) := by decide +kernel
theorem dX3_knows_47 : decode cX3_knows 47 = .ok (.aload_n 0, 1) := by decide +kernel
theorem dX3_knows_48 : decode cX3_knows 48 = .ok (.getfield 33, 3) := by decide +kernel
theorem dX3_knows_51 : decode cX3_knows 51 = .ok (.getfield 98, 3) := by decide +kernel
theorem dX3_knows_54 : decode cX3_knows 54 = .ok (.iconst 2, 1) := by decide +kernel
theorem dX3_knows_55 : decode cX3_knows 55 = .ok (.iload_n 2, 1) := by decide +kernel
theorem dX3_knows_56 : decode cX3_knows 56 = .ok (.imul, 1) := by decide +kernel
theorem dX3_knows_57 : decode cX3_knows 57 = .ok (.iload_n 3, 1) := by decide +kernel
theorem dX3_knows_58 : decode cX3_knows 58 = .ok (.iadd, 1) := by decide +kernel
theorem dX3_knows_59 : decode cX3_knows 59 = .ok (.iaload, 1) := by decide +kernel
theorem dX3_knows_60 : decode cX3_knows 60 = .ok (.ireturn, 1) := by decide +kernel
theorem dX3_could_0 : decode cX3_could 0 = .ok (.iload_n 1, 1) := by decide +kernel
theorem dX3_could_1 : decode cX3_could 1 = .ok (.invokestatic 143, 3) := by decide +kernel
theorem dX3_could_4 : decode cX3_could 4 = .ok (.ifCond .eq 10, 3) := by decide +kernel
theorem dX3_could_7 : decode cX3_could 7 = .ok (.iload_n 2, 1) := by decide +kernel
theorem dX3_could_8 : decode cX3_could 8 = .ok (.invokestatic 119, 3) := by decide +kernel
theorem dX3_could_11 : decode cX3_could 11 = .ok (.ifCond .ne 5, 3) := by decide +kernel
theorem dX3_could_14 : decode cX3_could 14 = .ok (.iconst (-1), 1) := by decide +kernel
theorem dX3_could_15 : decode cX3_could 15 = .ok (.ireturn, 1) := by decide +kernel
theorem dX3_could_16 : decode cX3_could 16 = .ok (.aload_n 0, 1) := by decide +kernel
theorem dX3_could_17 : decode cX3_could 17 = .ok (.getfield 33, 3) := by decide +kernel
theorem dX3_could_20 : decode cX3_could 20 = .ok (.aload_n 0, 1) := by decide +kernel
theorem dX3_could_21 : decode cX3_could 21 = .ok (.getfield 29, 3) := by decide +kernel
theorem dX3_could_24 : decode cX3_could 24 = .ok (.invokevirtual 146, 3) := by decide +kernel
theorem dX3_could_27 : decode cX3_could 27 = .ok (.aload_n 0, 1) := by decide +kernel
theorem dX3_could_28 : decode cX3_could 28 = .ok (.getfield 33, 3) := by decide +kernel
theorem dX3_could_31 : decode cX3_could 31 = .ok (.aload_n 0, 1) := by decide +kernel
theorem dX3_could_32 : decode cX3_could 32 = .ok (.getfield 19, 3) := by decide +kernel
theorem dX3_could_35 : decode cX3_could 35 = .ok (.iload_n 1, 1) := by decide +kernel
theorem dX3_could_36 : decode cX3_could 36 = .ok (.invokevirtual 128, 3) := by decide +kernel
theorem dX3_could_39 : decode cX3_could 39 = .ok (.aload_n 0, 1) := by decide +kernel
theorem dX3_could_40 : decode cX3_could 40 = .ok (.getfield 33, 3) := by decide +kernel
theorem dX3_could_43 : decode cX3_could 43 = .ok (.iload_n 2, 1) := by decide +kernel
theorem dX3_could_44 : decode cX3_could 44 = .ok (.aload_n 0, 1) := by decide +kernel
theorem dX3_could_45 : decode cX3_could 45 = .ok (.getfield 19, 3) := by decide +kernel
theorem dX3_could_48 : decode cX3_could 48 = .ok (.getfield 80, 3) := by decide +kernel
theorem dX3_could_51 : decode cX3_could 51 = .ok (.invokevirtual 150, 3) := by decide +kernel
theorem dX3_could_54 : decode cX3_could 54 = .ok (.ireturn, 1) := by decide +kernel
theorem dX3_alike_0 : decode cX3_alike 0 = .ok (.aload_n 0, 1) := by decide +kernel
theorem dX3_alike_1 : decode cX3_alike 1 = .ok (.iload_n 1, 1) := by decide +kernel
theorem dX3_alike_2 : decode cX3_alike 2 = .ok (.invokevirtual 89, 3) := by decide +kernel
theorem dX3_alike_5 : decode cX3_alike 5 = .ok (.ifCond .ne 5, 3) := by decide +kernel
theorem dX3_alike_8 : decode cX3_alike 8 = .ok (.iconst (-1), 1) := by decide +kernel
theorem dX3_alike_9 : decode cX3_alike 9 = .ok (.ireturn, 1) := by decide +kernel
theorem dX3_alike_10 : decode cX3_alike 10 = .ok (.aload_n 0, 1) := by decide +kernel
theorem dX3_alike_11 : decode cX3_alike 11 = .ok (.getfield 33, 3) := by decide +kernel
theorem dX3_alike_14 : decode cX3_alike 14 = .ok (.aload_n 0, 1) := by decide +kernel
theorem dX3_alike_15 : decode cX3_alike 15 = .ok (.getfield 29, 3) := by decide +kernel
theorem dX3_alike_18 : decode cX3_alike 18 = .ok (.invokevirtual 146, 3) := by decide +kernel
theorem dX3_alike_21 : decode cX3_alike 21 = .ok (.iconst 0, 1) := by decide +kernel
theorem dX3_alike_22 : decode cX3_alike 22 = .ok (.istore_n 2, 1) := by decide +kernel
theorem dX3_alike_23 : decode cX3_alike 23 = .ok (.iload_n 2, 1) := by decide +kernel
theorem dX3_alike_24 : decode cX3_alike 24 = .ok (.bipush 40, 2) := by decide +kernel
theorem dX3_alike_26 : decode cX3_alike 26 = .ok (.if_icmp .gt 50, 3) := by decide +kernel
theorem dX3_alike_29 : decode cX3_alike 29 = .ok (.aload_n 0, 1) := by decide +kernel
theorem dX3_alike_30 : decode cX3_alike 30 = .ok (.getfield 33, 3) := by decide +kernel
theorem dX3_alike_33 : decode cX3_alike 33 = .ok (.getfield 98, 3) := by decide +kernel
theorem dX3_alike_36 : decode cX3_alike 36 = .ok (.iconst 2, 1) := by decide +kernel
theorem dX3_alike_37 : decode cX3_alike 37 = .ok (.iload_n 1, 1) := by decide +kernel
theorem dX3_alike_38 : decode cX3_alike 38 = .ok (.imul, 1) := by decide +kernel
theorem dX3_alike_39 : decode cX3_alike 39 = .ok (.iaload, 1) := by decide +kernel
theorem dX3_alike_40 : decode cX3_alike 40 = .ok (.aload_n 0, 1) := by decide +kernel
theorem dX3_alike_41 : decode cX3_alike 41 = .ok (.getfield 33, 3) := by decide +kernel
theorem dX3_alike_44 : decode cX3_alike 44 = .ok (.getfield 98, 3) := by decide +kernel
theorem dX3_alike_47 : decode cX3_alike 47 = .ok (.iconst 2, 1) := by decide +kernel
theorem dX3_alike_48 : decode cX3_alike 48 = .ok (.iload_n 1, 1) := by decide +kernel
theorem dX3_alike_49 : decode cX3_alike 49 = .ok (.imul, 1) := by decide +kernel
theorem dX3_alike_50 : decode cX3_alike 50 = .ok (.iconst 1, 1) := by decide +kernel
theorem dX3_alike_51 : decode cX3_alike 51 = .ok (.iadd, 1) := by decide +kernel
theorem dX3_alike_52 : decode cX3_alike 52 = .ok (.iaload, 1) := by decide +kernel
theorem dX3_alike_53 : decode cX3_alike 53 = .ok (.if_icmp .ne 5, 3) := by decide +kernel
theorem dX3_alike_56 : decode cX3_alike 56 = .ok (.iload_n 2, 1) := by decide +kernel
theorem dX3_alike_57 : decode cX3_alike 57 = .ok (.ireturn, 1) := by decide +kernel
theorem dX3_alike_58 : decode cX3_alike 58 = .ok (.aload_n 0, 1) := by decide +kernel
theorem dX3_alike_59 : decode cX3_alike 59 = .ok (.getfield 33, 3) := by decide +kernel
theorem dX3_alike_62 : decode cX3_alike 62 = .ok (.aload_n 0, 1) := by decide +kernel
theorem dX3_alike_63 : decode cX3_alike 63 = .ok (.getfield 19, 3) := by decide +kernel
theorem dX3_alike_66 : decode cX3_alike 66 = .ok (.iconst 1, 1) := by decide +kernel
theorem dX3_alike_67 : decode cX3_alike 67 = .ok (.invokevirtual 128, 3) := by decide +kernel
theorem dX3_alike_70 : decode cX3_alike 70 = .ok (.iinc 2 1, 3) := by decide +kernel
theorem dX3_alike_73 : decode cX3_alike 73 = .ok (.goto (-50), 3) := by decide +kernel
theorem dX3_alike_76 : decode cX3_alike 76 = .ok (.bipush (-4), 2) := by decide +kernel
theorem dX3_alike_78 : decode cX3_alike 78 = .ok (.ireturn, 1) := by decide +kernel
theorem dX3_purse_0 : decode cX3_purse 0 = .ok (.iload_n 1, 1) := by decide +kernel
theorem dX3_purse_1 : decode cX3_purse 1 = .ok (.invokestatic 153, 3) := by decide +kernel
theorem dX3_purse_4 : decode cX3_purse 4 = .ok (.ifCond .eq 17, 3) := by decide +kernel
theorem dX3_purse_7 : decode cX3_purse 7 = .ok (.iload_n 2, 1) := by decide +kernel
theorem dX3_purse_8 : decode cX3_purse 8 = .ok (.invokestatic 153, 3) := by decide +kernel
theorem dX3_purse_11 : decode cX3_purse 11 = .ok (.ifCond .eq 10, 3) := by decide +kernel
theorem dX3_purse_14 : decode cX3_purse 14 = .ok (.iload_n 3, 1) := by decide +kernel
theorem dX3_purse_15 : decode cX3_purse 15 = .ok (.invokestatic 92, 3) := by decide +kernel
theorem dX3_purse_18 : decode cX3_purse 18 = .ok (.ifCond .ne 5, 3) := by decide +kernel
theorem dX3_purse_21 : decode cX3_purse 21 = .ok (.iconst (-1), 1) := by decide +kernel
theorem dX3_purse_22 : decode cX3_purse 22 = .ok (.ireturn, 1) := by decide +kernel
theorem dX3_purse_23 : decode cX3_purse 23 = .ok (.aload_n 0, 1) := by decide +kernel
theorem dX3_purse_24 : decode cX3_purse 24 = .ok (.getfield 19, 3) := by decide +kernel
theorem dX3_purse_27 : decode cX3_purse 27 = .ok (.iload_n 1, 1) := by decide +kernel
theorem dX3_purse_28 : decode cX3_purse 28 = .ok (.iload_n 2, 1) := by decide +kernel
theorem dX3_purse_29 : decode cX3_purse 29 = .ok (.iload_n 3, 1) := by decide +kernel
theorem dX3_purse_30 : decode cX3_purse 30 = .ok (.invokevirtual 156, 3) := by decide +kernel
theorem dX3_purse_33 : decode cX3_purse 33 = .ok (.ireturn, 1) := by decide +kernel
theorem dX3_rests_0 : decode cX3_rests 0 = .ok (.iload_n 1, 1) := by decide +kernel
theorem dX3_rests_1 : decode cX3_rests 1 = .ok (.ifCond .lt 8, 3) := by decide +kernel
theorem dX3_rests_4 : decode cX3_rests 4 = .ok (.iload_n 1, 1) := by decide +kernel
theorem dX3_rests_5 : decode cX3_rests 5 = .ok (.iconst 2, 1) := by decide +kernel
theorem dX3_rests_6 : decode cX3_rests 6 = .ok (.if_icmp .le 5, 3) := by decide +kernel
theorem dX3_rests_9 : decode cX3_rests 9 = .ok (.iconst (-1), 1) := by decide +kernel
theorem dX3_rests_10 : decode cX3_rests 10 = .ok (.ireturn, 1) := by decide +kernel
theorem dX3_rests_11 : decode cX3_rests 11 = .ok (.aload_n 0, 1) := by decide +kernel
theorem dX3_rests_12 : decode cX3_rests 12 = .ok (.invokevirtual 159, 3) := by decide +kernel
theorem dX3_rests_15 : decode cX3_rests 15 = .ok (.iconst 0, 1) := by decide +kernel
theorem dX3_rests_16 : decode cX3_rests 16 = .ok (.istore_n 2, 1) := by decide +kernel
theorem dX3_rests_17 : decode cX3_rests 17 = .ok (.bipush (-4), 2) := by decide +kernel
theorem dX3_rests_19 : decode cX3_rests 19 = .ok (.istore_n 3, 1) := by decide +kernel
theorem dX3_rests_20 : decode cX3_rests 20 = .ok (.iconst 0, 1) := by decide +kernel
theorem dX3_rests_21 : decode cX3_rests 21 = .ok (.istore 4, 2) := by decide +kernel
theorem dX3_rests_23 : decode cX3_rests 23 = .ok (.iload 4, 2) := by decide +kernel
theorem dX3_rests_25 : decode cX3_rests 25 = .ok (.bipush 10, 2) := by decide +kernel
theorem dX3_rests_27 : decode cX3_rests 27 = .ok (.if_icmp .ge 89, 3) := by decide +kernel
theorem dX3_rests_30 : decode cX3_rests 30 = .ok (.iconst 0, 1) := by decide +kernel
theorem dX3_rests_31 : decode cX3_rests 31 = .ok (.istore 5, 2) := by decide +kernel
theorem dX3_rests_33 : decode cX3_rests 33 = .ok (.iload 5, 2) := by decide +kernel
theorem dX3_rests_35 : decode cX3_rests 35 = .ok (.bipush 10, 2) := by decide +kernel
theorem dX3_rests_37 : decode cX3_rests 37 = .ok (.if_icmp .ge 73, 3) := by decide +kernel
theorem dX3_rests_40 : decode cX3_rests 40 = .ok (.aload_n 0, 1) := by decide +kernel
theorem dX3_rests_41 : decode cX3_rests 41 = .ok (.getfield 19, 3) := by decide +kernel
theorem dX3_rests_44 : decode cX3_rests 44 = .ok (.iload 4, 2) := by decide +kernel
theorem dX3_rests_46 : decode cX3_rests 46 = .ok (.iload 5, 2) := by decide +kernel
theorem dX3_rests_48 : decode cX3_rests 48 = .ok (.iconst 0, 1) := by decide +kernel
theorem dX3_rests_49 : decode cX3_rests 49 = .ok (.invokevirtual 156, 3) := by decide +kernel
theorem dX3_rests_52 : decode cX3_rests 52 = .ok (.aload_n 0, 1) := by decide +kernel
theorem dX3_rests_53 : decode cX3_rests 53 = .ok (.getfield 46, 3) := by decide +kernel
theorem dX3_rests_56 : decode cX3_rests 56 = .ok (.iload 5, 2) := by decide +kernel
theorem dX3_rests_58 : decode cX3_rests 58 = .ok (.iaload, 1) := by decide +kernel
theorem dX3_rests_59 : decode cX3_rests 59 = .ok (.if_icmp .ne 45, 3) := by decide +kernel
theorem dX3_rests_62 : decode cX3_rests 62 = .ok (.aload_n 0, 1) := by decide +kernel
theorem dX3_rests_63 : decode cX3_rests 63 = .ok (.getfield 19, 3) := by decide +kernel
theorem dX3_rests_66 : decode cX3_rests 66 = .ok (.iload 4, 2) := by decide +kernel
theorem dX3_rests_68 : decode cX3_rests 68 = .ok (.iload 5, 2) := by decide +kernel
theorem dX3_rests_70 : decode cX3_rests 70 = .ok (.iconst 1, 1) := by decide +kernel
theorem dX3_rests_71 : decode cX3_rests 71 = .ok (.invokevirtual 156, 3) := by decide +kernel
theorem dX3_rests_74 : decode cX3_rests 74 = .ok (.aload_n 0, 1) := by decide +kernel
theorem dX3_rests_75 : decode cX3_rests 75 = .ok (.getfield 49, 3) := by decide +kernel
theorem dX3_rests_78 : decode cX3_rests 78 = .ok (.iload 4, 2) := by decide +kernel
theorem dX3_rests_80 : decode cX3_rests 80 = .ok (.iaload, 1) := by decide +kernel
theorem dX3_rests_81 : decode cX3_rests 81 = .ok (.if_icmp .ne 23, 3) := by decide +kernel
theorem dX3_rests_84 : decode cX3_rests 84 = .ok (.iload_n 2, 1) := by decide +kernel
theorem dX3_rests_85 : decode cX3_rests 85 = .ok (.ifCond .ne 14, 3) := by decide +kernel
theorem dX3_rests_88 : decode cX3_rests 88 = .ok (.bipush 10, 2) := by decide +kernel
theorem dX3_rests_90 : decode cX3_rests 90 = .ok (.iload 4, 2) := by decide +kernel
theorem dX3_rests_92 : decode cX3_rests 92 = .ok (.imul, 1) := by decide +kernel
theorem dX3_rests_93 : decode cX3_rests 93 = .ok (.iload 5, 2) := by decide +kernel
theorem dX3_rests_95 : decode cX3_rests 95 = .ok (.iadd, 1) := by decide +kernel
theorem dX3_rests_96 : decode cX3_rests 96 = .ok (.goto 4, 3) := by decide +kernel
theorem dX3_rests_99 : decode cX3_rests 99 = .ok (.iload_n 3, 1) := by decide +kernel
theorem dX3_rests_100 : decode cX3_rests 100 = .ok (.istore_n 3, 1) := by decide +kernel
theorem dX3_rests_101 : decode cX3_rests 101 = .ok (.iinc 2 1, 3) := by decide +kernel
theorem dX3_rests_104 : decode cX3_rests 104 = .ok (.iinc 5 1, 3) := by decide +kernel
theorem dX3_rests_107 : decode cX3_rests 107 = .ok (.goto (-74), 3) := by decide +kernel
theorem dX3_rests_110 : decode cX3_rests 110 = .ok (.iinc 4 1, 3) := by decide +kernel
theorem dX3_rests_113 : decode cX3_rests 113 = .ok (.goto (-90), 3) := by decide +kernel
theorem dX3_rests_116 : decode cX3_rests 116 = .ok (.iload_n 1, 1) := by decide +kernel
theorem dX3_rests_117 : decode cX3_rests 117 = .ok (.ifCond .ne 5, 3) := by decide +kernel
theorem dX3_rests_120 : decode cX3_rests 120 = .ok (.iload_n 2, 1) := by decide +kernel
theorem dX3_rests_121 : decode cX3_rests 121 = .ok (.ireturn, 1) := by decide +kernel
theorem dX3_rests_122 : decode cX3_rests 122 = .ok (.iload_n 3, 1) := by decide +kernel
theorem dX3_rests_123 : decode cX3_rests 123 = .ok (.bipush (-4), 2) := by decide +kernel
theorem dX3_rests_125 : decode cX3_rests 125 = .ok (.if_icmp .ne 6, 3) := by decide +kernel
theorem dX3_rests_128 : decode cX3_rests 128 = .ok (.bipush (-4), 2) := by decide +kernel
theorem dX3_rests_130 : decode cX3_rests 130 = .ok (.ireturn, 1) := by decide +kernel
theorem dX3_rests_131 : decode cX3_rests 131 = .ok (.iload_n 1, 1) := by decide +kernel
theorem dX3_rests_132 : decode cX3_rests 132 = .ok (.iconst 1, 1) := by decide +kernel
theorem dX3_rests_133 : decode cX3_rests 133 = .ok (.if_icmp .ne 10, 3) := by decide +kernel
theorem dX3_rests_136 : decode cX3_rests 136 = .ok (.iload_n 3, 1) := by decide +kernel
theorem dX3_rests_137 : decode cX3_rests 137 = .ok (.bipush 10, 2) := by decide +kernel
theorem dX3_rests_139 : decode cX3_rests 139 = .ok (.idiv, 1) := by decide +kernel
theorem dX3_rests_140 : decode cX3_rests 140 = .ok (.goto 7, 3) := by decide +kernel
theorem dX3_rests_143 : decode cX3_rests 143 = .ok (.iload_n 3, 1) := by decide +kernel
theorem dX3_rests_144 : decode cX3_rests 144 = .ok (.bipush 10, 2) := by decide +kernel
theorem dX3_rests_146 : decode cX3_rests 146 = .ok (.irem, 1) := by decide +kernel
theorem dX3_rests_147 : decode cX3_rests 147 = .ok (.ireturn, 1) := by decide +kernel
theorem dX3_camps_0 : decode cX3_camps 0 = .ok (.iload_n 1, 1) := by decide +kernel
theorem dX3_camps_1 : decode cX3_camps 1 = .ok (.ifCond .lt 8, 3) := by decide +kernel
theorem dX3_camps_4 : decode cX3_camps 4 = .ok (.iload_n 1, 1) := by decide +kernel
theorem dX3_camps_5 : decode cX3_camps 5 = .ok (.iconst 1, 1) := by decide +kernel
theorem dX3_camps_6 : decode cX3_camps 6 = .ok (.if_icmp .le 5, 3) := by decide +kernel
theorem dX3_camps_9 : decode cX3_camps 9 = .ok (.iconst (-1), 1) := by decide +kernel
theorem dX3_camps_10 : decode cX3_camps 10 = .ok (.ireturn, 1) := by decide +kernel
theorem dX3_camps_11 : decode cX3_camps 11 = .ok (.iconst 0, 1) := by decide +kernel
theorem dX3_camps_12 : decode cX3_camps 12 = .ok (.istore_n 2, 1) := by decide +kernel
theorem dX3_camps_13 : decode cX3_camps 13 = .ok (.aload_n 0, 1) := by decide +kernel
theorem dX3_camps_14 : decode cX3_camps 14 = .ok (.getfield 19, 3) := by decide +kernel
theorem dX3_camps_17 : decode cX3_camps 17 = .ok (.iconst 0, 1) := by decide +kernel
theorem dX3_camps_18 : decode cX3_camps 18 = .ok (.invokevirtual 162, 3) := by decide +kernel
theorem dX3_camps_21 : decode cX3_camps 21 = .ok (.istore_n 3, 1) := by decide +kernel
theorem dX3_camps_22 : decode cX3_camps 22 = .ok (.iconst 1, 1) := by decide +kernel
theorem dX3_camps_23 : decode cX3_camps 23 = .ok (.istore 4, 2) := by decide +kernel
theorem dX3_camps_25 : decode cX3_camps 25 = .ok (.iload 4, 2) := by decide +kernel
theorem dX3_camps_27 : decode cX3_camps 27 = .ok (.iconst 1, 1) := by decide +kernel
theorem dX3_camps_28 : decode cX3_camps 28 = .ok (.aload_n 0, 1) := by decide +kernel
theorem dX3_camps_29 : decode cX3_camps 29 = .ok (.getfield 19, 3) := by decide +kernel
theorem dX3_camps_32 : decode cX3_camps 32 = .ok (.getfield 80, 3) := by decide +kernel
theorem dX3_camps_35 : decode cX3_camps 35 = .ok (.ishl, 1) := by decide +kernel
theorem dX3_camps_36 : decode cX3_camps 36 = .ok (.if_icmp .ge 32, 3) := by decide +kernel
theorem dX3_camps_39 : decode cX3_camps 39 = .ok (.aload_n 0, 1) := by decide +kernel
theorem dX3_camps_40 : decode cX3_camps 40 = .ok (.getfield 19, 3) := by decide +kernel
theorem dX3_camps_43 : decode cX3_camps 43 = .ok (.iload 4, 2) := by decide +kernel
theorem dX3_camps_45 : decode cX3_camps 45 = .ok (.invokevirtual 162, 3) := by decide +kernel
theorem dX3_camps_48 : decode cX3_camps 48 = .ok (.istore 5, 2) := by decide +kernel
theorem dX3_camps_50 : decode cX3_camps 50 = .ok (.iload 5, 2) := by decide +kernel
theorem dX3_camps_52 : decode cX3_camps 52 = .ok (.iload_n 3, 1) := by decide +kernel
theorem dX3_camps_53 : decode cX3_camps 53 = .ok (.if_icmp .ge 9, 3) := by decide +kernel
theorem dX3_camps_56 : decode cX3_camps 56 = .ok (.iload 5, 2) := by decide +kernel
theorem dX3_camps_58 : decode cX3_camps 58 = .ok (.istore_n 3, 1) := by decide +kernel
theorem dX3_camps_59 : decode cX3_camps 59 = .ok (.iload 4, 2) := by decide +kernel
theorem dX3_camps_61 : decode cX3_camps 61 = .ok (.istore_n 2, 1) := by decide +kernel
theorem dX3_camps_62 : decode cX3_camps 62 = .ok (.iinc 4 1, 3) := by decide +kernel
theorem dX3_camps_65 : decode cX3_camps 65 = .ok (.goto (-40), 3) := by decide +kernel
theorem dX3_camps_68 : decode cX3_camps 68 = .ok (.iload_n 1, 1) := by decide +kernel
theorem dX3_camps_69 : decode cX3_camps 69 = .ok (.ifCond .ne 7, 3) := by decide +kernel
theorem dX3_camps_72 : decode cX3_camps 72 = .ok (.iload_n 3, 1) := by decide +kernel
theorem dX3_camps_73 : decode cX3_camps 73 = .ok (.goto 4, 3) := by decide +kernel
theorem dX3_camps_76 : decode cX3_camps 76 = .ok (.iload_n 2, 1) := by decide +kernel
theorem dX3_camps_77 : decode cX3_camps 77 = .ok (.ireturn, 1) := by decide +kernel
theorem dX3_seen_0 : decode cX3_seen 0 = .ok (.iload_n 1, 1) := by decide +kernel
theorem dX3_seen_1 : decode cX3_seen 1 = .ok (.invokestatic 143, 3) := by decide +kernel
theorem dX3_seen_4 : decode cX3_seen 4 = .ok (.ifCond .eq 10, 3) := by decide +kernel
theorem dX3_seen_7 : decode cX3_seen 7 = .ok (.iload_n 2, 1) := by decide +kernel
theorem dX3_seen_8 : decode cX3_seen 8 = .ok (.invokestatic 119, 3) := by decide +kernel
theorem dX3_seen_11 : decode cX3_seen 11 = .ok (.ifCond .ne 5, 3) := by decide +kernel
theorem dX3_seen_14 : decode cX3_seen 14 = .ok (.iconst (-1), 1) := by decide +kernel
theorem dX3_seen_15 : decode cX3_seen 15 = .ok (.ireturn, 1) := by decide +kernel
theorem dX3_seen_16 : decode cX3_seen 16 = .ok (.aload_n 0, 1) := by decide +kernel
theorem dX3_seen_17 : decode cX3_seen 17 = .ok (.getfield 83, 3) := by decide +kernel
theorem dX3_seen_20 : decode cX3_seen 20 = .ok (.bipush 10, 2) := by decide +kernel
theorem dX3_seen_22 : decode cX3_seen 22 = .ok (.if_icmp .lt 6, 3) := by decide +kernel
theorem dX3_seen_25 : decode cX3_seen 25 = .ok (.bipush (-3), 2) := by decide +kernel
theorem dX3_seen_27 : decode cX3_seen 27 = .ok (.ireturn, 1) := by decide +kernel
theorem dX3_seen_28 : decode cX3_seen 28 = .ok (.aload_n 0, 1) := by decide +kernel
theorem dX3_seen_29 : decode cX3_seen 29 = .ok (.getfield 33, 3) := by decide +kernel
theorem dX3_seen_32 : decode cX3_seen 32 = .ok (.aload_n 0, 1) := by decide +kernel
theorem dX3_seen_33 : decode cX3_seen 33 = .ok (.getfield 19, 3) := by decide +kernel
theorem dX3_seen_36 : decode cX3_seen 36 = .ok (.invokevirtual 64, 3) := by decide +kernel
theorem dX3_seen_39 : decode cX3_seen 39 = .ok (.aload_n 0, 1) := by decide +kernel
theorem dX3_seen_40 : decode cX3_seen 40 = .ok (.getfield 33, 3) := by decide +kernel
theorem dX3_seen_43 : decode cX3_seen 43 = .ok (.aload_n 0, 1) := by decide +kernel
theorem dX3_seen_44 : decode cX3_seen 44 = .ok (.getfield 19, 3) := by decide +kernel
theorem dX3_seen_47 : decode cX3_seen 47 = .ok (.iload_n 1, 1) := by decide +kernel
theorem dX3_seen_48 : decode cX3_seen 48 = .ok (.invokevirtual 128, 3) := by decide +kernel
theorem dX3_seen_51 : decode cX3_seen 51 = .ok (.aload_n 0, 1) := by decide +kernel
theorem dX3_seen_52 : decode cX3_seen 52 = .ok (.getfield 42, 3) := by decide +kernel
theorem dX3_seen_55 : decode cX3_seen 55 = .ok (.aload_n 0, 1) := by decide +kernel
theorem dX3_seen_56 : decode cX3_seen 56 = .ok (.getfield 83, 3) := by decide +kernel
theorem dX3_seen_59 : decode cX3_seen 59 = .ok (.aload_n 0, 1) := by decide +kernel
theorem dX3_seen_60 : decode cX3_seen 60 = .ok (.getfield 33, 3) := by decide +kernel
theorem dX3_seen_63 : decode cX3_seen 63 = .ok (.iload_n 2, 1) := by decide +kernel
theorem dX3_seen_64 : decode cX3_seen 64 = .ok (.aload_n 0, 1) := by decide +kernel
theorem dX3_seen_65 : decode cX3_seen 65 = .ok (.getfield 19, 3) := by decide +kernel
theorem dX3_seen_68 : decode cX3_seen 68 = .ok (.getfield 80, 3) := by decide +kernel
theorem dX3_seen_71 : decode cX3_seen 71 = .ok (.invokevirtual 150, 3) := by decide +kernel
theorem dX3_seen_74 : decode cX3_seen 74 = .ok (.iastore, 1) := by decide +kernel
theorem dX3_seen_75 : decode cX3_seen 75 = .ok (.aload_n 0, 1) := by decide +kernel
theorem dX3_seen_76 : decode cX3_seen 76 = .ok (.dup, 1) := by decide +kernel
theorem dX3_seen_77 : decode cX3_seen 77 = .ok (.getfield 83, 3) := by decide +kernel
theorem dX3_seen_80 : decode cX3_seen 80 = .ok (.iconst 1, 1) := by decide +kernel
theorem dX3_seen_81 : decode cX3_seen 81 = .ok (.iadd, 1) := by decide +kernel
theorem dX3_seen_82 : decode cX3_seen 82 = .ok (.putfield 83, 3) := by decide +kernel
theorem dX3_seen_85 : decode cX3_seen 85 = .ok (.aload_n 0, 1) := by decide +kernel
theorem dX3_seen_86 : decode cX3_seen 86 = .ok (.getfield 83, 3) := by decide +kernel
theorem dX3_seen_89 : decode cX3_seen 89 = .ok (.ireturn, 1) := by decide +kernel
theorem dX3_forget_0 : decode cX3_forget 0 = .ok (.aload_n 0, 1) := by decide +kernel
theorem dX3_forget_1 : decode cX3_forget 1 = .ok (.getfield 83, 3) := by decide +kernel
theorem dX3_forget_4 : decode cX3_forget 4 = .ok (.istore_n 1, 1) := by decide +kernel
theorem dX3_forget_5 : decode cX3_forget 5 = .ok (.aload_n 0, 1) := by decide +kernel
theorem dX3_forget_6 : decode cX3_forget 6 = .ok (.iconst 0, 1) := by decide +kernel
theorem dX3_forget_7 : decode cX3_forget 7 = .ok (.putfield 83, 3) := by decide +kernel
theorem dX3_forget_10 : decode cX3_forget 10 = .ok (.iload_n 1, 1) := by decide +kernel
theorem dX3_forget_11 : decode cX3_forget 11 = .ok (.ireturn, 1) := by decide +kernel
theorem dX3_fits_0 : decode cX3_fits 0 = .ok (.iconst 1, 1) := by decide +kernel
theorem dX3_fits_1 : decode cX3_fits 1 = .ok (.aload_n 0, 1) := by decide +kernel
theorem dX3_fits_2 : decode cX3_fits 2 = .ok (.getfield 19, 3) := by decide +kernel
theorem dX3_fits_5 : decode cX3_fits 5 = .ok (.getfield 80, 3) := by decide +kernel
theorem dX3_fits_8 : decode cX3_fits 8 = .ok (.ishl, 1) := by decide +kernel
theorem dX3_fits_9 : decode cX3_fits 9 = .ok (.iconst 1, 1) := by decide +kernel
theorem dX3_fits_10 : decode cX3_fits 10 = .ok (.isub, 1) := by decide +kernel
theorem dX3_fits_11 : decode cX3_fits 11 = .ok (.istore_n 1, 1) := by decide +kernel
theorem dX3_fits_12 : decode cX3_fits 12 = .ok (.iconst 0, 1) := by decide +kernel
theorem dX3_fits_13 : decode cX3_fits 13 = .ok (.istore_n 2, 1) := by decide +kernel
theorem dX3_fits_14 : decode cX3_fits 14 = .ok (.iload_n 2, 1) := by decide +kernel
theorem dX3_fits_15 : decode cX3_fits 15 = .ok (.aload_n 0, 1) := by decide +kernel
theorem dX3_fits_16 : decode cX3_fits 16 = .ok (.getfield 83, 3) := by decide +kernel
theorem dX3_fits_19 : decode cX3_fits 19 = .ok (.if_icmp .ge 18, 3) := by decide +kernel
theorem dX3_fits_22 : decode cX3_fits 22 = .ok (.iload_n 1, 1) := by decide +kernel
theorem dX3_fits_23 : decode cX3_fits 23 = .ok (.aload_n 0, 1) := by decide +kernel
theorem dX3_fits_24 : decode cX3_fits 24 = .ok (.getfield 42, 3) := by decide +kernel
theorem dX3_fits_27 : decode cX3_fits 27 = .ok (.iload_n 2, 1) := by decide +kernel
theorem dX3_fits_28 : decode cX3_fits 28 = .ok (.iaload, 1) := by decide +kernel
theorem dX3_fits_29 : decode cX3_fits 29 = .ok (.iand, 1) := by decide +kernel
theorem dX3_fits_30 : decode cX3_fits 30 = .ok (.istore_n 1, 1) := by decide +kernel
theorem dX3_fits_31 : decode cX3_fits 31 = .ok (.iinc 2 1, 3) := by decide +kernel
theorem dX3_fits_34 : decode cX3_fits 34 = .ok (.goto (-20), 3) := by decide +kernel
theorem dX3_fits_37 : decode cX3_fits 37 = .ok (.iload_n 1, 1) := by decide +kernel
theorem dX3_fits_38 : decode cX3_fits 38 = .ok (.ireturn, 1) := by decide +kernel
theorem dX3_least_0 : decode cX3_least 0 = .ok (.bipush (-4), 2) := by decide +kernel
theorem dX3_least_2 : decode cX3_least 2 = .ok (.istore_n 1, 1) := by decide +kernel
theorem dX3_least_3 : decode cX3_least 3 = .ok (.bipush 6, 2) := by decide +kernel
theorem dX3_least_5 : decode cX3_least 5 = .ok (.istore_n 2, 1) := by decide +kernel
theorem dX3_least_6 : decode cX3_least 6 = .ok (.iconst 0, 1) := by decide +kernel
theorem dX3_least_7 : decode cX3_least 7 = .ok (.istore_n 3, 1) := by decide +kernel
theorem dX3_least_8 : decode cX3_least 8 = .ok (.iload_n 3, 1) := by decide +kernel
theorem dX3_least_9 : decode cX3_least 9 = .ok (.iconst 1, 1) := by decide +kernel
theorem dX3_least_10 : decode cX3_least 10 = .ok (.aload_n 0, 1) := by decide +kernel
theorem dX3_least_11 : decode cX3_least 11 = .ok (.getfield 19, 3) := by decide +kernel
theorem dX3_least_14 : decode cX3_least 14 = .ok (.getfield 80, 3) := by decide +kernel
theorem dX3_least_17 : decode cX3_least 17 = .ok (.ishl, 1) := by decide +kernel
theorem dX3_least_18 : decode cX3_least 18 = .ok (.if_icmp .ge 34, 3) := by decide +kernel
theorem dX3_least_21 : decode cX3_least 21 = .ok (.iload_n 3, 1) := by decide +kernel
theorem dX3_least_22 : decode cX3_least 22 = .ok (.invokestatic 165, 3) := by decide +kernel
theorem dX3_least_25 : decode cX3_least 25 = .ok (.istore 4, 2) := by decide +kernel
theorem dX3_least_27 : decode cX3_least 27 = .ok (.iload 4, 2) := by decide +kernel
theorem dX3_least_29 : decode cX3_least 29 = .ok (.iload_n 2, 1) := by decide +kernel
theorem dX3_least_30 : decode cX3_least 30 = .ok (.if_icmp .ge 16, 3) := by decide +kernel
theorem dX3_least_33 : decode cX3_least 33 = .ok (.aload_n 0, 1) := by decide +kernel
theorem dX3_least_34 : decode cX3_least 34 = .ok (.iload_n 3, 1) := by decide +kernel
theorem dX3_least_35 : decode cX3_least 35 = .ok (.invokevirtual 170, 3) := by decide +kernel
theorem dX3_least_38 : decode cX3_least 38 = .ok (.ifCond .eq 8, 3) := by decide +kernel
theorem dX3_least_41 : decode cX3_least 41 = .ok (.iload 4, 2) := by decide +kernel
theorem dX3_least_43 : decode cX3_least 43 = .ok (.istore_n 2, 1) := by decide +kernel
theorem dX3_least_44 : decode cX3_least 44 = .ok (.iload_n 3, 1) := by decide +kernel
theorem dX3_least_45 : decode cX3_least 45 = .ok (.istore_n 1, 1) := by decide +kernel
theorem dX3_least_46 : decode cX3_least 46 = .ok (.iinc 3 1, 3) := by decide +kernel
theorem dX3_least_49 : decode cX3_least 49 = .ok (.goto (-41), 3) := by decide +kernel
theorem dX3_least_52 : decode cX3_least 52 = .ok (.iload_n 1, 1) := by decide +kernel
theorem dX3_least_53 : decode cX3_least 53 = .ok (.ireturn, 1) := by decide +kernel
theorem dX3_month_0 : decode cX3_month 0 = .ok (.iload_n 1, 1) := by decide +kernel
theorem dX3_month_1 : decode cX3_month 1 = .ok (.ifCond .lt 37, 3) := by decide +kernel
theorem dX3_month_4 : decode cX3_month 4 = .ok (.iload_n 1, 1) := by decide +kernel
theorem dX3_month_5 : decode cX3_month 5 = .ok (.sipush 9999, 3) := by decide +kernel
theorem dX3_month_8 : decode cX3_month 8 = .ok (.if_icmp .gt 30, 3) := by decide +kernel
theorem dX3_month_11 : decode cX3_month 11 = .ok (.iload_n 2, 1) := by decide +kernel
theorem dX3_month_12 : decode cX3_month 12 = .ok (.iconst 1, 1) := by decide +kernel
theorem dX3_month_13 : decode cX3_month 13 = .ok (.if_icmp .lt 25, 3) := by decide +kernel
theorem dX3_month_16 : decode cX3_month 16 = .ok (.iload_n 2, 1) := by decide +kernel
theorem dX3_month_17 : decode cX3_month 17 = .ok (.bipush 60, 2) := by decide +kernel
theorem dX3_month_19 : decode cX3_month 19 = .ok (.if_icmp .gt 19, 3) := by decide +kernel
theorem dX3_month_22 : decode cX3_month 22 = .ok (.aload_n 0, 1) := by decide +kernel
theorem dX3_month_23 : decode cX3_month 23 = .ok (.iload_n 3, 1) := by decide +kernel
theorem dX3_month_24 : decode cX3_month 24 = .ok (.invokevirtual 89, 3) := by decide +kernel
theorem dX3_month_27 : decode cX3_month 27 = .ok (.ifCond .eq 11, 3) := by decide +kernel
theorem dX3_month_30 : decode cX3_month 30 = .ok (.iload 4, 2) := by decide +kernel
theorem dX3_month_32 : decode cX3_month 32 = .ok (.invokestatic 92, 3) := by decide +kernel
theorem dX3_month_35 : decode cX3_month 35 = .ok (.ifCond .ne 5, 3) := by decide +kernel
theorem dX3_month_38 : decode cX3_month 38 = .ok (.iconst (-1), 1) := by decide +kernel
theorem dX3_month_39 : decode cX3_month 39 = .ok (.ireturn, 1) := by decide +kernel
theorem dX3_month_40 : decode cX3_month 40 = .ok (.aload_n 0, 1) := by decide +kernel
theorem dX3_month_41 : decode cX3_month 41 = .ok (.getfield 33, 3) := by decide +kernel
theorem dX3_month_44 : decode cX3_month 44 = .ok (.aload_n 0, 1) := by decide +kernel
theorem dX3_month_45 : decode cX3_month 45 = .ok (.getfield 29, 3) := by decide +kernel
theorem dX3_month_48 : decode cX3_month 48 = .ok (.invokevirtual 146, 3) := by decide +kernel
theorem dX3_month_51 : decode cX3_month 51 = .ok (.iconst 0, 1) := by decide +kernel
theorem dX3_month_52 : decode cX3_month 52 = .ok (.istore 5, 2) := by decide +kernel
theorem dX3_month_54 : decode cX3_month 54 = .ok (.iload 5, 2) := by decide +kernel
theorem dX3_month_56 : decode cX3_month 56 = .ok (.iload_n 2, 1) := by decide +kernel
theorem dX3_month_57 : decode cX3_month 57 = .ok (.if_icmp .ge 50, 3) := by decide +kernel
theorem dX3_month_60 : decode cX3_month 60 = .ok (.iload_n 1, 1) := by decide +kernel
theorem dX3_month_61 : decode cX3_month 61 = .ok (.iload 5, 2) := by decide +kernel
theorem dX3_month_63 : decode cX3_month 63 = .ok (.invokestatic 173, 3) := by decide +kernel
theorem dX3_month_66 : decode cX3_month 66 = .ok (.istore 6, 2) := by decide +kernel
theorem dX3_month_68 : decode cX3_month 68 = .ok (.aload_n 0, 1) := by decide +kernel
theorem dX3_month_69 : decode cX3_month 69 = .ok (.getfield 33, 3) := by decide +kernel
theorem dX3_month_72 : decode cX3_month 72 = .ok (.aload_n 0, 1) := by decide +kernel
theorem dX3_month_73 : decode cX3_month 73 = .ok (.getfield 19, 3) := by decide +kernel
theorem dX3_month_76 : decode cX3_month 76 = .ok (.iload 6, 2) := by decide +kernel
theorem dX3_month_78 : decode cX3_month 78 = .ok (.invokevirtual 176, 3) := by decide +kernel
theorem dX3_month_81 : decode cX3_month 81 = .ok (.iload 6, 2) := by decide +kernel
theorem dX3_month_83 : decode cX3_month 83 = .ok (.bipush 8, 2) := by decide +kernel
theorem dX3_month_85 : decode cX3_month 85 = .ok (.irem, 1) := by decide +kernel
theorem dX3_month_86 : decode cX3_month 86 = .ok (.invokevirtual 111, 3) := by decide +kernel
theorem dX3_month_89 : decode cX3_month 89 = .ok (.aload_n 0, 1) := by decide +kernel
theorem dX3_month_90 : decode cX3_month 90 = .ok (.getfield 33, 3) := by decide +kernel
theorem dX3_month_93 : decode cX3_month 93 = .ok (.aload_n 0, 1) := by decide +kernel
theorem dX3_month_94 : decode cX3_month 94 = .ok (.getfield 19, 3) := by decide +kernel
theorem dX3_month_97 : decode cX3_month 97 = .ok (.iconst 1, 1) := by decide +kernel
theorem dX3_month_98 : decode cX3_month 98 = .ok (.invokevirtual 128, 3) := by decide +kernel
theorem dX3_month_101 : decode cX3_month 101 = .ok (.iinc 5 1, 3) := by decide +kernel
theorem dX3_month_104 : decode cX3_month 104 = .ok (.goto (-50), 3) := by decide +kernel
theorem dX3_month_107 : decode cX3_month 107 = .ok (.aload_n 0, 1) := by decide +kernel
theorem dX3_month_108 : decode cX3_month 108 = .ok (.getfield 33, 3) := by decide +kernel
theorem dX3_month_111 : decode cX3_month 111 = .ok (.getfield 98, 3) := by decide +kernel
theorem dX3_month_114 : decode cX3_month 114 = .ok (.iconst 2, 1) := by decide +kernel
theorem dX3_month_115 : decode cX3_month 115 = .ok (.iload_n 3, 1) := by decide +kernel
theorem dX3_month_116 : decode cX3_month 116 = .ok (.imul, 1) := by decide +kernel
theorem dX3_month_117 : decode cX3_month 117 = .ok (.iload 4, 2) := by decide +kernel
theorem dX3_month_119 : decode cX3_month 119 = .ok (.iadd, 1) := by decide +kernel
theorem dX3_month_120 : decode cX3_month 120 = .ok (.iaload, 1) := by decide +kernel
theorem dX3_month_121 : decode cX3_month 121 = .ok (.ireturn, 1) := by decide +kernel
theorem dX3_keep_0 : decode cX3_keep 0 = .ok (.aload_n 0, 1) := by decide +kernel
theorem dX3_keep_1 : decode cX3_keep 1 = .ok (.getfield 86, 3) := by decide +kernel
theorem dX3_keep_4 : decode cX3_keep 4 = .ok (.iconst 2, 1) := by decide +kernel
theorem dX3_keep_5 : decode cX3_keep 5 = .ok (.if_icmp .lt 6, 3) := by decide +kernel
theorem dX3_keep_8 : decode cX3_keep 8 = .ok (.bipush (-3), 2) := by decide +kernel
theorem dX3_keep_10 : decode cX3_keep 10 = .ok (.ireturn, 1) := by decide +kernel
theorem dX3_keep_11 : decode cX3_keep 11 = .ok (.aload_n 0, 1) := by decide +kernel
theorem dX3_keep_12 : decode cX3_keep 12 = .ok (.aload_n 0, 1) := by decide +kernel
theorem dX3_keep_13 : decode cX3_keep 13 = .ok (.getfield 86, 3) := by decide +kernel
theorem dX3_keep_16 : decode cX3_keep 16 = .ok (.invokevirtual 179, 3) := by decide +kernel
theorem dX3_keep_19 : decode cX3_keep 19 = .ok (.aload_n 0, 1) := by decide +kernel
theorem dX3_keep_20 : decode cX3_keep 20 = .ok (.getfield 29, 3) := by decide +kernel
theorem dX3_keep_23 : decode cX3_keep 23 = .ok (.invokevirtual 146, 3) := by decide +kernel
theorem dX3_keep_26 : decode cX3_keep 26 = .ok (.aload_n 0, 1) := by decide +kernel
theorem dX3_keep_27 : decode cX3_keep 27 = .ok (.dup, 1) := by decide +kernel
theorem dX3_keep_28 : decode cX3_keep 28 = .ok (.getfield 86, 3) := by decide +kernel
theorem dX3_keep_31 : decode cX3_keep 31 = .ok (.iconst 1, 1) := by decide +kernel
theorem dX3_keep_32 : decode cX3_keep 32 = .ok (.iadd, 1) := by decide +kernel
theorem dX3_keep_33 : decode cX3_keep 33 = .ok (.putfield 86, 3) := by decide +kernel
theorem dX3_keep_36 : decode cX3_keep 36 = .ok (.aload_n 0, 1) := by decide +kernel
theorem dX3_keep_37 : decode cX3_keep 37 = .ok (.getfield 86, 3) := by decide +kernel
theorem dX3_keep_40 : decode cX3_keep 40 = .ok (.ireturn, 1) := by decide +kernel
theorem dX3_back_0 : decode cX3_back 0 = .ok (.aload_n 0, 1) := by decide +kernel
theorem dX3_back_1 : decode cX3_back 1 = .ok (.getfield 86, 3) := by decide +kernel
theorem dX3_back_4 : decode cX3_back 4 = .ok (.ifCond .gt 6, 3) := by decide +kernel
theorem dX3_back_7 : decode cX3_back 7 = .ok (.bipush (-2), 2) := by decide +kernel
theorem dX3_back_9 : decode cX3_back 9 = .ok (.ireturn, 1) := by decide +kernel
theorem dX3_back_10 : decode cX3_back 10 = .ok (.aload_n 0, 1) := by decide +kernel
theorem dX3_back_11 : decode cX3_back 11 = .ok (.dup, 1) := by decide +kernel
theorem dX3_back_12 : decode cX3_back 12 = .ok (.getfield 86, 3) := by decide +kernel
theorem dX3_back_15 : decode cX3_back 15 = .ok (.iconst 1, 1) := by decide +kernel
theorem dX3_back_16 : decode cX3_back 16 = .ok (.isub, 1) := by decide +kernel
theorem dX3_back_17 : decode cX3_back 17 = .ok (.putfield 86, 3) := by decide +kernel
theorem dX3_back_20 : decode cX3_back 20 = .ok (.aload_n 0, 1) := by decide +kernel
theorem dX3_back_21 : decode cX3_back 21 = .ok (.getfield 29, 3) := by decide +kernel
theorem dX3_back_24 : decode cX3_back 24 = .ok (.aload_n 0, 1) := by decide +kernel
theorem dX3_back_25 : decode cX3_back 25 = .ok (.aload_n 0, 1) := by decide +kernel
theorem dX3_back_26 : decode cX3_back 26 = .ok (.getfield 86, 3) := by decide +kernel
theorem dX3_back_29 : decode cX3_back 29 = .ok (.invokevirtual 179, 3) := by decide +kernel
theorem dX3_back_32 : decode cX3_back 32 = .ok (.invokevirtual 146, 3) := by decide +kernel
theorem dX3_back_35 : decode cX3_back 35 = .ok (.aload_n 0, 1) := by decide +kernel
theorem dX3_back_36 : decode cX3_back 36 = .ok (.getfield 86, 3) := by decide +kernel
theorem dX3_back_39 : decode cX3_back 39 = .ok (.ireturn, 1) := by decide +kernel
theorem dX3_count_0 : decode cX3_count 0 = .ok (.iload_n 1, 1) := by decide +kernel
theorem dX3_count_1 : decode cX3_count 1 = .ok (.tableswitch 117 0 8 #[51, 59, 67, 75, 83, 88, 93, 101, 109], 51) := by decide +kernel
theorem dX3_count_52 : decode cX3_count 52 = .ok (.aload_n 0, 1) := by decide +kernel
theorem dX3_count_53 : decode cX3_count 53 = .ok (.getfield 19, 3) := by decide +kernel
theorem dX3_count_56 : decode cX3_count 56 = .ok (.getfield 80, 3) := by decide +kernel
theorem dX3_count_59 : decode cX3_count 59 = .ok (.ireturn, 1) := by decide +kernel
theorem dX3_count_60 : decode cX3_count 60 = .ok (.aload_n 0, 1) := by decide +kernel
theorem dX3_count_61 : decode cX3_count 61 = .ok (.getfield 19, 3) := by decide +kernel
theorem dX3_count_64 : decode cX3_count 64 = .ok (.getfield 183, 3) := by decide +kernel
theorem dX3_count_67 : decode cX3_count 67 = .ok (.ireturn, 1) := by decide +kernel
theorem dX3_count_68 : decode cX3_count 68 = .ok (.aload_n 0, 1) := by decide +kernel
theorem dX3_count_69 : decode cX3_count 69 = .ok (.getfield 19, 3) := by decide +kernel
theorem dX3_count_72 : decode cX3_count 72 = .ok (.getfield 186, 3) := by decide +kernel
theorem dX3_count_75 : decode cX3_count 75 = .ok (.ireturn, 1) := by decide +kernel
theorem dX3_count_76 : decode cX3_count 76 = .ok (.aload_n 0, 1) := by decide +kernel
theorem dX3_count_77 : decode cX3_count 77 = .ok (.getfield 29, 3) := by decide +kernel
theorem dX3_count_80 : decode cX3_count 80 = .ok (.getfield 125, 3) := by decide +kernel
theorem dX3_count_83 : decode cX3_count 83 = .ok (.ireturn, 1) := by decide +kernel
theorem dX3_count_84 : decode cX3_count 84 = .ok (.aload_n 0, 1) := by decide +kernel
theorem dX3_count_85 : decode cX3_count 85 = .ok (.getfield 83, 3) := by decide +kernel
theorem dX3_count_88 : decode cX3_count 88 = .ok (.ireturn, 1) := by decide +kernel
theorem dX3_count_89 : decode cX3_count 89 = .ok (.aload_n 0, 1) := by decide +kernel
theorem dX3_count_90 : decode cX3_count 90 = .ok (.getfield 86, 3) := by decide +kernel
theorem dX3_count_93 : decode cX3_count 93 = .ok (.ireturn, 1) := by decide +kernel
theorem dX3_count_94 : decode cX3_count 94 = .ok (.aload_n 0, 1) := by decide +kernel
theorem dX3_count_95 : decode cX3_count 95 = .ok (.getfield 12, 3) := by decide +kernel
theorem dX3_count_98 : decode cX3_count 98 = .ok (.getfield 68, 3) := by decide +kernel
theorem dX3_count_101 : decode cX3_count 101 = .ok (.ireturn, 1) := by decide +kernel
theorem dX3_count_102 : decode cX3_count 102 = .ok (.aload_n 0, 1) := by decide +kernel
theorem dX3_count_103 : decode cX3_count 103 = .ok (.getfield 19, 3) := by decide +kernel
theorem dX3_count_106 : decode cX3_count 106 = .ok (.getfield 189, 3) := by decide +kernel
theorem dX3_count_109 : decode cX3_count 109 = .ok (.ireturn, 1) := by decide +kernel
theorem dX3_count_110 : decode cX3_count 110 = .ok (.aload_n 0, 1) := by decide +kernel
theorem dX3_count_111 : decode cX3_count 111 = .ok (.getfield 19, 3) := by decide +kernel
theorem dX3_count_114 : decode cX3_count 114 = .ok (.getfield 192, 3) := by decide +kernel
theorem dX3_count_117 : decode cX3_count 117 = .ok (.ireturn, 1) := by decide +kernel
theorem dX3_count_118 : decode cX3_count 118 = .ok (.iconst (-1), 1) := by decide +kernel
theorem dX3_count_119 : decode cX3_count 119 = .ok (.ireturn, 1) := by decide +kernel
theorem dX3_isPerson_0 : decode cX3_isPerson 0 = .ok (.iload_n 1, 1) := by decide +kernel
theorem dX3_isPerson_1 : decode cX3_isPerson 1 = .ok (.ifCond .lt 18, 3) := by decide +kernel
theorem dX3_isPerson_4 : decode cX3_isPerson 4 = .ok (.iload_n 1, 1) := by decide +kernel
theorem dX3_isPerson_5 : decode cX3_isPerson 5 = .ok (.aload_n 0, 1) := by decide +kernel
theorem dX3_isPerson_6 : decode cX3_isPerson 6 = .ok (.getfield 19, 3) := by decide +kernel
theorem dX3_isPerson_9 : decode cX3_isPerson 9 = .ok (.getfield 80, 3) := by decide +kernel
theorem dX3_isPerson_12 : decode cX3_isPerson 12 = .ok (.if_icmp .ge 7, 3) := by decide +kernel
theorem dX3_isPerson_15 : decode cX3_isPerson 15 = .ok (.iconst 1, 1) := by decide +kernel
theorem dX3_isPerson_16 : decode cX3_isPerson 16 = .ok (.goto 4, 3) := by decide +kernel
theorem dX3_isPerson_19 : decode cX3_isPerson 19 = .ok (.iconst 0, 1) := by decide +kernel
theorem dX3_isPerson_20 : decode cX3_isPerson 20 = .ok (.ireturn, 1) := by decide +kernel
theorem dX3_isTrade_0 : decode cX3_isTrade 0 = .ok (.iload_n 1, 1) := by decide +kernel
theorem dX3_isTrade_1 : decode cX3_isTrade 1 = .ok (.ifCond .lt 18, 3) := by decide +kernel
theorem dX3_isTrade_4 : decode cX3_isTrade 4 = .ok (.iload_n 1, 1) := by decide +kernel
theorem dX3_isTrade_5 : decode cX3_isTrade 5 = .ok (.aload_n 0, 1) := by decide +kernel
theorem dX3_isTrade_6 : decode cX3_isTrade 6 = .ok (.getfield 19, 3) := by decide +kernel
theorem dX3_isTrade_9 : decode cX3_isTrade 9 = .ok (.getfield 183, 3) := by decide +kernel
theorem dX3_isTrade_12 : decode cX3_isTrade 12 = .ok (.if_icmp .ge 7, 3) := by decide +kernel
theorem dX3_isTrade_15 : decode cX3_isTrade 15 = .ok (.iconst 1, 1) := by decide +kernel
theorem dX3_isTrade_16 : decode cX3_isTrade 16 = .ok (.goto 4, 3) := by decide +kernel
theorem dX3_isTrade_19 : decode cX3_isTrade 19 = .ok (.iconst 0, 1) := by decide +kernel
theorem dX3_isTrade_20 : decode cX3_isTrade 20 = .ok (.ireturn, 1) := by decide +kernel
theorem dX3_isHalf_0 : decode cX3_isHalf 0 = .ok (.iload_n 0, 1) := by decide +kernel
theorem dX3_isHalf_1 : decode cX3_isHalf 1 = .ok (.ifCond .eq 8, 3) := by decide +kernel
theorem dX3_isHalf_4 : decode cX3_isHalf 4 = .ok (.iload_n 0, 1) := by decide +kernel
theorem dX3_isHalf_5 : decode cX3_isHalf 5 = .ok (.iconst 1, 1) := by decide +kernel
theorem dX3_isHalf_6 : decode cX3_isHalf 6 = .ok (.if_icmp .ne 7, 3) := by decide +kernel
theorem dX3_isHalf_9 : decode cX3_isHalf 9 = .ok (.iconst 1, 1) := by decide +kernel
theorem dX3_isHalf_10 : decode cX3_isHalf 10 = .ok (.goto 4, 3) := by decide +kernel
theorem dX3_isHalf_13 : decode cX3_isHalf 13 = .ok (.iconst 0, 1) := by decide +kernel
theorem dX3_isHalf_14 : decode cX3_isHalf 14 = .ok (.ireturn, 1) := by decide +kernel
theorem dX3_isFact_0 : decode cX3_isFact 0 = .ok (.iload_n 0, 1) := by decide +kernel
theorem dX3_isFact_1 : decode cX3_isFact 1 = .ok (.ifCond .lt 13, 3) := by decide +kernel
theorem dX3_isFact_4 : decode cX3_isFact 4 = .ok (.iload_n 0, 1) := by decide +kernel
theorem dX3_isFact_5 : decode cX3_isFact 5 = .ok (.bipush 8, 2) := by decide +kernel
theorem dX3_isFact_7 : decode cX3_isFact 7 = .ok (.if_icmp .ge 7, 3) := by decide +kernel
theorem dX3_isFact_10 : decode cX3_isFact 10 = .ok (.iconst 1, 1) := by decide +kernel
theorem dX3_isFact_11 : decode cX3_isFact 11 = .ok (.goto 4, 3) := by decide +kernel
theorem dX3_isFact_14 : decode cX3_isFact 14 = .ok (.iconst 0, 1) := by decide +kernel
theorem dX3_isFact_15 : decode cX3_isFact 15 = .ok (.ireturn, 1) := by decide +kernel
theorem dX3_areFacts_0 : decode cX3_areFacts 0 = .ok (.iload_n 0, 1) := by decide +kernel
theorem dX3_areFacts_1 : decode cX3_areFacts 1 = .ok (.ifCond .lt 14, 3) := by decide +kernel
theorem dX3_areFacts_4 : decode cX3_areFacts 4 = .ok (.iload_n 0, 1) := by decide +kernel
theorem dX3_areFacts_5 : decode cX3_areFacts 5 = .ok (.sipush 255, 3) := by decide +kernel
theorem dX3_areFacts_8 : decode cX3_areFacts 8 = .ok (.if_icmp .gt 7, 3) := by decide +kernel
theorem dX3_areFacts_11 : decode cX3_areFacts 11 = .ok (.iconst 1, 1) := by decide +kernel
theorem dX3_areFacts_12 : decode cX3_areFacts 12 = .ok (.goto 4, 3) := by decide +kernel
theorem dX3_areFacts_15 : decode cX3_areFacts 15 = .ok (.iconst 0, 1) := by decide +kernel
theorem dX3_areFacts_16 : decode cX3_areFacts 16 = .ok (.ireturn, 1) := by decide +kernel
theorem dX3_isAhead_0 : decode cX3_isAhead 0 = .ok (.iload_n 0, 1) := by decide +kernel
theorem dX3_isAhead_1 : decode cX3_isAhead 1 = .ok (.ifCond .lt 13, 3) := by decide +kernel
theorem dX3_isAhead_4 : decode cX3_isAhead 4 = .ok (.iload_n 0, 1) := by decide +kernel
theorem dX3_isAhead_5 : decode cX3_isAhead 5 = .ok (.bipush 40, 2) := by decide +kernel
theorem dX3_isAhead_7 : decode cX3_isAhead 7 = .ok (.if_icmp .gt 7, 3) := by decide +kernel
theorem dX3_isAhead_10 : decode cX3_isAhead 10 = .ok (.iconst 1, 1) := by decide +kernel
theorem dX3_isAhead_11 : decode cX3_isAhead 11 = .ok (.goto 4, 3) := by decide +kernel
theorem dX3_isAhead_14 : decode cX3_isAhead 14 = .ok (.iconst 0, 1) := by decide +kernel
theorem dX3_isAhead_15 : decode cX3_isAhead 15 = .ok (.ireturn, 1) := by decide +kernel
theorem dX3_isTake_0 : decode cX3_isTake 0 = .ok (.iload_n 0, 1) := by decide +kernel
theorem dX3_isTake_1 : decode cX3_isTake 1 = .ok (.ifCond .lt 13, 3) := by decide +kernel
theorem dX3_isTake_4 : decode cX3_isTake 4 = .ok (.iload_n 0, 1) := by decide +kernel
theorem dX3_isTake_5 : decode cX3_isTake 5 = .ok (.bipush 10, 2) := by decide +kernel
theorem dX3_isTake_7 : decode cX3_isTake 7 = .ok (.if_icmp .ge 7, 3) := by decide +kernel
theorem dX3_isTake_10 : decode cX3_isTake 10 = .ok (.iconst 1, 1) := by decide +kernel
theorem dX3_isTake_11 : decode cX3_isTake 11 = .ok (.goto 4, 3) := by decide +kernel
theorem dX3_isTake_14 : decode cX3_isTake 14 = .ok (.iconst 0, 1) := by decide +kernel
theorem dX3_isTake_15 : decode cX3_isTake 15 = .ok (.ireturn, 1) := by decide +kernel
theorem dX3_holdsAll_0 : decode cX3_holdsAll 0 = .ok (.iload_n 0, 1) := by decide +kernel
theorem dX3_holdsAll_1 : decode cX3_holdsAll 1 = .ok (.iload_n 1, 1) := by decide +kernel
theorem dX3_holdsAll_2 : decode cX3_holdsAll 2 = .ok (.iand, 1) := by decide +kernel
theorem dX3_holdsAll_3 : decode cX3_holdsAll 3 = .ok (.iload_n 1, 1) := by decide +kernel
theorem dX3_holdsAll_4 : decode cX3_holdsAll 4 = .ok (.if_icmp .ne 7, 3) := by decide +kernel
theorem dX3_holdsAll_7 : decode cX3_holdsAll 7 = .ok (.iconst 1, 1) := by decide +kernel
theorem dX3_holdsAll_8 : decode cX3_holdsAll 8 = .ok (.goto 4, 3) := by decide +kernel
theorem dX3_holdsAll_11 : decode cX3_holdsAll 11 = .ok (.iconst 0, 1) := by decide +kernel
theorem dX3_holdsAll_12 : decode cX3_holdsAll 12 = .ok (.ireturn, 1) := by decide +kernel
theorem dX3_draw_0 : decode cX3_draw 0 = .ok (.ldc2_w 195, 3) := by decide +kernel
theorem dX3_draw_3 : decode cX3_draw 3 = .ok (.iload_n 0, 1) := by decide +kernel
theorem dX3_draw_4 : decode cX3_draw 4 = .ok (.i2l, 1) := by decide +kernel
theorem dX3_draw_5 : decode cX3_draw 5 = .ok (.lmul, 1) := by decide +kernel
theorem dX3_draw_6 : decode cX3_draw 6 = .ok (.ldc2_w 197, 3) := by decide +kernel
theorem dX3_draw_9 : decode cX3_draw 9 = .ok (.iload_n 1, 1) := by decide +kernel
theorem dX3_draw_10 : decode cX3_draw 10 = .ok (.i2l, 1) := by decide +kernel
theorem dX3_draw_11 : decode cX3_draw 11 = .ok (.lmul, 1) := by decide +kernel
theorem dX3_draw_12 : decode cX3_draw 12 = .ok (.ladd, 1) := by decide +kernel
theorem dX3_draw_13 : decode cX3_draw 13 = .ok (.lconst 1, 1) := by decide +kernel
theorem dX3_draw_14 : decode cX3_draw 14 = .ok (.ladd, 1) := by decide +kernel
theorem dX3_draw_15 : decode cX3_draw 15 = .ok (.lstore_n 2, 1) := by decide +kernel
theorem dX3_draw_16 : decode cX3_draw 16 = .ok (.lload_n 2, 1) := by decide +kernel
theorem dX3_draw_17 : decode cX3_draw 17 = .ok (.lload_n 2, 1) := by decide +kernel
theorem dX3_draw_18 : decode cX3_draw 18 = .ok (.lmul, 1) := by decide +kernel
theorem dX3_draw_19 : decode cX3_draw 19 = .ok (.ldc2_w 199, 3) := by decide +kernel
theorem dX3_draw_22 : decode cX3_draw 22 = .ok (.lrem, 1) := by decide +kernel
theorem dX3_draw_23 : decode cX3_draw 23 = .ok (.l2i, 1) := by decide +kernel
theorem dX3_draw_24 : decode cX3_draw 24 = .ok (.ireturn, 1) := by decide +kernel
theorem dX3_keptPlace_0 : decode cX3_keptPlace 0 = .ok (.iload_n 1, 1) := by decide +kernel
theorem dX3_keptPlace_1 : decode cX3_keptPlace 1 = .ok (.ifCond .ne 10, 3) := by decide +kernel
theorem dX3_keptPlace_4 : decode cX3_keptPlace 4 = .ok (.aload_n 0, 1) := by decide +kernel
theorem dX3_keptPlace_5 : decode cX3_keptPlace 5 = .ok (.getfield 36, 3) := by decide +kernel
theorem dX3_keptPlace_8 : decode cX3_keptPlace 8 = .ok (.goto 7, 3) := by decide +kernel
theorem dX3_keptPlace_11 : decode cX3_keptPlace 11 = .ok (.aload_n 0, 1) := by decide +kernel
theorem dX3_keptPlace_12 : decode cX3_keptPlace 12 = .ok (.getfield 39, 3) := by decide +kernel
theorem dX3_keptPlace_15 : decode cX3_keptPlace 15 = .ok (.areturn, 1) := by decide +kernel
theorem dX3_explainsAllDeeds_0 : decode cX3_explainsAllDeeds 0 = .ok (.iconst 0, 1) := by decide +kernel
theorem dX3_explainsAllDeeds_1 : decode cX3_explainsAllDeeds 1 = .ok (.istore_n 2, 1) := by decide +kernel
theorem dX3_explainsAllDeeds_2 : decode cX3_explainsAllDeeds 2 = .ok (.iload_n 2, 1) := by decide +kernel
theorem dX3_explainsAllDeeds_3 : decode cX3_explainsAllDeeds 3 = .ok (.aload_n 0, 1) := by decide +kernel
theorem dX3_explainsAllDeeds_4 : decode cX3_explainsAllDeeds 4 = .ok (.getfield 83, 3) := by decide +kernel
theorem dX3_explainsAllDeeds_7 : decode cX3_explainsAllDeeds 7 = .ok (.if_icmp .ge 22, 3) := by decide +kernel
theorem dX3_explainsAllDeeds_10 : decode cX3_explainsAllDeeds 10 = .ok (.aload_n 0, 1) := by decide +kernel
theorem dX3_explainsAllDeeds_11 : decode cX3_explainsAllDeeds 11 = .ok (.getfield 42, 3) := by decide +kernel
theorem dX3_explainsAllDeeds_14 : decode cX3_explainsAllDeeds 14 = .ok (.iload_n 2, 1) := by decide +kernel
theorem dX3_explainsAllDeeds_15 : decode cX3_explainsAllDeeds 15 = .ok (.iaload, 1) := by decide +kernel
theorem dX3_explainsAllDeeds_16 : decode cX3_explainsAllDeeds 16 = .ok (.iload_n 1, 1) := by decide +kernel
theorem dX3_explainsAllDeeds_17 : decode cX3_explainsAllDeeds 17 = .ok (.iand, 1) := by decide +kernel
theorem dX3_explainsAllDeeds_18 : decode cX3_explainsAllDeeds 18 = .ok (.ifCond .ne 5, 3) := by decide +kernel
theorem dX3_explainsAllDeeds_21 : decode cX3_explainsAllDeeds 21 = .ok (.iconst 0, 1) := by decide +kernel
theorem dX3_explainsAllDeeds_22 : decode cX3_explainsAllDeeds 22 = .ok (.ireturn, 1) := by decide +kernel
theorem dX3_explainsAllDeeds_23 : decode cX3_explainsAllDeeds 23 = .ok (.iinc 2 1, 3) := by decide +kernel
theorem dX3_explainsAllDeeds_26 : decode cX3_explainsAllDeeds 26 = .ok (.goto (-24), 3) := by decide +kernel
theorem dX3_explainsAllDeeds_29 : decode cX3_explainsAllDeeds 29 = .ok (.iconst 1, 1) := by decide +kernel
theorem dX3_explainsAllDeeds_30 : decode cX3_explainsAllDeeds 30 = .ok (.ireturn, 1) := by decide +kernel
theorem dX3_findMostByTakes_0 : decode cX3_findMostByTakes 0 = .ok (.iconst 0, 1) := by decide +kernel
theorem dX3_findMostByTakes_1 : decode cX3_findMostByTakes 1 = .ok (.istore_n 1, 1) := by decide +kernel
theorem dX3_findMostByTakes_2 : decode cX3_findMostByTakes 2 = .ok (.iload_n 1, 1) := by decide +kernel
theorem dX3_findMostByTakes_3 : decode cX3_findMostByTakes 3 = .ok (.bipush 10, 2) := by decide +kernel
theorem dX3_findMostByTakes_5 : decode cX3_findMostByTakes 5 = .ok (.if_icmp .ge 87, 3) := by decide +kernel
theorem dX3_findMostByTakes_8 : decode cX3_findMostByTakes 8 = .ok (.aload_n 0, 1) := by decide +kernel
theorem dX3_findMostByTakes_9 : decode cX3_findMostByTakes 9 = .ok (.getfield 46, 3) := by decide +kernel
theorem dX3_findMostByTakes_12 : decode cX3_findMostByTakes 12 = .ok (.iload_n 1, 1) := by decide +kernel
theorem dX3_findMostByTakes_13 : decode cX3_findMostByTakes 13 = .ok (.iconst 0, 1) := by decide +kernel
theorem dX3_findMostByTakes_14 : decode cX3_findMostByTakes 14 = .ok (.iastore, 1) := by decide +kernel
theorem dX3_findMostByTakes_15 : decode cX3_findMostByTakes 15 = .ok (.aload_n 0, 1) := by decide +kernel
theorem dX3_findMostByTakes_16 : decode cX3_findMostByTakes 16 = .ok (.getfield 49, 3) := by decide +kernel
theorem dX3_findMostByTakes_19 : decode cX3_findMostByTakes 19 = .ok (.iload_n 1, 1) := by decide +kernel
theorem dX3_findMostByTakes_20 : decode cX3_findMostByTakes 20 = .ok (.iconst 0, 1) := by decide +kernel
theorem dX3_findMostByTakes_21 : decode cX3_findMostByTakes 21 = .ok (.iastore, 1) := by decide +kernel
theorem dX3_findMostByTakes_22 : decode cX3_findMostByTakes 22 = .ok (.iconst 0, 1) := by decide +kernel
theorem dX3_findMostByTakes_23 : decode cX3_findMostByTakes 23 = .ok (.istore_n 2, 1) := by decide +kernel
theorem dX3_findMostByTakes_24 : decode cX3_findMostByTakes 24 = .ok (.iload_n 2, 1) := by decide +kernel
theorem dX3_findMostByTakes_25 : decode cX3_findMostByTakes 25 = .ok (.bipush 10, 2) := by decide +kernel
theorem dX3_findMostByTakes_27 : decode cX3_findMostByTakes 27 = .ok (.if_icmp .ge 59, 3) := by decide +kernel
theorem dX3_findMostByTakes_30 : decode cX3_findMostByTakes 30 = .ok (.aload_n 0, 1) := by decide +kernel
theorem dX3_findMostByTakes_31 : decode cX3_findMostByTakes 31 = .ok (.getfield 46, 3) := by decide +kernel
theorem dX3_findMostByTakes_34 : decode cX3_findMostByTakes 34 = .ok (.iload_n 1, 1) := by decide +kernel
theorem dX3_findMostByTakes_35 : decode cX3_findMostByTakes 35 = .ok (.aload_n 0, 1) := by decide +kernel
theorem dX3_findMostByTakes_36 : decode cX3_findMostByTakes 36 = .ok (.getfield 46, 3) := by decide +kernel
theorem dX3_findMostByTakes_39 : decode cX3_findMostByTakes 39 = .ok (.iload_n 1, 1) := by decide +kernel
theorem dX3_findMostByTakes_40 : decode cX3_findMostByTakes 40 = .ok (.iaload, 1) := by decide +kernel
theorem dX3_findMostByTakes_41 : decode cX3_findMostByTakes 41 = .ok (.aload_n 0, 1) := by decide +kernel
theorem dX3_findMostByTakes_42 : decode cX3_findMostByTakes 42 = .ok (.getfield 19, 3) := by decide +kernel
theorem dX3_findMostByTakes_45 : decode cX3_findMostByTakes 45 = .ok (.iload_n 2, 1) := by decide +kernel
theorem dX3_findMostByTakes_46 : decode cX3_findMostByTakes 46 = .ok (.iload_n 1, 1) := by decide +kernel
theorem dX3_findMostByTakes_47 : decode cX3_findMostByTakes 47 = .ok (.iconst 0, 1) := by decide +kernel
theorem dX3_findMostByTakes_48 : decode cX3_findMostByTakes 48 = .ok (.invokevirtual 156, 3) := by decide +kernel
theorem dX3_findMostByTakes_51 : decode cX3_findMostByTakes 51 = .ok (.invokestatic 201, 3) := by decide +kernel
theorem dX3_findMostByTakes_54 : decode cX3_findMostByTakes 54 = .ok (.iastore, 1) := by decide +kernel
theorem dX3_findMostByTakes_55 : decode cX3_findMostByTakes 55 = .ok (.aload_n 0, 1) := by decide +kernel
theorem dX3_findMostByTakes_56 : decode cX3_findMostByTakes 56 = .ok (.getfield 49, 3) := by decide +kernel
theorem dX3_findMostByTakes_59 : decode cX3_findMostByTakes 59 = .ok (.iload_n 1, 1) := by decide +kernel
theorem dX3_findMostByTakes_60 : decode cX3_findMostByTakes 60 = .ok (.aload_n 0, 1) := by decide +kernel
theorem dX3_findMostByTakes_61 : decode cX3_findMostByTakes 61 = .ok (.getfield 49, 3) := by decide +kernel
theorem dX3_findMostByTakes_64 : decode cX3_findMostByTakes 64 = .ok (.iload_n 1, 1) := by decide +kernel
theorem dX3_findMostByTakes_65 : decode cX3_findMostByTakes 65 = .ok (.iaload, 1) := by decide +kernel
theorem dX3_findMostByTakes_66 : decode cX3_findMostByTakes 66 = .ok (.aload_n 0, 1) := by decide +kernel
theorem dX3_findMostByTakes_67 : decode cX3_findMostByTakes 67 = .ok (.getfield 19, 3) := by decide +kernel
theorem dX3_findMostByTakes_70 : decode cX3_findMostByTakes 70 = .ok (.iload_n 1, 1) := by decide +kernel
theorem dX3_findMostByTakes_71 : decode cX3_findMostByTakes 71 = .ok (.iload_n 2, 1) := by decide +kernel
theorem dX3_findMostByTakes_72 : decode cX3_findMostByTakes 72 = .ok (.iconst 1, 1) := by decide +kernel
theorem dX3_findMostByTakes_73 : decode cX3_findMostByTakes 73 = .ok (.invokevirtual 156, 3) := by decide +kernel
theorem dX3_findMostByTakes_76 : decode cX3_findMostByTakes 76 = .ok (.invokestatic 201, 3) := by decide +kernel
theorem dX3_findMostByTakes_79 : decode cX3_findMostByTakes 79 = .ok (.iastore, 1) := by decide +kernel
theorem dX3_findMostByTakes_80 : decode cX3_findMostByTakes 80 = .ok (.iinc 2 1, 3) := by decide +kernel
theorem dX3_findMostByTakes_83 : decode cX3_findMostByTakes 83 = .ok (.goto (-59), 3) := by decide +kernel
theorem dX3_findMostByTakes_86 : decode cX3_findMostByTakes 86 = .ok (.iinc 1 1, 3) := by decide +kernel
theorem dX3_findMostByTakes_89 : decode cX3_findMostByTakes 89 = .ok (.goto (-87), 3) := by decide +kernel
theorem dX3_findMostByTakes_92 : decode cX3_findMostByTakes 92 = .ok (.return_, 1) := by decide +kernel
end
section
theorem dX4_init_0 : decode cX4_init 0 = .ok (.aload_n 0, 1) := by decide +kernel
theorem dX4_init_1 : decode cX4_init 1 = .ok (.invokespecial 1, 3) := by decide +kernel
theorem dX4_init_4 : decode cX4_init 4 = .ok (.aload_n 0, 1) := by decide +kernel
theorem dX4_init_5 : decode cX4_init 5 = .ok (.sipush 300, 3) := by decide +kernel
theorem dX4_init_8 : decode cX4_init 8 = .ok (.newarray .int, 2) := by decide +kernel
theorem dX4_init_10 : decode cX4_init 10 = .ok (.putfield 7, 3) := by decide +kernel
theorem dX4_init_13 : decode cX4_init 13 = .ok (.aload_n 0, 1) := by decide +kernel
theorem dX4_init_14 : decode cX4_init 14 = .ok (.bipush 80, 2) := by decide +kernel
theorem dX4_init_16 : decode cX4_init 16 = .ok (.newarray .int, 2) := by decide +kernel
theorem dX4_init_18 : decode cX4_init 18 = .ok (.putfield 13, 3) := by decide +kernel
theorem dX4_init_21 : decode cX4_init 21 = .ok (.aload_n 0, 1) := by decide +kernel
theorem dX4_init_22 : decode cX4_init 22 = .ok (.bipush 80, 2) := by decide +kernel
theorem dX4_init_24 : decode cX4_init 24 = .ok (.newarray .int, 2) := by decide +kernel
theorem dX4_init_26 : decode cX4_init 26 = .ok (.putfield 16, 3) := by decide +kernel
theorem dX4_init_29 : decode cX4_init 29 = .ok (.aload_n 0, 1) := by decide +kernel
theorem dX4_init_30 : decode cX4_init 30 = .ok (.bipush 16, 2) := by decide +kernel
theorem dX4_init_32 : decode cX4_init 32 = .ok (.newarray .int, 2) := by decide +kernel
theorem dX4_init_34 : decode cX4_init 34 = .ok (.putfield 19, 3) := by decide +kernel
theorem dX4_init_37 : decode cX4_init 37 = .ok (.aload_n 0, 1) := by decide +kernel
theorem dX4_init_38 : decode cX4_init 38 = .ok (.bipush 16, 2) := by decide +kernel
theorem dX4_init_40 : decode cX4_init 40 = .ok (.newarray .int, 2) := by decide +kernel
theorem dX4_init_42 : decode cX4_init 42 = .ok (.putfield 22, 3) := by decide +kernel
theorem dX4_init_45 : decode cX4_init 45 = .ok (.aload_n 0, 1) := by decide +kernel
theorem dX4_init_46 : decode cX4_init 46 = .ok (.bipush 32, 2) := by decide +kernel
theorem dX4_init_48 : decode cX4_init 48 = .ok (.newarray .int, 2) := by decide +kernel
theorem dX4_init_50 : decode cX4_init 50 = .ok (.putfield 25, 3) := by decide +kernel
theorem dX4_init_53 : decode cX4_init 53 = .ok (.aload_n 0, 1) := by decide +kernel
theorem dX4_init_54 : decode cX4_init 54 = .ok (.bipush 10, 2) := by decide +kernel
theorem dX4_init_56 : decode cX4_init 56 = .ok (.newarray .int, 2) := by decide +kernel
theorem dX4_init_58 : decode cX4_init 58 = .ok (.putfield 28, 3) := by decide +kernel
theorem dX4_init_61 : decode cX4_init 61 = .ok (.aload_n 0, 1) := by decide +kernel
theorem dX4_init_62 : decode cX4_init 62 = .ok (.bipush 10, 2) := by decide +kernel
theorem dX4_init_64 : decode cX4_init 64 = .ok (.newarray .int, 2) := by decide +kernel
theorem dX4_init_66 : decode cX4_init 66 = .ok (.putfield 31, 3) := by decide +kernel
theorem dX4_init_69 : decode cX4_init 69 = .ok (.aload_n 0, 1) := by decide +kernel
theorem dX4_init_70 : decode cX4_init 70 = .ok (.bipush 10, 2) := by decide +kernel
theorem dX4_init_72 : decode cX4_init 72 = .ok (.newarray .int, 2) := by decide +kernel
theorem dX4_init_74 : decode cX4_init 74 = .ok (.putfield 34, 3) := by decide +kernel
theorem dX4_init_77 : decode cX4_init 77 = .ok (.aload_n 0, 1) := by decide +kernel
theorem dX4_init_78 : decode cX4_init 78 = .ok (.iconst 4, 1) := by decide +kernel
theorem dX4_init_79 : decode cX4_init 79 = .ok (.newarray .int, 2) := by decide +kernel
theorem dX4_init_81 : decode cX4_init 81 = .ok (.putfield 37, 3) := by decide +kernel
theorem dX4_init_84 : decode cX4_init 84 = .ok (.aload_n 0, 1) := by decide +kernel
theorem dX4_init_85 : decode cX4_init 85 = .ok (.getfield 13, 3) := by decide +kernel
theorem dX4_init_88 : decode cX4_init 88 = .ok (.iconst 0, 1) := by decide +kernel
theorem dX4_init_89 : decode cX4_init 89 = .ok (.iconst 1, 1) := by decide +kernel
theorem dX4_init_90 : decode cX4_init 90 = .ok (.iastore, 1) := by decide +kernel
theorem dX4_init_91 : decode cX4_init 91 = .ok (.aload_n 0, 1) := by decide +kernel
theorem dX4_init_92 : decode cX4_init 92 = .ok (.getfield 13, 3) := by decide +kernel
theorem dX4_init_95 : decode cX4_init 95 = .ok (.iconst 1, 1) := by decide +kernel
theorem dX4_init_96 : decode cX4_init 96 = .ok (.iconst 1, 1) := by decide +kernel
theorem dX4_init_97 : decode cX4_init 97 = .ok (.iastore, 1) := by decide +kernel
theorem dX4_init_98 : decode cX4_init 98 = .ok (.aload_n 0, 1) := by decide +kernel
theorem dX4_init_99 : decode cX4_init 99 = .ok (.getfield 13, 3) := by decide +kernel
theorem dX4_init_102 : decode cX4_init 102 = .ok (.iconst 3, 1) := by decide +kernel
theorem dX4_init_103 : decode cX4_init 103 = .ok (.iconst 3, 1) := by decide +kernel
theorem dX4_init_104 : decode cX4_init 104 = .ok (.iastore, 1) := by decide +kernel
theorem dX4_init_105 : decode cX4_init 105 = .ok (.aload_n 0, 1) := by decide +kernel
theorem dX4_init_106 : decode cX4_init 106 = .ok (.getfield 13, 3) := by decide +kernel
theorem dX4_init_109 : decode cX4_init 109 = .ok (.iconst 4, 1) := by decide +kernel
theorem dX4_init_110 : decode cX4_init 110 = .ok (.iconst 2, 1) := by decide +kernel
theorem dX4_init_111 : decode cX4_init 111 = .ok (.iastore, 1) := by decide +kernel
theorem dX4_init_112 : decode cX4_init 112 = .ok (.aload_n 0, 1) := by decide +kernel
theorem dX4_init_113 : decode cX4_init 113 = .ok (.getfield 13, 3) := by decide +kernel
theorem dX4_init_116 : decode cX4_init 116 = .ok (.iconst 5, 1) := by decide +kernel
theorem dX4_init_117 : decode cX4_init 117 = .ok (.bipush 9, 2) := by decide +kernel
theorem dX4_init_119 : decode cX4_init 119 = .ok (.iastore, 1) := by decide +kernel
theorem dX4_init_120 : decode cX4_init 120 = .ok (.aload_n 0, 1) := by decide +kernel
theorem dX4_init_121 : decode cX4_init 121 = .ok (.getfield 13, 3) := by decide +kernel
theorem dX4_init_124 : decode cX4_init 124 = .ok (.bipush 6, 2) := by decide +kernel
theorem dX4_init_126 : decode cX4_init 126 = .ok (.iconst 1, 1) := by decide +kernel
theorem dX4_init_127 : decode cX4_init 127 = .ok (.iastore, 1) := by decide +kernel
theorem dX4_init_128 : decode cX4_init 128 = .ok (.aload_n 0, 1) := by decide +kernel
theorem dX4_init_129 : decode cX4_init 129 = .ok (.getfield 13, 3) := by decide +kernel
theorem dX4_init_132 : decode cX4_init 132 = .ok (.bipush 7, 2) := by decide +kernel
theorem dX4_init_134 : decode cX4_init 134 = .ok (.iconst 1, 1) := by decide +kernel
theorem dX4_init_135 : decode cX4_init 135 = .ok (.iastore, 1) := by decide +kernel
theorem dX4_init_136 : decode cX4_init 136 = .ok (.aload_n 0, 1) := by decide +kernel
theorem dX4_init_137 : decode cX4_init 137 = .ok (.getfield 13, 3) := by decide +kernel
theorem dX4_init_140 : decode cX4_init 140 = .ok (.bipush 8, 2) := by decide +kernel
theorem dX4_init_142 : decode cX4_init 142 = .ok (.iconst 1, 1) := by decide +kernel
theorem dX4_init_143 : decode cX4_init 143 = .ok (.iastore, 1) := by decide +kernel
theorem dX4_init_144 : decode cX4_init 144 = .ok (.aload_n 0, 1) := by decide +kernel
theorem dX4_init_145 : decode cX4_init 145 = .ok (.getfield 13, 3) := by decide +kernel
theorem dX4_init_148 : decode cX4_init 148 = .ok (.bipush 9, 2) := by decide +kernel
theorem dX4_init_150 : decode cX4_init 150 = .ok (.iconst 2, 1) := by decide +kernel
theorem dX4_init_151 : decode cX4_init 151 = .ok (.iastore, 1) := by decide +kernel
theorem dX4_init_152 : decode cX4_init 152 = .ok (.aload_n 0, 1) := by decide +kernel
theorem dX4_init_153 : decode cX4_init 153 = .ok (.getfield 13, 3) := by decide +kernel
theorem dX4_init_156 : decode cX4_init 156 = .ok (.bipush 28, 2) := by decide +kernel
theorem dX4_init_158 : decode cX4_init 158 = .ok (.iconst 2, 1) := by decide +kernel
theorem dX4_init_159 : decode cX4_init 159 = .ok (.iastore, 1) := by decide +kernel
theorem dX4_init_160 : decode cX4_init 160 = .ok (.aload_n 0, 1) := by decide +kernel
theorem dX4_init_161 : decode cX4_init 161 = .ok (.getfield 13, 3) := by decide +kernel
theorem dX4_init_164 : decode cX4_init 164 = .ok (.bipush 33, 2) := by decide +kernel
theorem dX4_init_166 : decode cX4_init 166 = .ok (.iconst 1, 1) := by decide +kernel
theorem dX4_init_167 : decode cX4_init 167 = .ok (.iastore, 1) := by decide +kernel
theorem dX4_init_168 : decode cX4_init 168 = .ok (.return_, 1) := by decide +kernel
theorem dX4_in_0 : decode cX4_in 0 = .ok (.iload_n 0, 1) := by decide +kernel
theorem dX4_in_1 : decode cX4_in 1 = .ok (.iload_n 1, 1) := by decide +kernel
theorem dX4_in_2 : decode cX4_in 2 = .ok (.if_icmp .lt 12, 3) := by decide +kernel
theorem dX4_in_5 : decode cX4_in 5 = .ok (.iload_n 0, 1) := by decide +kernel
theorem dX4_in_6 : decode cX4_in 6 = .ok (.iload_n 2, 1) := by decide +kernel
theorem dX4_in_7 : decode cX4_in 7 = .ok (.if_icmp .gt 7, 3) := by decide +kernel
theorem dX4_in_10 : decode cX4_in 10 = .ok (.iconst 1, 1) := by decide +kernel
theorem dX4_in_11 : decode cX4_in 11 = .ok (.goto 4, 3) := by decide +kernel
theorem dX4_in_14 : decode cX4_in 14 = .ok (.iconst 0, 1) := by decide +kernel
theorem dX4_in_15 : decode cX4_in 15 = .ok (.ireturn, 1) := by decide +kernel
theorem dX4_isPerson_0 : decode cX4_isPerson 0 = .ok (.iload_n 1, 1) := by decide +kernel
theorem dX4_isPerson_1 : decode cX4_isPerson 1 = .ok (.iconst 0, 1) := by decide +kernel
theorem dX4_isPerson_2 : decode cX4_isPerson 2 = .ok (.aload_n 0, 1) := by decide +kernel
theorem dX4_isPerson_3 : decode cX4_isPerson 3 = .ok (.getfield 13, 3) := by decide +kernel
theorem dX4_isPerson_6 : decode cX4_isPerson 6 = .ok (.iconst 0, 1) := by decide +kernel
theorem dX4_isPerson_7 : decode cX4_isPerson 7 = .ok (.iaload, 1) := by decide +kernel
theorem dX4_isPerson_8 : decode cX4_isPerson 8 = .ok (.iconst 1, 1) := by decide +kernel
theorem dX4_isPerson_9 : decode cX4_isPerson 9 = .ok (.isub, 1) := by decide +kernel
theorem dX4_isPerson_10 : decode cX4_isPerson 10 = .ok (.invokestatic 40, 3) := by decide +kernel
theorem dX4_isPerson_13 : decode cX4_isPerson 13 = .ok (.ireturn, 1) := by decide +kernel
theorem dX4_isTrade_0 : decode cX4_isTrade 0 = .ok (.iload_n 1, 1) := by decide +kernel
theorem dX4_isTrade_1 : decode cX4_isTrade 1 = .ok (.iconst 0, 1) := by decide +kernel
theorem dX4_isTrade_2 : decode cX4_isTrade 2 = .ok (.aload_n 0, 1) := by decide +kernel
theorem dX4_isTrade_3 : decode cX4_isTrade 3 = .ok (.getfield 13, 3) := by decide +kernel
theorem dX4_isTrade_6 : decode cX4_isTrade 6 = .ok (.iconst 1, 1) := by decide +kernel
theorem dX4_isTrade_7 : decode cX4_isTrade 7 = .ok (.iaload, 1) := by decide +kernel
theorem dX4_isTrade_8 : decode cX4_isTrade 8 = .ok (.iconst 1, 1) := by decide +kernel
theorem dX4_isTrade_9 : decode cX4_isTrade 9 = .ok (.isub, 1) := by decide +kernel
theorem dX4_isTrade_10 : decode cX4_isTrade 10 = .ok (.invokestatic 40, 3) := by decide +kernel
theorem dX4_isTrade_13 : decode cX4_isTrade 13 = .ok (.ireturn, 1) := by decide +kernel
theorem dX4_isSet_0 : decode cX4_isSet 0 = .ok (.iload_n 0, 1) := by decide +kernel
theorem dX4_isSet_1 : decode cX4_isSet 1 = .ok (.iconst 0, 1) := by decide +kernel
theorem dX4_isSet_2 : decode cX4_isSet 2 = .ok (.sipush 255, 3) := by decide +kernel
theorem dX4_isSet_5 : decode cX4_isSet 5 = .ok (.invokestatic 40, 3) := by decide +kernel
theorem dX4_isSet_8 : decode cX4_isSet 8 = .ok (.ireturn, 1) := by decide +kernel
theorem dX4_write_0 : decode cX4_write 0 = .ok (.iload_n 1, 1) := by decide +kernel
theorem dX4_write_1 : decode cX4_write 1 = .ok (.iconst 1, 1) := by decide +kernel
theorem dX4_write_2 : decode cX4_write 2 = .ok (.bipush 8, 2) := by decide +kernel
theorem dX4_write_4 : decode cX4_write 4 = .ok (.invokestatic 40, 3) := by decide +kernel
theorem dX4_write_7 : decode cX4_write 7 = .ok (.ifCond .ne 5, 3) := by decide +kernel
theorem dX4_write_10 : decode cX4_write 10 = .ok (.iconst (-1), 1) := by decide +kernel
theorem dX4_write_11 : decode cX4_write 11 = .ok (.ireturn, 1) := by decide +kernel
theorem dX4_write_12 : decode cX4_write 12 = .ok (.aload_n 0, 1) := by decide +kernel
theorem dX4_write_13 : decode cX4_write 13 = .ok (.getfield 44, 3) := by decide +kernel
theorem dX4_write_16 : decode cX4_write 16 = .ok (.iload_n 1, 1) := by decide +kernel
theorem dX4_write_17 : decode cX4_write 17 = .ok (.iadd, 1) := by decide +kernel
theorem dX4_write_18 : decode cX4_write 18 = .ok (.sipush 300, 3) := by decide +kernel
theorem dX4_write_21 : decode cX4_write 21 = .ok (.if_icmp .le 6, 3) := by decide +kernel
theorem dX4_write_24 : decode cX4_write 24 = .ok (.bipush (-3), 2) := by decide +kernel
theorem dX4_write_26 : decode cX4_write 26 = .ok (.ireturn, 1) := by decide +kernel
theorem dX4_write_27 : decode cX4_write 27 = .ok (.iload_n 1, 1) := by decide +kernel
theorem dX4_write_28 : decode cX4_write 28 = .ok (.iconst 1, 1) := by decide +kernel
theorem dX4_write_29 : decode cX4_write 29 = .ok (.isub, 1) := by decide +kernel
theorem dX4_write_30 : decode cX4_write 30 = .ok (.istore 4, 2) := by decide +kernel
theorem dX4_write_32 : decode cX4_write 32 = .ok (.iload 4, 2) := by decide +kernel
theorem dX4_write_34 : decode cX4_write 34 = .ok (.ifCond .lt 40, 3) := by decide +kernel
theorem dX4_write_37 : decode cX4_write 37 = .ok (.aload_n 0, 1) := by decide +kernel
theorem dX4_write_38 : decode cX4_write 38 = .ok (.getfield 7, 3) := by decide +kernel
theorem dX4_write_41 : decode cX4_write 41 = .ok (.aload_n 0, 1) := by decide +kernel
theorem dX4_write_42 : decode cX4_write 42 = .ok (.getfield 44, 3) := by decide +kernel
theorem dX4_write_45 : decode cX4_write 45 = .ok (.lload_n 2, 1) := by decide +kernel
theorem dX4_write_46 : decode cX4_write 46 = .ok (.bipush 8, 2) := by decide +kernel
theorem dX4_write_48 : decode cX4_write 48 = .ok (.iload 4, 2) := by decide +kernel
theorem dX4_write_50 : decode cX4_write 50 = .ok (.imul, 1) := by decide +kernel
theorem dX4_write_51 : decode cX4_write 51 = .ok (.lshr, 1) := by decide +kernel
theorem dX4_write_52 : decode cX4_write 52 = .ok (.ldc2_w 48, 3) := by decide +kernel
theorem dX4_write_55 : decode cX4_write 55 = .ok (.land, 1) := by decide +kernel
theorem dX4_write_56 : decode cX4_write 56 = .ok (.l2i, 1) := by decide +kernel
theorem dX4_write_57 : decode cX4_write 57 = .ok (.iastore, 1) := by decide +kernel
theorem dX4_write_58 : decode cX4_write 58 = .ok (.aload_n 0, 1) := by decide +kernel
theorem dX4_write_59 : decode cX4_write 59 = .ok (.dup, 1) := by decide +kernel
theorem dX4_write_60 : decode cX4_write 60 = .ok (.getfield 44, 3) := by decide +kernel
theorem dX4_write_63 : decode cX4_write 63 = .ok (.iconst 1, 1) := by decide +kernel
theorem dX4_write_64 : decode cX4_write 64 = .ok (.iadd, 1) := by decide +kernel
theorem dX4_write_65 : decode cX4_write 65 = .ok (.putfield 44, 3) := by decide +kernel
theorem dX4_write_68 : decode cX4_write 68 = .ok (.iinc 4 (-1), 3) := by decide +kernel
theorem dX4_write_71 : decode cX4_write 71 = .ok (.goto (-39), 3) := by decide +kernel
theorem dX4_write_74 : decode cX4_write 74 = .ok (.aload_n 0, 1) := by decide +kernel
theorem dX4_write_75 : decode cX4_write 75 = .ok (.getfield 44, 3) := by decide +kernel
theorem dX4_write_78 : decode cX4_write 78 = .ok (.ireturn, 1) := by decide +kernel
theorem dX4_wipe_0 : decode cX4_wipe 0 = .ok (.aload_n 0, 1) := by decide +kernel
theorem dX4_wipe_1 : decode cX4_wipe 1 = .ok (.getfield 44, 3) := by decide +kernel
theorem dX4_wipe_4 : decode cX4_wipe 4 = .ok (.istore_n 1, 1) := by decide +kernel
theorem dX4_wipe_5 : decode cX4_wipe 5 = .ok (.aload_n 0, 1) := by decide +kernel
theorem dX4_wipe_6 : decode cX4_wipe 6 = .ok (.iconst 0, 1) := by decide +kernel
theorem dX4_wipe_7 : decode cX4_wipe 7 = .ok (.putfield 44, 3) := by decide +kernel
theorem dX4_wipe_10 : decode cX4_wipe 10 = .ok (.iload_n 1, 1) := by decide +kernel
theorem dX4_wipe_11 : decode cX4_wipe 11 = .ok (.ireturn, 1) := by decide +kernel
theorem dX4_byteAt_0 : decode cX4_byteAt 0 = .ok (.iload_n 1, 1) := by decide +kernel
theorem dX4_byteAt_1 : decode cX4_byteAt 1 = .ok (.aload_n 0, 1) := by decide +kernel
theorem dX4_byteAt_2 : decode cX4_byteAt 2 = .ok (.getfield 44, 3) := by decide +kernel
theorem dX4_byteAt_5 : decode cX4_byteAt 5 = .ok (.if_icmp .ge 12, 3) := by decide +kernel
theorem dX4_byteAt_8 : decode cX4_byteAt 8 = .ok (.aload_n 0, 1) := by decide +kernel
theorem dX4_byteAt_9 : decode cX4_byteAt 9 = .ok (.getfield 7, 3) := by decide +kernel
theorem dX4_byteAt_12 : decode cX4_byteAt 12 = .ok (.iload_n 1, 1) := by decide +kernel
theorem dX4_byteAt_13 : decode cX4_byteAt 13 = .ok (.iaload, 1) := by decide +kernel
theorem dX4_byteAt_14 : decode cX4_byteAt 14 = .ok (.goto 4, 3) := by decide +kernel
theorem dX4_byteAt_17 : decode cX4_byteAt 17 = .ok (.iconst (-1), 1) := by decide +kernel
theorem dX4_byteAt_18 : decode cX4_byteAt 18 = .ok (.ireturn, 1) := by decide +kernel
theorem dX4_isFigure_0 : decode cX4_isFigure 0 = .ok (.aload_n 0, 1) := by decide +kernel
theorem dX4_isFigure_1 : decode cX4_isFigure 1 = .ok (.aload_n 0, 1) := by decide +kernel
theorem dX4_isFigure_2 : decode cX4_isFigure 2 = .ok (.getfield 50, 3) := by decide +kernel
theorem dX4_isFigure_5 : decode cX4_isFigure 5 = .ok (.invokevirtual 53, 3) := by decide +kernel
theorem dX4_isFigure_8 : decode cX4_isFigure 8 = .ok (.bipush 48, 2) := by decide +kernel
theorem dX4_isFigure_10 : decode cX4_isFigure 10 = .ok (.bipush 57, 2) := by decide +kernel
theorem dX4_isFigure_12 : decode cX4_isFigure 12 = .ok (.invokestatic 40, 3) := by decide +kernel
theorem dX4_isFigure_15 : decode cX4_isFigure 15 = .ok (.ireturn, 1) := by decide +kernel
theorem dX4_numbers_0 : decode cX4_numbers 0 = .ok (.iconst 0, 1) := by decide +kernel
theorem dX4_numbers_1 : decode cX4_numbers 1 = .ok (.istore_n 2, 1) := by decide +kernel
theorem dX4_numbers_2 : decode cX4_numbers 2 = .ok (.iload_n 2, 1) := by decide +kernel
theorem dX4_numbers_3 : decode cX4_numbers 3 = .ok (.iload_n 1, 1) := by decide +kernel
theorem dX4_numbers_4 : decode cX4_numbers 4 = .ok (.if_icmp .ge 119, 3) := by decide +kernel
theorem dX4_numbers_7 : decode cX4_numbers 7 = .ok (.aload_n 0, 1) := by decide +kernel
theorem dX4_numbers_8 : decode cX4_numbers 8 = .ok (.getfield 50, 3) := by decide +kernel
theorem dX4_numbers_11 : decode cX4_numbers 11 = .ok (.istore_n 3, 1) := by decide +kernel
theorem dX4_numbers_12 : decode cX4_numbers 12 = .ok (.iconst 0, 1) := by decide +kernel
theorem dX4_numbers_13 : decode cX4_numbers 13 = .ok (.istore 4, 2) := by decide +kernel
theorem dX4_numbers_15 : decode cX4_numbers 15 = .ok (.aload_n 0, 1) := by decide +kernel
theorem dX4_numbers_16 : decode cX4_numbers 16 = .ok (.getfield 50, 3) := by decide +kernel
theorem dX4_numbers_19 : decode cX4_numbers 19 = .ok (.iload_n 3, 1) := by decide +kernel
theorem dX4_numbers_20 : decode cX4_numbers 20 = .ok (.iconst 3, 1) := by decide +kernel
theorem dX4_numbers_21 : decode cX4_numbers 21 = .ok (.iadd, 1) := by decide +kernel
theorem dX4_numbers_22 : decode cX4_numbers 22 = .ok (.if_icmp .ge 42, 3) := by decide +kernel
theorem dX4_numbers_25 : decode cX4_numbers 25 = .ok (.aload_n 0, 1) := by decide +kernel
theorem dX4_numbers_26 : decode cX4_numbers 26 = .ok (.invokevirtual 57, 3) := by decide +kernel
theorem dX4_numbers_29 : decode cX4_numbers 29 = .ok (.ifCond .eq 35, 3) := by decide +kernel
theorem dX4_numbers_32 : decode cX4_numbers 32 = .ok (.bipush 10, 2) := by decide +kernel
theorem dX4_numbers_34 : decode cX4_numbers 34 = .ok (.iload 4, 2) := by decide +kernel
theorem dX4_numbers_36 : decode cX4_numbers 36 = .ok (.imul, 1) := by decide +kernel
theorem dX4_numbers_37 : decode cX4_numbers 37 = .ok (.aload_n 0, 1) := by decide +kernel
theorem dX4_numbers_38 : decode cX4_numbers 38 = .ok (.aload_n 0, 1) := by decide +kernel
theorem dX4_numbers_39 : decode cX4_numbers 39 = .ok (.getfield 50, 3) := by decide +kernel
theorem dX4_numbers_42 : decode cX4_numbers 42 = .ok (.invokevirtual 53, 3) := by decide +kernel
theorem dX4_numbers_45 : decode cX4_numbers 45 = .ok (.iadd, 1) := by decide +kernel
theorem dX4_numbers_46 : decode cX4_numbers 46 = .ok (.bipush 48, 2) := by decide +kernel
theorem dX4_numbers_48 : decode cX4_numbers 48 = .ok (.isub, 1) := by decide +kernel
theorem dX4_numbers_49 : decode cX4_numbers 49 = .ok (.istore 4, 2) := by decide +kernel
theorem dX4_numbers_51 : decode cX4_numbers 51 = .ok (.aload_n 0, 1) := by decide +kernel
theorem dX4_numbers_52 : decode cX4_numbers 52 = .ok (.dup, 1) := by decide +kernel
theorem dX4_numbers_53 : decode cX4_numbers 53 = .ok (.getfield 50, 3) := by decide +kernel
theorem dX4_numbers_56 : decode cX4_numbers 56 = .ok (.iconst 1, 1) := by decide +kernel
theorem dX4_numbers_57 : decode cX4_numbers 57 = .ok (.iadd, 1) := by decide +kernel
theorem dX4_numbers_58 : decode cX4_numbers 58 = .ok (.putfield 50, 3) := by decide +kernel
theorem dX4_numbers_61 : decode cX4_numbers 61 = .ok (.goto (-46), 3) := by decide +kernel
theorem dX4_numbers_64 : decode cX4_numbers 64 = .ok (.aload_n 0, 1) := by decide +kernel
theorem dX4_numbers_65 : decode cX4_numbers 65 = .ok (.getfield 37, 3) := by decide +kernel
theorem dX4_numbers_68 : decode cX4_numbers 68 = .ok (.iload_n 2, 1) := by decide +kernel
theorem dX4_numbers_69 : decode cX4_numbers 69 = .ok (.iload 4, 2) := by decide +kernel
theorem dX4_numbers_71 : decode cX4_numbers 71 = .ok (.iastore, 1) := by decide +kernel
theorem dX4_numbers_72 : decode cX4_numbers 72 = .ok (.aload_n 0, 1) := by decide +kernel
theorem dX4_numbers_73 : decode cX4_numbers 73 = .ok (.getfield 50, 3) := by decide +kernel
theorem dX4_numbers_76 : decode cX4_numbers 76 = .ok (.iload_n 3, 1) := by decide +kernel
theorem dX4_numbers_77 : decode cX4_numbers 77 = .ok (.if_icmp .eq 28, 3) := by decide +kernel
theorem dX4_numbers_80 : decode cX4_numbers 80 = .ok (.aload_n 0, 1) := by decide +kernel
theorem dX4_numbers_81 : decode cX4_numbers 81 = .ok (.aload_n 0, 1) := by decide +kernel
theorem dX4_numbers_82 : decode cX4_numbers 82 = .ok (.getfield 50, 3) := by decide +kernel
theorem dX4_numbers_85 : decode cX4_numbers 85 = .ok (.invokevirtual 53, 3) := by decide +kernel
theorem dX4_numbers_88 : decode cX4_numbers 88 = .ok (.iload_n 2, 1) := by decide +kernel
theorem dX4_numbers_89 : decode cX4_numbers 89 = .ok (.iload_n 1, 1) := by decide +kernel
theorem dX4_numbers_90 : decode cX4_numbers 90 = .ok (.iconst 1, 1) := by decide +kernel
theorem dX4_numbers_91 : decode cX4_numbers 91 = .ok (.isub, 1) := by decide +kernel
theorem dX4_numbers_92 : decode cX4_numbers 92 = .ok (.if_icmp .ge 8, 3) := by decide +kernel
theorem dX4_numbers_95 : decode cX4_numbers 95 = .ok (.bipush 44, 2) := by decide +kernel
theorem dX4_numbers_97 : decode cX4_numbers 97 = .ok (.goto 5, 3) := by decide +kernel
theorem dX4_numbers_100 : decode cX4_numbers 100 = .ok (.bipush 59, 2) := by decide +kernel
theorem dX4_numbers_102 : decode cX4_numbers 102 = .ok (.if_icmp .eq 5, 3) := by decide +kernel
theorem dX4_numbers_105 : decode cX4_numbers 105 = .ok (.iconst 0, 1) := by decide +kernel
theorem dX4_numbers_106 : decode cX4_numbers 106 = .ok (.ireturn, 1) := by decide +kernel
theorem dX4_numbers_107 : decode cX4_numbers 107 = .ok (.aload_n 0, 1) := by decide +kernel
theorem dX4_numbers_108 : decode cX4_numbers 108 = .ok (.dup, 1) := by decide +kernel
theorem dX4_numbers_109 : decode cX4_numbers 109 = .ok (.getfield 50, 3) := by decide +kernel
theorem dX4_numbers_112 : decode cX4_numbers 112 = .ok (.iconst 1, 1) := by decide +kernel
theorem dX4_numbers_113 : decode cX4_numbers 113 = .ok (.iadd, 1) := by decide +kernel
theorem dX4_numbers_114 : decode cX4_numbers 114 = .ok (.putfield 50, 3) := by decide +kernel
theorem dX4_numbers_117 : decode cX4_numbers 117 = .ok (.iinc 2 1, 3) := by decide +kernel
theorem dX4_numbers_120 : decode cX4_numbers 120 = .ok (.goto (-118), 3) := by decide +kernel
theorem dX4_numbers_123 : decode cX4_numbers 123 = .ok (.iconst 1, 1) := by decide +kernel
theorem dX4_numbers_124 : decode cX4_numbers 124 = .ok (.ireturn, 1) := by decide +kernel
theorem dX4_person_0 : decode cX4_person 0 = .ok (.aload_n 0, 1) := by decide +kernel
theorem dX4_person_1 : decode cX4_person 1 = .ok (.getfield 16, 3) := by decide +kernel
theorem dX4_person_4 : decode cX4_person 4 = .ok (.iconst 0, 1) := by decide +kernel
theorem dX4_person_5 : decode cX4_person 5 = .ok (.iaload, 1) := by decide +kernel
theorem dX4_person_6 : decode cX4_person 6 = .ok (.iconst 5, 1) := by decide +kernel
theorem dX4_person_7 : decode cX4_person 7 = .ok (.if_icmp .eq 33, 3) := by decide +kernel
theorem dX4_person_10 : decode cX4_person 10 = .ok (.aload_n 0, 1) := by decide +kernel
theorem dX4_person_11 : decode cX4_person 11 = .ok (.iconst 2, 1) := by decide +kernel
theorem dX4_person_12 : decode cX4_person 12 = .ok (.invokevirtual 61, 3) := by decide +kernel
theorem dX4_person_15 : decode cX4_person 15 = .ok (.ifCond .eq 25, 3) := by decide +kernel
theorem dX4_person_18 : decode cX4_person 18 = .ok (.aload_n 0, 1) := by decide +kernel
theorem dX4_person_19 : decode cX4_person 19 = .ok (.getfield 37, 3) := by decide +kernel
theorem dX4_person_22 : decode cX4_person 22 = .ok (.iconst 0, 1) := by decide +kernel
theorem dX4_person_23 : decode cX4_person 23 = .ok (.iaload, 1) := by decide +kernel
theorem dX4_person_24 : decode cX4_person 24 = .ok (.bipush 63, 2) := by decide +kernel
theorem dX4_person_26 : decode cX4_person 26 = .ok (.if_icmp .gt 14, 3) := by decide +kernel
theorem dX4_person_29 : decode cX4_person 29 = .ok (.aload_n 0, 1) := by decide +kernel
theorem dX4_person_30 : decode cX4_person 30 = .ok (.getfield 37, 3) := by decide +kernel
theorem dX4_person_33 : decode cX4_person 33 = .ok (.iconst 1, 1) := by decide +kernel
theorem dX4_person_34 : decode cX4_person 34 = .ok (.iaload, 1) := by decide +kernel
theorem dX4_person_35 : decode cX4_person 35 = .ok (.bipush 63, 2) := by decide +kernel
theorem dX4_person_37 : decode cX4_person 37 = .ok (.if_icmp .le 5, 3) := by decide +kernel
theorem dX4_person_40 : decode cX4_person 40 = .ok (.iconst 0, 1) := by decide +kernel
theorem dX4_person_41 : decode cX4_person 41 = .ok (.ireturn, 1) := by decide +kernel
theorem dX4_person_42 : decode cX4_person 42 = .ok (.aload_n 0, 1) := by decide +kernel
theorem dX4_person_43 : decode cX4_person 43 = .ok (.getfield 16, 3) := by decide +kernel
theorem dX4_person_46 : decode cX4_person 46 = .ok (.bipush 8, 2) := by decide +kernel
theorem dX4_person_48 : decode cX4_person 48 = .ok (.iconst 2, 1) := by decide +kernel
theorem dX4_person_49 : decode cX4_person 49 = .ok (.aload_n 0, 1) := by decide +kernel
theorem dX4_person_50 : decode cX4_person 50 = .ok (.getfield 16, 3) := by decide +kernel
theorem dX4_person_53 : decode cX4_person 53 = .ok (.iconst 0, 1) := by decide +kernel
theorem dX4_person_54 : decode cX4_person 54 = .ok (.iaload, 1) := by decide +kernel
theorem dX4_person_55 : decode cX4_person 55 = .ok (.imul, 1) := by decide +kernel
theorem dX4_person_56 : decode cX4_person 56 = .ok (.iadd, 1) := by decide +kernel
theorem dX4_person_57 : decode cX4_person 57 = .ok (.aload_n 0, 1) := by decide +kernel
theorem dX4_person_58 : decode cX4_person 58 = .ok (.getfield 37, 3) := by decide +kernel
theorem dX4_person_61 : decode cX4_person 61 = .ok (.iconst 0, 1) := by decide +kernel
theorem dX4_person_62 : decode cX4_person 62 = .ok (.iaload, 1) := by decide +kernel
theorem dX4_person_63 : decode cX4_person 63 = .ok (.iastore, 1) := by decide +kernel
theorem dX4_person_64 : decode cX4_person 64 = .ok (.aload_n 0, 1) := by decide +kernel
theorem dX4_person_65 : decode cX4_person 65 = .ok (.getfield 16, 3) := by decide +kernel
theorem dX4_person_68 : decode cX4_person 68 = .ok (.bipush 8, 2) := by decide +kernel
theorem dX4_person_70 : decode cX4_person 70 = .ok (.iconst 2, 1) := by decide +kernel
theorem dX4_person_71 : decode cX4_person 71 = .ok (.aload_n 0, 1) := by decide +kernel
theorem dX4_person_72 : decode cX4_person 72 = .ok (.getfield 16, 3) := by decide +kernel
theorem dX4_person_75 : decode cX4_person 75 = .ok (.iconst 0, 1) := by decide +kernel
theorem dX4_person_76 : decode cX4_person 76 = .ok (.iaload, 1) := by decide +kernel
theorem dX4_person_77 : decode cX4_person 77 = .ok (.imul, 1) := by decide +kernel
theorem dX4_person_78 : decode cX4_person 78 = .ok (.iadd, 1) := by decide +kernel
theorem dX4_person_79 : decode cX4_person 79 = .ok (.iconst 1, 1) := by decide +kernel
theorem dX4_person_80 : decode cX4_person 80 = .ok (.iadd, 1) := by decide +kernel
theorem dX4_person_81 : decode cX4_person 81 = .ok (.aload_n 0, 1) := by decide +kernel
theorem dX4_person_82 : decode cX4_person 82 = .ok (.getfield 37, 3) := by decide +kernel
theorem dX4_person_85 : decode cX4_person 85 = .ok (.iconst 1, 1) := by decide +kernel
theorem dX4_person_86 : decode cX4_person 86 = .ok (.iaload, 1) := by decide +kernel
theorem dX4_person_87 : decode cX4_person 87 = .ok (.iastore, 1) := by decide +kernel
theorem dX4_person_88 : decode cX4_person 88 = .ok (.aload_n 0, 1) := by decide +kernel
theorem dX4_person_89 : decode cX4_person 89 = .ok (.getfield 16, 3) := by decide +kernel
theorem dX4_person_92 : decode cX4_person 92 = .ok (.iconst 0, 1) := by decide +kernel
theorem dX4_person_93 : decode cX4_person 93 = .ok (.dup2, 1) := by decide +kernel
theorem dX4_person_94 : decode cX4_person 94 = .ok (.iaload, 1) := by decide +kernel
theorem dX4_person_95 : decode cX4_person 95 = .ok (.iconst 1, 1) := by decide +kernel
theorem dX4_person_96 : decode cX4_person 96 = .ok (.iadd, 1) := by decide +kernel
theorem dX4_person_97 : decode cX4_person 97 = .ok (.iastore, 1) := by decide +kernel
theorem dX4_person_98 : decode cX4_person 98 = .ok (.iconst 1, 1) := by decide +kernel
theorem dX4_person_99 : decode cX4_person 99 = .ok (.ireturn, 1) := by decide +kernel
theorem dX4_trade_0 : decode cX4_trade 0 = .ok (.iconst 0, 1) := by decide +kernel
theorem dX4_trade_1 : decode cX4_trade 1 = .ok (.istore_n 1, 1) := by decide +kernel
theorem dX4_trade_2 : decode cX4_trade 2 = .ok (.aload_n 0, 1) := by decide +kernel
theorem dX4_trade_3 : decode cX4_trade 3 = .ok (.getfield 16, 3) := by decide +kernel
theorem dX4_trade_6 : decode cX4_trade 6 = .ok (.iconst 1, 1) := by decide +kernel
theorem dX4_trade_7 : decode cX4_trade 7 = .ok (.iaload, 1) := by decide +kernel
theorem dX4_trade_8 : decode cX4_trade 8 = .ok (.iconst 4, 1) := by decide +kernel
theorem dX4_trade_9 : decode cX4_trade 9 = .ok (.if_icmp .ge 73, 3) := by decide +kernel
theorem dX4_trade_12 : decode cX4_trade 12 = .ok (.iload_n 1, 1) := by decide +kernel
theorem dX4_trade_13 : decode cX4_trade 13 = .ok (.bipush 8, 2) := by decide +kernel
theorem dX4_trade_15 : decode cX4_trade 15 = .ok (.if_icmp .ge 67, 3) := by decide +kernel
theorem dX4_trade_18 : decode cX4_trade 18 = .ok (.aload_n 0, 1) := by decide +kernel
theorem dX4_trade_19 : decode cX4_trade 19 = .ok (.aload_n 0, 1) := by decide +kernel
theorem dX4_trade_20 : decode cX4_trade 20 = .ok (.getfield 50, 3) := by decide +kernel
theorem dX4_trade_23 : decode cX4_trade 23 = .ok (.invokevirtual 53, 3) := by decide +kernel
theorem dX4_trade_26 : decode cX4_trade 26 = .ok (.bipush 48, 2) := by decide +kernel
theorem dX4_trade_28 : decode cX4_trade 28 = .ok (.bipush 53, 2) := by decide +kernel
theorem dX4_trade_30 : decode cX4_trade 30 = .ok (.invokestatic 40, 3) := by decide +kernel
theorem dX4_trade_33 : decode cX4_trade 33 = .ok (.ifCond .eq 49, 3) := by decide +kernel
theorem dX4_trade_36 : decode cX4_trade 36 = .ok (.aload_n 0, 1) := by decide +kernel
theorem dX4_trade_37 : decode cX4_trade 37 = .ok (.getfield 16, 3) := by decide +kernel
theorem dX4_trade_40 : decode cX4_trade 40 = .ok (.bipush 32, 2) := by decide +kernel
theorem dX4_trade_42 : decode cX4_trade 42 = .ok (.bipush 8, 2) := by decide +kernel
theorem dX4_trade_44 : decode cX4_trade 44 = .ok (.aload_n 0, 1) := by decide +kernel
theorem dX4_trade_45 : decode cX4_trade 45 = .ok (.getfield 16, 3) := by decide +kernel
theorem dX4_trade_48 : decode cX4_trade 48 = .ok (.iconst 1, 1) := by decide +kernel
theorem dX4_trade_49 : decode cX4_trade 49 = .ok (.iaload, 1) := by decide +kernel
theorem dX4_trade_50 : decode cX4_trade 50 = .ok (.imul, 1) := by decide +kernel
theorem dX4_trade_51 : decode cX4_trade 51 = .ok (.iadd, 1) := by decide +kernel
theorem dX4_trade_52 : decode cX4_trade 52 = .ok (.iload_n 1, 1) := by decide +kernel
theorem dX4_trade_53 : decode cX4_trade 53 = .ok (.iadd, 1) := by decide +kernel
theorem dX4_trade_54 : decode cX4_trade 54 = .ok (.aload_n 0, 1) := by decide +kernel
theorem dX4_trade_55 : decode cX4_trade 55 = .ok (.aload_n 0, 1) := by decide +kernel
theorem dX4_trade_56 : decode cX4_trade 56 = .ok (.getfield 50, 3) := by decide +kernel
theorem dX4_trade_59 : decode cX4_trade 59 = .ok (.invokevirtual 53, 3) := by decide +kernel
theorem dX4_trade_62 : decode cX4_trade 62 = .ok (.bipush 48, 2) := by decide +kernel
theorem dX4_trade_64 : decode cX4_trade 64 = .ok (.isub, 1) := by decide +kernel
theorem dX4_trade_65 : decode cX4_trade 65 = .ok (.iastore, 1) := by decide +kernel
theorem dX4_trade_66 : decode cX4_trade 66 = .ok (.aload_n 0, 1) := by decide +kernel
theorem dX4_trade_67 : decode cX4_trade 67 = .ok (.dup, 1) := by decide +kernel
theorem dX4_trade_68 : decode cX4_trade 68 = .ok (.getfield 50, 3) := by decide +kernel
theorem dX4_trade_71 : decode cX4_trade 71 = .ok (.iconst 1, 1) := by decide +kernel
theorem dX4_trade_72 : decode cX4_trade 72 = .ok (.iadd, 1) := by decide +kernel
theorem dX4_trade_73 : decode cX4_trade 73 = .ok (.putfield 50, 3) := by decide +kernel
theorem dX4_trade_76 : decode cX4_trade 76 = .ok (.iinc 1 1, 3) := by decide +kernel
theorem dX4_trade_79 : decode cX4_trade 79 = .ok (.goto (-77), 3) := by decide +kernel
theorem dX4_trade_82 : decode cX4_trade 82 = .ok (.iload_n 1, 1) := by decide +kernel
theorem dX4_trade_83 : decode cX4_trade 83 = .ok (.ifCond .eq 16, 3) := by decide +kernel
theorem dX4_trade_86 : decode cX4_trade 86 = .ok (.aload_n 0, 1) := by decide +kernel
theorem dX4_trade_87 : decode cX4_trade 87 = .ok (.aload_n 0, 1) := by decide +kernel
theorem dX4_trade_88 : decode cX4_trade 88 = .ok (.getfield 50, 3) := by decide +kernel
theorem dX4_trade_91 : decode cX4_trade 91 = .ok (.invokevirtual 53, 3) := by decide +kernel
theorem dX4_trade_94 : decode cX4_trade 94 = .ok (.bipush 59, 2) := by decide +kernel
theorem dX4_trade_96 : decode cX4_trade 96 = .ok (.if_icmp .eq 5, 3) := by decide +kernel
theorem dX4_trade_99 : decode cX4_trade 99 = .ok (.iconst 0, 1) := by decide +kernel
theorem dX4_trade_100 : decode cX4_trade 100 = .ok (.ireturn, 1) := by decide +kernel
theorem dX4_trade_101 : decode cX4_trade 101 = .ok (.aload_n 0, 1) := by decide +kernel
theorem dX4_trade_102 : decode cX4_trade 102 = .ok (.getfield 16, 3) := by decide +kernel
theorem dX4_trade_105 : decode cX4_trade 105 = .ok (.bipush 28, 2) := by decide +kernel
theorem dX4_trade_107 : decode cX4_trade 107 = .ok (.aload_n 0, 1) := by decide +kernel
theorem dX4_trade_108 : decode cX4_trade 108 = .ok (.getfield 16, 3) := by decide +kernel
theorem dX4_trade_111 : decode cX4_trade 111 = .ok (.iconst 1, 1) := by decide +kernel
theorem dX4_trade_112 : decode cX4_trade 112 = .ok (.iaload, 1) := by decide +kernel
theorem dX4_trade_113 : decode cX4_trade 113 = .ok (.iadd, 1) := by decide +kernel
theorem dX4_trade_114 : decode cX4_trade 114 = .ok (.iload_n 1, 1) := by decide +kernel
theorem dX4_trade_115 : decode cX4_trade 115 = .ok (.iastore, 1) := by decide +kernel
theorem dX4_trade_116 : decode cX4_trade 116 = .ok (.aload_n 0, 1) := by decide +kernel
theorem dX4_trade_117 : decode cX4_trade 117 = .ok (.getfield 16, 3) := by decide +kernel
theorem dX4_trade_120 : decode cX4_trade 120 = .ok (.iconst 1, 1) := by decide +kernel
theorem dX4_trade_121 : decode cX4_trade 121 = .ok (.dup2, 1) := by decide +kernel
theorem dX4_trade_122 : decode cX4_trade 122 = .ok (.iaload, 1) := by decide +kernel
theorem dX4_trade_123 : decode cX4_trade 123 = .ok (.iconst 1, 1) := by decide +kernel
theorem dX4_trade_124 : decode cX4_trade 124 = .ok (.iadd, 1) := by decide +kernel
theorem dX4_trade_125 : decode cX4_trade 125 = .ok (.iastore, 1) := by decide +kernel
theorem dX4_trade_126 : decode cX4_trade 126 = .ok (.aload_n 0, 1) := by decide +kernel
theorem dX4_trade_127 : decode cX4_trade 127 = .ok (.dup, 1) := by decide +kernel
theorem dX4_trade_128 : decode cX4_trade 128 = .ok (.getfield 50, 3) := by decide +kernel
theorem dX4_trade_131 : decode cX4_trade 131 = .ok (.iconst 1, 1) := by decide +kernel
theorem dX4_trade_132 : decode cX4_trade 132 = .ok (.iadd, 1) := by decide +kernel
theorem dX4_trade_133 : decode cX4_trade 133 = .ok (.putfield 50, 3) := by decide +kernel
theorem dX4_trade_136 : decode cX4_trade 136 = .ok (.iconst 1, 1) := by decide +kernel
theorem dX4_trade_137 : decode cX4_trade 137 = .ok (.ireturn, 1) := by decide +kernel
theorem dX4_isHalf_0 : decode cX4_isHalf 0 = .ok (.aload_n 0, 1) := by decide +kernel
theorem dX4_isHalf_1 : decode cX4_isHalf 1 = .ok (.getfield 37, 3) := by decide +kernel
theorem dX4_isHalf_4 : decode cX4_isHalf 4 = .ok (.iload_n 1, 1) := by decide +kernel
theorem dX4_isHalf_5 : decode cX4_isHalf 5 = .ok (.iaload, 1) := by decide +kernel
theorem dX4_isHalf_6 : decode cX4_isHalf 6 = .ok (.aload_n 0, 1) := by decide +kernel
theorem dX4_isHalf_7 : decode cX4_isHalf 7 = .ok (.getfield 16, 3) := by decide +kernel
theorem dX4_isHalf_10 : decode cX4_isHalf 10 = .ok (.iconst 0, 1) := by decide +kernel
theorem dX4_isHalf_11 : decode cX4_isHalf 11 = .ok (.iaload, 1) := by decide +kernel
theorem dX4_isHalf_12 : decode cX4_isHalf 12 = .ok (.if_icmp .ge 19, 3) := by decide +kernel
theorem dX4_isHalf_15 : decode cX4_isHalf 15 = .ok (.aload_n 0, 1) := by decide +kernel
theorem dX4_isHalf_16 : decode cX4_isHalf 16 = .ok (.getfield 37, 3) := by decide +kernel
theorem dX4_isHalf_19 : decode cX4_isHalf 19 = .ok (.iload_n 1, 1) := by decide +kernel
theorem dX4_isHalf_20 : decode cX4_isHalf 20 = .ok (.iconst 1, 1) := by decide +kernel
theorem dX4_isHalf_21 : decode cX4_isHalf 21 = .ok (.iadd, 1) := by decide +kernel
theorem dX4_isHalf_22 : decode cX4_isHalf 22 = .ok (.iaload, 1) := by decide +kernel
theorem dX4_isHalf_23 : decode cX4_isHalf 23 = .ok (.iconst 2, 1) := by decide +kernel
theorem dX4_isHalf_24 : decode cX4_isHalf 24 = .ok (.if_icmp .ge 7, 3) := by decide +kernel
theorem dX4_isHalf_27 : decode cX4_isHalf 27 = .ok (.iconst 1, 1) := by decide +kernel
theorem dX4_isHalf_28 : decode cX4_isHalf 28 = .ok (.goto 4, 3) := by decide +kernel
theorem dX4_isHalf_31 : decode cX4_isHalf 31 = .ok (.iconst 0, 1) := by decide +kernel
theorem dX4_isHalf_32 : decode cX4_isHalf 32 = .ok (.ireturn, 1) := by decide +kernel
theorem dX4_known_0 : decode cX4_known 0 = .ok (.aload_n 0, 1) := by decide +kernel
theorem dX4_known_1 : decode cX4_known 1 = .ok (.iconst 3, 1) := by decide +kernel
theorem dX4_known_2 : decode cX4_known 2 = .ok (.invokevirtual 61, 3) := by decide +kernel
theorem dX4_known_5 : decode cX4_known 5 = .ok (.ifCond .eq 23, 3) := by decide +kernel
theorem dX4_known_8 : decode cX4_known 8 = .ok (.aload_n 0, 1) := by decide +kernel
theorem dX4_known_9 : decode cX4_known 9 = .ok (.iconst 0, 1) := by decide +kernel
theorem dX4_known_10 : decode cX4_known 10 = .ok (.invokevirtual 65, 3) := by decide +kernel
theorem dX4_known_13 : decode cX4_known 13 = .ok (.ifCond .eq 15, 3) := by decide +kernel
theorem dX4_known_16 : decode cX4_known 16 = .ok (.aload_n 0, 1) := by decide +kernel
theorem dX4_known_17 : decode cX4_known 17 = .ok (.getfield 37, 3) := by decide +kernel
theorem dX4_known_20 : decode cX4_known 20 = .ok (.iconst 2, 1) := by decide +kernel
theorem dX4_known_21 : decode cX4_known 21 = .ok (.iaload, 1) := by decide +kernel
theorem dX4_known_22 : decode cX4_known 22 = .ok (.sipush 255, 3) := by decide +kernel
theorem dX4_known_25 : decode cX4_known 25 = .ok (.if_icmp .le 5, 3) := by decide +kernel
theorem dX4_known_28 : decode cX4_known 28 = .ok (.iconst 0, 1) := by decide +kernel
theorem dX4_known_29 : decode cX4_known 29 = .ok (.ireturn, 1) := by decide +kernel
theorem dX4_known_30 : decode cX4_known 30 = .ok (.aload_n 0, 1) := by decide +kernel
theorem dX4_known_31 : decode cX4_known 31 = .ok (.getfield 16, 3) := by decide +kernel
theorem dX4_known_34 : decode cX4_known 34 = .ok (.bipush 18, 2) := by decide +kernel
theorem dX4_known_36 : decode cX4_known 36 = .ok (.iconst 2, 1) := by decide +kernel
theorem dX4_known_37 : decode cX4_known 37 = .ok (.aload_n 0, 1) := by decide +kernel
theorem dX4_known_38 : decode cX4_known 38 = .ok (.getfield 37, 3) := by decide +kernel
theorem dX4_known_41 : decode cX4_known 41 = .ok (.iconst 0, 1) := by decide +kernel
theorem dX4_known_42 : decode cX4_known 42 = .ok (.iaload, 1) := by decide +kernel
theorem dX4_known_43 : decode cX4_known 43 = .ok (.imul, 1) := by decide +kernel
theorem dX4_known_44 : decode cX4_known 44 = .ok (.iadd, 1) := by decide +kernel
theorem dX4_known_45 : decode cX4_known 45 = .ok (.aload_n 0, 1) := by decide +kernel
theorem dX4_known_46 : decode cX4_known 46 = .ok (.getfield 37, 3) := by decide +kernel
theorem dX4_known_49 : decode cX4_known 49 = .ok (.iconst 1, 1) := by decide +kernel
theorem dX4_known_50 : decode cX4_known 50 = .ok (.iaload, 1) := by decide +kernel
theorem dX4_known_51 : decode cX4_known 51 = .ok (.iadd, 1) := by decide +kernel
theorem dX4_known_52 : decode cX4_known 52 = .ok (.aload_n 0, 1) := by decide +kernel
theorem dX4_known_53 : decode cX4_known 53 = .ok (.getfield 37, 3) := by decide +kernel
theorem dX4_known_56 : decode cX4_known 56 = .ok (.iconst 2, 1) := by decide +kernel
theorem dX4_known_57 : decode cX4_known 57 = .ok (.iaload, 1) := by decide +kernel
theorem dX4_known_58 : decode cX4_known 58 = .ok (.iastore, 1) := by decide +kernel
theorem dX4_known_59 : decode cX4_known 59 = .ok (.iconst 1, 1) := by decide +kernel
theorem dX4_known_60 : decode cX4_known 60 = .ok (.ireturn, 1) := by decide +kernel
theorem dX4_married_0 : decode cX4_married 0 = .ok (.aload_n 0, 1) := by decide +kernel
theorem dX4_married_1 : decode cX4_married 1 = .ok (.getfield 16, 3) := by decide +kernel
theorem dX4_married_4 : decode cX4_married 4 = .ok (.iconst 2, 1) := by decide +kernel
theorem dX4_married_5 : decode cX4_married 5 = .ok (.iaload, 1) := by decide +kernel
theorem dX4_married_6 : decode cX4_married 6 = .ok (.bipush 8, 2) := by decide +kernel
theorem dX4_married_8 : decode cX4_married 8 = .ok (.if_icmp .eq 42, 3) := by decide +kernel
theorem dX4_married_11 : decode cX4_married 11 = .ok (.aload_n 0, 1) := by decide +kernel
theorem dX4_married_12 : decode cX4_married 12 = .ok (.iconst 4, 1) := by decide +kernel
theorem dX4_married_13 : decode cX4_married 13 = .ok (.invokevirtual 61, 3) := by decide +kernel
theorem dX4_married_16 : decode cX4_married 16 = .ok (.ifCond .eq 34, 3) := by decide +kernel
theorem dX4_married_19 : decode cX4_married 19 = .ok (.aload_n 0, 1) := by decide +kernel
theorem dX4_married_20 : decode cX4_married 20 = .ok (.iconst 0, 1) := by decide +kernel
theorem dX4_married_21 : decode cX4_married 21 = .ok (.invokevirtual 65, 3) := by decide +kernel
theorem dX4_married_24 : decode cX4_married 24 = .ok (.ifCond .eq 26, 3) := by decide +kernel
theorem dX4_married_27 : decode cX4_married 27 = .ok (.aload_n 0, 1) := by decide +kernel
theorem dX4_married_28 : decode cX4_married 28 = .ok (.iconst 2, 1) := by decide +kernel
theorem dX4_married_29 : decode cX4_married 29 = .ok (.invokevirtual 65, 3) := by decide +kernel
theorem dX4_married_32 : decode cX4_married 32 = .ok (.ifCond .eq 18, 3) := by decide +kernel
theorem dX4_married_35 : decode cX4_married 35 = .ok (.aload_n 0, 1) := by decide +kernel
theorem dX4_married_36 : decode cX4_married 36 = .ok (.getfield 37, 3) := by decide +kernel
theorem dX4_married_39 : decode cX4_married 39 = .ok (.iconst 0, 1) := by decide +kernel
theorem dX4_married_40 : decode cX4_married 40 = .ok (.iaload, 1) := by decide +kernel
theorem dX4_married_41 : decode cX4_married 41 = .ok (.aload_n 0, 1) := by decide +kernel
theorem dX4_married_42 : decode cX4_married 42 = .ok (.getfield 37, 3) := by decide +kernel
theorem dX4_married_45 : decode cX4_married 45 = .ok (.iconst 2, 1) := by decide +kernel
theorem dX4_married_46 : decode cX4_married 46 = .ok (.iaload, 1) := by decide +kernel
theorem dX4_married_47 : decode cX4_married 47 = .ok (.if_icmp .ne 5, 3) := by decide +kernel
theorem dX4_married_50 : decode cX4_married 50 = .ok (.iconst 0, 1) := by decide +kernel
theorem dX4_married_51 : decode cX4_married 51 = .ok (.ireturn, 1) := by decide +kernel
theorem dX4_married_52 : decode cX4_married 52 = .ok (.aload_n 0, 1) := by decide +kernel
theorem dX4_married_53 : decode cX4_married 53 = .ok (.getfield 16, 3) := by decide +kernel
theorem dX4_married_56 : decode cX4_married 56 = .ok (.bipush 64, 2) := by decide +kernel
theorem dX4_married_58 : decode cX4_married 58 = .ok (.iconst 2, 1) := by decide +kernel
theorem dX4_married_59 : decode cX4_married 59 = .ok (.aload_n 0, 1) := by decide +kernel
theorem dX4_married_60 : decode cX4_married 60 = .ok (.getfield 16, 3) := by decide +kernel
theorem dX4_married_63 : decode cX4_married 63 = .ok (.iconst 2, 1) := by decide +kernel
theorem dX4_married_64 : decode cX4_married 64 = .ok (.iaload, 1) := by decide +kernel
theorem dX4_married_65 : decode cX4_married 65 = .ok (.imul, 1) := by decide +kernel
theorem dX4_married_66 : decode cX4_married 66 = .ok (.iadd, 1) := by decide +kernel
theorem dX4_married_67 : decode cX4_married 67 = .ok (.iconst 2, 1) := by decide +kernel
theorem dX4_married_68 : decode cX4_married 68 = .ok (.aload_n 0, 1) := by decide +kernel
theorem dX4_married_69 : decode cX4_married 69 = .ok (.getfield 37, 3) := by decide +kernel
theorem dX4_married_72 : decode cX4_married 72 = .ok (.iconst 0, 1) := by decide +kernel
theorem dX4_married_73 : decode cX4_married 73 = .ok (.iaload, 1) := by decide +kernel
theorem dX4_married_74 : decode cX4_married 74 = .ok (.imul, 1) := by decide +kernel
theorem dX4_married_75 : decode cX4_married 75 = .ok (.aload_n 0, 1) := by decide +kernel
theorem dX4_married_76 : decode cX4_married 76 = .ok (.getfield 37, 3) := by decide +kernel
theorem dX4_married_79 : decode cX4_married 79 = .ok (.iconst 1, 1) := by decide +kernel
theorem dX4_married_80 : decode cX4_married 80 = .ok (.iaload, 1) := by decide +kernel
theorem dX4_married_81 : decode cX4_married 81 = .ok (.iadd, 1) := by decide +kernel
theorem dX4_married_82 : decode cX4_married 82 = .ok (.iastore, 1) := by decide +kernel
theorem dX4_married_83 : decode cX4_married 83 = .ok (.aload_n 0, 1) := by decide +kernel
theorem dX4_married_84 : decode cX4_married 84 = .ok (.getfield 16, 3) := by decide +kernel
theorem dX4_married_87 : decode cX4_married 87 = .ok (.bipush 64, 2) := by decide +kernel
theorem dX4_married_89 : decode cX4_married 89 = .ok (.iconst 2, 1) := by decide +kernel
theorem dX4_married_90 : decode cX4_married 90 = .ok (.aload_n 0, 1) := by decide +kernel
theorem dX4_married_91 : decode cX4_married 91 = .ok (.getfield 16, 3) := by decide +kernel
theorem dX4_married_94 : decode cX4_married 94 = .ok (.iconst 2, 1) := by decide +kernel
theorem dX4_married_95 : decode cX4_married 95 = .ok (.iaload, 1) := by decide +kernel
theorem dX4_married_96 : decode cX4_married 96 = .ok (.imul, 1) := by decide +kernel
theorem dX4_married_97 : decode cX4_married 97 = .ok (.iadd, 1) := by decide +kernel
theorem dX4_married_98 : decode cX4_married 98 = .ok (.iconst 1, 1) := by decide +kernel
theorem dX4_married_99 : decode cX4_married 99 = .ok (.iadd, 1) := by decide +kernel
theorem dX4_married_100 : decode cX4_married 100 = .ok (.iconst 2, 1) := by decide +kernel
theorem dX4_married_101 : decode cX4_married 101 = .ok (.aload_n 0, 1) := by decide +kernel
theorem dX4_married_102 : decode cX4_married 102 = .ok (.getfield 37, 3) := by decide +kernel
theorem dX4_married_105 : decode cX4_married 105 = .ok (.iconst 2, 1) := by decide +kernel
theorem dX4_married_106 : decode cX4_married 106 = .ok (.iaload, 1) := by decide +kernel
theorem dX4_married_107 : decode cX4_married 107 = .ok (.imul, 1) := by decide +kernel
theorem dX4_married_108 : decode cX4_married 108 = .ok (.aload_n 0, 1) := by decide +kernel
theorem dX4_married_109 : decode cX4_married 109 = .ok (.getfield 37, 3) := by decide +kernel
theorem dX4_married_112 : decode cX4_married 112 = .ok (.iconst 3, 1) := by decide +kernel
theorem dX4_married_113 : decode cX4_married 113 = .ok (.iaload, 1) := by decide +kernel
theorem dX4_married_114 : decode cX4_married 114 = .ok (.iadd, 1) := by decide +kernel
theorem dX4_married_115 : decode cX4_married 115 = .ok (.iastore, 1) := by decide +kernel
theorem dX4_married_116 : decode cX4_married 116 = .ok (.aload_n 0, 1) := by decide +kernel
theorem dX4_married_117 : decode cX4_married 117 = .ok (.getfield 16, 3) := by decide +kernel
theorem dX4_married_120 : decode cX4_married 120 = .ok (.iconst 2, 1) := by decide +kernel
theorem dX4_married_121 : decode cX4_married 121 = .ok (.dup2, 1) := by decide +kernel
theorem dX4_married_122 : decode cX4_married 122 = .ok (.iaload, 1) := by decide +kernel
theorem dX4_married_123 : decode cX4_married 123 = .ok (.iconst 1, 1) := by decide +kernel
theorem dX4_married_124 : decode cX4_married 124 = .ok (.iadd, 1) := by decide +kernel
theorem dX4_married_125 : decode cX4_married 125 = .ok (.iastore, 1) := by decide +kernel
theorem dX4_married_126 : decode cX4_married 126 = .ok (.iconst 1, 1) := by decide +kernel
theorem dX4_married_127 : decode cX4_married 127 = .ok (.ireturn, 1) := by decide +kernel
theorem dX4_pursed_0 : decode cX4_pursed 0 = .ok (.aload_n 0, 1) := by decide +kernel
theorem dX4_pursed_1 : decode cX4_pursed 1 = .ok (.iconst 3, 1) := by decide +kernel
theorem dX4_pursed_2 : decode cX4_pursed 2 = .ok (.invokevirtual 61, 3) := by decide +kernel
theorem dX4_pursed_5 : decode cX4_pursed 5 = .ok (.ifCond .eq 44, 3) := by decide +kernel
theorem dX4_pursed_8 : decode cX4_pursed 8 = .ok (.aload_n 0, 1) := by decide +kernel
theorem dX4_pursed_9 : decode cX4_pursed 9 = .ok (.getfield 37, 3) := by decide +kernel
theorem dX4_pursed_12 : decode cX4_pursed 12 = .ok (.iconst 0, 1) := by decide +kernel
theorem dX4_pursed_13 : decode cX4_pursed 13 = .ok (.iaload, 1) := by decide +kernel
theorem dX4_pursed_14 : decode cX4_pursed 14 = .ok (.bipush 20, 2) := by decide +kernel
theorem dX4_pursed_16 : decode cX4_pursed 16 = .ok (.if_icmp .gt 33, 3) := by decide +kernel
theorem dX4_pursed_19 : decode cX4_pursed 19 = .ok (.aload_n 0, 1) := by decide +kernel
theorem dX4_pursed_20 : decode cX4_pursed 20 = .ok (.getfield 37, 3) := by decide +kernel
theorem dX4_pursed_23 : decode cX4_pursed 23 = .ok (.iconst 1, 1) := by decide +kernel
theorem dX4_pursed_24 : decode cX4_pursed 24 = .ok (.iaload, 1) := by decide +kernel
theorem dX4_pursed_25 : decode cX4_pursed 25 = .ok (.iconst 1, 1) := by decide +kernel
theorem dX4_pursed_26 : decode cX4_pursed 26 = .ok (.bipush 9, 2) := by decide +kernel
theorem dX4_pursed_28 : decode cX4_pursed 28 = .ok (.invokestatic 40, 3) := by decide +kernel
theorem dX4_pursed_31 : decode cX4_pursed 31 = .ok (.ifCond .eq 18, 3) := by decide +kernel
theorem dX4_pursed_34 : decode cX4_pursed 34 = .ok (.aload_n 0, 1) := by decide +kernel
theorem dX4_pursed_35 : decode cX4_pursed 35 = .ok (.getfield 37, 3) := by decide +kernel
theorem dX4_pursed_38 : decode cX4_pursed 38 = .ok (.iconst 2, 1) := by decide +kernel
theorem dX4_pursed_39 : decode cX4_pursed 39 = .ok (.iaload, 1) := by decide +kernel
theorem dX4_pursed_40 : decode cX4_pursed 40 = .ok (.iconst 1, 1) := by decide +kernel
theorem dX4_pursed_41 : decode cX4_pursed 41 = .ok (.bipush 9, 2) := by decide +kernel
theorem dX4_pursed_43 : decode cX4_pursed 43 = .ok (.invokestatic 40, 3) := by decide +kernel
theorem dX4_pursed_46 : decode cX4_pursed 46 = .ok (.ifCond .ne 5, 3) := by decide +kernel
theorem dX4_pursed_49 : decode cX4_pursed 49 = .ok (.iconst 0, 1) := by decide +kernel
theorem dX4_pursed_50 : decode cX4_pursed 50 = .ok (.ireturn, 1) := by decide +kernel
theorem dX4_pursed_51 : decode cX4_pursed 51 = .ok (.aload_n 0, 1) := by decide +kernel
theorem dX4_pursed_52 : decode cX4_pursed 52 = .ok (.getfield 16, 3) := by decide +kernel
theorem dX4_pursed_55 : decode cX4_pursed 55 = .ok (.iconst 5, 1) := by decide +kernel
theorem dX4_pursed_56 : decode cX4_pursed 56 = .ok (.aload_n 0, 1) := by decide +kernel
theorem dX4_pursed_57 : decode cX4_pursed 57 = .ok (.getfield 37, 3) := by decide +kernel
theorem dX4_pursed_60 : decode cX4_pursed 60 = .ok (.iconst 0, 1) := by decide +kernel
theorem dX4_pursed_61 : decode cX4_pursed 61 = .ok (.iaload, 1) := by decide +kernel
theorem dX4_pursed_62 : decode cX4_pursed 62 = .ok (.iastore, 1) := by decide +kernel
theorem dX4_pursed_63 : decode cX4_pursed 63 = .ok (.aload_n 0, 1) := by decide +kernel
theorem dX4_pursed_64 : decode cX4_pursed 64 = .ok (.getfield 16, 3) := by decide +kernel
theorem dX4_pursed_67 : decode cX4_pursed 67 = .ok (.bipush 6, 2) := by decide +kernel
theorem dX4_pursed_69 : decode cX4_pursed 69 = .ok (.aload_n 0, 1) := by decide +kernel
theorem dX4_pursed_70 : decode cX4_pursed 70 = .ok (.getfield 37, 3) := by decide +kernel
theorem dX4_pursed_73 : decode cX4_pursed 73 = .ok (.iconst 1, 1) := by decide +kernel
theorem dX4_pursed_74 : decode cX4_pursed 74 = .ok (.iaload, 1) := by decide +kernel
theorem dX4_pursed_75 : decode cX4_pursed 75 = .ok (.iastore, 1) := by decide +kernel
theorem dX4_pursed_76 : decode cX4_pursed 76 = .ok (.aload_n 0, 1) := by decide +kernel
theorem dX4_pursed_77 : decode cX4_pursed 77 = .ok (.getfield 16, 3) := by decide +kernel
theorem dX4_pursed_80 : decode cX4_pursed 80 = .ok (.bipush 7, 2) := by decide +kernel
theorem dX4_pursed_82 : decode cX4_pursed 82 = .ok (.aload_n 0, 1) := by decide +kernel
theorem dX4_pursed_83 : decode cX4_pursed 83 = .ok (.getfield 37, 3) := by decide +kernel
theorem dX4_pursed_86 : decode cX4_pursed 86 = .ok (.iconst 2, 1) := by decide +kernel
theorem dX4_pursed_87 : decode cX4_pursed 87 = .ok (.iaload, 1) := by decide +kernel
theorem dX4_pursed_88 : decode cX4_pursed 88 = .ok (.iastore, 1) := by decide +kernel
theorem dX4_pursed_89 : decode cX4_pursed 89 = .ok (.iconst 1, 1) := by decide +kernel
theorem dX4_pursed_90 : decode cX4_pursed 90 = .ok (.ireturn, 1) := by decide +kernel
theorem dX4_one_0 : decode cX4_one 0 = .ok (.aload_n 0, 1) := by decide +kernel
theorem dX4_one_1 : decode cX4_one 1 = .ok (.iconst 1, 1) := by decide +kernel
theorem dX4_one_2 : decode cX4_one 2 = .ok (.invokevirtual 61, 3) := by decide +kernel
theorem dX4_one_5 : decode cX4_one 5 = .ok (.ifCond .eq 17, 3) := by decide +kernel
theorem dX4_one_8 : decode cX4_one 8 = .ok (.aload_n 0, 1) := by decide +kernel
theorem dX4_one_9 : decode cX4_one 9 = .ok (.getfield 37, 3) := by decide +kernel
theorem dX4_one_12 : decode cX4_one 12 = .ok (.iconst 0, 1) := by decide +kernel
theorem dX4_one_13 : decode cX4_one 13 = .ok (.iaload, 1) := by decide +kernel
theorem dX4_one_14 : decode cX4_one 14 = .ok (.iload_n 2, 1) := by decide +kernel
theorem dX4_one_15 : decode cX4_one 15 = .ok (.iload_n 3, 1) := by decide +kernel
theorem dX4_one_16 : decode cX4_one 16 = .ok (.invokestatic 40, 3) := by decide +kernel
theorem dX4_one_19 : decode cX4_one 19 = .ok (.ifCond .ne 5, 3) := by decide +kernel
theorem dX4_one_22 : decode cX4_one 22 = .ok (.iconst 0, 1) := by decide +kernel
theorem dX4_one_23 : decode cX4_one 23 = .ok (.ireturn, 1) := by decide +kernel
theorem dX4_one_24 : decode cX4_one 24 = .ok (.aload_n 0, 1) := by decide +kernel
theorem dX4_one_25 : decode cX4_one 25 = .ok (.getfield 16, 3) := by decide +kernel
theorem dX4_one_28 : decode cX4_one 28 = .ok (.iload_n 1, 1) := by decide +kernel
theorem dX4_one_29 : decode cX4_one 29 = .ok (.aload_n 0, 1) := by decide +kernel
theorem dX4_one_30 : decode cX4_one 30 = .ok (.getfield 37, 3) := by decide +kernel
theorem dX4_one_33 : decode cX4_one 33 = .ok (.iconst 0, 1) := by decide +kernel
theorem dX4_one_34 : decode cX4_one 34 = .ok (.iaload, 1) := by decide +kernel
theorem dX4_one_35 : decode cX4_one 35 = .ok (.iastore, 1) := by decide +kernel
theorem dX4_one_36 : decode cX4_one 36 = .ok (.iconst 1, 1) := by decide +kernel
theorem dX4_one_37 : decode cX4_one 37 = .ok (.ireturn, 1) := by decide +kernel
theorem dX4_item_0 : decode cX4_item 0 = .ok (.aload_n 0, 1) := by decide +kernel
theorem dX4_item_1 : decode cX4_item 1 = .ok (.aload_n 0, 1) := by decide +kernel
theorem dX4_item_2 : decode cX4_item 2 = .ok (.getfield 50, 3) := by decide +kernel
theorem dX4_item_5 : decode cX4_item 5 = .ok (.invokevirtual 53, 3) := by decide +kernel
theorem dX4_item_8 : decode cX4_item 8 = .ok (.istore_n 1, 1) := by decide +kernel
theorem dX4_item_9 : decode cX4_item 9 = .ok (.aload_n 0, 1) := by decide +kernel
theorem dX4_item_10 : decode cX4_item 10 = .ok (.dup, 1) := by decide +kernel
theorem dX4_item_11 : decode cX4_item 11 = .ok (.getfield 50, 3) := by decide +kernel
theorem dX4_item_14 : decode cX4_item 14 = .ok (.iconst 1, 1) := by decide +kernel
theorem dX4_item_15 : decode cX4_item 15 = .ok (.iadd, 1) := by decide +kernel
theorem dX4_item_16 : decode cX4_item 16 = .ok (.putfield 50, 3) := by decide +kernel
theorem dX4_item_19 : decode cX4_item 19 = .ok (.iload_n 1, 1) := by decide +kernel
theorem dX4_item_20 : decode cX4_item 20 = .ok (.tableswitch 135 99 117 #[102, 135, 135, 135, 135, 135, 135, 97, 120, 135, 125, 111, 135, 92, 135, 135, 135, 135, 130], 92) := by decide +kernel
theorem dX4_item_112 : decode cX4_item 112 = .ok (.aload_n 0, 1) := by decide +kernel
theorem dX4_item_113 : decode cX4_item 113 = .ok (.invokevirtual 68, 3) := by decide +kernel
theorem dX4_item_116 : decode cX4_item 116 = .ok (.ireturn, 1) := by decide +kernel
theorem dX4_item_117 : decode cX4_item 117 = .ok (.aload_n 0, 1) := by decide +kernel
theorem dX4_item_118 : decode cX4_item 118 = .ok (.invokevirtual 71, 3) := by decide +kernel
theorem dX4_item_121 : decode cX4_item 121 = .ok (.ireturn, 1) := by decide +kernel
theorem dX4_item_122 : decode cX4_item 122 = .ok (.aload_n 0, 1) := by decide +kernel
theorem dX4_item_123 : decode cX4_item 123 = .ok (.iconst 3, 1) := by decide +kernel
theorem dX4_item_124 : decode cX4_item 124 = .ok (.iconst 1, 1) := by decide +kernel
theorem dX4_item_125 : decode cX4_item 125 = .ok (.bipush 8, 2) := by decide +kernel
theorem dX4_item_127 : decode cX4_item 127 = .ok (.invokevirtual 74, 3) := by decide +kernel
theorem dX4_item_130 : decode cX4_item 130 = .ok (.ireturn, 1) := by decide +kernel
theorem dX4_item_131 : decode cX4_item 131 = .ok (.aload_n 0, 1) := by decide +kernel
theorem dX4_item_132 : decode cX4_item 132 = .ok (.iconst 4, 1) := by decide +kernel
theorem dX4_item_133 : decode cX4_item 133 = .ok (.iconst 0, 1) := by decide +kernel
theorem dX4_item_134 : decode cX4_item 134 = .ok (.bipush 8, 2) := by decide +kernel
theorem dX4_item_136 : decode cX4_item 136 = .ok (.invokevirtual 74, 3) := by decide +kernel
theorem dX4_item_139 : decode cX4_item 139 = .ok (.ireturn, 1) := by decide +kernel
theorem dX4_item_140 : decode cX4_item 140 = .ok (.aload_n 0, 1) := by decide +kernel
theorem dX4_item_141 : decode cX4_item 141 = .ok (.invokevirtual 77, 3) := by decide +kernel
theorem dX4_item_144 : decode cX4_item 144 = .ok (.ireturn, 1) := by decide +kernel
theorem dX4_item_145 : decode cX4_item 145 = .ok (.aload_n 0, 1) := by decide +kernel
theorem dX4_item_146 : decode cX4_item 146 = .ok (.invokevirtual 80, 3) := by decide +kernel
theorem dX4_item_149 : decode cX4_item 149 = .ok (.ireturn, 1) := by decide +kernel
theorem dX4_item_150 : decode cX4_item 150 = .ok (.aload_n 0, 1) := by decide +kernel
theorem dX4_item_151 : decode cX4_item 151 = .ok (.invokevirtual 83, 3) := by decide +kernel
theorem dX4_item_154 : decode cX4_item 154 = .ok (.ireturn, 1) := by decide +kernel
theorem dX4_item_155 : decode cX4_item 155 = .ok (.iconst 0, 1) := by decide +kernel
theorem dX4_item_156 : decode cX4_item 156 = .ok (.ireturn, 1) := by decide +kernel
theorem dX4_reads_0 : decode cX4_reads 0 = .ok (.iconst 0, 1) := by decide +kernel
theorem dX4_reads_1 : decode cX4_reads 1 = .ok (.istore_n 1, 1) := by decide +kernel
theorem dX4_reads_2 : decode cX4_reads 2 = .ok (.iload_n 1, 1) := by decide +kernel
theorem dX4_reads_3 : decode cX4_reads 3 = .ok (.bipush 80, 2) := by decide +kernel
theorem dX4_reads_5 : decode cX4_reads 5 = .ok (.if_icmp .ge 16, 3) := by decide +kernel
theorem dX4_reads_8 : decode cX4_reads 8 = .ok (.aload_n 0, 1) := by decide +kernel
theorem dX4_reads_9 : decode cX4_reads 9 = .ok (.getfield 16, 3) := by decide +kernel
theorem dX4_reads_12 : decode cX4_reads 12 = .ok (.iload_n 1, 1) := by decide +kernel
theorem dX4_reads_13 : decode cX4_reads 13 = .ok (.iconst 0, 1) := by decide +kernel
theorem dX4_reads_14 : decode cX4_reads 14 = .ok (.iastore, 1) := by decide +kernel
theorem dX4_reads_15 : decode cX4_reads 15 = .ok (.iinc 1 1, 3) := by decide +kernel
theorem dX4_reads_18 : decode cX4_reads 18 = .ok (.goto (-16), 3) := by decide +kernel
theorem dX4_reads_21 : decode cX4_reads 21 = .ok (.aload_n 0, 1) := by decide +kernel
theorem dX4_reads_22 : decode cX4_reads 22 = .ok (.getfield 16, 3) := by decide +kernel
theorem dX4_reads_25 : decode cX4_reads 25 = .ok (.iconst 3, 1) := by decide +kernel
theorem dX4_reads_26 : decode cX4_reads 26 = .ok (.iconst 3, 1) := by decide +kernel
theorem dX4_reads_27 : decode cX4_reads 27 = .ok (.iastore, 1) := by decide +kernel
theorem dX4_reads_28 : decode cX4_reads 28 = .ok (.aload_n 0, 1) := by decide +kernel
theorem dX4_reads_29 : decode cX4_reads 29 = .ok (.getfield 16, 3) := by decide +kernel
theorem dX4_reads_32 : decode cX4_reads 32 = .ok (.iconst 4, 1) := by decide +kernel
theorem dX4_reads_33 : decode cX4_reads 33 = .ok (.iconst 2, 1) := by decide +kernel
theorem dX4_reads_34 : decode cX4_reads 34 = .ok (.iastore, 1) := by decide +kernel
theorem dX4_reads_35 : decode cX4_reads 35 = .ok (.aload_n 0, 1) := by decide +kernel
theorem dX4_reads_36 : decode cX4_reads 36 = .ok (.getfield 16, 3) := by decide +kernel
theorem dX4_reads_39 : decode cX4_reads 39 = .ok (.iconst 5, 1) := by decide +kernel
theorem dX4_reads_40 : decode cX4_reads 40 = .ok (.bipush 9, 2) := by decide +kernel
theorem dX4_reads_42 : decode cX4_reads 42 = .ok (.iastore, 1) := by decide +kernel
theorem dX4_reads_43 : decode cX4_reads 43 = .ok (.aload_n 0, 1) := by decide +kernel
theorem dX4_reads_44 : decode cX4_reads 44 = .ok (.getfield 16, 3) := by decide +kernel
theorem dX4_reads_47 : decode cX4_reads 47 = .ok (.bipush 6, 2) := by decide +kernel
theorem dX4_reads_49 : decode cX4_reads 49 = .ok (.iconst 1, 1) := by decide +kernel
theorem dX4_reads_50 : decode cX4_reads 50 = .ok (.iastore, 1) := by decide +kernel
theorem dX4_reads_51 : decode cX4_reads 51 = .ok (.aload_n 0, 1) := by decide +kernel
theorem dX4_reads_52 : decode cX4_reads 52 = .ok (.getfield 16, 3) := by decide +kernel
theorem dX4_reads_55 : decode cX4_reads 55 = .ok (.bipush 7, 2) := by decide +kernel
theorem dX4_reads_57 : decode cX4_reads 57 = .ok (.iconst 1, 1) := by decide +kernel
theorem dX4_reads_58 : decode cX4_reads 58 = .ok (.iastore, 1) := by decide +kernel
theorem dX4_reads_59 : decode cX4_reads 59 = .ok (.aload_n 0, 1) := by decide +kernel
theorem dX4_reads_60 : decode cX4_reads 60 = .ok (.iconst 0, 1) := by decide +kernel
theorem dX4_reads_61 : decode cX4_reads 61 = .ok (.putfield 50, 3) := by decide +kernel
theorem dX4_reads_64 : decode cX4_reads 64 = .ok (.aload_n 0, 1) := by decide +kernel
theorem dX4_reads_65 : decode cX4_reads 65 = .ok (.getfield 50, 3) := by decide +kernel
theorem dX4_reads_68 : decode cX4_reads 68 = .ok (.aload_n 0, 1) := by decide +kernel
theorem dX4_reads_69 : decode cX4_reads 69 = .ok (.getfield 44, 3) := by decide +kernel
theorem dX4_reads_72 : decode cX4_reads 72 = .ok (.if_icmp .ge 20, 3) := by decide +kernel
theorem dX4_reads_75 : decode cX4_reads 75 = .ok (.aload_n 0, 1) := by decide +kernel
theorem dX4_reads_76 : decode cX4_reads 76 = .ok (.getfield 50, 3) := by decide +kernel
theorem dX4_reads_79 : decode cX4_reads 79 = .ok (.istore_n 1, 1) := by decide +kernel
theorem dX4_reads_80 : decode cX4_reads 80 = .ok (.aload_n 0, 1) := by decide +kernel
theorem dX4_reads_81 : decode cX4_reads 81 = .ok (.invokevirtual 86, 3) := by decide +kernel
theorem dX4_reads_84 : decode cX4_reads 84 = .ok (.ifCond .ne 5, 3) := by decide +kernel
theorem dX4_reads_87 : decode cX4_reads 87 = .ok (.iload_n 1, 1) := by decide +kernel
theorem dX4_reads_88 : decode cX4_reads 88 = .ok (.ireturn, 1) := by decide +kernel
theorem dX4_reads_89 : decode cX4_reads 89 = .ok (.goto (-25), 3) := by decide +kernel
theorem dX4_reads_92 : decode cX4_reads 92 = .ok (.bipush (-4), 2) := by decide +kernel
theorem dX4_reads_94 : decode cX4_reads 94 = .ok (.ireturn, 1) := by decide +kernel
theorem dX4_fault_0 : decode cX4_fault 0 = .ok (.aload_n 0, 1) := by decide +kernel
theorem dX4_fault_1 : decode cX4_fault 1 = .ok (.invokevirtual 89, 3) := by decide +kernel
theorem dX4_fault_4 : decode cX4_fault 4 = .ok (.ireturn, 1) := by decide +kernel
theorem dX4_lay_0 : decode cX4_lay 0 = .ok (.aload_n 0, 1) := by decide +kernel
theorem dX4_lay_1 : decode cX4_lay 1 = .ok (.invokevirtual 89, 3) := by decide +kernel
theorem dX4_lay_4 : decode cX4_lay 4 = .ok (.bipush (-4), 2) := by decide +kernel
theorem dX4_lay_6 : decode cX4_lay 6 = .ok (.if_icmp .ne 12, 3) := by decide +kernel
theorem dX4_lay_9 : decode cX4_lay 9 = .ok (.aload_n 0, 1) := by decide +kernel
theorem dX4_lay_10 : decode cX4_lay 10 = .ok (.getfield 16, 3) := by decide +kernel
theorem dX4_lay_13 : decode cX4_lay 13 = .ok (.iconst 0, 1) := by decide +kernel
theorem dX4_lay_14 : decode cX4_lay 14 = .ok (.iaload, 1) := by decide +kernel
theorem dX4_lay_15 : decode cX4_lay 15 = .ok (.ifCond .ne 6, 3) := by decide +kernel
theorem dX4_lay_18 : decode cX4_lay 18 = .ok (.bipush (-2), 2) := by decide +kernel
theorem dX4_lay_20 : decode cX4_lay 20 = .ok (.ireturn, 1) := by decide +kernel
theorem dX4_lay_21 : decode cX4_lay 21 = .ok (.iconst 0, 1) := by decide +kernel
theorem dX4_lay_22 : decode cX4_lay 22 = .ok (.istore_n 1, 1) := by decide +kernel
theorem dX4_lay_23 : decode cX4_lay 23 = .ok (.iload_n 1, 1) := by decide +kernel
theorem dX4_lay_24 : decode cX4_lay 24 = .ok (.bipush 80, 2) := by decide +kernel
theorem dX4_lay_26 : decode cX4_lay 26 = .ok (.if_icmp .ge 21, 3) := by decide +kernel
theorem dX4_lay_29 : decode cX4_lay 29 = .ok (.aload_n 0, 1) := by decide +kernel
theorem dX4_lay_30 : decode cX4_lay 30 = .ok (.getfield 13, 3) := by decide +kernel
theorem dX4_lay_33 : decode cX4_lay 33 = .ok (.iload_n 1, 1) := by decide +kernel
theorem dX4_lay_34 : decode cX4_lay 34 = .ok (.aload_n 0, 1) := by decide +kernel
theorem dX4_lay_35 : decode cX4_lay 35 = .ok (.getfield 16, 3) := by decide +kernel
theorem dX4_lay_38 : decode cX4_lay 38 = .ok (.iload_n 1, 1) := by decide +kernel
theorem dX4_lay_39 : decode cX4_lay 39 = .ok (.iaload, 1) := by decide +kernel
theorem dX4_lay_40 : decode cX4_lay 40 = .ok (.iastore, 1) := by decide +kernel
theorem dX4_lay_41 : decode cX4_lay 41 = .ok (.iinc 1 1, 3) := by decide +kernel
theorem dX4_lay_44 : decode cX4_lay 44 = .ok (.goto (-21), 3) := by decide +kernel
theorem dX4_lay_47 : decode cX4_lay 47 = .ok (.iconst 0, 1) := by decide +kernel
theorem dX4_lay_48 : decode cX4_lay 48 = .ok (.istore_n 1, 1) := by decide +kernel
theorem dX4_lay_49 : decode cX4_lay 49 = .ok (.iload_n 1, 1) := by decide +kernel
theorem dX4_lay_50 : decode cX4_lay 50 = .ok (.bipush 16, 2) := by decide +kernel
theorem dX4_lay_52 : decode cX4_lay 52 = .ok (.if_icmp .ge 40, 3) := by decide +kernel
theorem dX4_lay_55 : decode cX4_lay 55 = .ok (.aload_n 0, 1) := by decide +kernel
theorem dX4_lay_56 : decode cX4_lay 56 = .ok (.getfield 19, 3) := by decide +kernel
theorem dX4_lay_59 : decode cX4_lay 59 = .ok (.iload_n 1, 1) := by decide +kernel
theorem dX4_lay_60 : decode cX4_lay 60 = .ok (.iload_n 1, 1) := by decide +kernel
theorem dX4_lay_61 : decode cX4_lay 61 = .ok (.iconst 1, 1) := by decide +kernel
theorem dX4_lay_62 : decode cX4_lay 62 = .ok (.bipush 10, 2) := by decide +kernel
theorem dX4_lay_64 : decode cX4_lay 64 = .ok (.invokestatic 40, 3) := by decide +kernel
theorem dX4_lay_67 : decode cX4_lay 67 = .ok (.ifCond .eq 17, 3) := by decide +kernel
theorem dX4_lay_70 : decode cX4_lay 70 = .ok (.aload_n 0, 1) := by decide +kernel
theorem dX4_lay_71 : decode cX4_lay 71 = .ok (.getfield 13, 3) := by decide +kernel
theorem dX4_lay_74 : decode cX4_lay 74 = .ok (.bipush 18, 2) := by decide +kernel
theorem dX4_lay_76 : decode cX4_lay 76 = .ok (.iload_n 1, 1) := by decide +kernel
theorem dX4_lay_77 : decode cX4_lay 77 = .ok (.iadd, 1) := by decide +kernel
theorem dX4_lay_78 : decode cX4_lay 78 = .ok (.iconst 1, 1) := by decide +kernel
theorem dX4_lay_79 : decode cX4_lay 79 = .ok (.isub, 1) := by decide +kernel
theorem dX4_lay_80 : decode cX4_lay 80 = .ok (.iaload, 1) := by decide +kernel
theorem dX4_lay_81 : decode cX4_lay 81 = .ok (.goto 4, 3) := by decide +kernel
theorem dX4_lay_84 : decode cX4_lay 84 = .ok (.iconst 0, 1) := by decide +kernel
theorem dX4_lay_85 : decode cX4_lay 85 = .ok (.iastore, 1) := by decide +kernel
theorem dX4_lay_86 : decode cX4_lay 86 = .ok (.iinc 1 1, 3) := by decide +kernel
theorem dX4_lay_89 : decode cX4_lay 89 = .ok (.goto (-40), 3) := by decide +kernel
theorem dX4_lay_92 : decode cX4_lay 92 = .ok (.aload_n 0, 1) := by decide +kernel
theorem dX4_lay_93 : decode cX4_lay 93 = .ok (.iconst 0, 1) := by decide +kernel
theorem dX4_lay_94 : decode cX4_lay 94 = .ok (.putfield 93, 3) := by decide +kernel
theorem dX4_lay_97 : decode cX4_lay 97 = .ok (.aload_n 0, 1) := by decide +kernel
theorem dX4_lay_98 : decode cX4_lay 98 = .ok (.iconst 0, 1) := by decide +kernel
theorem dX4_lay_99 : decode cX4_lay 99 = .ok (.putfield 96, 3) := by decide +kernel
theorem dX4_lay_102 : decode cX4_lay 102 = .ok (.aload_n 0, 1) := by decide +kernel
theorem dX4_lay_103 : decode cX4_lay 103 = .ok (.getfield 13, 3) := by decide +kernel
theorem dX4_lay_106 : decode cX4_lay 106 = .ok (.iconst 0, 1) := by decide +kernel
theorem dX4_lay_107 : decode cX4_lay 107 = .ok (.iaload, 1) := by decide +kernel
theorem dX4_lay_108 : decode cX4_lay 108 = .ok (.ireturn, 1) := by decide +kernel
theorem dX4_awake_0 : decode cX4_awake 0 = .ok (.aload_n 0, 1) := by decide +kernel
theorem dX4_awake_1 : decode cX4_awake 1 = .ok (.getfield 19, 3) := by decide +kernel
theorem dX4_awake_4 : decode cX4_awake 4 = .ok (.iconst 0, 1) := by decide +kernel
theorem dX4_awake_5 : decode cX4_awake 5 = .ok (.iaload, 1) := by decide +kernel
theorem dX4_awake_6 : decode cX4_awake 6 = .ok (.iconst 2, 1) := by decide +kernel
theorem dX4_awake_7 : decode cX4_awake 7 = .ok (.irem, 1) := by decide +kernel
theorem dX4_awake_8 : decode cX4_awake 8 = .ok (.ireturn, 1) := by decide +kernel
theorem dX4_half_0 : decode cX4_half 0 = .ok (.aload_n 0, 1) := by decide +kernel
theorem dX4_half_1 : decode cX4_half 1 = .ok (.iload_n 1, 1) := by decide +kernel
theorem dX4_half_2 : decode cX4_half 2 = .ok (.invokevirtual 99, 3) := by decide +kernel
theorem dX4_half_5 : decode cX4_half 5 = .ok (.ifCond .eq 21, 3) := by decide +kernel
theorem dX4_half_8 : decode cX4_half 8 = .ok (.iload_n 2, 1) := by decide +kernel
theorem dX4_half_9 : decode cX4_half 9 = .ok (.iconst 0, 1) := by decide +kernel
theorem dX4_half_10 : decode cX4_half 10 = .ok (.iconst 1, 1) := by decide +kernel
theorem dX4_half_11 : decode cX4_half 11 = .ok (.invokestatic 40, 3) := by decide +kernel
theorem dX4_half_14 : decode cX4_half 14 = .ok (.ifCond .eq 12, 3) := by decide +kernel
theorem dX4_half_17 : decode cX4_half 17 = .ok (.iload_n 3, 1) := by decide +kernel
theorem dX4_half_18 : decode cX4_half 18 = .ok (.iconst 0, 1) := by decide +kernel
theorem dX4_half_19 : decode cX4_half 19 = .ok (.iconst 2, 1) := by decide +kernel
theorem dX4_half_20 : decode cX4_half 20 = .ok (.invokestatic 40, 3) := by decide +kernel
theorem dX4_half_23 : decode cX4_half 23 = .ok (.ifCond .ne 5, 3) := by decide +kernel
theorem dX4_half_26 : decode cX4_half 26 = .ok (.iconst (-1), 1) := by decide +kernel
theorem dX4_half_27 : decode cX4_half 27 = .ok (.ireturn, 1) := by decide +kernel
theorem dX4_half_28 : decode cX4_half 28 = .ok (.iload_n 3, 1) := by decide +kernel
theorem dX4_half_29 : decode cX4_half 29 = .ok (.ifCond .ne 19, 3) := by decide +kernel
theorem dX4_half_32 : decode cX4_half 32 = .ok (.aload_n 0, 1) := by decide +kernel
theorem dX4_half_33 : decode cX4_half 33 = .ok (.getfield 13, 3) := by decide +kernel
theorem dX4_half_36 : decode cX4_half 36 = .ok (.bipush 8, 2) := by decide +kernel
theorem dX4_half_38 : decode cX4_half 38 = .ok (.iconst 2, 1) := by decide +kernel
theorem dX4_half_39 : decode cX4_half 39 = .ok (.iload_n 1, 1) := by decide +kernel
theorem dX4_half_40 : decode cX4_half 40 = .ok (.imul, 1) := by decide +kernel
theorem dX4_half_41 : decode cX4_half 41 = .ok (.iadd, 1) := by decide +kernel
theorem dX4_half_42 : decode cX4_half 42 = .ok (.iload_n 2, 1) := by decide +kernel
theorem dX4_half_43 : decode cX4_half 43 = .ok (.iadd, 1) := by decide +kernel
theorem dX4_half_44 : decode cX4_half 44 = .ok (.iaload, 1) := by decide +kernel
theorem dX4_half_45 : decode cX4_half 45 = .ok (.goto 44, 3) := by decide +kernel
theorem dX4_half_48 : decode cX4_half 48 = .ok (.iload_n 3, 1) := by decide +kernel
theorem dX4_half_49 : decode cX4_half 49 = .ok (.iconst 1, 1) := by decide +kernel
theorem dX4_half_50 : decode cX4_half 50 = .ok (.if_icmp .ne 18, 3) := by decide +kernel
theorem dX4_half_53 : decode cX4_half 53 = .ok (.aload_n 0, 1) := by decide +kernel
theorem dX4_half_54 : decode cX4_half 54 = .ok (.getfield 19, 3) := by decide +kernel
theorem dX4_half_57 : decode cX4_half 57 = .ok (.iconst 1, 1) := by decide +kernel
theorem dX4_half_58 : decode cX4_half 58 = .ok (.iconst 2, 1) := by decide +kernel
theorem dX4_half_59 : decode cX4_half 59 = .ok (.iload_n 1, 1) := by decide +kernel
theorem dX4_half_60 : decode cX4_half 60 = .ok (.imul, 1) := by decide +kernel
theorem dX4_half_61 : decode cX4_half 61 = .ok (.iadd, 1) := by decide +kernel
theorem dX4_half_62 : decode cX4_half 62 = .ok (.iload_n 2, 1) := by decide +kernel
theorem dX4_half_63 : decode cX4_half 63 = .ok (.iadd, 1) := by decide +kernel
theorem dX4_half_64 : decode cX4_half 64 = .ok (.iaload, 1) := by decide +kernel
theorem dX4_half_65 : decode cX4_half 65 = .ok (.goto 24, 3) := by decide +kernel
theorem dX4_half_68 : decode cX4_half 68 = .ok (.iload_n 2, 1) := by decide +kernel
theorem dX4_half_69 : decode cX4_half 69 = .ok (.aload_n 0, 1) := by decide +kernel
theorem dX4_half_70 : decode cX4_half 70 = .ok (.invokevirtual 102, 3) := by decide +kernel
theorem dX4_half_73 : decode cX4_half 73 = .ok (.if_icmp .ne 7, 3) := by decide +kernel
theorem dX4_half_76 : decode cX4_half 76 = .ok (.iconst 0, 1) := by decide +kernel
theorem dX4_half_77 : decode cX4_half 77 = .ok (.goto 12, 3) := by decide +kernel
theorem dX4_half_80 : decode cX4_half 80 = .ok (.aload_n 0, 1) := by decide +kernel
theorem dX4_half_81 : decode cX4_half 81 = .ok (.getfield 19, 3) := by decide +kernel
theorem dX4_half_84 : decode cX4_half 84 = .ok (.bipush 11, 2) := by decide +kernel
theorem dX4_half_86 : decode cX4_half 86 = .ok (.iload_n 1, 1) := by decide +kernel
theorem dX4_half_87 : decode cX4_half 87 = .ok (.iadd, 1) := by decide +kernel
theorem dX4_half_88 : decode cX4_half 88 = .ok (.iaload, 1) := by decide +kernel
theorem dX4_half_89 : decode cX4_half 89 = .ok (.ireturn, 1) := by decide +kernel
theorem dX4_see_0 : decode cX4_see 0 = .ok (.aload_n 0, 1) := by decide +kernel
theorem dX4_see_1 : decode cX4_see 1 = .ok (.iload_n 1, 1) := by decide +kernel
theorem dX4_see_2 : decode cX4_see 2 = .ok (.invokevirtual 99, 3) := by decide +kernel
theorem dX4_see_5 : decode cX4_see 5 = .ok (.ifCond .eq 13, 3) := by decide +kernel
theorem dX4_see_8 : decode cX4_see 8 = .ok (.iload_n 2, 1) := by decide +kernel
theorem dX4_see_9 : decode cX4_see 9 = .ok (.iconst 0, 1) := by decide +kernel
theorem dX4_see_10 : decode cX4_see 10 = .ok (.bipush 7, 2) := by decide +kernel
theorem dX4_see_12 : decode cX4_see 12 = .ok (.invokestatic 40, 3) := by decide +kernel
theorem dX4_see_15 : decode cX4_see 15 = .ok (.ifCond .ne 5, 3) := by decide +kernel
theorem dX4_see_18 : decode cX4_see 18 = .ok (.iconst (-1), 1) := by decide +kernel
theorem dX4_see_19 : decode cX4_see 19 = .ok (.ireturn, 1) := by decide +kernel
theorem dX4_see_20 : decode cX4_see 20 = .ok (.aload_n 0, 1) := by decide +kernel
theorem dX4_see_21 : decode cX4_see 21 = .ok (.getfield 19, 3) := by decide +kernel
theorem dX4_see_24 : decode cX4_see 24 = .ok (.iconst 1, 1) := by decide +kernel
theorem dX4_see_25 : decode cX4_see 25 = .ok (.iconst 2, 1) := by decide +kernel
theorem dX4_see_26 : decode cX4_see 26 = .ok (.iload_n 1, 1) := by decide +kernel
theorem dX4_see_27 : decode cX4_see 27 = .ok (.imul, 1) := by decide +kernel
theorem dX4_see_28 : decode cX4_see 28 = .ok (.iadd, 1) := by decide +kernel
theorem dX4_see_29 : decode cX4_see 29 = .ok (.aload_n 0, 1) := by decide +kernel
theorem dX4_see_30 : decode cX4_see 30 = .ok (.invokevirtual 102, 3) := by decide +kernel
theorem dX4_see_33 : decode cX4_see 33 = .ok (.iadd, 1) := by decide +kernel
theorem dX4_see_34 : decode cX4_see 34 = .ok (.dup2, 1) := by decide +kernel
theorem dX4_see_35 : decode cX4_see 35 = .ok (.iaload, 1) := by decide +kernel
theorem dX4_see_36 : decode cX4_see 36 = .ok (.iconst 1, 1) := by decide +kernel
theorem dX4_see_37 : decode cX4_see 37 = .ok (.iload_n 2, 1) := by decide +kernel
theorem dX4_see_38 : decode cX4_see 38 = .ok (.ishl, 1) := by decide +kernel
theorem dX4_see_39 : decode cX4_see 39 = .ok (.ior, 1) := by decide +kernel
theorem dX4_see_40 : decode cX4_see 40 = .ok (.iastore, 1) := by decide +kernel
theorem dX4_see_41 : decode cX4_see 41 = .ok (.aload_n 0, 1) := by decide +kernel
theorem dX4_see_42 : decode cX4_see 42 = .ok (.getfield 19, 3) := by decide +kernel
theorem dX4_see_45 : decode cX4_see 45 = .ok (.iconst 1, 1) := by decide +kernel
theorem dX4_see_46 : decode cX4_see 46 = .ok (.iconst 2, 1) := by decide +kernel
theorem dX4_see_47 : decode cX4_see 47 = .ok (.iload_n 1, 1) := by decide +kernel
theorem dX4_see_48 : decode cX4_see 48 = .ok (.imul, 1) := by decide +kernel
theorem dX4_see_49 : decode cX4_see 49 = .ok (.iadd, 1) := by decide +kernel
theorem dX4_see_50 : decode cX4_see 50 = .ok (.aload_n 0, 1) := by decide +kernel
theorem dX4_see_51 : decode cX4_see 51 = .ok (.invokevirtual 102, 3) := by decide +kernel
theorem dX4_see_54 : decode cX4_see 54 = .ok (.iadd, 1) := by decide +kernel
theorem dX4_see_55 : decode cX4_see 55 = .ok (.iaload, 1) := by decide +kernel
theorem dX4_see_56 : decode cX4_see 56 = .ok (.ireturn, 1) := by decide +kernel
theorem dX4_note_0 : decode cX4_note 0 = .ok (.aload_n 0, 1) := by decide +kernel
theorem dX4_note_1 : decode cX4_note 1 = .ok (.iload_n 1, 1) := by decide +kernel
theorem dX4_note_2 : decode cX4_note 2 = .ok (.invokevirtual 99, 3) := by decide +kernel
theorem dX4_note_5 : decode cX4_note 5 = .ok (.ifCond .eq 13, 3) := by decide +kernel
theorem dX4_note_8 : decode cX4_note 8 = .ok (.iload_n 2, 1) := by decide +kernel
theorem dX4_note_9 : decode cX4_note 9 = .ok (.iconst 0, 1) := by decide +kernel
theorem dX4_note_10 : decode cX4_note 10 = .ok (.bipush 7, 2) := by decide +kernel
theorem dX4_note_12 : decode cX4_note 12 = .ok (.invokestatic 40, 3) := by decide +kernel
theorem dX4_note_15 : decode cX4_note 15 = .ok (.ifCond .ne 5, 3) := by decide +kernel
theorem dX4_note_18 : decode cX4_note 18 = .ok (.iconst (-1), 1) := by decide +kernel
theorem dX4_note_19 : decode cX4_note 19 = .ok (.ireturn, 1) := by decide +kernel
theorem dX4_note_20 : decode cX4_note 20 = .ok (.aload_n 0, 1) := by decide +kernel
theorem dX4_note_21 : decode cX4_note 21 = .ok (.getfield 19, 3) := by decide +kernel
theorem dX4_note_24 : decode cX4_note 24 = .ok (.iconst 1, 1) := by decide +kernel
theorem dX4_note_25 : decode cX4_note 25 = .ok (.iconst 2, 1) := by decide +kernel
theorem dX4_note_26 : decode cX4_note 26 = .ok (.iload_n 1, 1) := by decide +kernel
theorem dX4_note_27 : decode cX4_note 27 = .ok (.imul, 1) := by decide +kernel
theorem dX4_note_28 : decode cX4_note 28 = .ok (.iadd, 1) := by decide +kernel
theorem dX4_note_29 : decode cX4_note 29 = .ok (.aload_n 0, 1) := by decide +kernel
theorem dX4_note_30 : decode cX4_note 30 = .ok (.invokevirtual 102, 3) := by decide +kernel
theorem dX4_note_33 : decode cX4_note 33 = .ok (.iadd, 1) := by decide +kernel
theorem dX4_note_34 : decode cX4_note 34 = .ok (.iaload, 1) := by decide +kernel
theorem dX4_note_35 : decode cX4_note 35 = .ok (.iload_n 2, 1) := by decide +kernel
theorem dX4_note_36 : decode cX4_note 36 = .ok (.ishr, 1) := by decide +kernel
theorem dX4_note_37 : decode cX4_note 37 = .ok (.iconst 1, 1) := by decide +kernel
theorem dX4_note_38 : decode cX4_note 38 = .ok (.iand, 1) := by decide +kernel
theorem dX4_note_39 : decode cX4_note 39 = .ok (.ifCond .ne 6, 3) := by decide +kernel
theorem dX4_note_42 : decode cX4_note 42 = .ok (.bipush (-2), 2) := by decide +kernel
theorem dX4_note_44 : decode cX4_note 44 = .ok (.ireturn, 1) := by decide +kernel
theorem dX4_note_45 : decode cX4_note 45 = .ok (.aload_n 0, 1) := by decide +kernel
theorem dX4_note_46 : decode cX4_note 46 = .ok (.getfield 19, 3) := by decide +kernel
theorem dX4_note_49 : decode cX4_note 49 = .ok (.bipush 11, 2) := by decide +kernel
theorem dX4_note_51 : decode cX4_note 51 = .ok (.iload_n 1, 1) := by decide +kernel
theorem dX4_note_52 : decode cX4_note 52 = .ok (.iadd, 1) := by decide +kernel
theorem dX4_note_53 : decode cX4_note 53 = .ok (.dup2, 1) := by decide +kernel
theorem dX4_note_54 : decode cX4_note 54 = .ok (.iaload, 1) := by decide +kernel
theorem dX4_note_55 : decode cX4_note 55 = .ok (.iconst 1, 1) := by decide +kernel
theorem dX4_note_56 : decode cX4_note 56 = .ok (.iload_n 2, 1) := by decide +kernel
theorem dX4_note_57 : decode cX4_note 57 = .ok (.ishl, 1) := by decide +kernel
theorem dX4_note_58 : decode cX4_note 58 = .ok (.ior, 1) := by decide +kernel
theorem dX4_note_59 : decode cX4_note 59 = .ok (.iastore, 1) := by decide +kernel
theorem dX4_note_60 : decode cX4_note 60 = .ok (.aload_n 0, 1) := by decide +kernel
theorem dX4_note_61 : decode cX4_note 61 = .ok (.getfield 19, 3) := by decide +kernel
theorem dX4_note_64 : decode cX4_note 64 = .ok (.bipush 11, 2) := by decide +kernel
theorem dX4_note_66 : decode cX4_note 66 = .ok (.iload_n 1, 1) := by decide +kernel
theorem dX4_note_67 : decode cX4_note 67 = .ok (.iadd, 1) := by decide +kernel
theorem dX4_note_68 : decode cX4_note 68 = .ok (.iaload, 1) := by decide +kernel
theorem dX4_note_69 : decode cX4_note 69 = .ok (.ireturn, 1) := by decide +kernel
theorem dX4_deed_0 : decode cX4_deed 0 = .ok (.aload_n 0, 1) := by decide +kernel
theorem dX4_deed_1 : decode cX4_deed 1 = .ok (.iload_n 1, 1) := by decide +kernel
theorem dX4_deed_2 : decode cX4_deed 2 = .ok (.invokevirtual 99, 3) := by decide +kernel
theorem dX4_deed_5 : decode cX4_deed 5 = .ok (.ifCond .eq 10, 3) := by decide +kernel
theorem dX4_deed_8 : decode cX4_deed 8 = .ok (.iload_n 2, 1) := by decide +kernel
theorem dX4_deed_9 : decode cX4_deed 9 = .ok (.invokestatic 105, 3) := by decide +kernel
theorem dX4_deed_12 : decode cX4_deed 12 = .ok (.ifCond .ne 5, 3) := by decide +kernel
theorem dX4_deed_15 : decode cX4_deed 15 = .ok (.iconst (-1), 1) := by decide +kernel
theorem dX4_deed_16 : decode cX4_deed 16 = .ok (.ireturn, 1) := by decide +kernel
theorem dX4_deed_17 : decode cX4_deed 17 = .ok (.iload_n 2, 1) := by decide +kernel
theorem dX4_deed_18 : decode cX4_deed 18 = .ok (.aload_n 0, 1) := by decide +kernel
theorem dX4_deed_19 : decode cX4_deed 19 = .ok (.getfield 19, 3) := by decide +kernel
theorem dX4_deed_22 : decode cX4_deed 22 = .ok (.iconst 1, 1) := by decide +kernel
theorem dX4_deed_23 : decode cX4_deed 23 = .ok (.iconst 2, 1) := by decide +kernel
theorem dX4_deed_24 : decode cX4_deed 24 = .ok (.iload_n 1, 1) := by decide +kernel
theorem dX4_deed_25 : decode cX4_deed 25 = .ok (.imul, 1) := by decide +kernel
theorem dX4_deed_26 : decode cX4_deed 26 = .ok (.iadd, 1) := by decide +kernel
theorem dX4_deed_27 : decode cX4_deed 27 = .ok (.aload_n 0, 1) := by decide +kernel
theorem dX4_deed_28 : decode cX4_deed 28 = .ok (.invokevirtual 102, 3) := by decide +kernel
theorem dX4_deed_31 : decode cX4_deed 31 = .ok (.iadd, 1) := by decide +kernel
theorem dX4_deed_32 : decode cX4_deed 32 = .ok (.iaload, 1) := by decide +kernel
theorem dX4_deed_33 : decode cX4_deed 33 = .ok (.iconst (-1), 1) := by decide +kernel
theorem dX4_deed_34 : decode cX4_deed 34 = .ok (.ixor, 1) := by decide +kernel
theorem dX4_deed_35 : decode cX4_deed 35 = .ok (.iand, 1) := by decide +kernel
theorem dX4_deed_36 : decode cX4_deed 36 = .ok (.ifCond .ne 7, 3) := by decide +kernel
theorem dX4_deed_39 : decode cX4_deed 39 = .ok (.iconst 1, 1) := by decide +kernel
theorem dX4_deed_40 : decode cX4_deed 40 = .ok (.goto 4, 3) := by decide +kernel
theorem dX4_deed_43 : decode cX4_deed 43 = .ok (.iconst 0, 1) := by decide +kernel
theorem dX4_deed_44 : decode cX4_deed 44 = .ok (.ireturn, 1) := by decide +kernel
theorem dX4_tells_0 : decode cX4_tells 0 = .ok (.iload_n 1, 1) := by decide +kernel
theorem dX4_tells_1 : decode cX4_tells 1 = .ok (.iload_n 2, 1) := by decide +kernel
theorem dX4_tells_2 : decode cX4_tells 2 = .ok (.iconst (-1), 1) := by decide +kernel
theorem dX4_tells_3 : decode cX4_tells 3 = .ok (.ixor, 1) := by decide +kernel
theorem dX4_tells_4 : decode cX4_tells 4 = .ok (.iand, 1) := by decide +kernel
theorem dX4_tells_5 : decode cX4_tells 5 = .ok (.istore_n 3, 1) := by decide +kernel
theorem dX4_tells_6 : decode cX4_tells 6 = .ok (.iconst 0, 1) := by decide +kernel
theorem dX4_tells_7 : decode cX4_tells 7 = .ok (.istore 4, 2) := by decide +kernel
theorem dX4_tells_9 : decode cX4_tells 9 = .ok (.iconst 0, 1) := by decide +kernel
theorem dX4_tells_10 : decode cX4_tells 10 = .ok (.istore 5, 2) := by decide +kernel
theorem dX4_tells_12 : decode cX4_tells 12 = .ok (.iload 5, 2) := by decide +kernel
theorem dX4_tells_14 : decode cX4_tells 14 = .ok (.aload_n 0, 1) := by decide +kernel
theorem dX4_tells_15 : decode cX4_tells 15 = .ok (.getfield 13, 3) := by decide +kernel
theorem dX4_tells_18 : decode cX4_tells 18 = .ok (.iconst 4, 1) := by decide +kernel
theorem dX4_tells_19 : decode cX4_tells 19 = .ok (.iaload, 1) := by decide +kernel
theorem dX4_tells_20 : decode cX4_tells 20 = .ok (.if_icmp .ge 24, 3) := by decide +kernel
theorem dX4_tells_23 : decode cX4_tells 23 = .ok (.iload 4, 2) := by decide +kernel
theorem dX4_tells_25 : decode cX4_tells 25 = .ok (.iload_n 3, 1) := by decide +kernel
theorem dX4_tells_26 : decode cX4_tells 26 = .ok (.iload_n 3, 1) := by decide +kernel
theorem dX4_tells_27 : decode cX4_tells 27 = .ok (.ineg, 1) := by decide +kernel
theorem dX4_tells_28 : decode cX4_tells 28 = .ok (.iand, 1) := by decide +kernel
theorem dX4_tells_29 : decode cX4_tells 29 = .ok (.ior, 1) := by decide +kernel
theorem dX4_tells_30 : decode cX4_tells 30 = .ok (.istore 4, 2) := by decide +kernel
theorem dX4_tells_32 : decode cX4_tells 32 = .ok (.iload_n 3, 1) := by decide +kernel
theorem dX4_tells_33 : decode cX4_tells 33 = .ok (.iload_n 3, 1) := by decide +kernel
theorem dX4_tells_34 : decode cX4_tells 34 = .ok (.iconst 1, 1) := by decide +kernel
theorem dX4_tells_35 : decode cX4_tells 35 = .ok (.isub, 1) := by decide +kernel
theorem dX4_tells_36 : decode cX4_tells 36 = .ok (.iand, 1) := by decide +kernel
theorem dX4_tells_37 : decode cX4_tells 37 = .ok (.istore_n 3, 1) := by decide +kernel
theorem dX4_tells_38 : decode cX4_tells 38 = .ok (.iinc 5 1, 3) := by decide +kernel
theorem dX4_tells_41 : decode cX4_tells 41 = .ok (.goto (-29), 3) := by decide +kernel
theorem dX4_tells_44 : decode cX4_tells 44 = .ok (.iload 4, 2) := by decide +kernel
theorem dX4_tells_46 : decode cX4_tells 46 = .ok (.ireturn, 1) := by decide +kernel
theorem dX4_ends_0 : decode cX4_ends 0 = .ok (.aload_n 0, 1) := by decide +kernel
theorem dX4_ends_1 : decode cX4_ends 1 = .ok (.getfield 22, 3) := by decide +kernel
theorem dX4_ends_4 : decode cX4_ends 4 = .ok (.iconst 0, 1) := by decide +kernel
theorem dX4_ends_5 : decode cX4_ends 5 = .ok (.dup2, 1) := by decide +kernel
theorem dX4_ends_6 : decode cX4_ends 6 = .ok (.iaload, 1) := by decide +kernel
theorem dX4_ends_7 : decode cX4_ends 7 = .ok (.iconst 1, 1) := by decide +kernel
theorem dX4_ends_8 : decode cX4_ends 8 = .ok (.iadd, 1) := by decide +kernel
theorem dX4_ends_9 : decode cX4_ends 9 = .ok (.iastore, 1) := by decide +kernel
theorem dX4_ends_10 : decode cX4_ends 10 = .ok (.iconst 0, 1) := by decide +kernel
theorem dX4_ends_11 : decode cX4_ends 11 = .ok (.istore_n 1, 1) := by decide +kernel
theorem dX4_ends_12 : decode cX4_ends 12 = .ok (.iload_n 1, 1) := by decide +kernel
theorem dX4_ends_13 : decode cX4_ends 13 = .ok (.aload_n 0, 1) := by decide +kernel
theorem dX4_ends_14 : decode cX4_ends 14 = .ok (.getfield 13, 3) := by decide +kernel
theorem dX4_ends_17 : decode cX4_ends 17 = .ok (.iconst 0, 1) := by decide +kernel
theorem dX4_ends_18 : decode cX4_ends 18 = .ok (.iaload, 1) := by decide +kernel
theorem dX4_ends_19 : decode cX4_ends 19 = .ok (.if_icmp .ge 108, 3) := by decide +kernel
theorem dX4_ends_22 : decode cX4_ends 22 = .ok (.aload_n 0, 1) := by decide +kernel
theorem dX4_ends_23 : decode cX4_ends 23 = .ok (.getfield 22, 3) := by decide +kernel
theorem dX4_ends_26 : decode cX4_ends 26 = .ok (.iconst 1, 1) := by decide +kernel
theorem dX4_ends_27 : decode cX4_ends 27 = .ok (.iconst 2, 1) := by decide +kernel
theorem dX4_ends_28 : decode cX4_ends 28 = .ok (.iload_n 1, 1) := by decide +kernel
theorem dX4_ends_29 : decode cX4_ends 29 = .ok (.imul, 1) := by decide +kernel
theorem dX4_ends_30 : decode cX4_ends 30 = .ok (.iadd, 1) := by decide +kernel
theorem dX4_ends_31 : decode cX4_ends 31 = .ok (.iaload, 1) := by decide +kernel
theorem dX4_ends_32 : decode cX4_ends 32 = .ok (.istore_n 2, 1) := by decide +kernel
theorem dX4_ends_33 : decode cX4_ends 33 = .ok (.aload_n 0, 1) := by decide +kernel
theorem dX4_ends_34 : decode cX4_ends 34 = .ok (.getfield 22, 3) := by decide +kernel
theorem dX4_ends_37 : decode cX4_ends 37 = .ok (.iconst 2, 1) := by decide +kernel
theorem dX4_ends_38 : decode cX4_ends 38 = .ok (.iconst 2, 1) := by decide +kernel
theorem dX4_ends_39 : decode cX4_ends 39 = .ok (.iload_n 1, 1) := by decide +kernel
theorem dX4_ends_40 : decode cX4_ends 40 = .ok (.imul, 1) := by decide +kernel
theorem dX4_ends_41 : decode cX4_ends 41 = .ok (.iadd, 1) := by decide +kernel
theorem dX4_ends_42 : decode cX4_ends 42 = .ok (.iaload, 1) := by decide +kernel
theorem dX4_ends_43 : decode cX4_ends 43 = .ok (.istore_n 3, 1) := by decide +kernel
theorem dX4_ends_44 : decode cX4_ends 44 = .ok (.aload_n 0, 1) := by decide +kernel
theorem dX4_ends_45 : decode cX4_ends 45 = .ok (.getfield 22, 3) := by decide +kernel
theorem dX4_ends_48 : decode cX4_ends 48 = .ok (.iconst 1, 1) := by decide +kernel
theorem dX4_ends_49 : decode cX4_ends 49 = .ok (.iconst 2, 1) := by decide +kernel
theorem dX4_ends_50 : decode cX4_ends 50 = .ok (.iload_n 1, 1) := by decide +kernel
theorem dX4_ends_51 : decode cX4_ends 51 = .ok (.imul, 1) := by decide +kernel
theorem dX4_ends_52 : decode cX4_ends 52 = .ok (.iadd, 1) := by decide +kernel
theorem dX4_ends_53 : decode cX4_ends 53 = .ok (.iload_n 2, 1) := by decide +kernel
theorem dX4_ends_54 : decode cX4_ends 54 = .ok (.aload_n 0, 1) := by decide +kernel
theorem dX4_ends_55 : decode cX4_ends 55 = .ok (.iload_n 3, 1) := by decide +kernel
theorem dX4_ends_56 : decode cX4_ends 56 = .ok (.iload_n 2, 1) := by decide +kernel
theorem dX4_ends_57 : decode cX4_ends 57 = .ok (.invokevirtual 108, 3) := by decide +kernel
theorem dX4_ends_60 : decode cX4_ends 60 = .ok (.ior, 1) := by decide +kernel
theorem dX4_ends_61 : decode cX4_ends 61 = .ok (.iastore, 1) := by decide +kernel
theorem dX4_ends_62 : decode cX4_ends 62 = .ok (.aload_n 0, 1) := by decide +kernel
theorem dX4_ends_63 : decode cX4_ends 63 = .ok (.getfield 22, 3) := by decide +kernel
theorem dX4_ends_66 : decode cX4_ends 66 = .ok (.iconst 2, 1) := by decide +kernel
theorem dX4_ends_67 : decode cX4_ends 67 = .ok (.iconst 2, 1) := by decide +kernel
theorem dX4_ends_68 : decode cX4_ends 68 = .ok (.iload_n 1, 1) := by decide +kernel
theorem dX4_ends_69 : decode cX4_ends 69 = .ok (.imul, 1) := by decide +kernel
theorem dX4_ends_70 : decode cX4_ends 70 = .ok (.iadd, 1) := by decide +kernel
theorem dX4_ends_71 : decode cX4_ends 71 = .ok (.iload_n 3, 1) := by decide +kernel
theorem dX4_ends_72 : decode cX4_ends 72 = .ok (.aload_n 0, 1) := by decide +kernel
theorem dX4_ends_73 : decode cX4_ends 73 = .ok (.iload_n 2, 1) := by decide +kernel
theorem dX4_ends_74 : decode cX4_ends 74 = .ok (.iload_n 3, 1) := by decide +kernel
theorem dX4_ends_75 : decode cX4_ends 75 = .ok (.invokevirtual 108, 3) := by decide +kernel
theorem dX4_ends_78 : decode cX4_ends 78 = .ok (.ior, 1) := by decide +kernel
theorem dX4_ends_79 : decode cX4_ends 79 = .ok (.iastore, 1) := by decide +kernel
theorem dX4_ends_80 : decode cX4_ends 80 = .ok (.aload_n 0, 1) := by decide +kernel
theorem dX4_ends_81 : decode cX4_ends 81 = .ok (.getfield 22, 3) := by decide +kernel
theorem dX4_ends_84 : decode cX4_ends 84 = .ok (.iconst 1, 1) := by decide +kernel
theorem dX4_ends_85 : decode cX4_ends 85 = .ok (.iconst 2, 1) := by decide +kernel
theorem dX4_ends_86 : decode cX4_ends 86 = .ok (.iload_n 1, 1) := by decide +kernel
theorem dX4_ends_87 : decode cX4_ends 87 = .ok (.imul, 1) := by decide +kernel
theorem dX4_ends_88 : decode cX4_ends 88 = .ok (.iadd, 1) := by decide +kernel
theorem dX4_ends_89 : decode cX4_ends 89 = .ok (.aload_n 0, 1) := by decide +kernel
theorem dX4_ends_90 : decode cX4_ends 90 = .ok (.getfield 22, 3) := by decide +kernel
theorem dX4_ends_93 : decode cX4_ends 93 = .ok (.iconst 0, 1) := by decide +kernel
theorem dX4_ends_94 : decode cX4_ends 94 = .ok (.iaload, 1) := by decide +kernel
theorem dX4_ends_95 : decode cX4_ends 95 = .ok (.iconst 2, 1) := by decide +kernel
theorem dX4_ends_96 : decode cX4_ends 96 = .ok (.irem, 1) := by decide +kernel
theorem dX4_ends_97 : decode cX4_ends 97 = .ok (.iadd, 1) := by decide +kernel
theorem dX4_ends_98 : decode cX4_ends 98 = .ok (.dup2, 1) := by decide +kernel
theorem dX4_ends_99 : decode cX4_ends 99 = .ok (.iaload, 1) := by decide +kernel
theorem dX4_ends_100 : decode cX4_ends 100 = .ok (.aload_n 0, 1) := by decide +kernel
theorem dX4_ends_101 : decode cX4_ends 101 = .ok (.getfield 22, 3) := by decide +kernel
theorem dX4_ends_104 : decode cX4_ends 104 = .ok (.bipush 11, 2) := by decide +kernel
theorem dX4_ends_106 : decode cX4_ends 106 = .ok (.iload_n 1, 1) := by decide +kernel
theorem dX4_ends_107 : decode cX4_ends 107 = .ok (.iadd, 1) := by decide +kernel
theorem dX4_ends_108 : decode cX4_ends 108 = .ok (.iaload, 1) := by decide +kernel
theorem dX4_ends_109 : decode cX4_ends 109 = .ok (.ior, 1) := by decide +kernel
theorem dX4_ends_110 : decode cX4_ends 110 = .ok (.iastore, 1) := by decide +kernel
theorem dX4_ends_111 : decode cX4_ends 111 = .ok (.aload_n 0, 1) := by decide +kernel
theorem dX4_ends_112 : decode cX4_ends 112 = .ok (.getfield 22, 3) := by decide +kernel
theorem dX4_ends_115 : decode cX4_ends 115 = .ok (.bipush 11, 2) := by decide +kernel
theorem dX4_ends_117 : decode cX4_ends 117 = .ok (.iload_n 1, 1) := by decide +kernel
theorem dX4_ends_118 : decode cX4_ends 118 = .ok (.iadd, 1) := by decide +kernel
theorem dX4_ends_119 : decode cX4_ends 119 = .ok (.iconst 0, 1) := by decide +kernel
theorem dX4_ends_120 : decode cX4_ends 120 = .ok (.iastore, 1) := by decide +kernel
theorem dX4_ends_121 : decode cX4_ends 121 = .ok (.iinc 1 1, 3) := by decide +kernel
theorem dX4_ends_124 : decode cX4_ends 124 = .ok (.goto (-112), 3) := by decide +kernel
theorem dX4_ends_127 : decode cX4_ends 127 = .ok (.return_, 1) := by decide +kernel
theorem dX4_plays_0 : decode cX4_plays 0 = .ok (.iconst 0, 1) := by decide +kernel
theorem dX4_plays_1 : decode cX4_plays 1 = .ok (.istore_n 2, 1) := by decide +kernel
theorem dX4_plays_2 : decode cX4_plays 2 = .ok (.iload_n 2, 1) := by decide +kernel
theorem dX4_plays_3 : decode cX4_plays 3 = .ok (.bipush 16, 2) := by decide +kernel
theorem dX4_plays_5 : decode cX4_plays 5 = .ok (.if_icmp .ge 21, 3) := by decide +kernel
theorem dX4_plays_8 : decode cX4_plays 8 = .ok (.aload_n 0, 1) := by decide +kernel
theorem dX4_plays_9 : decode cX4_plays 9 = .ok (.getfield 22, 3) := by decide +kernel
theorem dX4_plays_12 : decode cX4_plays 12 = .ok (.iload_n 2, 1) := by decide +kernel
theorem dX4_plays_13 : decode cX4_plays 13 = .ok (.aload_n 0, 1) := by decide +kernel
theorem dX4_plays_14 : decode cX4_plays 14 = .ok (.getfield 19, 3) := by decide +kernel
end
section
theorem dX4_plays_17 : decode cX4_plays 17 = .ok (.iload_n 2, 1) := by decide +kernel
theorem dX4_plays_18 : decode cX4_plays 18 = .ok (.iaload, 1) := by decide +kernel
theorem dX4_plays_19 : decode cX4_plays 19 = .ok (.iastore, 1) := by decide +kernel
theorem dX4_plays_20 : decode cX4_plays 20 = .ok (.iinc 2 1, 3) := by decide +kernel
theorem dX4_plays_23 : decode cX4_plays 23 = .ok (.goto (-21), 3) := by decide +kernel
theorem dX4_plays_26 : decode cX4_plays 26 = .ok (.iconst 0, 1) := by decide +kernel
theorem dX4_plays_27 : decode cX4_plays 27 = .ok (.istore_n 2, 1) := by decide +kernel
theorem dX4_plays_28 : decode cX4_plays 28 = .ok (.iload_n 2, 1) := by decide +kernel
theorem dX4_plays_29 : decode cX4_plays 29 = .ok (.iload_n 1, 1) := by decide +kernel
theorem dX4_plays_30 : decode cX4_plays 30 = .ok (.if_icmp .ge 13, 3) := by decide +kernel
theorem dX4_plays_33 : decode cX4_plays 33 = .ok (.aload_n 0, 1) := by decide +kernel
theorem dX4_plays_34 : decode cX4_plays 34 = .ok (.invokevirtual 112, 3) := by decide +kernel
theorem dX4_plays_37 : decode cX4_plays 37 = .ok (.iinc 2 1, 3) := by decide +kernel
theorem dX4_plays_40 : decode cX4_plays 40 = .ok (.goto (-12), 3) := by decide +kernel
theorem dX4_plays_43 : decode cX4_plays 43 = .ok (.return_, 1) := by decide +kernel
theorem dX4_shifts_0 : decode cX4_shifts 0 = .ok (.iload_n 1, 1) := by decide +kernel
theorem dX4_shifts_1 : decode cX4_shifts 1 = .ok (.iconst 1, 1) := by decide +kernel
theorem dX4_shifts_2 : decode cX4_shifts 2 = .ok (.bipush 40, 2) := by decide +kernel
theorem dX4_shifts_4 : decode cX4_shifts 4 = .ok (.invokestatic 40, 3) := by decide +kernel
theorem dX4_shifts_7 : decode cX4_shifts 7 = .ok (.ifCond .ne 5, 3) := by decide +kernel
theorem dX4_shifts_10 : decode cX4_shifts 10 = .ok (.iconst (-1), 1) := by decide +kernel
theorem dX4_shifts_11 : decode cX4_shifts 11 = .ok (.ireturn, 1) := by decide +kernel
theorem dX4_shifts_12 : decode cX4_shifts 12 = .ok (.aload_n 0, 1) := by decide +kernel
theorem dX4_shifts_13 : decode cX4_shifts 13 = .ok (.getfield 19, 3) := by decide +kernel
theorem dX4_shifts_16 : decode cX4_shifts 16 = .ok (.iconst 0, 1) := by decide +kernel
theorem dX4_shifts_17 : decode cX4_shifts 17 = .ok (.iaload, 1) := by decide +kernel
theorem dX4_shifts_18 : decode cX4_shifts 18 = .ok (.iload_n 1, 1) := by decide +kernel
theorem dX4_shifts_19 : decode cX4_shifts 19 = .ok (.iadd, 1) := by decide +kernel
theorem dX4_shifts_20 : decode cX4_shifts 20 = .ok (.sipush 9999, 3) := by decide +kernel
theorem dX4_shifts_23 : decode cX4_shifts 23 = .ok (.if_icmp .le 6, 3) := by decide +kernel
theorem dX4_shifts_26 : decode cX4_shifts 26 = .ok (.bipush (-2), 2) := by decide +kernel
theorem dX4_shifts_28 : decode cX4_shifts 28 = .ok (.ireturn, 1) := by decide +kernel
theorem dX4_shifts_29 : decode cX4_shifts 29 = .ok (.aload_n 0, 1) := by decide +kernel
theorem dX4_shifts_30 : decode cX4_shifts 30 = .ok (.iload_n 1, 1) := by decide +kernel
theorem dX4_shifts_31 : decode cX4_shifts 31 = .ok (.invokevirtual 115, 3) := by decide +kernel
theorem dX4_shifts_34 : decode cX4_shifts 34 = .ok (.iconst 0, 1) := by decide +kernel
theorem dX4_shifts_35 : decode cX4_shifts 35 = .ok (.istore_n 2, 1) := by decide +kernel
theorem dX4_shifts_36 : decode cX4_shifts 36 = .ok (.iload_n 2, 1) := by decide +kernel
theorem dX4_shifts_37 : decode cX4_shifts 37 = .ok (.bipush 16, 2) := by decide +kernel
theorem dX4_shifts_39 : decode cX4_shifts 39 = .ok (.if_icmp .ge 21, 3) := by decide +kernel
theorem dX4_shifts_42 : decode cX4_shifts 42 = .ok (.aload_n 0, 1) := by decide +kernel
theorem dX4_shifts_43 : decode cX4_shifts 43 = .ok (.getfield 19, 3) := by decide +kernel
theorem dX4_shifts_46 : decode cX4_shifts 46 = .ok (.iload_n 2, 1) := by decide +kernel
theorem dX4_shifts_47 : decode cX4_shifts 47 = .ok (.aload_n 0, 1) := by decide +kernel
theorem dX4_shifts_48 : decode cX4_shifts 48 = .ok (.getfield 22, 3) := by decide +kernel
theorem dX4_shifts_51 : decode cX4_shifts 51 = .ok (.iload_n 2, 1) := by decide +kernel
theorem dX4_shifts_52 : decode cX4_shifts 52 = .ok (.iaload, 1) := by decide +kernel
theorem dX4_shifts_53 : decode cX4_shifts 53 = .ok (.iastore, 1) := by decide +kernel
theorem dX4_shifts_54 : decode cX4_shifts 54 = .ok (.iinc 2 1, 3) := by decide +kernel
theorem dX4_shifts_57 : decode cX4_shifts 57 = .ok (.goto (-21), 3) := by decide +kernel
theorem dX4_shifts_60 : decode cX4_shifts 60 = .ok (.aload_n 0, 1) := by decide +kernel
theorem dX4_shifts_61 : decode cX4_shifts 61 = .ok (.getfield 19, 3) := by decide +kernel
theorem dX4_shifts_64 : decode cX4_shifts 64 = .ok (.iconst 0, 1) := by decide +kernel
theorem dX4_shifts_65 : decode cX4_shifts 65 = .ok (.iaload, 1) := by decide +kernel
theorem dX4_shifts_66 : decode cX4_shifts 66 = .ok (.ireturn, 1) := by decide +kernel
theorem dX4_has_0 : decode cX4_has 0 = .ok (.aload_n 0, 1) := by decide +kernel
theorem dX4_has_1 : decode cX4_has 1 = .ok (.getfield 13, 3) := by decide +kernel
theorem dX4_has_4 : decode cX4_has 4 = .ok (.bipush 8, 2) := by decide +kernel
theorem dX4_has_6 : decode cX4_has 6 = .ok (.iconst 2, 1) := by decide +kernel
theorem dX4_has_7 : decode cX4_has 7 = .ok (.iload_n 1, 1) := by decide +kernel
theorem dX4_has_8 : decode cX4_has 8 = .ok (.imul, 1) := by decide +kernel
theorem dX4_has_9 : decode cX4_has 9 = .ok (.iadd, 1) := by decide +kernel
theorem dX4_has_10 : decode cX4_has 10 = .ok (.iload_n 2, 1) := by decide +kernel
theorem dX4_has_11 : decode cX4_has 11 = .ok (.iadd, 1) := by decide +kernel
theorem dX4_has_12 : decode cX4_has 12 = .ok (.iaload, 1) := by decide +kernel
theorem dX4_has_13 : decode cX4_has 13 = .ok (.aload_n 0, 1) := by decide +kernel
theorem dX4_has_14 : decode cX4_has 14 = .ok (.getfield 13, 3) := by decide +kernel
theorem dX4_has_17 : decode cX4_has 17 = .ok (.bipush 32, 2) := by decide +kernel
theorem dX4_has_19 : decode cX4_has 19 = .ok (.bipush 8, 2) := by decide +kernel
theorem dX4_has_21 : decode cX4_has 21 = .ok (.iload_n 3, 1) := by decide +kernel
theorem dX4_has_22 : decode cX4_has 22 = .ok (.imul, 1) := by decide +kernel
theorem dX4_has_23 : decode cX4_has 23 = .ok (.iadd, 1) := by decide +kernel
theorem dX4_has_24 : decode cX4_has 24 = .ok (.iload 4, 2) := by decide +kernel
theorem dX4_has_26 : decode cX4_has 26 = .ok (.iadd, 1) := by decide +kernel
theorem dX4_has_27 : decode cX4_has 27 = .ok (.iaload, 1) := by decide +kernel
theorem dX4_has_28 : decode cX4_has 28 = .ok (.ishr, 1) := by decide +kernel
theorem dX4_has_29 : decode cX4_has 29 = .ok (.iconst 1, 1) := by decide +kernel
theorem dX4_has_30 : decode cX4_has 30 = .ok (.iand, 1) := by decide +kernel
theorem dX4_has_31 : decode cX4_has 31 = .ok (.iconst 1, 1) := by decide +kernel
theorem dX4_has_32 : decode cX4_has 32 = .ok (.if_icmp .ne 7, 3) := by decide +kernel
theorem dX4_has_35 : decode cX4_has 35 = .ok (.iconst 1, 1) := by decide +kernel
theorem dX4_has_36 : decode cX4_has 36 = .ok (.goto 4, 3) := by decide +kernel
theorem dX4_has_39 : decode cX4_has 39 = .ok (.iconst 0, 1) := by decide +kernel
theorem dX4_has_40 : decode cX4_has 40 = .ok (.ireturn, 1) := by decide +kernel
theorem dX4_doneBy_0 : decode cX4_doneBy 0 = .ok (.iconst 0, 1) := by decide +kernel
theorem dX4_doneBy_1 : decode cX4_doneBy 1 = .ok (.istore_n 3, 1) := by decide +kernel
theorem dX4_doneBy_2 : decode cX4_doneBy 2 = .ok (.iconst 0, 1) := by decide +kernel
theorem dX4_doneBy_3 : decode cX4_doneBy 3 = .ok (.istore 4, 2) := by decide +kernel
theorem dX4_doneBy_5 : decode cX4_doneBy 5 = .ok (.iconst 0, 1) := by decide +kernel
theorem dX4_doneBy_6 : decode cX4_doneBy 6 = .ok (.istore 5, 2) := by decide +kernel
theorem dX4_doneBy_8 : decode cX4_doneBy 8 = .ok (.iload_n 3, 1) := by decide +kernel
theorem dX4_doneBy_9 : decode cX4_doneBy 9 = .ok (.aload_n 0, 1) := by decide +kernel
theorem dX4_doneBy_10 : decode cX4_doneBy 10 = .ok (.getfield 13, 3) := by decide +kernel
theorem dX4_doneBy_13 : decode cX4_doneBy 13 = .ok (.bipush 28, 2) := by decide +kernel
theorem dX4_doneBy_15 : decode cX4_doneBy 15 = .ok (.iload_n 2, 1) := by decide +kernel
theorem dX4_doneBy_16 : decode cX4_doneBy 16 = .ok (.iadd, 1) := by decide +kernel
theorem dX4_doneBy_17 : decode cX4_doneBy 17 = .ok (.iaload, 1) := by decide +kernel
theorem dX4_doneBy_18 : decode cX4_doneBy 18 = .ok (.if_icmp .ge 102, 3) := by decide +kernel
theorem dX4_doneBy_21 : decode cX4_doneBy 21 = .ok (.iload 4, 2) := by decide +kernel
theorem dX4_doneBy_23 : decode cX4_doneBy 23 = .ok (.iconst 2, 1) := by decide +kernel
theorem dX4_doneBy_24 : decode cX4_doneBy 24 = .ok (.if_icmp .ge 96, 3) := by decide +kernel
theorem dX4_doneBy_27 : decode cX4_doneBy 27 = .ok (.aload_n 0, 1) := by decide +kernel
theorem dX4_doneBy_28 : decode cX4_doneBy 28 = .ok (.getfield 19, 3) := by decide +kernel
theorem dX4_doneBy_31 : decode cX4_doneBy 31 = .ok (.iconst 0, 1) := by decide +kernel
theorem dX4_doneBy_32 : decode cX4_doneBy 32 = .ok (.iaload, 1) := by decide +kernel
theorem dX4_doneBy_33 : decode cX4_doneBy 33 = .ok (.iload 5, 2) := by decide +kernel
theorem dX4_doneBy_35 : decode cX4_doneBy 35 = .ok (.iadd, 1) := by decide +kernel
theorem dX4_doneBy_36 : decode cX4_doneBy 36 = .ok (.iconst 2, 1) := by decide +kernel
theorem dX4_doneBy_37 : decode cX4_doneBy 37 = .ok (.irem, 1) := by decide +kernel
theorem dX4_doneBy_38 : decode cX4_doneBy 38 = .ok (.istore 6, 2) := by decide +kernel
theorem dX4_doneBy_40 : decode cX4_doneBy 40 = .ok (.iconst 0, 1) := by decide +kernel
theorem dX4_doneBy_41 : decode cX4_doneBy 41 = .ok (.istore 7, 2) := by decide +kernel
theorem dX4_doneBy_43 : decode cX4_doneBy 43 = .ok (.iload 7, 2) := by decide +kernel
theorem dX4_doneBy_45 : decode cX4_doneBy 45 = .ok (.aload_n 0, 1) := by decide +kernel
theorem dX4_doneBy_46 : decode cX4_doneBy 46 = .ok (.getfield 13, 3) := by decide +kernel
theorem dX4_doneBy_49 : decode cX4_doneBy 49 = .ok (.iconst 3, 1) := by decide +kernel
theorem dX4_doneBy_50 : decode cX4_doneBy 50 = .ok (.iaload, 1) := by decide +kernel
theorem dX4_doneBy_51 : decode cX4_doneBy 51 = .ok (.if_icmp .ge 48, 3) := by decide +kernel
theorem dX4_doneBy_54 : decode cX4_doneBy 54 = .ok (.iload_n 3, 1) := by decide +kernel
theorem dX4_doneBy_55 : decode cX4_doneBy 55 = .ok (.aload_n 0, 1) := by decide +kernel
theorem dX4_doneBy_56 : decode cX4_doneBy 56 = .ok (.getfield 13, 3) := by decide +kernel
theorem dX4_doneBy_59 : decode cX4_doneBy 59 = .ok (.bipush 28, 2) := by decide +kernel
theorem dX4_doneBy_61 : decode cX4_doneBy 61 = .ok (.iload_n 2, 1) := by decide +kernel
theorem dX4_doneBy_62 : decode cX4_doneBy 62 = .ok (.iadd, 1) := by decide +kernel
theorem dX4_doneBy_63 : decode cX4_doneBy 63 = .ok (.iaload, 1) := by decide +kernel
theorem dX4_doneBy_64 : decode cX4_doneBy 64 = .ok (.if_icmp .ge 35, 3) := by decide +kernel
theorem dX4_doneBy_67 : decode cX4_doneBy 67 = .ok (.aload_n 0, 1) := by decide +kernel
theorem dX4_doneBy_68 : decode cX4_doneBy 68 = .ok (.iload_n 1, 1) := by decide +kernel
theorem dX4_doneBy_69 : decode cX4_doneBy 69 = .ok (.iload 6, 2) := by decide +kernel
theorem dX4_doneBy_71 : decode cX4_doneBy 71 = .ok (.iload_n 2, 1) := by decide +kernel
theorem dX4_doneBy_72 : decode cX4_doneBy 72 = .ok (.iload_n 3, 1) := by decide +kernel
theorem dX4_doneBy_73 : decode cX4_doneBy 73 = .ok (.bipush 8, 2) := by decide +kernel
theorem dX4_doneBy_75 : decode cX4_doneBy 75 = .ok (.if_icmp .ge 7, 3) := by decide +kernel
theorem dX4_doneBy_78 : decode cX4_doneBy 78 = .ok (.iload_n 3, 1) := by decide +kernel
theorem dX4_doneBy_79 : decode cX4_doneBy 79 = .ok (.goto 5, 3) := by decide +kernel
theorem dX4_doneBy_82 : decode cX4_doneBy 82 = .ok (.bipush 7, 2) := by decide +kernel
theorem dX4_doneBy_84 : decode cX4_doneBy 84 = .ok (.invokevirtual 119, 3) := by decide +kernel
theorem dX4_doneBy_87 : decode cX4_doneBy 87 = .ok (.ifCond .eq 12, 3) := by decide +kernel
theorem dX4_doneBy_90 : decode cX4_doneBy 90 = .ok (.iinc 7 1, 3) := by decide +kernel
theorem dX4_doneBy_93 : decode cX4_doneBy 93 = .ok (.iinc 3 1, 3) := by decide +kernel
theorem dX4_doneBy_96 : decode cX4_doneBy 96 = .ok (.goto (-53), 3) := by decide +kernel
theorem dX4_doneBy_99 : decode cX4_doneBy 99 = .ok (.iload 7, 2) := by decide +kernel
theorem dX4_doneBy_101 : decode cX4_doneBy 101 = .ok (.ifCond .le 7, 3) := by decide +kernel
theorem dX4_doneBy_104 : decode cX4_doneBy 104 = .ok (.iconst 0, 1) := by decide +kernel
theorem dX4_doneBy_105 : decode cX4_doneBy 105 = .ok (.goto 7, 3) := by decide +kernel
theorem dX4_doneBy_108 : decode cX4_doneBy 108 = .ok (.iload 4, 2) := by decide +kernel
theorem dX4_doneBy_110 : decode cX4_doneBy 110 = .ok (.iconst 1, 1) := by decide +kernel
theorem dX4_doneBy_111 : decode cX4_doneBy 111 = .ok (.iadd, 1) := by decide +kernel
theorem dX4_doneBy_112 : decode cX4_doneBy 112 = .ok (.istore 4, 2) := by decide +kernel
theorem dX4_doneBy_114 : decode cX4_doneBy 114 = .ok (.iinc 5 1, 3) := by decide +kernel
theorem dX4_doneBy_117 : decode cX4_doneBy 117 = .ok (.goto (-109), 3) := by decide +kernel
theorem dX4_doneBy_120 : decode cX4_doneBy 120 = .ok (.iload_n 3, 1) := by decide +kernel
theorem dX4_doneBy_121 : decode cX4_doneBy 121 = .ok (.aload_n 0, 1) := by decide +kernel
theorem dX4_doneBy_122 : decode cX4_doneBy 122 = .ok (.getfield 13, 3) := by decide +kernel
theorem dX4_doneBy_125 : decode cX4_doneBy 125 = .ok (.bipush 28, 2) := by decide +kernel
theorem dX4_doneBy_127 : decode cX4_doneBy 127 = .ok (.iload_n 2, 1) := by decide +kernel
theorem dX4_doneBy_128 : decode cX4_doneBy 128 = .ok (.iadd, 1) := by decide +kernel
theorem dX4_doneBy_129 : decode cX4_doneBy 129 = .ok (.iaload, 1) := by decide +kernel
theorem dX4_doneBy_130 : decode cX4_doneBy 130 = .ok (.if_icmp .ne 8, 3) := by decide +kernel
theorem dX4_doneBy_133 : decode cX4_doneBy 133 = .ok (.iload 5, 2) := by decide +kernel
theorem dX4_doneBy_135 : decode cX4_doneBy 135 = .ok (.goto 5, 3) := by decide +kernel
theorem dX4_doneBy_138 : decode cX4_doneBy 138 = .ok (.bipush (-4), 2) := by decide +kernel
theorem dX4_doneBy_140 : decode cX4_doneBy 140 = .ok (.ireturn, 1) := by decide +kernel
theorem dX4_done_0 : decode cX4_done 0 = .ok (.aload_n 0, 1) := by decide +kernel
theorem dX4_done_1 : decode cX4_done 1 = .ok (.iload_n 1, 1) := by decide +kernel
theorem dX4_done_2 : decode cX4_done 2 = .ok (.invokevirtual 99, 3) := by decide +kernel
theorem dX4_done_5 : decode cX4_done 5 = .ok (.ifCond .eq 20, 3) := by decide +kernel
theorem dX4_done_8 : decode cX4_done 8 = .ok (.aload_n 0, 1) := by decide +kernel
theorem dX4_done_9 : decode cX4_done 9 = .ok (.iload_n 2, 1) := by decide +kernel
theorem dX4_done_10 : decode cX4_done 10 = .ok (.invokevirtual 123, 3) := by decide +kernel
theorem dX4_done_13 : decode cX4_done 13 = .ok (.ifCond .eq 12, 3) := by decide +kernel
theorem dX4_done_16 : decode cX4_done 16 = .ok (.aload_n 0, 1) := by decide +kernel
theorem dX4_done_17 : decode cX4_done 17 = .ok (.iload_n 1, 1) := by decide +kernel
theorem dX4_done_18 : decode cX4_done 18 = .ok (.iload_n 2, 1) := by decide +kernel
theorem dX4_done_19 : decode cX4_done 19 = .ok (.invokevirtual 126, 3) := by decide +kernel
theorem dX4_done_22 : decode cX4_done 22 = .ok (.goto 4, 3) := by decide +kernel
theorem dX4_done_25 : decode cX4_done 25 = .ok (.iconst (-1), 1) := by decide +kernel
theorem dX4_done_26 : decode cX4_done 26 = .ok (.ireturn, 1) := by decide +kernel
theorem dX4_handed_0 : decode cX4_handed 0 = .ok (.aload_n 0, 1) := by decide +kernel
theorem dX4_handed_1 : decode cX4_handed 1 = .ok (.iload_n 1, 1) := by decide +kernel
theorem dX4_handed_2 : decode cX4_handed 2 = .ok (.invokevirtual 99, 3) := by decide +kernel
theorem dX4_handed_5 : decode cX4_handed 5 = .ok (.ifCond .eq 11, 3) := by decide +kernel
theorem dX4_handed_8 : decode cX4_handed 8 = .ok (.aload_n 0, 1) := by decide +kernel
theorem dX4_handed_9 : decode cX4_handed 9 = .ok (.iload_n 2, 1) := by decide +kernel
theorem dX4_handed_10 : decode cX4_handed 10 = .ok (.invokevirtual 123, 3) := by decide +kernel
theorem dX4_handed_13 : decode cX4_handed 13 = .ok (.ifCond .ne 5, 3) := by decide +kernel
theorem dX4_handed_16 : decode cX4_handed 16 = .ok (.iconst (-1), 1) := by decide +kernel
theorem dX4_handed_17 : decode cX4_handed 17 = .ok (.ireturn, 1) := by decide +kernel
theorem dX4_handed_18 : decode cX4_handed 18 = .ok (.aload_n 0, 1) := by decide +kernel
theorem dX4_handed_19 : decode cX4_handed 19 = .ok (.getfield 13, 3) := by decide +kernel
theorem dX4_handed_22 : decode cX4_handed 22 = .ok (.bipush 28, 2) := by decide +kernel
theorem dX4_handed_24 : decode cX4_handed 24 = .ok (.iload_n 2, 1) := by decide +kernel
theorem dX4_handed_25 : decode cX4_handed 25 = .ok (.iadd, 1) := by decide +kernel
theorem dX4_handed_26 : decode cX4_handed 26 = .ok (.iaload, 1) := by decide +kernel
theorem dX4_handed_27 : decode cX4_handed 27 = .ok (.istore_n 3, 1) := by decide +kernel
theorem dX4_handed_28 : decode cX4_handed 28 = .ok (.bipush (-4), 2) := by decide +kernel
theorem dX4_handed_30 : decode cX4_handed 30 = .ok (.istore 4, 2) := by decide +kernel
theorem dX4_handed_32 : decode cX4_handed 32 = .ok (.iconst 0, 1) := by decide +kernel
theorem dX4_handed_33 : decode cX4_handed 33 = .ok (.istore 5, 2) := by decide +kernel
theorem dX4_handed_35 : decode cX4_handed 35 = .ok (.iload 5, 2) := by decide +kernel
theorem dX4_handed_37 : decode cX4_handed 37 = .ok (.iconst 1, 1) := by decide +kernel
theorem dX4_handed_38 : decode cX4_handed 38 = .ok (.iload_n 3, 1) := by decide +kernel
theorem dX4_handed_39 : decode cX4_handed 39 = .ok (.ishl, 1) := by decide +kernel
theorem dX4_handed_40 : decode cX4_handed 40 = .ok (.if_icmp .ge 122, 3) := by decide +kernel
theorem dX4_handed_43 : decode cX4_handed 43 = .ok (.iconst 1, 1) := by decide +kernel
theorem dX4_handed_44 : decode cX4_handed 44 = .ok (.istore 6, 2) := by decide +kernel
theorem dX4_handed_46 : decode cX4_handed 46 = .ok (.iconst 0, 1) := by decide +kernel
theorem dX4_handed_47 : decode cX4_handed 47 = .ok (.istore 7, 2) := by decide +kernel
theorem dX4_handed_49 : decode cX4_handed 49 = .ok (.iconst 0, 1) := by decide +kernel
theorem dX4_handed_50 : decode cX4_handed 50 = .ok (.istore 8, 2) := by decide +kernel
theorem dX4_handed_52 : decode cX4_handed 52 = .ok (.iload 8, 2) := by decide +kernel
theorem dX4_handed_54 : decode cX4_handed 54 = .ok (.iload_n 3, 1) := by decide +kernel
theorem dX4_handed_55 : decode cX4_handed 55 = .ok (.if_icmp .ge 73, 3) := by decide +kernel
theorem dX4_handed_58 : decode cX4_handed 58 = .ok (.iload 6, 2) := by decide +kernel
theorem dX4_handed_60 : decode cX4_handed 60 = .ok (.ifCond .eq 25, 3) := by decide +kernel
theorem dX4_handed_63 : decode cX4_handed 63 = .ok (.aload_n 0, 1) := by decide +kernel
theorem dX4_handed_64 : decode cX4_handed 64 = .ok (.iload_n 1, 1) := by decide +kernel
theorem dX4_handed_65 : decode cX4_handed 65 = .ok (.iload 5, 2) := by decide +kernel
theorem dX4_handed_67 : decode cX4_handed 67 = .ok (.iload 8, 2) := by decide +kernel
theorem dX4_handed_69 : decode cX4_handed 69 = .ok (.ishr, 1) := by decide +kernel
theorem dX4_handed_70 : decode cX4_handed 70 = .ok (.iconst 1, 1) := by decide +kernel
theorem dX4_handed_71 : decode cX4_handed 71 = .ok (.iand, 1) := by decide +kernel
theorem dX4_handed_72 : decode cX4_handed 72 = .ok (.iload_n 2, 1) := by decide +kernel
theorem dX4_handed_73 : decode cX4_handed 73 = .ok (.iload 8, 2) := by decide +kernel
theorem dX4_handed_75 : decode cX4_handed 75 = .ok (.invokevirtual 119, 3) := by decide +kernel
theorem dX4_handed_78 : decode cX4_handed 78 = .ok (.ifCond .eq 7, 3) := by decide +kernel
theorem dX4_handed_81 : decode cX4_handed 81 = .ok (.iconst 1, 1) := by decide +kernel
theorem dX4_handed_82 : decode cX4_handed 82 = .ok (.goto 4, 3) := by decide +kernel
theorem dX4_handed_85 : decode cX4_handed 85 = .ok (.iconst 0, 1) := by decide +kernel
theorem dX4_handed_86 : decode cX4_handed 86 = .ok (.istore 6, 2) := by decide +kernel
theorem dX4_handed_88 : decode cX4_handed 88 = .ok (.iload 7, 2) := by decide +kernel
theorem dX4_handed_90 : decode cX4_handed 90 = .ok (.iload 8, 2) := by decide +kernel
theorem dX4_handed_92 : decode cX4_handed 92 = .ok (.ifCond .le 26, 3) := by decide +kernel
theorem dX4_handed_95 : decode cX4_handed 95 = .ok (.iload 5, 2) := by decide +kernel
theorem dX4_handed_97 : decode cX4_handed 97 = .ok (.iload 8, 2) := by decide +kernel
theorem dX4_handed_99 : decode cX4_handed 99 = .ok (.ishr, 1) := by decide +kernel
theorem dX4_handed_100 : decode cX4_handed 100 = .ok (.iconst 1, 1) := by decide +kernel
theorem dX4_handed_101 : decode cX4_handed 101 = .ok (.iand, 1) := by decide +kernel
theorem dX4_handed_102 : decode cX4_handed 102 = .ok (.iload 5, 2) := by decide +kernel
theorem dX4_handed_104 : decode cX4_handed 104 = .ok (.iload 8, 2) := by decide +kernel
theorem dX4_handed_106 : decode cX4_handed 106 = .ok (.iconst 1, 1) := by decide +kernel
theorem dX4_handed_107 : decode cX4_handed 107 = .ok (.isub, 1) := by decide +kernel
theorem dX4_handed_108 : decode cX4_handed 108 = .ok (.ishr, 1) := by decide +kernel
theorem dX4_handed_109 : decode cX4_handed 109 = .ok (.iconst 1, 1) := by decide +kernel
theorem dX4_handed_110 : decode cX4_handed 110 = .ok (.iand, 1) := by decide +kernel
theorem dX4_handed_111 : decode cX4_handed 111 = .ok (.if_icmp .eq 7, 3) := by decide +kernel
theorem dX4_handed_114 : decode cX4_handed 114 = .ok (.iconst 1, 1) := by decide +kernel
theorem dX4_handed_115 : decode cX4_handed 115 = .ok (.goto 4, 3) := by decide +kernel
theorem dX4_handed_118 : decode cX4_handed 118 = .ok (.iconst 0, 1) := by decide +kernel
theorem dX4_handed_119 : decode cX4_handed 119 = .ok (.iadd, 1) := by decide +kernel
theorem dX4_handed_120 : decode cX4_handed 120 = .ok (.istore 7, 2) := by decide +kernel
theorem dX4_handed_122 : decode cX4_handed 122 = .ok (.iinc 8 1, 3) := by decide +kernel
theorem dX4_handed_125 : decode cX4_handed 125 = .ok (.goto (-73), 3) := by decide +kernel
theorem dX4_handed_128 : decode cX4_handed 128 = .ok (.iload 6, 2) := by decide +kernel
theorem dX4_handed_130 : decode cX4_handed 130 = .ok (.ifCond .eq 22, 3) := by decide +kernel
theorem dX4_handed_133 : decode cX4_handed 133 = .ok (.iload 4, 2) := by decide +kernel
theorem dX4_handed_135 : decode cX4_handed 135 = .ok (.bipush (-4), 2) := by decide +kernel
theorem dX4_handed_137 : decode cX4_handed 137 = .ok (.if_icmp .eq 10, 3) := by decide +kernel
theorem dX4_handed_140 : decode cX4_handed 140 = .ok (.iload 7, 2) := by decide +kernel
theorem dX4_handed_142 : decode cX4_handed 142 = .ok (.iload 4, 2) := by decide +kernel
theorem dX4_handed_144 : decode cX4_handed 144 = .ok (.if_icmp .ge 8, 3) := by decide +kernel
theorem dX4_handed_147 : decode cX4_handed 147 = .ok (.iload 7, 2) := by decide +kernel
theorem dX4_handed_149 : decode cX4_handed 149 = .ok (.goto 5, 3) := by decide +kernel
theorem dX4_handed_152 : decode cX4_handed 152 = .ok (.iload 4, 2) := by decide +kernel
theorem dX4_handed_154 : decode cX4_handed 154 = .ok (.istore 4, 2) := by decide +kernel
theorem dX4_handed_156 : decode cX4_handed 156 = .ok (.iinc 5 1, 3) := by decide +kernel
theorem dX4_handed_159 : decode cX4_handed 159 = .ok (.goto (-124), 3) := by decide +kernel
theorem dX4_handed_162 : decode cX4_handed 162 = .ok (.iload 4, 2) := by decide +kernel
theorem dX4_handed_164 : decode cX4_handed 164 = .ok (.ireturn, 1) := by decide +kernel
theorem dX4_best_0 : decode cX4_best 0 = .ok (.aload_n 0, 1) := by decide +kernel
theorem dX4_best_1 : decode cX4_best 1 = .ok (.iload_n 1, 1) := by decide +kernel
theorem dX4_best_2 : decode cX4_best 2 = .ok (.invokevirtual 123, 3) := by decide +kernel
theorem dX4_best_5 : decode cX4_best 5 = .ok (.ifCond .ne 5, 3) := by decide +kernel
theorem dX4_best_8 : decode cX4_best 8 = .ok (.iconst (-1), 1) := by decide +kernel
theorem dX4_best_9 : decode cX4_best 9 = .ok (.ireturn, 1) := by decide +kernel
theorem dX4_best_10 : decode cX4_best 10 = .ok (.bipush (-4), 2) := by decide +kernel
theorem dX4_best_12 : decode cX4_best 12 = .ok (.istore_n 2, 1) := by decide +kernel
theorem dX4_best_13 : decode cX4_best 13 = .ok (.iconst 0, 1) := by decide +kernel
theorem dX4_best_14 : decode cX4_best 14 = .ok (.istore_n 3, 1) := by decide +kernel
theorem dX4_best_15 : decode cX4_best 15 = .ok (.aload_n 0, 1) := by decide +kernel
theorem dX4_best_16 : decode cX4_best 16 = .ok (.getfield 13, 3) := by decide +kernel
theorem dX4_best_19 : decode cX4_best 19 = .ok (.iconst 0, 1) := by decide +kernel
theorem dX4_best_20 : decode cX4_best 20 = .ok (.iaload, 1) := by decide +kernel
theorem dX4_best_21 : decode cX4_best 21 = .ok (.iconst 1, 1) := by decide +kernel
theorem dX4_best_22 : decode cX4_best 22 = .ok (.isub, 1) := by decide +kernel
theorem dX4_best_23 : decode cX4_best 23 = .ok (.istore 4, 2) := by decide +kernel
theorem dX4_best_25 : decode cX4_best 25 = .ok (.iload 4, 2) := by decide +kernel
theorem dX4_best_27 : decode cX4_best 27 = .ok (.ifCond .lt 68, 3) := by decide +kernel
theorem dX4_best_30 : decode cX4_best 30 = .ok (.aload_n 0, 1) := by decide +kernel
theorem dX4_best_31 : decode cX4_best 31 = .ok (.iload 4, 2) := by decide +kernel
theorem dX4_best_33 : decode cX4_best 33 = .ok (.iload_n 1, 1) := by decide +kernel
theorem dX4_best_34 : decode cX4_best 34 = .ok (.invokevirtual 126, 3) := by decide +kernel
theorem dX4_best_37 : decode cX4_best 37 = .ok (.istore 5, 2) := by decide +kernel
theorem dX4_best_39 : decode cX4_best 39 = .ok (.iload 5, 2) := by decide +kernel
theorem dX4_best_41 : decode cX4_best 41 = .ok (.bipush (-4), 2) := by decide +kernel
theorem dX4_best_43 : decode cX4_best 43 = .ok (.if_icmp .eq 19, 3) := by decide +kernel
theorem dX4_best_46 : decode cX4_best 46 = .ok (.iload_n 2, 1) := by decide +kernel
theorem dX4_best_47 : decode cX4_best 47 = .ok (.bipush (-4), 2) := by decide +kernel
theorem dX4_best_49 : decode cX4_best 49 = .ok (.if_icmp .eq 9, 3) := by decide +kernel
theorem dX4_best_52 : decode cX4_best 52 = .ok (.iload 5, 2) := by decide +kernel
theorem dX4_best_54 : decode cX4_best 54 = .ok (.iload_n 3, 1) := by decide +kernel
theorem dX4_best_55 : decode cX4_best 55 = .ok (.if_icmp .gt 7, 3) := by decide +kernel
theorem dX4_best_58 : decode cX4_best 58 = .ok (.iconst 1, 1) := by decide +kernel
theorem dX4_best_59 : decode cX4_best 59 = .ok (.goto 4, 3) := by decide +kernel
theorem dX4_best_62 : decode cX4_best 62 = .ok (.iconst 0, 1) := by decide +kernel
theorem dX4_best_63 : decode cX4_best 63 = .ok (.istore 6, 2) := by decide +kernel
theorem dX4_best_65 : decode cX4_best 65 = .ok (.iload 6, 2) := by decide +kernel
theorem dX4_best_67 : decode cX4_best 67 = .ok (.ifCond .eq 8, 3) := by decide +kernel
theorem dX4_best_70 : decode cX4_best 70 = .ok (.iload 4, 2) := by decide +kernel
theorem dX4_best_72 : decode cX4_best 72 = .ok (.goto 4, 3) := by decide +kernel
theorem dX4_best_75 : decode cX4_best 75 = .ok (.iload_n 2, 1) := by decide +kernel
theorem dX4_best_76 : decode cX4_best 76 = .ok (.istore_n 2, 1) := by decide +kernel
theorem dX4_best_77 : decode cX4_best 77 = .ok (.iload 6, 2) := by decide +kernel
theorem dX4_best_79 : decode cX4_best 79 = .ok (.ifCond .eq 8, 3) := by decide +kernel
theorem dX4_best_82 : decode cX4_best 82 = .ok (.iload 5, 2) := by decide +kernel
theorem dX4_best_84 : decode cX4_best 84 = .ok (.goto 4, 3) := by decide +kernel
theorem dX4_best_87 : decode cX4_best 87 = .ok (.iload_n 3, 1) := by decide +kernel
theorem dX4_best_88 : decode cX4_best 88 = .ok (.istore_n 3, 1) := by decide +kernel
theorem dX4_best_89 : decode cX4_best 89 = .ok (.iinc 4 (-1), 3) := by decide +kernel
theorem dX4_best_92 : decode cX4_best 92 = .ok (.goto (-67), 3) := by decide +kernel
theorem dX4_best_95 : decode cX4_best 95 = .ok (.iload_n 2, 1) := by decide +kernel
theorem dX4_best_96 : decode cX4_best 96 = .ok (.ireturn, 1) := by decide +kernel
theorem dX4_knows_0 : decode cX4_knows 0 = .ok (.iload_n 1, 1) := by decide +kernel
theorem dX4_knows_1 : decode cX4_knows 1 = .ok (.iconst 0, 1) := by decide +kernel
theorem dX4_knows_2 : decode cX4_knows 2 = .ok (.bipush 40, 2) := by decide +kernel
theorem dX4_knows_4 : decode cX4_knows 4 = .ok (.invokestatic 40, 3) := by decide +kernel
theorem dX4_knows_7 : decode cX4_knows 7 = .ok (.ifCond .eq 20, 3) := by decide +kernel
theorem dX4_knows_10 : decode cX4_knows 10 = .ok (.aload_n 0, 1) := by decide +kernel
theorem dX4_knows_11 : decode cX4_knows 11 = .ok (.iload_n 2, 1) := by decide +kernel
theorem dX4_knows_12 : decode cX4_knows 12 = .ok (.invokevirtual 99, 3) := by decide +kernel
theorem dX4_knows_15 : decode cX4_knows 15 = .ok (.ifCond .eq 12, 3) := by decide +kernel
theorem dX4_knows_18 : decode cX4_knows 18 = .ok (.iload_n 3, 1) := by decide +kernel
theorem dX4_knows_19 : decode cX4_knows 19 = .ok (.iconst 0, 1) := by decide +kernel
theorem dX4_knows_20 : decode cX4_knows 20 = .ok (.iconst 1, 1) := by decide +kernel
theorem dX4_knows_21 : decode cX4_knows 21 = .ok (.invokestatic 40, 3) := by decide +kernel
theorem dX4_knows_24 : decode cX4_knows 24 = .ok (.ifCond .ne 5, 3) := by decide +kernel
theorem dX4_knows_27 : decode cX4_knows 27 = .ok (.iconst (-1), 1) := by decide +kernel
theorem dX4_knows_28 : decode cX4_knows 28 = .ok (.ireturn, 1) := by decide +kernel
theorem dX4_knows_29 : decode cX4_knows 29 = .ok (.aload_n 0, 1) := by decide +kernel
theorem dX4_knows_30 : decode cX4_knows 30 = .ok (.iload_n 1, 1) := by decide +kernel
theorem dX4_knows_31 : decode cX4_knows 31 = .ok (.invokevirtual 115, 3) := by decide +kernel
theorem dX4_knows_34 : decode cX4_knows 34 = .ok (.aload_n 0, 1) := by decide +kernel
theorem dX4_knows_35 : decode cX4_knows 35 = .ok (.getfield 22, 3) := by decide +kernel
theorem dX4_knows_38 : decode cX4_knows 38 = .ok (.iconst 1, 1) := by decide +kernel
theorem dX4_knows_39 : decode cX4_knows 39 = .ok (.iconst 2, 1) := by decide +kernel
theorem dX4_knows_40 : decode cX4_knows 40 = .ok (.iload_n 2, 1) := by decide +kernel
theorem dX4_knows_41 : decode cX4_knows 41 = .ok (.imul, 1) := by decide +kernel
theorem dX4_knows_42 : decode cX4_knows 42 = .ok (.iadd, 1) := by decide +kernel
theorem dX4_knows_43 : decode cX4_knows 43 = .ok (.iload_n 3, 1) := by decide +kernel
theorem dX4_knows_44 : decode cX4_knows 44 = .ok (.iadd, 1) := by decide +kernel
theorem dX4_knows_45 : decode cX4_knows 45 = .ok (.iaload, 1) := by decide +kernel
theorem dX4_knows_46 : decode cX4_knows 46 = .ok (.ireturn, 1) := by decide +kernel
theorem dX4_whoKnow_0 : decode cX4_whoKnow 0 = .ok (.iconst 0, 1) := by decide +kernel
theorem dX4_whoKnow_1 : decode cX4_whoKnow 1 = .ok (.istore_n 2, 1) := by decide +kernel
theorem dX4_whoKnow_2 : decode cX4_whoKnow 2 = .ok (.iconst 0, 1) := by decide +kernel
theorem dX4_whoKnow_3 : decode cX4_whoKnow 3 = .ok (.istore_n 3, 1) := by decide +kernel
theorem dX4_whoKnow_4 : decode cX4_whoKnow 4 = .ok (.iload_n 3, 1) := by decide +kernel
theorem dX4_whoKnow_5 : decode cX4_whoKnow 5 = .ok (.aload_n 0, 1) := by decide +kernel
theorem dX4_whoKnow_6 : decode cX4_whoKnow 6 = .ok (.getfield 13, 3) := by decide +kernel
theorem dX4_whoKnow_9 : decode cX4_whoKnow 9 = .ok (.iconst 0, 1) := by decide +kernel
theorem dX4_whoKnow_10 : decode cX4_whoKnow 10 = .ok (.iaload, 1) := by decide +kernel
theorem dX4_whoKnow_11 : decode cX4_whoKnow 11 = .ok (.if_icmp .ge 45, 3) := by decide +kernel
theorem dX4_whoKnow_14 : decode cX4_whoKnow 14 = .ok (.iload_n 2, 1) := by decide +kernel
theorem dX4_whoKnow_15 : decode cX4_whoKnow 15 = .ok (.iload_n 1, 1) := by decide +kernel
theorem dX4_whoKnow_16 : decode cX4_whoKnow 16 = .ok (.aload_n 0, 1) := by decide +kernel
theorem dX4_whoKnow_17 : decode cX4_whoKnow 17 = .ok (.getfield 22, 3) := by decide +kernel
theorem dX4_whoKnow_20 : decode cX4_whoKnow 20 = .ok (.iconst 1, 1) := by decide +kernel
theorem dX4_whoKnow_21 : decode cX4_whoKnow 21 = .ok (.iconst 2, 1) := by decide +kernel
theorem dX4_whoKnow_22 : decode cX4_whoKnow 22 = .ok (.iload_n 3, 1) := by decide +kernel
theorem dX4_whoKnow_23 : decode cX4_whoKnow 23 = .ok (.imul, 1) := by decide +kernel
theorem dX4_whoKnow_24 : decode cX4_whoKnow 24 = .ok (.iadd, 1) := by decide +kernel
theorem dX4_whoKnow_25 : decode cX4_whoKnow 25 = .ok (.aload_n 0, 1) := by decide +kernel
theorem dX4_whoKnow_26 : decode cX4_whoKnow 26 = .ok (.getfield 22, 3) := by decide +kernel
theorem dX4_whoKnow_29 : decode cX4_whoKnow 29 = .ok (.iconst 0, 1) := by decide +kernel
theorem dX4_whoKnow_30 : decode cX4_whoKnow 30 = .ok (.iaload, 1) := by decide +kernel
theorem dX4_whoKnow_31 : decode cX4_whoKnow 31 = .ok (.iconst 2, 1) := by decide +kernel
theorem dX4_whoKnow_32 : decode cX4_whoKnow 32 = .ok (.irem, 1) := by decide +kernel
theorem dX4_whoKnow_33 : decode cX4_whoKnow 33 = .ok (.iadd, 1) := by decide +kernel
theorem dX4_whoKnow_34 : decode cX4_whoKnow 34 = .ok (.iaload, 1) := by decide +kernel
theorem dX4_whoKnow_35 : decode cX4_whoKnow 35 = .ok (.iconst (-1), 1) := by decide +kernel
theorem dX4_whoKnow_36 : decode cX4_whoKnow 36 = .ok (.ixor, 1) := by decide +kernel
theorem dX4_whoKnow_37 : decode cX4_whoKnow 37 = .ok (.iand, 1) := by decide +kernel
theorem dX4_whoKnow_38 : decode cX4_whoKnow 38 = .ok (.ifCond .ne 9, 3) := by decide +kernel
theorem dX4_whoKnow_41 : decode cX4_whoKnow 41 = .ok (.iconst 1, 1) := by decide +kernel
theorem dX4_whoKnow_42 : decode cX4_whoKnow 42 = .ok (.iload_n 3, 1) := by decide +kernel
theorem dX4_whoKnow_43 : decode cX4_whoKnow 43 = .ok (.ishl, 1) := by decide +kernel
theorem dX4_whoKnow_44 : decode cX4_whoKnow 44 = .ok (.goto 4, 3) := by decide +kernel
theorem dX4_whoKnow_47 : decode cX4_whoKnow 47 = .ok (.iconst 0, 1) := by decide +kernel
theorem dX4_whoKnow_48 : decode cX4_whoKnow 48 = .ok (.ior, 1) := by decide +kernel
theorem dX4_whoKnow_49 : decode cX4_whoKnow 49 = .ok (.istore_n 2, 1) := by decide +kernel
theorem dX4_whoKnow_50 : decode cX4_whoKnow 50 = .ok (.iinc 3 1, 3) := by decide +kernel
theorem dX4_whoKnow_53 : decode cX4_whoKnow 53 = .ok (.goto (-49), 3) := by decide +kernel
theorem dX4_whoKnow_56 : decode cX4_whoKnow 56 = .ok (.iload_n 2, 1) := by decide +kernel
theorem dX4_whoKnow_57 : decode cX4_whoKnow 57 = .ok (.ireturn, 1) := by decide +kernel
theorem dX4_could_0 : decode cX4_could 0 = .ok (.iload_n 1, 1) := by decide +kernel
theorem dX4_could_1 : decode cX4_could 1 = .ok (.iconst 0, 1) := by decide +kernel
theorem dX4_could_2 : decode cX4_could 2 = .ok (.bipush 40, 2) := by decide +kernel
theorem dX4_could_4 : decode cX4_could 4 = .ok (.invokestatic 40, 3) := by decide +kernel
theorem dX4_could_7 : decode cX4_could 7 = .ok (.ifCond .eq 10, 3) := by decide +kernel
theorem dX4_could_10 : decode cX4_could 10 = .ok (.iload_n 2, 1) := by decide +kernel
theorem dX4_could_11 : decode cX4_could 11 = .ok (.invokestatic 105, 3) := by decide +kernel
theorem dX4_could_14 : decode cX4_could 14 = .ok (.ifCond .ne 5, 3) := by decide +kernel
theorem dX4_could_17 : decode cX4_could 17 = .ok (.iconst (-1), 1) := by decide +kernel
theorem dX4_could_18 : decode cX4_could 18 = .ok (.ireturn, 1) := by decide +kernel
theorem dX4_could_19 : decode cX4_could 19 = .ok (.aload_n 0, 1) := by decide +kernel
theorem dX4_could_20 : decode cX4_could 20 = .ok (.iload_n 1, 1) := by decide +kernel
theorem dX4_could_21 : decode cX4_could 21 = .ok (.invokevirtual 115, 3) := by decide +kernel
theorem dX4_could_24 : decode cX4_could 24 = .ok (.aload_n 0, 1) := by decide +kernel
theorem dX4_could_25 : decode cX4_could 25 = .ok (.iload_n 2, 1) := by decide +kernel
theorem dX4_could_26 : decode cX4_could 26 = .ok (.invokevirtual 129, 3) := by decide +kernel
theorem dX4_could_29 : decode cX4_could 29 = .ok (.ireturn, 1) := by decide +kernel
theorem dX4_alike_0 : decode cX4_alike 0 = .ok (.aload_n 0, 1) := by decide +kernel
theorem dX4_alike_1 : decode cX4_alike 1 = .ok (.iload_n 1, 1) := by decide +kernel
theorem dX4_alike_2 : decode cX4_alike 2 = .ok (.invokevirtual 99, 3) := by decide +kernel
theorem dX4_alike_5 : decode cX4_alike 5 = .ok (.ifCond .ne 5, 3) := by decide +kernel
theorem dX4_alike_8 : decode cX4_alike 8 = .ok (.iconst (-1), 1) := by decide +kernel
theorem dX4_alike_9 : decode cX4_alike 9 = .ok (.ireturn, 1) := by decide +kernel
theorem dX4_alike_10 : decode cX4_alike 10 = .ok (.aload_n 0, 1) := by decide +kernel
theorem dX4_alike_11 : decode cX4_alike 11 = .ok (.iconst 0, 1) := by decide +kernel
theorem dX4_alike_12 : decode cX4_alike 12 = .ok (.invokevirtual 115, 3) := by decide +kernel
theorem dX4_alike_15 : decode cX4_alike 15 = .ok (.iconst 0, 1) := by decide +kernel
theorem dX4_alike_16 : decode cX4_alike 16 = .ok (.istore_n 2, 1) := by decide +kernel
theorem dX4_alike_17 : decode cX4_alike 17 = .ok (.iload_n 2, 1) := by decide +kernel
theorem dX4_alike_18 : decode cX4_alike 18 = .ok (.bipush 40, 2) := by decide +kernel
theorem dX4_alike_20 : decode cX4_alike 20 = .ok (.if_icmp .ge 36, 3) := by decide +kernel
theorem dX4_alike_23 : decode cX4_alike 23 = .ok (.aload_n 0, 1) := by decide +kernel
theorem dX4_alike_24 : decode cX4_alike 24 = .ok (.getfield 22, 3) := by decide +kernel
theorem dX4_alike_27 : decode cX4_alike 27 = .ok (.iconst 1, 1) := by decide +kernel
theorem dX4_alike_28 : decode cX4_alike 28 = .ok (.iconst 2, 1) := by decide +kernel
theorem dX4_alike_29 : decode cX4_alike 29 = .ok (.iload_n 1, 1) := by decide +kernel
theorem dX4_alike_30 : decode cX4_alike 30 = .ok (.imul, 1) := by decide +kernel
theorem dX4_alike_31 : decode cX4_alike 31 = .ok (.iadd, 1) := by decide +kernel
theorem dX4_alike_32 : decode cX4_alike 32 = .ok (.iaload, 1) := by decide +kernel
theorem dX4_alike_33 : decode cX4_alike 33 = .ok (.aload_n 0, 1) := by decide +kernel
theorem dX4_alike_34 : decode cX4_alike 34 = .ok (.getfield 22, 3) := by decide +kernel
theorem dX4_alike_37 : decode cX4_alike 37 = .ok (.iconst 2, 1) := by decide +kernel
theorem dX4_alike_38 : decode cX4_alike 38 = .ok (.iconst 2, 1) := by decide +kernel
theorem dX4_alike_39 : decode cX4_alike 39 = .ok (.iload_n 1, 1) := by decide +kernel
theorem dX4_alike_40 : decode cX4_alike 40 = .ok (.imul, 1) := by decide +kernel
theorem dX4_alike_41 : decode cX4_alike 41 = .ok (.iadd, 1) := by decide +kernel
theorem dX4_alike_42 : decode cX4_alike 42 = .ok (.iaload, 1) := by decide +kernel
theorem dX4_alike_43 : decode cX4_alike 43 = .ok (.if_icmp .eq 13, 3) := by decide +kernel
theorem dX4_alike_46 : decode cX4_alike 46 = .ok (.aload_n 0, 1) := by decide +kernel
theorem dX4_alike_47 : decode cX4_alike 47 = .ok (.invokevirtual 112, 3) := by decide +kernel
theorem dX4_alike_50 : decode cX4_alike 50 = .ok (.iinc 2 1, 3) := by decide +kernel
theorem dX4_alike_53 : decode cX4_alike 53 = .ok (.goto (-36), 3) := by decide +kernel
theorem dX4_alike_56 : decode cX4_alike 56 = .ok (.aload_n 0, 1) := by decide +kernel
theorem dX4_alike_57 : decode cX4_alike 57 = .ok (.getfield 22, 3) := by decide +kernel
theorem dX4_alike_60 : decode cX4_alike 60 = .ok (.iconst 1, 1) := by decide +kernel
theorem dX4_alike_61 : decode cX4_alike 61 = .ok (.iconst 2, 1) := by decide +kernel
theorem dX4_alike_62 : decode cX4_alike 62 = .ok (.iload_n 1, 1) := by decide +kernel
theorem dX4_alike_63 : decode cX4_alike 63 = .ok (.imul, 1) := by decide +kernel
theorem dX4_alike_64 : decode cX4_alike 64 = .ok (.iadd, 1) := by decide +kernel
theorem dX4_alike_65 : decode cX4_alike 65 = .ok (.iaload, 1) := by decide +kernel
theorem dX4_alike_66 : decode cX4_alike 66 = .ok (.aload_n 0, 1) := by decide +kernel
theorem dX4_alike_67 : decode cX4_alike 67 = .ok (.getfield 22, 3) := by decide +kernel
theorem dX4_alike_70 : decode cX4_alike 70 = .ok (.iconst 2, 1) := by decide +kernel
theorem dX4_alike_71 : decode cX4_alike 71 = .ok (.iconst 2, 1) := by decide +kernel
theorem dX4_alike_72 : decode cX4_alike 72 = .ok (.iload_n 1, 1) := by decide +kernel
theorem dX4_alike_73 : decode cX4_alike 73 = .ok (.imul, 1) := by decide +kernel
theorem dX4_alike_74 : decode cX4_alike 74 = .ok (.iadd, 1) := by decide +kernel
theorem dX4_alike_75 : decode cX4_alike 75 = .ok (.iaload, 1) := by decide +kernel
theorem dX4_alike_76 : decode cX4_alike 76 = .ok (.if_icmp .ne 7, 3) := by decide +kernel
theorem dX4_alike_79 : decode cX4_alike 79 = .ok (.iload_n 2, 1) := by decide +kernel
theorem dX4_alike_80 : decode cX4_alike 80 = .ok (.goto 5, 3) := by decide +kernel
theorem dX4_alike_83 : decode cX4_alike 83 = .ok (.bipush (-4), 2) := by decide +kernel
theorem dX4_alike_85 : decode cX4_alike 85 = .ok (.ireturn, 1) := by decide +kernel
theorem dX4_holds_0 : decode cX4_holds 0 = .ok (.aload_n 0, 1) := by decide +kernel
theorem dX4_holds_1 : decode cX4_holds 1 = .ok (.getfield 13, 3) := by decide +kernel
theorem dX4_holds_4 : decode cX4_holds 4 = .ok (.iconst 5, 1) := by decide +kernel
theorem dX4_holds_5 : decode cX4_holds 5 = .ok (.iaload, 1) := by decide +kernel
theorem dX4_holds_6 : decode cX4_holds 6 = .ok (.iload_n 1, 1) := by decide +kernel
theorem dX4_holds_7 : decode cX4_holds 7 = .ok (.isub, 1) := by decide +kernel
theorem dX4_holds_8 : decode cX4_holds 8 = .ok (.iload_n 2, 1) := by decide +kernel
theorem dX4_holds_9 : decode cX4_holds 9 = .ok (.isub, 1) := by decide +kernel
theorem dX4_holds_10 : decode cX4_holds 10 = .ok (.istore 4, 2) := by decide +kernel
theorem dX4_holds_12 : decode cX4_holds 12 = .ok (.iload 4, 2) := by decide +kernel
theorem dX4_holds_14 : decode cX4_holds 14 = .ok (.ifCond .ge 7, 3) := by decide +kernel
theorem dX4_holds_17 : decode cX4_holds 17 = .ok (.iconst 0, 1) := by decide +kernel
theorem dX4_holds_18 : decode cX4_holds 18 = .ok (.goto 33, 3) := by decide +kernel
theorem dX4_holds_21 : decode cX4_holds 21 = .ok (.iload_n 3, 1) := by decide +kernel
theorem dX4_holds_22 : decode cX4_holds 22 = .ok (.ifCond .ne 15, 3) := by decide +kernel
theorem dX4_holds_25 : decode cX4_holds 25 = .ok (.iload_n 1, 1) := by decide +kernel
theorem dX4_holds_26 : decode cX4_holds 26 = .ok (.aload_n 0, 1) := by decide +kernel
theorem dX4_holds_27 : decode cX4_holds 27 = .ok (.getfield 13, 3) := by decide +kernel
theorem dX4_holds_30 : decode cX4_holds 30 = .ok (.bipush 6, 2) := by decide +kernel
theorem dX4_holds_32 : decode cX4_holds 32 = .ok (.iaload, 1) := by decide +kernel
theorem dX4_holds_33 : decode cX4_holds 33 = .ok (.imul, 1) := by decide +kernel
theorem dX4_holds_34 : decode cX4_holds 34 = .ok (.goto 12, 3) := by decide +kernel
theorem dX4_holds_37 : decode cX4_holds 37 = .ok (.iload_n 2, 1) := by decide +kernel
theorem dX4_holds_38 : decode cX4_holds 38 = .ok (.aload_n 0, 1) := by decide +kernel
theorem dX4_holds_39 : decode cX4_holds 39 = .ok (.getfield 13, 3) := by decide +kernel
theorem dX4_holds_42 : decode cX4_holds 42 = .ok (.bipush 7, 2) := by decide +kernel
theorem dX4_holds_44 : decode cX4_holds 44 = .ok (.iaload, 1) := by decide +kernel
theorem dX4_holds_45 : decode cX4_holds 45 = .ok (.imul, 1) := by decide +kernel
theorem dX4_holds_46 : decode cX4_holds 46 = .ok (.iload 4, 2) := by decide +kernel
theorem dX4_holds_48 : decode cX4_holds 48 = .ok (.iconst 2, 1) := by decide +kernel
theorem dX4_holds_49 : decode cX4_holds 49 = .ok (.idiv, 1) := by decide +kernel
theorem dX4_holds_50 : decode cX4_holds 50 = .ok (.iadd, 1) := by decide +kernel
theorem dX4_holds_51 : decode cX4_holds 51 = .ok (.ireturn, 1) := by decide +kernel
theorem dX4_purse_0 : decode cX4_purse 0 = .ok (.iload_n 1, 1) := by decide +kernel
theorem dX4_purse_1 : decode cX4_purse 1 = .ok (.iconst 0, 1) := by decide +kernel
theorem dX4_purse_2 : decode cX4_purse 2 = .ok (.bipush 9, 2) := by decide +kernel
theorem dX4_purse_4 : decode cX4_purse 4 = .ok (.invokestatic 40, 3) := by decide +kernel
theorem dX4_purse_7 : decode cX4_purse 7 = .ok (.ifCond .eq 32, 3) := by decide +kernel
theorem dX4_purse_10 : decode cX4_purse 10 = .ok (.iload_n 2, 1) := by decide +kernel
theorem dX4_purse_11 : decode cX4_purse 11 = .ok (.iconst 0, 1) := by decide +kernel
theorem dX4_purse_12 : decode cX4_purse 12 = .ok (.bipush 9, 2) := by decide +kernel
theorem dX4_purse_14 : decode cX4_purse 14 = .ok (.invokestatic 40, 3) := by decide +kernel
theorem dX4_purse_17 : decode cX4_purse 17 = .ok (.ifCond .eq 22, 3) := by decide +kernel
theorem dX4_purse_20 : decode cX4_purse 20 = .ok (.iload_n 3, 1) := by decide +kernel
theorem dX4_purse_21 : decode cX4_purse 21 = .ok (.iconst 0, 1) := by decide +kernel
theorem dX4_purse_22 : decode cX4_purse 22 = .ok (.iconst 1, 1) := by decide +kernel
theorem dX4_purse_23 : decode cX4_purse 23 = .ok (.invokestatic 40, 3) := by decide +kernel
theorem dX4_purse_26 : decode cX4_purse 26 = .ok (.ifCond .eq 13, 3) := by decide +kernel
theorem dX4_purse_29 : decode cX4_purse 29 = .ok (.aload_n 0, 1) := by decide +kernel
theorem dX4_purse_30 : decode cX4_purse 30 = .ok (.iload_n 1, 1) := by decide +kernel
theorem dX4_purse_31 : decode cX4_purse 31 = .ok (.iload_n 2, 1) := by decide +kernel
theorem dX4_purse_32 : decode cX4_purse 32 = .ok (.iload_n 3, 1) := by decide +kernel
theorem dX4_purse_33 : decode cX4_purse 33 = .ok (.invokevirtual 132, 3) := by decide +kernel
theorem dX4_purse_36 : decode cX4_purse 36 = .ok (.goto 4, 3) := by decide +kernel
theorem dX4_purse_39 : decode cX4_purse 39 = .ok (.iconst (-1), 1) := by decide +kernel
theorem dX4_purse_40 : decode cX4_purse 40 = .ok (.ireturn, 1) := by decide +kernel
theorem dX4_rest_0 : decode cX4_rest 0 = .ok (.iconst 1, 1) := by decide +kernel
theorem dX4_rest_1 : decode cX4_rest 1 = .ok (.istore_n 3, 1) := by decide +kernel
theorem dX4_rest_2 : decode cX4_rest 2 = .ok (.iconst 0, 1) := by decide +kernel
theorem dX4_rest_3 : decode cX4_rest 3 = .ok (.istore 4, 2) := by decide +kernel
theorem dX4_rest_5 : decode cX4_rest 5 = .ok (.iload 4, 2) := by decide +kernel
theorem dX4_rest_7 : decode cX4_rest 7 = .ok (.bipush 10, 2) := by decide +kernel
theorem dX4_rest_9 : decode cX4_rest 9 = .ok (.if_icmp .ge 55, 3) := by decide +kernel
theorem dX4_rest_12 : decode cX4_rest 12 = .ok (.iload_n 3, 1) := by decide +kernel
theorem dX4_rest_13 : decode cX4_rest 13 = .ok (.ifCond .eq 43, 3) := by decide +kernel
theorem dX4_rest_16 : decode cX4_rest 16 = .ok (.aload_n 0, 1) := by decide +kernel
theorem dX4_rest_17 : decode cX4_rest 17 = .ok (.iload 4, 2) := by decide +kernel
theorem dX4_rest_19 : decode cX4_rest 19 = .ok (.iload_n 2, 1) := by decide +kernel
theorem dX4_rest_20 : decode cX4_rest 20 = .ok (.iconst 0, 1) := by decide +kernel
theorem dX4_rest_21 : decode cX4_rest 21 = .ok (.invokevirtual 132, 3) := by decide +kernel
theorem dX4_rest_24 : decode cX4_rest 24 = .ok (.aload_n 0, 1) := by decide +kernel
theorem dX4_rest_25 : decode cX4_rest 25 = .ok (.iload_n 1, 1) := by decide +kernel
theorem dX4_rest_26 : decode cX4_rest 26 = .ok (.iload_n 2, 1) := by decide +kernel
theorem dX4_rest_27 : decode cX4_rest 27 = .ok (.iconst 0, 1) := by decide +kernel
theorem dX4_rest_28 : decode cX4_rest 28 = .ok (.invokevirtual 132, 3) := by decide +kernel
theorem dX4_rest_31 : decode cX4_rest 31 = .ok (.if_icmp .gt 25, 3) := by decide +kernel
theorem dX4_rest_34 : decode cX4_rest 34 = .ok (.aload_n 0, 1) := by decide +kernel
theorem dX4_rest_35 : decode cX4_rest 35 = .ok (.iload_n 1, 1) := by decide +kernel
theorem dX4_rest_36 : decode cX4_rest 36 = .ok (.iload 4, 2) := by decide +kernel
theorem dX4_rest_38 : decode cX4_rest 38 = .ok (.iconst 1, 1) := by decide +kernel
theorem dX4_rest_39 : decode cX4_rest 39 = .ok (.invokevirtual 132, 3) := by decide +kernel
theorem dX4_rest_42 : decode cX4_rest 42 = .ok (.aload_n 0, 1) := by decide +kernel
theorem dX4_rest_43 : decode cX4_rest 43 = .ok (.iload_n 1, 1) := by decide +kernel
theorem dX4_rest_44 : decode cX4_rest 44 = .ok (.iload_n 2, 1) := by decide +kernel
theorem dX4_rest_45 : decode cX4_rest 45 = .ok (.iconst 1, 1) := by decide +kernel
theorem dX4_rest_46 : decode cX4_rest 46 = .ok (.invokevirtual 132, 3) := by decide +kernel
theorem dX4_rest_49 : decode cX4_rest 49 = .ok (.if_icmp .gt 7, 3) := by decide +kernel
theorem dX4_rest_52 : decode cX4_rest 52 = .ok (.iconst 1, 1) := by decide +kernel
theorem dX4_rest_53 : decode cX4_rest 53 = .ok (.goto 4, 3) := by decide +kernel
theorem dX4_rest_56 : decode cX4_rest 56 = .ok (.iconst 0, 1) := by decide +kernel
theorem dX4_rest_57 : decode cX4_rest 57 = .ok (.istore_n 3, 1) := by decide +kernel
theorem dX4_rest_58 : decode cX4_rest 58 = .ok (.iinc 4 1, 3) := by decide +kernel
theorem dX4_rest_61 : decode cX4_rest 61 = .ok (.goto (-56), 3) := by decide +kernel
theorem dX4_rest_64 : decode cX4_rest 64 = .ok (.iload_n 3, 1) := by decide +kernel
theorem dX4_rest_65 : decode cX4_rest 65 = .ok (.ireturn, 1) := by decide +kernel
theorem dX4_rests_0 : decode cX4_rests 0 = .ok (.iload_n 1, 1) := by decide +kernel
theorem dX4_rests_1 : decode cX4_rests 1 = .ok (.iconst 0, 1) := by decide +kernel
theorem dX4_rests_2 : decode cX4_rests 2 = .ok (.iconst 2, 1) := by decide +kernel
theorem dX4_rests_3 : decode cX4_rests 3 = .ok (.invokestatic 40, 3) := by decide +kernel
theorem dX4_rests_6 : decode cX4_rests 6 = .ok (.ifCond .ne 5, 3) := by decide +kernel
theorem dX4_rests_9 : decode cX4_rests 9 = .ok (.iconst (-1), 1) := by decide +kernel
theorem dX4_rests_10 : decode cX4_rests 10 = .ok (.ireturn, 1) := by decide +kernel
theorem dX4_rests_11 : decode cX4_rests 11 = .ok (.iconst 0, 1) := by decide +kernel
theorem dX4_rests_12 : decode cX4_rests 12 = .ok (.istore_n 2, 1) := by decide +kernel
theorem dX4_rests_13 : decode cX4_rests 13 = .ok (.bipush (-4), 2) := by decide +kernel
theorem dX4_rests_15 : decode cX4_rests 15 = .ok (.istore_n 3, 1) := by decide +kernel
theorem dX4_rests_16 : decode cX4_rests 16 = .ok (.bipush 99, 2) := by decide +kernel
theorem dX4_rests_18 : decode cX4_rests 18 = .ok (.istore 4, 2) := by decide +kernel
theorem dX4_rests_20 : decode cX4_rests 20 = .ok (.iload 4, 2) := by decide +kernel
theorem dX4_rests_22 : decode cX4_rests 22 = .ok (.ifCond .lt 32, 3) := by decide +kernel
theorem dX4_rests_25 : decode cX4_rests 25 = .ok (.aload_n 0, 1) := by decide +kernel
theorem dX4_rests_26 : decode cX4_rests 26 = .ok (.iload 4, 2) := by decide +kernel
theorem dX4_rests_28 : decode cX4_rests 28 = .ok (.bipush 10, 2) := by decide +kernel
theorem dX4_rests_30 : decode cX4_rests 30 = .ok (.idiv, 1) := by decide +kernel
theorem dX4_rests_31 : decode cX4_rests 31 = .ok (.iload 4, 2) := by decide +kernel
theorem dX4_rests_33 : decode cX4_rests 33 = .ok (.bipush 10, 2) := by decide +kernel
theorem dX4_rests_35 : decode cX4_rests 35 = .ok (.irem, 1) := by decide +kernel
theorem dX4_rests_36 : decode cX4_rests 36 = .ok (.invokevirtual 136, 3) := by decide +kernel
theorem dX4_rests_39 : decode cX4_rests 39 = .ok (.ifCond .eq 9, 3) := by decide +kernel
theorem dX4_rests_42 : decode cX4_rests 42 = .ok (.iinc 2 1, 3) := by decide +kernel
theorem dX4_rests_45 : decode cX4_rests 45 = .ok (.iload 4, 2) := by decide +kernel
theorem dX4_rests_47 : decode cX4_rests 47 = .ok (.istore_n 3, 1) := by decide +kernel
theorem dX4_rests_48 : decode cX4_rests 48 = .ok (.iinc 4 (-1), 3) := by decide +kernel
theorem dX4_rests_51 : decode cX4_rests 51 = .ok (.goto (-31), 3) := by decide +kernel
theorem dX4_rests_54 : decode cX4_rests 54 = .ok (.iload_n 1, 1) := by decide +kernel
theorem dX4_rests_55 : decode cX4_rests 55 = .ok (.ifCond .ne 7, 3) := by decide +kernel
theorem dX4_rests_58 : decode cX4_rests 58 = .ok (.iload_n 2, 1) := by decide +kernel
theorem dX4_rests_59 : decode cX4_rests 59 = .ok (.goto 30, 3) := by decide +kernel
theorem dX4_rests_62 : decode cX4_rests 62 = .ok (.iload_n 3, 1) := by decide +kernel
theorem dX4_rests_63 : decode cX4_rests 63 = .ok (.bipush (-4), 2) := by decide +kernel
theorem dX4_rests_65 : decode cX4_rests 65 = .ok (.if_icmp .ne 8, 3) := by decide +kernel
theorem dX4_rests_68 : decode cX4_rests 68 = .ok (.bipush (-4), 2) := by decide +kernel
theorem dX4_rests_70 : decode cX4_rests 70 = .ok (.goto 19, 3) := by decide +kernel
theorem dX4_rests_73 : decode cX4_rests 73 = .ok (.iload_n 1, 1) := by decide +kernel
theorem dX4_rests_74 : decode cX4_rests 74 = .ok (.iconst 1, 1) := by decide +kernel
theorem dX4_rests_75 : decode cX4_rests 75 = .ok (.if_icmp .ne 10, 3) := by decide +kernel
theorem dX4_rests_78 : decode cX4_rests 78 = .ok (.iload_n 3, 1) := by decide +kernel
theorem dX4_rests_79 : decode cX4_rests 79 = .ok (.bipush 10, 2) := by decide +kernel
theorem dX4_rests_81 : decode cX4_rests 81 = .ok (.idiv, 1) := by decide +kernel
theorem dX4_rests_82 : decode cX4_rests 82 = .ok (.goto 7, 3) := by decide +kernel
theorem dX4_rests_85 : decode cX4_rests 85 = .ok (.iload_n 3, 1) := by decide +kernel
theorem dX4_rests_86 : decode cX4_rests 86 = .ok (.bipush 10, 2) := by decide +kernel
theorem dX4_rests_88 : decode cX4_rests 88 = .ok (.irem, 1) := by decide +kernel
theorem dX4_rests_89 : decode cX4_rests 89 = .ok (.ireturn, 1) := by decide +kernel
theorem dX4_camp_0 : decode cX4_camp 0 = .ok (.iload_n 0, 1) := by decide +kernel
theorem dX4_camp_1 : decode cX4_camp 1 = .ok (.iload_n 1, 1) := by decide +kernel
theorem dX4_camp_2 : decode cX4_camp 2 = .ok (.iconst 2, 1) := by decide +kernel
theorem dX4_camp_3 : decode cX4_camp 3 = .ok (.idiv, 1) := by decide +kernel
theorem dX4_camp_4 : decode cX4_camp 4 = .ok (.ishr, 1) := by decide +kernel
theorem dX4_camp_5 : decode cX4_camp 5 = .ok (.iconst 1, 1) := by decide +kernel
theorem dX4_camp_6 : decode cX4_camp 6 = .ok (.iand, 1) := by decide +kernel
theorem dX4_camp_7 : decode cX4_camp 7 = .ok (.iload_n 1, 1) := by decide +kernel
theorem dX4_camp_8 : decode cX4_camp 8 = .ok (.iconst 2, 1) := by decide +kernel
theorem dX4_camp_9 : decode cX4_camp 9 = .ok (.irem, 1) := by decide +kernel
theorem dX4_camp_10 : decode cX4_camp 10 = .ok (.ixor, 1) := by decide +kernel
theorem dX4_camp_11 : decode cX4_camp 11 = .ok (.ireturn, 1) := by decide +kernel
theorem dX4_parts_0 : decode cX4_parts 0 = .ok (.iconst 0, 1) := by decide +kernel
theorem dX4_parts_1 : decode cX4_parts 1 = .ok (.istore_n 2, 1) := by decide +kernel
theorem dX4_parts_2 : decode cX4_parts 2 = .ok (.iconst 0, 1) := by decide +kernel
theorem dX4_parts_3 : decode cX4_parts 3 = .ok (.istore_n 3, 1) := by decide +kernel
theorem dX4_parts_4 : decode cX4_parts 4 = .ok (.iload_n 3, 1) := by decide +kernel
theorem dX4_parts_5 : decode cX4_parts 5 = .ok (.aload_n 0, 1) := by decide +kernel
theorem dX4_parts_6 : decode cX4_parts 6 = .ok (.getfield 13, 3) := by decide +kernel
theorem dX4_parts_9 : decode cX4_parts 9 = .ok (.iconst 2, 1) := by decide +kernel
theorem dX4_parts_10 : decode cX4_parts 10 = .ok (.iaload, 1) := by decide +kernel
theorem dX4_parts_11 : decode cX4_parts 11 = .ok (.if_icmp .ge 52, 3) := by decide +kernel
theorem dX4_parts_14 : decode cX4_parts 14 = .ok (.iload_n 2, 1) := by decide +kernel
theorem dX4_parts_15 : decode cX4_parts 15 = .ok (.iload_n 1, 1) := by decide +kernel
theorem dX4_parts_16 : decode cX4_parts 16 = .ok (.aload_n 0, 1) := by decide +kernel
theorem dX4_parts_17 : decode cX4_parts 17 = .ok (.getfield 13, 3) := by decide +kernel
theorem dX4_parts_20 : decode cX4_parts 20 = .ok (.bipush 64, 2) := by decide +kernel
theorem dX4_parts_22 : decode cX4_parts 22 = .ok (.iconst 2, 1) := by decide +kernel
theorem dX4_parts_23 : decode cX4_parts 23 = .ok (.iload_n 3, 1) := by decide +kernel
theorem dX4_parts_24 : decode cX4_parts 24 = .ok (.imul, 1) := by decide +kernel
theorem dX4_parts_25 : decode cX4_parts 25 = .ok (.iadd, 1) := by decide +kernel
theorem dX4_parts_26 : decode cX4_parts 26 = .ok (.iaload, 1) := by decide +kernel
theorem dX4_parts_27 : decode cX4_parts 27 = .ok (.invokestatic 140, 3) := by decide +kernel
theorem dX4_parts_30 : decode cX4_parts 30 = .ok (.iload_n 1, 1) := by decide +kernel
theorem dX4_parts_31 : decode cX4_parts 31 = .ok (.aload_n 0, 1) := by decide +kernel
theorem dX4_parts_32 : decode cX4_parts 32 = .ok (.getfield 13, 3) := by decide +kernel
theorem dX4_parts_35 : decode cX4_parts 35 = .ok (.bipush 64, 2) := by decide +kernel
theorem dX4_parts_37 : decode cX4_parts 37 = .ok (.iconst 2, 1) := by decide +kernel
theorem dX4_parts_38 : decode cX4_parts 38 = .ok (.iload_n 3, 1) := by decide +kernel
theorem dX4_parts_39 : decode cX4_parts 39 = .ok (.imul, 1) := by decide +kernel
theorem dX4_parts_40 : decode cX4_parts 40 = .ok (.iadd, 1) := by decide +kernel
theorem dX4_parts_41 : decode cX4_parts 41 = .ok (.iconst 1, 1) := by decide +kernel
theorem dX4_parts_42 : decode cX4_parts 42 = .ok (.iadd, 1) := by decide +kernel
theorem dX4_parts_43 : decode cX4_parts 43 = .ok (.iaload, 1) := by decide +kernel
theorem dX4_parts_44 : decode cX4_parts 44 = .ok (.invokestatic 140, 3) := by decide +kernel
theorem dX4_parts_47 : decode cX4_parts 47 = .ok (.if_icmp .eq 7, 3) := by decide +kernel
theorem dX4_parts_50 : decode cX4_parts 50 = .ok (.iconst 1, 1) := by decide +kernel
theorem dX4_parts_51 : decode cX4_parts 51 = .ok (.goto 4, 3) := by decide +kernel
theorem dX4_parts_54 : decode cX4_parts 54 = .ok (.iconst 0, 1) := by decide +kernel
theorem dX4_parts_55 : decode cX4_parts 55 = .ok (.iadd, 1) := by decide +kernel
theorem dX4_parts_56 : decode cX4_parts 56 = .ok (.istore_n 2, 1) := by decide +kernel
theorem dX4_parts_57 : decode cX4_parts 57 = .ok (.iinc 3 1, 3) := by decide +kernel
theorem dX4_parts_60 : decode cX4_parts 60 = .ok (.goto (-56), 3) := by decide +kernel
theorem dX4_parts_63 : decode cX4_parts 63 = .ok (.iload_n 2, 1) := by decide +kernel
theorem dX4_parts_64 : decode cX4_parts 64 = .ok (.ireturn, 1) := by decide +kernel
theorem dX4_camps_0 : decode cX4_camps 0 = .ok (.iload_n 1, 1) := by decide +kernel
theorem dX4_camps_1 : decode cX4_camps 1 = .ok (.iconst 0, 1) := by decide +kernel
theorem dX4_camps_2 : decode cX4_camps 2 = .ok (.iconst 1, 1) := by decide +kernel
theorem dX4_camps_3 : decode cX4_camps 3 = .ok (.invokestatic 40, 3) := by decide +kernel
theorem dX4_camps_6 : decode cX4_camps 6 = .ok (.ifCond .ne 5, 3) := by decide +kernel
theorem dX4_camps_9 : decode cX4_camps 9 = .ok (.iconst (-1), 1) := by decide +kernel
theorem dX4_camps_10 : decode cX4_camps 10 = .ok (.ireturn, 1) := by decide +kernel
theorem dX4_camps_11 : decode cX4_camps 11 = .ok (.iconst 0, 1) := by decide +kernel
theorem dX4_camps_12 : decode cX4_camps 12 = .ok (.istore_n 2, 1) := by decide +kernel
theorem dX4_camps_13 : decode cX4_camps 13 = .ok (.iconst 1, 1) := by decide +kernel
theorem dX4_camps_14 : decode cX4_camps 14 = .ok (.istore_n 3, 1) := by decide +kernel
theorem dX4_camps_15 : decode cX4_camps 15 = .ok (.iload_n 3, 1) := by decide +kernel
theorem dX4_camps_16 : decode cX4_camps 16 = .ok (.iconst 1, 1) := by decide +kernel
theorem dX4_camps_17 : decode cX4_camps 17 = .ok (.aload_n 0, 1) := by decide +kernel
theorem dX4_camps_18 : decode cX4_camps 18 = .ok (.getfield 13, 3) := by decide +kernel
theorem dX4_camps_21 : decode cX4_camps 21 = .ok (.iconst 0, 1) := by decide +kernel
theorem dX4_camps_22 : decode cX4_camps 22 = .ok (.iaload, 1) := by decide +kernel
theorem dX4_camps_23 : decode cX4_camps 23 = .ok (.ishl, 1) := by decide +kernel
theorem dX4_camps_24 : decode cX4_camps 24 = .ok (.if_icmp .ge 28, 3) := by decide +kernel
theorem dX4_camps_27 : decode cX4_camps 27 = .ok (.aload_n 0, 1) := by decide +kernel
theorem dX4_camps_28 : decode cX4_camps 28 = .ok (.iload_n 3, 1) := by decide +kernel
theorem dX4_camps_29 : decode cX4_camps 29 = .ok (.invokevirtual 143, 3) := by decide +kernel
theorem dX4_camps_32 : decode cX4_camps 32 = .ok (.aload_n 0, 1) := by decide +kernel
theorem dX4_camps_33 : decode cX4_camps 33 = .ok (.iload_n 2, 1) := by decide +kernel
theorem dX4_camps_34 : decode cX4_camps 34 = .ok (.invokevirtual 143, 3) := by decide +kernel
theorem dX4_camps_37 : decode cX4_camps 37 = .ok (.if_icmp .ge 7, 3) := by decide +kernel
theorem dX4_camps_40 : decode cX4_camps 40 = .ok (.iload_n 3, 1) := by decide +kernel
theorem dX4_camps_41 : decode cX4_camps 41 = .ok (.goto 4, 3) := by decide +kernel
theorem dX4_camps_44 : decode cX4_camps 44 = .ok (.iload_n 2, 1) := by decide +kernel
theorem dX4_camps_45 : decode cX4_camps 45 = .ok (.istore_n 2, 1) := by decide +kernel
theorem dX4_camps_46 : decode cX4_camps 46 = .ok (.iinc 3 1, 3) := by decide +kernel
theorem dX4_camps_49 : decode cX4_camps 49 = .ok (.goto (-34), 3) := by decide +kernel
theorem dX4_camps_52 : decode cX4_camps 52 = .ok (.iload_n 1, 1) := by decide +kernel
theorem dX4_camps_53 : decode cX4_camps 53 = .ok (.ifCond .ne 11, 3) := by decide +kernel
theorem dX4_camps_56 : decode cX4_camps 56 = .ok (.aload_n 0, 1) := by decide +kernel
theorem dX4_camps_57 : decode cX4_camps 57 = .ok (.iload_n 2, 1) := by decide +kernel
theorem dX4_camps_58 : decode cX4_camps 58 = .ok (.invokevirtual 143, 3) := by decide +kernel
theorem dX4_camps_61 : decode cX4_camps 61 = .ok (.goto 4, 3) := by decide +kernel
theorem dX4_camps_64 : decode cX4_camps 64 = .ok (.iload_n 2, 1) := by decide +kernel
theorem dX4_camps_65 : decode cX4_camps 65 = .ok (.ireturn, 1) := by decide +kernel
theorem dX4_seen_0 : decode cX4_seen 0 = .ok (.iload_n 1, 1) := by decide +kernel
theorem dX4_seen_1 : decode cX4_seen 1 = .ok (.iconst 0, 1) := by decide +kernel
theorem dX4_seen_2 : decode cX4_seen 2 = .ok (.bipush 40, 2) := by decide +kernel
theorem dX4_seen_4 : decode cX4_seen 4 = .ok (.invokestatic 40, 3) := by decide +kernel
theorem dX4_seen_7 : decode cX4_seen 7 = .ok (.ifCond .eq 10, 3) := by decide +kernel
theorem dX4_seen_10 : decode cX4_seen 10 = .ok (.iload_n 2, 1) := by decide +kernel
theorem dX4_seen_11 : decode cX4_seen 11 = .ok (.invokestatic 105, 3) := by decide +kernel
theorem dX4_seen_14 : decode cX4_seen 14 = .ok (.ifCond .ne 5, 3) := by decide +kernel
theorem dX4_seen_17 : decode cX4_seen 17 = .ok (.iconst (-1), 1) := by decide +kernel
theorem dX4_seen_18 : decode cX4_seen 18 = .ok (.ireturn, 1) := by decide +kernel
theorem dX4_seen_19 : decode cX4_seen 19 = .ok (.aload_n 0, 1) := by decide +kernel
theorem dX4_seen_20 : decode cX4_seen 20 = .ok (.getfield 93, 3) := by decide +kernel
theorem dX4_seen_23 : decode cX4_seen 23 = .ok (.bipush 10, 2) := by decide +kernel
theorem dX4_seen_25 : decode cX4_seen 25 = .ok (.if_icmp .ne 6, 3) := by decide +kernel
theorem dX4_seen_28 : decode cX4_seen 28 = .ok (.bipush (-3), 2) := by decide +kernel
theorem dX4_seen_30 : decode cX4_seen 30 = .ok (.ireturn, 1) := by decide +kernel
theorem dX4_seen_31 : decode cX4_seen 31 = .ok (.aload_n 0, 1) := by decide +kernel
theorem dX4_seen_32 : decode cX4_seen 32 = .ok (.getfield 28, 3) := by decide +kernel
theorem dX4_seen_35 : decode cX4_seen 35 = .ok (.aload_n 0, 1) := by decide +kernel
theorem dX4_seen_36 : decode cX4_seen 36 = .ok (.getfield 93, 3) := by decide +kernel
theorem dX4_seen_39 : decode cX4_seen 39 = .ok (.iload_n 1, 1) := by decide +kernel
theorem dX4_seen_40 : decode cX4_seen 40 = .ok (.iastore, 1) := by decide +kernel
theorem dX4_seen_41 : decode cX4_seen 41 = .ok (.aload_n 0, 1) := by decide +kernel
theorem dX4_seen_42 : decode cX4_seen 42 = .ok (.getfield 31, 3) := by decide +kernel
theorem dX4_seen_45 : decode cX4_seen 45 = .ok (.aload_n 0, 1) := by decide +kernel
theorem dX4_seen_46 : decode cX4_seen 46 = .ok (.getfield 93, 3) := by decide +kernel
theorem dX4_seen_49 : decode cX4_seen 49 = .ok (.iload_n 2, 1) := by decide +kernel
theorem dX4_seen_50 : decode cX4_seen 50 = .ok (.iastore, 1) := by decide +kernel
theorem dX4_seen_51 : decode cX4_seen 51 = .ok (.aload_n 0, 1) := by decide +kernel
theorem dX4_seen_52 : decode cX4_seen 52 = .ok (.dup, 1) := by decide +kernel
theorem dX4_seen_53 : decode cX4_seen 53 = .ok (.getfield 93, 3) := by decide +kernel
theorem dX4_seen_56 : decode cX4_seen 56 = .ok (.iconst 1, 1) := by decide +kernel
theorem dX4_seen_57 : decode cX4_seen 57 = .ok (.iadd, 1) := by decide +kernel
theorem dX4_seen_58 : decode cX4_seen 58 = .ok (.putfield 93, 3) := by decide +kernel
theorem dX4_seen_61 : decode cX4_seen 61 = .ok (.aload_n 0, 1) := by decide +kernel
theorem dX4_seen_62 : decode cX4_seen 62 = .ok (.getfield 93, 3) := by decide +kernel
theorem dX4_seen_65 : decode cX4_seen 65 = .ok (.ireturn, 1) := by decide +kernel
theorem dX4_forget_0 : decode cX4_forget 0 = .ok (.aload_n 0, 1) := by decide +kernel
theorem dX4_forget_1 : decode cX4_forget 1 = .ok (.getfield 93, 3) := by decide +kernel
theorem dX4_forget_4 : decode cX4_forget 4 = .ok (.istore_n 1, 1) := by decide +kernel
theorem dX4_forget_5 : decode cX4_forget 5 = .ok (.aload_n 0, 1) := by decide +kernel
theorem dX4_forget_6 : decode cX4_forget 6 = .ok (.iconst 0, 1) := by decide +kernel
theorem dX4_forget_7 : decode cX4_forget 7 = .ok (.putfield 93, 3) := by decide +kernel
theorem dX4_forget_10 : decode cX4_forget 10 = .ok (.iload_n 1, 1) := by decide +kernel
theorem dX4_forget_11 : decode cX4_forget 11 = .ok (.ireturn, 1) := by decide +kernel
theorem dX4_finds_0 : decode cX4_finds 0 = .ok (.iconst 0, 1) := by decide +kernel
theorem dX4_finds_1 : decode cX4_finds 1 = .ok (.istore_n 1, 1) := by decide +kernel
theorem dX4_finds_2 : decode cX4_finds 2 = .ok (.iload_n 1, 1) := by decide +kernel
theorem dX4_finds_3 : decode cX4_finds 3 = .ok (.aload_n 0, 1) := by decide +kernel
theorem dX4_finds_4 : decode cX4_finds 4 = .ok (.getfield 93, 3) := by decide +kernel
theorem dX4_finds_7 : decode cX4_finds 7 = .ok (.if_icmp .ge 92, 3) := by decide +kernel
theorem dX4_finds_10 : decode cX4_finds 10 = .ok (.iconst 0, 1) := by decide +kernel
theorem dX4_finds_11 : decode cX4_finds 11 = .ok (.istore_n 2, 1) := by decide +kernel
theorem dX4_finds_12 : decode cX4_finds 12 = .ok (.iload_n 2, 1) := by decide +kernel
theorem dX4_finds_13 : decode cX4_finds 13 = .ok (.bipush 16, 2) := by decide +kernel
theorem dX4_finds_15 : decode cX4_finds 15 = .ok (.if_icmp .ge 40, 3) := by decide +kernel
theorem dX4_finds_18 : decode cX4_finds 18 = .ok (.aload_n 0, 1) := by decide +kernel
theorem dX4_finds_19 : decode cX4_finds 19 = .ok (.getfield 22, 3) := by decide +kernel
theorem dX4_finds_22 : decode cX4_finds 22 = .ok (.iload_n 2, 1) := by decide +kernel
theorem dX4_finds_23 : decode cX4_finds 23 = .ok (.iload_n 2, 1) := by decide +kernel
theorem dX4_finds_24 : decode cX4_finds 24 = .ok (.iconst 1, 1) := by decide +kernel
theorem dX4_finds_25 : decode cX4_finds 25 = .ok (.bipush 10, 2) := by decide +kernel
theorem dX4_finds_27 : decode cX4_finds 27 = .ok (.invokestatic 40, 3) := by decide +kernel
theorem dX4_finds_30 : decode cX4_finds 30 = .ok (.ifCond .eq 17, 3) := by decide +kernel
theorem dX4_finds_33 : decode cX4_finds 33 = .ok (.aload_n 0, 1) := by decide +kernel
theorem dX4_finds_34 : decode cX4_finds 34 = .ok (.getfield 13, 3) := by decide +kernel
theorem dX4_finds_37 : decode cX4_finds 37 = .ok (.bipush 18, 2) := by decide +kernel
theorem dX4_finds_39 : decode cX4_finds 39 = .ok (.iload_n 2, 1) := by decide +kernel
theorem dX4_finds_40 : decode cX4_finds 40 = .ok (.iadd, 1) := by decide +kernel
theorem dX4_finds_41 : decode cX4_finds 41 = .ok (.iconst 1, 1) := by decide +kernel
theorem dX4_finds_42 : decode cX4_finds 42 = .ok (.isub, 1) := by decide +kernel
theorem dX4_finds_43 : decode cX4_finds 43 = .ok (.iaload, 1) := by decide +kernel
theorem dX4_finds_44 : decode cX4_finds 44 = .ok (.goto 4, 3) := by decide +kernel
theorem dX4_finds_47 : decode cX4_finds 47 = .ok (.iconst 0, 1) := by decide +kernel
theorem dX4_finds_48 : decode cX4_finds 48 = .ok (.iastore, 1) := by decide +kernel
theorem dX4_finds_49 : decode cX4_finds 49 = .ok (.iinc 2 1, 3) := by decide +kernel
theorem dX4_finds_52 : decode cX4_finds 52 = .ok (.goto (-40), 3) := by decide +kernel
theorem dX4_finds_55 : decode cX4_finds 55 = .ok (.iconst 0, 1) := by decide +kernel
theorem dX4_finds_56 : decode cX4_finds 56 = .ok (.istore_n 2, 1) := by decide +kernel
theorem dX4_finds_57 : decode cX4_finds 57 = .ok (.iload_n 2, 1) := by decide +kernel
theorem dX4_finds_58 : decode cX4_finds 58 = .ok (.aload_n 0, 1) := by decide +kernel
theorem dX4_finds_59 : decode cX4_finds 59 = .ok (.getfield 28, 3) := by decide +kernel
theorem dX4_finds_62 : decode cX4_finds 62 = .ok (.iload_n 1, 1) := by decide +kernel
theorem dX4_finds_63 : decode cX4_finds 63 = .ok (.iaload, 1) := by decide +kernel
theorem dX4_finds_64 : decode cX4_finds 64 = .ok (.if_icmp .ge 13, 3) := by decide +kernel
theorem dX4_finds_67 : decode cX4_finds 67 = .ok (.aload_n 0, 1) := by decide +kernel
theorem dX4_finds_68 : decode cX4_finds 68 = .ok (.invokevirtual 112, 3) := by decide +kernel
theorem dX4_finds_71 : decode cX4_finds 71 = .ok (.iinc 2 1, 3) := by decide +kernel
theorem dX4_finds_74 : decode cX4_finds 74 = .ok (.goto (-17), 3) := by decide +kernel
theorem dX4_finds_77 : decode cX4_finds 77 = .ok (.aload_n 0, 1) := by decide +kernel
theorem dX4_finds_78 : decode cX4_finds 78 = .ok (.getfield 34, 3) := by decide +kernel
theorem dX4_finds_81 : decode cX4_finds 81 = .ok (.iload_n 1, 1) := by decide +kernel
theorem dX4_finds_82 : decode cX4_finds 82 = .ok (.aload_n 0, 1) := by decide +kernel
theorem dX4_finds_83 : decode cX4_finds 83 = .ok (.aload_n 0, 1) := by decide +kernel
theorem dX4_finds_84 : decode cX4_finds 84 = .ok (.getfield 31, 3) := by decide +kernel
theorem dX4_finds_87 : decode cX4_finds 87 = .ok (.iload_n 1, 1) := by decide +kernel
theorem dX4_finds_88 : decode cX4_finds 88 = .ok (.iaload, 1) := by decide +kernel
theorem dX4_finds_89 : decode cX4_finds 89 = .ok (.invokevirtual 129, 3) := by decide +kernel
theorem dX4_finds_92 : decode cX4_finds 92 = .ok (.iastore, 1) := by decide +kernel
theorem dX4_finds_93 : decode cX4_finds 93 = .ok (.iinc 1 1, 3) := by decide +kernel
theorem dX4_finds_96 : decode cX4_finds 96 = .ok (.goto (-94), 3) := by decide +kernel
theorem dX4_finds_99 : decode cX4_finds 99 = .ok (.return_, 1) := by decide +kernel
theorem dX4_fits_0 : decode cX4_fits 0 = .ok (.aload_n 0, 1) := by decide +kernel
theorem dX4_fits_1 : decode cX4_fits 1 = .ok (.invokevirtual 146, 3) := by decide +kernel
theorem dX4_fits_4 : decode cX4_fits 4 = .ok (.iconst 1, 1) := by decide +kernel
theorem dX4_fits_5 : decode cX4_fits 5 = .ok (.aload_n 0, 1) := by decide +kernel
theorem dX4_fits_6 : decode cX4_fits 6 = .ok (.getfield 13, 3) := by decide +kernel
theorem dX4_fits_9 : decode cX4_fits 9 = .ok (.iconst 0, 1) := by decide +kernel
theorem dX4_fits_10 : decode cX4_fits 10 = .ok (.iaload, 1) := by decide +kernel
theorem dX4_fits_11 : decode cX4_fits 11 = .ok (.ishl, 1) := by decide +kernel
theorem dX4_fits_12 : decode cX4_fits 12 = .ok (.iconst 1, 1) := by decide +kernel
theorem dX4_fits_13 : decode cX4_fits 13 = .ok (.isub, 1) := by decide +kernel
theorem dX4_fits_14 : decode cX4_fits 14 = .ok (.istore_n 1, 1) := by decide +kernel
theorem dX4_fits_15 : decode cX4_fits 15 = .ok (.iconst 0, 1) := by decide +kernel
theorem dX4_fits_16 : decode cX4_fits 16 = .ok (.istore_n 2, 1) := by decide +kernel
theorem dX4_fits_17 : decode cX4_fits 17 = .ok (.iload_n 2, 1) := by decide +kernel
theorem dX4_fits_18 : decode cX4_fits 18 = .ok (.aload_n 0, 1) := by decide +kernel
theorem dX4_fits_19 : decode cX4_fits 19 = .ok (.getfield 93, 3) := by decide +kernel
theorem dX4_fits_22 : decode cX4_fits 22 = .ok (.if_icmp .ge 18, 3) := by decide +kernel
theorem dX4_fits_25 : decode cX4_fits 25 = .ok (.iload_n 1, 1) := by decide +kernel
theorem dX4_fits_26 : decode cX4_fits 26 = .ok (.aload_n 0, 1) := by decide +kernel
theorem dX4_fits_27 : decode cX4_fits 27 = .ok (.getfield 34, 3) := by decide +kernel
theorem dX4_fits_30 : decode cX4_fits 30 = .ok (.iload_n 2, 1) := by decide +kernel
theorem dX4_fits_31 : decode cX4_fits 31 = .ok (.iaload, 1) := by decide +kernel
theorem dX4_fits_32 : decode cX4_fits 32 = .ok (.iand, 1) := by decide +kernel
theorem dX4_fits_33 : decode cX4_fits 33 = .ok (.istore_n 1, 1) := by decide +kernel
theorem dX4_fits_34 : decode cX4_fits 34 = .ok (.iinc 2 1, 3) := by decide +kernel
theorem dX4_fits_37 : decode cX4_fits 37 = .ok (.goto (-20), 3) := by decide +kernel
theorem dX4_fits_40 : decode cX4_fits 40 = .ok (.iload_n 1, 1) := by decide +kernel
theorem dX4_fits_41 : decode cX4_fits 41 = .ok (.ireturn, 1) := by decide +kernel
theorem dX4_least_0 : decode cX4_least 0 = .ok (.aload_n 0, 1) := by decide +kernel
theorem dX4_least_1 : decode cX4_least 1 = .ok (.invokevirtual 146, 3) := by decide +kernel
theorem dX4_least_4 : decode cX4_least 4 = .ok (.bipush (-4), 2) := by decide +kernel
theorem dX4_least_6 : decode cX4_least 6 = .ok (.istore_n 1, 1) := by decide +kernel
theorem dX4_least_7 : decode cX4_least 7 = .ok (.bipush 6, 2) := by decide +kernel
theorem dX4_least_9 : decode cX4_least 9 = .ok (.istore_n 2, 1) := by decide +kernel
theorem dX4_least_10 : decode cX4_least 10 = .ok (.iconst 0, 1) := by decide +kernel
theorem dX4_least_11 : decode cX4_least 11 = .ok (.istore_n 3, 1) := by decide +kernel
theorem dX4_least_12 : decode cX4_least 12 = .ok (.iload_n 3, 1) := by decide +kernel
theorem dX4_least_13 : decode cX4_least 13 = .ok (.iconst 1, 1) := by decide +kernel
theorem dX4_least_14 : decode cX4_least 14 = .ok (.aload_n 0, 1) := by decide +kernel
theorem dX4_least_15 : decode cX4_least 15 = .ok (.getfield 13, 3) := by decide +kernel
theorem dX4_least_18 : decode cX4_least 18 = .ok (.iconst 0, 1) := by decide +kernel
theorem dX4_least_19 : decode cX4_least 19 = .ok (.iaload, 1) := by decide +kernel
theorem dX4_least_20 : decode cX4_least 20 = .ok (.ishl, 1) := by decide +kernel
theorem dX4_least_21 : decode cX4_least 21 = .ok (.if_icmp .ge 118, 3) := by decide +kernel
theorem dX4_least_24 : decode cX4_least 24 = .ok (.iconst 1, 1) := by decide +kernel
theorem dX4_least_25 : decode cX4_least 25 = .ok (.istore 4, 2) := by decide +kernel
theorem dX4_least_27 : decode cX4_least 27 = .ok (.iconst 0, 1) := by decide +kernel
theorem dX4_least_28 : decode cX4_least 28 = .ok (.istore 5, 2) := by decide +kernel
theorem dX4_least_30 : decode cX4_least 30 = .ok (.iload 5, 2) := by decide +kernel
theorem dX4_least_32 : decode cX4_least 32 = .ok (.aload_n 0, 1) := by decide +kernel
theorem dX4_least_33 : decode cX4_least 33 = .ok (.getfield 93, 3) := by decide +kernel
theorem dX4_least_36 : decode cX4_least 36 = .ok (.if_icmp .ge 33, 3) := by decide +kernel
theorem dX4_least_39 : decode cX4_least 39 = .ok (.iload 4, 2) := by decide +kernel
theorem dX4_least_41 : decode cX4_least 41 = .ok (.ifCond .eq 19, 3) := by decide +kernel
theorem dX4_least_44 : decode cX4_least 44 = .ok (.aload_n 0, 1) := by decide +kernel
theorem dX4_least_45 : decode cX4_least 45 = .ok (.getfield 34, 3) := by decide +kernel
theorem dX4_least_48 : decode cX4_least 48 = .ok (.iload 5, 2) := by decide +kernel
theorem dX4_least_50 : decode cX4_least 50 = .ok (.iaload, 1) := by decide +kernel
theorem dX4_least_51 : decode cX4_least 51 = .ok (.iload_n 3, 1) := by decide +kernel
theorem dX4_least_52 : decode cX4_least 52 = .ok (.iand, 1) := by decide +kernel
theorem dX4_least_53 : decode cX4_least 53 = .ok (.ifCond .eq 7, 3) := by decide +kernel
theorem dX4_least_56 : decode cX4_least 56 = .ok (.iconst 1, 1) := by decide +kernel
theorem dX4_least_57 : decode cX4_least 57 = .ok (.goto 4, 3) := by decide +kernel
theorem dX4_least_60 : decode cX4_least 60 = .ok (.iconst 0, 1) := by decide +kernel
theorem dX4_least_61 : decode cX4_least 61 = .ok (.istore 4, 2) := by decide +kernel
theorem dX4_least_63 : decode cX4_least 63 = .ok (.iinc 5 1, 3) := by decide +kernel
theorem dX4_least_66 : decode cX4_least 66 = .ok (.goto (-36), 3) := by decide +kernel
theorem dX4_least_69 : decode cX4_least 69 = .ok (.iconst 0, 1) := by decide +kernel
theorem dX4_least_70 : decode cX4_least 70 = .ok (.istore 5, 2) := by decide +kernel
theorem dX4_least_72 : decode cX4_least 72 = .ok (.iconst 0, 1) := by decide +kernel
theorem dX4_least_73 : decode cX4_least 73 = .ok (.istore 6, 2) := by decide +kernel
theorem dX4_least_75 : decode cX4_least 75 = .ok (.iload 6, 2) := by decide +kernel
theorem dX4_least_77 : decode cX4_least 77 = .ok (.iconst 5, 1) := by decide +kernel
theorem dX4_least_78 : decode cX4_least 78 = .ok (.if_icmp .ge 20, 3) := by decide +kernel
theorem dX4_least_81 : decode cX4_least 81 = .ok (.iload 5, 2) := by decide +kernel
theorem dX4_least_83 : decode cX4_least 83 = .ok (.iload_n 3, 1) := by decide +kernel
theorem dX4_least_84 : decode cX4_least 84 = .ok (.iload 6, 2) := by decide +kernel
theorem dX4_least_86 : decode cX4_least 86 = .ok (.ishr, 1) := by decide +kernel
theorem dX4_least_87 : decode cX4_least 87 = .ok (.iconst 1, 1) := by decide +kernel
theorem dX4_least_88 : decode cX4_least 88 = .ok (.iand, 1) := by decide +kernel
theorem dX4_least_89 : decode cX4_least 89 = .ok (.iadd, 1) := by decide +kernel
theorem dX4_least_90 : decode cX4_least 90 = .ok (.istore 5, 2) := by decide +kernel
theorem dX4_least_92 : decode cX4_least 92 = .ok (.iinc 6 1, 3) := by decide +kernel
theorem dX4_least_95 : decode cX4_least 95 = .ok (.goto (-20), 3) := by decide +kernel
theorem dX4_least_98 : decode cX4_least 98 = .ok (.iload 4, 2) := by decide +kernel
theorem dX4_least_100 : decode cX4_least 100 = .ok (.ifCond .eq 13, 3) := by decide +kernel
theorem dX4_least_103 : decode cX4_least 103 = .ok (.iload 5, 2) := by decide +kernel
theorem dX4_least_105 : decode cX4_least 105 = .ok (.iload_n 2, 1) := by decide +kernel
theorem dX4_least_106 : decode cX4_least 106 = .ok (.if_icmp .ge 7, 3) := by decide +kernel
theorem dX4_least_109 : decode cX4_least 109 = .ok (.iload_n 3, 1) := by decide +kernel
theorem dX4_least_110 : decode cX4_least 110 = .ok (.goto 4, 3) := by decide +kernel
theorem dX4_least_113 : decode cX4_least 113 = .ok (.iload_n 1, 1) := by decide +kernel
theorem dX4_least_114 : decode cX4_least 114 = .ok (.istore_n 1, 1) := by decide +kernel
theorem dX4_least_115 : decode cX4_least 115 = .ok (.iload 4, 2) := by decide +kernel
theorem dX4_least_117 : decode cX4_least 117 = .ok (.ifCond .eq 14, 3) := by decide +kernel
theorem dX4_least_120 : decode cX4_least 120 = .ok (.iload 5, 2) := by decide +kernel
theorem dX4_least_122 : decode cX4_least 122 = .ok (.iload_n 2, 1) := by decide +kernel
theorem dX4_least_123 : decode cX4_least 123 = .ok (.if_icmp .ge 8, 3) := by decide +kernel
theorem dX4_least_126 : decode cX4_least 126 = .ok (.iload 5, 2) := by decide +kernel
theorem dX4_least_128 : decode cX4_least 128 = .ok (.goto 4, 3) := by decide +kernel
theorem dX4_least_131 : decode cX4_least 131 = .ok (.iload_n 2, 1) := by decide +kernel
theorem dX4_least_132 : decode cX4_least 132 = .ok (.istore_n 2, 1) := by decide +kernel
theorem dX4_least_133 : decode cX4_least 133 = .ok (.iinc 3 1, 3) := by decide +kernel
theorem dX4_least_136 : decode cX4_least 136 = .ok (.goto (-124), 3) := by decide +kernel
theorem dX4_least_139 : decode cX4_least 139 = .ok (.iload_n 1, 1) := by decide +kernel
theorem dX4_least_140 : decode cX4_least 140 = .ok (.ireturn, 1) := by decide +kernel
theorem dX4_month_0 : decode cX4_month 0 = .ok (.iload_n 1, 1) := by decide +kernel
theorem dX4_month_1 : decode cX4_month 1 = .ok (.iconst 0, 1) := by decide +kernel
theorem dX4_month_2 : decode cX4_month 2 = .ok (.sipush 9999, 3) := by decide +kernel
theorem dX4_month_5 : decode cX4_month 5 = .ok (.invokestatic 40, 3) := by decide +kernel
theorem dX4_month_8 : decode cX4_month 8 = .ok (.ifCond .eq 31, 3) := by decide +kernel
theorem dX4_month_11 : decode cX4_month 11 = .ok (.iload_n 2, 1) := by decide +kernel
theorem dX4_month_12 : decode cX4_month 12 = .ok (.iconst 1, 1) := by decide +kernel
theorem dX4_month_13 : decode cX4_month 13 = .ok (.bipush 60, 2) := by decide +kernel
theorem dX4_month_15 : decode cX4_month 15 = .ok (.invokestatic 40, 3) := by decide +kernel
theorem dX4_month_18 : decode cX4_month 18 = .ok (.ifCond .eq 21, 3) := by decide +kernel
theorem dX4_month_21 : decode cX4_month 21 = .ok (.aload_n 0, 1) := by decide +kernel
theorem dX4_month_22 : decode cX4_month 22 = .ok (.iload_n 3, 1) := by decide +kernel
theorem dX4_month_23 : decode cX4_month 23 = .ok (.invokevirtual 99, 3) := by decide +kernel
theorem dX4_month_26 : decode cX4_month 26 = .ok (.ifCond .eq 13, 3) := by decide +kernel
theorem dX4_month_29 : decode cX4_month 29 = .ok (.iload 4, 2) := by decide +kernel
theorem dX4_month_31 : decode cX4_month 31 = .ok (.iconst 0, 1) := by decide +kernel
theorem dX4_month_32 : decode cX4_month 32 = .ok (.iconst 1, 1) := by decide +kernel
theorem dX4_month_33 : decode cX4_month 33 = .ok (.invokestatic 40, 3) := by decide +kernel
theorem dX4_month_36 : decode cX4_month 36 = .ok (.ifCond .ne 5, 3) := by decide +kernel
theorem dX4_month_39 : decode cX4_month 39 = .ok (.iconst (-1), 1) := by decide +kernel
theorem dX4_month_40 : decode cX4_month 40 = .ok (.ireturn, 1) := by decide +kernel
theorem dX4_month_41 : decode cX4_month 41 = .ok (.aload_n 0, 1) := by decide +kernel
theorem dX4_month_42 : decode cX4_month 42 = .ok (.iconst 0, 1) := by decide +kernel
theorem dX4_month_43 : decode cX4_month 43 = .ok (.invokevirtual 115, 3) := by decide +kernel
theorem dX4_month_46 : decode cX4_month 46 = .ok (.iconst 0, 1) := by decide +kernel
theorem dX4_month_47 : decode cX4_month 47 = .ok (.istore 5, 2) := by decide +kernel
theorem dX4_month_49 : decode cX4_month 49 = .ok (.iload 5, 2) := by decide +kernel
theorem dX4_month_51 : decode cX4_month 51 = .ok (.iload_n 2, 1) := by decide +kernel
theorem dX4_month_52 : decode cX4_month 52 = .ok (.if_icmp .ge 83, 3) := by decide +kernel
theorem dX4_month_55 : decode cX4_month 55 = .ok (.ldc2_w 149, 3) := by decide +kernel
theorem dX4_month_58 : decode cX4_month 58 = .ok (.iload_n 1, 1) := by decide +kernel
theorem dX4_month_59 : decode cX4_month 59 = .ok (.i2l, 1) := by decide +kernel
theorem dX4_month_60 : decode cX4_month 60 = .ok (.lmul, 1) := by decide +kernel
theorem dX4_month_61 : decode cX4_month 61 = .ok (.ldc2_w 151, 3) := by decide +kernel
theorem dX4_month_64 : decode cX4_month 64 = .ok (.iload 5, 2) := by decide +kernel
theorem dX4_month_66 : decode cX4_month 66 = .ok (.i2l, 1) := by decide +kernel
theorem dX4_month_67 : decode cX4_month 67 = .ok (.lmul, 1) := by decide +kernel
theorem dX4_month_68 : decode cX4_month 68 = .ok (.ladd, 1) := by decide +kernel
theorem dX4_month_69 : decode cX4_month 69 = .ok (.lconst 1, 1) := by decide +kernel
theorem dX4_month_70 : decode cX4_month 70 = .ok (.ladd, 1) := by decide +kernel
theorem dX4_month_71 : decode cX4_month 71 = .ok (.lstore 6, 2) := by decide +kernel
theorem dX4_month_73 : decode cX4_month 73 = .ok (.lload 6, 2) := by decide +kernel
theorem dX4_month_75 : decode cX4_month 75 = .ok (.lload 6, 2) := by decide +kernel
theorem dX4_month_77 : decode cX4_month 77 = .ok (.lmul, 1) := by decide +kernel
theorem dX4_month_78 : decode cX4_month 78 = .ok (.ldc2_w 153, 3) := by decide +kernel
theorem dX4_month_81 : decode cX4_month 81 = .ok (.lrem, 1) := by decide +kernel
theorem dX4_month_82 : decode cX4_month 82 = .ok (.l2i, 1) := by decide +kernel
theorem dX4_month_83 : decode cX4_month 83 = .ok (.istore 8, 2) := by decide +kernel
theorem dX4_month_85 : decode cX4_month 85 = .ok (.aload_n 0, 1) := by decide +kernel
theorem dX4_month_86 : decode cX4_month 86 = .ok (.getfield 22, 3) := by decide +kernel
theorem dX4_month_89 : decode cX4_month 89 = .ok (.iconst 1, 1) := by decide +kernel
theorem dX4_month_90 : decode cX4_month 90 = .ok (.iconst 2, 1) := by decide +kernel
theorem dX4_month_91 : decode cX4_month 91 = .ok (.iload 8, 2) := by decide +kernel
theorem dX4_month_93 : decode cX4_month 93 = .ok (.bipush 8, 2) := by decide +kernel
theorem dX4_month_95 : decode cX4_month 95 = .ok (.idiv, 1) := by decide +kernel
theorem dX4_month_96 : decode cX4_month 96 = .ok (.aload_n 0, 1) := by decide +kernel
theorem dX4_month_97 : decode cX4_month 97 = .ok (.getfield 13, 3) := by decide +kernel
theorem dX4_month_100 : decode cX4_month 100 = .ok (.iconst 0, 1) := by decide +kernel
theorem dX4_month_101 : decode cX4_month 101 = .ok (.iaload, 1) := by decide +kernel
theorem dX4_month_102 : decode cX4_month 102 = .ok (.irem, 1) := by decide +kernel
theorem dX4_month_103 : decode cX4_month 103 = .ok (.imul, 1) := by decide +kernel
theorem dX4_month_104 : decode cX4_month 104 = .ok (.iadd, 1) := by decide +kernel
theorem dX4_month_105 : decode cX4_month 105 = .ok (.aload_n 0, 1) := by decide +kernel
theorem dX4_month_106 : decode cX4_month 106 = .ok (.getfield 22, 3) := by decide +kernel
theorem dX4_month_109 : decode cX4_month 109 = .ok (.iconst 0, 1) := by decide +kernel
theorem dX4_month_110 : decode cX4_month 110 = .ok (.iaload, 1) := by decide +kernel
theorem dX4_month_111 : decode cX4_month 111 = .ok (.iconst 2, 1) := by decide +kernel
theorem dX4_month_112 : decode cX4_month 112 = .ok (.irem, 1) := by decide +kernel
theorem dX4_month_113 : decode cX4_month 113 = .ok (.iadd, 1) := by decide +kernel
theorem dX4_month_114 : decode cX4_month 114 = .ok (.dup2, 1) := by decide +kernel
theorem dX4_month_115 : decode cX4_month 115 = .ok (.iaload, 1) := by decide +kernel
theorem dX4_month_116 : decode cX4_month 116 = .ok (.iconst 1, 1) := by decide +kernel
theorem dX4_month_117 : decode cX4_month 117 = .ok (.iload 8, 2) := by decide +kernel
theorem dX4_month_119 : decode cX4_month 119 = .ok (.bipush 8, 2) := by decide +kernel
theorem dX4_month_121 : decode cX4_month 121 = .ok (.irem, 1) := by decide +kernel
theorem dX4_month_122 : decode cX4_month 122 = .ok (.ishl, 1) := by decide +kernel
theorem dX4_month_123 : decode cX4_month 123 = .ok (.ior, 1) := by decide +kernel
theorem dX4_month_124 : decode cX4_month 124 = .ok (.iastore, 1) := by decide +kernel
theorem dX4_month_125 : decode cX4_month 125 = .ok (.aload_n 0, 1) := by decide +kernel
theorem dX4_month_126 : decode cX4_month 126 = .ok (.invokevirtual 112, 3) := by decide +kernel
theorem dX4_month_129 : decode cX4_month 129 = .ok (.iinc 5 1, 3) := by decide +kernel
theorem dX4_month_132 : decode cX4_month 132 = .ok (.goto (-83), 3) := by decide +kernel
theorem dX4_month_135 : decode cX4_month 135 = .ok (.aload_n 0, 1) := by decide +kernel
theorem dX4_month_136 : decode cX4_month 136 = .ok (.getfield 22, 3) := by decide +kernel
theorem dX4_month_139 : decode cX4_month 139 = .ok (.iconst 1, 1) := by decide +kernel
theorem dX4_month_140 : decode cX4_month 140 = .ok (.iconst 2, 1) := by decide +kernel
theorem dX4_month_141 : decode cX4_month 141 = .ok (.iload_n 3, 1) := by decide +kernel
theorem dX4_month_142 : decode cX4_month 142 = .ok (.imul, 1) := by decide +kernel
theorem dX4_month_143 : decode cX4_month 143 = .ok (.iadd, 1) := by decide +kernel
theorem dX4_month_144 : decode cX4_month 144 = .ok (.iload 4, 2) := by decide +kernel
theorem dX4_month_146 : decode cX4_month 146 = .ok (.iadd, 1) := by decide +kernel
theorem dX4_month_147 : decode cX4_month 147 = .ok (.iaload, 1) := by decide +kernel
theorem dX4_month_148 : decode cX4_month 148 = .ok (.ireturn, 1) := by decide +kernel
theorem dX4_keep_0 : decode cX4_keep 0 = .ok (.aload_n 0, 1) := by decide +kernel
theorem dX4_keep_1 : decode cX4_keep 1 = .ok (.getfield 96, 3) := by decide +kernel
theorem dX4_keep_4 : decode cX4_keep 4 = .ok (.iconst 2, 1) := by decide +kernel
theorem dX4_keep_5 : decode cX4_keep 5 = .ok (.if_icmp .ne 6, 3) := by decide +kernel
theorem dX4_keep_8 : decode cX4_keep 8 = .ok (.bipush (-3), 2) := by decide +kernel
theorem dX4_keep_10 : decode cX4_keep 10 = .ok (.ireturn, 1) := by decide +kernel
theorem dX4_keep_11 : decode cX4_keep 11 = .ok (.iconst 0, 1) := by decide +kernel
theorem dX4_keep_12 : decode cX4_keep 12 = .ok (.istore_n 1, 1) := by decide +kernel
theorem dX4_keep_13 : decode cX4_keep 13 = .ok (.iload_n 1, 1) := by decide +kernel
theorem dX4_keep_14 : decode cX4_keep 14 = .ok (.bipush 16, 2) := by decide +kernel
theorem dX4_keep_16 : decode cX4_keep 16 = .ok (.if_icmp .ge 29, 3) := by decide +kernel
theorem dX4_keep_19 : decode cX4_keep 19 = .ok (.aload_n 0, 1) := by decide +kernel
theorem dX4_keep_20 : decode cX4_keep 20 = .ok (.getfield 25, 3) := by decide +kernel
theorem dX4_keep_23 : decode cX4_keep 23 = .ok (.bipush 16, 2) := by decide +kernel
theorem dX4_keep_25 : decode cX4_keep 25 = .ok (.aload_n 0, 1) := by decide +kernel
theorem dX4_keep_26 : decode cX4_keep 26 = .ok (.getfield 96, 3) := by decide +kernel
theorem dX4_keep_29 : decode cX4_keep 29 = .ok (.imul, 1) := by decide +kernel
theorem dX4_keep_30 : decode cX4_keep 30 = .ok (.iload_n 1, 1) := by decide +kernel
theorem dX4_keep_31 : decode cX4_keep 31 = .ok (.iadd, 1) := by decide +kernel
theorem dX4_keep_32 : decode cX4_keep 32 = .ok (.aload_n 0, 1) := by decide +kernel
theorem dX4_keep_33 : decode cX4_keep 33 = .ok (.getfield 19, 3) := by decide +kernel
theorem dX4_keep_36 : decode cX4_keep 36 = .ok (.iload_n 1, 1) := by decide +kernel
theorem dX4_keep_37 : decode cX4_keep 37 = .ok (.iaload, 1) := by decide +kernel
theorem dX4_keep_38 : decode cX4_keep 38 = .ok (.iastore, 1) := by decide +kernel
theorem dX4_keep_39 : decode cX4_keep 39 = .ok (.iinc 1 1, 3) := by decide +kernel
theorem dX4_keep_42 : decode cX4_keep 42 = .ok (.goto (-29), 3) := by decide +kernel
theorem dX4_keep_45 : decode cX4_keep 45 = .ok (.aload_n 0, 1) := by decide +kernel
theorem dX4_keep_46 : decode cX4_keep 46 = .ok (.dup, 1) := by decide +kernel
theorem dX4_keep_47 : decode cX4_keep 47 = .ok (.getfield 96, 3) := by decide +kernel
theorem dX4_keep_50 : decode cX4_keep 50 = .ok (.iconst 1, 1) := by decide +kernel
theorem dX4_keep_51 : decode cX4_keep 51 = .ok (.iadd, 1) := by decide +kernel
theorem dX4_keep_52 : decode cX4_keep 52 = .ok (.putfield 96, 3) := by decide +kernel
theorem dX4_keep_55 : decode cX4_keep 55 = .ok (.aload_n 0, 1) := by decide +kernel
theorem dX4_keep_56 : decode cX4_keep 56 = .ok (.getfield 96, 3) := by decide +kernel
theorem dX4_keep_59 : decode cX4_keep 59 = .ok (.ireturn, 1) := by decide +kernel
theorem dX4_back_0 : decode cX4_back 0 = .ok (.aload_n 0, 1) := by decide +kernel
theorem dX4_back_1 : decode cX4_back 1 = .ok (.getfield 96, 3) := by decide +kernel
theorem dX4_back_4 : decode cX4_back 4 = .ok (.ifCond .ne 6, 3) := by decide +kernel
theorem dX4_back_7 : decode cX4_back 7 = .ok (.bipush (-2), 2) := by decide +kernel
theorem dX4_back_9 : decode cX4_back 9 = .ok (.ireturn, 1) := by decide +kernel
theorem dX4_back_10 : decode cX4_back 10 = .ok (.aload_n 0, 1) := by decide +kernel
theorem dX4_back_11 : decode cX4_back 11 = .ok (.dup, 1) := by decide +kernel
theorem dX4_back_12 : decode cX4_back 12 = .ok (.getfield 96, 3) := by decide +kernel
theorem dX4_back_15 : decode cX4_back 15 = .ok (.iconst 1, 1) := by decide +kernel
theorem dX4_back_16 : decode cX4_back 16 = .ok (.isub, 1) := by decide +kernel
theorem dX4_back_17 : decode cX4_back 17 = .ok (.putfield 96, 3) := by decide +kernel
theorem dX4_back_20 : decode cX4_back 20 = .ok (.iconst 0, 1) := by decide +kernel
theorem dX4_back_21 : decode cX4_back 21 = .ok (.istore_n 1, 1) := by decide +kernel
theorem dX4_back_22 : decode cX4_back 22 = .ok (.iload_n 1, 1) := by decide +kernel
theorem dX4_back_23 : decode cX4_back 23 = .ok (.bipush 16, 2) := by decide +kernel
theorem dX4_back_25 : decode cX4_back 25 = .ok (.if_icmp .ge 29, 3) := by decide +kernel
theorem dX4_back_28 : decode cX4_back 28 = .ok (.aload_n 0, 1) := by decide +kernel
theorem dX4_back_29 : decode cX4_back 29 = .ok (.getfield 19, 3) := by decide +kernel
theorem dX4_back_32 : decode cX4_back 32 = .ok (.iload_n 1, 1) := by decide +kernel
theorem dX4_back_33 : decode cX4_back 33 = .ok (.aload_n 0, 1) := by decide +kernel
theorem dX4_back_34 : decode cX4_back 34 = .ok (.getfield 25, 3) := by decide +kernel
theorem dX4_back_37 : decode cX4_back 37 = .ok (.bipush 16, 2) := by decide +kernel
theorem dX4_back_39 : decode cX4_back 39 = .ok (.aload_n 0, 1) := by decide +kernel
theorem dX4_back_40 : decode cX4_back 40 = .ok (.getfield 96, 3) := by decide +kernel
theorem dX4_back_43 : decode cX4_back 43 = .ok (.imul, 1) := by decide +kernel
theorem dX4_back_44 : decode cX4_back 44 = .ok (.iload_n 1, 1) := by decide +kernel
theorem dX4_back_45 : decode cX4_back 45 = .ok (.iadd, 1) := by decide +kernel
theorem dX4_back_46 : decode cX4_back 46 = .ok (.iaload, 1) := by decide +kernel
theorem dX4_back_47 : decode cX4_back 47 = .ok (.iastore, 1) := by decide +kernel
theorem dX4_back_48 : decode cX4_back 48 = .ok (.iinc 1 1, 3) := by decide +kernel
theorem dX4_back_51 : decode cX4_back 51 = .ok (.goto (-29), 3) := by decide +kernel
theorem dX4_back_54 : decode cX4_back 54 = .ok (.aload_n 0, 1) := by decide +kernel
theorem dX4_back_55 : decode cX4_back 55 = .ok (.getfield 96, 3) := by decide +kernel
theorem dX4_back_58 : decode cX4_back 58 = .ok (.ireturn, 1) := by decide +kernel
theorem dX4_count_0 : decode cX4_count 0 = .ok (.iload_n 1, 1) := by decide +kernel
theorem dX4_count_1 : decode cX4_count 1 = .ok (.iconst 0, 1) := by decide +kernel
theorem dX4_count_2 : decode cX4_count 2 = .ok (.iconst 2, 1) := by decide +kernel
theorem dX4_count_3 : decode cX4_count 3 = .ok (.invokestatic 40, 3) := by decide +kernel
theorem dX4_count_6 : decode cX4_count 6 = .ok (.ifCond .eq 12, 3) := by decide +kernel
theorem dX4_count_9 : decode cX4_count 9 = .ok (.aload_n 0, 1) := by decide +kernel
theorem dX4_count_10 : decode cX4_count 10 = .ok (.getfield 13, 3) := by decide +kernel
theorem dX4_count_13 : decode cX4_count 13 = .ok (.iload_n 1, 1) := by decide +kernel
theorem dX4_count_14 : decode cX4_count 14 = .ok (.iaload, 1) := by decide +kernel
theorem dX4_count_15 : decode cX4_count 15 = .ok (.goto 85, 3) := by decide +kernel
theorem dX4_count_18 : decode cX4_count 18 = .ok (.iload_n 1, 1) := by decide +kernel
theorem dX4_count_19 : decode cX4_count 19 = .ok (.iconst 3, 1) := by decide +kernel
theorem dX4_count_20 : decode cX4_count 20 = .ok (.if_icmp .ne 12, 3) := by decide +kernel
theorem dX4_count_23 : decode cX4_count 23 = .ok (.aload_n 0, 1) := by decide +kernel
theorem dX4_count_24 : decode cX4_count 24 = .ok (.getfield 19, 3) := by decide +kernel
theorem dX4_count_27 : decode cX4_count 27 = .ok (.iconst 0, 1) := by decide +kernel
theorem dX4_count_28 : decode cX4_count 28 = .ok (.iaload, 1) := by decide +kernel
theorem dX4_count_29 : decode cX4_count 29 = .ok (.goto 71, 3) := by decide +kernel
theorem dX4_count_32 : decode cX4_count 32 = .ok (.iload_n 1, 1) := by decide +kernel
theorem dX4_count_33 : decode cX4_count 33 = .ok (.iconst 4, 1) := by decide +kernel
theorem dX4_count_34 : decode cX4_count 34 = .ok (.if_icmp .ne 10, 3) := by decide +kernel
theorem dX4_count_37 : decode cX4_count 37 = .ok (.aload_n 0, 1) := by decide +kernel
theorem dX4_count_38 : decode cX4_count 38 = .ok (.getfield 93, 3) := by decide +kernel
theorem dX4_count_41 : decode cX4_count 41 = .ok (.goto 59, 3) := by decide +kernel
theorem dX4_count_44 : decode cX4_count 44 = .ok (.iload_n 1, 1) := by decide +kernel
theorem dX4_count_45 : decode cX4_count 45 = .ok (.iconst 5, 1) := by decide +kernel
theorem dX4_count_46 : decode cX4_count 46 = .ok (.if_icmp .ne 10, 3) := by decide +kernel
theorem dX4_count_49 : decode cX4_count 49 = .ok (.aload_n 0, 1) := by decide +kernel
theorem dX4_count_50 : decode cX4_count 50 = .ok (.getfield 96, 3) := by decide +kernel
theorem dX4_count_53 : decode cX4_count 53 = .ok (.goto 47, 3) := by decide +kernel
theorem dX4_count_56 : decode cX4_count 56 = .ok (.iload_n 1, 1) := by decide +kernel
theorem dX4_count_57 : decode cX4_count 57 = .ok (.bipush 6, 2) := by decide +kernel
theorem dX4_count_59 : decode cX4_count 59 = .ok (.if_icmp .ne 10, 3) := by decide +kernel
theorem dX4_count_62 : decode cX4_count 62 = .ok (.aload_n 0, 1) := by decide +kernel
theorem dX4_count_63 : decode cX4_count 63 = .ok (.getfield 44, 3) := by decide +kernel
theorem dX4_count_66 : decode cX4_count 66 = .ok (.goto 34, 3) := by decide +kernel
theorem dX4_count_69 : decode cX4_count 69 = .ok (.iload_n 1, 1) := by decide +kernel
theorem dX4_count_70 : decode cX4_count 70 = .ok (.bipush 7, 2) := by decide +kernel
theorem dX4_count_72 : decode cX4_count 72 = .ok (.if_icmp .ne 12, 3) := by decide +kernel
theorem dX4_count_75 : decode cX4_count 75 = .ok (.aload_n 0, 1) := by decide +kernel
theorem dX4_count_76 : decode cX4_count 76 = .ok (.getfield 13, 3) := by decide +kernel
theorem dX4_count_79 : decode cX4_count 79 = .ok (.iconst 3, 1) := by decide +kernel
theorem dX4_count_80 : decode cX4_count 80 = .ok (.iaload, 1) := by decide +kernel
theorem dX4_count_81 : decode cX4_count 81 = .ok (.goto 19, 3) := by decide +kernel
theorem dX4_count_84 : decode cX4_count 84 = .ok (.iload_n 1, 1) := by decide +kernel
theorem dX4_count_85 : decode cX4_count 85 = .ok (.bipush 8, 2) := by decide +kernel
theorem dX4_count_87 : decode cX4_count 87 = .ok (.if_icmp .ne 12, 3) := by decide +kernel
theorem dX4_count_90 : decode cX4_count 90 = .ok (.aload_n 0, 1) := by decide +kernel
theorem dX4_count_91 : decode cX4_count 91 = .ok (.getfield 13, 3) := by decide +kernel
theorem dX4_count_94 : decode cX4_count 94 = .ok (.iconst 4, 1) := by decide +kernel
theorem dX4_count_95 : decode cX4_count 95 = .ok (.iaload, 1) := by decide +kernel
theorem dX4_count_96 : decode cX4_count 96 = .ok (.goto 4, 3) := by decide +kernel
theorem dX4_count_99 : decode cX4_count 99 = .ok (.iconst (-1), 1) := by decide +kernel
theorem dX4_count_100 : decode cX4_count 100 = .ok (.ireturn, 1) := by decide +kernel
end
section
theorem dL_law_0 : decode cL_law 0 = .ok (.new 7, 3) := by decide +kernel
theorem dL_law_3 : decode cL_law 3 = .ok (.dup, 1) := by decide +kernel
theorem dL_law_4 : decode cL_law 4 = .ok (.invokespecial 9, 3) := by decide +kernel
theorem dL_law_7 : decode cL_law 7 = .ok (.astore_n 1, 1) := by decide +kernel
theorem dL_law_8 : decode cL_law 8 = .ok (.new 10, 3) := by decide +kernel
theorem dL_law_11 : decode cL_law 11 = .ok (.dup, 1) := by decide +kernel
theorem dL_law_12 : decode cL_law 12 = .ok (.invokespecial 12, 3) := by decide +kernel
theorem dL_law_15 : decode cL_law 15 = .ok (.astore_n 2, 1) := by decide +kernel
theorem dL_law_16 : decode cL_law 16 = .ok (.iconst 0, 1) := by decide +kernel
theorem dL_law_17 : decode cL_law 17 = .ok (.istore_n 3, 1) := by decide +kernel
theorem dL_law_18 : decode cL_law 18 = .ok (.iload_n 3, 1) := by decide +kernel
theorem dL_law_19 : decode cL_law 19 = .ok (.aload_n 0, 1) := by decide +kernel
theorem dL_law_20 : decode cL_law 20 = .ok (.arraylength, 1) := by decide +kernel
theorem dL_law_21 : decode cL_law 21 = .ok (.iconst 5, 1) := by decide +kernel
theorem dL_law_22 : decode cL_law 22 = .ok (.isub, 1) := by decide +kernel
theorem dL_law_23 : decode cL_law 23 = .ok (.if_icmp .gt 853, 3) := by decide +kernel
theorem dL_law_26 : decode cL_law 26 = .ok (.aload_n 0, 1) := by decide +kernel
theorem dL_law_27 : decode cL_law 27 = .ok (.iload_n 3, 1) := by decide +kernel
theorem dL_law_28 : decode cL_law 28 = .ok (.iaload, 1) := by decide +kernel
theorem dL_law_29 : decode cL_law 29 = .ok (.bipush 31, 2) := by decide +kernel
theorem dL_law_31 : decode cL_law 31 = .ok (.iand, 1) := by decide +kernel
theorem dL_law_32 : decode cL_law 32 = .ok (.tableswitch 838 0 25 #[120, 183, 196, 209, 222, 265, 298, 331, 364, 387, 420, 453, 476, 519, 552, 575, 618, 641, 664, 697, 710, 723, 736, 789, 802, 815], 120) := by decide +kernel
theorem dL_law_152 : decode cL_law 152 = .ok (.aload_n 1, 1) := by decide +kernel
theorem dL_law_153 : decode cL_law 153 = .ok (.aload_n 0, 1) := by decide +kernel
theorem dL_law_154 : decode cL_law 154 = .ok (.iload_n 3, 1) := by decide +kernel
theorem dL_law_155 : decode cL_law 155 = .ok (.iconst 1, 1) := by decide +kernel
theorem dL_law_156 : decode cL_law 156 = .ok (.iadd, 1) := by decide +kernel
theorem dL_law_157 : decode cL_law 157 = .ok (.iaload, 1) := by decide +kernel
theorem dL_law_158 : decode cL_law 158 = .ok (.aload_n 0, 1) := by decide +kernel
theorem dL_law_159 : decode cL_law 159 = .ok (.iload_n 3, 1) := by decide +kernel
theorem dL_law_160 : decode cL_law 160 = .ok (.iconst 2, 1) := by decide +kernel
theorem dL_law_161 : decode cL_law 161 = .ok (.iadd, 1) := by decide +kernel
theorem dL_law_162 : decode cL_law 162 = .ok (.iaload, 1) := by decide +kernel
theorem dL_law_163 : decode cL_law 163 = .ok (.i2l, 1) := by decide +kernel
theorem dL_law_164 : decode cL_law 164 = .ok (.bipush 32, 2) := by decide +kernel
theorem dL_law_166 : decode cL_law 166 = .ok (.lshl, 1) := by decide +kernel
theorem dL_law_167 : decode cL_law 167 = .ok (.aload_n 0, 1) := by decide +kernel
theorem dL_law_168 : decode cL_law 168 = .ok (.iload_n 3, 1) := by decide +kernel
theorem dL_law_169 : decode cL_law 169 = .ok (.iconst 3, 1) := by decide +kernel
theorem dL_law_170 : decode cL_law 170 = .ok (.iadd, 1) := by decide +kernel
theorem dL_law_171 : decode cL_law 171 = .ok (.iaload, 1) := by decide +kernel
theorem dL_law_172 : decode cL_law 172 = .ok (.i2l, 1) := by decide +kernel
theorem dL_law_173 : decode cL_law 173 = .ok (.ldc2_w 13, 3) := by decide +kernel
theorem dL_law_176 : decode cL_law 176 = .ok (.land, 1) := by decide +kernel
theorem dL_law_177 : decode cL_law 177 = .ok (.lor, 1) := by decide +kernel
theorem dL_law_178 : decode cL_law 178 = .ok (.invokevirtual 15, 3) := by decide +kernel
theorem dL_law_181 : decode cL_law 181 = .ok (.aload_n 2, 1) := by decide +kernel
theorem dL_law_182 : decode cL_law 182 = .ok (.aload_n 0, 1) := by decide +kernel
theorem dL_law_183 : decode cL_law 183 = .ok (.iload_n 3, 1) := by decide +kernel
theorem dL_law_184 : decode cL_law 184 = .ok (.iconst 1, 1) := by decide +kernel
theorem dL_law_185 : decode cL_law 185 = .ok (.iadd, 1) := by decide +kernel
theorem dL_law_186 : decode cL_law 186 = .ok (.iaload, 1) := by decide +kernel
theorem dL_law_187 : decode cL_law 187 = .ok (.aload_n 0, 1) := by decide +kernel
theorem dL_law_188 : decode cL_law 188 = .ok (.iload_n 3, 1) := by decide +kernel
theorem dL_law_189 : decode cL_law 189 = .ok (.iconst 2, 1) := by decide +kernel
theorem dL_law_190 : decode cL_law 190 = .ok (.iadd, 1) := by decide +kernel
theorem dL_law_191 : decode cL_law 191 = .ok (.iaload, 1) := by decide +kernel
theorem dL_law_192 : decode cL_law 192 = .ok (.i2l, 1) := by decide +kernel
theorem dL_law_193 : decode cL_law 193 = .ok (.bipush 32, 2) := by decide +kernel
theorem dL_law_195 : decode cL_law 195 = .ok (.lshl, 1) := by decide +kernel
theorem dL_law_196 : decode cL_law 196 = .ok (.aload_n 0, 1) := by decide +kernel
theorem dL_law_197 : decode cL_law 197 = .ok (.iload_n 3, 1) := by decide +kernel
theorem dL_law_198 : decode cL_law 198 = .ok (.iconst 3, 1) := by decide +kernel
theorem dL_law_199 : decode cL_law 199 = .ok (.iadd, 1) := by decide +kernel
theorem dL_law_200 : decode cL_law 200 = .ok (.iaload, 1) := by decide +kernel
theorem dL_law_201 : decode cL_law 201 = .ok (.i2l, 1) := by decide +kernel
theorem dL_law_202 : decode cL_law 202 = .ok (.ldc2_w 13, 3) := by decide +kernel
theorem dL_law_205 : decode cL_law 205 = .ok (.land, 1) := by decide +kernel
theorem dL_law_206 : decode cL_law 206 = .ok (.lor, 1) := by decide +kernel
theorem dL_law_207 : decode cL_law 207 = .ok (.invokevirtual 19, 3) := by decide +kernel
theorem dL_law_210 : decode cL_law 210 = .ok (.if_icmp .eq 660, 3) := by decide +kernel
theorem dL_law_213 : decode cL_law 213 = .ok (.iconst 0, 1) := by decide +kernel
theorem dL_law_214 : decode cL_law 214 = .ok (.ireturn, 1) := by decide +kernel
theorem dL_law_215 : decode cL_law 215 = .ok (.aload_n 1, 1) := by decide +kernel
theorem dL_law_216 : decode cL_law 216 = .ok (.invokevirtual 20, 3) := by decide +kernel
theorem dL_law_219 : decode cL_law 219 = .ok (.aload_n 2, 1) := by decide +kernel
theorem dL_law_220 : decode cL_law 220 = .ok (.invokevirtual 24, 3) := by decide +kernel
theorem dL_law_223 : decode cL_law 223 = .ok (.if_icmp .eq 647, 3) := by decide +kernel
theorem dL_law_226 : decode cL_law 226 = .ok (.iconst 0, 1) := by decide +kernel
theorem dL_law_227 : decode cL_law 227 = .ok (.ireturn, 1) := by decide +kernel
theorem dL_law_228 : decode cL_law 228 = .ok (.aload_n 1, 1) := by decide +kernel
theorem dL_law_229 : decode cL_law 229 = .ok (.invokevirtual 25, 3) := by decide +kernel
theorem dL_law_232 : decode cL_law 232 = .ok (.aload_n 2, 1) := by decide +kernel
theorem dL_law_233 : decode cL_law 233 = .ok (.invokevirtual 28, 3) := by decide +kernel
theorem dL_law_236 : decode cL_law 236 = .ok (.if_icmp .eq 634, 3) := by decide +kernel
theorem dL_law_239 : decode cL_law 239 = .ok (.iconst 0, 1) := by decide +kernel
theorem dL_law_240 : decode cL_law 240 = .ok (.ireturn, 1) := by decide +kernel
theorem dL_law_241 : decode cL_law 241 = .ok (.aload_n 1, 1) := by decide +kernel
theorem dL_law_242 : decode cL_law 242 = .ok (.invokevirtual 29, 3) := by decide +kernel
theorem dL_law_245 : decode cL_law 245 = .ok (.aload_n 2, 1) := by decide +kernel
theorem dL_law_246 : decode cL_law 246 = .ok (.invokevirtual 32, 3) := by decide +kernel
theorem dL_law_249 : decode cL_law 249 = .ok (.if_icmp .eq 621, 3) := by decide +kernel
theorem dL_law_252 : decode cL_law 252 = .ok (.iconst 0, 1) := by decide +kernel
theorem dL_law_253 : decode cL_law 253 = .ok (.ireturn, 1) := by decide +kernel
theorem dL_law_254 : decode cL_law 254 = .ok (.aload_n 1, 1) := by decide +kernel
theorem dL_law_255 : decode cL_law 255 = .ok (.aload_n 0, 1) := by decide +kernel
theorem dL_law_256 : decode cL_law 256 = .ok (.iload_n 3, 1) := by decide +kernel
theorem dL_law_257 : decode cL_law 257 = .ok (.iconst 1, 1) := by decide +kernel
theorem dL_law_258 : decode cL_law 258 = .ok (.iadd, 1) := by decide +kernel
theorem dL_law_259 : decode cL_law 259 = .ok (.iaload, 1) := by decide +kernel
theorem dL_law_260 : decode cL_law 260 = .ok (.aload_n 0, 1) := by decide +kernel
theorem dL_law_261 : decode cL_law 261 = .ok (.iload_n 3, 1) := by decide +kernel
theorem dL_law_262 : decode cL_law 262 = .ok (.iconst 2, 1) := by decide +kernel
theorem dL_law_263 : decode cL_law 263 = .ok (.iadd, 1) := by decide +kernel
theorem dL_law_264 : decode cL_law 264 = .ok (.iaload, 1) := by decide +kernel
theorem dL_law_265 : decode cL_law 265 = .ok (.aload_n 0, 1) := by decide +kernel
theorem dL_law_266 : decode cL_law 266 = .ok (.iload_n 3, 1) := by decide +kernel
theorem dL_law_267 : decode cL_law 267 = .ok (.iconst 3, 1) := by decide +kernel
theorem dL_law_268 : decode cL_law 268 = .ok (.iadd, 1) := by decide +kernel
theorem dL_law_269 : decode cL_law 269 = .ok (.iaload, 1) := by decide +kernel
theorem dL_law_270 : decode cL_law 270 = .ok (.invokevirtual 33, 3) := by decide +kernel
theorem dL_law_273 : decode cL_law 273 = .ok (.aload_n 2, 1) := by decide +kernel
theorem dL_law_274 : decode cL_law 274 = .ok (.aload_n 0, 1) := by decide +kernel
theorem dL_law_275 : decode cL_law 275 = .ok (.iload_n 3, 1) := by decide +kernel
theorem dL_law_276 : decode cL_law 276 = .ok (.iconst 1, 1) := by decide +kernel
theorem dL_law_277 : decode cL_law 277 = .ok (.iadd, 1) := by decide +kernel
theorem dL_law_278 : decode cL_law 278 = .ok (.iaload, 1) := by decide +kernel
theorem dL_law_279 : decode cL_law 279 = .ok (.aload_n 0, 1) := by decide +kernel
theorem dL_law_280 : decode cL_law 280 = .ok (.iload_n 3, 1) := by decide +kernel
theorem dL_law_281 : decode cL_law 281 = .ok (.iconst 2, 1) := by decide +kernel
theorem dL_law_282 : decode cL_law 282 = .ok (.iadd, 1) := by decide +kernel
theorem dL_law_283 : decode cL_law 283 = .ok (.iaload, 1) := by decide +kernel
theorem dL_law_284 : decode cL_law 284 = .ok (.aload_n 0, 1) := by decide +kernel
theorem dL_law_285 : decode cL_law 285 = .ok (.iload_n 3, 1) := by decide +kernel
theorem dL_law_286 : decode cL_law 286 = .ok (.iconst 3, 1) := by decide +kernel
theorem dL_law_287 : decode cL_law 287 = .ok (.iadd, 1) := by decide +kernel
theorem dL_law_288 : decode cL_law 288 = .ok (.iaload, 1) := by decide +kernel
theorem dL_law_289 : decode cL_law 289 = .ok (.invokevirtual 37, 3) := by decide +kernel
theorem dL_law_292 : decode cL_law 292 = .ok (.if_icmp .eq 578, 3) := by decide +kernel
theorem dL_law_295 : decode cL_law 295 = .ok (.iconst 0, 1) := by decide +kernel
theorem dL_law_296 : decode cL_law 296 = .ok (.ireturn, 1) := by decide +kernel
theorem dL_law_297 : decode cL_law 297 = .ok (.aload_n 1, 1) := by decide +kernel
theorem dL_law_298 : decode cL_law 298 = .ok (.aload_n 0, 1) := by decide +kernel
theorem dL_law_299 : decode cL_law 299 = .ok (.iload_n 3, 1) := by decide +kernel
theorem dL_law_300 : decode cL_law 300 = .ok (.iconst 1, 1) := by decide +kernel
theorem dL_law_301 : decode cL_law 301 = .ok (.iadd, 1) := by decide +kernel
theorem dL_law_302 : decode cL_law 302 = .ok (.iaload, 1) := by decide +kernel
theorem dL_law_303 : decode cL_law 303 = .ok (.aload_n 0, 1) := by decide +kernel
theorem dL_law_304 : decode cL_law 304 = .ok (.iload_n 3, 1) := by decide +kernel
theorem dL_law_305 : decode cL_law 305 = .ok (.iconst 2, 1) := by decide +kernel
theorem dL_law_306 : decode cL_law 306 = .ok (.iadd, 1) := by decide +kernel
theorem dL_law_307 : decode cL_law 307 = .ok (.iaload, 1) := by decide +kernel
theorem dL_law_308 : decode cL_law 308 = .ok (.invokevirtual 38, 3) := by decide +kernel
theorem dL_law_311 : decode cL_law 311 = .ok (.aload_n 2, 1) := by decide +kernel
theorem dL_law_312 : decode cL_law 312 = .ok (.aload_n 0, 1) := by decide +kernel
theorem dL_law_313 : decode cL_law 313 = .ok (.iload_n 3, 1) := by decide +kernel
theorem dL_law_314 : decode cL_law 314 = .ok (.iconst 1, 1) := by decide +kernel
theorem dL_law_315 : decode cL_law 315 = .ok (.iadd, 1) := by decide +kernel
theorem dL_law_316 : decode cL_law 316 = .ok (.iaload, 1) := by decide +kernel
theorem dL_law_317 : decode cL_law 317 = .ok (.aload_n 0, 1) := by decide +kernel
theorem dL_law_318 : decode cL_law 318 = .ok (.iload_n 3, 1) := by decide +kernel
theorem dL_law_319 : decode cL_law 319 = .ok (.iconst 2, 1) := by decide +kernel
theorem dL_law_320 : decode cL_law 320 = .ok (.iadd, 1) := by decide +kernel
theorem dL_law_321 : decode cL_law 321 = .ok (.iaload, 1) := by decide +kernel
theorem dL_law_322 : decode cL_law 322 = .ok (.invokevirtual 42, 3) := by decide +kernel
theorem dL_law_325 : decode cL_law 325 = .ok (.if_icmp .eq 545, 3) := by decide +kernel
theorem dL_law_328 : decode cL_law 328 = .ok (.iconst 0, 1) := by decide +kernel
theorem dL_law_329 : decode cL_law 329 = .ok (.ireturn, 1) := by decide +kernel
theorem dL_law_330 : decode cL_law 330 = .ok (.aload_n 1, 1) := by decide +kernel
theorem dL_law_331 : decode cL_law 331 = .ok (.aload_n 0, 1) := by decide +kernel
theorem dL_law_332 : decode cL_law 332 = .ok (.iload_n 3, 1) := by decide +kernel
theorem dL_law_333 : decode cL_law 333 = .ok (.iconst 1, 1) := by decide +kernel
theorem dL_law_334 : decode cL_law 334 = .ok (.iadd, 1) := by decide +kernel
theorem dL_law_335 : decode cL_law 335 = .ok (.iaload, 1) := by decide +kernel
theorem dL_law_336 : decode cL_law 336 = .ok (.aload_n 0, 1) := by decide +kernel
theorem dL_law_337 : decode cL_law 337 = .ok (.iload_n 3, 1) := by decide +kernel
theorem dL_law_338 : decode cL_law 338 = .ok (.iconst 2, 1) := by decide +kernel
theorem dL_law_339 : decode cL_law 339 = .ok (.iadd, 1) := by decide +kernel
theorem dL_law_340 : decode cL_law 340 = .ok (.iaload, 1) := by decide +kernel
theorem dL_law_341 : decode cL_law 341 = .ok (.invokevirtual 43, 3) := by decide +kernel
theorem dL_law_344 : decode cL_law 344 = .ok (.aload_n 2, 1) := by decide +kernel
theorem dL_law_345 : decode cL_law 345 = .ok (.aload_n 0, 1) := by decide +kernel
theorem dL_law_346 : decode cL_law 346 = .ok (.iload_n 3, 1) := by decide +kernel
theorem dL_law_347 : decode cL_law 347 = .ok (.iconst 1, 1) := by decide +kernel
theorem dL_law_348 : decode cL_law 348 = .ok (.iadd, 1) := by decide +kernel
theorem dL_law_349 : decode cL_law 349 = .ok (.iaload, 1) := by decide +kernel
theorem dL_law_350 : decode cL_law 350 = .ok (.aload_n 0, 1) := by decide +kernel
theorem dL_law_351 : decode cL_law 351 = .ok (.iload_n 3, 1) := by decide +kernel
theorem dL_law_352 : decode cL_law 352 = .ok (.iconst 2, 1) := by decide +kernel
theorem dL_law_353 : decode cL_law 353 = .ok (.iadd, 1) := by decide +kernel
theorem dL_law_354 : decode cL_law 354 = .ok (.iaload, 1) := by decide +kernel
theorem dL_law_355 : decode cL_law 355 = .ok (.invokevirtual 46, 3) := by decide +kernel
theorem dL_law_358 : decode cL_law 358 = .ok (.if_icmp .eq 512, 3) := by decide +kernel
theorem dL_law_361 : decode cL_law 361 = .ok (.iconst 0, 1) := by decide +kernel
theorem dL_law_362 : decode cL_law 362 = .ok (.ireturn, 1) := by decide +kernel
theorem dL_law_363 : decode cL_law 363 = .ok (.aload_n 1, 1) := by decide +kernel
theorem dL_law_364 : decode cL_law 364 = .ok (.aload_n 0, 1) := by decide +kernel
theorem dL_law_365 : decode cL_law 365 = .ok (.iload_n 3, 1) := by decide +kernel
theorem dL_law_366 : decode cL_law 366 = .ok (.iconst 1, 1) := by decide +kernel
theorem dL_law_367 : decode cL_law 367 = .ok (.iadd, 1) := by decide +kernel
theorem dL_law_368 : decode cL_law 368 = .ok (.iaload, 1) := by decide +kernel
theorem dL_law_369 : decode cL_law 369 = .ok (.aload_n 0, 1) := by decide +kernel
theorem dL_law_370 : decode cL_law 370 = .ok (.iload_n 3, 1) := by decide +kernel
theorem dL_law_371 : decode cL_law 371 = .ok (.iconst 2, 1) := by decide +kernel
theorem dL_law_372 : decode cL_law 372 = .ok (.iadd, 1) := by decide +kernel
theorem dL_law_373 : decode cL_law 373 = .ok (.iaload, 1) := by decide +kernel
theorem dL_law_374 : decode cL_law 374 = .ok (.invokevirtual 47, 3) := by decide +kernel
theorem dL_law_377 : decode cL_law 377 = .ok (.aload_n 2, 1) := by decide +kernel
theorem dL_law_378 : decode cL_law 378 = .ok (.aload_n 0, 1) := by decide +kernel
theorem dL_law_379 : decode cL_law 379 = .ok (.iload_n 3, 1) := by decide +kernel
theorem dL_law_380 : decode cL_law 380 = .ok (.iconst 1, 1) := by decide +kernel
theorem dL_law_381 : decode cL_law 381 = .ok (.iadd, 1) := by decide +kernel
theorem dL_law_382 : decode cL_law 382 = .ok (.iaload, 1) := by decide +kernel
theorem dL_law_383 : decode cL_law 383 = .ok (.aload_n 0, 1) := by decide +kernel
theorem dL_law_384 : decode cL_law 384 = .ok (.iload_n 3, 1) := by decide +kernel
theorem dL_law_385 : decode cL_law 385 = .ok (.iconst 2, 1) := by decide +kernel
theorem dL_law_386 : decode cL_law 386 = .ok (.iadd, 1) := by decide +kernel
theorem dL_law_387 : decode cL_law 387 = .ok (.iaload, 1) := by decide +kernel
theorem dL_law_388 : decode cL_law 388 = .ok (.invokevirtual 50, 3) := by decide +kernel
theorem dL_law_391 : decode cL_law 391 = .ok (.if_icmp .eq 479, 3) := by decide +kernel
theorem dL_law_394 : decode cL_law 394 = .ok (.iconst 0, 1) := by decide +kernel
theorem dL_law_395 : decode cL_law 395 = .ok (.ireturn, 1) := by decide +kernel
theorem dL_law_396 : decode cL_law 396 = .ok (.aload_n 1, 1) := by decide +kernel
theorem dL_law_397 : decode cL_law 397 = .ok (.aload_n 0, 1) := by decide +kernel
theorem dL_law_398 : decode cL_law 398 = .ok (.iload_n 3, 1) := by decide +kernel
theorem dL_law_399 : decode cL_law 399 = .ok (.iconst 1, 1) := by decide +kernel
theorem dL_law_400 : decode cL_law 400 = .ok (.iadd, 1) := by decide +kernel
theorem dL_law_401 : decode cL_law 401 = .ok (.iaload, 1) := by decide +kernel
theorem dL_law_402 : decode cL_law 402 = .ok (.invokevirtual 51, 3) := by decide +kernel
theorem dL_law_405 : decode cL_law 405 = .ok (.aload_n 2, 1) := by decide +kernel
theorem dL_law_406 : decode cL_law 406 = .ok (.aload_n 0, 1) := by decide +kernel
theorem dL_law_407 : decode cL_law 407 = .ok (.iload_n 3, 1) := by decide +kernel
theorem dL_law_408 : decode cL_law 408 = .ok (.iconst 1, 1) := by decide +kernel
theorem dL_law_409 : decode cL_law 409 = .ok (.iadd, 1) := by decide +kernel
theorem dL_law_410 : decode cL_law 410 = .ok (.iaload, 1) := by decide +kernel
theorem dL_law_411 : decode cL_law 411 = .ok (.invokevirtual 55, 3) := by decide +kernel
theorem dL_law_414 : decode cL_law 414 = .ok (.if_icmp .eq 456, 3) := by decide +kernel
theorem dL_law_417 : decode cL_law 417 = .ok (.iconst 0, 1) := by decide +kernel
theorem dL_law_418 : decode cL_law 418 = .ok (.ireturn, 1) := by decide +kernel
theorem dL_law_419 : decode cL_law 419 = .ok (.aload_n 1, 1) := by decide +kernel
theorem dL_law_420 : decode cL_law 420 = .ok (.aload_n 0, 1) := by decide +kernel
theorem dL_law_421 : decode cL_law 421 = .ok (.iload_n 3, 1) := by decide +kernel
theorem dL_law_422 : decode cL_law 422 = .ok (.iconst 1, 1) := by decide +kernel
theorem dL_law_423 : decode cL_law 423 = .ok (.iadd, 1) := by decide +kernel
theorem dL_law_424 : decode cL_law 424 = .ok (.iaload, 1) := by decide +kernel
theorem dL_law_425 : decode cL_law 425 = .ok (.aload_n 0, 1) := by decide +kernel
theorem dL_law_426 : decode cL_law 426 = .ok (.iload_n 3, 1) := by decide +kernel
theorem dL_law_427 : decode cL_law 427 = .ok (.iconst 2, 1) := by decide +kernel
theorem dL_law_428 : decode cL_law 428 = .ok (.iadd, 1) := by decide +kernel
theorem dL_law_429 : decode cL_law 429 = .ok (.iaload, 1) := by decide +kernel
theorem dL_law_430 : decode cL_law 430 = .ok (.invokevirtual 56, 3) := by decide +kernel
theorem dL_law_433 : decode cL_law 433 = .ok (.aload_n 2, 1) := by decide +kernel
theorem dL_law_434 : decode cL_law 434 = .ok (.aload_n 0, 1) := by decide +kernel
theorem dL_law_435 : decode cL_law 435 = .ok (.iload_n 3, 1) := by decide +kernel
theorem dL_law_436 : decode cL_law 436 = .ok (.iconst 1, 1) := by decide +kernel
theorem dL_law_437 : decode cL_law 437 = .ok (.iadd, 1) := by decide +kernel
theorem dL_law_438 : decode cL_law 438 = .ok (.iaload, 1) := by decide +kernel
theorem dL_law_439 : decode cL_law 439 = .ok (.aload_n 0, 1) := by decide +kernel
theorem dL_law_440 : decode cL_law 440 = .ok (.iload_n 3, 1) := by decide +kernel
theorem dL_law_441 : decode cL_law 441 = .ok (.iconst 2, 1) := by decide +kernel
theorem dL_law_442 : decode cL_law 442 = .ok (.iadd, 1) := by decide +kernel
theorem dL_law_443 : decode cL_law 443 = .ok (.iaload, 1) := by decide +kernel
theorem dL_law_444 : decode cL_law 444 = .ok (.invokevirtual 59, 3) := by decide +kernel
theorem dL_law_447 : decode cL_law 447 = .ok (.if_icmp .eq 423, 3) := by decide +kernel
theorem dL_law_450 : decode cL_law 450 = .ok (.iconst 0, 1) := by decide +kernel
theorem dL_law_451 : decode cL_law 451 = .ok (.ireturn, 1) := by decide +kernel
theorem dL_law_452 : decode cL_law 452 = .ok (.aload_n 1, 1) := by decide +kernel
theorem dL_law_453 : decode cL_law 453 = .ok (.aload_n 0, 1) := by decide +kernel
theorem dL_law_454 : decode cL_law 454 = .ok (.iload_n 3, 1) := by decide +kernel
theorem dL_law_455 : decode cL_law 455 = .ok (.iconst 1, 1) := by decide +kernel
theorem dL_law_456 : decode cL_law 456 = .ok (.iadd, 1) := by decide +kernel
theorem dL_law_457 : decode cL_law 457 = .ok (.iaload, 1) := by decide +kernel
theorem dL_law_458 : decode cL_law 458 = .ok (.aload_n 0, 1) := by decide +kernel
theorem dL_law_459 : decode cL_law 459 = .ok (.iload_n 3, 1) := by decide +kernel
theorem dL_law_460 : decode cL_law 460 = .ok (.iconst 2, 1) := by decide +kernel
theorem dL_law_461 : decode cL_law 461 = .ok (.iadd, 1) := by decide +kernel
theorem dL_law_462 : decode cL_law 462 = .ok (.iaload, 1) := by decide +kernel
theorem dL_law_463 : decode cL_law 463 = .ok (.invokevirtual 60, 3) := by decide +kernel
theorem dL_law_466 : decode cL_law 466 = .ok (.aload_n 2, 1) := by decide +kernel
theorem dL_law_467 : decode cL_law 467 = .ok (.aload_n 0, 1) := by decide +kernel
theorem dL_law_468 : decode cL_law 468 = .ok (.iload_n 3, 1) := by decide +kernel
theorem dL_law_469 : decode cL_law 469 = .ok (.iconst 1, 1) := by decide +kernel
theorem dL_law_470 : decode cL_law 470 = .ok (.iadd, 1) := by decide +kernel
theorem dL_law_471 : decode cL_law 471 = .ok (.iaload, 1) := by decide +kernel
theorem dL_law_472 : decode cL_law 472 = .ok (.aload_n 0, 1) := by decide +kernel
theorem dL_law_473 : decode cL_law 473 = .ok (.iload_n 3, 1) := by decide +kernel
theorem dL_law_474 : decode cL_law 474 = .ok (.iconst 2, 1) := by decide +kernel
theorem dL_law_475 : decode cL_law 475 = .ok (.iadd, 1) := by decide +kernel
theorem dL_law_476 : decode cL_law 476 = .ok (.iaload, 1) := by decide +kernel
theorem dL_law_477 : decode cL_law 477 = .ok (.invokevirtual 63, 3) := by decide +kernel
theorem dL_law_480 : decode cL_law 480 = .ok (.if_icmp .eq 390, 3) := by decide +kernel
theorem dL_law_483 : decode cL_law 483 = .ok (.iconst 0, 1) := by decide +kernel
theorem dL_law_484 : decode cL_law 484 = .ok (.ireturn, 1) := by decide +kernel
theorem dL_law_485 : decode cL_law 485 = .ok (.aload_n 1, 1) := by decide +kernel
theorem dL_law_486 : decode cL_law 486 = .ok (.aload_n 0, 1) := by decide +kernel
theorem dL_law_487 : decode cL_law 487 = .ok (.iload_n 3, 1) := by decide +kernel
theorem dL_law_488 : decode cL_law 488 = .ok (.iconst 1, 1) := by decide +kernel
theorem dL_law_489 : decode cL_law 489 = .ok (.iadd, 1) := by decide +kernel
theorem dL_law_490 : decode cL_law 490 = .ok (.iaload, 1) := by decide +kernel
theorem dL_law_491 : decode cL_law 491 = .ok (.invokevirtual 64, 3) := by decide +kernel
theorem dL_law_494 : decode cL_law 494 = .ok (.aload_n 2, 1) := by decide +kernel
theorem dL_law_495 : decode cL_law 495 = .ok (.aload_n 0, 1) := by decide +kernel
theorem dL_law_496 : decode cL_law 496 = .ok (.iload_n 3, 1) := by decide +kernel
theorem dL_law_497 : decode cL_law 497 = .ok (.iconst 1, 1) := by decide +kernel
theorem dL_law_498 : decode cL_law 498 = .ok (.iadd, 1) := by decide +kernel
theorem dL_law_499 : decode cL_law 499 = .ok (.iaload, 1) := by decide +kernel
theorem dL_law_500 : decode cL_law 500 = .ok (.invokevirtual 67, 3) := by decide +kernel
theorem dL_law_503 : decode cL_law 503 = .ok (.if_icmp .eq 367, 3) := by decide +kernel
theorem dL_law_506 : decode cL_law 506 = .ok (.iconst 0, 1) := by decide +kernel
theorem dL_law_507 : decode cL_law 507 = .ok (.ireturn, 1) := by decide +kernel
theorem dL_law_508 : decode cL_law 508 = .ok (.aload_n 1, 1) := by decide +kernel
theorem dL_law_509 : decode cL_law 509 = .ok (.aload_n 0, 1) := by decide +kernel
theorem dL_law_510 : decode cL_law 510 = .ok (.iload_n 3, 1) := by decide +kernel
theorem dL_law_511 : decode cL_law 511 = .ok (.iconst 1, 1) := by decide +kernel
theorem dL_law_512 : decode cL_law 512 = .ok (.iadd, 1) := by decide +kernel
theorem dL_law_513 : decode cL_law 513 = .ok (.iaload, 1) := by decide +kernel
theorem dL_law_514 : decode cL_law 514 = .ok (.aload_n 0, 1) := by decide +kernel
theorem dL_law_515 : decode cL_law 515 = .ok (.iload_n 3, 1) := by decide +kernel
theorem dL_law_516 : decode cL_law 516 = .ok (.iconst 2, 1) := by decide +kernel
theorem dL_law_517 : decode cL_law 517 = .ok (.iadd, 1) := by decide +kernel
theorem dL_law_518 : decode cL_law 518 = .ok (.iaload, 1) := by decide +kernel
theorem dL_law_519 : decode cL_law 519 = .ok (.aload_n 0, 1) := by decide +kernel
theorem dL_law_520 : decode cL_law 520 = .ok (.iload_n 3, 1) := by decide +kernel
theorem dL_law_521 : decode cL_law 521 = .ok (.iconst 3, 1) := by decide +kernel
theorem dL_law_522 : decode cL_law 522 = .ok (.iadd, 1) := by decide +kernel
theorem dL_law_523 : decode cL_law 523 = .ok (.iaload, 1) := by decide +kernel
theorem dL_law_524 : decode cL_law 524 = .ok (.invokevirtual 68, 3) := by decide +kernel
theorem dL_law_527 : decode cL_law 527 = .ok (.aload_n 2, 1) := by decide +kernel
theorem dL_law_528 : decode cL_law 528 = .ok (.aload_n 0, 1) := by decide +kernel
theorem dL_law_529 : decode cL_law 529 = .ok (.iload_n 3, 1) := by decide +kernel
theorem dL_law_530 : decode cL_law 530 = .ok (.iconst 1, 1) := by decide +kernel
theorem dL_law_531 : decode cL_law 531 = .ok (.iadd, 1) := by decide +kernel
theorem dL_law_532 : decode cL_law 532 = .ok (.iaload, 1) := by decide +kernel
theorem dL_law_533 : decode cL_law 533 = .ok (.aload_n 0, 1) := by decide +kernel
theorem dL_law_534 : decode cL_law 534 = .ok (.iload_n 3, 1) := by decide +kernel
theorem dL_law_535 : decode cL_law 535 = .ok (.iconst 2, 1) := by decide +kernel
theorem dL_law_536 : decode cL_law 536 = .ok (.iadd, 1) := by decide +kernel
theorem dL_law_537 : decode cL_law 537 = .ok (.iaload, 1) := by decide +kernel
theorem dL_law_538 : decode cL_law 538 = .ok (.aload_n 0, 1) := by decide +kernel
theorem dL_law_539 : decode cL_law 539 = .ok (.iload_n 3, 1) := by decide +kernel
theorem dL_law_540 : decode cL_law 540 = .ok (.iconst 3, 1) := by decide +kernel
theorem dL_law_541 : decode cL_law 541 = .ok (.iadd, 1) := by decide +kernel
theorem dL_law_542 : decode cL_law 542 = .ok (.iaload, 1) := by decide +kernel
theorem dL_law_543 : decode cL_law 543 = .ok (.invokevirtual 71, 3) := by decide +kernel
theorem dL_law_546 : decode cL_law 546 = .ok (.if_icmp .eq 324, 3) := by decide +kernel
theorem dL_law_549 : decode cL_law 549 = .ok (.iconst 0, 1) := by decide +kernel
theorem dL_law_550 : decode cL_law 550 = .ok (.ireturn, 1) := by decide +kernel
theorem dL_law_551 : decode cL_law 551 = .ok (.aload_n 1, 1) := by decide +kernel
theorem dL_law_552 : decode cL_law 552 = .ok (.aload_n 0, 1) := by decide +kernel
theorem dL_law_553 : decode cL_law 553 = .ok (.iload_n 3, 1) := by decide +kernel
theorem dL_law_554 : decode cL_law 554 = .ok (.iconst 1, 1) := by decide +kernel
theorem dL_law_555 : decode cL_law 555 = .ok (.iadd, 1) := by decide +kernel
theorem dL_law_556 : decode cL_law 556 = .ok (.iaload, 1) := by decide +kernel
theorem dL_law_557 : decode cL_law 557 = .ok (.aload_n 0, 1) := by decide +kernel
theorem dL_law_558 : decode cL_law 558 = .ok (.iload_n 3, 1) := by decide +kernel
theorem dL_law_559 : decode cL_law 559 = .ok (.iconst 2, 1) := by decide +kernel
theorem dL_law_560 : decode cL_law 560 = .ok (.iadd, 1) := by decide +kernel
theorem dL_law_561 : decode cL_law 561 = .ok (.iaload, 1) := by decide +kernel
theorem dL_law_562 : decode cL_law 562 = .ok (.invokevirtual 72, 3) := by decide +kernel
theorem dL_law_565 : decode cL_law 565 = .ok (.aload_n 2, 1) := by decide +kernel
theorem dL_law_566 : decode cL_law 566 = .ok (.aload_n 0, 1) := by decide +kernel
theorem dL_law_567 : decode cL_law 567 = .ok (.iload_n 3, 1) := by decide +kernel
theorem dL_law_568 : decode cL_law 568 = .ok (.iconst 1, 1) := by decide +kernel
theorem dL_law_569 : decode cL_law 569 = .ok (.iadd, 1) := by decide +kernel
theorem dL_law_570 : decode cL_law 570 = .ok (.iaload, 1) := by decide +kernel
theorem dL_law_571 : decode cL_law 571 = .ok (.aload_n 0, 1) := by decide +kernel
theorem dL_law_572 : decode cL_law 572 = .ok (.iload_n 3, 1) := by decide +kernel
theorem dL_law_573 : decode cL_law 573 = .ok (.iconst 2, 1) := by decide +kernel
theorem dL_law_574 : decode cL_law 574 = .ok (.iadd, 1) := by decide +kernel
theorem dL_law_575 : decode cL_law 575 = .ok (.iaload, 1) := by decide +kernel
theorem dL_law_576 : decode cL_law 576 = .ok (.invokevirtual 75, 3) := by decide +kernel
theorem dL_law_579 : decode cL_law 579 = .ok (.if_icmp .eq 291, 3) := by decide +kernel
theorem dL_law_582 : decode cL_law 582 = .ok (.iconst 0, 1) := by decide +kernel
theorem dL_law_583 : decode cL_law 583 = .ok (.ireturn, 1) := by decide +kernel
theorem dL_law_584 : decode cL_law 584 = .ok (.aload_n 1, 1) := by decide +kernel
theorem dL_law_585 : decode cL_law 585 = .ok (.aload_n 0, 1) := by decide +kernel
theorem dL_law_586 : decode cL_law 586 = .ok (.iload_n 3, 1) := by decide +kernel
theorem dL_law_587 : decode cL_law 587 = .ok (.iconst 1, 1) := by decide +kernel
theorem dL_law_588 : decode cL_law 588 = .ok (.iadd, 1) := by decide +kernel
theorem dL_law_589 : decode cL_law 589 = .ok (.iaload, 1) := by decide +kernel
theorem dL_law_590 : decode cL_law 590 = .ok (.invokevirtual 76, 3) := by decide +kernel
theorem dL_law_593 : decode cL_law 593 = .ok (.aload_n 2, 1) := by decide +kernel
theorem dL_law_594 : decode cL_law 594 = .ok (.aload_n 0, 1) := by decide +kernel
theorem dL_law_595 : decode cL_law 595 = .ok (.iload_n 3, 1) := by decide +kernel
theorem dL_law_596 : decode cL_law 596 = .ok (.iconst 1, 1) := by decide +kernel
theorem dL_law_597 : decode cL_law 597 = .ok (.iadd, 1) := by decide +kernel
theorem dL_law_598 : decode cL_law 598 = .ok (.iaload, 1) := by decide +kernel
theorem dL_law_599 : decode cL_law 599 = .ok (.invokevirtual 79, 3) := by decide +kernel
theorem dL_law_602 : decode cL_law 602 = .ok (.if_icmp .eq 268, 3) := by decide +kernel
theorem dL_law_605 : decode cL_law 605 = .ok (.iconst 0, 1) := by decide +kernel
theorem dL_law_606 : decode cL_law 606 = .ok (.ireturn, 1) := by decide +kernel
theorem dL_law_607 : decode cL_law 607 = .ok (.aload_n 1, 1) := by decide +kernel
theorem dL_law_608 : decode cL_law 608 = .ok (.aload_n 0, 1) := by decide +kernel
theorem dL_law_609 : decode cL_law 609 = .ok (.iload_n 3, 1) := by decide +kernel
theorem dL_law_610 : decode cL_law 610 = .ok (.iconst 1, 1) := by decide +kernel
theorem dL_law_611 : decode cL_law 611 = .ok (.iadd, 1) := by decide +kernel
theorem dL_law_612 : decode cL_law 612 = .ok (.iaload, 1) := by decide +kernel
theorem dL_law_613 : decode cL_law 613 = .ok (.aload_n 0, 1) := by decide +kernel
theorem dL_law_614 : decode cL_law 614 = .ok (.iload_n 3, 1) := by decide +kernel
theorem dL_law_615 : decode cL_law 615 = .ok (.iconst 2, 1) := by decide +kernel
theorem dL_law_616 : decode cL_law 616 = .ok (.iadd, 1) := by decide +kernel
theorem dL_law_617 : decode cL_law 617 = .ok (.iaload, 1) := by decide +kernel
theorem dL_law_618 : decode cL_law 618 = .ok (.aload_n 0, 1) := by decide +kernel
theorem dL_law_619 : decode cL_law 619 = .ok (.iload_n 3, 1) := by decide +kernel
theorem dL_law_620 : decode cL_law 620 = .ok (.iconst 3, 1) := by decide +kernel
theorem dL_law_621 : decode cL_law 621 = .ok (.iadd, 1) := by decide +kernel
theorem dL_law_622 : decode cL_law 622 = .ok (.iaload, 1) := by decide +kernel
theorem dL_law_623 : decode cL_law 623 = .ok (.invokevirtual 80, 3) := by decide +kernel
theorem dL_law_626 : decode cL_law 626 = .ok (.aload_n 2, 1) := by decide +kernel
theorem dL_law_627 : decode cL_law 627 = .ok (.aload_n 0, 1) := by decide +kernel
theorem dL_law_628 : decode cL_law 628 = .ok (.iload_n 3, 1) := by decide +kernel
theorem dL_law_629 : decode cL_law 629 = .ok (.iconst 1, 1) := by decide +kernel
theorem dL_law_630 : decode cL_law 630 = .ok (.iadd, 1) := by decide +kernel
theorem dL_law_631 : decode cL_law 631 = .ok (.iaload, 1) := by decide +kernel
theorem dL_law_632 : decode cL_law 632 = .ok (.aload_n 0, 1) := by decide +kernel
theorem dL_law_633 : decode cL_law 633 = .ok (.iload_n 3, 1) := by decide +kernel
theorem dL_law_634 : decode cL_law 634 = .ok (.iconst 2, 1) := by decide +kernel
theorem dL_law_635 : decode cL_law 635 = .ok (.iadd, 1) := by decide +kernel
theorem dL_law_636 : decode cL_law 636 = .ok (.iaload, 1) := by decide +kernel
theorem dL_law_637 : decode cL_law 637 = .ok (.aload_n 0, 1) := by decide +kernel
theorem dL_law_638 : decode cL_law 638 = .ok (.iload_n 3, 1) := by decide +kernel
theorem dL_law_639 : decode cL_law 639 = .ok (.iconst 3, 1) := by decide +kernel
theorem dL_law_640 : decode cL_law 640 = .ok (.iadd, 1) := by decide +kernel
theorem dL_law_641 : decode cL_law 641 = .ok (.iaload, 1) := by decide +kernel
theorem dL_law_642 : decode cL_law 642 = .ok (.invokevirtual 83, 3) := by decide +kernel
theorem dL_law_645 : decode cL_law 645 = .ok (.if_icmp .eq 225, 3) := by decide +kernel
theorem dL_law_648 : decode cL_law 648 = .ok (.iconst 0, 1) := by decide +kernel
theorem dL_law_649 : decode cL_law 649 = .ok (.ireturn, 1) := by decide +kernel
theorem dL_law_650 : decode cL_law 650 = .ok (.aload_n 1, 1) := by decide +kernel
theorem dL_law_651 : decode cL_law 651 = .ok (.aload_n 0, 1) := by decide +kernel
theorem dL_law_652 : decode cL_law 652 = .ok (.iload_n 3, 1) := by decide +kernel
theorem dL_law_653 : decode cL_law 653 = .ok (.iconst 1, 1) := by decide +kernel
theorem dL_law_654 : decode cL_law 654 = .ok (.iadd, 1) := by decide +kernel
theorem dL_law_655 : decode cL_law 655 = .ok (.iaload, 1) := by decide +kernel
theorem dL_law_656 : decode cL_law 656 = .ok (.invokevirtual 84, 3) := by decide +kernel
theorem dL_law_659 : decode cL_law 659 = .ok (.aload_n 2, 1) := by decide +kernel
theorem dL_law_660 : decode cL_law 660 = .ok (.aload_n 0, 1) := by decide +kernel
theorem dL_law_661 : decode cL_law 661 = .ok (.iload_n 3, 1) := by decide +kernel
theorem dL_law_662 : decode cL_law 662 = .ok (.iconst 1, 1) := by decide +kernel
theorem dL_law_663 : decode cL_law 663 = .ok (.iadd, 1) := by decide +kernel
theorem dL_law_664 : decode cL_law 664 = .ok (.iaload, 1) := by decide +kernel
theorem dL_law_665 : decode cL_law 665 = .ok (.invokevirtual 87, 3) := by decide +kernel
theorem dL_law_668 : decode cL_law 668 = .ok (.if_icmp .eq 202, 3) := by decide +kernel
theorem dL_law_671 : decode cL_law 671 = .ok (.iconst 0, 1) := by decide +kernel
theorem dL_law_672 : decode cL_law 672 = .ok (.ireturn, 1) := by decide +kernel
theorem dL_law_673 : decode cL_law 673 = .ok (.aload_n 1, 1) := by decide +kernel
theorem dL_law_674 : decode cL_law 674 = .ok (.aload_n 0, 1) := by decide +kernel
theorem dL_law_675 : decode cL_law 675 = .ok (.iload_n 3, 1) := by decide +kernel
theorem dL_law_676 : decode cL_law 676 = .ok (.iconst 1, 1) := by decide +kernel
theorem dL_law_677 : decode cL_law 677 = .ok (.iadd, 1) := by decide +kernel
theorem dL_law_678 : decode cL_law 678 = .ok (.iaload, 1) := by decide +kernel
theorem dL_law_679 : decode cL_law 679 = .ok (.invokevirtual 88, 3) := by decide +kernel
theorem dL_law_682 : decode cL_law 682 = .ok (.aload_n 2, 1) := by decide +kernel
theorem dL_law_683 : decode cL_law 683 = .ok (.aload_n 0, 1) := by decide +kernel
theorem dL_law_684 : decode cL_law 684 = .ok (.iload_n 3, 1) := by decide +kernel
theorem dL_law_685 : decode cL_law 685 = .ok (.iconst 1, 1) := by decide +kernel
theorem dL_law_686 : decode cL_law 686 = .ok (.iadd, 1) := by decide +kernel
theorem dL_law_687 : decode cL_law 687 = .ok (.iaload, 1) := by decide +kernel
theorem dL_law_688 : decode cL_law 688 = .ok (.invokevirtual 91, 3) := by decide +kernel
theorem dL_law_691 : decode cL_law 691 = .ok (.if_icmp .eq 179, 3) := by decide +kernel
theorem dL_law_694 : decode cL_law 694 = .ok (.iconst 0, 1) := by decide +kernel
theorem dL_law_695 : decode cL_law 695 = .ok (.ireturn, 1) := by decide +kernel
theorem dL_law_696 : decode cL_law 696 = .ok (.aload_n 1, 1) := by decide +kernel
theorem dL_law_697 : decode cL_law 697 = .ok (.aload_n 0, 1) := by decide +kernel
theorem dL_law_698 : decode cL_law 698 = .ok (.iload_n 3, 1) := by decide +kernel
theorem dL_law_699 : decode cL_law 699 = .ok (.iconst 1, 1) := by decide +kernel
theorem dL_law_700 : decode cL_law 700 = .ok (.iadd, 1) := by decide +kernel
theorem dL_law_701 : decode cL_law 701 = .ok (.iaload, 1) := by decide +kernel
theorem dL_law_702 : decode cL_law 702 = .ok (.aload_n 0, 1) := by decide +kernel
theorem dL_law_703 : decode cL_law 703 = .ok (.iload_n 3, 1) := by decide +kernel
theorem dL_law_704 : decode cL_law 704 = .ok (.iconst 2, 1) := by decide +kernel
theorem dL_law_705 : decode cL_law 705 = .ok (.iadd, 1) := by decide +kernel
theorem dL_law_706 : decode cL_law 706 = .ok (.iaload, 1) := by decide +kernel
theorem dL_law_707 : decode cL_law 707 = .ok (.invokevirtual 92, 3) := by decide +kernel
theorem dL_law_710 : decode cL_law 710 = .ok (.aload_n 2, 1) := by decide +kernel
theorem dL_law_711 : decode cL_law 711 = .ok (.aload_n 0, 1) := by decide +kernel
theorem dL_law_712 : decode cL_law 712 = .ok (.iload_n 3, 1) := by decide +kernel
theorem dL_law_713 : decode cL_law 713 = .ok (.iconst 1, 1) := by decide +kernel
theorem dL_law_714 : decode cL_law 714 = .ok (.iadd, 1) := by decide +kernel
theorem dL_law_715 : decode cL_law 715 = .ok (.iaload, 1) := by decide +kernel
theorem dL_law_716 : decode cL_law 716 = .ok (.aload_n 0, 1) := by decide +kernel
theorem dL_law_717 : decode cL_law 717 = .ok (.iload_n 3, 1) := by decide +kernel
theorem dL_law_718 : decode cL_law 718 = .ok (.iconst 2, 1) := by decide +kernel
theorem dL_law_719 : decode cL_law 719 = .ok (.iadd, 1) := by decide +kernel
theorem dL_law_720 : decode cL_law 720 = .ok (.iaload, 1) := by decide +kernel
theorem dL_law_721 : decode cL_law 721 = .ok (.invokevirtual 95, 3) := by decide +kernel
theorem dL_law_724 : decode cL_law 724 = .ok (.if_icmp .eq 146, 3) := by decide +kernel
theorem dL_law_727 : decode cL_law 727 = .ok (.iconst 0, 1) := by decide +kernel
theorem dL_law_728 : decode cL_law 728 = .ok (.ireturn, 1) := by decide +kernel
theorem dL_law_729 : decode cL_law 729 = .ok (.aload_n 1, 1) := by decide +kernel
theorem dL_law_730 : decode cL_law 730 = .ok (.invokevirtual 96, 3) := by decide +kernel
theorem dL_law_733 : decode cL_law 733 = .ok (.aload_n 2, 1) := by decide +kernel
theorem dL_law_734 : decode cL_law 734 = .ok (.invokevirtual 99, 3) := by decide +kernel
theorem dL_law_737 : decode cL_law 737 = .ok (.if_icmp .eq 133, 3) := by decide +kernel
theorem dL_law_740 : decode cL_law 740 = .ok (.iconst 0, 1) := by decide +kernel
theorem dL_law_741 : decode cL_law 741 = .ok (.ireturn, 1) := by decide +kernel
theorem dL_law_742 : decode cL_law 742 = .ok (.aload_n 1, 1) := by decide +kernel
theorem dL_law_743 : decode cL_law 743 = .ok (.invokevirtual 100, 3) := by decide +kernel
theorem dL_law_746 : decode cL_law 746 = .ok (.aload_n 2, 1) := by decide +kernel
theorem dL_law_747 : decode cL_law 747 = .ok (.invokevirtual 103, 3) := by decide +kernel
theorem dL_law_750 : decode cL_law 750 = .ok (.if_icmp .eq 120, 3) := by decide +kernel
theorem dL_law_753 : decode cL_law 753 = .ok (.iconst 0, 1) := by decide +kernel
theorem dL_law_754 : decode cL_law 754 = .ok (.ireturn, 1) := by decide +kernel
theorem dL_law_755 : decode cL_law 755 = .ok (.aload_n 1, 1) := by decide +kernel
theorem dL_law_756 : decode cL_law 756 = .ok (.invokevirtual 104, 3) := by decide +kernel
theorem dL_law_759 : decode cL_law 759 = .ok (.aload_n 2, 1) := by decide +kernel
theorem dL_law_760 : decode cL_law 760 = .ok (.invokevirtual 107, 3) := by decide +kernel
theorem dL_law_763 : decode cL_law 763 = .ok (.if_icmp .eq 107, 3) := by decide +kernel
theorem dL_law_766 : decode cL_law 766 = .ok (.iconst 0, 1) := by decide +kernel
theorem dL_law_767 : decode cL_law 767 = .ok (.ireturn, 1) := by decide +kernel
theorem dL_law_768 : decode cL_law 768 = .ok (.aload_n 1, 1) := by decide +kernel
theorem dL_law_769 : decode cL_law 769 = .ok (.aload_n 0, 1) := by decide +kernel
theorem dL_law_770 : decode cL_law 770 = .ok (.iload_n 3, 1) := by decide +kernel
theorem dL_law_771 : decode cL_law 771 = .ok (.iconst 1, 1) := by decide +kernel
theorem dL_law_772 : decode cL_law 772 = .ok (.iadd, 1) := by decide +kernel
theorem dL_law_773 : decode cL_law 773 = .ok (.iaload, 1) := by decide +kernel
theorem dL_law_774 : decode cL_law 774 = .ok (.aload_n 0, 1) := by decide +kernel
theorem dL_law_775 : decode cL_law 775 = .ok (.iload_n 3, 1) := by decide +kernel
theorem dL_law_776 : decode cL_law 776 = .ok (.iconst 2, 1) := by decide +kernel
theorem dL_law_777 : decode cL_law 777 = .ok (.iadd, 1) := by decide +kernel
theorem dL_law_778 : decode cL_law 778 = .ok (.iaload, 1) := by decide +kernel
theorem dL_law_779 : decode cL_law 779 = .ok (.aload_n 0, 1) := by decide +kernel
theorem dL_law_780 : decode cL_law 780 = .ok (.iload_n 3, 1) := by decide +kernel
theorem dL_law_781 : decode cL_law 781 = .ok (.iconst 3, 1) := by decide +kernel
theorem dL_law_782 : decode cL_law 782 = .ok (.iadd, 1) := by decide +kernel
theorem dL_law_783 : decode cL_law 783 = .ok (.iaload, 1) := by decide +kernel
theorem dL_law_784 : decode cL_law 784 = .ok (.aload_n 0, 1) := by decide +kernel
theorem dL_law_785 : decode cL_law 785 = .ok (.iload_n 3, 1) := by decide +kernel
theorem dL_law_786 : decode cL_law 786 = .ok (.iconst 4, 1) := by decide +kernel
theorem dL_law_787 : decode cL_law 787 = .ok (.iadd, 1) := by decide +kernel
theorem dL_law_788 : decode cL_law 788 = .ok (.iaload, 1) := by decide +kernel
theorem dL_law_789 : decode cL_law 789 = .ok (.invokevirtual 108, 3) := by decide +kernel
theorem dL_law_792 : decode cL_law 792 = .ok (.aload_n 2, 1) := by decide +kernel
theorem dL_law_793 : decode cL_law 793 = .ok (.aload_n 0, 1) := by decide +kernel
theorem dL_law_794 : decode cL_law 794 = .ok (.iload_n 3, 1) := by decide +kernel
theorem dL_law_795 : decode cL_law 795 = .ok (.iconst 1, 1) := by decide +kernel
theorem dL_law_796 : decode cL_law 796 = .ok (.iadd, 1) := by decide +kernel
theorem dL_law_797 : decode cL_law 797 = .ok (.iaload, 1) := by decide +kernel
theorem dL_law_798 : decode cL_law 798 = .ok (.aload_n 0, 1) := by decide +kernel
theorem dL_law_799 : decode cL_law 799 = .ok (.iload_n 3, 1) := by decide +kernel
theorem dL_law_800 : decode cL_law 800 = .ok (.iconst 2, 1) := by decide +kernel
theorem dL_law_801 : decode cL_law 801 = .ok (.iadd, 1) := by decide +kernel
theorem dL_law_802 : decode cL_law 802 = .ok (.iaload, 1) := by decide +kernel
theorem dL_law_803 : decode cL_law 803 = .ok (.aload_n 0, 1) := by decide +kernel
theorem dL_law_804 : decode cL_law 804 = .ok (.iload_n 3, 1) := by decide +kernel
theorem dL_law_805 : decode cL_law 805 = .ok (.iconst 3, 1) := by decide +kernel
theorem dL_law_806 : decode cL_law 806 = .ok (.iadd, 1) := by decide +kernel
theorem dL_law_807 : decode cL_law 807 = .ok (.iaload, 1) := by decide +kernel
theorem dL_law_808 : decode cL_law 808 = .ok (.aload_n 0, 1) := by decide +kernel
theorem dL_law_809 : decode cL_law 809 = .ok (.iload_n 3, 1) := by decide +kernel
theorem dL_law_810 : decode cL_law 810 = .ok (.iconst 4, 1) := by decide +kernel
theorem dL_law_811 : decode cL_law 811 = .ok (.iadd, 1) := by decide +kernel
theorem dL_law_812 : decode cL_law 812 = .ok (.iaload, 1) := by decide +kernel
theorem dL_law_813 : decode cL_law 813 = .ok (.invokevirtual 112, 3) := by decide +kernel
theorem dL_law_816 : decode cL_law 816 = .ok (.if_icmp .eq 54, 3) := by decide +kernel
theorem dL_law_819 : decode cL_law 819 = .ok (.iconst 0, 1) := by decide +kernel
theorem dL_law_820 : decode cL_law 820 = .ok (.ireturn, 1) := by decide +kernel
theorem dL_law_821 : decode cL_law 821 = .ok (.aload_n 1, 1) := by decide +kernel
theorem dL_law_822 : decode cL_law 822 = .ok (.invokevirtual 113, 3) := by decide +kernel
theorem dL_law_825 : decode cL_law 825 = .ok (.aload_n 2, 1) := by decide +kernel
theorem dL_law_826 : decode cL_law 826 = .ok (.invokevirtual 116, 3) := by decide +kernel
theorem dL_law_829 : decode cL_law 829 = .ok (.if_icmp .eq 41, 3) := by decide +kernel
theorem dL_law_832 : decode cL_law 832 = .ok (.iconst 0, 1) := by decide +kernel
theorem dL_law_833 : decode cL_law 833 = .ok (.ireturn, 1) := by decide +kernel
theorem dL_law_834 : decode cL_law 834 = .ok (.aload_n 1, 1) := by decide +kernel
theorem dL_law_835 : decode cL_law 835 = .ok (.invokevirtual 117, 3) := by decide +kernel
theorem dL_law_838 : decode cL_law 838 = .ok (.aload_n 2, 1) := by decide +kernel
theorem dL_law_839 : decode cL_law 839 = .ok (.invokevirtual 120, 3) := by decide +kernel
theorem dL_law_842 : decode cL_law 842 = .ok (.if_icmp .eq 28, 3) := by decide +kernel
theorem dL_law_845 : decode cL_law 845 = .ok (.iconst 0, 1) := by decide +kernel
theorem dL_law_846 : decode cL_law 846 = .ok (.ireturn, 1) := by decide +kernel
theorem dL_law_847 : decode cL_law 847 = .ok (.aload_n 1, 1) := by decide +kernel
theorem dL_law_848 : decode cL_law 848 = .ok (.aload_n 0, 1) := by decide +kernel
theorem dL_law_849 : decode cL_law 849 = .ok (.iload_n 3, 1) := by decide +kernel
theorem dL_law_850 : decode cL_law 850 = .ok (.iconst 1, 1) := by decide +kernel
theorem dL_law_851 : decode cL_law 851 = .ok (.iadd, 1) := by decide +kernel
theorem dL_law_852 : decode cL_law 852 = .ok (.iaload, 1) := by decide +kernel
theorem dL_law_853 : decode cL_law 853 = .ok (.invokevirtual 121, 3) := by decide +kernel
theorem dL_law_856 : decode cL_law 856 = .ok (.aload_n 2, 1) := by decide +kernel
theorem dL_law_857 : decode cL_law 857 = .ok (.aload_n 0, 1) := by decide +kernel
theorem dL_law_858 : decode cL_law 858 = .ok (.iload_n 3, 1) := by decide +kernel
theorem dL_law_859 : decode cL_law 859 = .ok (.iconst 1, 1) := by decide +kernel
theorem dL_law_860 : decode cL_law 860 = .ok (.iadd, 1) := by decide +kernel
theorem dL_law_861 : decode cL_law 861 = .ok (.iaload, 1) := by decide +kernel
theorem dL_law_862 : decode cL_law 862 = .ok (.invokevirtual 124, 3) := by decide +kernel
theorem dL_law_865 : decode cL_law 865 = .ok (.if_icmp .eq 5, 3) := by decide +kernel
theorem dL_law_868 : decode cL_law 868 = .ok (.iconst 0, 1) := by decide +kernel
theorem dL_law_869 : decode cL_law 869 = .ok (.ireturn, 1) := by decide +kernel
theorem dL_law_870 : decode cL_law 870 = .ok (.iinc 3 5, 3) := by decide +kernel
theorem dL_law_873 : decode cL_law 873 = .ok (.goto (-855), 3) := by decide +kernel
theorem dL_law_876 : decode cL_law 876 = .ok (.iconst 1, 1) := by decide +kernel
theorem dL_law_877 : decode cL_law 877 = .ok (.ireturn, 1) := by decide +kernel
end
section
def iI (z : Int) : Int32 := Int32.ofInt z
theorem iI_n (n : Nat) : iI (n : Int) = nI n := by
  apply Int32.toInt_inj.mp
  show (Int32.ofInt (n : Int)).toInt = (Int32.ofNat n).toInt
  rw [Int32.toInt_ofInt, Int32.toInt_ofNat']
theorem iI_toInt {z : Int} (h : -2147483648 ≤ z ∧ z < 2147483648) : (iI z).toInt = z := by
  show (Int32.ofInt z).toInt = z
  have e : (Int32.size : Int) = 4294967296 := rfl
  rw [Int32.toInt_ofInt]
  exact Int.bmod_eq_of_le (by omega) (by omega)
theorem iI_x (x : Int32) : iI x.toInt = x := Int32.ofInt_toInt x
theorem iI_add (a b : Int) : iI a + iI b = iI (a + b) := (Int32.ofInt_add a b).symm
theorem iI_sub (a b : Int) : iI a - iI b = iI (a - b) := (Int32.ofInt_sub a b).symm
theorem iI_mul (a b : Int) : iI a * iI b = iI (a * b) := (Int32.ofInt_mul a b).symm
theorem iI_neg (a : Int) : -iI a = iI (-a) := (Int32.ofInt_neg a).symm
theorem iI_lt {a b : Int} (ha : -2147483648 ≤ a ∧ a < 2147483648) (hb : -2147483648 ≤ b ∧ b < 2147483648) : iI a < iI b ↔ a < b := by
  rw [Int32.lt_iff_toInt_lt, iI_toInt ha, iI_toInt hb]
theorem iI_le {a b : Int} (ha : -2147483648 ≤ a ∧ a < 2147483648) (hb : -2147483648 ≤ b ∧ b < 2147483648) : iI a ≤ iI b ↔ a ≤ b := by
  rw [Int32.le_iff_toInt_le, iI_toInt ha, iI_toInt hb]
theorem iI_eq {a b : Int} (ha : -2147483648 ≤ a ∧ a < 2147483648) (hb : -2147483648 ≤ b ∧ b < 2147483648) : iI a = iI b ↔ a = b := by
  rw [← Int32.toInt_inj, iI_toInt ha, iI_toInt hb]
theorem iI_0 : iI 0 = 0 := by decide
theorem iI_clamp {k : Nat} (h : k < 2147483648) : (iI (k : Int)).toNatClampNeg = k := by
  rw [iI_n]; exact nI_clamp (by omega)
theorem iI_in {k n : Nat} (h : k < n) (hn : n < 2147483648) : vp_in (iI (k : Int)) n := by
  rw [iI_n]; exact vp_in_nI h (by omega)
theorem iI_and (a b : Nat) : iI (a : Int) &&& iI (b : Int) = iI ((a &&& b : Nat) : Int) := by
  rw [iI_n, iI_n, iI_n]
  apply Int32.toBitVec_inj.1
  show BitVec.ofNat 32 a &&& BitVec.ofNat 32 b = BitVec.ofNat 32 (a &&& b)
  apply BitVec.eq_of_getLsbD_eq
  intro i hi
  simp [hi]
theorem iI_or (a b : Nat) : iI (a : Int) ||| iI (b : Int) = iI ((a ||| b : Nat) : Int) := by
  rw [iI_n, iI_n, iI_n]
  apply Int32.toBitVec_inj.1
  show BitVec.ofNat 32 a ||| BitVec.ofNat 32 b = BitVec.ofNat 32 (a ||| b)
  apply BitVec.eq_of_getLsbD_eq
  intro i hi
  simp [hi]
theorem iI_xor (a b : Nat) : iI (a : Int) ^^^ iI (b : Int) = iI ((a ^^^ b : Nat) : Int) := by
  rw [iI_n, iI_n, iI_n]
  apply Int32.toBitVec_inj.1
  show BitVec.ofNat 32 a ^^^ BitVec.ofNat 32 b = BitVec.ofNat 32 (a ^^^ b)
  apply BitVec.eq_of_getLsbD_eq
  intro i hi
  simp [hi]
/-- a without what is in b -/
def anot (a b : Nat) : Nat := a ^^^ (a &&& b)
theorem iI_anot (a b : Nat) : iI (a : Int) &&& (iI (b : Int) ^^^ iI (-1)) = iI ((anot a b : Nat) : Int) := by
  rw [iI_n, iI_n, iI_n]
  apply Int32.toBitVec_inj.1
  show BitVec.ofNat 32 a &&& (BitVec.ofNat 32 b ^^^ BitVec.ofInt 32 (-1)) = BitVec.ofNat 32 (a ^^^ (a &&& b))
  apply BitVec.eq_of_getLsbD_eq
  intro i hi
  have e : (BitVec.ofInt 32 (-1)) = BitVec.allOnes 32 := by decide
  rw [e]
  simp only [BitVec.getLsbD_and, BitVec.getLsbD_xor, BitVec.getLsbD_ofNat, BitVec.getLsbD_allOnes, Nat.testBit_xor, Nat.testBit_and, hi, decide_true, Bool.true_and]
  cases a.testBit i <;> cases b.testBit i <;> rfl
theorem iI_sm : ∀ n : Nat, n < 32 → ((iI (n : Int) &&& 31).toBitVec.smod 32).toNat = n := by decide +kernel
theorem iI_shl {a n : Nat} (hn : n < 32) (h : a * 2 ^ n < 2147483648) : iI (a : Int) <<< (iI (n : Int) &&& 31) = iI ((a * 2 ^ n : Nat) : Int) := by
  rw [iI_n a, iI_n (a * 2 ^ n)]
  exact pk_shlN _ n (iI_sm n hn) (by omega)
theorem iI_shr {a n : Nat} (hn : n < 32) (h : a < 2147483648) : iI (a : Int) >>> (iI (n : Int) &&& 31) = iI ((a / 2 ^ n : Nat) : Int) := by
  rw [iI_n a, iI_n (a / 2 ^ n)]
  exact pk_shrN (by omega) _ n (iI_sm n hn)
theorem iI_div {a b : Nat} (ha : a < 2147483648) (h0 : 0 < b) (hb : b < 2147483648) : iI (a : Int) / iI (b : Int) = iI ((a / b : Nat) : Int) := by
  rw [iI_n a, iI_n b, iI_n (a / b)]
  exact pk_div (by omega) h0 (by omega)
theorem iI_rem {a b : Nat} (ha : a < 2147483648) (h0 : 0 < b) (hb : b < 2147483648) : iI (a : Int) - iI (a : Int) / iI (b : Int) * iI (b : Int) = iI ((a % b : Nat) : Int) := by
  rw [iI_n a, iI_n b, iI_n (a % b)]
  exact pk_rem (by omega) h0 (by omega)
theorem iI_ne0 {b : Nat} (h0 : 0 < b) (hb : b < 2147483648) : ¬ iI (b : Int) = 0 := by
  rw [← iI_0, iI_eq (by omega) (by omega)]
  omega
theorem toNat_lt2 (b : Bool) : b.toNat < 2 := by cases b <;> decide
/-- the state of an object: numbers by row and place -/
abbrev St : Type := Nat → Nat → Nat
def upN (f : Nat → Nat) (k v : Nat) : Nat → Nat := fun j => if j = k then v else f j
def stA (M : St) (a k v : Nat) : St := fun b => if b = a then upN (M a) k v else M b
def Bd (M : St) : Prop := ∀ a k, M a k < 65536
theorem bd_st {M : St} {a k v : Nat} (h : Bd M) (hv : v < 65536) : Bd (stA M a k v) := by
  intro b j
  show (if b = a then upN (M a) k v else M b) j < 65536
  by_cases hb : b = a
  · rw [if_pos hb]
    show (if j = k then v else M a j) < 65536
    by_cases hj : j = k
    · rw [if_pos hj]; exact hv
    · rw [if_neg hj]; exact h a j
  · rw [if_neg hb]; exact h b j
theorem bd_or {a b : Nat} (n : Nat) (ha : a < 2 ^ n) (hb : b < 2 ^ n) : a ||| b < 2 ^ n := Nat.or_lt_two_pow ha hb
theorem bd_and {a b : Nat} (c : Nat) (ha : a < c) : a &&& b < c := Nat.lt_of_le_of_lt Nat.and_le_left ha
theorem bd_anot {a b : Nat} (n : Nat) (ha : a < 2 ^ n) : anot a b < 2 ^ n := Nat.xor_lt_two_pow ha (Nat.lt_of_le_of_lt Nat.and_le_left ha)
abbrev aI (cI : ClassId) (n : Nat) (f : Nat → Nat) : va_E := .inl (cI, n, .inl (fun k => iI (f k : Int)))
def sx (b : Nat) : Int := if b < 128 then (b : Int) else (b : Int) - 256
abbrev aB (cB : ClassId) (n : Nat) (f : Nat → Nat) : va_E := .inl (cB, n, .inl (fun k => iI (sx (f k))))
abbrev tyIB (cI cB : ClassId) : List (ClassId × FieldType) := [(cI, .int), (cB, .byte)]
def KK (D : va_G) (cI cB : ClassId) (U : State) : Prop := va_K D vwCl (tyIB cI cB) U ∧ ∀ w ∈ nst, va_Nw w U
theorem nst_warm {w : Cond} (hw : isNest w = true) {s U : State} (hW : s.WarmedH U.vm) (h : va_Nw w s) : va_Nw w U := by
  cases w <;> first | exact va_Nw.warmF hW h | exact va_Nw.warmM hW h | (simp [isNest] at hw; done)
theorem nst_tab {w : Cond} (hw : isNest w = true) : w.onTables = true := by
  cases w <;> first | rfl | (simp [isNest] at hw; done)
theorem nst_is {w : Cond} (h : w ∈ nst) : isNest w = true := (List.mem_filter.mp h).2
theorem KK.warm {D : va_G} {cI cB : ClassId} {s U : State} (h : KK D cI cB s) (hW : s.WarmedH U.vm) : KK D cI cB U :=
  ⟨va_K.moved hW.alike h.1, fun w hw => nst_warm (nst_is hw) hW (h.2 w hw)⟩
theorem KK.call {D : va_G} {cI cB : ClassId} {U : State} {g : JFrame} {mk : MethodId} {a : Array Value} (h : KK D cI cB U) : KK D cI cB (U.calling g mk a) :=
  ⟨va_K.moved (u := U) (U := U.calling g mk a) (Vm.Alike.refl U.vm) h.1, fun w hw => va_Nw.same (u := U) (U := U.calling g mk a) (nst_tab (nst_is hw)) rfl (h.2 w hw)⟩
theorem tb_of {w : Cond} (h : w ∈ lw_tbl) (hg : goodWord w = true) : w ∈ tb := List.mem_filter.mpr ⟨h, hg⟩
theorem tb_i {w : Cond} (i : Nat) (h : lw_tbl[i]? = some w) (hg : goodWord w = true) : w ∈ tb := tb_of (List.mem_of_getElem? h) hg
theorem nst_i {w : Cond} (i : Nat) (h : lw_tbl[i]? = some w) (hg : isNest w = true) : w ∈ nst := List.mem_filter.mpr ⟨List.mem_of_getElem? h, hg⟩
theorem tb_self : GoodIn tb tb := fun w h => ⟨h, good_of_word (List.mem_filter.mp h).2⟩
theorem tb_cons {w : Cond} (h : w ∈ tb) : GoodIn tb (w :: tb) := fun x hx => (List.mem_cons.mp hx).elim (fun e => e ▸ tb_self w h) (tb_self x)
theorem uwsX {C : String} {T : u_T} {N : Nat} (h : ∀ w ∈ u_ws C T N, w ∈ lw_tbl) (hg : (u_ws C T N).all goodWord = true) : ∀ w ∈ u_ws C T N, w ∈ tb := fun w hw => tb_of (h w hw) (List.all_eq_true.mp hg w hw)
abbrev Fx (p : Program) (m : MethodId) (c : Code) (cc : ByteArray) (nL : Nat) (s : State) (args : Array Value) (own : String) (D : va_G) (cI cB : ClassId) : Prop :=
  CallFix p m c cc nL s args tb own ∧ KK D cI cB s
abbrev Bx (D : va_G) (A : Nat → Prop) (H0 : Heap) (ws : va_W) (H : Heap) (locs : List Loc) : Prop := va_P D vwCl ws H ∧ va_D A ws ∧ va_S A H0 H locs
/-- the words of a call of an instance method -/
def VW (own : String) (idx : Nat) (C : String) (y : MethodName) (bytes : ByteArray) (maxL : Nat) (ret : Option FieldType) (n : Nat) : Prop :=
  GoodIn tb (wsV own idx C y (.code y bytes maxL ret :: tb)) ∧ (y.cls = C ∧ y.cls ≠ "java/lang/invoke/MethodHandle" ∧ y.cls ≠ "java/lang/invoke/VarHandle" ∧ (parseMethodDescriptor y.desc).map (fun d => d.parameters.length) = some n)
theorem VW.mk {own : String} {idx : Nat} {C : String} {y : MethodName} {bytes : ByteArray} {maxL : Nat} {ret : Option FieldType} {n : Nat} (h1 : Cond.methodLink own idx y ∈ tb) (h2 : Cond.instanceMethod y ∈ tb) (h3 : Cond.selects C y y ∈ tb) (h4 : Cond.initialized C ∈ tb) (h5 : Cond.code y bytes maxL ret ∈ tb)
    (hd : y.cls = C ∧ y.cls ≠ "java/lang/invoke/MethodHandle" ∧ y.cls ≠ "java/lang/invoke/VarHandle" ∧ (parseMethodDescriptor y.desc).map (fun d => d.parameters.length) = some n) : VW own idx C y bytes maxL ret n :=
  ⟨fun w hw => (List.mem_append.mp hw).elim (fun h => by
    simp only [List.mem_cons, List.not_mem_nil, or_false] at h
    rcases h with rfl | rfl | rfl | rfl
    · exact tb_self _ h1
    · exact tb_self _ h2
    · exact tb_self _ h3
    · exact tb_self _ h4) (tb_cons h5 w), hd⟩
/-- the words of a call of a static method of the own class -/
def SW (own : String) (idx : Nat) (y : MethodName) (bytes : ByteArray) (maxL : Nat) (ret : Option FieldType) (n : Nat) : Prop :=
  GoodIn tb (wsS own idx y (.code y bytes maxL ret :: tb)) ∧ (y.cls = own ∧ y.cls ≠ "java/lang/invoke/MethodHandle" ∧ y.cls ≠ "java/lang/invoke/VarHandle" ∧ (parseMethodDescriptor y.desc).map (fun d => d.parameters.length) = some n)
theorem SW.mk {own : String} {idx : Nat} {y : MethodName} {bytes : ByteArray} {maxL : Nat} {ret : Option FieldType} {n : Nat} (h1 : Cond.methodLink own idx y ∈ tb) (h2 : Cond.static y ∈ tb) (h4 : Cond.initialized own ∈ tb) (h5 : Cond.code y bytes maxL ret ∈ tb)
    (hd : y.cls = own ∧ y.cls ≠ "java/lang/invoke/MethodHandle" ∧ y.cls ≠ "java/lang/invoke/VarHandle" ∧ (parseMethodDescriptor y.desc).map (fun d => d.parameters.length) = some n) : SW own idx y bytes maxL ret n :=
  ⟨fun w hw => (List.mem_append.mp hw).elim (fun h => by
    simp only [List.mem_cons, List.not_mem_nil, or_false] at h
    rcases h with rfl | rfl | rfl
    · exact tb_self _ h1
    · exact tb_self _ h2
    · exact tb_self _ h4) (tb_cons h5 w), hd⟩
/-- contracts: a question (nothing is written), a deed with an int answer, a deed without -/
def CtQ (l : Launch) (y : MethodName) (cd : ByteArray) (nL : Nat) (ret : Option FieldType) (rm : Room) (D : va_G) (cI cB : ClassId) (av : List Value) (wc : va_W) (r : Int32) : Prop :=
  Met l y (.code y cd nL ret :: tb) rm (va_Pc av (fun U => va_P D vwCl wc U.heap ∧ KK D cI cB U)) (vp_Si (fun x => x = r)) 0 0 (fun _ => False)
def QU (D : va_G) (r : Int32) (wc' : va_W) (A : Nat → Prop) : Array Value → State → Outcome → State → Prop := va_Qi (fun x (_ : Unit) => x = r) (fun _ t => va_P D vwCl wc' t.heap ∧ va_D A wc') A
def QV (D : va_G) (wc' : va_W) (A : Nat → Prop) : Array Value → State → Outcome → State → Prop := va_Qv (fun (_ : Unit) => True) (fun _ t => va_P D vwCl wc' t.heap ∧ va_D A wc') A
def CtU (l : Launch) (y : MethodName) (cd : ByteArray) (nL : Nat) (ret : Option FieldType) (rm : Room) (D : va_G) (cI cB : ClassId) (av : List Value) (wc wc' : va_W) (r : Int32) : Prop :=
  ∀ sz, Met l y (.code y cd nL ret :: tb) rm (va_Pc av (fun U => U.heap.size = sz ∧ va_P D vwCl wc U.heap ∧ KK D cI cB U ∧ va_D (fun _ => True) wc)) (QU D r wc' (va_A wc sz)) 0 0 (va_A wc sz)
def CtV (l : Launch) (y : MethodName) (cd : ByteArray) (nL : Nat) (rm : Room) (D : va_G) (cI cB : ClassId) (av : List Value) (wc wc' : va_W) : Prop :=
  ∀ sz, Met l y (.code y cd nL none :: tb) rm (va_Pc av (fun U => U.heap.size = sz ∧ va_P D vwCl wc U.heap ∧ KK D cI cB U ∧ va_D (fun _ => True) wc)) (QV D wc' (va_A wc sz)) 0 0 (va_A wc sz)
abbrev Qq (below : List Frame) (args : Array Value) (s : State) (r : Int32) : State → Prop := MQ below (vp_Si (fun x => x = r)) args s 0 0 (fun _ => False)
abbrev Qu (below : List Frame) (args : Array Value) (s : State) (D : va_G) (r : Int32) (wc' : va_W) (A : Nat → Prop) : State → Prop := MQ below (QU D r wc' A) args s 0 0 A
abbrev Qw (below : List Frame) (args : Array Value) (s : State) (D : va_G) (wc' : va_W) (A : Nat → Prop) : State → Prop := MQ below (QV D wc' A) args s 0 0 A
theorem CtQ.of {l : Launch} {y : MethodName} {cd : ByteArray} {nL : Nat} {ret : Option FieldType} {rm : Room} {D : va_G} {cI cB : ClassId} {av : List Value} {wc : va_W} {r : Int32} (own : String) (hy : plainName y.cls = true) (ho : y.cls = own) (hn : (lg_sl av).length ≤ nL)
    (body : ∀ p e s m args below meth c H ls, s.heap = H → Fx p m c cd nL s args own D cI cB → meth.sig.returnType = ret → meth.locks = false → va_P D vwCl wc H → lv_has ls nL (lv_args 0 av) →
      W p l e rm s m args below meth c H [] 0 0 (Qq below args s r) (F0 m 0 ls [])) : CtQ l y cd nL ret rm D cI cB av wc r := by
  refine Met.ofW (cc := cd) (maxL := nL) (ret := ret) hy rfl ?_
  intro p e s m args below meth c s₁ B hml hv
  obtain ⟨rfl, hP, hK⟩ := hv
  have hts := atoms_spec (ws := .code y cd nL ret :: tb) B.pre
  have hown : s.vm.findClass own = some m.cls := by rw [← ho]; exact findClass_of_methodNamed B.named
  rw [lg_entry_eq]
  exact body p e s m av.toArray below meth c s.heap _ rfl ⟨⟨B.exec, B.bytes, hml, hown, fun w h => hts w (List.mem_cons_of_mem _ h)⟩, hK⟩ B.returns B.notSynchronized hP (lv_entry av hn)
theorem CtU.of {l : Launch} {y : MethodName} {cd : ByteArray} {nL : Nat} {ret : Option FieldType} {rm : Room} {D : va_G} {cI cB : ClassId} {av : List Value} {wc wc' : va_W} {r : Int32} (own : String) (hy : plainName y.cls = true) (ho : y.cls = own) (hn : (lg_sl av).length ≤ nL)
    (body : ∀ p e s m args below meth c H ls (A : Nat → Prop), s.heap = H → (∀ q, H.size ≤ q → A q) → Fx p m c cd nL s args own D cI cB → meth.sig.returnType = ret → meth.locks = false → Bx D A H wc H [] → lv_has ls nL (lv_args 0 av) →
      W p l e rm s m args below meth c H [] 0 0 (Qu below args s D r wc' A) (F0 m 0 ls [])) : CtU l y cd nL ret rm D cI cB av wc wc' r := by
  intro sz
  refine Met.ofW (cc := cd) (maxL := nL) (ret := ret) hy rfl ?_
  intro p e s m args below meth c s₁ B hml hv
  obtain ⟨rfl, hsz, hP, hK, hD⟩ := hv
  subst hsz
  have hts := atoms_spec (ws := .code y cd nL ret :: tb) B.pre
  have hown : s.vm.findClass own = some m.cls := by rw [← ho]; exact findClass_of_methodNamed B.named
  rw [lg_entry_eq]
  exact body p e s m av.toArray below meth c s.heap _ _ rfl (fun q h => Or.inr h) ⟨⟨B.exec, B.bytes, hml, hown, fun w h => hts w (List.mem_cons_of_mem _ h)⟩, hK⟩ B.returns B.notSynchronized ⟨hP, hD.self, va_S.rf⟩ (lv_entry av hn)
theorem CtV.of {l : Launch} {y : MethodName} {cd : ByteArray} {nL : Nat} {rm : Room} {D : va_G} {cI cB : ClassId} {av : List Value} {wc wc' : va_W} (own : String) (hy : plainName y.cls = true) (ho : y.cls = own) (hn : (lg_sl av).length ≤ nL)
    (body : ∀ p e s m args below meth c H ls (A : Nat → Prop), s.heap = H → (∀ q, H.size ≤ q → A q) → Fx p m c cd nL s args own D cI cB → meth.sig.returnType = none → meth.locks = false → Bx D A H wc H [] → lv_has ls nL (lv_args 0 av) →
      W p l e rm s m args below meth c H [] 0 0 (Qw below args s D wc' A) (F0 m 0 ls [])) : CtV l y cd nL rm D cI cB av wc wc' := by
  intro sz
  refine Met.ofW (cc := cd) (maxL := nL) (ret := none) hy rfl ?_
  intro p e s m args below meth c s₁ B hml hv
  obtain ⟨rfl, hsz, hP, hK, hD⟩ := hv
  subst hsz
  have hts := atoms_spec (ws := .code y cd nL none :: tb) B.pre
  have hown : s.vm.findClass own = some m.cls := by rw [← ho]; exact findClass_of_methodNamed B.named
  rw [lg_entry_eq]
  exact body p e s m av.toArray below meth c s.heap _ _ rfl (fun q h => Or.inr h) ⟨⟨B.exec, B.bytes, hml, hown, fun w h => hts w (List.mem_cons_of_mem _ h)⟩, hK⟩ B.returns B.notSynchronized ⟨hP, hD.self, va_S.rf⟩ (lv_entry av hn)
section Rows
variable {p : Program} {l : Launch} {e : Env} {R : Room} {s : State} {m : MethodId} {args : Array Value} {below : List Frame} {meth : Method} {c : Code} {H : Heap} {locs : List Loc} {cells slots : Nat} {Q : State → Prop}
variable {cc : ByteArray} {nL : Nat} {own : String} {pc : Nat} {ls : Array Slot} {rest : List Value} {D : va_G} {cI cB : ClassId} {A : Nat → Prop} {ws : va_W} {H0 : Heap}
theorem r_retQ {v r : Int32} (F : Fx p m c cc nL s args own D cI cB) (hr : meth.sig.returnType = some .int) (hlk : meth.locks = false) (hH : s.heap = H) (d : decode cc pc = .ok (.ireturn, 1)) (hv : v = r) : W p l e R s m args below meth c H [] 0 0 (Qq below args s r) (F0 m pc ls [.int v]) :=
  W.iret F.1.1 F.1.2.1 hr (fun t ht _ => ⟨v, rfl, hv, ht.trans hH.symm⟩) (fun _ h => by cases h) d hlk
theorem nar_b (b : Bool) : narrow .boolean (.int (iI (b.toNat : Int))) = .int (iI (b.toNat : Int)) := by cases b <;> decide
theorem r_retQb {b : Bool} {r : Int32} (F : Fx p m c cc nL s args own D cI cB) (hr : meth.sig.returnType = some .boolean) (hlk : meth.locks = false) (hH : s.heap = H) (d : decode cc pc = .ok (.ireturn, 1)) (hv : iI (b.toNat : Int) = r) : W p l e R s m args below meth c H [] 0 0 (Qq below args s r) (F0 m pc ls [.int (iI (b.toNat : Int))]) :=
  W.zret F.1.1 F.1.2.1 hr (nar_b b) (fun t ht _ => ⟨_, rfl, hv, ht.trans hH.symm⟩) (fun _ h => by cases h) d hlk
theorem r_retU {v r : Int32} {wc' : va_W} (F : Fx p m c cc nL s args own D cI cB) (hr : meth.sig.returnType = some .int) (hlk : meth.locks = false) (hH : s.heap = H0) (B : Bx D A H0 ws H locs) (d : decode cc pc = .ok (.ireturn, 1)) (hv : v = r) (hw : ws = wc') : W p l e R s m args below meth c H locs 0 0 (Qu below args s D r wc' A) (F0 m pc ls [.int v]) := by
  subst hw
  subst hH
  exact W.iret F.1.1 F.1.2.1 hr (fun t ht _ => ⟨⟨v, (), rfl, hv, by rw [ht]; exact B.1, B.2.1⟩, B.2.2.F ht⟩) B.2.2.2.2 d hlk
theorem r_retUb {b : Bool} {r : Int32} {wc' : va_W} (F : Fx p m c cc nL s args own D cI cB) (hr : meth.sig.returnType = some .boolean) (hlk : meth.locks = false) (hH : s.heap = H0) (B : Bx D A H0 ws H locs) (d : decode cc pc = .ok (.ireturn, 1)) (hv : iI (b.toNat : Int) = r) (hw : ws = wc') : W p l e R s m args below meth c H locs 0 0 (Qu below args s D r wc' A) (F0 m pc ls [.int (iI (b.toNat : Int))]) := by
  subst hw
  subst hH
  exact W.zret F.1.1 F.1.2.1 hr (nar_b b) (fun t ht _ => ⟨⟨_, (), rfl, hv, by rw [ht]; exact B.1, B.2.1⟩, B.2.2.F ht⟩) B.2.2.2.2 d hlk
theorem r_retV {wc' : va_W} (F : Fx p m c cc nL s args own D cI cB) (hr : meth.sig.returnType = none) (hlk : meth.locks = false) (hH : s.heap = H0) (B : Bx D A H0 ws H locs) (d : decode cc pc = .ok (.return_, 1)) (hw : ws = wc') : W p l e R s m args below meth c H locs 0 0 (Qw below args s D wc' A) (F0 m pc ls []) := by
  subst hw
  subst hH
  exact W.vret F.1.1 F.1.2.1 hr (fun t ht _ => ⟨⟨(), rfl, trivial, by rw [ht]; exact B.1, B.2.1⟩, B.2.2.F ht⟩) B.2.2.2.2 d hlk

theorem r_ic {n : Int} (F : Fx p m c cc nL s args own D cI cB) (k : Nat) (d : decode cc pc = .ok (.iconst n, 1)) (hv : Int32.ofInt n = iI (k : Int)) (kk : W p l e R s m args below meth c H locs cells slots Q (F0 m (pc + 1) ls (.int (iI (k : Int)) :: rest))) : W p l e R s m args below meth c H locs cells slots Q (F0 m pc ls rest) := lv_iconst F.1.1 F.1.2.1 d hv kk
theorem r_icz {n : Int} (F : Fx p m c cc nL s args own D cI cB) (k : Int) (d : decode cc pc = .ok (.iconst n, 1)) (hv : Int32.ofInt n = iI k) (kk : W p l e R s m args below meth c H locs cells slots Q (F0 m (pc + 1) ls (.int (iI k) :: rest))) : W p l e R s m args below meth c H locs cells slots Q (F0 m pc ls rest) := lv_iconst F.1.1 F.1.2.1 d hv kk
theorem r_icb {n : Int} (F : Fx p m c cc nL s args own D cI cB) (k : Bool) (d : decode cc pc = .ok (.iconst n, 1)) (hv : Int32.ofInt n = iI (k.toNat : Int)) (kk : W p l e R s m args below meth c H locs cells slots Q (F0 m (pc + 1) ls (.int (iI (k.toNat : Int)) :: rest))) : W p l e R s m args below meth c H locs cells slots Q (F0 m pc ls rest) := lv_iconst F.1.1 F.1.2.1 d hv kk
theorem r_bp {n : Int} (F : Fx p m c cc nL s args own D cI cB) (k : Nat) (d : decode cc pc = .ok (.bipush n, 2)) (hv : (Int8.ofInt n).toInt32 = iI (k : Int)) (kk : W p l e R s m args below meth c H locs cells slots Q (F0 m (pc + 2) ls (.int (iI (k : Int)) :: rest))) : W p l e R s m args below meth c H locs cells slots Q (F0 m pc ls rest) := lv_bipush F.1.1 F.1.2.1 d hv kk
theorem r_bpz {n : Int} (F : Fx p m c cc nL s args own D cI cB) (k : Int) (d : decode cc pc = .ok (.bipush n, 2)) (hv : (Int8.ofInt n).toInt32 = iI k) (kk : W p l e R s m args below meth c H locs cells slots Q (F0 m (pc + 2) ls (.int (iI k) :: rest))) : W p l e R s m args below meth c H locs cells slots Q (F0 m pc ls rest) := lv_bipush F.1.1 F.1.2.1 d hv kk
theorem r_bpb {n : Int} (F : Fx p m c cc nL s args own D cI cB) (k : Bool) (d : decode cc pc = .ok (.bipush n, 2)) (hv : (Int8.ofInt n).toInt32 = iI (k.toNat : Int)) (kk : W p l e R s m args below meth c H locs cells slots Q (F0 m (pc + 2) ls (.int (iI (k.toNat : Int)) :: rest))) : W p l e R s m args below meth c H locs cells slots Q (F0 m pc ls rest) := lv_bipush F.1.1 F.1.2.1 d hv kk
theorem r_sp {n : Int} (F : Fx p m c cc nL s args own D cI cB) (k : Nat) (d : decode cc pc = .ok (.sipush n, 3)) (hv : (Int16.ofInt n).toInt32 = iI (k : Int)) (kk : W p l e R s m args below meth c H locs cells slots Q (F0 m (pc + 3) ls (.int (iI (k : Int)) :: rest))) : W p l e R s m args below meth c H locs cells slots Q (F0 m pc ls rest) := lv_sipush F.1.1 F.1.2.1 d hv kk
theorem r_spz {n : Int} (F : Fx p m c cc nL s args own D cI cB) (k : Int) (d : decode cc pc = .ok (.sipush n, 3)) (hv : (Int16.ofInt n).toInt32 = iI k) (kk : W p l e R s m args below meth c H locs cells slots Q (F0 m (pc + 3) ls (.int (iI k) :: rest))) : W p l e R s m args below meth c H locs cells slots Q (F0 m pc ls rest) := lv_sipush F.1.1 F.1.2.1 d hv kk
theorem r_spb {n : Int} (F : Fx p m c cc nL s args own D cI cB) (k : Bool) (d : decode cc pc = .ok (.sipush n, 3)) (hv : (Int16.ofInt n).toInt32 = iI (k.toNat : Int)) (kk : W p l e R s m args below meth c H locs cells slots Q (F0 m (pc + 3) ls (.int (iI (k.toNat : Int)) :: rest))) : W p l e R s m args below meth c H locs cells slots Q (F0 m pc ls rest) := lv_sipush F.1.1 F.1.2.1 d hv kk
theorem r_iln {k : Fin 4} {i : Nat} {x : Int32} {lv : List (Nat × Value)} (F : Fx p m c cc nL s args own D cI cB) (hl : lv_has ls nL lv) (pos : Nat) (hp : lv[pos]? = some (i, .int x)) (d : decode cc pc = .ok (.iload_n k, 1)) (hi : (k : Nat) = i) (kk : W p l e R s m args below meth c H locs cells slots Q (F0 m (pc + 1) ls (.int x :: rest))) : W p l e R s m args below meth c H locs cells slots Q (F0 m pc ls rest) := lv_iload_n F.1.1 F.1.2.1 d hi (lv_at hl pos hp) kk
theorem r_il {i : Nat} {x : Int32} {lv : List (Nat × Value)} (F : Fx p m c cc nL s args own D cI cB) (hl : lv_has ls nL lv) (pos : Nat) (hp : lv[pos]? = some (i, .int x)) (d : decode cc pc = .ok (.iload i, 2)) (kk : W p l e R s m args below meth c H locs cells slots Q (F0 m (pc + 2) ls (.int x :: rest))) : W p l e R s m args below meth c H locs cells slots Q (F0 m pc ls rest) := lv_iload F.1.1 F.1.2.1 d (lv_at hl pos hp) kk
theorem r_aln {k : Fin 4} {i : Nat} {x : Nat} {lv : List (Nat × Value)} (F : Fx p m c cc nL s args own D cI cB) (hl : lv_has ls nL lv) (pos : Nat) (hp : lv[pos]? = some (i, .ref x)) (d : decode cc pc = .ok (.aload_n k, 1)) (hi : (k : Nat) = i) (kk : W p l e R s m args below meth c H locs cells slots Q (F0 m (pc + 1) ls (.ref x :: rest))) : W p l e R s m args below meth c H locs cells slots Q (F0 m pc ls rest) := lv_aload_n F.1.1 F.1.2.1 d hi (lv_at hl pos hp) kk
theorem r_al {i : Nat} {x : Nat} {lv : List (Nat × Value)} (F : Fx p m c cc nL s args own D cI cB) (hl : lv_has ls nL lv) (pos : Nat) (hp : lv[pos]? = some (i, .ref x)) (d : decode cc pc = .ok (.aload i, 2)) (kk : W p l e R s m args below meth c H locs cells slots Q (F0 m (pc + 2) ls (.ref x :: rest))) : W p l e R s m args below meth c H locs cells slots Q (F0 m pc ls rest) := lv_aload F.1.1 F.1.2.1 d (lv_at hl pos hp) kk
theorem r_lln {k : Fin 4} {i : Nat} {x : Int64} {lv : List (Nat × Value)} (F : Fx p m c cc nL s args own D cI cB) (hl : lv_has ls nL lv) (pos : Nat) (hp : lv[pos]? = some (i, .long x)) (d : decode cc pc = .ok (.lload_n k, 1)) (hi : (k : Nat) = i) (kk : W p l e R s m args below meth c H locs cells slots Q (F0 m (pc + 1) ls (.long x :: rest))) : W p l e R s m args below meth c H locs cells slots Q (F0 m pc ls rest) := lv_lload_n F.1.1 F.1.2.1 d hi (lv_at hl pos hp) kk
theorem r_ll {i : Nat} {x : Int64} {lv : List (Nat × Value)} (F : Fx p m c cc nL s args own D cI cB) (hl : lv_has ls nL lv) (pos : Nat) (hp : lv[pos]? = some (i, .long x)) (d : decode cc pc = .ok (.lload i, 2)) (kk : W p l e R s m args below meth c H locs cells slots Q (F0 m (pc + 2) ls (.long x :: rest))) : W p l e R s m args below meth c H locs cells slots Q (F0 m pc ls rest) := lv_lload F.1.1 F.1.2.1 d (lv_at hl pos hp) kk
theorem r_isn {k : Fin 4} {i : Nat} {x : Int32} {lv lv' : List (Nat × Value)} (F : Fx p m c cc nL s args own D cI cB) (hl : lv_has ls nL lv) (d : decode cc pc = .ok (.istore_n k, 1)) (hi : (k : Nat) = i) (hn : i < nL) (ps : List Nat)
    (hp : lv_pick ((i, Value.int x) :: lv.filter (fun q => !(q.1 == i) && !(q.1 + 1 == i && q.2.category == 2))) ps = lv') (kk : ∀ ls' : Array Slot, lv_has ls' nL lv' → W p l e R s m args below meth c H locs cells slots Q (F0 m (pc + 1) ls' rest)) : W p l e R s m args below meth c H locs cells slots Q (F0 m pc ls (.int x :: rest)) :=
  lv_istore_n F.1.1 F.1.2.1 d hi hl hn rfl (fun ls' h => kk ls' (lv_sub h ps hp))
theorem r_is {i : Nat} {x : Int32} {lv lv' : List (Nat × Value)} (F : Fx p m c cc nL s args own D cI cB) (hl : lv_has ls nL lv) (d : decode cc pc = .ok (.istore i, 2)) (hn : i < nL) (ps : List Nat)
    (hp : lv_pick ((i, Value.int x) :: lv.filter (fun q => !(q.1 == i) && !(q.1 + 1 == i && q.2.category == 2))) ps = lv') (kk : ∀ ls' : Array Slot, lv_has ls' nL lv' → W p l e R s m args below meth c H locs cells slots Q (F0 m (pc + 2) ls' rest)) : W p l e R s m args below meth c H locs cells slots Q (F0 m pc ls (.int x :: rest)) :=
  lv_istore F.1.1 F.1.2.1 d hl hn rfl (fun ls' h => kk ls' (lv_sub h ps hp))
theorem r_asn {k : Fin 4} {i : Nat} {x : Nat} {lv lv' : List (Nat × Value)} (F : Fx p m c cc nL s args own D cI cB) (hl : lv_has ls nL lv) (d : decode cc pc = .ok (.astore_n k, 1)) (hi : (k : Nat) = i) (hn : i < nL) (ps : List Nat)
    (hp : lv_pick ((i, Value.ref x) :: lv.filter (fun q => !(q.1 == i) && !(q.1 + 1 == i && q.2.category == 2))) ps = lv') (kk : ∀ ls' : Array Slot, lv_has ls' nL lv' → W p l e R s m args below meth c H locs cells slots Q (F0 m (pc + 1) ls' rest)) : W p l e R s m args below meth c H locs cells slots Q (F0 m pc ls (.ref x :: rest)) :=
  lv_astore_n F.1.1 F.1.2.1 d hi hl hn rfl (fun ls' h => kk ls' (lv_sub h ps hp))
theorem r_as {i : Nat} {x : Nat} {lv lv' : List (Nat × Value)} (F : Fx p m c cc nL s args own D cI cB) (hl : lv_has ls nL lv) (d : decode cc pc = .ok (.astore i, 2)) (hn : i < nL) (ps : List Nat)
    (hp : lv_pick ((i, Value.ref x) :: lv.filter (fun q => !(q.1 == i) && !(q.1 + 1 == i && q.2.category == 2))) ps = lv') (kk : ∀ ls' : Array Slot, lv_has ls' nL lv' → W p l e R s m args below meth c H locs cells slots Q (F0 m (pc + 2) ls' rest)) : W p l e R s m args below meth c H locs cells slots Q (F0 m pc ls (.ref x :: rest)) :=
  lv_astore F.1.1 F.1.2.1 d hl hn rfl (fun ls' h => kk ls' (lv_sub h ps hp))
theorem r_inc {i : Nat} {a : Nat} {n : Int} {lv lv' : List (Nat × Value)} (F : Fx p m c cc nL s args own D cI cB) (hl : lv_has ls nL lv) (pos : Nat) (hk : lv[pos]? = some (i, .int (iI (a : Int)))) (d : decode cc pc = .ok (.iinc i n, 3)) (k : Nat) (hnk : n = (k : Int)) (hn : i < nL) (ps : List Nat)
    (hp : lv_pick ((i, Value.int (iI ((a + k : Nat) : Int))) :: lv.filter (fun q => !(q.1 == i) && !(q.1 + 1 == i && q.2.category == 2))) ps = lv') (kk : ∀ ls' : Array Slot, lv_has ls' nL lv' → W p l e R s m args below meth c H locs cells slots Q (F0 m (pc + 3) ls' rest)) : W p l e R s m args below meth c H locs cells slots Q (F0 m pc ls rest) :=
  lv_iinc (v := iI ((a + k : Nat) : Int)) F.1.1 F.1.2.1 d hl hk (by rw [hnk]; exact iI_add a k) hn rfl (fun ls' h => kk ls' (lv_sub h ps hp))
theorem r_incz {i : Nat} {a b : Int} {n : Int} {lv lv' : List (Nat × Value)} (F : Fx p m c cc nL s args own D cI cB) (hl : lv_has ls nL lv) (pos : Nat) (hk : lv[pos]? = some (i, .int (iI a))) (d : decode cc pc = .ok (.iinc i n, 3)) (hb : a + n = b) (hn : i < nL) (ps : List Nat)
    (hp : lv_pick ((i, Value.int (iI b)) :: lv.filter (fun q => !(q.1 == i) && !(q.1 + 1 == i && q.2.category == 2))) ps = lv') (kk : ∀ ls' : Array Slot, lv_has ls' nL lv' → W p l e R s m args below meth c H locs cells slots Q (F0 m (pc + 3) ls' rest)) : W p l e R s m args below meth c H locs cells slots Q (F0 m pc ls rest) :=
  lv_iinc (v := iI b) F.1.1 F.1.2.1 d hl hk (by rw [← hb]; exact iI_add a n) hn rfl (fun ls' h => kk ls' (lv_sub h ps hp))
theorem r_add {a b : Nat} (F : Fx p m c cc nL s args own D cI cB) (d : decode cc pc = .ok (.iadd, 1)) (kk : W p l e R s m args below meth c H locs cells slots Q (F0 m (pc + 1) ls (.int (iI ((a + b : Nat) : Int)) :: rest))) : W p l e R s m args below meth c H locs cells slots Q (F0 m pc ls (.int (iI (b : Int)) :: .int (iI (a : Int)) :: rest)) := lv_iadd F.1.1 F.1.2.1 d (by rw [show iI (a : Int) + iI (b : Int) = iI ((a + b : Nat) : Int) from iI_add a b]; exact kk)
theorem r_sub {a b : Nat} (F : Fx p m c cc nL s args own D cI cB) (d : decode cc pc = .ok (.isub, 1)) (h : b ≤ a) (kk : W p l e R s m args below meth c H locs cells slots Q (F0 m (pc + 1) ls (.int (iI ((a - b : Nat) : Int)) :: rest))) : W p l e R s m args below meth c H locs cells slots Q (F0 m pc ls (.int (iI (b : Int)) :: .int (iI (a : Int)) :: rest)) := lv_isub F.1.1 F.1.2.1 d (by rw [show iI (a : Int) - iI (b : Int) = iI ((a - b : Nat) : Int) from by rw [iI_sub, Int.natCast_sub h]]; exact kk)
theorem r_mul {a b : Nat} (F : Fx p m c cc nL s args own D cI cB) (d : decode cc pc = .ok (.imul, 1)) (kk : W p l e R s m args below meth c H locs cells slots Q (F0 m (pc + 1) ls (.int (iI ((a * b : Nat) : Int)) :: rest))) : W p l e R s m args below meth c H locs cells slots Q (F0 m pc ls (.int (iI (b : Int)) :: .int (iI (a : Int)) :: rest)) := lv_imul F.1.1 F.1.2.1 d (by rw [show iI (a : Int) * iI (b : Int) = iI ((a * b : Nat) : Int) from by rw [iI_mul, Int.natCast_mul]]; exact kk)
theorem r_and {a b : Nat} (F : Fx p m c cc nL s args own D cI cB) (d : decode cc pc = .ok (.iand, 1)) (kk : W p l e R s m args below meth c H locs cells slots Q (F0 m (pc + 1) ls (.int (iI ((a &&& b : Nat) : Int)) :: rest))) : W p l e R s m args below meth c H locs cells slots Q (F0 m pc ls (.int (iI (b : Int)) :: .int (iI (a : Int)) :: rest)) := lv_iand F.1.1 F.1.2.1 d (by rw [iI_and a b]; exact kk)
theorem r_or {a b : Nat} (F : Fx p m c cc nL s args own D cI cB) (d : decode cc pc = .ok (.ior, 1)) (kk : W p l e R s m args below meth c H locs cells slots Q (F0 m (pc + 1) ls (.int (iI ((a ||| b : Nat) : Int)) :: rest))) : W p l e R s m args below meth c H locs cells slots Q (F0 m pc ls (.int (iI (b : Int)) :: .int (iI (a : Int)) :: rest)) := lv_ior F.1.1 F.1.2.1 d (by rw [iI_or a b]; exact kk)
theorem r_xor {a b : Nat} (F : Fx p m c cc nL s args own D cI cB) (d : decode cc pc = .ok (.ixor, 1)) (kk : W p l e R s m args below meth c H locs cells slots Q (F0 m (pc + 1) ls (.int (iI ((a ^^^ b : Nat) : Int)) :: rest))) : W p l e R s m args below meth c H locs cells slots Q (F0 m pc ls (.int (iI (b : Int)) :: .int (iI (a : Int)) :: rest)) := lv_ixor F.1.1 F.1.2.1 d (by rw [iI_xor a b]; exact kk)
theorem r_shl {a b : Nat} (F : Fx p m c cc nL s args own D cI cB) (d : decode cc pc = .ok (.ishl, 1)) (h : b < 32 ∧ a * 2 ^ b < 2147483648) (kk : W p l e R s m args below meth c H locs cells slots Q (F0 m (pc + 1) ls (.int (iI ((a * 2 ^ b : Nat) : Int)) :: rest))) : W p l e R s m args below meth c H locs cells slots Q (F0 m pc ls (.int (iI (b : Int)) :: .int (iI (a : Int)) :: rest)) := lv_ishl F.1.1 F.1.2.1 d (by rw [iI_shl h.1 h.2]; exact kk)
theorem r_shr {a b : Nat} (F : Fx p m c cc nL s args own D cI cB) (d : decode cc pc = .ok (.ishr, 1)) (h : b < 32 ∧ a < 2147483648) (kk : W p l e R s m args below meth c H locs cells slots Q (F0 m (pc + 1) ls (.int (iI ((a / 2 ^ b : Nat) : Int)) :: rest))) : W p l e R s m args below meth c H locs cells slots Q (F0 m pc ls (.int (iI (b : Int)) :: .int (iI (a : Int)) :: rest)) := lv_ishr F.1.1 F.1.2.1 d (by rw [iI_shr h.1 h.2]; exact kk)
theorem r_div {a b : Nat} (F : Fx p m c cc nL s args own D cI cB) (d : decode cc pc = .ok (.idiv, 1)) (h : a < 2147483648 ∧ 0 < b ∧ b < 2147483648) (kk : W p l e R s m args below meth c H locs cells slots Q (F0 m (pc + 1) ls (.int (iI ((a / b : Nat) : Int)) :: rest))) : W p l e R s m args below meth c H locs cells slots Q (F0 m pc ls (.int (iI (b : Int)) :: .int (iI (a : Int)) :: rest)) := lv_idiv F.1.1 F.1.2.1 d (iI_ne0 h.2.1 h.2.2) (by rw [iI_div h.1 h.2.1 h.2.2]; exact kk)
theorem r_rem {a b : Nat} (F : Fx p m c cc nL s args own D cI cB) (d : decode cc pc = .ok (.irem, 1)) (h : a < 2147483648 ∧ 0 < b ∧ b < 2147483648) (kk : W p l e R s m args below meth c H locs cells slots Q (F0 m (pc + 1) ls (.int (iI ((a % b : Nat) : Int)) :: rest))) : W p l e R s m args below meth c H locs cells slots Q (F0 m pc ls (.int (iI (b : Int)) :: .int (iI (a : Int)) :: rest)) := lv_irem F.1.1 F.1.2.1 d (iI_ne0 h.2.1 h.2.2) (by rw [iI_rem h.1 h.2.1 h.2.2]; exact kk)
theorem r_addz {a b : Int} (F : Fx p m c cc nL s args own D cI cB) (d : decode cc pc = .ok (.iadd, 1)) (kk : W p l e R s m args below meth c H locs cells slots Q (F0 m (pc + 1) ls (.int (iI (a + b)) :: rest))) : W p l e R s m args below meth c H locs cells slots Q (F0 m pc ls (.int (iI b) :: .int (iI a) :: rest)) := lv_iadd F.1.1 F.1.2.1 d (by rw [iI_add]; exact kk)
theorem r_subz {a b : Int} (F : Fx p m c cc nL s args own D cI cB) (d : decode cc pc = .ok (.isub, 1)) (kk : W p l e R s m args below meth c H locs cells slots Q (F0 m (pc + 1) ls (.int (iI (a - b)) :: rest))) : W p l e R s m args below meth c H locs cells slots Q (F0 m pc ls (.int (iI b) :: .int (iI a) :: rest)) := lv_isub F.1.1 F.1.2.1 d (by rw [iI_sub]; exact kk)
theorem r_mulz {a b : Int} (F : Fx p m c cc nL s args own D cI cB) (d : decode cc pc = .ok (.imul, 1)) (kk : W p l e R s m args below meth c H locs cells slots Q (F0 m (pc + 1) ls (.int (iI (a * b)) :: rest))) : W p l e R s m args below meth c H locs cells slots Q (F0 m pc ls (.int (iI b) :: .int (iI a) :: rest)) := lv_imul F.1.1 F.1.2.1 d (by rw [iI_mul]; exact kk)
theorem r_negz {a : Int} (F : Fx p m c cc nL s args own D cI cB) (d : decode cc pc = .ok (.ineg, 1)) (kk : W p l e R s m args below meth c H locs cells slots Q (F0 m (pc + 1) ls (.int (iI (-a)) :: rest))) : W p l e R s m args below meth c H locs cells slots Q (F0 m pc ls (.int (iI a) :: rest)) := lv_ineg F.1.1 F.1.2.1 d (by rw [iI_neg]; exact kk)
theorem r_andr {a b : Int32} (F : Fx p m c cc nL s args own D cI cB) (d : decode cc pc = .ok (.iand, 1)) (v : Int32) (hv : a &&& b = v) (kk : W p l e R s m args below meth c H locs cells slots Q (F0 m (pc + 1) ls (.int v :: rest))) : W p l e R s m args below meth c H locs cells slots Q (F0 m pc ls (.int b :: .int a :: rest)) := lv_iand F.1.1 F.1.2.1 d (by rw [hv]; exact kk)
theorem r_orr {a b : Int32} (F : Fx p m c cc nL s args own D cI cB) (d : decode cc pc = .ok (.ior, 1)) (v : Int32) (hv : a ||| b = v) (kk : W p l e R s m args below meth c H locs cells slots Q (F0 m (pc + 1) ls (.int v :: rest))) : W p l e R s m args below meth c H locs cells slots Q (F0 m pc ls (.int b :: .int a :: rest)) := lv_ior F.1.1 F.1.2.1 d (by rw [hv]; exact kk)
theorem r_xorr {a b : Int32} (F : Fx p m c cc nL s args own D cI cB) (d : decode cc pc = .ok (.ixor, 1)) (v : Int32) (hv : a ^^^ b = v) (kk : W p l e R s m args below meth c H locs cells slots Q (F0 m (pc + 1) ls (.int v :: rest))) : W p l e R s m args below meth c H locs cells slots Q (F0 m pc ls (.int b :: .int a :: rest)) := lv_ixor F.1.1 F.1.2.1 d (by rw [hv]; exact kk)
theorem r_dup {va : Value} (F : Fx p m c cc nL s args own D cI cB) (d : decode cc pc = .ok (.dup, 1)) (hva : va.category = 1) (kk : W p l e R s m args below meth c H locs cells slots Q (F0 m (pc + 1) ls (va :: va :: rest))) : W p l e R s m args below meth c H locs cells slots Q (F0 m pc ls (va :: rest)) := lv_dup F.1.1 F.1.2.1 d hva kk
theorem r_dup2 {va vb : Value} (F : Fx p m c cc nL s args own D cI cB) (d : decode cc pc = .ok (.dup2, 1)) (hva : va.category = 1) (hvb : vb.category = 1) (kk : W p l e R s m args below meth c H locs cells slots Q (F0 m (pc + 1) ls (va :: vb :: va :: vb :: rest))) : W p l e R s m args below meth c H locs cells slots Q (F0 m pc ls (va :: vb :: rest)) := lv_dup2_11 F.1.1 F.1.2.1 d hva hvb kk
theorem r_pop {va : Value} (F : Fx p m c cc nL s args own D cI cB) (d : decode cc pc = .ok (.pop, 1)) (hva : va.category = 1) (kk : W p l e R s m args below meth c H locs cells slots Q (F0 m (pc + 1) ls rest)) : W p l e R s m args below meth c H locs cells slots Q (F0 m pc ls (va :: rest)) := lv_pop F.1.1 F.1.2.1 d hva kk
theorem r_goto {off : Int} (tgt : Nat) (F : Fx p m c cc nL s args own D cI cB) (d : decode cc pc = .ok (.goto off, 3)) (ht : (pc : Int) + off = (tgt : Int)) (kk : W p l e R s m args below meth c H locs cells slots Q (F0 m tgt ls rest)) : W p l e R s m args below meth c H locs cells slots Q (F0 m pc ls rest) := lv_goto F.1.1 F.1.2.1 d ht kk
theorem r_top {x : Int32} (y : Int32) (h : x = y) (kk : W p l e R s m args below meth c H locs cells slots Q (F0 m pc ls (.int y :: rest))) : W p l e R s m args below meth c H locs cells slots Q (F0 m pc ls (.int x :: rest)) := by rw [h]; exact kk
theorem r_ceq {a b : Nat} {off : Int} (tgt : Nat) (F : Fx p m c cc nL s args own D cI cB) (d : decode cc pc = .ok (.if_icmp .eq off, 3)) (ht : (pc : Int) + off = (tgt : Int)) (h : a < 2147483648 ∧ b < 2147483648) (kt : a = b → W p l e R s m args below meth c H locs cells slots Q (F0 m tgt ls rest)) (kf : ¬ a = b → W p l e R s m args below meth c H locs cells slots Q (F0 m (pc + 3) ls rest)) : W p l e R s m args below meth c H locs cells slots Q (F0 m pc ls (.int (iI (b : Int)) :: .int (iI (a : Int)) :: rest)) := by
  have e : iI (a : Int) = iI (b : Int) ↔ a = b := by rw [iI_eq (by omega) (by omega)] <;> omega
  exact lv_icmp_eq F.1.1 F.1.2.1 d ht (fun q => kt (e.mp q)) (fun q => kf (fun z => q (e.mpr z)))
theorem r_ceqz {a b : Int} {off : Int} (tgt : Nat) (F : Fx p m c cc nL s args own D cI cB) (d : decode cc pc = .ok (.if_icmp .eq off, 3)) (ht : (pc : Int) + off = (tgt : Int)) (h : (-2147483648 ≤ a ∧ a < 2147483648) ∧ -2147483648 ≤ b ∧ b < 2147483648) (kt : a = b → W p l e R s m args below meth c H locs cells slots Q (F0 m tgt ls rest)) (kf : ¬ a = b → W p l e R s m args below meth c H locs cells slots Q (F0 m (pc + 3) ls rest)) : W p l e R s m args below meth c H locs cells slots Q (F0 m pc ls (.int (iI b) :: .int (iI a) :: rest)) := by
  have e : iI a = iI b ↔ a = b := by rw [iI_eq (by omega) (by omega)] <;> omega
  exact lv_icmp_eq F.1.1 F.1.2.1 d ht (fun q => kt (e.mp q)) (fun q => kf (fun z => q (e.mpr z)))
theorem r_zeq {a : Nat} {off : Int} (tgt : Nat) (F : Fx p m c cc nL s args own D cI cB) (d : decode cc pc = .ok (.ifCond .eq off, 3)) (ht : (pc : Int) + off = (tgt : Int)) (h : a < 2147483648) (kt : a = 0 → W p l e R s m args below meth c H locs cells slots Q (F0 m tgt ls rest)) (kf : ¬ a = 0 → W p l e R s m args below meth c H locs cells slots Q (F0 m (pc + 3) ls rest)) : W p l e R s m args below meth c H locs cells slots Q (F0 m pc ls (.int (iI (a : Int)) :: rest)) := by
  have e : iI (a : Int) = 0 ↔ a = 0 := by rw [← iI_0]; rw [iI_eq (by omega) (by omega)] <;> omega
  exact lv_if_eq F.1.1 F.1.2.1 d ht (fun q => kt (e.mp q)) (fun q => kf (fun z => q (e.mpr z)))
theorem r_zeqz {a : Int} {off : Int} (tgt : Nat) (F : Fx p m c cc nL s args own D cI cB) (d : decode cc pc = .ok (.ifCond .eq off, 3)) (ht : (pc : Int) + off = (tgt : Int)) (h : -2147483648 ≤ a ∧ a < 2147483648) (kt : a = 0 → W p l e R s m args below meth c H locs cells slots Q (F0 m tgt ls rest)) (kf : ¬ a = 0 → W p l e R s m args below meth c H locs cells slots Q (F0 m (pc + 3) ls rest)) : W p l e R s m args below meth c H locs cells slots Q (F0 m pc ls (.int (iI a) :: rest)) := by
  have e : iI a = 0 ↔ a = 0 := by rw [← iI_0]; rw [iI_eq (by omega) (by omega)] <;> omega
  exact lv_if_eq F.1.1 F.1.2.1 d ht (fun q => kt (e.mp q)) (fun q => kf (fun z => q (e.mpr z)))
theorem r_cne {a b : Nat} {off : Int} (tgt : Nat) (F : Fx p m c cc nL s args own D cI cB) (d : decode cc pc = .ok (.if_icmp .ne off, 3)) (ht : (pc : Int) + off = (tgt : Int)) (h : a < 2147483648 ∧ b < 2147483648) (kt : ¬ a = b → W p l e R s m args below meth c H locs cells slots Q (F0 m tgt ls rest)) (kf : a = b → W p l e R s m args below meth c H locs cells slots Q (F0 m (pc + 3) ls rest)) : W p l e R s m args below meth c H locs cells slots Q (F0 m pc ls (.int (iI (b : Int)) :: .int (iI (a : Int)) :: rest)) := by
  have e : iI (a : Int) = iI (b : Int) ↔ a = b := by rw [iI_eq (by omega) (by omega)] <;> omega
  exact lv_icmp_ne F.1.1 F.1.2.1 d ht (fun q => kt (fun z => q (e.mpr z))) (fun q => kf (e.mp q))
theorem r_cnez {a b : Int} {off : Int} (tgt : Nat) (F : Fx p m c cc nL s args own D cI cB) (d : decode cc pc = .ok (.if_icmp .ne off, 3)) (ht : (pc : Int) + off = (tgt : Int)) (h : (-2147483648 ≤ a ∧ a < 2147483648) ∧ -2147483648 ≤ b ∧ b < 2147483648) (kt : ¬ a = b → W p l e R s m args below meth c H locs cells slots Q (F0 m tgt ls rest)) (kf : a = b → W p l e R s m args below meth c H locs cells slots Q (F0 m (pc + 3) ls rest)) : W p l e R s m args below meth c H locs cells slots Q (F0 m pc ls (.int (iI b) :: .int (iI a) :: rest)) := by
  have e : iI a = iI b ↔ a = b := by rw [iI_eq (by omega) (by omega)] <;> omega
  exact lv_icmp_ne F.1.1 F.1.2.1 d ht (fun q => kt (fun z => q (e.mpr z))) (fun q => kf (e.mp q))
theorem r_zne {a : Nat} {off : Int} (tgt : Nat) (F : Fx p m c cc nL s args own D cI cB) (d : decode cc pc = .ok (.ifCond .ne off, 3)) (ht : (pc : Int) + off = (tgt : Int)) (h : a < 2147483648) (kt : ¬ a = 0 → W p l e R s m args below meth c H locs cells slots Q (F0 m tgt ls rest)) (kf : a = 0 → W p l e R s m args below meth c H locs cells slots Q (F0 m (pc + 3) ls rest)) : W p l e R s m args below meth c H locs cells slots Q (F0 m pc ls (.int (iI (a : Int)) :: rest)) := by
  have e : iI (a : Int) = 0 ↔ a = 0 := by rw [← iI_0]; rw [iI_eq (by omega) (by omega)] <;> omega
  exact lv_if_ne F.1.1 F.1.2.1 d ht (fun q => kt (fun z => q (e.mpr z))) (fun q => kf (e.mp q))
theorem r_znez {a : Int} {off : Int} (tgt : Nat) (F : Fx p m c cc nL s args own D cI cB) (d : decode cc pc = .ok (.ifCond .ne off, 3)) (ht : (pc : Int) + off = (tgt : Int)) (h : -2147483648 ≤ a ∧ a < 2147483648) (kt : ¬ a = 0 → W p l e R s m args below meth c H locs cells slots Q (F0 m tgt ls rest)) (kf : a = 0 → W p l e R s m args below meth c H locs cells slots Q (F0 m (pc + 3) ls rest)) : W p l e R s m args below meth c H locs cells slots Q (F0 m pc ls (.int (iI a) :: rest)) := by
  have e : iI a = 0 ↔ a = 0 := by rw [← iI_0]; rw [iI_eq (by omega) (by omega)] <;> omega
  exact lv_if_ne F.1.1 F.1.2.1 d ht (fun q => kt (fun z => q (e.mpr z))) (fun q => kf (e.mp q))
theorem r_clt {a b : Nat} {off : Int} (tgt : Nat) (F : Fx p m c cc nL s args own D cI cB) (d : decode cc pc = .ok (.if_icmp .lt off, 3)) (ht : (pc : Int) + off = (tgt : Int)) (h : a < 2147483648 ∧ b < 2147483648) (kt : a < b → W p l e R s m args below meth c H locs cells slots Q (F0 m tgt ls rest)) (kf : ¬ a < b → W p l e R s m args below meth c H locs cells slots Q (F0 m (pc + 3) ls rest)) : W p l e R s m args below meth c H locs cells slots Q (F0 m pc ls (.int (iI (b : Int)) :: .int (iI (a : Int)) :: rest)) := by
  have e : iI (a : Int) < iI (b : Int) ↔ a < b := by rw [iI_lt (by omega) (by omega)] <;> omega
  exact lv_icmp_lt F.1.1 F.1.2.1 d ht (fun q => kt (e.mp q)) (fun q => kf (fun z => q (e.mpr z)))
theorem r_cltz {a b : Int} {off : Int} (tgt : Nat) (F : Fx p m c cc nL s args own D cI cB) (d : decode cc pc = .ok (.if_icmp .lt off, 3)) (ht : (pc : Int) + off = (tgt : Int)) (h : (-2147483648 ≤ a ∧ a < 2147483648) ∧ -2147483648 ≤ b ∧ b < 2147483648) (kt : a < b → W p l e R s m args below meth c H locs cells slots Q (F0 m tgt ls rest)) (kf : ¬ a < b → W p l e R s m args below meth c H locs cells slots Q (F0 m (pc + 3) ls rest)) : W p l e R s m args below meth c H locs cells slots Q (F0 m pc ls (.int (iI b) :: .int (iI a) :: rest)) := by
  have e : iI a < iI b ↔ a < b := by rw [iI_lt (by omega) (by omega)] <;> omega
  exact lv_icmp_lt F.1.1 F.1.2.1 d ht (fun q => kt (e.mp q)) (fun q => kf (fun z => q (e.mpr z)))
theorem r_zlt {a : Nat} {off : Int} (tgt : Nat) (F : Fx p m c cc nL s args own D cI cB) (d : decode cc pc = .ok (.ifCond .lt off, 3)) (ht : (pc : Int) + off = (tgt : Int)) (h : a < 2147483648) (kt : a < 0 → W p l e R s m args below meth c H locs cells slots Q (F0 m tgt ls rest)) (kf : ¬ a < 0 → W p l e R s m args below meth c H locs cells slots Q (F0 m (pc + 3) ls rest)) : W p l e R s m args below meth c H locs cells slots Q (F0 m pc ls (.int (iI (a : Int)) :: rest)) := by
  have e : iI (a : Int) < 0 ↔ a < 0 := by rw [← iI_0]; rw [iI_lt (by omega) (by omega)] <;> omega
  exact lv_if_lt F.1.1 F.1.2.1 d ht (fun q => kt (e.mp q)) (fun q => kf (fun z => q (e.mpr z)))
theorem r_zltz {a : Int} {off : Int} (tgt : Nat) (F : Fx p m c cc nL s args own D cI cB) (d : decode cc pc = .ok (.ifCond .lt off, 3)) (ht : (pc : Int) + off = (tgt : Int)) (h : -2147483648 ≤ a ∧ a < 2147483648) (kt : a < 0 → W p l e R s m args below meth c H locs cells slots Q (F0 m tgt ls rest)) (kf : ¬ a < 0 → W p l e R s m args below meth c H locs cells slots Q (F0 m (pc + 3) ls rest)) : W p l e R s m args below meth c H locs cells slots Q (F0 m pc ls (.int (iI a) :: rest)) := by
  have e : iI a < 0 ↔ a < 0 := by rw [← iI_0]; rw [iI_lt (by omega) (by omega)] <;> omega
  exact lv_if_lt F.1.1 F.1.2.1 d ht (fun q => kt (e.mp q)) (fun q => kf (fun z => q (e.mpr z)))
theorem r_cge {a b : Nat} {off : Int} (tgt : Nat) (F : Fx p m c cc nL s args own D cI cB) (d : decode cc pc = .ok (.if_icmp .ge off, 3)) (ht : (pc : Int) + off = (tgt : Int)) (h : a < 2147483648 ∧ b < 2147483648) (kt : ¬ a < b → W p l e R s m args below meth c H locs cells slots Q (F0 m tgt ls rest)) (kf : a < b → W p l e R s m args below meth c H locs cells slots Q (F0 m (pc + 3) ls rest)) : W p l e R s m args below meth c H locs cells slots Q (F0 m pc ls (.int (iI (b : Int)) :: .int (iI (a : Int)) :: rest)) := by
  have e : iI (b : Int) ≤ iI (a : Int) ↔ ¬ (a < b) := by rw [iI_le (by omega) (by omega)] <;> omega
  exact lv_icmp_ge F.1.1 F.1.2.1 d ht (fun q => kt (e.mp q)) (fun q => kf (Decidable.byContradiction fun z => q (e.mpr z)))
theorem r_cgez {a b : Int} {off : Int} (tgt : Nat) (F : Fx p m c cc nL s args own D cI cB) (d : decode cc pc = .ok (.if_icmp .ge off, 3)) (ht : (pc : Int) + off = (tgt : Int)) (h : (-2147483648 ≤ a ∧ a < 2147483648) ∧ -2147483648 ≤ b ∧ b < 2147483648) (kt : ¬ a < b → W p l e R s m args below meth c H locs cells slots Q (F0 m tgt ls rest)) (kf : a < b → W p l e R s m args below meth c H locs cells slots Q (F0 m (pc + 3) ls rest)) : W p l e R s m args below meth c H locs cells slots Q (F0 m pc ls (.int (iI b) :: .int (iI a) :: rest)) := by
  have e : iI b ≤ iI a ↔ ¬ (a < b) := by rw [iI_le (by omega) (by omega)] <;> omega
  exact lv_icmp_ge F.1.1 F.1.2.1 d ht (fun q => kt (e.mp q)) (fun q => kf (Decidable.byContradiction fun z => q (e.mpr z)))
theorem r_zge {a : Nat} {off : Int} (tgt : Nat) (F : Fx p m c cc nL s args own D cI cB) (d : decode cc pc = .ok (.ifCond .ge off, 3)) (ht : (pc : Int) + off = (tgt : Int)) (h : a < 2147483648) (kt : ¬ a < 0 → W p l e R s m args below meth c H locs cells slots Q (F0 m tgt ls rest)) (kf : a < 0 → W p l e R s m args below meth c H locs cells slots Q (F0 m (pc + 3) ls rest)) : W p l e R s m args below meth c H locs cells slots Q (F0 m pc ls (.int (iI (a : Int)) :: rest)) := by
  have e : 0 ≤ iI (a : Int) ↔ ¬ (a < 0) := by rw [← iI_0]; rw [iI_le (by omega) (by omega)] <;> omega
  exact lv_if_ge F.1.1 F.1.2.1 d ht (fun q => kt (e.mp q)) (fun q => kf (Decidable.byContradiction fun z => q (e.mpr z)))
theorem r_zgez {a : Int} {off : Int} (tgt : Nat) (F : Fx p m c cc nL s args own D cI cB) (d : decode cc pc = .ok (.ifCond .ge off, 3)) (ht : (pc : Int) + off = (tgt : Int)) (h : -2147483648 ≤ a ∧ a < 2147483648) (kt : ¬ a < 0 → W p l e R s m args below meth c H locs cells slots Q (F0 m tgt ls rest)) (kf : a < 0 → W p l e R s m args below meth c H locs cells slots Q (F0 m (pc + 3) ls rest)) : W p l e R s m args below meth c H locs cells slots Q (F0 m pc ls (.int (iI a) :: rest)) := by
  have e : 0 ≤ iI a ↔ ¬ (a < 0) := by rw [← iI_0]; rw [iI_le (by omega) (by omega)] <;> omega
  exact lv_if_ge F.1.1 F.1.2.1 d ht (fun q => kt (e.mp q)) (fun q => kf (Decidable.byContradiction fun z => q (e.mpr z)))
theorem r_cgt {a b : Nat} {off : Int} (tgt : Nat) (F : Fx p m c cc nL s args own D cI cB) (d : decode cc pc = .ok (.if_icmp .gt off, 3)) (ht : (pc : Int) + off = (tgt : Int)) (h : a < 2147483648 ∧ b < 2147483648) (kt : b < a → W p l e R s m args below meth c H locs cells slots Q (F0 m tgt ls rest)) (kf : ¬ b < a → W p l e R s m args below meth c H locs cells slots Q (F0 m (pc + 3) ls rest)) : W p l e R s m args below meth c H locs cells slots Q (F0 m pc ls (.int (iI (b : Int)) :: .int (iI (a : Int)) :: rest)) := by
  have e : iI (b : Int) < iI (a : Int) ↔ b < a := by rw [iI_lt (by omega) (by omega)] <;> omega
  exact lv_icmp_gt F.1.1 F.1.2.1 d ht (fun q => kt (e.mp q)) (fun q => kf (fun z => q (e.mpr z)))
theorem r_cgtz {a b : Int} {off : Int} (tgt : Nat) (F : Fx p m c cc nL s args own D cI cB) (d : decode cc pc = .ok (.if_icmp .gt off, 3)) (ht : (pc : Int) + off = (tgt : Int)) (h : (-2147483648 ≤ a ∧ a < 2147483648) ∧ -2147483648 ≤ b ∧ b < 2147483648) (kt : b < a → W p l e R s m args below meth c H locs cells slots Q (F0 m tgt ls rest)) (kf : ¬ b < a → W p l e R s m args below meth c H locs cells slots Q (F0 m (pc + 3) ls rest)) : W p l e R s m args below meth c H locs cells slots Q (F0 m pc ls (.int (iI b) :: .int (iI a) :: rest)) := by
  have e : iI b < iI a ↔ b < a := by rw [iI_lt (by omega) (by omega)] <;> omega
  exact lv_icmp_gt F.1.1 F.1.2.1 d ht (fun q => kt (e.mp q)) (fun q => kf (fun z => q (e.mpr z)))
theorem r_zgt {a : Nat} {off : Int} (tgt : Nat) (F : Fx p m c cc nL s args own D cI cB) (d : decode cc pc = .ok (.ifCond .gt off, 3)) (ht : (pc : Int) + off = (tgt : Int)) (h : a < 2147483648) (kt : 0 < a → W p l e R s m args below meth c H locs cells slots Q (F0 m tgt ls rest)) (kf : ¬ 0 < a → W p l e R s m args below meth c H locs cells slots Q (F0 m (pc + 3) ls rest)) : W p l e R s m args below meth c H locs cells slots Q (F0 m pc ls (.int (iI (a : Int)) :: rest)) := by
  have e : 0 < iI (a : Int) ↔ 0 < a := by rw [← iI_0]; rw [iI_lt (by omega) (by omega)] <;> omega
  exact lv_if_gt F.1.1 F.1.2.1 d ht (fun q => kt (e.mp q)) (fun q => kf (fun z => q (e.mpr z)))
theorem r_zgtz {a : Int} {off : Int} (tgt : Nat) (F : Fx p m c cc nL s args own D cI cB) (d : decode cc pc = .ok (.ifCond .gt off, 3)) (ht : (pc : Int) + off = (tgt : Int)) (h : -2147483648 ≤ a ∧ a < 2147483648) (kt : 0 < a → W p l e R s m args below meth c H locs cells slots Q (F0 m tgt ls rest)) (kf : ¬ 0 < a → W p l e R s m args below meth c H locs cells slots Q (F0 m (pc + 3) ls rest)) : W p l e R s m args below meth c H locs cells slots Q (F0 m pc ls (.int (iI a) :: rest)) := by
  have e : 0 < iI a ↔ 0 < a := by rw [← iI_0]; rw [iI_lt (by omega) (by omega)] <;> omega
  exact lv_if_gt F.1.1 F.1.2.1 d ht (fun q => kt (e.mp q)) (fun q => kf (fun z => q (e.mpr z)))
theorem r_cle {a b : Nat} {off : Int} (tgt : Nat) (F : Fx p m c cc nL s args own D cI cB) (d : decode cc pc = .ok (.if_icmp .le off, 3)) (ht : (pc : Int) + off = (tgt : Int)) (h : a < 2147483648 ∧ b < 2147483648) (kt : ¬ b < a → W p l e R s m args below meth c H locs cells slots Q (F0 m tgt ls rest)) (kf : b < a → W p l e R s m args below meth c H locs cells slots Q (F0 m (pc + 3) ls rest)) : W p l e R s m args below meth c H locs cells slots Q (F0 m pc ls (.int (iI (b : Int)) :: .int (iI (a : Int)) :: rest)) := by
  have e : iI (a : Int) ≤ iI (b : Int) ↔ ¬ (b < a) := by rw [iI_le (by omega) (by omega)] <;> omega
  exact lv_icmp_le F.1.1 F.1.2.1 d ht (fun q => kt (e.mp q)) (fun q => kf (Decidable.byContradiction fun z => q (e.mpr z)))
theorem r_clez {a b : Int} {off : Int} (tgt : Nat) (F : Fx p m c cc nL s args own D cI cB) (d : decode cc pc = .ok (.if_icmp .le off, 3)) (ht : (pc : Int) + off = (tgt : Int)) (h : (-2147483648 ≤ a ∧ a < 2147483648) ∧ -2147483648 ≤ b ∧ b < 2147483648) (kt : ¬ b < a → W p l e R s m args below meth c H locs cells slots Q (F0 m tgt ls rest)) (kf : b < a → W p l e R s m args below meth c H locs cells slots Q (F0 m (pc + 3) ls rest)) : W p l e R s m args below meth c H locs cells slots Q (F0 m pc ls (.int (iI b) :: .int (iI a) :: rest)) := by
  have e : iI a ≤ iI b ↔ ¬ (b < a) := by rw [iI_le (by omega) (by omega)] <;> omega
  exact lv_icmp_le F.1.1 F.1.2.1 d ht (fun q => kt (e.mp q)) (fun q => kf (Decidable.byContradiction fun z => q (e.mpr z)))
theorem r_zle {a : Nat} {off : Int} (tgt : Nat) (F : Fx p m c cc nL s args own D cI cB) (d : decode cc pc = .ok (.ifCond .le off, 3)) (ht : (pc : Int) + off = (tgt : Int)) (h : a < 2147483648) (kt : ¬ 0 < a → W p l e R s m args below meth c H locs cells slots Q (F0 m tgt ls rest)) (kf : 0 < a → W p l e R s m args below meth c H locs cells slots Q (F0 m (pc + 3) ls rest)) : W p l e R s m args below meth c H locs cells slots Q (F0 m pc ls (.int (iI (a : Int)) :: rest)) := by
  have e : iI (a : Int) ≤ 0 ↔ ¬ (0 < a) := by rw [← iI_0]; rw [iI_le (by omega) (by omega)] <;> omega
  exact lv_if_le F.1.1 F.1.2.1 d ht (fun q => kt (e.mp q)) (fun q => kf (Decidable.byContradiction fun z => q (e.mpr z)))
theorem r_zlez {a : Int} {off : Int} (tgt : Nat) (F : Fx p m c cc nL s args own D cI cB) (d : decode cc pc = .ok (.ifCond .le off, 3)) (ht : (pc : Int) + off = (tgt : Int)) (h : -2147483648 ≤ a ∧ a < 2147483648) (kt : ¬ 0 < a → W p l e R s m args below meth c H locs cells slots Q (F0 m tgt ls rest)) (kf : 0 < a → W p l e R s m args below meth c H locs cells slots Q (F0 m (pc + 3) ls rest)) : W p l e R s m args below meth c H locs cells slots Q (F0 m pc ls (.int (iI a) :: rest)) := by
  have e : iI a ≤ 0 ↔ ¬ (0 < a) := by rw [← iI_0]; rw [iI_le (by omega) (by omega)] <;> omega
  exact lv_if_le F.1.1 F.1.2.1 d ht (fun q => kt (e.mp q)) (fun q => kf (Decidable.byContradiction fun z => q (e.mpr z)))
theorem b_z (b : Bool) : iI (b.toNat : Int) = 0 ↔ b = false := by cases b <;> decide
theorem r_zeqb {b : Bool} {off : Int} (tgt : Nat) (F : Fx p m c cc nL s args own D cI cB) (d : decode cc pc = .ok (.ifCond .eq off, 3)) (ht : (pc : Int) + off = (tgt : Int)) (kt : b = false → W p l e R s m args below meth c H locs cells slots Q (F0 m tgt ls rest)) (kf : b = true → W p l e R s m args below meth c H locs cells slots Q (F0 m (pc + 3) ls rest)) : W p l e R s m args below meth c H locs cells slots Q (F0 m pc ls (.int (iI (b.toNat : Int)) :: rest)) :=
  lv_if_eq F.1.1 F.1.2.1 d ht (fun q => kt ((b_z b).mp q)) (fun q => kf (by cases b; exact absurd ((b_z _).mpr rfl) q; rfl))
theorem r_zneb {b : Bool} {off : Int} (tgt : Nat) (F : Fx p m c cc nL s args own D cI cB) (d : decode cc pc = .ok (.ifCond .ne off, 3)) (ht : (pc : Int) + off = (tgt : Int)) (kt : b = true → W p l e R s m args below meth c H locs cells slots Q (F0 m tgt ls rest)) (kf : b = false → W p l e R s m args below meth c H locs cells slots Q (F0 m (pc + 3) ls rest)) : W p l e R s m args below meth c H locs cells slots Q (F0 m pc ls (.int (iI (b.toNat : Int)) :: rest)) :=
  lv_if_ne F.1.1 F.1.2.1 d ht (fun q => kt (by cases b; exact absurd ((b_z _).mpr rfl) q; rfl)) (fun q => kf ((b_z b).mp q))
theorem r_ald {a n k : Nat} {f : Nat → Nat} (F : Fx p m c cc nL s args own D cI cB) (P : va_P D vwCl ws H) (q0 : Nat) (ha : ws[q0]? = some (a, aI cI n f)) (d : decode cc pc = .ok (.iaload, 1)) (hn : n < 2147483648) (hk : k < n) (kk : W p l e R s m args below meth c H locs cells slots Q (F0 m (pc + 1) ls (.int (iI (f k : Int)) :: rest))) : W p l e R s m args below meth c H locs cells slots Q (F0 m pc ls (.int (iI (k : Int)) :: .ref a :: rest)) :=
  va_iald F.1.1 F.1.2.1 F.2.1 P q0 0 ha rfl (iI_in hk hn) d (by rw [iI_clamp (by omega)]; exact kk)
theorem r_bld {a n k : Nat} {f : Nat → Nat} (F : Fx p m c cc nL s args own D cI cB) (P : va_P D vwCl ws H) (q0 : Nat) (ha : ws[q0]? = some (a, aB cB n f)) (d : decode cc pc = .ok (.baload, 1)) (hn : n < 2147483648) (hk : k < n) (kk : W p l e R s m args below meth c H locs cells slots Q (F0 m (pc + 1) ls (.int (iI (sx (f k))) :: rest))) : W p l e R s m args below meth c H locs cells slots Q (F0 m pc ls (.int (iI (k : Int)) :: .ref a :: rest)) :=
  va_bald F.1.1 F.1.2.1 F.2.1 P q0 1 ha rfl (iI_in hk hn) d (by rw [iI_clamp (by omega)]; exact kk)
theorem upd_aI (f : Nat → Nat) (k v : Nat) : upd (fun j => iI (f j : Int)) k (iI (v : Int)) = fun j => iI (upN f k v j : Int) := by
  funext j
  unfold upd upN
  by_cases h : j = k
  · simp [h]
  · simp [h]
theorem r_ast {a n k v : Nat} {f : Nat → Nat} (F : Fx p m c cc nL s args own D cI cB) (B : Bx D A H0 ws H locs) (q0 : Nat) (ws' : va_W) (ha : ws[q0]? = some (a, aI cI n f)) (d : decode cc pc = .ok (.iastore, 1)) (hn : n < 2147483648) (hk : k < n) (hw : ws.set q0 (a, aI cI n (upN f k v)) = ws') (kk : ∀ (H : Heap) (locs : List Loc), Bx D A H0 ws' H locs → W p l e R s m args below meth c H locs cells slots Q (F0 m (pc + 1) ls rest)) : W p l e R s m args below meth c H locs cells slots Q (F0 m pc ls (.int (iI (v : Int)) :: .int (iI (k : Int)) :: .ref a :: rest)) := by
  refine va_iast F.1.1 F.1.2.1 F.2.1 B.1 B.2.1 B.2.2 q0 0 ha rfl (iI_in hk hn) d (fun H1 locs1 hP hD hS => ?_)
  rw [iI_clamp (by omega), upd_aI, hw] at hP hD
  exact kk H1 locs1 ⟨hP, hD, hS⟩
theorem upd_aB (f : Nat → Nat) (k v : Nat) : upd (fun j => iI (sx (f j))) k (iI (sx v)) = fun j => iI (sx (upN f k v j)) := by
  funext j
  unfold upd upN
  by_cases h : j = k
  · simp [h]
  · simp [h]
theorem r_bst {a n k : Nat} {x : Int32} {f : Nat → Nat} (F : Fx p m c cc nL s args own D cI cB) (B : Bx D A H0 ws H locs) (q0 : Nat) (v : Nat) (ws' : va_W) (ha : ws[q0]? = some (a, aB cB n f)) (d : decode cc pc = .ok (.bastore, 1)) (hn : n < 2147483648) (hk : k < n) (hx : vp_nar .byte x = iI (sx v)) (hw : ws.set q0 (a, aB cB n (upN f k v)) = ws') (kk : ∀ (H : Heap) (locs : List Loc), Bx D A H0 ws' H locs → W p l e R s m args below meth c H locs cells slots Q (F0 m (pc + 1) ls rest)) : W p l e R s m args below meth c H locs cells slots Q (F0 m pc ls (.int x :: .int (iI (k : Int)) :: .ref a :: rest)) := by
  refine va_bast F.1.1 F.1.2.1 F.2.1 B.1 B.2.1 B.2.2 q0 1 ha rfl (iI_in hk hn) d (fun H1 locs1 hP hD hS => ?_)
  rw [iI_clamp (by omega), hx, upd_aB, hw] at hP hD
  exact kk H1 locs1 ⟨hP, hD, hS⟩

theorem r_gf {C : String} {T : u_T} {N ci idx a : Nat} (F : Fx p m c cc nL s args own D cI cB) (hin : ∀ w ∈ u_ws C T N, w ∈ tb) (hc : vwCl[ci]? = some (C, T, N)) (k : Nat) (hk : k < N) (hl : Cond.fieldLink own idx (T k).1 (T k).2.1 (T k).2.2.1 ∈ tb) (P : va_P D vwCl ws H) (q0 : Nat) {fs : List Value} (he : ws[q0]? = some (a, .inr (ci, fs))) (v : Value) (hv : fs[k]? = some v) (d : decode cc pc = .ok (.getfield idx, 3)) (kk : W p l e R s m args below meth c H locs cells slots Q (F0 m (pc + 3) ls (v :: rest))) : W p l e R s m args below meth c H locs cells slots Q (F0 m pc ls (.ref a :: rest)) :=
  va_get F.1.1 F.1.2.1 F.1.2.2.2.2 hin F.1.2.2.2.1 F.2.1 P q0 he hc k hk (F.1.2.2.2.2 _ hl) (fun _ h => h) hv d kk
theorem r_gfN {C host : String} {T : u_T} {N ci idx a : Nat} (F : Fx p m c cc nL s args own D cI cB) (hin : ∀ w ∈ u_ws C T N, w ∈ tb) (hc : vwCl[ci]? = some (C, T, N)) (k : Nat) (hk : k < N) (hl : Cond.fieldLinkNest own idx (T k).1 (T k).2.1 (T k).2.2.1 host ∈ nst) (P : va_P D vwCl ws H) (q0 : Nat) {fs : List Value} (he : ws[q0]? = some (a, .inr (ci, fs))) (v : Value) (hv : fs[k]? = some v) (d : decode cc pc = .ok (.getfield idx, 3)) (kk : W p l e R s m args below meth c H locs cells slots Q (F0 m (pc + 3) ls (v :: rest))) : W p l e R s m args below meth c H locs cells slots Q (F0 m pc ls (.ref a :: rest)) :=
  va_getN F.1.1 F.1.2.1 F.1.2.2.2.2 hin F.1.2.2.2.1 F.2.1 P q0 he hc k hk (va_Nw.use rfl (F.2.2 _ hl)) (fun _ h => h) hv d kk
theorem r_pf {C : String} {T : u_T} {N ci idx a : Nat} {ty0 : Nat → FieldType} (F : Fx p m c cc nL s args own D cI cB) (hin : ∀ w ∈ u_ws C T N, w ∈ tb) (hc : vwCl[ci]? = some (C, T, N)) (hty : ∀ k, k < N → parseFieldDescriptor (T k).2.2.1 = some (ty0 k)) (hnm : ∀ a, a < N → ∀ b, b < N → a ≠ b → (T a).2.1 ≠ (T b).2.1) (k : Nat) (hk : k < N) (hl : Cond.fieldLink own idx (T k).1 (T k).2.1 (T k).2.2.1 ∈ tb) (hfin : (T k).2.2.2 = false) (B : Bx D A H0 ws H locs) (q0 : Nat) (ws' : va_W) {fs : List Value} (he : ws[q0]? = some (a, .inr (ci, fs))) {v : Value} (hn : narrow (ty0 k) v = v) (hfit : fits (ty0 k) v = true) (hlen : k < fs.length) (hw : ws.set q0 (a, .inr (ci, fs.set k v)) = ws') (d : decode cc pc = .ok (.putfield idx, 3)) (kk : ∀ (H : Heap) (locs : List Loc), Bx D A H0 ws' H locs → W p l e R s m args below meth c H locs cells slots Q (F0 m (pc + 3) ls rest)) : W p l e R s m args below meth c H locs cells slots Q (F0 m pc ls (v :: .ref a :: rest)) :=
  va_put F.1.1 F.1.2.1 F.1.2.2.2.2 hin ty0 hty hnm F.1.2.2.2.1 F.2.1 B.1 B.2.1 B.2.2 q0 he hc k hk (F.1.2.2.2.2 _ hl) (fun _ h => h) hfin (hty k hk) hn hfit hlen d (fun H1 locs1 hP hD hS => by
    rw [hw] at hP hD
    exact kk H1 locs1 ⟨hP, hD, hS⟩)
theorem r_pfN {C host : String} {T : u_T} {N ci idx a : Nat} {ty0 : Nat → FieldType} (F : Fx p m c cc nL s args own D cI cB) (hin : ∀ w ∈ u_ws C T N, w ∈ tb) (hc : vwCl[ci]? = some (C, T, N)) (hty : ∀ k, k < N → parseFieldDescriptor (T k).2.2.1 = some (ty0 k)) (hnm : ∀ a, a < N → ∀ b, b < N → a ≠ b → (T a).2.1 ≠ (T b).2.1) (k : Nat) (hk : k < N) (hl : Cond.fieldLinkNest own idx (T k).1 (T k).2.1 (T k).2.2.1 host ∈ nst) (hfin : (T k).2.2.2 = false) (B : Bx D A H0 ws H locs) (q0 : Nat) (ws' : va_W) {fs : List Value} (he : ws[q0]? = some (a, .inr (ci, fs))) {v : Value} (hn : narrow (ty0 k) v = v) (hfit : fits (ty0 k) v = true) (hlen : k < fs.length) (hw : ws.set q0 (a, .inr (ci, fs.set k v)) = ws') (d : decode cc pc = .ok (.putfield idx, 3)) (kk : ∀ (H : Heap) (locs : List Loc), Bx D A H0 ws' H locs → W p l e R s m args below meth c H locs cells slots Q (F0 m (pc + 3) ls rest)) : W p l e R s m args below meth c H locs cells slots Q (F0 m pc ls (v :: .ref a :: rest)) :=
  va_putN F.1.1 F.1.2.1 F.1.2.2.2.2 hin ty0 hty hnm F.1.2.2.2.1 F.2.1 B.1 B.2.1 B.2.2 q0 he hc k hk (va_Nw.use rfl (F.2.2 _ hl)) (fun _ h => h) hfin (hty k hk) hn hfit hlen d (fun H1 locs1 hP hD hS => by
    rw [hw] at hP hD
    exact kk H1 locs1 ⟨hP, hD, hS⟩)

theorem fm_some : ∀ (is : List Nat) (ws wc : va_W), is.map (fun i => ws[i]?) = wc.map some → is.filterMap (fun i => ws[i]?) = wc
  | [], _, [], _ => rfl
  | [], _, _ :: _, h => by simp at h
  | _ :: _, _, [], h => by simp at h
  | i :: is, ws, x :: wc, h => by
    simp only [List.map_cons, List.cons.injEq] at h
    rw [List.filterMap_cons, h.1]
    simp only
    rw [fm_some is ws wc h.2]
theorem blindQ {av : List Value} {wc : va_W} : FrameBlind (va_Pc av (fun U => va_P D vwCl wc U.heap ∧ KK D cI cB U)) := fun a U g mk q => by
  obtain ⟨q0, qP, qK⟩ := q
  exact ⟨q0, qP, qK.call⟩
theorem blindU {av : List Value} {wc : va_W} {sz : Nat} : FrameBlind (va_Pc av (fun U => U.heap.size = sz ∧ va_P D vwCl wc U.heap ∧ KK D cI cB U ∧ va_D (fun _ => True) wc)) := fun a U g mk q => by
  obtain ⟨q0, q1, qP, qK, qD⟩ := q
  exact ⟨q0, q1, qP, qK.call, qD⟩
abbrev Rm (R rm : Room) (maxL : Nat) : Prop := (rm.cells = 0 ∧ rm.slots = 0) ∧ rm.frames + 1 ≤ R.frames ∧ 8 + (maxL + 11) + rm.locals ≤ R.locals
/-- a call of a question, of an instance -/
theorem r_cq {y : MethodName} {bytes : ByteArray} {maxL n idx ci a : Nat} {ret : Option FieldType} {rm : Room} {C : String} {T : u_T} {N : Nat} {fs : List Value} {As st0 : List Value} {wc : va_W} {r : Int32} (F : Fx p m c cc nL s args own D cI cB) (P : va_P D vwCl ws H) (hq : CtQ l y bytes maxL ret rm D cI cB (.ref a :: As) wc r) (gw : VW own idx C y bytes maxL ret n) (is : List Nat) (his : is.map (fun i => ws[i]?) = wc.map some) (hrv : wc[0]? = some (a, .inr (ci, fs))) (hci : vwCl[ci]? = some (C, T, N)) (hR : Rm R rm maxL) (hcs : cells ≤ R.cells ∧ slots ≤ R.slots) (hl : ls.size = nL) (hn : As.length = n) (rest : List Value) (hst : st0 = As.reverse ++ .ref a :: rest) (h8 : (rest.map fun v => v.category).sum ≤ 8) (d : decode cc pc = .ok (.invokevirtual idx, 3)) (kk : W p l e R s m args below meth c H locs cells slots Q (F0 m (pc + 3) ls (.int r :: rest))) : W p l e R s m args below meth c H locs cells slots Q (F0 m pc ls st0) := by
  have hPc := va_P.sub P is (fm_some is ws wc his)
  refine vp_callSi (W.runV (As := As) (rest := rest) F.1 hq (cwV n F.1.2.2.2.2 gw.1 rfl hR.1.1 hR.1.2 gw.2 hR.2) ⟨blindQ, va_recv F.2.1 hPc hci hrv, fun U hU hW => ⟨rfl, by rw [hU]; exact hPc, F.2.warm hW⟩⟩ rfl hn hl hst (lv_room h8) d ⟨hcs.1, hcs.2⟩) (fun x hx => ?_)
  subst hx
  exact kk
/-- a call of a question, static, of the own class -/
theorem r_sq {y : MethodName} {bytes : ByteArray} {maxL n idx : Nat} {ret : Option FieldType} {rm : Room} {As st0 : List Value} {wc : va_W} {r : Int32} (F : Fx p m c cc nL s args own D cI cB) (P : va_P D vwCl ws H) (hq : CtQ l y bytes maxL ret rm D cI cB As wc r) (gw : SW own idx y bytes maxL ret n) (is : List Nat) (his : is.map (fun i => ws[i]?) = wc.map some) (hR : Rm R rm maxL) (hcs : cells ≤ R.cells ∧ slots ≤ R.slots) (hl : ls.size = nL) (hn : As.length = n) (rest : List Value) (hst : st0 = As.reverse ++ rest) (h8 : (rest.map fun v => v.category).sum ≤ 8) (d : decode cc pc = .ok (.invokestatic idx, 3)) (kk : W p l e R s m args below meth c H locs cells slots Q (F0 m (pc + 3) ls (.int r :: rest))) : W p l e R s m args below meth c H locs cells slots Q (F0 m pc ls st0) := by
  have hPc := va_P.sub P is (fm_some is ws wc his)
  refine vp_callSi (W.runS (As := As) (rest := rest) F.1 hq (cwS n F.1.2.2.2.2 gw.1 rfl hR.1.1 hR.1.2 gw.2 hR.2) ⟨blindQ, fun U hU hW => ⟨rfl, by rw [hU]; exact hPc, F.2.warm hW⟩⟩ rfl hn hl hst (lv_room h8) d ⟨hcs.1, hcs.2⟩) (fun x hx => ?_)
  subst hx
  exact kk

end Rows
end
section
theorem range_some (l : va_W) : (List.range l.length).map (fun i => l[i]?) = l.map some := by
  apply List.ext_getElem?
  intro i
  by_cases h : i < l.length
  · simp [h]
  · simp [h]
section Rows2
variable {p : Program} {l : Launch} {e : Env} {R : Room} {s : State} {m : MethodId} {args : Array Value} {below : List Frame} {meth : Method} {c : Code} {H : Heap} {locs : List Loc} {cells slots : Nat} {Q : State → Prop}
variable {cc : ByteArray} {nL : Nat} {own : String} {pc : Nat} {ls : Array Slot} {rest : List Value} {D : va_G} {cI cB : ClassId} {A : Nat → Prop} {ws : va_W} {H0 : Heap}

/-- a call of a deed that has a part of the world -/
theorem r_cu {y : MethodName} {bytes : ByteArray} {maxL n idx ci a : Nat} {ret : Option FieldType} {rm : Room} {C : String} {T : u_T} {N : Nat} {fs : List Value} {As st0 : List Value} {wc wc' : va_W} {r : Int32} (F : Fx p m c cc nL s args own D cI cB) (hA : ∀ q, H0.size ≤ q → A q) (B : Bx D A H0 ws H locs) (hq : CtU l y bytes maxL ret rm D cI cB (.ref a :: As) wc wc' r) (gw : VW own idx C y bytes maxL ret n) (isC : List Nat) (hC : isC.map (fun i => ws[i]?) = wc.map some) (hnC : va_nd isC = true) (isR : List Nat) (wr : va_W) (hWr : isR.map (fun i => ws[i]?) = wr.map some) (hnd : va_nd isR = true) (hdis : ∀ i ∈ isR, i ∉ isC) (ps : List Nat) (ws' : va_W) (hps : ps.map (fun i => (wr ++ wc')[i]?) = ws'.map some) (hnp : va_nd ps = true) (hrv : wc[0]? = some (a, .inr (ci, fs))) (hci : vwCl[ci]? = some (C, T, N)) (hR : Rm R rm maxL) (hcs : cells ≤ R.cells ∧ slots ≤ R.slots) (hl : ls.size = nL) (hn : As.length = n) (rest : List Value) (hst : st0 = As.reverse ++ .ref a :: rest) (h8 : (rest.map fun v => v.category).sum ≤ 8) (d : decode cc pc = .ok (.invokevirtual idx, 3)) (kk : ∀ (H : Heap) (locs : List Loc), Bx D A H0 ws' H locs → W p l e R s m args below meth c H locs cells slots Q (F0 m (pc + 3) ls (.int r :: rest))) : W p l e R s m args below meth c H locs cells slots Q (F0 m pc ls st0) := by
  have hPc := va_P.sub B.1 isC (fm_some isC ws wc hC)
  have hDc : va_D (fun _ => True) wc := (va_D.sub B.2.1 isC hnC hC).weaken (fun _ _ _ _ => trivial)
  have hFc := va_free (wc := wc) B.2.1 B.2.2 hA isC hC
  refine va_calli (va_runV (As := As) (rest := rest) F.1 (hq H.size) (cwV n F.1.2.2.2.2 gw.1 rfl hR.1.1 hR.1.2 gw.2 hR.2) ⟨blindU, va_recv F.2.1 hPc hci hrv, fun U hU hW => ⟨rfl, by rw [hU], by rw [hU]; exact hPc, F.2.warm hW, hDc⟩⟩ rfl hn hl hst (lv_room h8) d ⟨hcs.1, hcs.2⟩) B.2.2 (fun q _ h => hFc q h) hFc (fun x u t H1 locs1 ht hvm hx hB hz1 hk1 hS => ?_)
  subst hx
  obtain ⟨hP1, hD1⟩ := hB
  rw [ht] at hP1
  obtain ⟨hP', hD'⟩ := va_join (wr := wr) (w1 := wc') B.1 B.2.1 isC isR hC hWr hnd hdis hk1 hFc hP1 hD1
  exact kk H1 locs1 ⟨va_P.sub hP' ps (fm_some ps _ ws' hps), va_D.sub hD' ps hnp hps, hS⟩
/-- a call of a deed that has the whole world -/
theorem r_cuW {y : MethodName} {bytes : ByteArray} {maxL n idx ci a : Nat} {ret : Option FieldType} {rm : Room} {C : String} {T : u_T} {N : Nat} {fs : List Value} {As st0 : List Value} {wc wc' : va_W} {r : Int32} (F : Fx p m c cc nL s args own D cI cB) (hA : ∀ q, H0.size ≤ q → A q) (B : Bx D A H0 wc H locs) (hq : CtU l y bytes maxL ret rm D cI cB (.ref a :: As) wc wc' r) (gw : VW own idx C y bytes maxL ret n) (hrv : wc[0]? = some (a, .inr (ci, fs))) (hci : vwCl[ci]? = some (C, T, N)) (hR : Rm R rm maxL) (hcs : cells ≤ R.cells ∧ slots ≤ R.slots) (hl : ls.size = nL) (hn : As.length = n) (rest : List Value) (hst : st0 = As.reverse ++ .ref a :: rest) (h8 : (rest.map fun v => v.category).sum ≤ 8) (d : decode cc pc = .ok (.invokevirtual idx, 3)) (kk : ∀ (H : Heap) (locs : List Loc), Bx D A H0 wc' H locs → W p l e R s m args below meth c H locs cells slots Q (F0 m (pc + 3) ls (.int r :: rest))) : W p l e R s m args below meth c H locs cells slots Q (F0 m pc ls st0) := by
  have hDc : va_D (fun _ => True) wc := B.2.1.weaken (fun _ _ _ _ => trivial)
  have hFc : ∀ q, va_A wc H.size q → A q := fun q h => by
    rcases h with ⟨k, e', h⟩ | h
    · exact B.2.1.2 k _ h
    · exact hA q (Nat.le_trans B.2.2.1 h)
  refine va_calli (va_runV (As := As) (rest := rest) F.1 (hq H.size) (cwV n F.1.2.2.2.2 gw.1 rfl hR.1.1 hR.1.2 gw.2 hR.2) ⟨blindU, va_recv F.2.1 B.1 hci hrv, fun U hU hW => ⟨rfl, by rw [hU], by rw [hU]; exact B.1, F.2.warm hW, hDc⟩⟩ rfl hn hl hst (lv_room h8) d ⟨hcs.1, hcs.2⟩) B.2.2 (fun q _ h => hFc q h) hFc (fun x u t H1 locs1 ht hvm hx hB hz1 hk1 hS => ?_)
  subst hx
  obtain ⟨hP1, hD1⟩ := hB
  rw [ht] at hP1
  exact kk H1 locs1 ⟨hP1, hD1.weaken (fun k q _ h => hFc q.1 h), hS⟩
/-- a call of a deed that has a part of the world -/
theorem r_cv {y : MethodName} {bytes : ByteArray} {maxL n idx ci a : Nat} {rm : Room} {C : String} {T : u_T} {N : Nat} {fs : List Value} {As st0 : List Value} {wc wc' : va_W}  (F : Fx p m c cc nL s args own D cI cB) (hA : ∀ q, H0.size ≤ q → A q) (B : Bx D A H0 ws H locs) (hq : CtV l y bytes maxL rm D cI cB (.ref a :: As) wc wc') (gw : VW own idx C y bytes maxL none n) (isC : List Nat) (hC : isC.map (fun i => ws[i]?) = wc.map some) (hnC : va_nd isC = true) (isR : List Nat) (wr : va_W) (hWr : isR.map (fun i => ws[i]?) = wr.map some) (hnd : va_nd isR = true) (hdis : ∀ i ∈ isR, i ∉ isC) (ps : List Nat) (ws' : va_W) (hps : ps.map (fun i => (wr ++ wc')[i]?) = ws'.map some) (hnp : va_nd ps = true) (hrv : wc[0]? = some (a, .inr (ci, fs))) (hci : vwCl[ci]? = some (C, T, N)) (hR : Rm R rm maxL) (hcs : cells ≤ R.cells ∧ slots ≤ R.slots) (hl : ls.size = nL) (hn : As.length = n) (rest : List Value) (hst : st0 = As.reverse ++ .ref a :: rest) (h8 : (rest.map fun v => v.category).sum ≤ 8) (d : decode cc pc = .ok (.invokevirtual idx, 3)) (kk : ∀ (H : Heap) (locs : List Loc), Bx D A H0 ws' H locs → W p l e R s m args below meth c H locs cells slots Q (F0 m (pc + 3) ls (rest))) : W p l e R s m args below meth c H locs cells slots Q (F0 m pc ls st0) := by
  have hPc := va_P.sub B.1 isC (fm_some isC ws wc hC)
  have hDc : va_D (fun _ => True) wc := (va_D.sub B.2.1 isC hnC hC).weaken (fun _ _ _ _ => trivial)
  have hFc := va_free (wc := wc) B.2.1 B.2.2 hA isC hC
  refine va_callv (va_runV (As := As) (rest := rest) F.1 (hq H.size) (cwV n F.1.2.2.2.2 gw.1 rfl hR.1.1 hR.1.2 gw.2 hR.2) ⟨blindU, va_recv F.2.1 hPc hci hrv, fun U hU hW => ⟨rfl, by rw [hU], by rw [hU]; exact hPc, F.2.warm hW, hDc⟩⟩ rfl hn hl hst (lv_room h8) d ⟨hcs.1, hcs.2⟩) B.2.2 (fun q _ h => hFc q h) hFc (fun u t H1 locs1 ht hvm hx hB hz1 hk1 hS => ?_)
  obtain ⟨hP1, hD1⟩ := hB
  rw [ht] at hP1
  obtain ⟨hP', hD'⟩ := va_join (wr := wr) (w1 := wc') B.1 B.2.1 isC isR hC hWr hnd hdis hk1 hFc hP1 hD1
  exact kk H1 locs1 ⟨va_P.sub hP' ps (fm_some ps _ ws' hps), va_D.sub hD' ps hnp hps, hS⟩
/-- a call of a deed that has the whole world -/
theorem r_cvW {y : MethodName} {bytes : ByteArray} {maxL n idx ci a : Nat} {rm : Room} {C : String} {T : u_T} {N : Nat} {fs : List Value} {As st0 : List Value} {wc wc' : va_W}  (F : Fx p m c cc nL s args own D cI cB) (hA : ∀ q, H0.size ≤ q → A q) (B : Bx D A H0 wc H locs) (hq : CtV l y bytes maxL rm D cI cB (.ref a :: As) wc wc') (gw : VW own idx C y bytes maxL none n) (hrv : wc[0]? = some (a, .inr (ci, fs))) (hci : vwCl[ci]? = some (C, T, N)) (hR : Rm R rm maxL) (hcs : cells ≤ R.cells ∧ slots ≤ R.slots) (hl : ls.size = nL) (hn : As.length = n) (rest : List Value) (hst : st0 = As.reverse ++ .ref a :: rest) (h8 : (rest.map fun v => v.category).sum ≤ 8) (d : decode cc pc = .ok (.invokevirtual idx, 3)) (kk : ∀ (H : Heap) (locs : List Loc), Bx D A H0 wc' H locs → W p l e R s m args below meth c H locs cells slots Q (F0 m (pc + 3) ls (rest))) : W p l e R s m args below meth c H locs cells slots Q (F0 m pc ls st0) := by
  have hDc : va_D (fun _ => True) wc := B.2.1.weaken (fun _ _ _ _ => trivial)
  have hFc : ∀ q, va_A wc H.size q → A q := fun q h => by
    rcases h with ⟨k, e', h⟩ | h
    · exact B.2.1.2 k _ h
    · exact hA q (Nat.le_trans B.2.2.1 h)
  refine va_callv (va_runV (As := As) (rest := rest) F.1 (hq H.size) (cwV n F.1.2.2.2.2 gw.1 rfl hR.1.1 hR.1.2 gw.2 hR.2) ⟨blindU, va_recv F.2.1 B.1 hci hrv, fun U hU hW => ⟨rfl, by rw [hU], by rw [hU]; exact B.1, F.2.warm hW, hDc⟩⟩ rfl hn hl hst (lv_room h8) d ⟨hcs.1, hcs.2⟩) B.2.2 (fun q _ h => hFc q h) hFc (fun u t H1 locs1 ht hvm hx hB hz1 hk1 hS => ?_)
  obtain ⟨hP1, hD1⟩ := hB
  rw [ht] at hP1
  exact kk H1 locs1 ⟨hP1, hD1.weaken (fun k q _ h => hFc q.1 h), hS⟩
/-- the words of a call of a static method of a nest mate -/
def NW (own : String) (idx : Nat) (y : MethodName) (host : String) (bytes : ByteArray) (maxL : Nat) (ret : Option FieldType) (n : Nat) : Prop :=
  Cond.methodLinkNest own idx y host ∈ nst ∧ Cond.static y ∈ tb ∧ Cond.initialized y.cls ∈ tb ∧ Cond.code y bytes maxL ret ∈ tb ∧ (y.cls ≠ "java/lang/invoke/MethodHandle" ∧ y.cls ≠ "java/lang/invoke/VarHandle" ∧ (parseMethodDescriptor y.desc).map (fun d => d.parameters.length) = some n)
theorem r_sqN {y : MethodName} {host : String} {bytes : ByteArray} {maxL n idx : Nat} {ret : Option FieldType} {rm : Room} {As st0 : List Value} {wc : va_W} {r : Int32} (F : Fx p m c cc nL s args own D cI cB) (P : va_P D vwCl ws H) (hq : CtQ l y bytes maxL ret rm D cI cB As wc r) (gw : NW own idx y host bytes maxL ret n) (is : List Nat) (his : is.map (fun i => ws[i]?) = wc.map some) (hR : Rm R rm maxL) (hcs : cells ≤ R.cells ∧ slots ≤ R.slots) (hl : ls.size = nL) (hn : As.length = n) (rest : List Value) (hst : st0 = As.reverse ++ rest) (h8 : (rest.map fun v => v.category).sum ≤ 8) (d : decode cc pc = .ok (.invokestatic idx, 3)) (kk : W p l e R s m args below meth c H locs cells slots Q (F0 m (pc + 3) ls (.int r :: rest))) : W p l e R s m args below meth c H locs cells slots Q (F0 m pc ls st0) := by
  have hPc := va_P.sub P is (fm_some is ws wc his)
  obtain ⟨g1, g2, g3, g4, g5⟩ := gw
  refine vp_callSi (va_Run.run (va_runSN (As := As) (rest := rest) F.1 hq ⟨va_cnB n F.1.2.2.2.2 (tb_cons g4) rfl hR.1.1 hR.1.2 (F.2.2 _ g1) (F.1.2.2.2.2 _ g3) g5 hR.2, F.1.2.2.2.2 _ g2, trivial⟩ ⟨blindQ, fun U hU hW => ⟨rfl, by rw [hU]; exact hPc, F.2.warm hW⟩⟩ rfl hn hl hst (lv_room h8) d ⟨hcs.1, hcs.2⟩)) (fun x hx => ?_)
  subst hx
  exact kk
theorem w_max : Cond.static Lib.Math.max.name ∈ tb ∧ Cond.initialized "java/lang/Math" ∈ tb ∧ Cond.code Lib.Math.max.name Lib.Math.max.code 2 (some .int) ∈ tb := ⟨tb_of (by decide +kernel) rfl, tb_of (by decide +kernel) rfl, tb_of (by decide +kernel) rfl⟩
theorem w_min : Cond.static Lib.Math.min.name ∈ tb ∧ Cond.initialized "java/lang/Math" ∈ tb ∧ Cond.code Lib.Math.min.name Lib.Math.min.code 2 (some .int) ∈ tb := ⟨tb_of (by decide +kernel) rfl, tb_of (by decide +kernel) rfl, tb_of (by decide +kernel) rfl⟩
theorem r_max {a b : Int} {idx : Nat} (F : Fx p m c cc nL s args own D cI cB) (hm : Cond.methodLink own idx Lib.Math.max.name ∈ tb) (hl : ls.size = nL) (h1 : 1 ≤ R.frames) (h2 : (rest.map fun v => v.category).sum + 13 ≤ R.locals) (hcs : cells ≤ R.cells ∧ slots ≤ R.slots) (hr : (-2147483648 ≤ a ∧ a < 2147483648) ∧ -2147483648 ≤ b ∧ b < 2147483648) (d : decode cc pc = .ok (.invokestatic idx, 3)) (kk : W p l e R s m args below meth c H locs cells slots Q (F0 m (pc + 3) ls (.int (iI (max a b)) :: rest))) : W p l e R s m args below meth c H locs cells slots Q (F0 m pc ls (.int (iI b) :: .int (iI a) :: rest)) := by
  refine va_mmax F.1.1 F.1.2.1 (F.1.2.2.1.trans hl.symm) F.1.2.2.2.1 (F.1.2.2.2.2 _ hm) (F.1.2.2.2.2 _ w_max.1) (F.1.2.2.2.2 _ w_max.2.1) (F.1.2.2.2.2 _ w_max.2.2) h1 h2 hcs.1 hcs.2 d ?_
  have e : (if iI a < iI b then iI b else iI a) = iI (max a b) := by
    by_cases h : a < b
    · rw [if_pos ((iI_lt hr.1 hr.2).mpr h), Int.max_eq_right (by omega)]
    · rw [if_neg (fun z => h ((iI_lt hr.1 hr.2).mp z)), Int.max_eq_left (by omega)]
  rw [e]
  exact kk
theorem r_min {a b : Int} {idx : Nat} (F : Fx p m c cc nL s args own D cI cB) (hm : Cond.methodLink own idx Lib.Math.min.name ∈ tb) (hl : ls.size = nL) (h1 : 1 ≤ R.frames) (h2 : (rest.map fun v => v.category).sum + 13 ≤ R.locals) (hcs : cells ≤ R.cells ∧ slots ≤ R.slots) (hr : (-2147483648 ≤ a ∧ a < 2147483648) ∧ -2147483648 ≤ b ∧ b < 2147483648) (d : decode cc pc = .ok (.invokestatic idx, 3)) (kk : W p l e R s m args below meth c H locs cells slots Q (F0 m (pc + 3) ls (.int (iI (min a b)) :: rest))) : W p l e R s m args below meth c H locs cells slots Q (F0 m pc ls (.int (iI b) :: .int (iI a) :: rest)) := by
  refine va_mmin F.1.1 F.1.2.1 (F.1.2.2.1.trans hl.symm) F.1.2.2.2.1 (F.1.2.2.2.2 _ hm) (F.1.2.2.2.2 _ w_min.1) (F.1.2.2.2.2 _ w_min.2.1) (F.1.2.2.2.2 _ w_min.2.2) h1 h2 hcs.1 hcs.2 d ?_
  have e : (if iI b < iI a then iI b else iI a) = iI (min a b) := by
    by_cases h : b < a
    · rw [if_pos ((iI_lt hr.2 hr.1).mpr h), Int.min_eq_right (by omega)]
    · rw [if_neg (fun z => h ((iI_lt hr.2 hr.1).mp z)), Int.min_eq_left (by omega)]
  first | (rw [e]; exact kk) | (rw [← e] at kk; first | exact kk | (simpa using kk))
def cpN (f g : Nat → Nat) (n : Nat) : Nat → Nat := fun k => if k < n then f k else g k
theorem cpy_aI (f g : Nat → Nat) (n : Nat) : va_cpy (fun j => iI (f j : Int)) (fun j => iI (g j : Int)) 0 0 n = fun j => iI (cpN f g n j : Int) := by
  funext j
  unfold va_cpy cpN
  by_cases h : j < n
  · simp [h]
  · simp [h]
theorem w_cpy : Cond.native arraycopyName ∈ tb ∧ Cond.static arraycopyName ∈ tb ∧ Cond.initialized "java/lang/System" ∈ tb := ⟨tb_of (by decide +kernel) rfl, tb_of (by decide +kernel) rfl, tb_of (by decide +kernel) rfl⟩
theorem r_cpy {a0 a1 n0 n1 n idx : Nat} {f g : Nat → Nat} (F : Fx p m c cc nL s args own D cI cB) (hm : Cond.methodLink own idx arraycopyName ∈ tb) (hl : ls.size = nL) (h1 : 1 ≤ R.frames) (h2 : (rest.map fun v => v.category).sum + (nativeFrameWords "java/lang/System" "arraycopy" 5 + 11) ≤ R.locals) (B : Bx D A H0 ws H locs) (q0 q1 : Nat) (ws' : va_W) (ha0 : ws[q0]? = some (a0, aI cI n0 f)) (ha1 : ws[q1]? = some (a1, aI cI n1 g)) (hn0 : n ≤ n0) (hn1 : n ≤ n1) (hn : n < 2147483648) (hw : ws.set q1 (a1, aI cI n1 (cpN f g n)) = ws') (d : decode cc pc = .ok (.invokestatic idx, 3)) (kk : ∀ (H : Heap) (locs : List Loc), Bx D A H0 ws' H locs → W p l e R s m args below meth c H locs cells slots Q (F0 m (pc + 3) ls rest)) : W p l e R s m args below meth c H locs cells slots Q (F0 m pc ls (.int (iI (n : Int)) :: .int (iI ((0 : Nat) : Int)) :: .ref a1 :: .int (iI ((0 : Nat) : Int)) :: .ref a0 :: rest)) := by
  have z0 : (iI ((0 : Nat) : Int)).toNatClampNeg = 0 := by decide
  have zn : (iI (n : Int)).toNatClampNeg = n := iI_clamp hn
  have p0 : ¬ iI ((0 : Nat) : Int) < 0 := by decide
  have pn : ¬ iI (n : Int) < 0 := by rw [← iI_0, iI_lt (by omega) (by omega)]; omega
  refine va_copyi F.1.1 F.1.2.1 (F.1.2.2.1.trans hl.symm) F.1.2.2.2.1 (F.1.2.2.2.2 _ hm) (F.1.2.2.2.2 _ w_cpy.1) (F.1.2.2.2.2 _ w_cpy.2.1) (F.1.2.2.2.2 _ w_cpy.2.2) F.2.1 B.1 B.2.1 B.2.2 q0 q1 0 0 ha0 ha1 rfl rfl rfl p0 p0 pn (by rw [z0, zn]; omega) (by rw [z0, zn]; omega) (fun _ _ => rfl) h1 h2 d (fun H1 locs1 hP hD hS => ?_)
  rw [z0, zn, cpy_aI, hw] at hP hD
  exact kk H1 locs1 ⟨hP, hD, hS⟩
theorem r_tin {z dflt lo hi off : Int} {offs : Array Int} {len : Nat} (tgt : Nat) (F : Fx p m c cc nL s args own D cI cB) (d : decode cc pc = .ok (.tableswitch dflt lo hi offs, len)) (hz : -2147483648 ≤ z ∧ z < 2147483648) (h1 : ¬ z < lo) (h2 : ¬ hi < z) (ho : offs[(z - lo).toNat]? = some off) (ht : (pc : Int) + off = (tgt : Int)) (kk : W p l e R s m args below meth c H locs cells slots Q (F0 m tgt ls rest)) : W p l e R s m args below meth c H locs cells slots Q (F0 m pc ls (.int (iI z) :: rest)) :=
  lv_tableIn F.1.1 F.1.2.1 d (by rw [iI_toInt hz]; exact h1) (by rw [iI_toInt hz]; exact h2) (by rw [iI_toInt hz]; exact ho) ht kk
theorem r_tout {z dflt lo hi : Int} {offs : Array Int} {len : Nat} (tgt : Nat) (F : Fx p m c cc nL s args own D cI cB) (d : decode cc pc = .ok (.tableswitch dflt lo hi offs, len)) (hz : -2147483648 ≤ z ∧ z < 2147483648) (h : z < lo ∨ hi < z) (ht : (pc : Int) + dflt = (tgt : Int)) (kk : W p l e R s m args below meth c H locs cells slots Q (F0 m tgt ls rest)) : W p l e R s m args below meth c H locs cells slots Q (F0 m pc ls (.int (iI z) :: rest)) :=
  lv_tableOut F.1.1 F.1.2.1 d (by rw [iI_toInt hz]; exact h) ht kk
end Rows2
end
section
theorem uX0 : ∀ w ∈ u_ws RX0 TX0 4, w ∈ tb := uwsX inX0 (by decide +kernel)
theorem uX1 : ∀ w ∈ u_ws RX1 TX1 3, w ∈ tb := uwsX inX1 (by decide +kernel)
theorem uX2 : ∀ w ∈ u_ws RX2 TX2 14, w ∈ tb := uwsX inX2 (by decide +kernel)
theorem uX3 : ∀ w ∈ u_ws RX3 TX3 12, w ∈ tb := uwsX inX3 (by decide +kernel)
theorem uX4 : ∀ w ∈ u_ws RX4 TX4 14, w ∈ tb := uwsX inX4 (by decide +kernel)
theorem ki_L : Cond.initialized RL ∈ tb := tb_i 41 (by decide +kernel) rfl
theorem ki_X3 : Cond.initialized RX3 ∈ tb := tb_i 42 (by decide +kernel) rfl
theorem ki_X0 : Cond.initialized RX0 ∈ tb := tb_i 43 (by decide +kernel) rfl
theorem ki_X2 : Cond.initialized RX2 ∈ tb := tb_i 44 (by decide +kernel) rfl
theorem ki_X1 : Cond.initialized RX1 ∈ tb := tb_i 45 (by decide +kernel) rfl
theorem ki_J10 : Cond.initialized "java/lang/System" ∈ tb := tb_i 46 (by decide +kernel) rfl
theorem ki_X4 : Cond.initialized RX4 ∈ tb := tb_i 47 (by decide +kernel) rfl
theorem ki_J9 : Cond.initialized "java/lang/Math" ∈ tb := tb_i 48 (by decide +kernel) rfl
theorem ki_J6 : Cond.initialized "java/lang/Integer" ∈ tb := tb_i 49 (by decide +kernel) rfl
theorem kn_X3_init : Cond.instanceMethod yX3_init ∈ tb := tb_i 53 (by decide +kernel) rfl
theorem kc_X3_init : Cond.code yX3_init cX3_init 1 none ∈ tb := tb_i 54 (by decide +kernel) rfl
theorem km_L_9 : Cond.methodLink RL 9 yX3_init ∈ tb := tb_i 52 (by decide +kernel) rfl
theorem kn_X2_init : Cond.instanceMethod yX2_init ∈ tb := tb_i 83 (by decide +kernel) rfl
theorem kc_X2_init : Cond.code yX2_init cX2_init 1 none ∈ tb := tb_i 84 (by decide +kernel) rfl
theorem km_X3_18 : Cond.methodLink RX3 18 yX2_init ∈ tb := tb_i 82 (by decide +kernel) rfl
theorem kn_X2_empty : Cond.instanceMethod yX2_empty ∈ tb := tb_i 87 (by decide +kernel) rfl
theorem ks_X2_empty : Cond.selects RX2 yX2_empty yX2_empty ∈ tb := tb_i 88 (by decide +kernel) rfl
theorem kc_X2_empty : Cond.code yX2_empty cX2_empty 1 none ∈ tb := tb_i 89 (by decide +kernel) rfl
theorem gw_X2_27 : VW RX2 27 RX2 yX2_empty cX2_empty 1 none 0 := VW.mk (tb_i 86 (by decide +kernel) rfl) kn_X2_empty ks_X2_empty ki_X2 kc_X2_empty (by decide +kernel)
theorem kn_X2_addPerson : Cond.instanceMethod yX2_addPerson ∈ tb := tb_i 162 (by decide +kernel) rfl
theorem ks_X2_addPerson : Cond.selects RX2 yX2_addPerson yX2_addPerson ∈ tb := tb_i 163 (by decide +kernel) rfl
theorem kc_X2_addPerson : Cond.code yX2_addPerson cX2_addPerson 3 (some .boolean) ∈ tb := tb_i 164 (by decide +kernel) rfl
theorem gw_X3_52 : VW RX3 52 RX2 yX2_addPerson cX2_addPerson 3 (some .boolean) 2 := VW.mk (tb_i 161 (by decide +kernel) rfl) kn_X2_addPerson ks_X2_addPerson ki_X2 kc_X2_addPerson (by decide +kernel)
theorem kn_X2_addStep : Cond.instanceMethod yX2_addStep ∈ tb := tb_i 166 (by decide +kernel) rfl
theorem ks_X2_addStep : Cond.selects RX2 yX2_addStep yX2_addStep ∈ tb := tb_i 167 (by decide +kernel) rfl
theorem kc_X2_addStep : Cond.code yX2_addStep cX2_addStep 2 (some .boolean) ∈ tb := tb_i 168 (by decide +kernel) rfl
theorem gw_X3_56 : VW RX3 56 RX2 yX2_addStep cX2_addStep 2 (some .boolean) 1 := VW.mk (tb_i 165 (by decide +kernel) rfl) kn_X2_addStep ks_X2_addStep ki_X2 kc_X2_addStep (by decide +kernel)
theorem kn_X2_endTrade : Cond.instanceMethod yX2_endTrade ∈ tb := tb_i 170 (by decide +kernel) rfl
theorem ks_X2_endTrade : Cond.selects RX2 yX2_endTrade yX2_endTrade ∈ tb := tb_i 171 (by decide +kernel) rfl
theorem kc_X2_endTrade : Cond.code yX2_endTrade cX2_endTrade 1 (some .boolean) ∈ tb := tb_i 172 (by decide +kernel) rfl
theorem gw_X3_60 : VW RX3 60 RX2 yX2_endTrade cX2_endTrade 1 (some .boolean) 0 := VW.mk (tb_i 169 (by decide +kernel) rfl) kn_X2_endTrade ks_X2_endTrade ki_X2 kc_X2_endTrade (by decide +kernel)
theorem kn_X1_startFrom : Cond.instanceMethod yX1_startFrom ∈ tb := tb_i 174 (by decide +kernel) rfl
theorem ks_X1_startFrom : Cond.selects RX1 yX1_startFrom yX1_startFrom ∈ tb := tb_i 175 (by decide +kernel) rfl
theorem kc_X1_startFrom : Cond.code yX1_startFrom cX1_startFrom 3 none ∈ tb := tb_i 176 (by decide +kernel) rfl
theorem gw_X3_64 : VW RX3 64 RX1 yX1_startFrom cX1_startFrom 3 none 1 := VW.mk (tb_i 173 (by decide +kernel) rfl) kn_X1_startFrom ks_X1_startFrom ki_X1 kc_X1_startFrom (by decide +kernel)
theorem km_X1_27 : Cond.methodLink RX1 27 arraycopyName ∈ tb := tb_i 177 (by decide +kernel) rfl
theorem kn_X3_write : Cond.instanceMethod yX3_write ∈ tb := tb_i 218 (by decide +kernel) rfl
theorem ks_X3_write : Cond.selects RX3 yX3_write yX3_write ∈ tb := tb_i 219 (by decide +kernel) rfl
theorem kc_X3_write : Cond.code yX3_write cX3_write 5 (some .int) ∈ tb := tb_i 220 (by decide +kernel) rfl
theorem gw_L_15 : VW RL 15 RX3 yX3_write cX3_write 5 (some .int) 2 := VW.mk (tb_i 217 (by decide +kernel) rfl) kn_X3_write ks_X3_write ki_X3 kc_X3_write (by decide +kernel)
theorem kn_X0_append : Cond.instanceMethod yX0_append ∈ tb := tb_i 222 (by decide +kernel) rfl
theorem ks_X0_append : Cond.selects RX0 yX0_append yX0_append ∈ tb := tb_i 223 (by decide +kernel) rfl
theorem kc_X0_append : Cond.code yX0_append cX0_append 2 none ∈ tb := tb_i 224 (by decide +kernel) rfl
theorem gw_X3_72 : VW RX3 72 RX0 yX0_append cX0_append 2 none 1 := VW.mk (tb_i 221 (by decide +kernel) rfl) kn_X0_append ks_X0_append ki_X0 kc_X0_append (by decide +kernel)
theorem kn_X3_wipe : Cond.instanceMethod yX3_wipe ∈ tb := tb_i 226 (by decide +kernel) rfl
theorem ks_X3_wipe : Cond.selects RX3 yX3_wipe yX3_wipe ∈ tb := tb_i 227 (by decide +kernel) rfl
theorem kc_X3_wipe : Cond.code yX3_wipe cX3_wipe 2 (some .int) ∈ tb := tb_i 228 (by decide +kernel) rfl
theorem gw_L_20 : VW RL 20 RX3 yX3_wipe cX3_wipe 2 (some .int) 0 := VW.mk (tb_i 225 (by decide +kernel) rfl) kn_X3_wipe ks_X3_wipe ki_X3 kc_X3_wipe (by decide +kernel)
theorem kn_X3_fault : Cond.instanceMethod yX3_fault ∈ tb := tb_i 230 (by decide +kernel) rfl
theorem ks_X3_fault : Cond.selects RX3 yX3_fault yX3_fault ∈ tb := tb_i 231 (by decide +kernel) rfl
theorem kc_X3_fault : Cond.code yX3_fault cX3_fault 1 (some .int) ∈ tb := tb_i 232 (by decide +kernel) rfl
theorem gw_L_25 : VW RL 25 RX3 yX3_fault cX3_fault 1 (some .int) 0 := VW.mk (tb_i 229 (by decide +kernel) rfl) kn_X3_fault ks_X3_fault ki_X3 kc_X3_fault (by decide +kernel)
theorem kn_X0_readInto : Cond.instanceMethod yX0_readInto ∈ tb := tb_i 234 (by decide +kernel) rfl
theorem ks_X0_readInto : Cond.selects RX0 yX0_readInto yX0_readInto ∈ tb := tb_i 235 (by decide +kernel) rfl
theorem kc_X0_readInto : Cond.code yX0_readInto cX0_readInto 4 (some .int) ∈ tb := tb_i 236 (by decide +kernel) rfl
theorem gw_X3_76 : VW RX3 76 RX0 yX0_readInto cX0_readInto 4 (some .int) 1 := VW.mk (tb_i 233 (by decide +kernel) rfl) kn_X0_readInto ks_X0_readInto ki_X0 kc_X0_readInto (by decide +kernel)
theorem gw_X0_23 : VW RX0 23 RX2 yX2_empty cX2_empty 1 none 0 := VW.mk (tb_i 237 (by decide +kernel) rfl) kn_X2_empty ks_X2_empty ki_X2 kc_X2_empty (by decide +kernel)
theorem kn_X0_readItem : Cond.instanceMethod yX0_readItem ∈ tb := tb_i 240 (by decide +kernel) rfl
theorem ks_X0_readItem : Cond.selects RX0 yX0_readItem yX0_readItem ∈ tb := tb_i 0 (by decide +kernel) rfl
theorem kc_X0_readItem : Cond.code yX0_readItem cX0_readItem 3 (some .boolean) ∈ tb := tb_i 241 (by decide +kernel) rfl
theorem gw_X0_31 : VW RX0 31 RX0 yX0_readItem cX0_readItem 3 (some .boolean) 1 := VW.mk (tb_i 238 (by decide +kernel) rfl) kn_X0_readItem ks_X0_readItem ki_X0 kc_X0_readItem (by decide +kernel)
theorem kn_X0_next : Cond.instanceMethod yX0_next ∈ tb := tb_i 244 (by decide +kernel) rfl
theorem ks_X0_next : Cond.selects RX0 yX0_next yX0_next ∈ tb := tb_i 1 (by decide +kernel) rfl
theorem kc_X0_next : Cond.code yX0_next cX0_next 1 (some .int) ∈ tb := tb_i 245 (by decide +kernel) rfl
theorem gw_X0_35 : VW RX0 35 RX0 yX0_next cX0_next 1 (some .int) 0 := VW.mk (tb_i 242 (by decide +kernel) rfl) kn_X0_next ks_X0_next ki_X0 kc_X0_next (by decide +kernel)
theorem kn_X0_readNumbers : Cond.instanceMethod yX0_readNumbers ∈ tb := tb_i 248 (by decide +kernel) rfl
theorem ks_X0_readNumbers : Cond.selects RX0 yX0_readNumbers yX0_readNumbers ∈ tb := tb_i 2 (by decide +kernel) rfl
theorem kc_X0_readNumbers : Cond.code yX0_readNumbers cX0_readNumbers 4 (some .boolean) ∈ tb := tb_i 249 (by decide +kernel) rfl
theorem gw_X0_39 : VW RX0 39 RX0 yX0_readNumbers cX0_readNumbers 4 (some .boolean) 1 := VW.mk (tb_i 246 (by decide +kernel) rfl) kn_X0_readNumbers ks_X0_readNumbers ki_X0 kc_X0_readNumbers (by decide +kernel)
theorem kn_X0_readNumber : Cond.instanceMethod yX0_readNumber ∈ tb := tb_i 252 (by decide +kernel) rfl
theorem ks_X0_readNumber : Cond.selects RX0 yX0_readNumber yX0_readNumber ∈ tb := tb_i 3 (by decide +kernel) rfl
theorem kc_X0_readNumber : Cond.code yX0_readNumber cX0_readNumber 3 (some .int) ∈ tb := tb_i 253 (by decide +kernel) rfl
theorem gw_X0_71 : VW RX0 71 RX0 yX0_readNumber cX0_readNumber 3 (some .int) 0 := VW.mk (tb_i 250 (by decide +kernel) rfl) kn_X0_readNumber ks_X0_readNumber ki_X0 kc_X0_readNumber (by decide +kernel)
theorem km_X0_77 : Cond.methodLink RX0 77 Lib.Math.max.name ∈ tb := tb_i 254 (by decide +kernel) rfl
theorem kn_X0_readSign : Cond.instanceMethod yX0_readSign ∈ tb := tb_i 259 (by decide +kernel) rfl
theorem ks_X0_readSign : Cond.selects RX0 yX0_readSign yX0_readSign ∈ tb := tb_i 4 (by decide +kernel) rfl
theorem kc_X0_readSign : Cond.code yX0_readSign cX0_readSign 2 (some .boolean) ∈ tb := tb_i 260 (by decide +kernel) rfl
theorem gw_X0_74 : VW RX0 74 RX0 yX0_readSign cX0_readSign 2 (some .boolean) 1 := VW.mk (tb_i 257 (by decide +kernel) rfl) kn_X0_readSign ks_X0_readSign ki_X0 kc_X0_readSign (by decide +kernel)
theorem gw_X0_43 : VW RX0 43 RX2 yX2_addPerson cX2_addPerson 3 (some .boolean) 2 := VW.mk (tb_i 261 (by decide +kernel) rfl) kn_X2_addPerson ks_X2_addPerson ki_X2 kc_X2_addPerson (by decide +kernel)
theorem kn_X0_readSteps : Cond.instanceMethod yX0_readSteps ∈ tb := tb_i 264 (by decide +kernel) rfl
theorem ks_X0_readSteps : Cond.selects RX0 yX0_readSteps yX0_readSteps ∈ tb := tb_i 5 (by decide +kernel) rfl
theorem kc_X0_readSteps : Cond.code yX0_readSteps cX0_readSteps 3 (some .boolean) ∈ tb := tb_i 265 (by decide +kernel) rfl
theorem gw_X0_47 : VW RX0 47 RX0 yX0_readSteps cX0_readSteps 3 (some .boolean) 1 := VW.mk (tb_i 262 (by decide +kernel) rfl) kn_X0_readSteps ks_X0_readSteps ki_X0 kc_X0_readSteps (by decide +kernel)
theorem gw_X0_83 : VW RX0 83 RX2 yX2_addStep cX2_addStep 2 (some .boolean) 1 := VW.mk (tb_i 266 (by decide +kernel) rfl) kn_X2_addStep ks_X2_addStep ki_X2 kc_X2_addStep (by decide +kernel)
theorem gw_X0_50 : VW RX0 50 RX2 yX2_endTrade cX2_endTrade 1 (some .boolean) 0 := VW.mk (tb_i 267 (by decide +kernel) rfl) kn_X2_endTrade ks_X2_endTrade ki_X2 kc_X2_endTrade (by decide +kernel)
theorem kn_X2_setStepsPerShift : Cond.instanceMethod yX2_setStepsPerShift ∈ tb := tb_i 269 (by decide +kernel) rfl
theorem ks_X2_setStepsPerShift : Cond.selects RX2 yX2_setStepsPerShift yX2_setStepsPerShift ∈ tb := tb_i 270 (by decide +kernel) rfl
theorem kc_X2_setStepsPerShift : Cond.code yX2_setStepsPerShift cX2_setStepsPerShift 2 (some .boolean) ∈ tb := tb_i 271 (by decide +kernel) rfl
theorem gw_X0_54 : VW RX0 54 RX2 yX2_setStepsPerShift cX2_setStepsPerShift 2 (some .boolean) 1 := VW.mk (tb_i 268 (by decide +kernel) rfl) kn_X2_setStepsPerShift ks_X2_setStepsPerShift ki_X2 kc_X2_setStepsPerShift (by decide +kernel)
theorem kn_X2_setFactsTold : Cond.instanceMethod yX2_setFactsTold ∈ tb := tb_i 273 (by decide +kernel) rfl
theorem ks_X2_setFactsTold : Cond.selects RX2 yX2_setFactsTold yX2_setFactsTold ∈ tb := tb_i 274 (by decide +kernel) rfl
theorem kc_X2_setFactsTold : Cond.code yX2_setFactsTold cX2_setFactsTold 2 (some .boolean) ∈ tb := tb_i 275 (by decide +kernel) rfl
theorem gw_X0_57 : VW RX0 57 RX2 yX2_setFactsTold cX2_setFactsTold 2 (some .boolean) 1 := VW.mk (tb_i 272 (by decide +kernel) rfl) kn_X2_setFactsTold ks_X2_setFactsTold ki_X2 kc_X2_setFactsTold (by decide +kernel)
theorem kn_X2_setKnown : Cond.instanceMethod yX2_setKnown ∈ tb := tb_i 277 (by decide +kernel) rfl
theorem ks_X2_setKnown : Cond.selects RX2 yX2_setKnown yX2_setKnown ∈ tb := tb_i 278 (by decide +kernel) rfl
theorem kc_X2_setKnown : Cond.code yX2_setKnown cX2_setKnown 4 (some .boolean) ∈ tb := tb_i 279 (by decide +kernel) rfl
theorem gw_X0_60 : VW RX0 60 RX2 yX2_setKnown cX2_setKnown 4 (some .boolean) 3 := VW.mk (tb_i 276 (by decide +kernel) rfl) kn_X2_setKnown ks_X2_setKnown ki_X2 kc_X2_setKnown (by decide +kernel)
theorem kn_X2_isHalfHere : Cond.instanceMethod yX2_isHalfHere ∈ tb := tb_i 282 (by decide +kernel) rfl
theorem ks_X2_isHalfHere : Cond.selects RX2 yX2_isHalfHere yX2_isHalfHere ∈ tb := tb_i 6 (by decide +kernel) rfl
theorem kc_X2_isHalfHere : Cond.code yX2_isHalfHere cX2_isHalfHere 3 (some .boolean) ∈ tb := tb_i 283 (by decide +kernel) rfl
theorem gw_X2_58 : VW RX2 58 RX2 yX2_isHalfHere cX2_isHalfHere 3 (some .boolean) 2 := VW.mk (tb_i 280 (by decide +kernel) rfl) kn_X2_isHalfHere ks_X2_isHalfHere ki_X2 kc_X2_isHalfHere (by decide +kernel)
theorem kn_X2_addPair : Cond.instanceMethod yX2_addPair ∈ tb := tb_i 288 (by decide +kernel) rfl
theorem ks_X2_addPair : Cond.selects RX2 yX2_addPair yX2_addPair ∈ tb := tb_i 289 (by decide +kernel) rfl
theorem kc_X2_addPair : Cond.code yX2_addPair cX2_addPair 5 (some .boolean) ∈ tb := tb_i 290 (by decide +kernel) rfl
theorem gw_X0_64 : VW RX0 64 RX2 yX2_addPair cX2_addPair 5 (some .boolean) 4 := VW.mk (tb_i 287 (by decide +kernel) rfl) kn_X2_addPair ks_X2_addPair ki_X2 kc_X2_addPair (by decide +kernel)
theorem kn_X2_setPurse : Cond.instanceMethod yX2_setPurse ∈ tb := tb_i 292 (by decide +kernel) rfl
theorem ks_X2_setPurse : Cond.selects RX2 yX2_setPurse yX2_setPurse ∈ tb := tb_i 293 (by decide +kernel) rfl
theorem kc_X2_setPurse : Cond.code yX2_setPurse cX2_setPurse 4 (some .boolean) ∈ tb := tb_i 294 (by decide +kernel) rfl
theorem gw_X0_68 : VW RX0 68 RX2 yX2_setPurse cX2_setPurse 4 (some .boolean) 3 := VW.mk (tb_i 291 (by decide +kernel) rfl) kn_X2_setPurse ks_X2_setPurse ki_X2 kc_X2_setPurse (by decide +kernel)
theorem kn_X3_lay : Cond.instanceMethod yX3_lay ∈ tb := tb_i 296 (by decide +kernel) rfl
theorem ks_X3_lay : Cond.selects RX3 yX3_lay yX3_lay ∈ tb := tb_i 297 (by decide +kernel) rfl
theorem kc_X3_lay : Cond.code yX3_lay cX3_lay 2 (some .int) ∈ tb := tb_i 298 (by decide +kernel) rfl
theorem gw_L_29 : VW RL 29 RX3 yX3_lay cX3_lay 2 (some .int) 0 := VW.mk (tb_i 295 (by decide +kernel) rfl) kn_X3_lay ks_X3_lay ki_X3 kc_X3_lay (by decide +kernel)
theorem kn_X3_half : Cond.instanceMethod yX3_half ∈ tb := tb_i 300 (by decide +kernel) rfl
theorem ks_X3_half : Cond.selects RX3 yX3_half yX3_half ∈ tb := tb_i 301 (by decide +kernel) rfl
theorem kc_X3_half : Cond.code yX3_half cX3_half 4 (some .int) ∈ tb := tb_i 302 (by decide +kernel) rfl
theorem gw_L_33 : VW RL 33 RX3 yX3_half cX3_half 4 (some .int) 3 := VW.mk (tb_i 299 (by decide +kernel) rfl) kn_X3_half ks_X3_half ki_X3 kc_X3_half (by decide +kernel)
theorem kn_X3_isPerson : Cond.instanceMethod yX3_isPerson ∈ tb := tb_i 305 (by decide +kernel) rfl
theorem ks_X3_isPerson : Cond.selects RX3 yX3_isPerson yX3_isPerson ∈ tb := tb_i 7 (by decide +kernel) rfl
theorem kc_X3_isPerson : Cond.code yX3_isPerson cX3_isPerson 2 (some .boolean) ∈ tb := tb_i 306 (by decide +kernel) rfl
theorem gw_X3_89 : VW RX3 89 RX3 yX3_isPerson cX3_isPerson 2 (some .boolean) 1 := VW.mk (tb_i 303 (by decide +kernel) rfl) kn_X3_isPerson ks_X3_isPerson ki_X3 kc_X3_isPerson (by decide +kernel)
theorem kt_X3_isHalf : Cond.static yX3_isHalf ∈ tb := tb_i 285 (by decide +kernel) rfl
theorem kc_X3_isHalf : Cond.code yX3_isHalf cX3_isHalf 1 (some .boolean) ∈ tb := tb_i 286 (by decide +kernel) rfl
theorem gw_X3_92 : SW RX3 92 yX3_isHalf cX3_isHalf 1 (some .boolean) 1 := SW.mk (tb_i 307 (by decide +kernel) rfl) kt_X3_isHalf ki_X3 kc_X3_isHalf (by decide +kernel)
theorem kn_X1_awake : Cond.instanceMethod yX1_awake ∈ tb := tb_i 309 (by decide +kernel) rfl
theorem ks_X1_awake : Cond.selects RX1 yX1_awake yX1_awake ∈ tb := tb_i 310 (by decide +kernel) rfl
theorem kc_X1_awake : Cond.code yX1_awake cX1_awake 1 (some .int) ∈ tb := tb_i 311 (by decide +kernel) rfl
theorem gw_X3_101 : VW RX3 101 RX1 yX1_awake cX1_awake 1 (some .int) 0 := VW.mk (tb_i 308 (by decide +kernel) rfl) kn_X1_awake ks_X1_awake ki_X1 kc_X1_awake (by decide +kernel)
theorem kn_X3_see : Cond.instanceMethod yX3_see ∈ tb := tb_i 313 (by decide +kernel) rfl
theorem ks_X3_see : Cond.selects RX3 yX3_see yX3_see ∈ tb := tb_i 314 (by decide +kernel) rfl
theorem kc_X3_see : Cond.code yX3_see cX3_see 3 (some .int) ∈ tb := tb_i 315 (by decide +kernel) rfl
theorem gw_L_38 : VW RL 38 RX3 yX3_see cX3_see 3 (some .int) 2 := VW.mk (tb_i 312 (by decide +kernel) rfl) kn_X3_see ks_X3_see ki_X3 kc_X3_see (by decide +kernel)
theorem kt_X3_isFact : Cond.static yX3_isFact ∈ tb := tb_i 317 (by decide +kernel) rfl
theorem kc_X3_isFact : Cond.code yX3_isFact cX3_isFact 1 (some .boolean) ∈ tb := tb_i 318 (by decide +kernel) rfl
theorem gw_X3_108 : SW RX3 108 yX3_isFact cX3_isFact 1 (some .boolean) 1 := SW.mk (tb_i 316 (by decide +kernel) rfl) kt_X3_isFact ki_X3 kc_X3_isFact (by decide +kernel)
theorem kn_X1_learn : Cond.instanceMethod yX1_learn ∈ tb := tb_i 320 (by decide +kernel) rfl
theorem ks_X1_learn : Cond.selects RX1 yX1_learn yX1_learn ∈ tb := tb_i 321 (by decide +kernel) rfl
theorem kc_X1_learn : Cond.code yX1_learn cX1_learn 3 none ∈ tb := tb_i 322 (by decide +kernel) rfl
theorem gw_X3_111 : VW RX3 111 RX1 yX1_learn cX1_learn 3 none 2 := VW.mk (tb_i 319 (by decide +kernel) rfl) kn_X1_learn ks_X1_learn ki_X1 kc_X1_learn (by decide +kernel)
theorem gw_X1_33 : VW RX1 33 RX1 yX1_awake cX1_awake 1 (some .int) 0 := VW.mk (tb_i 323 (by decide +kernel) rfl) kn_X1_awake ks_X1_awake ki_X1 kc_X1_awake (by decide +kernel)
theorem kn_X1_awakeKnows : Cond.instanceMethod yX1_awakeKnows ∈ tb := tb_i 325 (by decide +kernel) rfl
theorem ks_X1_awakeKnows : Cond.selects RX1 yX1_awakeKnows yX1_awakeKnows ∈ tb := tb_i 326 (by decide +kernel) rfl
theorem kc_X1_awakeKnows : Cond.code yX1_awakeKnows cX1_awakeKnows 2 (some .int) ∈ tb := tb_i 327 (by decide +kernel) rfl
theorem gw_X3_115 : VW RX3 115 RX1 yX1_awakeKnows cX1_awakeKnows 2 (some .int) 1 := VW.mk (tb_i 324 (by decide +kernel) rfl) kn_X1_awakeKnows ks_X1_awakeKnows ki_X1 kc_X1_awakeKnows (by decide +kernel)
theorem kn_X3_note : Cond.instanceMethod yX3_note ∈ tb := tb_i 329 (by decide +kernel) rfl
theorem ks_X3_note : Cond.selects RX3 yX3_note yX3_note ∈ tb := tb_i 330 (by decide +kernel) rfl
theorem kc_X3_note : Cond.code yX3_note cX3_note 4 (some .int) ∈ tb := tb_i 331 (by decide +kernel) rfl
theorem gw_L_43 : VW RL 43 RX3 yX3_note cX3_note 4 (some .int) 2 := VW.mk (tb_i 328 (by decide +kernel) rfl) kn_X3_note ks_X3_note ki_X3 kc_X3_note (by decide +kernel)
theorem kn_X3_deed : Cond.instanceMethod yX3_deed ∈ tb := tb_i 333 (by decide +kernel) rfl
theorem ks_X3_deed : Cond.selects RX3 yX3_deed yX3_deed ∈ tb := tb_i 334 (by decide +kernel) rfl
theorem kc_X3_deed : Cond.code yX3_deed cX3_deed 3 (some .int) ∈ tb := tb_i 335 (by decide +kernel) rfl
theorem gw_L_47 : VW RL 47 RX3 yX3_deed cX3_deed 3 (some .int) 2 := VW.mk (tb_i 332 (by decide +kernel) rfl) kn_X3_deed ks_X3_deed ki_X3 kc_X3_deed (by decide +kernel)
theorem kt_X3_areFacts : Cond.static yX3_areFacts ∈ tb := tb_i 337 (by decide +kernel) rfl
theorem kc_X3_areFacts : Cond.code yX3_areFacts cX3_areFacts 1 (some .boolean) ∈ tb := tb_i 338 (by decide +kernel) rfl
theorem gw_X3_119 : SW RX3 119 yX3_areFacts cX3_areFacts 1 (some .boolean) 1 := SW.mk (tb_i 336 (by decide +kernel) rfl) kt_X3_areFacts ki_X3 kc_X3_areFacts (by decide +kernel)
theorem kt_X3_holdsAll : Cond.static yX3_holdsAll ∈ tb := tb_i 340 (by decide +kernel) rfl
theorem kc_X3_holdsAll : Cond.code yX3_holdsAll cX3_holdsAll 2 (some .boolean) ∈ tb := tb_i 341 (by decide +kernel) rfl
theorem gw_X3_122 : SW RX3 122 yX3_holdsAll cX3_holdsAll 2 (some .boolean) 2 := SW.mk (tb_i 339 (by decide +kernel) rfl) kt_X3_holdsAll ki_X3 kc_X3_holdsAll (by decide +kernel)
theorem kn_X3_shifts : Cond.instanceMethod yX3_shifts ∈ tb := tb_i 343 (by decide +kernel) rfl
theorem ks_X3_shifts : Cond.selects RX3 yX3_shifts yX3_shifts ∈ tb := tb_i 344 (by decide +kernel) rfl
theorem kc_X3_shifts : Cond.code yX3_shifts cX3_shifts 2 (some .int) ∈ tb := tb_i 345 (by decide +kernel) rfl
theorem gw_L_51 : VW RL 51 RX3 yX3_shifts cX3_shifts 2 (some .int) 1 := VW.mk (tb_i 342 (by decide +kernel) rfl) kn_X3_shifts ks_X3_shifts ki_X3 kc_X3_shifts (by decide +kernel)
theorem kn_X1_endShifts : Cond.instanceMethod yX1_endShifts ∈ tb := tb_i 347 (by decide +kernel) rfl
theorem ks_X1_endShifts : Cond.selects RX1 yX1_endShifts yX1_endShifts ∈ tb := tb_i 348 (by decide +kernel) rfl
theorem kc_X1_endShifts : Cond.code yX1_endShifts cX1_endShifts 5 none ∈ tb := tb_i 349 (by decide +kernel) rfl
theorem gw_X3_128 : VW RX3 128 RX1 yX1_endShifts cX1_endShifts 5 none 2 := VW.mk (tb_i 346 (by decide +kernel) rfl) kn_X1_endShifts ks_X1_endShifts ki_X1 kc_X1_endShifts (by decide +kernel)
theorem kn_X1_tellOneAnother : Cond.instanceMethod yX1_tellOneAnother ∈ tb := tb_i 352 (by decide +kernel) rfl
theorem ks_X1_tellOneAnother : Cond.selects RX1 yX1_tellOneAnother yX1_tellOneAnother ∈ tb := tb_i 8 (by decide +kernel) rfl
theorem kc_X1_tellOneAnother : Cond.code yX1_tellOneAnother cX1_tellOneAnother 5 none ∈ tb := tb_i 353 (by decide +kernel) rfl
theorem gw_X1_51 : VW RX1 51 RX1 yX1_tellOneAnother cX1_tellOneAnother 5 none 2 := VW.mk (tb_i 350 (by decide +kernel) rfl) kn_X1_tellOneAnother ks_X1_tellOneAnother ki_X1 kc_X1_tellOneAnother (by decide +kernel)
theorem kt_X1_lowest : Cond.static yX1_lowest ∈ tb := tb_i 355 (by decide +kernel) rfl
theorem kc_X1_lowest : Cond.code yX1_lowest cX1_lowest 4 (some .int) ∈ tb := tb_i 356 (by decide +kernel) rfl
theorem gw_X1_59 : SW RX1 59 yX1_lowest cX1_lowest 4 (some .int) 2 := SW.mk (tb_i 354 (by decide +kernel) rfl) kt_X1_lowest ki_X1 kc_X1_lowest (by decide +kernel)
theorem kn_X1_readNotes : Cond.instanceMethod yX1_readNotes ∈ tb := tb_i 359 (by decide +kernel) rfl
theorem ks_X1_readNotes : Cond.selects RX1 yX1_readNotes yX1_readNotes ∈ tb := tb_i 9 (by decide +kernel) rfl
theorem kc_X1_readNotes : Cond.code yX1_readNotes cX1_readNotes 2 none ∈ tb := tb_i 360 (by decide +kernel) rfl
theorem gw_X1_55 : VW RX1 55 RX1 yX1_readNotes cX1_readNotes 2 none 1 := VW.mk (tb_i 357 (by decide +kernel) rfl) kn_X1_readNotes ks_X1_readNotes ki_X1 kc_X1_readNotes (by decide +kernel)
theorem kn_X3_done : Cond.instanceMethod yX3_done ∈ tb := tb_i 362 (by decide +kernel) rfl
theorem ks_X3_done : Cond.selects RX3 yX3_done yX3_done ∈ tb := tb_i 363 (by decide +kernel) rfl
theorem kc_X3_done : Cond.code yX3_done cX3_done 3 (some .int) ∈ tb := tb_i 364 (by decide +kernel) rfl
theorem gw_L_56 : VW RL 56 RX3 yX3_done cX3_done 3 (some .int) 2 := VW.mk (tb_i 361 (by decide +kernel) rfl) kn_X3_done ks_X3_done ki_X3 kc_X3_done (by decide +kernel)
theorem kn_X3_isTrade : Cond.instanceMethod yX3_isTrade ∈ tb := tb_i 367 (by decide +kernel) rfl
theorem ks_X3_isTrade : Cond.selects RX3 yX3_isTrade yX3_isTrade ∈ tb := tb_i 10 (by decide +kernel) rfl
theorem kc_X3_isTrade : Cond.code yX3_isTrade cX3_isTrade 2 (some .boolean) ∈ tb := tb_i 368 (by decide +kernel) rfl
theorem gw_X3_132 : VW RX3 132 RX3 yX3_isTrade cX3_isTrade 2 (some .boolean) 1 := VW.mk (tb_i 365 (by decide +kernel) rfl) kn_X3_isTrade ks_X3_isTrade ki_X3 kc_X3_isTrade (by decide +kernel)
theorem kn_X2_shiftsNeeded : Cond.instanceMethod yX2_shiftsNeeded ∈ tb := tb_i 370 (by decide +kernel) rfl
theorem ks_X2_shiftsNeeded : Cond.selects RX2 yX2_shiftsNeeded yX2_shiftsNeeded ∈ tb := tb_i 371 (by decide +kernel) rfl
theorem kc_X2_shiftsNeeded : Cond.code yX2_shiftsNeeded cX2_shiftsNeeded 6 (some .int) ∈ tb := tb_i 372 (by decide +kernel) rfl
theorem gw_X3_135 : VW RX3 135 RX2 yX2_shiftsNeeded cX2_shiftsNeeded 6 (some .int) 3 := VW.mk (tb_i 369 (by decide +kernel) rfl) kn_X2_shiftsNeeded ks_X2_shiftsNeeded ki_X2 kc_X2_shiftsNeeded (by decide +kernel)
theorem kn_X2_stepAfterShift : Cond.instanceMethod yX2_stepAfterShift ∈ tb := tb_i 375 (by decide +kernel) rfl
theorem ks_X2_stepAfterShift : Cond.selects RX2 yX2_stepAfterShift yX2_stepAfterShift ∈ tb := tb_i 11 (by decide +kernel) rfl
theorem kc_X2_stepAfterShift : Cond.code yX2_stepAfterShift cX2_stepAfterShift 7 (some .int) ∈ tb := tb_i 376 (by decide +kernel) rfl
theorem gw_X2_66 : VW RX2 66 RX2 yX2_stepAfterShift cX2_stepAfterShift 7 (some .int) 4 := VW.mk (tb_i 373 (by decide +kernel) rfl) kn_X2_stepAfterShift ks_X2_stepAfterShift ki_X2 kc_X2_stepAfterShift (by decide +kernel)
theorem km_X2_70 : Cond.methodLink RX2 70 Lib.Math.min.name ∈ tb := tb_i 377 (by decide +kernel) rfl
theorem kn_X2_hasSkillFor : Cond.instanceMethod yX2_hasSkillFor ∈ tb := tb_i 382 (by decide +kernel) rfl
theorem ks_X2_hasSkillFor : Cond.selects RX2 yX2_hasSkillFor yX2_hasSkillFor ∈ tb := tb_i 12 (by decide +kernel) rfl
theorem kc_X2_hasSkillFor : Cond.code yX2_hasSkillFor cX2_hasSkillFor 6 (some .boolean) ∈ tb := tb_i 383 (by decide +kernel) rfl
theorem gw_X2_76 : VW RX2 76 RX2 yX2_hasSkillFor cX2_hasSkillFor 6 (some .boolean) 4 := VW.mk (tb_i 380 (by decide +kernel) rfl) kn_X2_hasSkillFor ks_X2_hasSkillFor ki_X2 kc_X2_hasSkillFor (by decide +kernel)
theorem kn_X3_handed : Cond.instanceMethod yX3_handed ∈ tb := tb_i 385 (by decide +kernel) rfl
theorem ks_X3_handed : Cond.selects RX3 yX3_handed yX3_handed ∈ tb := tb_i 386 (by decide +kernel) rfl
theorem kc_X3_handed : Cond.code yX3_handed cX3_handed 3 (some .int) ∈ tb := tb_i 387 (by decide +kernel) rfl
theorem gw_L_60 : VW RL 60 RX3 yX3_handed cX3_handed 3 (some .int) 2 := VW.mk (tb_i 384 (by decide +kernel) rfl) kn_X3_handed ks_X3_handed ki_X3 kc_X3_handed (by decide +kernel)
theorem kn_X2_fewestHandings : Cond.instanceMethod yX2_fewestHandings ∈ tb := tb_i 389 (by decide +kernel) rfl
theorem ks_X2_fewestHandings : Cond.selects RX2 yX2_fewestHandings yX2_fewestHandings ∈ tb := tb_i 390 (by decide +kernel) rfl
theorem kc_X2_fewestHandings : Cond.code yX2_fewestHandings cX2_fewestHandings 9 (some .int) ∈ tb := tb_i 391 (by decide +kernel) rfl
theorem gw_X3_139 : VW RX3 139 RX2 yX2_fewestHandings cX2_fewestHandings 9 (some .int) 2 := VW.mk (tb_i 388 (by decide +kernel) rfl) kn_X2_fewestHandings ks_X2_fewestHandings ki_X2 kc_X2_fewestHandings (by decide +kernel)
theorem kn_X3_best : Cond.instanceMethod yX3_best ∈ tb := tb_i 393 (by decide +kernel) rfl
theorem ks_X3_best : Cond.selects RX3 yX3_best yX3_best ∈ tb := tb_i 394 (by decide +kernel) rfl
theorem kc_X3_best : Cond.code yX3_best cX3_best 6 (some .int) ∈ tb := tb_i 395 (by decide +kernel) rfl
theorem gw_L_64 : VW RL 64 RX3 yX3_best cX3_best 6 (some .int) 1 := VW.mk (tb_i 392 (by decide +kernel) rfl) kn_X3_best ks_X3_best ki_X3 kc_X3_best (by decide +kernel)
theorem kn_X3_knows : Cond.instanceMethod yX3_knows ∈ tb := tb_i 397 (by decide +kernel) rfl
theorem ks_X3_knows : Cond.selects RX3 yX3_knows yX3_knows ∈ tb := tb_i 398 (by decide +kernel) rfl
theorem kc_X3_knows : Cond.code yX3_knows cX3_knows 4 (some .int) ∈ tb := tb_i 399 (by decide +kernel) rfl
theorem gw_L_68 : VW RL 68 RX3 yX3_knows cX3_knows 4 (some .int) 3 := VW.mk (tb_i 396 (by decide +kernel) rfl) kn_X3_knows ks_X3_knows ki_X3 kc_X3_knows (by decide +kernel)
theorem kt_X3_isAhead : Cond.static yX3_isAhead ∈ tb := tb_i 401 (by decide +kernel) rfl
theorem kc_X3_isAhead : Cond.code yX3_isAhead cX3_isAhead 1 (some .boolean) ∈ tb := tb_i 402 (by decide +kernel) rfl
theorem gw_X3_143 : SW RX3 143 yX3_isAhead cX3_isAhead 1 (some .boolean) 1 := SW.mk (tb_i 400 (by decide +kernel) rfl) kt_X3_isAhead ki_X3 kc_X3_isAhead (by decide +kernel)
theorem kn_X1_copyFrom : Cond.instanceMethod yX1_copyFrom ∈ tb := tb_i 404 (by decide +kernel) rfl
theorem ks_X1_copyFrom : Cond.selects RX1 yX1_copyFrom yX1_copyFrom ∈ tb := tb_i 405 (by decide +kernel) rfl
theorem kc_X1_copyFrom : Cond.code yX1_copyFrom cX1_copyFrom 2 none ∈ tb := tb_i 406 (by decide +kernel) rfl
theorem gw_X3_146 : VW RX3 146 RX1 yX1_copyFrom cX1_copyFrom 2 none 1 := VW.mk (tb_i 403 (by decide +kernel) rfl) kn_X1_copyFrom ks_X1_copyFrom ki_X1 kc_X1_copyFrom (by decide +kernel)
theorem kn_X3_could : Cond.instanceMethod yX3_could ∈ tb := tb_i 408 (by decide +kernel) rfl
theorem ks_X3_could : Cond.selects RX3 yX3_could yX3_could ∈ tb := tb_i 409 (by decide +kernel) rfl
theorem kc_X3_could : Cond.code yX3_could cX3_could 3 (some .int) ∈ tb := tb_i 410 (by decide +kernel) rfl
theorem gw_L_72 : VW RL 72 RX3 yX3_could cX3_could 3 (some .int) 2 := VW.mk (tb_i 407 (by decide +kernel) rfl) kn_X3_could ks_X3_could ki_X3 kc_X3_could (by decide +kernel)
theorem kn_X1_ableTo : Cond.instanceMethod yX1_ableTo ∈ tb := tb_i 412 (by decide +kernel) rfl
theorem ks_X1_ableTo : Cond.selects RX1 yX1_ableTo yX1_ableTo ∈ tb := tb_i 413 (by decide +kernel) rfl
theorem kc_X1_ableTo : Cond.code yX1_ableTo cX1_ableTo 5 (some .int) ∈ tb := tb_i 414 (by decide +kernel) rfl
theorem gw_X3_150 : VW RX3 150 RX1 yX1_ableTo cX1_ableTo 5 (some .int) 2 := VW.mk (tb_i 411 (by decide +kernel) rfl) kn_X1_ableTo ks_X1_ableTo ki_X1 kc_X1_ableTo (by decide +kernel)
theorem gw_X1_37 : VW RX1 37 RX1 yX1_awakeKnows cX1_awakeKnows 2 (some .int) 1 := VW.mk (tb_i 415 (by decide +kernel) rfl) kn_X1_awakeKnows ks_X1_awakeKnows ki_X1 kc_X1_awakeKnows (by decide +kernel)
theorem kn_X3_alike : Cond.instanceMethod yX3_alike ∈ tb := tb_i 418 (by decide +kernel) rfl
theorem ks_X3_alike : Cond.selects RX3 yX3_alike yX3_alike ∈ tb := tb_i 419 (by decide +kernel) rfl
theorem kc_X3_alike : Cond.code yX3_alike cX3_alike 3 (some .int) ∈ tb := tb_i 420 (by decide +kernel) rfl
theorem gw_L_76 : VW RL 76 RX3 yX3_alike cX3_alike 3 (some .int) 1 := VW.mk (tb_i 417 (by decide +kernel) rfl) kn_X3_alike ks_X3_alike ki_X3 kc_X3_alike (by decide +kernel)
theorem kn_X3_purse : Cond.instanceMethod yX3_purse ∈ tb := tb_i 422 (by decide +kernel) rfl
theorem ks_X3_purse : Cond.selects RX3 yX3_purse yX3_purse ∈ tb := tb_i 423 (by decide +kernel) rfl
theorem kc_X3_purse : Cond.code yX3_purse cX3_purse 4 (some .int) ∈ tb := tb_i 424 (by decide +kernel) rfl
theorem gw_L_80 : VW RL 80 RX3 yX3_purse cX3_purse 4 (some .int) 3 := VW.mk (tb_i 421 (by decide +kernel) rfl) kn_X3_purse ks_X3_purse ki_X3 kc_X3_purse (by decide +kernel)
theorem kt_X3_isTake : Cond.static yX3_isTake ∈ tb := tb_i 426 (by decide +kernel) rfl
theorem kc_X3_isTake : Cond.code yX3_isTake cX3_isTake 1 (some .boolean) ∈ tb := tb_i 427 (by decide +kernel) rfl
theorem gw_X3_153 : SW RX3 153 yX3_isTake cX3_isTake 1 (some .boolean) 1 := SW.mk (tb_i 425 (by decide +kernel) rfl) kt_X3_isTake ki_X3 kc_X3_isTake (by decide +kernel)
theorem kn_X2_share : Cond.instanceMethod yX2_share ∈ tb := tb_i 429 (by decide +kernel) rfl
theorem ks_X2_share : Cond.selects RX2 yX2_share yX2_share ∈ tb := tb_i 430 (by decide +kernel) rfl
theorem kc_X2_share : Cond.code yX2_share cX2_share 6 (some .int) ∈ tb := tb_i 431 (by decide +kernel) rfl
theorem gw_X3_156 : VW RX3 156 RX2 yX2_share cX2_share 6 (some .int) 3 := VW.mk (tb_i 428 (by decide +kernel) rfl) kn_X2_share ks_X2_share ki_X2 kc_X2_share (by decide +kernel)
theorem kn_X3_rests : Cond.instanceMethod yX3_rests ∈ tb := tb_i 433 (by decide +kernel) rfl
theorem ks_X3_rests : Cond.selects RX3 yX3_rests yX3_rests ∈ tb := tb_i 434 (by decide +kernel) rfl
theorem kc_X3_rests : Cond.code yX3_rests cX3_rests 6 (some .int) ∈ tb := tb_i 435 (by decide +kernel) rfl
theorem gw_L_84 : VW RL 84 RX3 yX3_rests cX3_rests 6 (some .int) 1 := VW.mk (tb_i 432 (by decide +kernel) rfl) kn_X3_rests ks_X3_rests ki_X3 kc_X3_rests (by decide +kernel)
theorem kn_X3_findMostByTakes : Cond.instanceMethod yX3_findMostByTakes ∈ tb := tb_i 438 (by decide +kernel) rfl
theorem ks_X3_findMostByTakes : Cond.selects RX3 yX3_findMostByTakes yX3_findMostByTakes ∈ tb := tb_i 13 (by decide +kernel) rfl
theorem kc_X3_findMostByTakes : Cond.code yX3_findMostByTakes cX3_findMostByTakes 3 none ∈ tb := tb_i 439 (by decide +kernel) rfl
theorem gw_X3_159 : VW RX3 159 RX3 yX3_findMostByTakes cX3_findMostByTakes 3 none 0 := VW.mk (tb_i 436 (by decide +kernel) rfl) kn_X3_findMostByTakes ks_X3_findMostByTakes ki_X3 kc_X3_findMostByTakes (by decide +kernel)
theorem km_X3_201 : Cond.methodLink RX3 201 Lib.Math.max.name ∈ tb := tb_i 440 (by decide +kernel) rfl
theorem kn_X3_camps : Cond.instanceMethod yX3_camps ∈ tb := tb_i 442 (by decide +kernel) rfl
theorem ks_X3_camps : Cond.selects RX3 yX3_camps yX3_camps ∈ tb := tb_i 443 (by decide +kernel) rfl
theorem kc_X3_camps : Cond.code yX3_camps cX3_camps 6 (some .int) ∈ tb := tb_i 444 (by decide +kernel) rfl
theorem gw_L_88 : VW RL 88 RX3 yX3_camps cX3_camps 6 (some .int) 1 := VW.mk (tb_i 441 (by decide +kernel) rfl) kn_X3_camps ks_X3_camps ki_X3 kc_X3_camps (by decide +kernel)
theorem kn_X2_partings : Cond.instanceMethod yX2_partings ∈ tb := tb_i 446 (by decide +kernel) rfl
theorem ks_X2_partings : Cond.selects RX2 yX2_partings yX2_partings ∈ tb := tb_i 447 (by decide +kernel) rfl
theorem kc_X2_partings : Cond.code yX2_partings cX2_partings 4 (some .int) ∈ tb := tb_i 448 (by decide +kernel) rfl
theorem gw_X3_162 : VW RX3 162 RX2 yX2_partings cX2_partings 4 (some .int) 1 := VW.mk (tb_i 445 (by decide +kernel) rfl) kn_X2_partings ks_X2_partings ki_X2 kc_X2_partings (by decide +kernel)
theorem kt_X2_campOf : Cond.static yX2_campOf ∈ tb := tb_i 450 (by decide +kernel) rfl
theorem kc_X2_campOf : Cond.code yX2_campOf cX2_campOf 3 (some .int) ∈ tb := tb_i 451 (by decide +kernel) rfl
theorem gw_X2_80 : SW RX2 80 yX2_campOf cX2_campOf 3 (some .int) 2 := SW.mk (tb_i 449 (by decide +kernel) rfl) kt_X2_campOf ki_X2 kc_X2_campOf (by decide +kernel)
theorem kn_X3_seen : Cond.instanceMethod yX3_seen ∈ tb := tb_i 453 (by decide +kernel) rfl
theorem ks_X3_seen : Cond.selects RX3 yX3_seen yX3_seen ∈ tb := tb_i 454 (by decide +kernel) rfl
theorem kc_X3_seen : Cond.code yX3_seen cX3_seen 3 (some .int) ∈ tb := tb_i 455 (by decide +kernel) rfl
theorem gw_L_92 : VW RL 92 RX3 yX3_seen cX3_seen 3 (some .int) 2 := VW.mk (tb_i 452 (by decide +kernel) rfl) kn_X3_seen ks_X3_seen ki_X3 kc_X3_seen (by decide +kernel)
theorem kn_X3_forget : Cond.instanceMethod yX3_forget ∈ tb := tb_i 457 (by decide +kernel) rfl
theorem ks_X3_forget : Cond.selects RX3 yX3_forget yX3_forget ∈ tb := tb_i 458 (by decide +kernel) rfl
theorem kc_X3_forget : Cond.code yX3_forget cX3_forget 2 (some .int) ∈ tb := tb_i 459 (by decide +kernel) rfl
theorem gw_L_96 : VW RL 96 RX3 yX3_forget cX3_forget 2 (some .int) 0 := VW.mk (tb_i 456 (by decide +kernel) rfl) kn_X3_forget ks_X3_forget ki_X3 kc_X3_forget (by decide +kernel)
theorem kn_X3_fits : Cond.instanceMethod yX3_fits ∈ tb := tb_i 461 (by decide +kernel) rfl
theorem ks_X3_fits : Cond.selects RX3 yX3_fits yX3_fits ∈ tb := tb_i 462 (by decide +kernel) rfl
theorem kc_X3_fits : Cond.code yX3_fits cX3_fits 3 (some .int) ∈ tb := tb_i 463 (by decide +kernel) rfl
theorem gw_L_100 : VW RL 100 RX3 yX3_fits cX3_fits 3 (some .int) 0 := VW.mk (tb_i 460 (by decide +kernel) rfl) kn_X3_fits ks_X3_fits ki_X3 kc_X3_fits (by decide +kernel)
theorem kn_X3_least : Cond.instanceMethod yX3_least ∈ tb := tb_i 465 (by decide +kernel) rfl
theorem ks_X3_least : Cond.selects RX3 yX3_least yX3_least ∈ tb := tb_i 466 (by decide +kernel) rfl
theorem kc_X3_least : Cond.code yX3_least cX3_least 5 (some .int) ∈ tb := tb_i 467 (by decide +kernel) rfl
theorem gw_L_104 : VW RL 104 RX3 yX3_least cX3_least 5 (some .int) 0 := VW.mk (tb_i 464 (by decide +kernel) rfl) kn_X3_least ks_X3_least ki_X3 kc_X3_least (by decide +kernel)
theorem kt_J6_bitCount_0f7a4 : Cond.static yJ6_bitCount_0f7a4 ∈ tb := tb_i 469 (by decide +kernel) rfl
theorem kc_J6_bitCount_0f7a4 : Cond.code yJ6_bitCount_0f7a4 cJ6_bitCount_0f7a4 1 (some .int) ∈ tb := tb_i 470 (by decide +kernel) rfl
theorem km_X3_165 : Cond.methodLink RX3 165 yJ6_bitCount_0f7a4 ∈ tb := tb_i 468 (by decide +kernel) rfl
theorem kn_X3_explainsAllDeeds : Cond.instanceMethod yX3_explainsAllDeeds ∈ tb := tb_i 476 (by decide +kernel) rfl
theorem ks_X3_explainsAllDeeds : Cond.selects RX3 yX3_explainsAllDeeds yX3_explainsAllDeeds ∈ tb := tb_i 14 (by decide +kernel) rfl
theorem kc_X3_explainsAllDeeds : Cond.code yX3_explainsAllDeeds cX3_explainsAllDeeds 3 (some .boolean) ∈ tb := tb_i 477 (by decide +kernel) rfl
theorem gw_X3_170 : VW RX3 170 RX3 yX3_explainsAllDeeds cX3_explainsAllDeeds 3 (some .boolean) 1 := VW.mk (tb_i 474 (by decide +kernel) rfl) kn_X3_explainsAllDeeds ks_X3_explainsAllDeeds ki_X3 kc_X3_explainsAllDeeds (by decide +kernel)
theorem kn_X3_month : Cond.instanceMethod yX3_month ∈ tb := tb_i 479 (by decide +kernel) rfl
theorem ks_X3_month : Cond.selects RX3 yX3_month yX3_month ∈ tb := tb_i 480 (by decide +kernel) rfl
theorem kc_X3_month : Cond.code yX3_month cX3_month 7 (some .int) ∈ tb := tb_i 481 (by decide +kernel) rfl
theorem gw_L_108 : VW RL 108 RX3 yX3_month cX3_month 7 (some .int) 4 := VW.mk (tb_i 478 (by decide +kernel) rfl) kn_X3_month ks_X3_month ki_X3 kc_X3_month (by decide +kernel)
theorem kt_X3_draw : Cond.static yX3_draw ∈ tb := tb_i 483 (by decide +kernel) rfl
theorem kc_X3_draw : Cond.code yX3_draw cX3_draw 4 (some .int) ∈ tb := tb_i 484 (by decide +kernel) rfl
theorem gw_X3_173 : SW RX3 173 yX3_draw cX3_draw 4 (some .int) 2 := SW.mk (tb_i 482 (by decide +kernel) rfl) kt_X3_draw ki_X3 kc_X3_draw (by decide +kernel)
theorem kn_X2_personByDraw : Cond.instanceMethod yX2_personByDraw ∈ tb := tb_i 489 (by decide +kernel) rfl
theorem ks_X2_personByDraw : Cond.selects RX2 yX2_personByDraw yX2_personByDraw ∈ tb := tb_i 490 (by decide +kernel) rfl
theorem kc_X2_personByDraw : Cond.code yX2_personByDraw cX2_personByDraw 2 (some .int) ∈ tb := tb_i 491 (by decide +kernel) rfl
theorem gw_X3_176 : VW RX3 176 RX2 yX2_personByDraw cX2_personByDraw 2 (some .int) 1 := VW.mk (tb_i 488 (by decide +kernel) rfl) kn_X2_personByDraw ks_X2_personByDraw ki_X2 kc_X2_personByDraw (by decide +kernel)
theorem kn_X3_keep : Cond.instanceMethod yX3_keep ∈ tb := tb_i 493 (by decide +kernel) rfl
theorem ks_X3_keep : Cond.selects RX3 yX3_keep yX3_keep ∈ tb := tb_i 494 (by decide +kernel) rfl
theorem kc_X3_keep : Cond.code yX3_keep cX3_keep 1 (some .int) ∈ tb := tb_i 495 (by decide +kernel) rfl
theorem gw_L_113 : VW RL 113 RX3 yX3_keep cX3_keep 1 (some .int) 0 := VW.mk (tb_i 492 (by decide +kernel) rfl) kn_X3_keep ks_X3_keep ki_X3 kc_X3_keep (by decide +kernel)
theorem kn_X3_keptPlace : Cond.instanceMethod yX3_keptPlace ∈ tb := tb_i 498 (by decide +kernel) rfl
theorem ks_X3_keptPlace : Cond.selects RX3 yX3_keptPlace yX3_keptPlace ∈ tb := tb_i 15 (by decide +kernel) rfl
theorem kc_X3_keptPlace : Cond.code yX3_keptPlace cX3_keptPlace 2 (some (.object "HalfAsleep$Standing")) ∈ tb := tb_i 499 (by decide +kernel) rfl
theorem gw_X3_179 : VW RX3 179 RX3 yX3_keptPlace cX3_keptPlace 2 (some (.object "HalfAsleep$Standing")) 1 := VW.mk (tb_i 496 (by decide +kernel) rfl) kn_X3_keptPlace ks_X3_keptPlace ki_X3 kc_X3_keptPlace (by decide +kernel)
theorem kn_X3_back : Cond.instanceMethod yX3_back ∈ tb := tb_i 501 (by decide +kernel) rfl
theorem ks_X3_back : Cond.selects RX3 yX3_back yX3_back ∈ tb := tb_i 502 (by decide +kernel) rfl
theorem kc_X3_back : Cond.code yX3_back cX3_back 1 (some .int) ∈ tb := tb_i 503 (by decide +kernel) rfl
theorem gw_L_117 : VW RL 117 RX3 yX3_back cX3_back 1 (some .int) 0 := VW.mk (tb_i 500 (by decide +kernel) rfl) kn_X3_back ks_X3_back ki_X3 kc_X3_back (by decide +kernel)
theorem kn_X3_count : Cond.instanceMethod yX3_count ∈ tb := tb_i 505 (by decide +kernel) rfl
theorem ks_X3_count : Cond.selects RX3 yX3_count yX3_count ∈ tb := tb_i 506 (by decide +kernel) rfl
theorem kc_X3_count : Cond.code yX3_count cX3_count 2 (some .int) ∈ tb := tb_i 507 (by decide +kernel) rfl
theorem gw_L_121 : VW RL 121 RX3 yX3_count cX3_count 2 (some .int) 1 := VW.mk (tb_i 504 (by decide +kernel) rfl) kn_X3_count ks_X3_count ki_X3 kc_X3_count (by decide +kernel)
theorem kn_X4_init : Cond.instanceMethod yX4_init ∈ tb := tb_i 511 (by decide +kernel) rfl
theorem kc_X4_init : Cond.code yX4_init cX4_init 1 none ∈ tb := tb_i 512 (by decide +kernel) rfl
theorem km_L_12 : Cond.methodLink RL 12 yX4_init ∈ tb := tb_i 510 (by decide +kernel) rfl
theorem kn_X4_write : Cond.instanceMethod yX4_write ∈ tb := tb_i 558 (by decide +kernel) rfl
theorem ks_X4_write : Cond.selects RX4 yX4_write yX4_write ∈ tb := tb_i 559 (by decide +kernel) rfl
theorem kc_X4_write : Cond.code yX4_write cX4_write 5 (some .int) ∈ tb := tb_i 560 (by decide +kernel) rfl
theorem gw_L_19 : VW RL 19 RX4 yX4_write cX4_write 5 (some .int) 2 := VW.mk (tb_i 557 (by decide +kernel) rfl) kn_X4_write ks_X4_write ki_X4 kc_X4_write (by decide +kernel)
theorem kt_X4_in : Cond.static yX4_in ∈ tb := tb_i 562 (by decide +kernel) rfl
theorem kc_X4_in : Cond.code yX4_in cX4_in 3 (some .boolean) ∈ tb := tb_i 563 (by decide +kernel) rfl
theorem gw_X4_40 : SW RX4 40 yX4_in cX4_in 3 (some .boolean) 3 := SW.mk (tb_i 561 (by decide +kernel) rfl) kt_X4_in ki_X4 kc_X4_in (by decide +kernel)
theorem kn_X4_wipe : Cond.instanceMethod yX4_wipe ∈ tb := tb_i 566 (by decide +kernel) rfl
theorem ks_X4_wipe : Cond.selects RX4 yX4_wipe yX4_wipe ∈ tb := tb_i 567 (by decide +kernel) rfl
theorem kc_X4_wipe : Cond.code yX4_wipe cX4_wipe 2 (some .int) ∈ tb := tb_i 568 (by decide +kernel) rfl
theorem gw_L_24 : VW RL 24 RX4 yX4_wipe cX4_wipe 2 (some .int) 0 := VW.mk (tb_i 565 (by decide +kernel) rfl) kn_X4_wipe ks_X4_wipe ki_X4 kc_X4_wipe (by decide +kernel)
theorem kn_X4_fault : Cond.instanceMethod yX4_fault ∈ tb := tb_i 570 (by decide +kernel) rfl
theorem ks_X4_fault : Cond.selects RX4 yX4_fault yX4_fault ∈ tb := tb_i 571 (by decide +kernel) rfl
theorem kc_X4_fault : Cond.code yX4_fault cX4_fault 1 (some .int) ∈ tb := tb_i 572 (by decide +kernel) rfl
theorem gw_L_28 : VW RL 28 RX4 yX4_fault cX4_fault 1 (some .int) 0 := VW.mk (tb_i 569 (by decide +kernel) rfl) kn_X4_fault ks_X4_fault ki_X4 kc_X4_fault (by decide +kernel)
theorem kn_X4_reads : Cond.instanceMethod yX4_reads ∈ tb := tb_i 575 (by decide +kernel) rfl
theorem ks_X4_reads : Cond.selects RX4 yX4_reads yX4_reads ∈ tb := tb_i 16 (by decide +kernel) rfl
theorem kc_X4_reads : Cond.code yX4_reads cX4_reads 2 (some .int) ∈ tb := tb_i 576 (by decide +kernel) rfl
theorem gw_X4_89 : VW RX4 89 RX4 yX4_reads cX4_reads 2 (some .int) 0 := VW.mk (tb_i 573 (by decide +kernel) rfl) kn_X4_reads ks_X4_reads ki_X4 kc_X4_reads (by decide +kernel)
theorem kn_X4_item : Cond.instanceMethod yX4_item ∈ tb := tb_i 579 (by decide +kernel) rfl
theorem ks_X4_item : Cond.selects RX4 yX4_item yX4_item ∈ tb := tb_i 17 (by decide +kernel) rfl
theorem kc_X4_item : Cond.code yX4_item cX4_item 2 (some .boolean) ∈ tb := tb_i 580 (by decide +kernel) rfl
theorem gw_X4_86 : VW RX4 86 RX4 yX4_item cX4_item 2 (some .boolean) 0 := VW.mk (tb_i 577 (by decide +kernel) rfl) kn_X4_item ks_X4_item ki_X4 kc_X4_item (by decide +kernel)
theorem kn_X4_byteAt : Cond.instanceMethod yX4_byteAt ∈ tb := tb_i 583 (by decide +kernel) rfl
theorem ks_X4_byteAt : Cond.selects RX4 yX4_byteAt yX4_byteAt ∈ tb := tb_i 18 (by decide +kernel) rfl
theorem kc_X4_byteAt : Cond.code yX4_byteAt cX4_byteAt 2 (some .int) ∈ tb := tb_i 584 (by decide +kernel) rfl
theorem gw_X4_53 : VW RX4 53 RX4 yX4_byteAt cX4_byteAt 2 (some .int) 1 := VW.mk (tb_i 581 (by decide +kernel) rfl) kn_X4_byteAt ks_X4_byteAt ki_X4 kc_X4_byteAt (by decide +kernel)
theorem kn_X4_person : Cond.instanceMethod yX4_person ∈ tb := tb_i 587 (by decide +kernel) rfl
theorem ks_X4_person : Cond.selects RX4 yX4_person yX4_person ∈ tb := tb_i 19 (by decide +kernel) rfl
theorem kc_X4_person : Cond.code yX4_person cX4_person 1 (some .boolean) ∈ tb := tb_i 588 (by decide +kernel) rfl
theorem gw_X4_68 : VW RX4 68 RX4 yX4_person cX4_person 1 (some .boolean) 0 := VW.mk (tb_i 585 (by decide +kernel) rfl) kn_X4_person ks_X4_person ki_X4 kc_X4_person (by decide +kernel)
theorem kn_X4_numbers : Cond.instanceMethod yX4_numbers ∈ tb := tb_i 591 (by decide +kernel) rfl
theorem ks_X4_numbers : Cond.selects RX4 yX4_numbers yX4_numbers ∈ tb := tb_i 20 (by decide +kernel) rfl
theorem kc_X4_numbers : Cond.code yX4_numbers cX4_numbers 5 (some .boolean) ∈ tb := tb_i 592 (by decide +kernel) rfl
theorem gw_X4_61 : VW RX4 61 RX4 yX4_numbers cX4_numbers 5 (some .boolean) 1 := VW.mk (tb_i 589 (by decide +kernel) rfl) kn_X4_numbers ks_X4_numbers ki_X4 kc_X4_numbers (by decide +kernel)
theorem kn_X4_isFigure : Cond.instanceMethod yX4_isFigure ∈ tb := tb_i 595 (by decide +kernel) rfl
theorem ks_X4_isFigure : Cond.selects RX4 yX4_isFigure yX4_isFigure ∈ tb := tb_i 21 (by decide +kernel) rfl
theorem kc_X4_isFigure : Cond.code yX4_isFigure cX4_isFigure 1 (some .boolean) ∈ tb := tb_i 596 (by decide +kernel) rfl
theorem gw_X4_57 : VW RX4 57 RX4 yX4_isFigure cX4_isFigure 1 (some .boolean) 0 := VW.mk (tb_i 593 (by decide +kernel) rfl) kn_X4_isFigure ks_X4_isFigure ki_X4 kc_X4_isFigure (by decide +kernel)
theorem kn_X4_trade : Cond.instanceMethod yX4_trade ∈ tb := tb_i 599 (by decide +kernel) rfl
theorem ks_X4_trade : Cond.selects RX4 yX4_trade yX4_trade ∈ tb := tb_i 22 (by decide +kernel) rfl
theorem kc_X4_trade : Cond.code yX4_trade cX4_trade 2 (some .boolean) ∈ tb := tb_i 600 (by decide +kernel) rfl
theorem gw_X4_71 : VW RX4 71 RX4 yX4_trade cX4_trade 2 (some .boolean) 0 := VW.mk (tb_i 597 (by decide +kernel) rfl) kn_X4_trade ks_X4_trade ki_X4 kc_X4_trade (by decide +kernel)
theorem kn_X4_one : Cond.instanceMethod yX4_one ∈ tb := tb_i 603 (by decide +kernel) rfl
theorem ks_X4_one : Cond.selects RX4 yX4_one yX4_one ∈ tb := tb_i 23 (by decide +kernel) rfl
theorem kc_X4_one : Cond.code yX4_one cX4_one 4 (some .boolean) ∈ tb := tb_i 604 (by decide +kernel) rfl
theorem gw_X4_74 : VW RX4 74 RX4 yX4_one cX4_one 4 (some .boolean) 3 := VW.mk (tb_i 601 (by decide +kernel) rfl) kn_X4_one ks_X4_one ki_X4 kc_X4_one (by decide +kernel)
theorem kn_X4_known : Cond.instanceMethod yX4_known ∈ tb := tb_i 607 (by decide +kernel) rfl
theorem ks_X4_known : Cond.selects RX4 yX4_known yX4_known ∈ tb := tb_i 24 (by decide +kernel) rfl
theorem kc_X4_known : Cond.code yX4_known cX4_known 1 (some .boolean) ∈ tb := tb_i 608 (by decide +kernel) rfl
theorem gw_X4_77 : VW RX4 77 RX4 yX4_known cX4_known 1 (some .boolean) 0 := VW.mk (tb_i 605 (by decide +kernel) rfl) kn_X4_known ks_X4_known ki_X4 kc_X4_known (by decide +kernel)
theorem kn_X4_isHalf : Cond.instanceMethod yX4_isHalf ∈ tb := tb_i 611 (by decide +kernel) rfl
theorem ks_X4_isHalf : Cond.selects RX4 yX4_isHalf yX4_isHalf ∈ tb := tb_i 25 (by decide +kernel) rfl
theorem kc_X4_isHalf : Cond.code yX4_isHalf cX4_isHalf 2 (some .boolean) ∈ tb := tb_i 612 (by decide +kernel) rfl
theorem gw_X4_65 : VW RX4 65 RX4 yX4_isHalf cX4_isHalf 2 (some .boolean) 1 := VW.mk (tb_i 609 (by decide +kernel) rfl) kn_X4_isHalf ks_X4_isHalf ki_X4 kc_X4_isHalf (by decide +kernel)
theorem kn_X4_married : Cond.instanceMethod yX4_married ∈ tb := tb_i 615 (by decide +kernel) rfl
theorem ks_X4_married : Cond.selects RX4 yX4_married yX4_married ∈ tb := tb_i 26 (by decide +kernel) rfl
theorem kc_X4_married : Cond.code yX4_married cX4_married 1 (some .boolean) ∈ tb := tb_i 616 (by decide +kernel) rfl
theorem gw_X4_80 : VW RX4 80 RX4 yX4_married cX4_married 1 (some .boolean) 0 := VW.mk (tb_i 613 (by decide +kernel) rfl) kn_X4_married ks_X4_married ki_X4 kc_X4_married (by decide +kernel)
theorem kn_X4_pursed : Cond.instanceMethod yX4_pursed ∈ tb := tb_i 619 (by decide +kernel) rfl
theorem ks_X4_pursed : Cond.selects RX4 yX4_pursed yX4_pursed ∈ tb := tb_i 27 (by decide +kernel) rfl
theorem kc_X4_pursed : Cond.code yX4_pursed cX4_pursed 1 (some .boolean) ∈ tb := tb_i 620 (by decide +kernel) rfl
theorem gw_X4_83 : VW RX4 83 RX4 yX4_pursed cX4_pursed 1 (some .boolean) 0 := VW.mk (tb_i 617 (by decide +kernel) rfl) kn_X4_pursed ks_X4_pursed ki_X4 kc_X4_pursed (by decide +kernel)
theorem kn_X4_lay : Cond.instanceMethod yX4_lay ∈ tb := tb_i 622 (by decide +kernel) rfl
theorem ks_X4_lay : Cond.selects RX4 yX4_lay yX4_lay ∈ tb := tb_i 623 (by decide +kernel) rfl
theorem kc_X4_lay : Cond.code yX4_lay cX4_lay 2 (some .int) ∈ tb := tb_i 624 (by decide +kernel) rfl
theorem gw_L_32 : VW RL 32 RX4 yX4_lay cX4_lay 2 (some .int) 0 := VW.mk (tb_i 621 (by decide +kernel) rfl) kn_X4_lay ks_X4_lay ki_X4 kc_X4_lay (by decide +kernel)
theorem kn_X4_half : Cond.instanceMethod yX4_half ∈ tb := tb_i 626 (by decide +kernel) rfl
theorem ks_X4_half : Cond.selects RX4 yX4_half yX4_half ∈ tb := tb_i 627 (by decide +kernel) rfl
theorem kc_X4_half : Cond.code yX4_half cX4_half 4 (some .int) ∈ tb := tb_i 628 (by decide +kernel) rfl
theorem gw_L_37 : VW RL 37 RX4 yX4_half cX4_half 4 (some .int) 3 := VW.mk (tb_i 625 (by decide +kernel) rfl) kn_X4_half ks_X4_half ki_X4 kc_X4_half (by decide +kernel)
theorem kn_X4_isPerson : Cond.instanceMethod yX4_isPerson ∈ tb := tb_i 631 (by decide +kernel) rfl
theorem ks_X4_isPerson : Cond.selects RX4 yX4_isPerson yX4_isPerson ∈ tb := tb_i 28 (by decide +kernel) rfl
theorem kc_X4_isPerson : Cond.code yX4_isPerson cX4_isPerson 2 (some .boolean) ∈ tb := tb_i 632 (by decide +kernel) rfl
theorem gw_X4_99 : VW RX4 99 RX4 yX4_isPerson cX4_isPerson 2 (some .boolean) 1 := VW.mk (tb_i 629 (by decide +kernel) rfl) kn_X4_isPerson ks_X4_isPerson ki_X4 kc_X4_isPerson (by decide +kernel)
theorem kn_X4_awake : Cond.instanceMethod yX4_awake ∈ tb := tb_i 635 (by decide +kernel) rfl
theorem ks_X4_awake : Cond.selects RX4 yX4_awake yX4_awake ∈ tb := tb_i 29 (by decide +kernel) rfl
theorem kc_X4_awake : Cond.code yX4_awake cX4_awake 1 (some .int) ∈ tb := tb_i 636 (by decide +kernel) rfl
theorem gw_X4_102 : VW RX4 102 RX4 yX4_awake cX4_awake 1 (some .int) 0 := VW.mk (tb_i 633 (by decide +kernel) rfl) kn_X4_awake ks_X4_awake ki_X4 kc_X4_awake (by decide +kernel)
theorem kn_X4_see : Cond.instanceMethod yX4_see ∈ tb := tb_i 638 (by decide +kernel) rfl
theorem ks_X4_see : Cond.selects RX4 yX4_see yX4_see ∈ tb := tb_i 639 (by decide +kernel) rfl
theorem kc_X4_see : Cond.code yX4_see cX4_see 3 (some .int) ∈ tb := tb_i 640 (by decide +kernel) rfl
theorem gw_L_42 : VW RL 42 RX4 yX4_see cX4_see 3 (some .int) 2 := VW.mk (tb_i 637 (by decide +kernel) rfl) kn_X4_see ks_X4_see ki_X4 kc_X4_see (by decide +kernel)
theorem kn_X4_note : Cond.instanceMethod yX4_note ∈ tb := tb_i 642 (by decide +kernel) rfl
theorem ks_X4_note : Cond.selects RX4 yX4_note yX4_note ∈ tb := tb_i 643 (by decide +kernel) rfl
theorem kc_X4_note : Cond.code yX4_note cX4_note 3 (some .int) ∈ tb := tb_i 644 (by decide +kernel) rfl
theorem gw_L_46 : VW RL 46 RX4 yX4_note cX4_note 3 (some .int) 2 := VW.mk (tb_i 641 (by decide +kernel) rfl) kn_X4_note ks_X4_note ki_X4 kc_X4_note (by decide +kernel)
theorem kn_X4_deed : Cond.instanceMethod yX4_deed ∈ tb := tb_i 646 (by decide +kernel) rfl
theorem ks_X4_deed : Cond.selects RX4 yX4_deed yX4_deed ∈ tb := tb_i 647 (by decide +kernel) rfl
theorem kc_X4_deed : Cond.code yX4_deed cX4_deed 3 (some .int) ∈ tb := tb_i 648 (by decide +kernel) rfl
theorem gw_L_50 : VW RL 50 RX4 yX4_deed cX4_deed 3 (some .int) 2 := VW.mk (tb_i 645 (by decide +kernel) rfl) kn_X4_deed ks_X4_deed ki_X4 kc_X4_deed (by decide +kernel)
theorem kt_X4_isSet : Cond.static yX4_isSet ∈ tb := tb_i 650 (by decide +kernel) rfl
theorem kc_X4_isSet : Cond.code yX4_isSet cX4_isSet 1 (some .boolean) ∈ tb := tb_i 651 (by decide +kernel) rfl
theorem gw_X4_105 : SW RX4 105 yX4_isSet cX4_isSet 1 (some .boolean) 1 := SW.mk (tb_i 649 (by decide +kernel) rfl) kt_X4_isSet ki_X4 kc_X4_isSet (by decide +kernel)
theorem kn_X4_shifts : Cond.instanceMethod yX4_shifts ∈ tb := tb_i 653 (by decide +kernel) rfl
theorem ks_X4_shifts : Cond.selects RX4 yX4_shifts yX4_shifts ∈ tb := tb_i 654 (by decide +kernel) rfl
theorem kc_X4_shifts : Cond.code yX4_shifts cX4_shifts 3 (some .int) ∈ tb := tb_i 655 (by decide +kernel) rfl
theorem gw_L_55 : VW RL 55 RX4 yX4_shifts cX4_shifts 3 (some .int) 1 := VW.mk (tb_i 652 (by decide +kernel) rfl) kn_X4_shifts ks_X4_shifts ki_X4 kc_X4_shifts (by decide +kernel)
theorem kn_X4_plays : Cond.instanceMethod yX4_plays ∈ tb := tb_i 658 (by decide +kernel) rfl
theorem ks_X4_plays : Cond.selects RX4 yX4_plays yX4_plays ∈ tb := tb_i 30 (by decide +kernel) rfl
theorem kc_X4_plays : Cond.code yX4_plays cX4_plays 3 none ∈ tb := tb_i 659 (by decide +kernel) rfl
theorem gw_X4_115 : VW RX4 115 RX4 yX4_plays cX4_plays 3 none 1 := VW.mk (tb_i 656 (by decide +kernel) rfl) kn_X4_plays ks_X4_plays ki_X4 kc_X4_plays (by decide +kernel)
theorem kn_X4_ends : Cond.instanceMethod yX4_ends ∈ tb := tb_i 662 (by decide +kernel) rfl
theorem ks_X4_ends : Cond.selects RX4 yX4_ends yX4_ends ∈ tb := tb_i 31 (by decide +kernel) rfl
theorem kc_X4_ends : Cond.code yX4_ends cX4_ends 4 none ∈ tb := tb_i 663 (by decide +kernel) rfl
theorem gw_X4_112 : VW RX4 112 RX4 yX4_ends cX4_ends 4 none 0 := VW.mk (tb_i 660 (by decide +kernel) rfl) kn_X4_ends ks_X4_ends ki_X4 kc_X4_ends (by decide +kernel)
theorem kn_X4_tells : Cond.instanceMethod yX4_tells ∈ tb := tb_i 666 (by decide +kernel) rfl
theorem ks_X4_tells : Cond.selects RX4 yX4_tells yX4_tells ∈ tb := tb_i 32 (by decide +kernel) rfl
theorem kc_X4_tells : Cond.code yX4_tells cX4_tells 6 (some .int) ∈ tb := tb_i 667 (by decide +kernel) rfl
theorem gw_X4_108 : VW RX4 108 RX4 yX4_tells cX4_tells 6 (some .int) 2 := VW.mk (tb_i 664 (by decide +kernel) rfl) kn_X4_tells ks_X4_tells ki_X4 kc_X4_tells (by decide +kernel)
theorem kn_X4_done : Cond.instanceMethod yX4_done ∈ tb := tb_i 669 (by decide +kernel) rfl
theorem ks_X4_done : Cond.selects RX4 yX4_done yX4_done ∈ tb := tb_i 670 (by decide +kernel) rfl
theorem kc_X4_done : Cond.code yX4_done cX4_done 3 (some .int) ∈ tb := tb_i 671 (by decide +kernel) rfl
theorem gw_L_59 : VW RL 59 RX4 yX4_done cX4_done 3 (some .int) 2 := VW.mk (tb_i 668 (by decide +kernel) rfl) kn_X4_done ks_X4_done ki_X4 kc_X4_done (by decide +kernel)
theorem kn_X4_isTrade : Cond.instanceMethod yX4_isTrade ∈ tb := tb_i 674 (by decide +kernel) rfl
theorem ks_X4_isTrade : Cond.selects RX4 yX4_isTrade yX4_isTrade ∈ tb := tb_i 33 (by decide +kernel) rfl
theorem kc_X4_isTrade : Cond.code yX4_isTrade cX4_isTrade 2 (some .boolean) ∈ tb := tb_i 675 (by decide +kernel) rfl
theorem gw_X4_123 : VW RX4 123 RX4 yX4_isTrade cX4_isTrade 2 (some .boolean) 1 := VW.mk (tb_i 672 (by decide +kernel) rfl) kn_X4_isTrade ks_X4_isTrade ki_X4 kc_X4_isTrade (by decide +kernel)
theorem kn_X4_doneBy : Cond.instanceMethod yX4_doneBy ∈ tb := tb_i 678 (by decide +kernel) rfl
theorem ks_X4_doneBy : Cond.selects RX4 yX4_doneBy yX4_doneBy ∈ tb := tb_i 34 (by decide +kernel) rfl
theorem kc_X4_doneBy : Cond.code yX4_doneBy cX4_doneBy 8 (some .int) ∈ tb := tb_i 679 (by decide +kernel) rfl
theorem gw_X4_126 : VW RX4 126 RX4 yX4_doneBy cX4_doneBy 8 (some .int) 2 := VW.mk (tb_i 676 (by decide +kernel) rfl) kn_X4_doneBy ks_X4_doneBy ki_X4 kc_X4_doneBy (by decide +kernel)
theorem kn_X4_has : Cond.instanceMethod yX4_has ∈ tb := tb_i 682 (by decide +kernel) rfl
theorem ks_X4_has : Cond.selects RX4 yX4_has yX4_has ∈ tb := tb_i 35 (by decide +kernel) rfl
theorem kc_X4_has : Cond.code yX4_has cX4_has 5 (some .boolean) ∈ tb := tb_i 683 (by decide +kernel) rfl
theorem gw_X4_119 : VW RX4 119 RX4 yX4_has cX4_has 5 (some .boolean) 4 := VW.mk (tb_i 680 (by decide +kernel) rfl) kn_X4_has ks_X4_has ki_X4 kc_X4_has (by decide +kernel)
theorem kn_X4_handed : Cond.instanceMethod yX4_handed ∈ tb := tb_i 685 (by decide +kernel) rfl
theorem ks_X4_handed : Cond.selects RX4 yX4_handed yX4_handed ∈ tb := tb_i 686 (by decide +kernel) rfl
theorem kc_X4_handed : Cond.code yX4_handed cX4_handed 9 (some .int) ∈ tb := tb_i 687 (by decide +kernel) rfl
theorem gw_L_63 : VW RL 63 RX4 yX4_handed cX4_handed 9 (some .int) 2 := VW.mk (tb_i 684 (by decide +kernel) rfl) kn_X4_handed ks_X4_handed ki_X4 kc_X4_handed (by decide +kernel)
theorem kn_X4_best : Cond.instanceMethod yX4_best ∈ tb := tb_i 689 (by decide +kernel) rfl
theorem ks_X4_best : Cond.selects RX4 yX4_best yX4_best ∈ tb := tb_i 690 (by decide +kernel) rfl
theorem kc_X4_best : Cond.code yX4_best cX4_best 7 (some .int) ∈ tb := tb_i 691 (by decide +kernel) rfl
theorem gw_L_67 : VW RL 67 RX4 yX4_best cX4_best 7 (some .int) 1 := VW.mk (tb_i 688 (by decide +kernel) rfl) kn_X4_best ks_X4_best ki_X4 kc_X4_best (by decide +kernel)
theorem kn_X4_knows : Cond.instanceMethod yX4_knows ∈ tb := tb_i 693 (by decide +kernel) rfl
theorem ks_X4_knows : Cond.selects RX4 yX4_knows yX4_knows ∈ tb := tb_i 694 (by decide +kernel) rfl
theorem kc_X4_knows : Cond.code yX4_knows cX4_knows 4 (some .int) ∈ tb := tb_i 695 (by decide +kernel) rfl
theorem gw_L_71 : VW RL 71 RX4 yX4_knows cX4_knows 4 (some .int) 3 := VW.mk (tb_i 692 (by decide +kernel) rfl) kn_X4_knows ks_X4_knows ki_X4 kc_X4_knows (by decide +kernel)
theorem kn_X4_could : Cond.instanceMethod yX4_could ∈ tb := tb_i 697 (by decide +kernel) rfl
theorem ks_X4_could : Cond.selects RX4 yX4_could yX4_could ∈ tb := tb_i 698 (by decide +kernel) rfl
theorem kc_X4_could : Cond.code yX4_could cX4_could 3 (some .int) ∈ tb := tb_i 699 (by decide +kernel) rfl
theorem gw_L_75 : VW RL 75 RX4 yX4_could cX4_could 3 (some .int) 2 := VW.mk (tb_i 696 (by decide +kernel) rfl) kn_X4_could ks_X4_could ki_X4 kc_X4_could (by decide +kernel)
theorem kn_X4_whoKnow : Cond.instanceMethod yX4_whoKnow ∈ tb := tb_i 702 (by decide +kernel) rfl
theorem ks_X4_whoKnow : Cond.selects RX4 yX4_whoKnow yX4_whoKnow ∈ tb := tb_i 36 (by decide +kernel) rfl
theorem kc_X4_whoKnow : Cond.code yX4_whoKnow cX4_whoKnow 4 (some .int) ∈ tb := tb_i 703 (by decide +kernel) rfl
theorem gw_X4_129 : VW RX4 129 RX4 yX4_whoKnow cX4_whoKnow 4 (some .int) 1 := VW.mk (tb_i 700 (by decide +kernel) rfl) kn_X4_whoKnow ks_X4_whoKnow ki_X4 kc_X4_whoKnow (by decide +kernel)
theorem kn_X4_alike : Cond.instanceMethod yX4_alike ∈ tb := tb_i 705 (by decide +kernel) rfl
theorem ks_X4_alike : Cond.selects RX4 yX4_alike yX4_alike ∈ tb := tb_i 706 (by decide +kernel) rfl
theorem kc_X4_alike : Cond.code yX4_alike cX4_alike 3 (some .int) ∈ tb := tb_i 707 (by decide +kernel) rfl
theorem gw_L_79 : VW RL 79 RX4 yX4_alike cX4_alike 3 (some .int) 1 := VW.mk (tb_i 704 (by decide +kernel) rfl) kn_X4_alike ks_X4_alike ki_X4 kc_X4_alike (by decide +kernel)
theorem kn_X4_purse : Cond.instanceMethod yX4_purse ∈ tb := tb_i 709 (by decide +kernel) rfl
theorem ks_X4_purse : Cond.selects RX4 yX4_purse yX4_purse ∈ tb := tb_i 710 (by decide +kernel) rfl
theorem kc_X4_purse : Cond.code yX4_purse cX4_purse 4 (some .int) ∈ tb := tb_i 711 (by decide +kernel) rfl
theorem gw_L_83 : VW RL 83 RX4 yX4_purse cX4_purse 4 (some .int) 3 := VW.mk (tb_i 708 (by decide +kernel) rfl) kn_X4_purse ks_X4_purse ki_X4 kc_X4_purse (by decide +kernel)
theorem kn_X4_holds : Cond.instanceMethod yX4_holds ∈ tb := tb_i 714 (by decide +kernel) rfl
theorem ks_X4_holds : Cond.selects RX4 yX4_holds yX4_holds ∈ tb := tb_i 37 (by decide +kernel) rfl
theorem kc_X4_holds : Cond.code yX4_holds cX4_holds 5 (some .int) ∈ tb := tb_i 715 (by decide +kernel) rfl
theorem gw_X4_132 : VW RX4 132 RX4 yX4_holds cX4_holds 5 (some .int) 3 := VW.mk (tb_i 712 (by decide +kernel) rfl) kn_X4_holds ks_X4_holds ki_X4 kc_X4_holds (by decide +kernel)
theorem kn_X4_rests : Cond.instanceMethod yX4_rests ∈ tb := tb_i 717 (by decide +kernel) rfl
theorem ks_X4_rests : Cond.selects RX4 yX4_rests yX4_rests ∈ tb := tb_i 718 (by decide +kernel) rfl
theorem kc_X4_rests : Cond.code yX4_rests cX4_rests 5 (some .int) ∈ tb := tb_i 719 (by decide +kernel) rfl
theorem gw_L_87 : VW RL 87 RX4 yX4_rests cX4_rests 5 (some .int) 1 := VW.mk (tb_i 716 (by decide +kernel) rfl) kn_X4_rests ks_X4_rests ki_X4 kc_X4_rests (by decide +kernel)
theorem kn_X4_rest : Cond.instanceMethod yX4_rest ∈ tb := tb_i 722 (by decide +kernel) rfl
theorem ks_X4_rest : Cond.selects RX4 yX4_rest yX4_rest ∈ tb := tb_i 38 (by decide +kernel) rfl
theorem kc_X4_rest : Cond.code yX4_rest cX4_rest 5 (some .boolean) ∈ tb := tb_i 723 (by decide +kernel) rfl
theorem gw_X4_136 : VW RX4 136 RX4 yX4_rest cX4_rest 5 (some .boolean) 2 := VW.mk (tb_i 720 (by decide +kernel) rfl) kn_X4_rest ks_X4_rest ki_X4 kc_X4_rest (by decide +kernel)
theorem kn_X4_camps : Cond.instanceMethod yX4_camps ∈ tb := tb_i 725 (by decide +kernel) rfl
theorem ks_X4_camps : Cond.selects RX4 yX4_camps yX4_camps ∈ tb := tb_i 726 (by decide +kernel) rfl
theorem kc_X4_camps : Cond.code yX4_camps cX4_camps 4 (some .int) ∈ tb := tb_i 727 (by decide +kernel) rfl
theorem gw_L_91 : VW RL 91 RX4 yX4_camps cX4_camps 4 (some .int) 1 := VW.mk (tb_i 724 (by decide +kernel) rfl) kn_X4_camps ks_X4_camps ki_X4 kc_X4_camps (by decide +kernel)
theorem kn_X4_parts : Cond.instanceMethod yX4_parts ∈ tb := tb_i 730 (by decide +kernel) rfl
theorem ks_X4_parts : Cond.selects RX4 yX4_parts yX4_parts ∈ tb := tb_i 39 (by decide +kernel) rfl
theorem kc_X4_parts : Cond.code yX4_parts cX4_parts 4 (some .int) ∈ tb := tb_i 731 (by decide +kernel) rfl
theorem gw_X4_143 : VW RX4 143 RX4 yX4_parts cX4_parts 4 (some .int) 1 := VW.mk (tb_i 728 (by decide +kernel) rfl) kn_X4_parts ks_X4_parts ki_X4 kc_X4_parts (by decide +kernel)
theorem kt_X4_camp : Cond.static yX4_camp ∈ tb := tb_i 733 (by decide +kernel) rfl
theorem kc_X4_camp : Cond.code yX4_camp cX4_camp 2 (some .int) ∈ tb := tb_i 734 (by decide +kernel) rfl
theorem gw_X4_140 : SW RX4 140 yX4_camp cX4_camp 2 (some .int) 2 := SW.mk (tb_i 732 (by decide +kernel) rfl) kt_X4_camp ki_X4 kc_X4_camp (by decide +kernel)
theorem kn_X4_seen : Cond.instanceMethod yX4_seen ∈ tb := tb_i 736 (by decide +kernel) rfl
theorem ks_X4_seen : Cond.selects RX4 yX4_seen yX4_seen ∈ tb := tb_i 737 (by decide +kernel) rfl
theorem kc_X4_seen : Cond.code yX4_seen cX4_seen 3 (some .int) ∈ tb := tb_i 738 (by decide +kernel) rfl
theorem gw_L_95 : VW RL 95 RX4 yX4_seen cX4_seen 3 (some .int) 2 := VW.mk (tb_i 735 (by decide +kernel) rfl) kn_X4_seen ks_X4_seen ki_X4 kc_X4_seen (by decide +kernel)
theorem kn_X4_forget : Cond.instanceMethod yX4_forget ∈ tb := tb_i 740 (by decide +kernel) rfl
theorem ks_X4_forget : Cond.selects RX4 yX4_forget yX4_forget ∈ tb := tb_i 741 (by decide +kernel) rfl
theorem kc_X4_forget : Cond.code yX4_forget cX4_forget 2 (some .int) ∈ tb := tb_i 742 (by decide +kernel) rfl
theorem gw_L_99 : VW RL 99 RX4 yX4_forget cX4_forget 2 (some .int) 0 := VW.mk (tb_i 739 (by decide +kernel) rfl) kn_X4_forget ks_X4_forget ki_X4 kc_X4_forget (by decide +kernel)
theorem kn_X4_fits : Cond.instanceMethod yX4_fits ∈ tb := tb_i 744 (by decide +kernel) rfl
theorem ks_X4_fits : Cond.selects RX4 yX4_fits yX4_fits ∈ tb := tb_i 745 (by decide +kernel) rfl
theorem kc_X4_fits : Cond.code yX4_fits cX4_fits 3 (some .int) ∈ tb := tb_i 746 (by decide +kernel) rfl
theorem gw_L_103 : VW RL 103 RX4 yX4_fits cX4_fits 3 (some .int) 0 := VW.mk (tb_i 743 (by decide +kernel) rfl) kn_X4_fits ks_X4_fits ki_X4 kc_X4_fits (by decide +kernel)
theorem kn_X4_finds : Cond.instanceMethod yX4_finds ∈ tb := tb_i 749 (by decide +kernel) rfl
theorem ks_X4_finds : Cond.selects RX4 yX4_finds yX4_finds ∈ tb := tb_i 40 (by decide +kernel) rfl
theorem kc_X4_finds : Cond.code yX4_finds cX4_finds 3 none ∈ tb := tb_i 750 (by decide +kernel) rfl
theorem gw_X4_146 : VW RX4 146 RX4 yX4_finds cX4_finds 3 none 0 := VW.mk (tb_i 747 (by decide +kernel) rfl) kn_X4_finds ks_X4_finds ki_X4 kc_X4_finds (by decide +kernel)
theorem kn_X4_least : Cond.instanceMethod yX4_least ∈ tb := tb_i 752 (by decide +kernel) rfl
theorem ks_X4_least : Cond.selects RX4 yX4_least yX4_least ∈ tb := tb_i 753 (by decide +kernel) rfl
theorem kc_X4_least : Cond.code yX4_least cX4_least 7 (some .int) ∈ tb := tb_i 754 (by decide +kernel) rfl
theorem gw_L_107 : VW RL 107 RX4 yX4_least cX4_least 7 (some .int) 0 := VW.mk (tb_i 751 (by decide +kernel) rfl) kn_X4_least ks_X4_least ki_X4 kc_X4_least (by decide +kernel)
theorem kn_X4_month : Cond.instanceMethod yX4_month ∈ tb := tb_i 756 (by decide +kernel) rfl
theorem ks_X4_month : Cond.selects RX4 yX4_month yX4_month ∈ tb := tb_i 757 (by decide +kernel) rfl
theorem kc_X4_month : Cond.code yX4_month cX4_month 9 (some .int) ∈ tb := tb_i 758 (by decide +kernel) rfl
theorem gw_L_112 : VW RL 112 RX4 yX4_month cX4_month 9 (some .int) 4 := VW.mk (tb_i 755 (by decide +kernel) rfl) kn_X4_month ks_X4_month ki_X4 kc_X4_month (by decide +kernel)
theorem kn_X4_keep : Cond.instanceMethod yX4_keep ∈ tb := tb_i 763 (by decide +kernel) rfl
theorem ks_X4_keep : Cond.selects RX4 yX4_keep yX4_keep ∈ tb := tb_i 764 (by decide +kernel) rfl
theorem kc_X4_keep : Cond.code yX4_keep cX4_keep 2 (some .int) ∈ tb := tb_i 765 (by decide +kernel) rfl
theorem gw_L_116 : VW RL 116 RX4 yX4_keep cX4_keep 2 (some .int) 0 := VW.mk (tb_i 762 (by decide +kernel) rfl) kn_X4_keep ks_X4_keep ki_X4 kc_X4_keep (by decide +kernel)
theorem kn_X4_back : Cond.instanceMethod yX4_back ∈ tb := tb_i 767 (by decide +kernel) rfl
theorem ks_X4_back : Cond.selects RX4 yX4_back yX4_back ∈ tb := tb_i 768 (by decide +kernel) rfl
theorem kc_X4_back : Cond.code yX4_back cX4_back 2 (some .int) ∈ tb := tb_i 769 (by decide +kernel) rfl
theorem gw_L_120 : VW RL 120 RX4 yX4_back cX4_back 2 (some .int) 0 := VW.mk (tb_i 766 (by decide +kernel) rfl) kn_X4_back ks_X4_back ki_X4 kc_X4_back (by decide +kernel)
theorem kn_X4_count : Cond.instanceMethod yX4_count ∈ tb := tb_i 771 (by decide +kernel) rfl
theorem ks_X4_count : Cond.selects RX4 yX4_count yX4_count ∈ tb := tb_i 772 (by decide +kernel) rfl
theorem kc_X4_count : Cond.code yX4_count cX4_count 2 (some .int) ∈ tb := tb_i 773 (by decide +kernel) rfl
theorem gw_L_124 : VW RL 124 RX4 yX4_count cX4_count 2 (some .int) 1 := VW.mk (tb_i 770 (by decide +kernel) rfl) kn_X4_count ks_X4_count ki_X4 kc_X4_count (by decide +kernel)
theorem kn_X0_init : Cond.instanceMethod yX0_init ∈ tb := tb_i 61 (by decide +kernel) rfl
theorem kc_X0_init : Cond.code yX0_init cX0_init 1 none ∈ tb := tb_i 62 (by decide +kernel) rfl
theorem kmN_X3_11 : Cond.methodLinkNest RX3 11 yX0_init "HalfAsleep" ∈ nst := nst_i 60 (by decide +kernel) rfl
theorem kn_X1_init : Cond.instanceMethod yX1_init ∈ tb := tb_i 145 (by decide +kernel) rfl
theorem kc_X1_init : Cond.code yX1_init cX1_init 1 none ∈ tb := tb_i 146 (by decide +kernel) rfl
theorem kmN_X3_28 : Cond.methodLinkNest RX3 28 yX1_init "HalfAsleep" ∈ nst := nst_i 144 (by decide +kernel) rfl
theorem gw_X2_62 : NW RX2 62 yX3_isHalf "HalfAsleep" cX3_isHalf 1 (some .boolean) 1 := ⟨nst_i 284 (by decide +kernel) rfl, kt_X3_isHalf, ki_X3, kc_X3_isHalf, (by decide +kernel)⟩
theorem gw_X1_41 : NW RX1 41 yX3_holdsAll "HalfAsleep" cX3_holdsAll 2 (some .boolean) 2 := ⟨nst_i 416 (by decide +kernel) rfl, kt_X3_holdsAll, ki_X3, kc_X3_holdsAll, (by decide +kernel)⟩
section Links
variable {p : Program} {l : Launch} {e : Env} {R : Room} {s : State} {m : MethodId} {args : Array Value} {below : List Frame} {meth : Method} {c : Code} {H : Heap} {locs : List Loc} {cells slots : Nat} {Q : State → Prop}
variable {cc : ByteArray} {nL : Nat} {pc : Nat} {ls : Array Slot} {rest : List Value} {D : va_G} {cI cB : ClassId} {A : Nat → Prop} {ws : va_W} {H0 : Heap} {a q0 : Nat} {fs : List Value} {v : Value}

theorem kf_X0_9 : Cond.fieldLink RX0 9 "HalfAsleep$Page" "bytes" "[B" ∈ tb := tb_i 64 (by decide +kernel) rfl
theorem gf_X0_9 (F : Fx p m c cc nL s args RX0 D cI cB) (P : va_P D vwCl ws H) (q0 : Nat) (he : ws[q0]? = some (a, .inr (0, fs))) (v : Value) (hv : fs[0]? = some v) (d : decode cc pc = .ok (.getfield 9, 3)) (kk : W p l e R s m args below meth c H locs cells slots Q (F0 m (pc + 3) ls (v :: rest))) : W p l e R s m args below meth c H locs cells slots Q (F0 m pc ls (.ref a :: rest)) := r_gf F uX0 rfl 0 (by decide) kf_X0_9 P q0 he v hv d kk
theorem kf_X0_19 : Cond.fieldLink RX0 19 "HalfAsleep$Page" "length" "I" ∈ tb := tb_i 65 (by decide +kernel) rfl
theorem gf_X0_19 (F : Fx p m c cc nL s args RX0 D cI cB) (P : va_P D vwCl ws H) (q0 : Nat) (he : ws[q0]? = some (a, .inr (0, fs))) (v : Value) (hv : fs[1]? = some v) (d : decode cc pc = .ok (.getfield 19, 3)) (kk : W p l e R s m args below meth c H locs cells slots Q (F0 m (pc + 3) ls (v :: rest))) : W p l e R s m args below meth c H locs cells slots Q (F0 m pc ls (.ref a :: rest)) := r_gf F uX0 rfl 1 (by decide) kf_X0_19 P q0 he v hv d kk
theorem pf_X0_19 (F : Fx p m c cc nL s args RX0 D cI cB) (B : Bx D A H0 ws H locs) (q0 : Nat) (ws' : va_W) (he : ws[q0]? = some (a, .inr (0, fs))) (hn : narrow (tyX0 1) v = v) (hfit : fits (tyX0 1) v = true) (hlen : 1 < fs.length) (hw : ws.set q0 (a, .inr (0, fs.set 1 v)) = ws') (d : decode cc pc = .ok (.putfield 19, 3)) (kk : ∀ (H : Heap) (locs : List Loc), Bx D A H0 ws' H locs → W p l e R s m args below meth c H locs cells slots Q (F0 m (pc + 3) ls rest)) : W p l e R s m args below meth c H locs cells slots Q (F0 m pc ls (v :: .ref a :: rest)) := r_pf F uX0 rfl tyX0_ok nmX0 1 (by decide) kf_X0_19 rfl B q0 ws' he hn hfit hlen hw d kk
theorem kf_X0_28 : Cond.fieldLink RX0 28 "HalfAsleep$Page" "place" "I" ∈ tb := tb_i 67 (by decide +kernel) rfl
theorem gf_X0_28 (F : Fx p m c cc nL s args RX0 D cI cB) (P : va_P D vwCl ws H) (q0 : Nat) (he : ws[q0]? = some (a, .inr (0, fs))) (v : Value) (hv : fs[2]? = some v) (d : decode cc pc = .ok (.getfield 28, 3)) (kk : W p l e R s m args below meth c H locs cells slots Q (F0 m (pc + 3) ls (v :: rest))) : W p l e R s m args below meth c H locs cells slots Q (F0 m pc ls (.ref a :: rest)) := r_gf F uX0 rfl 2 (by decide) kf_X0_28 P q0 he v hv d kk
theorem pf_X0_28 (F : Fx p m c cc nL s args RX0 D cI cB) (B : Bx D A H0 ws H locs) (q0 : Nat) (ws' : va_W) (he : ws[q0]? = some (a, .inr (0, fs))) (hn : narrow (tyX0 2) v = v) (hfit : fits (tyX0 2) v = true) (hlen : 2 < fs.length) (hw : ws.set q0 (a, .inr (0, fs.set 2 v)) = ws') (d : decode cc pc = .ok (.putfield 28, 3)) (kk : ∀ (H : Heap) (locs : List Loc), Bx D A H0 ws' H locs → W p l e R s m args below meth c H locs cells slots Q (F0 m (pc + 3) ls rest)) : W p l e R s m args below meth c H locs cells slots Q (F0 m pc ls (v :: .ref a :: rest)) := r_pf F uX0 rfl tyX0_ok nmX0 2 (by decide) kf_X0_28 rfl B q0 ws' he hn hfit hlen hw d kk
theorem kf_X0_15 : Cond.fieldLink RX0 15 "HalfAsleep$Page" "numbers" "[I" ∈ tb := tb_i 68 (by decide +kernel) rfl
theorem gf_X0_15 (F : Fx p m c cc nL s args RX0 D cI cB) (P : va_P D vwCl ws H) (q0 : Nat) (he : ws[q0]? = some (a, .inr (0, fs))) (v : Value) (hv : fs[3]? = some v) (d : decode cc pc = .ok (.getfield 15, 3)) (kk : W p l e R s m args below meth c H locs cells slots Q (F0 m (pc + 3) ls (v :: rest))) : W p l e R s m args below meth c H locs cells slots Q (F0 m pc ls (.ref a :: rest)) := r_gf F uX0 rfl 3 (by decide) kf_X0_15 P q0 he v hv d kk
theorem kf_X2_30 : Cond.fieldLink RX2 30 "HalfAsleep$Town" "persons" "I" ∈ tb := tb_i 90 (by decide +kernel) rfl
theorem gf_X2_30 (F : Fx p m c cc nL s args RX2 D cI cB) (P : va_P D vwCl ws H) (q0 : Nat) (he : ws[q0]? = some (a, .inr (2, fs))) (v : Value) (hv : fs[0]? = some v) (d : decode cc pc = .ok (.getfield 30, 3)) (kk : W p l e R s m args below meth c H locs cells slots Q (F0 m (pc + 3) ls (v :: rest))) : W p l e R s m args below meth c H locs cells slots Q (F0 m pc ls (.ref a :: rest)) := r_gf F uX2 rfl 0 (by decide) kf_X2_30 P q0 he v hv d kk
theorem pf_X2_30 (F : Fx p m c cc nL s args RX2 D cI cB) (B : Bx D A H0 ws H locs) (q0 : Nat) (ws' : va_W) (he : ws[q0]? = some (a, .inr (2, fs))) (hn : narrow (tyX2 0) v = v) (hfit : fits (tyX2 0) v = true) (hlen : 0 < fs.length) (hw : ws.set q0 (a, .inr (2, fs.set 0 v)) = ws') (d : decode cc pc = .ok (.putfield 30, 3)) (kk : ∀ (H : Heap) (locs : List Loc), Bx D A H0 ws' H locs → W p l e R s m args below meth c H locs cells slots Q (F0 m (pc + 3) ls rest)) : W p l e R s m args below meth c H locs cells slots Q (F0 m pc ls (v :: .ref a :: rest)) := r_pf F uX2 rfl tyX2_ok nmX2 0 (by decide) kf_X2_30 rfl B q0 ws' he hn hfit hlen hw d kk
theorem kf_X2_9 : Cond.fieldLink RX2 9 "HalfAsleep$Town" "skills" "[I" ∈ tb := tb_i 93 (by decide +kernel) rfl
theorem gf_X2_9 (F : Fx p m c cc nL s args RX2 D cI cB) (P : va_P D vwCl ws H) (q0 : Nat) (he : ws[q0]? = some (a, .inr (2, fs))) (v : Value) (hv : fs[1]? = some v) (d : decode cc pc = .ok (.getfield 9, 3)) (kk : W p l e R s m args below meth c H locs cells slots Q (F0 m (pc + 3) ls (v :: rest))) : W p l e R s m args below meth c H locs cells slots Q (F0 m pc ls (.ref a :: rest)) := r_gf F uX2 rfl 1 (by decide) kf_X2_9 P q0 he v hv d kk
theorem kf_X2_15 : Cond.fieldLink RX2 15 "HalfAsleep$Town" "knownFirst" "[I" ∈ tb := tb_i 95 (by decide +kernel) rfl
theorem gf_X2_15 (F : Fx p m c cc nL s args RX2 D cI cB) (P : va_P D vwCl ws H) (q0 : Nat) (he : ws[q0]? = some (a, .inr (2, fs))) (v : Value) (hv : fs[2]? = some v) (d : decode cc pc = .ok (.getfield 15, 3)) (kk : W p l e R s m args below meth c H locs cells slots Q (F0 m (pc + 3) ls (v :: rest))) : W p l e R s m args below meth c H locs cells slots Q (F0 m pc ls (.ref a :: rest)) := r_gf F uX2 rfl 2 (by decide) kf_X2_15 P q0 he v hv d kk
theorem kf_X2_34 : Cond.fieldLink RX2 34 "HalfAsleep$Town" "trades" "I" ∈ tb := tb_i 97 (by decide +kernel) rfl
theorem gf_X2_34 (F : Fx p m c cc nL s args RX2 D cI cB) (P : va_P D vwCl ws H) (q0 : Nat) (he : ws[q0]? = some (a, .inr (2, fs))) (v : Value) (hv : fs[3]? = some v) (d : decode cc pc = .ok (.getfield 34, 3)) (kk : W p l e R s m args below meth c H locs cells slots Q (F0 m (pc + 3) ls (v :: rest))) : W p l e R s m args below meth c H locs cells slots Q (F0 m pc ls (.ref a :: rest)) := r_gf F uX2 rfl 3 (by decide) kf_X2_34 P q0 he v hv d kk
theorem pf_X2_34 (F : Fx p m c cc nL s args RX2 D cI cB) (B : Bx D A H0 ws H locs) (q0 : Nat) (ws' : va_W) (he : ws[q0]? = some (a, .inr (2, fs))) (hn : narrow (tyX2 3) v = v) (hfit : fits (tyX2 3) v = true) (hlen : 3 < fs.length) (hw : ws.set q0 (a, .inr (2, fs.set 3 v)) = ws') (d : decode cc pc = .ok (.putfield 34, 3)) (kk : ∀ (H : Heap) (locs : List Loc), Bx D A H0 ws' H locs → W p l e R s m args below meth c H locs cells slots Q (F0 m (pc + 3) ls rest)) : W p l e R s m args below meth c H locs cells slots Q (F0 m pc ls (v :: .ref a :: rest)) := r_pf F uX2 rfl tyX2_ok nmX2 3 (by decide) kf_X2_34 rfl B q0 ws' he hn hfit hlen hw d kk
theorem kf_X2_18 : Cond.fieldLink RX2 18 "HalfAsleep$Town" "steps" "[I" ∈ tb := tb_i 99 (by decide +kernel) rfl
theorem gf_X2_18 (F : Fx p m c cc nL s args RX2 D cI cB) (P : va_P D vwCl ws H) (q0 : Nat) (he : ws[q0]? = some (a, .inr (2, fs))) (v : Value) (hv : fs[4]? = some v) (d : decode cc pc = .ok (.getfield 18, 3)) (kk : W p l e R s m args below meth c H locs cells slots Q (F0 m (pc + 3) ls (v :: rest))) : W p l e R s m args below meth c H locs cells slots Q (F0 m pc ls (.ref a :: rest)) := r_gf F uX2 rfl 4 (by decide) kf_X2_18 P q0 he v hv d kk
theorem kf_X2_21 : Cond.fieldLink RX2 21 "HalfAsleep$Town" "tradeLengths" "[I" ∈ tb := tb_i 100 (by decide +kernel) rfl
theorem gf_X2_21 (F : Fx p m c cc nL s args RX2 D cI cB) (P : va_P D vwCl ws H) (q0 : Nat) (he : ws[q0]? = some (a, .inr (2, fs))) (v : Value) (hv : fs[5]? = some v) (d : decode cc pc = .ok (.getfield 21, 3)) (kk : W p l e R s m args below meth c H locs cells slots Q (F0 m (pc + 3) ls (v :: rest))) : W p l e R s m args below meth c H locs cells slots Q (F0 m pc ls (.ref a :: rest)) := r_gf F uX2 rfl 5 (by decide) kf_X2_21 P q0 he v hv d kk
theorem kf_X2_37 : Cond.fieldLink RX2 37 "HalfAsleep$Town" "openSteps" "I" ∈ tb := tb_i 101 (by decide +kernel) rfl
theorem gf_X2_37 (F : Fx p m c cc nL s args RX2 D cI cB) (P : va_P D vwCl ws H) (q0 : Nat) (he : ws[q0]? = some (a, .inr (2, fs))) (v : Value) (hv : fs[6]? = some v) (d : decode cc pc = .ok (.getfield 37, 3)) (kk : W p l e R s m args below meth c H locs cells slots Q (F0 m (pc + 3) ls (v :: rest))) : W p l e R s m args below meth c H locs cells slots Q (F0 m pc ls (.ref a :: rest)) := r_gf F uX2 rfl 6 (by decide) kf_X2_37 P q0 he v hv d kk
theorem pf_X2_37 (F : Fx p m c cc nL s args RX2 D cI cB) (B : Bx D A H0 ws H locs) (q0 : Nat) (ws' : va_W) (he : ws[q0]? = some (a, .inr (2, fs))) (hn : narrow (tyX2 6) v = v) (hfit : fits (tyX2 6) v = true) (hlen : 6 < fs.length) (hw : ws.set q0 (a, .inr (2, fs.set 6 v)) = ws') (d : decode cc pc = .ok (.putfield 37, 3)) (kk : ∀ (H : Heap) (locs : List Loc), Bx D A H0 ws' H locs → W p l e R s m args below meth c H locs cells slots Q (F0 m (pc + 3) ls rest)) : W p l e R s m args below meth c H locs cells slots Q (F0 m pc ls (v :: .ref a :: rest)) := r_pf F uX2 rfl tyX2_ok nmX2 6 (by decide) kf_X2_37 rfl B q0 ws' he hn hfit hlen hw d kk
theorem kf_X2_40 : Cond.fieldLink RX2 40 "HalfAsleep$Town" "pairs" "I" ∈ tb := tb_i 102 (by decide +kernel) rfl
theorem gf_X2_40 (F : Fx p m c cc nL s args RX2 D cI cB) (P : va_P D vwCl ws H) (q0 : Nat) (he : ws[q0]? = some (a, .inr (2, fs))) (v : Value) (hv : fs[7]? = some v) (d : decode cc pc = .ok (.getfield 40, 3)) (kk : W p l e R s m args below meth c H locs cells slots Q (F0 m (pc + 3) ls (v :: rest))) : W p l e R s m args below meth c H locs cells slots Q (F0 m pc ls (.ref a :: rest)) := r_gf F uX2 rfl 7 (by decide) kf_X2_40 P q0 he v hv d kk
theorem pf_X2_40 (F : Fx p m c cc nL s args RX2 D cI cB) (B : Bx D A H0 ws H locs) (q0 : Nat) (ws' : va_W) (he : ws[q0]? = some (a, .inr (2, fs))) (hn : narrow (tyX2 7) v = v) (hfit : fits (tyX2 7) v = true) (hlen : 7 < fs.length) (hw : ws.set q0 (a, .inr (2, fs.set 7 v)) = ws') (d : decode cc pc = .ok (.putfield 40, 3)) (kk : ∀ (H : Heap) (locs : List Loc), Bx D A H0 ws' H locs → W p l e R s m args below meth c H locs cells slots Q (F0 m (pc + 3) ls rest)) : W p l e R s m args below meth c H locs cells slots Q (F0 m pc ls (v :: .ref a :: rest)) := r_pf F uX2 rfl tyX2_ok nmX2 7 (by decide) kf_X2_40 rfl B q0 ws' he hn hfit hlen hw d kk
theorem kf_X2_24 : Cond.fieldLink RX2 24 "HalfAsleep$Town" "pairHalves" "[I" ∈ tb := tb_i 104 (by decide +kernel) rfl
theorem gf_X2_24 (F : Fx p m c cc nL s args RX2 D cI cB) (P : va_P D vwCl ws H) (q0 : Nat) (he : ws[q0]? = some (a, .inr (2, fs))) (v : Value) (hv : fs[8]? = some v) (d : decode cc pc = .ok (.getfield 24, 3)) (kk : W p l e R s m args below meth c H locs cells slots Q (F0 m (pc + 3) ls (v :: rest))) : W p l e R s m args below meth c H locs cells slots Q (F0 m pc ls (.ref a :: rest)) := r_gf F uX2 rfl 8 (by decide) kf_X2_24 P q0 he v hv d kk
theorem kf_X2_43 : Cond.fieldLink RX2 43 "HalfAsleep$Town" "stepsPerShift" "I" ∈ tb := tb_i 105 (by decide +kernel) rfl
theorem gf_X2_43 (F : Fx p m c cc nL s args RX2 D cI cB) (P : va_P D vwCl ws H) (q0 : Nat) (he : ws[q0]? = some (a, .inr (2, fs))) (v : Value) (hv : fs[9]? = some v) (d : decode cc pc = .ok (.getfield 43, 3)) (kk : W p l e R s m args below meth c H locs cells slots Q (F0 m (pc + 3) ls (v :: rest))) : W p l e R s m args below meth c H locs cells slots Q (F0 m pc ls (.ref a :: rest)) := r_gf F uX2 rfl 9 (by decide) kf_X2_43 P q0 he v hv d kk
theorem pf_X2_43 (F : Fx p m c cc nL s args RX2 D cI cB) (B : Bx D A H0 ws H locs) (q0 : Nat) (ws' : va_W) (he : ws[q0]? = some (a, .inr (2, fs))) (hn : narrow (tyX2 9) v = v) (hfit : fits (tyX2 9) v = true) (hlen : 9 < fs.length) (hw : ws.set q0 (a, .inr (2, fs.set 9 v)) = ws') (d : decode cc pc = .ok (.putfield 43, 3)) (kk : ∀ (H : Heap) (locs : List Loc), Bx D A H0 ws' H locs → W p l e R s m args below meth c H locs cells slots Q (F0 m (pc + 3) ls rest)) : W p l e R s m args below meth c H locs cells slots Q (F0 m pc ls (v :: .ref a :: rest)) := r_pf F uX2 rfl tyX2_ok nmX2 9 (by decide) kf_X2_43 rfl B q0 ws' he hn hfit hlen hw d kk
theorem kf_X2_46 : Cond.fieldLink RX2 46 "HalfAsleep$Town" "factsTold" "I" ∈ tb := tb_i 107 (by decide +kernel) rfl
theorem gf_X2_46 (F : Fx p m c cc nL s args RX2 D cI cB) (P : va_P D vwCl ws H) (q0 : Nat) (he : ws[q0]? = some (a, .inr (2, fs))) (v : Value) (hv : fs[10]? = some v) (d : decode cc pc = .ok (.getfield 46, 3)) (kk : W p l e R s m args below meth c H locs cells slots Q (F0 m (pc + 3) ls (v :: rest))) : W p l e R s m args below meth c H locs cells slots Q (F0 m pc ls (.ref a :: rest)) := r_gf F uX2 rfl 10 (by decide) kf_X2_46 P q0 he v hv d kk
theorem pf_X2_46 (F : Fx p m c cc nL s args RX2 D cI cB) (B : Bx D A H0 ws H locs) (q0 : Nat) (ws' : va_W) (he : ws[q0]? = some (a, .inr (2, fs))) (hn : narrow (tyX2 10) v = v) (hfit : fits (tyX2 10) v = true) (hlen : 10 < fs.length) (hw : ws.set q0 (a, .inr (2, fs.set 10 v)) = ws') (d : decode cc pc = .ok (.putfield 46, 3)) (kk : ∀ (H : Heap) (locs : List Loc), Bx D A H0 ws' H locs → W p l e R s m args below meth c H locs cells slots Q (F0 m (pc + 3) ls rest)) : W p l e R s m args below meth c H locs cells slots Q (F0 m pc ls (v :: .ref a :: rest)) := r_pf F uX2 rfl tyX2_ok nmX2 10 (by decide) kf_X2_46 rfl B q0 ws' he hn hfit hlen hw d kk
theorem kf_X2_49 : Cond.fieldLink RX2 49 "HalfAsleep$Town" "coins" "I" ∈ tb := tb_i 110 (by decide +kernel) rfl
theorem gf_X2_49 (F : Fx p m c cc nL s args RX2 D cI cB) (P : va_P D vwCl ws H) (q0 : Nat) (he : ws[q0]? = some (a, .inr (2, fs))) (v : Value) (hv : fs[11]? = some v) (d : decode cc pc = .ok (.getfield 49, 3)) (kk : W p l e R s m args below meth c H locs cells slots Q (F0 m (pc + 3) ls (v :: rest))) : W p l e R s m args below meth c H locs cells slots Q (F0 m pc ls (.ref a :: rest)) := r_gf F uX2 rfl 11 (by decide) kf_X2_49 P q0 he v hv d kk
theorem pf_X2_49 (F : Fx p m c cc nL s args RX2 D cI cB) (B : Bx D A H0 ws H locs) (q0 : Nat) (ws' : va_W) (he : ws[q0]? = some (a, .inr (2, fs))) (hn : narrow (tyX2 11) v = v) (hfit : fits (tyX2 11) v = true) (hlen : 11 < fs.length) (hw : ws.set q0 (a, .inr (2, fs.set 11 v)) = ws') (d : decode cc pc = .ok (.putfield 49, 3)) (kk : ∀ (H : Heap) (locs : List Loc), Bx D A H0 ws' H locs → W p l e R s m args below meth c H locs cells slots Q (F0 m (pc + 3) ls rest)) : W p l e R s m args below meth c H locs cells slots Q (F0 m pc ls (v :: .ref a :: rest)) := r_pf F uX2 rfl tyX2_ok nmX2 11 (by decide) kf_X2_49 rfl B q0 ws' he hn hfit hlen hw d kk
theorem kf_X2_52 : Cond.fieldLink RX2 52 "HalfAsleep$Town" "worthLeft" "I" ∈ tb := tb_i 111 (by decide +kernel) rfl
theorem gf_X2_52 (F : Fx p m c cc nL s args RX2 D cI cB) (P : va_P D vwCl ws H) (q0 : Nat) (he : ws[q0]? = some (a, .inr (2, fs))) (v : Value) (hv : fs[12]? = some v) (d : decode cc pc = .ok (.getfield 52, 3)) (kk : W p l e R s m args below meth c H locs cells slots Q (F0 m (pc + 3) ls (v :: rest))) : W p l e R s m args below meth c H locs cells slots Q (F0 m pc ls (.ref a :: rest)) := r_gf F uX2 rfl 12 (by decide) kf_X2_52 P q0 he v hv d kk
theorem pf_X2_52 (F : Fx p m c cc nL s args RX2 D cI cB) (B : Bx D A H0 ws H locs) (q0 : Nat) (ws' : va_W) (he : ws[q0]? = some (a, .inr (2, fs))) (hn : narrow (tyX2 12) v = v) (hfit : fits (tyX2 12) v = true) (hlen : 12 < fs.length) (hw : ws.set q0 (a, .inr (2, fs.set 12 v)) = ws') (d : decode cc pc = .ok (.putfield 52, 3)) (kk : ∀ (H : Heap) (locs : List Loc), Bx D A H0 ws' H locs → W p l e R s m args below meth c H locs cells slots Q (F0 m (pc + 3) ls rest)) : W p l e R s m args below meth c H locs cells slots Q (F0 m pc ls (v :: .ref a :: rest)) := r_pf F uX2 rfl tyX2_ok nmX2 12 (by decide) kf_X2_52 rfl B q0 ws' he hn hfit hlen hw d kk
theorem kf_X2_55 : Cond.fieldLink RX2 55 "HalfAsleep$Town" "worthRight" "I" ∈ tb := tb_i 112 (by decide +kernel) rfl
theorem gf_X2_55 (F : Fx p m c cc nL s args RX2 D cI cB) (P : va_P D vwCl ws H) (q0 : Nat) (he : ws[q0]? = some (a, .inr (2, fs))) (v : Value) (hv : fs[13]? = some v) (d : decode cc pc = .ok (.getfield 55, 3)) (kk : W p l e R s m args below meth c H locs cells slots Q (F0 m (pc + 3) ls (v :: rest))) : W p l e R s m args below meth c H locs cells slots Q (F0 m pc ls (.ref a :: rest)) := r_gf F uX2 rfl 13 (by decide) kf_X2_55 P q0 he v hv d kk
theorem pf_X2_55 (F : Fx p m c cc nL s args RX2 D cI cB) (B : Bx D A H0 ws H locs) (q0 : Nat) (ws' : va_W) (he : ws[q0]? = some (a, .inr (2, fs))) (hn : narrow (tyX2 13) v = v) (hfit : fits (tyX2 13) v = true) (hlen : 13 < fs.length) (hw : ws.set q0 (a, .inr (2, fs.set 13 v)) = ws') (d : decode cc pc = .ok (.putfield 55, 3)) (kk : ∀ (H : Heap) (locs : List Loc), Bx D A H0 ws' H locs → W p l e R s m args below meth c H locs cells slots Q (F0 m (pc + 3) ls rest)) : W p l e R s m args below meth c H locs cells slots Q (F0 m pc ls (v :: .ref a :: rest)) := r_pf F uX2 rfl tyX2_ok nmX2 13 (by decide) kf_X2_55 rfl B q0 ws' he hn hfit hlen hw d kk
theorem kf_X1_18 : Cond.fieldLink RX1 18 "HalfAsleep$Standing" "shift" "I" ∈ tb := tb_i 148 (by decide +kernel) rfl
theorem gf_X1_18 (F : Fx p m c cc nL s args RX1 D cI cB) (P : va_P D vwCl ws H) (q0 : Nat) (he : ws[q0]? = some (a, .inr (1, fs))) (v : Value) (hv : fs[0]? = some v) (d : decode cc pc = .ok (.getfield 18, 3)) (kk : W p l e R s m args below meth c H locs cells slots Q (F0 m (pc + 3) ls (v :: rest))) : W p l e R s m args below meth c H locs cells slots Q (F0 m pc ls (.ref a :: rest)) := r_gf F uX1 rfl 0 (by decide) kf_X1_18 P q0 he v hv d kk
theorem pf_X1_18 (F : Fx p m c cc nL s args RX1 D cI cB) (B : Bx D A H0 ws H locs) (q0 : Nat) (ws' : va_W) (he : ws[q0]? = some (a, .inr (1, fs))) (hn : narrow (tyX1 0) v = v) (hfit : fits (tyX1 0) v = true) (hlen : 0 < fs.length) (hw : ws.set q0 (a, .inr (1, fs.set 0 v)) = ws') (d : decode cc pc = .ok (.putfield 18, 3)) (kk : ∀ (H : Heap) (locs : List Loc), Bx D A H0 ws' H locs → W p l e R s m args below meth c H locs cells slots Q (F0 m (pc + 3) ls rest)) : W p l e R s m args below meth c H locs cells slots Q (F0 m pc ls (v :: .ref a :: rest)) := r_pf F uX1 rfl tyX1_ok nmX1 0 (by decide) kf_X1_18 rfl B q0 ws' he hn hfit hlen hw d kk
theorem kf_X1_9 : Cond.fieldLink RX1 9 "HalfAsleep$Standing" "known" "[I" ∈ tb := tb_i 150 (by decide +kernel) rfl
theorem gf_X1_9 (F : Fx p m c cc nL s args RX1 D cI cB) (P : va_P D vwCl ws H) (q0 : Nat) (he : ws[q0]? = some (a, .inr (1, fs))) (v : Value) (hv : fs[1]? = some v) (d : decode cc pc = .ok (.getfield 9, 3)) (kk : W p l e R s m args below meth c H locs cells slots Q (F0 m (pc + 3) ls (v :: rest))) : W p l e R s m args below meth c H locs cells slots Q (F0 m pc ls (.ref a :: rest)) := r_gf F uX1 rfl 1 (by decide) kf_X1_9 P q0 he v hv d kk
theorem kf_X1_15 : Cond.fieldLink RX1 15 "HalfAsleep$Standing" "hung" "[I" ∈ tb := tb_i 152 (by decide +kernel) rfl
theorem gf_X1_15 (F : Fx p m c cc nL s args RX1 D cI cB) (P : va_P D vwCl ws H) (q0 : Nat) (he : ws[q0]? = some (a, .inr (1, fs))) (v : Value) (hv : fs[2]? = some v) (d : decode cc pc = .ok (.getfield 15, 3)) (kk : W p l e R s m args below meth c H locs cells slots Q (F0 m (pc + 3) ls (v :: rest))) : W p l e R s m args below meth c H locs cells slots Q (F0 m pc ls (.ref a :: rest)) := r_gf F uX1 rfl 2 (by decide) kf_X1_15 P q0 he v hv d kk
theorem kf_X3_12 : Cond.fieldLink RX3 12 "HalfAsleep" "page" "LHalfAsleep$Page;" ∈ tb := tb_i 180 (by decide +kernel) rfl
theorem gf_X3_12 (F : Fx p m c cc nL s args RX3 D cI cB) (P : va_P D vwCl ws H) (q0 : Nat) (he : ws[q0]? = some (a, .inr (3, fs))) (v : Value) (hv : fs[0]? = some v) (d : decode cc pc = .ok (.getfield 12, 3)) (kk : W p l e R s m args below meth c H locs cells slots Q (F0 m (pc + 3) ls (v :: rest))) : W p l e R s m args below meth c H locs cells slots Q (F0 m pc ls (.ref a :: rest)) := r_gf F uX3 rfl 0 (by decide) kf_X3_12 P q0 he v hv d kk
theorem kf_X3_19 : Cond.fieldLink RX3 19 "HalfAsleep" "laid" "LHalfAsleep$Town;" ∈ tb := tb_i 181 (by decide +kernel) rfl
theorem gf_X3_19 (F : Fx p m c cc nL s args RX3 D cI cB) (P : va_P D vwCl ws H) (q0 : Nat) (he : ws[q0]? = some (a, .inr (3, fs))) (v : Value) (hv : fs[1]? = some v) (d : decode cc pc = .ok (.getfield 19, 3)) (kk : W p l e R s m args below meth c H locs cells slots Q (F0 m (pc + 3) ls (v :: rest))) : W p l e R s m args below meth c H locs cells slots Q (F0 m pc ls (.ref a :: rest)) := r_gf F uX3 rfl 1 (by decide) kf_X3_19 P q0 he v hv d kk
theorem pf_X3_19 (F : Fx p m c cc nL s args RX3 D cI cB) (B : Bx D A H0 ws H locs) (q0 : Nat) (ws' : va_W) (he : ws[q0]? = some (a, .inr (3, fs))) (hn : narrow (tyX3 1) v = v) (hfit : fits (tyX3 1) v = true) (hlen : 1 < fs.length) (hw : ws.set q0 (a, .inr (3, fs.set 1 v)) = ws') (d : decode cc pc = .ok (.putfield 19, 3)) (kk : ∀ (H : Heap) (locs : List Loc), Bx D A H0 ws' H locs → W p l e R s m args below meth c H locs cells slots Q (F0 m (pc + 3) ls rest)) : W p l e R s m args below meth c H locs cells slots Q (F0 m pc ls (v :: .ref a :: rest)) := r_pf F uX3 rfl tyX3_ok nmX3 1 (by decide) kf_X3_19 rfl B q0 ws' he hn hfit hlen hw d kk
theorem kf_X3_23 : Cond.fieldLink RX3 23 "HalfAsleep" "draft" "LHalfAsleep$Town;" ∈ tb := tb_i 182 (by decide +kernel) rfl
theorem gf_X3_23 (F : Fx p m c cc nL s args RX3 D cI cB) (P : va_P D vwCl ws H) (q0 : Nat) (he : ws[q0]? = some (a, .inr (3, fs))) (v : Value) (hv : fs[2]? = some v) (d : decode cc pc = .ok (.getfield 23, 3)) (kk : W p l e R s m args below meth c H locs cells slots Q (F0 m (pc + 3) ls (v :: rest))) : W p l e R s m args below meth c H locs cells slots Q (F0 m pc ls (.ref a :: rest)) := r_gf F uX3 rfl 2 (by decide) kf_X3_23 P q0 he v hv d kk
theorem pf_X3_23 (F : Fx p m c cc nL s args RX3 D cI cB) (B : Bx D A H0 ws H locs) (q0 : Nat) (ws' : va_W) (he : ws[q0]? = some (a, .inr (3, fs))) (hn : narrow (tyX3 2) v = v) (hfit : fits (tyX3 2) v = true) (hlen : 2 < fs.length) (hw : ws.set q0 (a, .inr (3, fs.set 2 v)) = ws') (d : decode cc pc = .ok (.putfield 23, 3)) (kk : ∀ (H : Heap) (locs : List Loc), Bx D A H0 ws' H locs → W p l e R s m args below meth c H locs cells slots Q (F0 m (pc + 3) ls rest)) : W p l e R s m args below meth c H locs cells slots Q (F0 m pc ls (v :: .ref a :: rest)) := r_pf F uX3 rfl tyX3_ok nmX3 2 (by decide) kf_X3_23 rfl B q0 ws' he hn hfit hlen hw d kk
theorem kf_X3_29 : Cond.fieldLink RX3 29 "HalfAsleep" "now" "LHalfAsleep$Standing;" ∈ tb := tb_i 183 (by decide +kernel) rfl
theorem gf_X3_29 (F : Fx p m c cc nL s args RX3 D cI cB) (P : va_P D vwCl ws H) (q0 : Nat) (he : ws[q0]? = some (a, .inr (3, fs))) (v : Value) (hv : fs[3]? = some v) (d : decode cc pc = .ok (.getfield 29, 3)) (kk : W p l e R s m args below meth c H locs cells slots Q (F0 m (pc + 3) ls (v :: rest))) : W p l e R s m args below meth c H locs cells slots Q (F0 m pc ls (.ref a :: rest)) := r_gf F uX3 rfl 3 (by decide) kf_X3_29 P q0 he v hv d kk
theorem kf_X3_33 : Cond.fieldLink RX3 33 "HalfAsleep" "trial" "LHalfAsleep$Standing;" ∈ tb := tb_i 184 (by decide +kernel) rfl
theorem gf_X3_33 (F : Fx p m c cc nL s args RX3 D cI cB) (P : va_P D vwCl ws H) (q0 : Nat) (he : ws[q0]? = some (a, .inr (3, fs))) (v : Value) (hv : fs[4]? = some v) (d : decode cc pc = .ok (.getfield 33, 3)) (kk : W p l e R s m args below meth c H locs cells slots Q (F0 m (pc + 3) ls (v :: rest))) : W p l e R s m args below meth c H locs cells slots Q (F0 m pc ls (.ref a :: rest)) := r_gf F uX3 rfl 4 (by decide) kf_X3_33 P q0 he v hv d kk
theorem kf_X3_36 : Cond.fieldLink RX3 36 "HalfAsleep" "firstKept" "LHalfAsleep$Standing;" ∈ tb := tb_i 185 (by decide +kernel) rfl
theorem gf_X3_36 (F : Fx p m c cc nL s args RX3 D cI cB) (P : va_P D vwCl ws H) (q0 : Nat) (he : ws[q0]? = some (a, .inr (3, fs))) (v : Value) (hv : fs[5]? = some v) (d : decode cc pc = .ok (.getfield 36, 3)) (kk : W p l e R s m args below meth c H locs cells slots Q (F0 m (pc + 3) ls (v :: rest))) : W p l e R s m args below meth c H locs cells slots Q (F0 m pc ls (.ref a :: rest)) := r_gf F uX3 rfl 5 (by decide) kf_X3_36 P q0 he v hv d kk
theorem kf_X3_39 : Cond.fieldLink RX3 39 "HalfAsleep" "secondKept" "LHalfAsleep$Standing;" ∈ tb := tb_i 186 (by decide +kernel) rfl
theorem gf_X3_39 (F : Fx p m c cc nL s args RX3 D cI cB) (P : va_P D vwCl ws H) (q0 : Nat) (he : ws[q0]? = some (a, .inr (3, fs))) (v : Value) (hv : fs[6]? = some v) (d : decode cc pc = .ok (.getfield 39, 3)) (kk : W p l e R s m args below meth c H locs cells slots Q (F0 m (pc + 3) ls (v :: rest))) : W p l e R s m args below meth c H locs cells slots Q (F0 m pc ls (.ref a :: rest)) := r_gf F uX3 rfl 6 (by decide) kf_X3_39 P q0 he v hv d kk
theorem kf_X3_86 : Cond.fieldLink RX3 86 "HalfAsleep" "keptNumber" "I" ∈ tb := tb_i 187 (by decide +kernel) rfl
theorem gf_X3_86 (F : Fx p m c cc nL s args RX3 D cI cB) (P : va_P D vwCl ws H) (q0 : Nat) (he : ws[q0]? = some (a, .inr (3, fs))) (v : Value) (hv : fs[7]? = some v) (d : decode cc pc = .ok (.getfield 86, 3)) (kk : W p l e R s m args below meth c H locs cells slots Q (F0 m (pc + 3) ls (v :: rest))) : W p l e R s m args below meth c H locs cells slots Q (F0 m pc ls (.ref a :: rest)) := r_gf F uX3 rfl 7 (by decide) kf_X3_86 P q0 he v hv d kk
theorem pf_X3_86 (F : Fx p m c cc nL s args RX3 D cI cB) (B : Bx D A H0 ws H locs) (q0 : Nat) (ws' : va_W) (he : ws[q0]? = some (a, .inr (3, fs))) (hn : narrow (tyX3 7) v = v) (hfit : fits (tyX3 7) v = true) (hlen : 7 < fs.length) (hw : ws.set q0 (a, .inr (3, fs.set 7 v)) = ws') (d : decode cc pc = .ok (.putfield 86, 3)) (kk : ∀ (H : Heap) (locs : List Loc), Bx D A H0 ws' H locs → W p l e R s m args below meth c H locs cells slots Q (F0 m (pc + 3) ls rest)) : W p l e R s m args below meth c H locs cells slots Q (F0 m pc ls (v :: .ref a :: rest)) := r_pf F uX3 rfl tyX3_ok nmX3 7 (by decide) kf_X3_86 rfl B q0 ws' he hn hfit hlen hw d kk
theorem kf_X3_42 : Cond.fieldLink RX3 42 "HalfAsleep" "doers" "[I" ∈ tb := tb_i 188 (by decide +kernel) rfl
theorem gf_X3_42 (F : Fx p m c cc nL s args RX3 D cI cB) (P : va_P D vwCl ws H) (q0 : Nat) (he : ws[q0]? = some (a, .inr (3, fs))) (v : Value) (hv : fs[8]? = some v) (d : decode cc pc = .ok (.getfield 42, 3)) (kk : W p l e R s m args below meth c H locs cells slots Q (F0 m (pc + 3) ls (v :: rest))) : W p l e R s m args below meth c H locs cells slots Q (F0 m pc ls (.ref a :: rest)) := r_gf F uX3 rfl 8 (by decide) kf_X3_42 P q0 he v hv d kk
theorem kf_X3_83 : Cond.fieldLink RX3 83 "HalfAsleep" "deeds" "I" ∈ tb := tb_i 189 (by decide +kernel) rfl
theorem gf_X3_83 (F : Fx p m c cc nL s args RX3 D cI cB) (P : va_P D vwCl ws H) (q0 : Nat) (he : ws[q0]? = some (a, .inr (3, fs))) (v : Value) (hv : fs[9]? = some v) (d : decode cc pc = .ok (.getfield 83, 3)) (kk : W p l e R s m args below meth c H locs cells slots Q (F0 m (pc + 3) ls (v :: rest))) : W p l e R s m args below meth c H locs cells slots Q (F0 m pc ls (.ref a :: rest)) := r_gf F uX3 rfl 9 (by decide) kf_X3_83 P q0 he v hv d kk
theorem pf_X3_83 (F : Fx p m c cc nL s args RX3 D cI cB) (B : Bx D A H0 ws H locs) (q0 : Nat) (ws' : va_W) (he : ws[q0]? = some (a, .inr (3, fs))) (hn : narrow (tyX3 9) v = v) (hfit : fits (tyX3 9) v = true) (hlen : 9 < fs.length) (hw : ws.set q0 (a, .inr (3, fs.set 9 v)) = ws') (d : decode cc pc = .ok (.putfield 83, 3)) (kk : ∀ (H : Heap) (locs : List Loc), Bx D A H0 ws' H locs → W p l e R s m args below meth c H locs cells slots Q (F0 m (pc + 3) ls rest)) : W p l e R s m args below meth c H locs cells slots Q (F0 m pc ls (v :: .ref a :: rest)) := r_pf F uX3 rfl tyX3_ok nmX3 9 (by decide) kf_X3_83 rfl B q0 ws' he hn hfit hlen hw d kk
theorem kf_X3_46 : Cond.fieldLink RX3 46 "HalfAsleep" "mostLeft" "[I" ∈ tb := tb_i 190 (by decide +kernel) rfl
theorem gf_X3_46 (F : Fx p m c cc nL s args RX3 D cI cB) (P : va_P D vwCl ws H) (q0 : Nat) (he : ws[q0]? = some (a, .inr (3, fs))) (v : Value) (hv : fs[10]? = some v) (d : decode cc pc = .ok (.getfield 46, 3)) (kk : W p l e R s m args below meth c H locs cells slots Q (F0 m (pc + 3) ls (v :: rest))) : W p l e R s m args below meth c H locs cells slots Q (F0 m pc ls (.ref a :: rest)) := r_gf F uX3 rfl 10 (by decide) kf_X3_46 P q0 he v hv d kk
theorem kf_X3_49 : Cond.fieldLink RX3 49 "HalfAsleep" "mostRight" "[I" ∈ tb := tb_i 191 (by decide +kernel) rfl
theorem gf_X3_49 (F : Fx p m c cc nL s args RX3 D cI cB) (P : va_P D vwCl ws H) (q0 : Nat) (he : ws[q0]? = some (a, .inr (3, fs))) (v : Value) (hv : fs[11]? = some v) (d : decode cc pc = .ok (.getfield 49, 3)) (kk : W p l e R s m args below meth c H locs cells slots Q (F0 m (pc + 3) ls (v :: rest))) : W p l e R s m args below meth c H locs cells slots Q (F0 m pc ls (.ref a :: rest)) := r_gf F uX3 rfl 11 (by decide) kf_X3_49 P q0 he v hv d kk
theorem kf_X4_7 : Cond.fieldLink RX4 7 "HalfAsleepModel" "text" "[I" ∈ tb := tb_i 514 (by decide +kernel) rfl
theorem gf_X4_7 (F : Fx p m c cc nL s args RX4 D cI cB) (P : va_P D vwCl ws H) (q0 : Nat) (he : ws[q0]? = some (a, .inr (4, fs))) (v : Value) (hv : fs[0]? = some v) (d : decode cc pc = .ok (.getfield 7, 3)) (kk : W p l e R s m args below meth c H locs cells slots Q (F0 m (pc + 3) ls (v :: rest))) : W p l e R s m args below meth c H locs cells slots Q (F0 m pc ls (.ref a :: rest)) := r_gf F uX4 rfl 0 (by decide) kf_X4_7 P q0 he v hv d kk
theorem kf_X4_44 : Cond.fieldLink RX4 44 "HalfAsleepModel" "length" "I" ∈ tb := tb_i 515 (by decide +kernel) rfl
theorem gf_X4_44 (F : Fx p m c cc nL s args RX4 D cI cB) (P : va_P D vwCl ws H) (q0 : Nat) (he : ws[q0]? = some (a, .inr (4, fs))) (v : Value) (hv : fs[1]? = some v) (d : decode cc pc = .ok (.getfield 44, 3)) (kk : W p l e R s m args below meth c H locs cells slots Q (F0 m (pc + 3) ls (v :: rest))) : W p l e R s m args below meth c H locs cells slots Q (F0 m pc ls (.ref a :: rest)) := r_gf F uX4 rfl 1 (by decide) kf_X4_44 P q0 he v hv d kk
theorem pf_X4_44 (F : Fx p m c cc nL s args RX4 D cI cB) (B : Bx D A H0 ws H locs) (q0 : Nat) (ws' : va_W) (he : ws[q0]? = some (a, .inr (4, fs))) (hn : narrow (tyX4 1) v = v) (hfit : fits (tyX4 1) v = true) (hlen : 1 < fs.length) (hw : ws.set q0 (a, .inr (4, fs.set 1 v)) = ws') (d : decode cc pc = .ok (.putfield 44, 3)) (kk : ∀ (H : Heap) (locs : List Loc), Bx D A H0 ws' H locs → W p l e R s m args below meth c H locs cells slots Q (F0 m (pc + 3) ls rest)) : W p l e R s m args below meth c H locs cells slots Q (F0 m pc ls (v :: .ref a :: rest)) := r_pf F uX4 rfl tyX4_ok nmX4 1 (by decide) kf_X4_44 rfl B q0 ws' he hn hfit hlen hw d kk
theorem kf_X4_13 : Cond.fieldLink RX4 13 "HalfAsleepModel" "book" "[I" ∈ tb := tb_i 516 (by decide +kernel) rfl
theorem gf_X4_13 (F : Fx p m c cc nL s args RX4 D cI cB) (P : va_P D vwCl ws H) (q0 : Nat) (he : ws[q0]? = some (a, .inr (4, fs))) (v : Value) (hv : fs[2]? = some v) (d : decode cc pc = .ok (.getfield 13, 3)) (kk : W p l e R s m args below meth c H locs cells slots Q (F0 m (pc + 3) ls (v :: rest))) : W p l e R s m args below meth c H locs cells slots Q (F0 m pc ls (.ref a :: rest)) := r_gf F uX4 rfl 2 (by decide) kf_X4_13 P q0 he v hv d kk
theorem kf_X4_16 : Cond.fieldLink RX4 16 "HalfAsleepModel" "draft" "[I" ∈ tb := tb_i 517 (by decide +kernel) rfl
theorem gf_X4_16 (F : Fx p m c cc nL s args RX4 D cI cB) (P : va_P D vwCl ws H) (q0 : Nat) (he : ws[q0]? = some (a, .inr (4, fs))) (v : Value) (hv : fs[3]? = some v) (d : decode cc pc = .ok (.getfield 16, 3)) (kk : W p l e R s m args below meth c H locs cells slots Q (F0 m (pc + 3) ls (v :: rest))) : W p l e R s m args below meth c H locs cells slots Q (F0 m pc ls (.ref a :: rest)) := r_gf F uX4 rfl 3 (by decide) kf_X4_16 P q0 he v hv d kk
theorem kf_X4_19 : Cond.fieldLink RX4 19 "HalfAsleepModel" "s" "[I" ∈ tb := tb_i 518 (by decide +kernel) rfl
theorem gf_X4_19 (F : Fx p m c cc nL s args RX4 D cI cB) (P : va_P D vwCl ws H) (q0 : Nat) (he : ws[q0]? = some (a, .inr (4, fs))) (v : Value) (hv : fs[4]? = some v) (d : decode cc pc = .ok (.getfield 19, 3)) (kk : W p l e R s m args below meth c H locs cells slots Q (F0 m (pc + 3) ls (v :: rest))) : W p l e R s m args below meth c H locs cells slots Q (F0 m pc ls (.ref a :: rest)) := r_gf F uX4 rfl 4 (by decide) kf_X4_19 P q0 he v hv d kk
theorem kf_X4_22 : Cond.fieldLink RX4 22 "HalfAsleepModel" "ahead" "[I" ∈ tb := tb_i 519 (by decide +kernel) rfl
theorem gf_X4_22 (F : Fx p m c cc nL s args RX4 D cI cB) (P : va_P D vwCl ws H) (q0 : Nat) (he : ws[q0]? = some (a, .inr (4, fs))) (v : Value) (hv : fs[5]? = some v) (d : decode cc pc = .ok (.getfield 22, 3)) (kk : W p l e R s m args below meth c H locs cells slots Q (F0 m (pc + 3) ls (v :: rest))) : W p l e R s m args below meth c H locs cells slots Q (F0 m pc ls (.ref a :: rest)) := r_gf F uX4 rfl 5 (by decide) kf_X4_22 P q0 he v hv d kk
theorem kf_X4_25 : Cond.fieldLink RX4 25 "HalfAsleepModel" "kept" "[I" ∈ tb := tb_i 520 (by decide +kernel) rfl
theorem gf_X4_25 (F : Fx p m c cc nL s args RX4 D cI cB) (P : va_P D vwCl ws H) (q0 : Nat) (he : ws[q0]? = some (a, .inr (4, fs))) (v : Value) (hv : fs[6]? = some v) (d : decode cc pc = .ok (.getfield 25, 3)) (kk : W p l e R s m args below meth c H locs cells slots Q (F0 m (pc + 3) ls (v :: rest))) : W p l e R s m args below meth c H locs cells slots Q (F0 m pc ls (.ref a :: rest)) := r_gf F uX4 rfl 6 (by decide) kf_X4_25 P q0 he v hv d kk
theorem kf_X4_96 : Cond.fieldLink RX4 96 "HalfAsleepModel" "keptMany" "I" ∈ tb := tb_i 521 (by decide +kernel) rfl
theorem gf_X4_96 (F : Fx p m c cc nL s args RX4 D cI cB) (P : va_P D vwCl ws H) (q0 : Nat) (he : ws[q0]? = some (a, .inr (4, fs))) (v : Value) (hv : fs[7]? = some v) (d : decode cc pc = .ok (.getfield 96, 3)) (kk : W p l e R s m args below meth c H locs cells slots Q (F0 m (pc + 3) ls (v :: rest))) : W p l e R s m args below meth c H locs cells slots Q (F0 m pc ls (.ref a :: rest)) := r_gf F uX4 rfl 7 (by decide) kf_X4_96 P q0 he v hv d kk
theorem pf_X4_96 (F : Fx p m c cc nL s args RX4 D cI cB) (B : Bx D A H0 ws H locs) (q0 : Nat) (ws' : va_W) (he : ws[q0]? = some (a, .inr (4, fs))) (hn : narrow (tyX4 7) v = v) (hfit : fits (tyX4 7) v = true) (hlen : 7 < fs.length) (hw : ws.set q0 (a, .inr (4, fs.set 7 v)) = ws') (d : decode cc pc = .ok (.putfield 96, 3)) (kk : ∀ (H : Heap) (locs : List Loc), Bx D A H0 ws' H locs → W p l e R s m args below meth c H locs cells slots Q (F0 m (pc + 3) ls rest)) : W p l e R s m args below meth c H locs cells slots Q (F0 m pc ls (v :: .ref a :: rest)) := r_pf F uX4 rfl tyX4_ok nmX4 7 (by decide) kf_X4_96 rfl B q0 ws' he hn hfit hlen hw d kk
theorem kf_X4_28 : Cond.fieldLink RX4 28 "HalfAsleepModel" "deedShift" "[I" ∈ tb := tb_i 522 (by decide +kernel) rfl
theorem gf_X4_28 (F : Fx p m c cc nL s args RX4 D cI cB) (P : va_P D vwCl ws H) (q0 : Nat) (he : ws[q0]? = some (a, .inr (4, fs))) (v : Value) (hv : fs[8]? = some v) (d : decode cc pc = .ok (.getfield 28, 3)) (kk : W p l e R s m args below meth c H locs cells slots Q (F0 m (pc + 3) ls (v :: rest))) : W p l e R s m args below meth c H locs cells slots Q (F0 m pc ls (.ref a :: rest)) := r_gf F uX4 rfl 8 (by decide) kf_X4_28 P q0 he v hv d kk
theorem kf_X4_31 : Cond.fieldLink RX4 31 "HalfAsleepModel" "deedFacts" "[I" ∈ tb := tb_i 523 (by decide +kernel) rfl
theorem gf_X4_31 (F : Fx p m c cc nL s args RX4 D cI cB) (P : va_P D vwCl ws H) (q0 : Nat) (he : ws[q0]? = some (a, .inr (4, fs))) (v : Value) (hv : fs[9]? = some v) (d : decode cc pc = .ok (.getfield 31, 3)) (kk : W p l e R s m args below meth c H locs cells slots Q (F0 m (pc + 3) ls (v :: rest))) : W p l e R s m args below meth c H locs cells slots Q (F0 m pc ls (.ref a :: rest)) := r_gf F uX4 rfl 9 (by decide) kf_X4_31 P q0 he v hv d kk
theorem kf_X4_34 : Cond.fieldLink RX4 34 "HalfAsleepModel" "can" "[I" ∈ tb := tb_i 524 (by decide +kernel) rfl
theorem gf_X4_34 (F : Fx p m c cc nL s args RX4 D cI cB) (P : va_P D vwCl ws H) (q0 : Nat) (he : ws[q0]? = some (a, .inr (4, fs))) (v : Value) (hv : fs[10]? = some v) (d : decode cc pc = .ok (.getfield 34, 3)) (kk : W p l e R s m args below meth c H locs cells slots Q (F0 m (pc + 3) ls (v :: rest))) : W p l e R s m args below meth c H locs cells slots Q (F0 m pc ls (.ref a :: rest)) := r_gf F uX4 rfl 10 (by decide) kf_X4_34 P q0 he v hv d kk
theorem kf_X4_93 : Cond.fieldLink RX4 93 "HalfAsleepModel" "deeds" "I" ∈ tb := tb_i 525 (by decide +kernel) rfl
theorem gf_X4_93 (F : Fx p m c cc nL s args RX4 D cI cB) (P : va_P D vwCl ws H) (q0 : Nat) (he : ws[q0]? = some (a, .inr (4, fs))) (v : Value) (hv : fs[11]? = some v) (d : decode cc pc = .ok (.getfield 93, 3)) (kk : W p l e R s m args below meth c H locs cells slots Q (F0 m (pc + 3) ls (v :: rest))) : W p l e R s m args below meth c H locs cells slots Q (F0 m pc ls (.ref a :: rest)) := r_gf F uX4 rfl 11 (by decide) kf_X4_93 P q0 he v hv d kk
theorem pf_X4_93 (F : Fx p m c cc nL s args RX4 D cI cB) (B : Bx D A H0 ws H locs) (q0 : Nat) (ws' : va_W) (he : ws[q0]? = some (a, .inr (4, fs))) (hn : narrow (tyX4 11) v = v) (hfit : fits (tyX4 11) v = true) (hlen : 11 < fs.length) (hw : ws.set q0 (a, .inr (4, fs.set 11 v)) = ws') (d : decode cc pc = .ok (.putfield 93, 3)) (kk : ∀ (H : Heap) (locs : List Loc), Bx D A H0 ws' H locs → W p l e R s m args below meth c H locs cells slots Q (F0 m (pc + 3) ls rest)) : W p l e R s m args below meth c H locs cells slots Q (F0 m pc ls (v :: .ref a :: rest)) := r_pf F uX4 rfl tyX4_ok nmX4 11 (by decide) kf_X4_93 rfl B q0 ws' he hn hfit hlen hw d kk
theorem kf_X4_50 : Cond.fieldLink RX4 50 "HalfAsleepModel" "at" "I" ∈ tb := tb_i 526 (by decide +kernel) rfl
theorem gf_X4_50 (F : Fx p m c cc nL s args RX4 D cI cB) (P : va_P D vwCl ws H) (q0 : Nat) (he : ws[q0]? = some (a, .inr (4, fs))) (v : Value) (hv : fs[12]? = some v) (d : decode cc pc = .ok (.getfield 50, 3)) (kk : W p l e R s m args below meth c H locs cells slots Q (F0 m (pc + 3) ls (v :: rest))) : W p l e R s m args below meth c H locs cells slots Q (F0 m pc ls (.ref a :: rest)) := r_gf F uX4 rfl 12 (by decide) kf_X4_50 P q0 he v hv d kk
theorem pf_X4_50 (F : Fx p m c cc nL s args RX4 D cI cB) (B : Bx D A H0 ws H locs) (q0 : Nat) (ws' : va_W) (he : ws[q0]? = some (a, .inr (4, fs))) (hn : narrow (tyX4 12) v = v) (hfit : fits (tyX4 12) v = true) (hlen : 12 < fs.length) (hw : ws.set q0 (a, .inr (4, fs.set 12 v)) = ws') (d : decode cc pc = .ok (.putfield 50, 3)) (kk : ∀ (H : Heap) (locs : List Loc), Bx D A H0 ws' H locs → W p l e R s m args below meth c H locs cells slots Q (F0 m (pc + 3) ls rest)) : W p l e R s m args below meth c H locs cells slots Q (F0 m pc ls (v :: .ref a :: rest)) := r_pf F uX4 rfl tyX4_ok nmX4 12 (by decide) kf_X4_50 rfl B q0 ws' he hn hfit hlen hw d kk
theorem kf_X4_37 : Cond.fieldLink RX4 37 "HalfAsleepModel" "told" "[I" ∈ tb := tb_i 527 (by decide +kernel) rfl
theorem gf_X4_37 (F : Fx p m c cc nL s args RX4 D cI cB) (P : va_P D vwCl ws H) (q0 : Nat) (he : ws[q0]? = some (a, .inr (4, fs))) (v : Value) (hv : fs[13]? = some v) (d : decode cc pc = .ok (.getfield 37, 3)) (kk : W p l e R s m args below meth c H locs cells slots Q (F0 m (pc + 3) ls (v :: rest))) : W p l e R s m args below meth c H locs cells slots Q (F0 m pc ls (.ref a :: rest)) := r_gf F uX4 rfl 13 (by decide) kf_X4_37 P q0 he v hv d kk
theorem kf_X3_68 : Cond.fieldLinkNest RX3 68 "HalfAsleep$Page" "length" "I" "HalfAsleep" ∈ nst := nst_i 66 (by decide +kernel) rfl
theorem gf_X3_68 (F : Fx p m c cc nL s args RX3 D cI cB) (P : va_P D vwCl ws H) (q0 : Nat) (he : ws[q0]? = some (a, .inr (0, fs))) (v : Value) (hv : fs[1]? = some v) (d : decode cc pc = .ok (.getfield 68, 3)) (kk : W p l e R s m args below meth c H locs cells slots Q (F0 m (pc + 3) ls (v :: rest))) : W p l e R s m args below meth c H locs cells slots Q (F0 m pc ls (.ref a :: rest)) := r_gfN F uX0 rfl 1 (by decide) kf_X3_68 P q0 he v hv d kk
theorem pf_X3_68 (F : Fx p m c cc nL s args RX3 D cI cB) (B : Bx D A H0 ws H locs) (q0 : Nat) (ws' : va_W) (he : ws[q0]? = some (a, .inr (0, fs))) (hn : narrow (tyX0 1) v = v) (hfit : fits (tyX0 1) v = true) (hlen : 1 < fs.length) (hw : ws.set q0 (a, .inr (0, fs.set 1 v)) = ws') (d : decode cc pc = .ok (.putfield 68, 3)) (kk : ∀ (H : Heap) (locs : List Loc), Bx D A H0 ws' H locs → W p l e R s m args below meth c H locs cells slots Q (F0 m (pc + 3) ls rest)) : W p l e R s m args below meth c H locs cells slots Q (F0 m pc ls (v :: .ref a :: rest)) := r_pfN F uX0 rfl tyX0_ok nmX0 1 (by decide) kf_X3_68 rfl B q0 ws' he hn hfit hlen hw d kk
theorem kf_X3_80 : Cond.fieldLinkNest RX3 80 "HalfAsleep$Town" "persons" "I" "HalfAsleep" ∈ nst := nst_i 91 (by decide +kernel) rfl
theorem gf_X3_80 (F : Fx p m c cc nL s args RX3 D cI cB) (P : va_P D vwCl ws H) (q0 : Nat) (he : ws[q0]? = some (a, .inr (2, fs))) (v : Value) (hv : fs[0]? = some v) (d : decode cc pc = .ok (.getfield 80, 3)) (kk : W p l e R s m args below meth c H locs cells slots Q (F0 m (pc + 3) ls (v :: rest))) : W p l e R s m args below meth c H locs cells slots Q (F0 m pc ls (.ref a :: rest)) := r_gfN F uX2 rfl 0 (by decide) kf_X3_80 P q0 he v hv d kk
theorem pf_X3_80 (F : Fx p m c cc nL s args RX3 D cI cB) (B : Bx D A H0 ws H locs) (q0 : Nat) (ws' : va_W) (he : ws[q0]? = some (a, .inr (2, fs))) (hn : narrow (tyX2 0) v = v) (hfit : fits (tyX2 0) v = true) (hlen : 0 < fs.length) (hw : ws.set q0 (a, .inr (2, fs.set 0 v)) = ws') (d : decode cc pc = .ok (.putfield 80, 3)) (kk : ∀ (H : Heap) (locs : List Loc), Bx D A H0 ws' H locs → W p l e R s m args below meth c H locs cells slots Q (F0 m (pc + 3) ls rest)) : W p l e R s m args below meth c H locs cells slots Q (F0 m pc ls (v :: .ref a :: rest)) := r_pfN F uX2 rfl tyX2_ok nmX2 0 (by decide) kf_X3_80 rfl B q0 ws' he hn hfit hlen hw d kk
theorem kf_X1_45 : Cond.fieldLinkNest RX1 45 "HalfAsleep$Town" "persons" "I" "HalfAsleep" ∈ nst := nst_i 92 (by decide +kernel) rfl
theorem gf_X1_45 (F : Fx p m c cc nL s args RX1 D cI cB) (P : va_P D vwCl ws H) (q0 : Nat) (he : ws[q0]? = some (a, .inr (2, fs))) (v : Value) (hv : fs[0]? = some v) (d : decode cc pc = .ok (.getfield 45, 3)) (kk : W p l e R s m args below meth c H locs cells slots Q (F0 m (pc + 3) ls (v :: rest))) : W p l e R s m args below meth c H locs cells slots Q (F0 m pc ls (.ref a :: rest)) := r_gfN F uX2 rfl 0 (by decide) kf_X1_45 P q0 he v hv d kk
theorem pf_X1_45 (F : Fx p m c cc nL s args RX1 D cI cB) (B : Bx D A H0 ws H locs) (q0 : Nat) (ws' : va_W) (he : ws[q0]? = some (a, .inr (2, fs))) (hn : narrow (tyX2 0) v = v) (hfit : fits (tyX2 0) v = true) (hlen : 0 < fs.length) (hw : ws.set q0 (a, .inr (2, fs.set 0 v)) = ws') (d : decode cc pc = .ok (.putfield 45, 3)) (kk : ∀ (H : Heap) (locs : List Loc), Bx D A H0 ws' H locs → W p l e R s m args below meth c H locs cells slots Q (F0 m (pc + 3) ls rest)) : W p l e R s m args below meth c H locs cells slots Q (F0 m pc ls (v :: .ref a :: rest)) := r_pfN F uX2 rfl tyX2_ok nmX2 0 (by decide) kf_X1_45 rfl B q0 ws' he hn hfit hlen hw d kk
theorem kf_X3_95 : Cond.fieldLinkNest RX3 95 "HalfAsleep$Town" "skills" "[I" "HalfAsleep" ∈ nst := nst_i 94 (by decide +kernel) rfl
theorem gf_X3_95 (F : Fx p m c cc nL s args RX3 D cI cB) (P : va_P D vwCl ws H) (q0 : Nat) (he : ws[q0]? = some (a, .inr (2, fs))) (v : Value) (hv : fs[1]? = some v) (d : decode cc pc = .ok (.getfield 95, 3)) (kk : W p l e R s m args below meth c H locs cells slots Q (F0 m (pc + 3) ls (v :: rest))) : W p l e R s m args below meth c H locs cells slots Q (F0 m pc ls (.ref a :: rest)) := r_gfN F uX2 rfl 1 (by decide) kf_X3_95 P q0 he v hv d kk
theorem kf_X1_22 : Cond.fieldLinkNest RX1 22 "HalfAsleep$Town" "knownFirst" "[I" "HalfAsleep" ∈ nst := nst_i 96 (by decide +kernel) rfl
theorem gf_X1_22 (F : Fx p m c cc nL s args RX1 D cI cB) (P : va_P D vwCl ws H) (q0 : Nat) (he : ws[q0]? = some (a, .inr (2, fs))) (v : Value) (hv : fs[2]? = some v) (d : decode cc pc = .ok (.getfield 22, 3)) (kk : W p l e R s m args below meth c H locs cells slots Q (F0 m (pc + 3) ls (v :: rest))) : W p l e R s m args below meth c H locs cells slots Q (F0 m pc ls (.ref a :: rest)) := r_gfN F uX2 rfl 2 (by decide) kf_X1_22 P q0 he v hv d kk
theorem kf_X3_183 : Cond.fieldLinkNest RX3 183 "HalfAsleep$Town" "trades" "I" "HalfAsleep" ∈ nst := nst_i 98 (by decide +kernel) rfl
theorem gf_X3_183 (F : Fx p m c cc nL s args RX3 D cI cB) (P : va_P D vwCl ws H) (q0 : Nat) (he : ws[q0]? = some (a, .inr (2, fs))) (v : Value) (hv : fs[3]? = some v) (d : decode cc pc = .ok (.getfield 183, 3)) (kk : W p l e R s m args below meth c H locs cells slots Q (F0 m (pc + 3) ls (v :: rest))) : W p l e R s m args below meth c H locs cells slots Q (F0 m pc ls (.ref a :: rest)) := r_gfN F uX2 rfl 3 (by decide) kf_X3_183 P q0 he v hv d kk
theorem pf_X3_183 (F : Fx p m c cc nL s args RX3 D cI cB) (B : Bx D A H0 ws H locs) (q0 : Nat) (ws' : va_W) (he : ws[q0]? = some (a, .inr (2, fs))) (hn : narrow (tyX2 3) v = v) (hfit : fits (tyX2 3) v = true) (hlen : 3 < fs.length) (hw : ws.set q0 (a, .inr (2, fs.set 3 v)) = ws') (d : decode cc pc = .ok (.putfield 183, 3)) (kk : ∀ (H : Heap) (locs : List Loc), Bx D A H0 ws' H locs → W p l e R s m args below meth c H locs cells slots Q (F0 m (pc + 3) ls rest)) : W p l e R s m args below meth c H locs cells slots Q (F0 m pc ls (v :: .ref a :: rest)) := r_pfN F uX2 rfl tyX2_ok nmX2 3 (by decide) kf_X3_183 rfl B q0 ws' he hn hfit hlen hw d kk
theorem kf_X3_186 : Cond.fieldLinkNest RX3 186 "HalfAsleep$Town" "pairs" "I" "HalfAsleep" ∈ nst := nst_i 103 (by decide +kernel) rfl
theorem gf_X3_186 (F : Fx p m c cc nL s args RX3 D cI cB) (P : va_P D vwCl ws H) (q0 : Nat) (he : ws[q0]? = some (a, .inr (2, fs))) (v : Value) (hv : fs[7]? = some v) (d : decode cc pc = .ok (.getfield 186, 3)) (kk : W p l e R s m args below meth c H locs cells slots Q (F0 m (pc + 3) ls (v :: rest))) : W p l e R s m args below meth c H locs cells slots Q (F0 m pc ls (.ref a :: rest)) := r_gfN F uX2 rfl 7 (by decide) kf_X3_186 P q0 he v hv d kk
theorem pf_X3_186 (F : Fx p m c cc nL s args RX3 D cI cB) (B : Bx D A H0 ws H locs) (q0 : Nat) (ws' : va_W) (he : ws[q0]? = some (a, .inr (2, fs))) (hn : narrow (tyX2 7) v = v) (hfit : fits (tyX2 7) v = true) (hlen : 7 < fs.length) (hw : ws.set q0 (a, .inr (2, fs.set 7 v)) = ws') (d : decode cc pc = .ok (.putfield 186, 3)) (kk : ∀ (H : Heap) (locs : List Loc), Bx D A H0 ws' H locs → W p l e R s m args below meth c H locs cells slots Q (F0 m (pc + 3) ls rest)) : W p l e R s m args below meth c H locs cells slots Q (F0 m pc ls (v :: .ref a :: rest)) := r_pfN F uX2 rfl tyX2_ok nmX2 7 (by decide) kf_X3_186 rfl B q0 ws' he hn hfit hlen hw d kk
theorem kf_X3_189 : Cond.fieldLinkNest RX3 189 "HalfAsleep$Town" "stepsPerShift" "I" "HalfAsleep" ∈ nst := nst_i 106 (by decide +kernel) rfl
theorem gf_X3_189 (F : Fx p m c cc nL s args RX3 D cI cB) (P : va_P D vwCl ws H) (q0 : Nat) (he : ws[q0]? = some (a, .inr (2, fs))) (v : Value) (hv : fs[9]? = some v) (d : decode cc pc = .ok (.getfield 189, 3)) (kk : W p l e R s m args below meth c H locs cells slots Q (F0 m (pc + 3) ls (v :: rest))) : W p l e R s m args below meth c H locs cells slots Q (F0 m pc ls (.ref a :: rest)) := r_gfN F uX2 rfl 9 (by decide) kf_X3_189 P q0 he v hv d kk
theorem pf_X3_189 (F : Fx p m c cc nL s args RX3 D cI cB) (B : Bx D A H0 ws H locs) (q0 : Nat) (ws' : va_W) (he : ws[q0]? = some (a, .inr (2, fs))) (hn : narrow (tyX2 9) v = v) (hfit : fits (tyX2 9) v = true) (hlen : 9 < fs.length) (hw : ws.set q0 (a, .inr (2, fs.set 9 v)) = ws') (d : decode cc pc = .ok (.putfield 189, 3)) (kk : ∀ (H : Heap) (locs : List Loc), Bx D A H0 ws' H locs → W p l e R s m args below meth c H locs cells slots Q (F0 m (pc + 3) ls rest)) : W p l e R s m args below meth c H locs cells slots Q (F0 m pc ls (v :: .ref a :: rest)) := r_pfN F uX2 rfl tyX2_ok nmX2 9 (by decide) kf_X3_189 rfl B q0 ws' he hn hfit hlen hw d kk
theorem kf_X1_48 : Cond.fieldLinkNest RX1 48 "HalfAsleep$Town" "factsTold" "I" "HalfAsleep" ∈ nst := nst_i 108 (by decide +kernel) rfl
theorem gf_X1_48 (F : Fx p m c cc nL s args RX1 D cI cB) (P : va_P D vwCl ws H) (q0 : Nat) (he : ws[q0]? = some (a, .inr (2, fs))) (v : Value) (hv : fs[10]? = some v) (d : decode cc pc = .ok (.getfield 48, 3)) (kk : W p l e R s m args below meth c H locs cells slots Q (F0 m (pc + 3) ls (v :: rest))) : W p l e R s m args below meth c H locs cells slots Q (F0 m pc ls (.ref a :: rest)) := r_gfN F uX2 rfl 10 (by decide) kf_X1_48 P q0 he v hv d kk
theorem pf_X1_48 (F : Fx p m c cc nL s args RX1 D cI cB) (B : Bx D A H0 ws H locs) (q0 : Nat) (ws' : va_W) (he : ws[q0]? = some (a, .inr (2, fs))) (hn : narrow (tyX2 10) v = v) (hfit : fits (tyX2 10) v = true) (hlen : 10 < fs.length) (hw : ws.set q0 (a, .inr (2, fs.set 10 v)) = ws') (d : decode cc pc = .ok (.putfield 48, 3)) (kk : ∀ (H : Heap) (locs : List Loc), Bx D A H0 ws' H locs → W p l e R s m args below meth c H locs cells slots Q (F0 m (pc + 3) ls rest)) : W p l e R s m args below meth c H locs cells slots Q (F0 m pc ls (v :: .ref a :: rest)) := r_pfN F uX2 rfl tyX2_ok nmX2 10 (by decide) kf_X1_48 rfl B q0 ws' he hn hfit hlen hw d kk
theorem kf_X3_192 : Cond.fieldLinkNest RX3 192 "HalfAsleep$Town" "factsTold" "I" "HalfAsleep" ∈ nst := nst_i 109 (by decide +kernel) rfl
theorem gf_X3_192 (F : Fx p m c cc nL s args RX3 D cI cB) (P : va_P D vwCl ws H) (q0 : Nat) (he : ws[q0]? = some (a, .inr (2, fs))) (v : Value) (hv : fs[10]? = some v) (d : decode cc pc = .ok (.getfield 192, 3)) (kk : W p l e R s m args below meth c H locs cells slots Q (F0 m (pc + 3) ls (v :: rest))) : W p l e R s m args below meth c H locs cells slots Q (F0 m pc ls (.ref a :: rest)) := r_gfN F uX2 rfl 10 (by decide) kf_X3_192 P q0 he v hv d kk
theorem pf_X3_192 (F : Fx p m c cc nL s args RX3 D cI cB) (B : Bx D A H0 ws H locs) (q0 : Nat) (ws' : va_W) (he : ws[q0]? = some (a, .inr (2, fs))) (hn : narrow (tyX2 10) v = v) (hfit : fits (tyX2 10) v = true) (hlen : 10 < fs.length) (hw : ws.set q0 (a, .inr (2, fs.set 10 v)) = ws') (d : decode cc pc = .ok (.putfield 192, 3)) (kk : ∀ (H : Heap) (locs : List Loc), Bx D A H0 ws' H locs → W p l e R s m args below meth c H locs cells slots Q (F0 m (pc + 3) ls rest)) : W p l e R s m args below meth c H locs cells slots Q (F0 m pc ls (v :: .ref a :: rest)) := r_pfN F uX2 rfl tyX2_ok nmX2 10 (by decide) kf_X3_192 rfl B q0 ws' he hn hfit hlen hw d kk
theorem kf_X3_125 : Cond.fieldLinkNest RX3 125 "HalfAsleep$Standing" "shift" "I" "HalfAsleep" ∈ nst := nst_i 149 (by decide +kernel) rfl
theorem gf_X3_125 (F : Fx p m c cc nL s args RX3 D cI cB) (P : va_P D vwCl ws H) (q0 : Nat) (he : ws[q0]? = some (a, .inr (1, fs))) (v : Value) (hv : fs[0]? = some v) (d : decode cc pc = .ok (.getfield 125, 3)) (kk : W p l e R s m args below meth c H locs cells slots Q (F0 m (pc + 3) ls (v :: rest))) : W p l e R s m args below meth c H locs cells slots Q (F0 m pc ls (.ref a :: rest)) := r_gfN F uX1 rfl 0 (by decide) kf_X3_125 P q0 he v hv d kk
theorem pf_X3_125 (F : Fx p m c cc nL s args RX3 D cI cB) (B : Bx D A H0 ws H locs) (q0 : Nat) (ws' : va_W) (he : ws[q0]? = some (a, .inr (1, fs))) (hn : narrow (tyX1 0) v = v) (hfit : fits (tyX1 0) v = true) (hlen : 0 < fs.length) (hw : ws.set q0 (a, .inr (1, fs.set 0 v)) = ws') (d : decode cc pc = .ok (.putfield 125, 3)) (kk : ∀ (H : Heap) (locs : List Loc), Bx D A H0 ws' H locs → W p l e R s m args below meth c H locs cells slots Q (F0 m (pc + 3) ls rest)) : W p l e R s m args below meth c H locs cells slots Q (F0 m pc ls (v :: .ref a :: rest)) := r_pfN F uX1 rfl tyX1_ok nmX1 0 (by decide) kf_X3_125 rfl B q0 ws' he hn hfit hlen hw d kk
theorem kf_X3_98 : Cond.fieldLinkNest RX3 98 "HalfAsleep$Standing" "known" "[I" "HalfAsleep" ∈ nst := nst_i 151 (by decide +kernel) rfl
theorem gf_X3_98 (F : Fx p m c cc nL s args RX3 D cI cB) (P : va_P D vwCl ws H) (q0 : Nat) (he : ws[q0]? = some (a, .inr (1, fs))) (v : Value) (hv : fs[1]? = some v) (d : decode cc pc = .ok (.getfield 98, 3)) (kk : W p l e R s m args below meth c H locs cells slots Q (F0 m (pc + 3) ls (v :: rest))) : W p l e R s m args below meth c H locs cells slots Q (F0 m pc ls (.ref a :: rest)) := r_gfN F uX1 rfl 1 (by decide) kf_X3_98 P q0 he v hv d kk
theorem kf_X3_105 : Cond.fieldLinkNest RX3 105 "HalfAsleep$Standing" "hung" "[I" "HalfAsleep" ∈ nst := nst_i 153 (by decide +kernel) rfl
theorem gf_X3_105 (F : Fx p m c cc nL s args RX3 D cI cB) (P : va_P D vwCl ws H) (q0 : Nat) (he : ws[q0]? = some (a, .inr (1, fs))) (v : Value) (hv : fs[2]? = some v) (d : decode cc pc = .ok (.getfield 105, 3)) (kk : W p l e R s m args below meth c H locs cells slots Q (F0 m (pc + 3) ls (v :: rest))) : W p l e R s m args below meth c H locs cells slots Q (F0 m pc ls (.ref a :: rest)) := r_gfN F uX1 rfl 2 (by decide) kf_X3_105 P q0 he v hv d kk
end Links
theorem kl_L_7 : Cond.classLink RL 7 RX3 ∈ tb := tb_i 50 (by decide +kernel) rfl
theorem kl_X3_9 : Cond.classLink RX3 9 RX0 ∈ tb := tb_i 58 (by decide +kernel) rfl
theorem kl_X3_16 : Cond.classLink RX3 16 RX2 ∈ tb := tb_i 80 (by decide +kernel) rfl
theorem kl_X3_26 : Cond.classLink RX3 26 RX1 ∈ tb := tb_i 142 (by decide +kernel) rfl
theorem kl_L_10 : Cond.classLink RL 10 RX4 ∈ tb := tb_i 508 (by decide +kernel) rfl
theorem kb_X3 : Cond.instantiable RX3 12 ∈ tb := tb_i 51 (by decide +kernel) rfl
theorem kb_X0 : Cond.instantiable RX0 4 ∈ tb := tb_i 59 (by decide +kernel) rfl
theorem kb_X2 : Cond.instantiable RX2 14 ∈ tb := tb_i 81 (by decide +kernel) rfl
theorem kb_X1 : Cond.instantiable RX1 3 ∈ tb := tb_i 143 (by decide +kernel) rfl
theorem kb_X4 : Cond.instantiable RX4 14 ∈ tb := tb_i 509 (by decide +kernel) rfl
end
section
def stR (M : St) (a : Nat) (f : Nat → Nat) : St := fun b => if b = a then f else M b
theorem upN_lt {f : Nat → Nat} {b k v : Nat} (h : ∀ k, f k < b) (hv : v < b) : ∀ j, upN f k v j < b := by
  intro j
  show (if j = k then v else f j) < b
  by_cases hj : j = k
  · rw [if_pos hj]; exact hv
  · rw [if_neg hj]; exact h j
theorem sx_rng (b : Nat) (h : b < 256) : -128 ≤ sx b ∧ sx b < 128 := by
  unfold sx
  split <;> omega
def wM (q : Nat → Nat) (cI : ClassId) (M : St) : va_W :=
  [(q 0, .inr (4, [.ref (q 1), .int (iI (M 1 0 : Int)), .ref (q 3), .ref (q 4), .ref (q 5), .ref (q 6), .ref (q 7), .int (iI (M 7 0 : Int)), .ref (q 9), .ref (q 10), .ref (q 11), .int (iI (M 11 0 : Int)), .int (iI (M 12 0 : Int)), .ref (q 14)])),
   (q 1, aI cI 300 (M 0)), (q 3, aI cI 80 (M 2)), (q 4, aI cI 80 (M 3)), (q 5, aI cI 16 (M 4)), (q 6, aI cI 16 (M 5)), (q 7, aI cI 32 (M 6)), (q 9, aI cI 10 (M 8)), (q 10, aI cI 10 (M 9)), (q 11, aI cI 10 (M 10)), (q 14, aI cI 4 (M 13))]
/-- a loop from k up to N -/
def lpF {α : Type} (f : Nat → α → α) : Nat → Nat → α → α
  | 0, _, a => a
  | n + 1, k, a => lpF f n (k + 1) (f k a)
def lpR {α : Type} (f : Nat → α → α) (N k : Nat) (a : α) : α := lpF f (N - k) k a
theorem lpR_step {α : Type} {f : Nat → α → α} {N k : Nat} {a : α} (h : k < N) : lpR f N k a = lpR f N (k + 1) (f k a) := by
  unfold lpR
  rw [show N - k = (N - (k + 1)) + 1 by omega]
  rfl
theorem lpR_end {α : Type} {f : Nat → α → α} {N k : Nat} {a : α} (h : ¬ k < N) : lpR f N k a = a := by
  unfold lpR
  rw [show N - k = 0 by omega]
  rfl

theorem or16 {a b : Nat} (ha : a < 65536) (hb : b < 65536) : a ||| b < 65536 := bd_or 16 ha hb
theorem xor16 {a b : Nat} (ha : a < 65536) (hb : b < 65536) : a ^^^ b < 65536 := Nat.xor_lt_two_pow (n := 16) ha hb
theorem anot16 {a b : Nat} (ha : a < 65536) : anot a b < 65536 := bd_anot 16 ha
theorem pw16 : ∀ {i : Nat}, i < 16 → 1 * 2 ^ i < 65536 := by decide +kernel
theorem iI_prd {x : Nat} (h : x < 65536) : iI (x : Int) &&& iI ((x : Int) - (1 : Int)) = iI ((x &&& (x - 1) : Nat) : Int) := by
  rcases Nat.eq_zero_or_pos x with h0 | h0
  · subst h0; decide
  · rw [show ((x : Int) - (1 : Int)) = ((x - 1 : Nat) : Int) from by omega, iI_and]
theorem iI_not (y : Int) : iI y ^^^ iI (-1) = iI (-1 - y) := by
  rw [← iI_sub]
  apply Int32.toBitVec_inj.1
  show BitVec.ofInt 32 y ^^^ BitVec.ofInt 32 (-1) = BitVec.ofInt 32 (-1) - BitVec.ofInt 32 y
  have e : (BitVec.ofInt 32 (-1)) = BitVec.allOnes 32 := by decide
  rw [e, BitVec.xor_allOnes, BitVec.allOnes_sub_eq_not]
theorem iI_low {x : Nat} (h : x < 65536) : iI (x : Int) &&& iI (-(x : Int)) = iI ((anot x (x - 1) : Nat) : Int) := by
  rcases Nat.eq_zero_or_pos x with h0 | h0
  · subst h0; decide
  · rw [← iI_anot, iI_not, show (-1 - ((x - 1 : Nat) : Int)) = -(x : Int) from by omega]
def isIn (v a b : Int) : Bool := decide (a ≤ v ∧ v ≤ b)
def isP (p : Nat) (i : Int) : Bool := decide (0 ≤ i ∧ i < (p : Int))
theorem dec_congr {p q : Prop} [Decidable p] [Decidable q] (h : p ↔ q) : iI (((decide p).toNat : Nat) : Int) = iI (((decide q).toNat : Nat) : Int) := by
  by_cases hp : p
  · rw [decide_eq_true hp, decide_eq_true (h.mp hp)]
  · rw [decide_eq_false hp, decide_eq_false (fun z => hp (h.mpr z))]
theorem lpF_inv {α : Type} {P : α → Prop} {f : Nat → α → α} (hs : ∀ k a, P a → P (f k a)) : ∀ n k a, P a → P (lpF f n k a)
  | 0, _, _, h => h
  | n + 1, k, a, h => lpF_inv hs n (k + 1) (f k a) (hs k a h)
theorem lpR_inv {α : Type} {P : α → Prop} {f : Nat → α → α} (hs : ∀ k a, P a → P (f k a)) {N k : Nat} {a : α} (h : P a) : P (lpR f N k a) := lpF_inv hs _ _ _ h
theorem lpF_invk {α : Type} {P : Nat → α → Prop} {f : Nat → α → α} {N : Nat} (hs : ∀ k a, k < N → P k a → P (k + 1) (f k a)) : ∀ n k a, k + n = N → P k a → P N (lpF f n k a)
  | 0, k, a, e, h => by rw [show k = N by omega] at h; exact h
  | n + 1, k, a, e, h => lpF_invk hs n (k + 1) (f k a) (by omega) (hs k a (by omega) h)
/-- an invariant with the counter -/
theorem lpR_invk {α : Type} {P : Nat → α → Prop} {f : Nat → α → α} {N k : Nat} {a : α} (hk : k ≤ N) (hs : ∀ k a, k < N → P k a → P (k + 1) (f k a)) (h : P k a) : P N (lpR f N k a) := lpF_invk hs _ _ _ (by omega) h
-- ===== the model's questions
def tlB (p : Nat × Nat) : Nat × Nat := (p.1 ||| anot p.2 (p.2 - 1), p.2 &&& (p.2 - 1))
def sp_tells (N a b : Nat) : Nat := (lpR (fun _ => tlB) N 0 (0, anot a b)).1
theorem tells_lt {N a b : Nat} (ha : a < 65536) : sp_tells N a b < 65536 := by
  have h : (lpR (fun _ => tlB) N 0 (0, anot a b)).1 < 65536 ∧ (lpR (fun _ => tlB) N 0 (0, anot a b)).2 < 65536 := lpR_inv (P := fun (p : Nat × Nat) => p.1 < 65536 ∧ p.2 < 65536) (fun k p h => ⟨or16 h.1 (anot16 h.2), Nat.lt_of_le_of_lt Nat.and_le_left h.2⟩) ⟨Nat.zero_lt_succ _, anot16 ha⟩
  exact h.1
def sp_has (bk : Nat → Nat) (i d j k : Nat) : Bool := decide (bk (8 + 2 * i + d) / 2 ^ bk (32 + 8 * j + k) &&& 1 = 1)
def sp_camp (way half : Nat) : Nat := (way / 2 ^ (half / 2) &&& 1) ^^^ half % 2
theorem camp_lt {way half : Nat} : sp_camp way half < 2 := by
  unfold sp_camp
  have h1 : (way / 2 ^ (half / 2) &&& 1) < 2 ^ 1 := Nat.lt_of_le_of_lt Nat.and_le_right (by decide)
  have h2 : half % 2 < 2 ^ 1 := Nat.mod_lt _ (by decide)
  exact Nat.xor_lt_two_pow h1 h2
def sp_holds (P G H x y d : Nat) : Nat := if P < x + y then 0 else (if d = 0 then x * G else y * H) + (P - x - y) / 2
def wkB (facts : Nat) (f : Nat → Nat) (i set : Nat) : Nat := set ||| (if anot facts (f (1 + 2 * i + f 0 % 2)) = 0 then 1 * 2 ^ i else 0)
def sp_who (p facts : Nat) (f : Nat → Nat) : Nat := lpR (wkB facts f) p 0 0
theorem who_lt {p facts : Nat} {f : Nat → Nat} (hp : p ≤ 5) : sp_who p facts f < 32 := by
  have h : sp_who p facts f < 2 ^ 5 := lpR_invk (P := fun k a => a < 2 ^ 5) (Nat.zero_le p) (fun k a hk h => Nat.or_lt_two_pow h (by
    split
    · rw [Nat.one_mul]; exact Nat.pow_lt_pow_right (by decide) (by omega)
    · decide)) (by decide)
  exact h
def ptB (bk : Nat → Nat) (way k n : Nat) : Nat := n + (if sp_camp way (bk (64 + 2 * k)) = sp_camp way (bk (64 + 2 * k + 1)) then 0 else 1)
def sp_parts (bk : Nat → Nat) (way : Nat) : Nat := lpR (ptB bk way) (bk 2) 0 0
theorem parts_le {bk : Nat → Nat} {way : Nat} : sp_parts bk way ≤ bk 2 := lpR_invk (P := fun k a => a ≤ k) (Nat.zero_le _) (fun k a _ h => by unfold ptB; split <;> omega) (Nat.le_refl 0)
def rsB (P G H x y v : Nat) (b : Bool) : Bool := b && decide (sp_holds P G H v y 0 ≤ sp_holds P G H x y 0) && decide (sp_holds P G H x v 1 ≤ sp_holds P G H x y 1)
def sp_rest (P G H x y : Nat) : Bool := lpR (rsB P G H x y) 10 0 true
theorem holds_le {P G H x y d : Nat} (hP : P < 256) (hG : G < 256) (hH : H < 256) (hx : x < 10) (hy : y < 10) : sp_holds P G H x y d < 4096 := by
  unfold sp_holds
  split
  · decide
  · have h1 : x * G ≤ 9 * 255 := Nat.mul_le_mul (by omega) (by omega)
    have h2 : y * H ≤ 9 * 255 := Nat.mul_le_mul (by omega) (by omega)
    split <;> omega
end
section
abbrev rm_X4_in : Room := { frames := 0, cells := 0, slots := 0, locals := 0 }
set_option maxHeartbeats 4000000 in
set_option maxRecDepth 100000 in
theorem k_X4_in (l : Launch) (D : va_G) (cI cB : ClassId) (v a b : Int) (hv : (-2147483648 ≤ v ∧ v < 2147483648)) (ha : (-2147483648 ≤ a ∧ a < 2147483648)) (hb : (-2147483648 ≤ b ∧ b < 2147483648)) : CtQ l yX4_in cX4_in 3 (some .boolean) rm_X4_in D cI cB [.int (iI (v)), .int (iI (a)), .int (iI (b))] ([]) ((iI ((Bool.toNat (isIn v a b) : Nat) : Int))) := by
  refine CtQ.of RX4 (by decide) rfl (Nat.le_of_ble_eq_true rfl) ?_
  intro p e s m args below meth c H ls hH F hr hlk P hl
  have hl : lv_has ls 3 [(0, .int (iI (v))), (1, .int (iI (a))), (2, .int (iI (b)))] := hl
  refine r_iln F hl 0 rfl dX4_in_0 rfl ?_
  refine r_iln F hl 1 rfl dX4_in_1 rfl ?_
  refine r_cltz (a := v) (b := a) 14 F dX4_in_2 (by decide) (by omega) (fun c_1 => ?_) (fun c_1 => ?_)
  · refine r_icb F false dX4_in_14 rfl ?_
    exact r_retQb F hr hlk hH dX4_in_15 (by first | rfl | (simp only [isIn, if_true, if_false, Bool.and_true, Bool.true_and, Bool.and_false, Bool.false_and, Bool.and_self, Bool.false_eq_true, ↓reduceIte, decide_true, decide_false, Int.toNat_natCast, Bool.toNat_true, Bool.toNat_false]; first | done | rfl | (simp only [c_1, (Int.not_le.mpr c_1), if_true, if_false, Bool.and_true, Bool.true_and, Bool.and_false, Bool.false_and, Bool.and_self, Bool.false_eq_true, ↓reduceIte, decide_true, decide_false, Int.toNat_natCast, Bool.toNat_true, Bool.toNat_false]; first | done | rfl) | (simp only [if_pos c_1, if_neg (Int.not_le.mpr c_1)]; first | done | rfl) | (simp [c_1, (Int.not_le.mpr c_1)]; done) | (simp [c_1, (Int.not_le.mpr c_1)]; first | rfl | omega)) | (simp [isIn, c_1, (Int.not_le.mpr c_1)]; done) | (simp [isIn, c_1, (Int.not_le.mpr c_1)]; omega) | (simp only [isIn, if_true, if_false, Bool.and_true, Bool.true_and, Bool.and_false, Bool.false_and, Bool.and_self, Bool.false_eq_true, ↓reduceIte, decide_true, decide_false, Int.toNat_natCast, Bool.toNat_true, Bool.toNat_false]; try simp only [c_1, (Int.not_le.mpr c_1), if_true, if_false, Bool.and_true, Bool.true_and, Bool.and_false, Bool.false_and, Bool.and_self, Bool.false_eq_true, ↓reduceIte, decide_true, decide_false, Int.toNat_natCast, Bool.toNat_true, Bool.toNat_false]; rfl))
  · refine r_iln F hl 0 rfl dX4_in_5 rfl ?_
    refine r_iln F hl 2 rfl dX4_in_6 rfl ?_
    refine r_cgtz (a := v) (b := b) 14 F dX4_in_7 (by decide) (by omega) (fun c_2 => ?_) (fun c_2 => ?_)
    · refine r_icb F false dX4_in_14 rfl ?_
      exact r_retQb F hr hlk hH dX4_in_15 (by first | rfl | (simp only [isIn, if_true, if_false, Bool.and_true, Bool.true_and, Bool.and_false, Bool.false_and, Bool.and_self, Bool.false_eq_true, ↓reduceIte, decide_true, decide_false, Int.toNat_natCast, Bool.toNat_true, Bool.toNat_false]; first | done | rfl | (simp only [c_1, (Int.not_lt.mp c_1), c_2, (Int.not_le.mpr c_2), if_true, if_false, Bool.and_true, Bool.true_and, Bool.and_false, Bool.false_and, Bool.and_self, Bool.false_eq_true, ↓reduceIte, decide_true, decide_false, Int.toNat_natCast, Bool.toNat_true, Bool.toNat_false]; first | done | rfl) | (simp only [if_neg c_1, if_pos (Int.not_lt.mp c_1), if_pos c_2, if_neg (Int.not_le.mpr c_2)]; first | done | rfl) | (simp [c_1, (Int.not_lt.mp c_1), c_2, (Int.not_le.mpr c_2)]; done) | (simp [c_1, (Int.not_lt.mp c_1), c_2, (Int.not_le.mpr c_2)]; first | rfl | omega)) | (simp [isIn, c_1, (Int.not_lt.mp c_1), c_2, (Int.not_le.mpr c_2)]; done) | (simp [isIn, c_1, (Int.not_lt.mp c_1), c_2, (Int.not_le.mpr c_2)]; omega) | (simp only [isIn, if_true, if_false, Bool.and_true, Bool.true_and, Bool.and_false, Bool.false_and, Bool.and_self, Bool.false_eq_true, ↓reduceIte, decide_true, decide_false, Int.toNat_natCast, Bool.toNat_true, Bool.toNat_false]; try simp only [c_1, (Int.not_lt.mp c_1), c_2, (Int.not_le.mpr c_2), if_true, if_false, Bool.and_true, Bool.true_and, Bool.and_false, Bool.false_and, Bool.and_self, Bool.false_eq_true, ↓reduceIte, decide_true, decide_false, Int.toNat_natCast, Bool.toNat_true, Bool.toNat_false]; rfl))
    · refine r_icb F true dX4_in_10 rfl ?_
      refine r_goto 15 F dX4_in_11 (by decide) ?_
      exact r_retQb F hr hlk hH dX4_in_15 (by first | rfl | (simp only [isIn, if_true, if_false, Bool.and_true, Bool.true_and, Bool.and_false, Bool.false_and, Bool.and_self, Bool.false_eq_true, ↓reduceIte, decide_true, decide_false, Int.toNat_natCast, Bool.toNat_true, Bool.toNat_false]; first | done | rfl | (simp only [c_1, (Int.not_lt.mp c_1), c_2, (Int.not_lt.mp c_2), if_true, if_false, Bool.and_true, Bool.true_and, Bool.and_false, Bool.false_and, Bool.and_self, Bool.false_eq_true, ↓reduceIte, decide_true, decide_false, Int.toNat_natCast, Bool.toNat_true, Bool.toNat_false]; first | done | rfl) | (simp only [if_neg c_1, if_pos (Int.not_lt.mp c_1), if_neg c_2, if_pos (Int.not_lt.mp c_2)]; first | done | rfl) | (simp [c_1, (Int.not_lt.mp c_1), c_2, (Int.not_lt.mp c_2)]; done) | (simp [c_1, (Int.not_lt.mp c_1), c_2, (Int.not_lt.mp c_2)]; first | rfl | omega)) | (simp [isIn, c_1, (Int.not_lt.mp c_1), c_2, (Int.not_lt.mp c_2)]; done) | (simp [isIn, c_1, (Int.not_lt.mp c_1), c_2, (Int.not_lt.mp c_2)]; omega) | (simp only [isIn, if_true, if_false, Bool.and_true, Bool.true_and, Bool.and_false, Bool.false_and, Bool.and_self, Bool.false_eq_true, ↓reduceIte, decide_true, decide_false, Int.toNat_natCast, Bool.toNat_true, Bool.toNat_false]; try simp only [c_1, (Int.not_lt.mp c_1), c_2, (Int.not_lt.mp c_2), if_true, if_false, Bool.and_true, Bool.true_and, Bool.and_false, Bool.false_and, Bool.and_self, Bool.false_eq_true, ↓reduceIte, decide_true, decide_false, Int.toNat_natCast, Bool.toNat_true, Bool.toNat_false]; rfl))
abbrev rm_X4_isPerson : Room := { frames := 1, cells := 0, slots := 0, locals := 22 }
set_option maxHeartbeats 4000000 in
set_option maxRecDepth 100000 in
theorem k_X4_isPerson (l : Launch) (D : va_G) (cI cB : ClassId) (q : Nat → Nat) (M : St) (i : Int) (hi : (-2147483648 ≤ i ∧ i < 2147483648)) (hbk : ∀ k, M 2 k < 256) : CtQ l yX4_isPerson cX4_isPerson 2 (some .boolean) rm_X4_isPerson D cI cB [.ref (q 0), .int (iI (i))] (wM q cI M) ((iI ((Bool.toNat (isP (M 2 0) i) : Nat) : Int))) := by
  refine CtQ.of RX4 (by decide) rfl (Nat.le_of_ble_eq_true rfl) ?_
  intro p e s m args below meth c H ls hH F hr hlk P hl
  have hl : lv_has ls 2 [(0, .ref (q 0)), (1, .int (iI (i)))] := hl
  refine r_iln F hl 1 rfl dX4_isPerson_0 rfl ?_
  refine r_ic F 0 dX4_isPerson_1 rfl ?_
  refine r_aln F hl 0 rfl dX4_isPerson_2 rfl ?_
  refine gf_X4_13 F P 0 rfl (.ref (q 3)) rfl dX4_isPerson_3 ?_
  refine r_ic F 0 dX4_isPerson_6 rfl ?_
  refine r_ald (f := M 2) F P 2 rfl dX4_isPerson_7 (by decide) (by omega) ?_
  have b_1 : M 2 (0) < 256 := hbk (0)
  refine r_ic F 1 dX4_isPerson_8 rfl ?_
  refine r_subz F dX4_isPerson_9 ?_
  refine r_sq F P (k_X4_in l D cI cB (i) ((0 : Int)) ((((M 2 (0) : Nat) : Int) - (1 : Int))) (by omega) (by omega) (by omega)) gw_X4_40 [] rfl ⟨⟨rfl, rfl⟩, Nat.le_of_ble_eq_true rfl, Nat.le_of_ble_eq_true rfl⟩ ⟨Nat.le_of_ble_eq_true rfl, Nat.le_of_ble_eq_true rfl⟩ hl.1 rfl [] rfl (Nat.le_of_ble_eq_true rfl) dX4_isPerson_10 ?_
  exact r_retQb F hr hlk hH dX4_isPerson_13 (dec_congr (by omega))
abbrev rm_X4_isTrade : Room := { frames := 1, cells := 0, slots := 0, locals := 22 }
set_option maxHeartbeats 4000000 in
set_option maxRecDepth 100000 in
theorem k_X4_isTrade (l : Launch) (D : va_G) (cI cB : ClassId) (q : Nat → Nat) (M : St) (i : Int) (hi : (-2147483648 ≤ i ∧ i < 2147483648)) (hbk : ∀ k, M 2 k < 256) : CtQ l yX4_isTrade cX4_isTrade 2 (some .boolean) rm_X4_isTrade D cI cB [.ref (q 0), .int (iI (i))] (wM q cI M) ((iI ((Bool.toNat (isP (M 2 1) i) : Nat) : Int))) := by
  refine CtQ.of RX4 (by decide) rfl (Nat.le_of_ble_eq_true rfl) ?_
  intro p e s m args below meth c H ls hH F hr hlk P hl
  have hl : lv_has ls 2 [(0, .ref (q 0)), (1, .int (iI (i)))] := hl
  refine r_iln F hl 1 rfl dX4_isTrade_0 rfl ?_
  refine r_ic F 0 dX4_isTrade_1 rfl ?_
  refine r_aln F hl 0 rfl dX4_isTrade_2 rfl ?_
  refine gf_X4_13 F P 0 rfl (.ref (q 3)) rfl dX4_isTrade_3 ?_
  refine r_ic F 1 dX4_isTrade_6 rfl ?_
  refine r_ald (f := M 2) F P 2 rfl dX4_isTrade_7 (by decide) (by omega) ?_
  have b_1 : M 2 (1) < 256 := hbk (1)
  refine r_ic F 1 dX4_isTrade_8 rfl ?_
  refine r_subz F dX4_isTrade_9 ?_
  refine r_sq F P (k_X4_in l D cI cB (i) ((0 : Int)) ((((M 2 (1) : Nat) : Int) - (1 : Int))) (by omega) (by omega) (by omega)) gw_X4_40 [] rfl ⟨⟨rfl, rfl⟩, Nat.le_of_ble_eq_true rfl, Nat.le_of_ble_eq_true rfl⟩ ⟨Nat.le_of_ble_eq_true rfl, Nat.le_of_ble_eq_true rfl⟩ hl.1 rfl [] rfl (Nat.le_of_ble_eq_true rfl) dX4_isTrade_10 ?_
  exact r_retQb F hr hlk hH dX4_isTrade_13 (dec_congr (by omega))
abbrev rm_X4_isSet : Room := { frames := 1, cells := 0, slots := 0, locals := 22 }
set_option maxHeartbeats 4000000 in
set_option maxRecDepth 100000 in
theorem k_X4_isSet (l : Launch) (D : va_G) (cI cB : ClassId) (v : Int) (hv : (-2147483648 ≤ v ∧ v < 2147483648)) : CtQ l yX4_isSet cX4_isSet 1 (some .boolean) rm_X4_isSet D cI cB [.int (iI (v))] ([]) ((iI ((Bool.toNat (isIn v 0 255) : Nat) : Int))) := by
  refine CtQ.of RX4 (by decide) rfl (Nat.le_of_ble_eq_true rfl) ?_
  intro p e s m args below meth c H ls hH F hr hlk P hl
  have hl : lv_has ls 1 [(0, .int (iI (v)))] := hl
  refine r_iln F hl 0 rfl dX4_isSet_0 rfl ?_
  refine r_ic F 0 dX4_isSet_1 rfl ?_
  refine r_sp F 255 dX4_isSet_2 rfl ?_
  refine r_sq F P (k_X4_in l D cI cB (v) ((0 : Int)) ((255 : Int)) (by omega) (by omega) (by omega)) gw_X4_40 [] rfl ⟨⟨rfl, rfl⟩, Nat.le_of_ble_eq_true rfl, Nat.le_of_ble_eq_true rfl⟩ ⟨Nat.le_of_ble_eq_true rfl, Nat.le_of_ble_eq_true rfl⟩ hl.1 rfl [] rfl (Nat.le_of_ble_eq_true rfl) dX4_isSet_5 ?_
  exact r_retQb F hr hlk hH dX4_isSet_8 (by first | rfl | (simp only [if_true, if_false, Bool.and_true, Bool.true_and, Bool.and_false, Bool.false_and, Bool.and_self, Bool.false_eq_true, ↓reduceIte, decide_true, decide_false, Int.toNat_natCast, Bool.toNat_true, Bool.toNat_false]; first | done | rfl | (simp only [if_true, if_true, if_false, Bool.and_true, Bool.true_and, Bool.and_false, Bool.false_and, Bool.and_self, Bool.false_eq_true, ↓reduceIte, decide_true, decide_false, Int.toNat_natCast, Bool.toNat_true, Bool.toNat_false]; first | done | rfl) | (simp only [if_true]; first | done | rfl) | (simp [if_true]; done) | (simp [if_true]; first | rfl | omega)) | (simp [if_true]; done) | (simp [if_true]; omega) | (simp only [if_true, if_false, Bool.and_true, Bool.true_and, Bool.and_false, Bool.false_and, Bool.and_self, Bool.false_eq_true, ↓reduceIte, decide_true, decide_false, Int.toNat_natCast, Bool.toNat_true, Bool.toNat_false]; try simp only [if_true, if_true, if_false, Bool.and_true, Bool.true_and, Bool.and_false, Bool.false_and, Bool.and_self, Bool.false_eq_true, ↓reduceIte, decide_true, decide_false, Int.toNat_natCast, Bool.toNat_true, Bool.toNat_false]; rfl))
abbrev rm_X4_awake : Room := { frames := 0, cells := 0, slots := 0, locals := 0 }
set_option maxHeartbeats 4000000 in
set_option maxRecDepth 100000 in
theorem k_X4_awake (l : Launch) (D : va_G) (cI cB : ClassId) (q : Nat → Nat) (M : St) (hs : ∀ k, M 4 k < 65536) : CtQ l yX4_awake cX4_awake 1 (some .int) rm_X4_awake D cI cB [.ref (q 0)] (wM q cI M) ((iI ((M 4 0 % 2 : Nat) : Int))) := by
  refine CtQ.of RX4 (by decide) rfl (Nat.le_of_ble_eq_true rfl) ?_
  intro p e s m args below meth c H ls hH F hr hlk P hl
  have hl : lv_has ls 1 [(0, .ref (q 0))] := hl
  refine r_aln F hl 0 rfl dX4_awake_0 rfl ?_
  refine gf_X4_19 F P 0 rfl (.ref (q 5)) rfl dX4_awake_1 ?_
  refine r_ic F 0 dX4_awake_4 rfl ?_
  refine r_ald (f := M 4) F P 4 rfl dX4_awake_5 (by decide) (by omega) ?_
  have b_1 : M 4 (0) < 65536 := hs (0)
  refine r_ic F 2 dX4_awake_6 rfl ?_
  refine r_rem F dX4_awake_7 (by omega) ?_
  exact r_retQ F hr hlk hH dX4_awake_8 (by first | rfl | (simp only [if_true, if_false, Bool.and_true, Bool.true_and, Bool.and_false, Bool.false_and, Bool.and_self, Bool.false_eq_true, ↓reduceIte, decide_true, decide_false, Int.toNat_natCast, Bool.toNat_true, Bool.toNat_false]; first | done | rfl | (simp only [if_true, if_true, if_false, Bool.and_true, Bool.true_and, Bool.and_false, Bool.false_and, Bool.and_self, Bool.false_eq_true, ↓reduceIte, decide_true, decide_false, Int.toNat_natCast, Bool.toNat_true, Bool.toNat_false]; first | done | rfl) | (simp only [if_true]; first | done | rfl) | (simp [if_true]; done) | (simp [if_true]; first | rfl | omega)) | (simp [if_true]; done) | (simp [if_true]; omega) | (simp only [if_true, if_false, Bool.and_true, Bool.true_and, Bool.and_false, Bool.false_and, Bool.and_self, Bool.false_eq_true, ↓reduceIte, decide_true, decide_false, Int.toNat_natCast, Bool.toNat_true, Bool.toNat_false]; try simp only [if_true, if_true, if_false, Bool.and_true, Bool.true_and, Bool.and_false, Bool.false_and, Bool.and_self, Bool.false_eq_true, ↓reduceIte, decide_true, decide_false, Int.toNat_natCast, Bool.toNat_true, Bool.toNat_false]; rfl))
abbrev rm_X4_tells : Room := { frames := 0, cells := 0, slots := 0, locals := 0 }
set_option maxHeartbeats 4000000 in
set_option maxRecDepth 100000 in
theorem k_X4_tells (l : Launch) (D : va_G) (cI cB : ClassId) (q : Nat → Nat) (M : St) (a b : Nat) (h1 : a < 65536) (hbk : ∀ k, M 2 k < 256) : CtQ l yX4_tells cX4_tells 6 (some .int) rm_X4_tells D cI cB [.ref (q 0), .int (iI ((a : Nat) : Int)), .int (iI ((b : Nat) : Int))] (wM q cI M) ((iI ((sp_tells (M 2 4) a b : Nat) : Int))) := by
  refine CtQ.of RX4 (by decide) rfl (Nat.le_of_ble_eq_true rfl) ?_
  intro p e s m args below meth c H ls hH F hr hlk P hl
  have hl : lv_has ls 6 [(0, .ref (q 0)), (1, .int (iI ((a : Nat) : Int))), (2, .int (iI ((b : Nat) : Int)))] := hl
  refine r_iln F hl 1 rfl dX4_tells_0 rfl ?_
  refine r_iln F hl 2 rfl dX4_tells_1 rfl ?_
  refine r_icz F (-1) dX4_tells_2 rfl ?_
  refine r_xorr F dX4_tells_3 (iI (((b : Nat) : Int)) ^^^ iI (-1)) rfl ?_
  refine r_andr F dX4_tells_4 _ (iI_anot _ _) ?_
  have b_1 : anot (a) (b) < 65536 := anot16 (by omega)
  refine r_isn (lv' := [(0, .ref (q 0)), (1, .int (iI ((a : Nat) : Int))), (2, .int (iI ((b : Nat) : Int))), (3, .int (iI ((anot (a) (b) : Nat) : Int)))]) F hl dX4_tells_5 rfl (by decide) [1, 2, 3, 0] rfl (fun ls hl => ?_)
  refine r_ic F 0 dX4_tells_6 rfl ?_
  refine r_is (lv' := [(0, .ref (q 0)), (1, .int (iI ((a : Nat) : Int))), (2, .int (iI ((b : Nat) : Int))), (3, .int (iI ((anot (a) (b) : Nat) : Int))), (4, .int (iI ((0 : Nat) : Int)))]) F hl dX4_tells_7 (by decide) [1, 2, 3, 4, 0] rfl (fun ls hl => ?_)
  refine r_ic F 0 dX4_tells_9 rfl ?_
  refine r_is (lv' := [(0, .ref (q 0)), (1, .int (iI ((a : Nat) : Int))), (2, .int (iI ((b : Nat) : Int))), (3, .int (iI ((anot (a) (b) : Nat) : Int))), (4, .int (iI ((0 : Nat) : Int))), (5, .int (iI ((0 : Nat) : Int)))]) F hl dX4_tells_10 (by decide) [1, 2, 3, 4, 5, 0] rfl (fun ls hl => ?_)
  have lp_2 : ∀ (nn_ : Nat) (x : Nat) (y : Nat) (k : Nat) (ls : Array Slot), M 2 4 - k < nn_ → ((lpR (fun _ => tlB) (M 2 4) k (y, x)).1 = sp_tells (M 2 4) a b) → (x < 65536) → (y < 65536) → (k ≤ M 2 4) → lv_has ls 6 [(0, .ref (q 0)), (1, .int (iI ((a : Nat) : Int))), (2, .int (iI ((b : Nat) : Int))), (3, .int (iI ((x : Nat) : Int))), (4, .int (iI ((y : Nat) : Int))), (5, .int (iI ((k : Nat) : Int)))] → W p l e rm_X4_tells s m args below meth c H [] 0 0 (Qq below args s ((iI ((sp_tells (M 2 4) a b : Nat) : Int)))) (F0 m 12 ls []) := by
    intro nn_
    induction nn_ with
    | zero => intro x y k ls hlt; exact absurd hlt (Nat.not_lt_zero _)
    | succ nn_ ih =>
      have ih_3 := ih; clear ih
      intro x y k ls hlt hI hx hy hk hl
      have hlt_4 := hlt
      refine r_il F hl 5 rfl dX4_tells_12 ?_
      refine r_aln F hl 0 rfl dX4_tells_14 rfl ?_
      refine gf_X4_13 F P 0 rfl (.ref (q 3)) rfl dX4_tells_15 ?_
      refine r_ic F 4 dX4_tells_18 rfl ?_
      refine r_ald (f := M 2) F P 2 rfl dX4_tells_19 (by decide) (by omega) ?_
      have b_5 : M 2 (4) < 256 := hbk (4)
      refine r_cge 44 F dX4_tells_20 (by decide) (by omega) (fun c_6 => ?_) (fun c_6 => ?_)
      · refine r_il F hl 4 rfl dX4_tells_44 ?_
        exact r_retQ F hr hlk hH dX4_tells_46 (by rw [← hI, lpR_end (by omega)])
      · refine r_il F hl 4 rfl dX4_tells_23 ?_
        refine r_iln F hl 3 rfl dX4_tells_25 rfl ?_
        refine r_iln F hl 3 rfl dX4_tells_26 rfl ?_
        refine r_negz F dX4_tells_27 ?_
        refine r_andr F dX4_tells_28 _ (iI_low (by omega)) ?_
        have b_7 : anot (x) (x - 1) < 65536 := anot16 (by omega)
        refine r_or F dX4_tells_29 ?_
        have b_8 : (y ||| anot (x) (x - 1)) < 65536 := or16 (by omega) (by omega)
        refine r_is (lv' := [(0, .ref (q 0)), (1, .int (iI ((a : Nat) : Int))), (2, .int (iI ((b : Nat) : Int))), (3, .int (iI ((x : Nat) : Int))), (4, .int (iI (((y ||| anot (x) (x - 1)) : Nat) : Int))), (5, .int (iI ((k : Nat) : Int)))]) F hl dX4_tells_30 (by decide) [1, 2, 3, 4, 0, 5] rfl (fun ls hl => ?_)
        refine r_iln F hl 3 rfl dX4_tells_32 rfl ?_
        refine r_iln F hl 3 rfl dX4_tells_33 rfl ?_
        refine r_ic F 1 dX4_tells_34 rfl ?_
        refine r_subz F dX4_tells_35 ?_
        refine r_andr F dX4_tells_36 _ (iI_prd (by omega)) ?_
        have b_9 : (x &&& (x - 1)) ≤ x := Nat.and_le_left
        refine r_isn (lv' := [(0, .ref (q 0)), (1, .int (iI ((a : Nat) : Int))), (2, .int (iI ((b : Nat) : Int))), (3, .int (iI (((x &&& (x - 1)) : Nat) : Int))), (4, .int (iI (((y ||| anot (x) (x - 1)) : Nat) : Int))), (5, .int (iI ((k : Nat) : Int)))]) F hl dX4_tells_37 rfl (by decide) [1, 2, 3, 0, 4, 5] rfl (fun ls hl => ?_)
        refine r_inc (lv' := [(0, .ref (q 0)), (1, .int (iI ((a : Nat) : Int))), (2, .int (iI ((b : Nat) : Int))), (3, .int (iI (((x &&& (x - 1)) : Nat) : Int))), (4, .int (iI (((y ||| anot (x) (x - 1)) : Nat) : Int))), (5, .int (iI (((k + 1) : Nat) : Int)))]) F hl 5 rfl dX4_tells_38 1 rfl (by decide) [1, 2, 3, 4, 5, 0] rfl (fun ls hl => ?_)
        refine r_goto 12 F dX4_tells_41 (by decide) ?_
        exact ih_3 ((x &&& (x - 1))) ((y ||| anot (x) (x - 1))) ((k + 1)) ls (by omega) (by have h_ := hI; rw [lpR_step (by omega)] at h_; refine Eq.trans ?_ h_; first | rfl | (simp only [tlB, c_6, (Nat.not_le.mpr c_6), if_true, if_false, Bool.and_true, Bool.true_and, Bool.and_false, Bool.false_and, Bool.and_self, Bool.false_eq_true, ↓reduceIte, decide_true, decide_false, Int.toNat_natCast, Bool.toNat_true, Bool.toNat_false]; done) | (simp [tlB, c_6, (Nat.not_le.mpr c_6)]; done)) (by omega) (by omega) (by omega) hl
  exact lp_2 _ (anot (a) (b)) (0) (0) ls (Nat.lt_succ_self _) rfl (by omega) (by omega) (by omega) hl
abbrev rm_X4_has : Room := { frames := 0, cells := 0, slots := 0, locals := 0 }
set_option maxHeartbeats 4000000 in
set_option maxRecDepth 100000 in
theorem k_X4_has (l : Launch) (D : va_G) (cI cB : ClassId) (q : Nat → Nat) (M : St) (i d j k : Nat) (hi : i < 5 ∧ d < 2 ∧ j < 4 ∧ k < 8) (hbk : ∀ k, M 2 k < 256) (hst : ∀ k, 32 ≤ k → k < 64 → M 2 k < 6) : CtQ l yX4_has cX4_has 5 (some .boolean) rm_X4_has D cI cB [.ref (q 0), .int (iI ((i : Nat) : Int)), .int (iI ((d : Nat) : Int)), .int (iI ((j : Nat) : Int)), .int (iI ((k : Nat) : Int))] (wM q cI M) ((iI ((Bool.toNat (sp_has (M 2) i d j k) : Nat) : Int))) := by
  refine CtQ.of RX4 (by decide) rfl (Nat.le_of_ble_eq_true rfl) ?_
  intro p e s m args below meth c H ls hH F hr hlk P hl
  have hl : lv_has ls 5 [(0, .ref (q 0)), (1, .int (iI ((i : Nat) : Int))), (2, .int (iI ((d : Nat) : Int))), (3, .int (iI ((j : Nat) : Int))), (4, .int (iI ((k : Nat) : Int)))] := hl
  refine r_aln F hl 0 rfl dX4_has_0 rfl ?_
  refine gf_X4_13 F P 0 rfl (.ref (q 3)) rfl dX4_has_1 ?_
  refine r_bp F 8 dX4_has_4 rfl ?_
  refine r_ic F 2 dX4_has_6 rfl ?_
  refine r_iln F hl 1 rfl dX4_has_7 rfl ?_
  refine r_mul F dX4_has_8 ?_
  refine r_add F dX4_has_9 ?_
  refine r_iln F hl 2 rfl dX4_has_10 rfl ?_
  refine r_add F dX4_has_11 ?_
  refine r_ald (f := M 2) F P 2 rfl dX4_has_12 (by decide) (by omega) ?_
  have b_1 : M 2 (((8 + (2 * i)) + d)) < 256 := hbk (((8 + (2 * i)) + d))
  refine r_aln F hl 0 rfl dX4_has_13 rfl ?_
  refine gf_X4_13 F P 0 rfl (.ref (q 3)) rfl dX4_has_14 ?_
  refine r_bp F 32 dX4_has_17 rfl ?_
  refine r_bp F 8 dX4_has_19 rfl ?_
  refine r_iln F hl 3 rfl dX4_has_21 rfl ?_
  refine r_mul F dX4_has_22 ?_
  refine r_add F dX4_has_23 ?_
  refine r_il F hl 4 rfl dX4_has_24 ?_
  refine r_add F dX4_has_26 ?_
  refine r_ald (f := M 2) F P 2 rfl dX4_has_27 (by decide) (by omega) ?_
  have b_2 : M 2 (((32 + (8 * j)) + k)) < 256 := hbk (((32 + (8 * j)) + k))
  have hq_ := hst (32 + 8 * j + k) (by omega) (by omega)
  refine r_shr F dX4_has_28 ⟨by omega, by omega⟩ ?_
  have b_3 : (M 2 (((8 + (2 * i)) + d)) / 2 ^ M 2 (((32 + (8 * j)) + k))) ≤ M 2 (((8 + (2 * i)) + d)) := Nat.div_le_self _ _
  refine r_ic F 1 dX4_has_29 rfl ?_
  refine r_and F dX4_has_30 ?_
  have b_4 : ((M 2 (((8 + (2 * i)) + d)) / 2 ^ M 2 (((32 + (8 * j)) + k))) &&& 1) ≤ 1 := Nat.and_le_right
  refine r_ic F 1 dX4_has_31 rfl ?_
  refine r_cne 39 F dX4_has_32 (by decide) (by omega) (fun c_5 => ?_) (fun c_5 => ?_)
  · refine r_icb F false dX4_has_39 rfl ?_
    exact r_retQb F hr hlk hH dX4_has_40 (by first | rfl | (simp only [sp_has, if_true, if_false, Bool.and_true, Bool.true_and, Bool.and_false, Bool.false_and, Bool.and_self, Bool.false_eq_true, ↓reduceIte, decide_true, decide_false, Int.toNat_natCast, Bool.toNat_true, Bool.toNat_false]; first | done | rfl | (simp only [c_5, if_true, if_false, Bool.and_true, Bool.true_and, Bool.and_false, Bool.false_and, Bool.and_self, Bool.false_eq_true, ↓reduceIte, decide_true, decide_false, Int.toNat_natCast, Bool.toNat_true, Bool.toNat_false]; first | done | rfl) | (simp only [if_neg c_5]; first | done | rfl) | (simp [c_5]; done) | (simp [c_5]; first | rfl | omega)) | (simp [sp_has, c_5]; done) | (simp [sp_has, c_5]; omega) | (simp only [sp_has, if_true, if_false, Bool.and_true, Bool.true_and, Bool.and_false, Bool.false_and, Bool.and_self, Bool.false_eq_true, ↓reduceIte, decide_true, decide_false, Int.toNat_natCast, Bool.toNat_true, Bool.toNat_false]; try simp only [c_5, if_true, if_false, Bool.and_true, Bool.true_and, Bool.and_false, Bool.false_and, Bool.and_self, Bool.false_eq_true, ↓reduceIte, decide_true, decide_false, Int.toNat_natCast, Bool.toNat_true, Bool.toNat_false]; rfl))
  · refine r_icb F true dX4_has_35 rfl ?_
    refine r_goto 40 F dX4_has_36 (by decide) ?_
    exact r_retQb F hr hlk hH dX4_has_40 (by first | rfl | (simp only [sp_has, if_true, if_false, Bool.and_true, Bool.true_and, Bool.and_false, Bool.false_and, Bool.and_self, Bool.false_eq_true, ↓reduceIte, decide_true, decide_false, Int.toNat_natCast, Bool.toNat_true, Bool.toNat_false]; first | done | rfl | (simp only [c_5, if_true, if_false, Bool.and_true, Bool.true_and, Bool.and_false, Bool.false_and, Bool.and_self, Bool.false_eq_true, ↓reduceIte, decide_true, decide_false, Int.toNat_natCast, Bool.toNat_true, Bool.toNat_false]; first | done | rfl) | (simp only [if_pos c_5]; first | done | rfl) | (simp [c_5]; done) | (simp [c_5]; first | rfl | omega)) | (simp [sp_has, c_5]; done) | (simp [sp_has, c_5]; omega) | (simp only [sp_has, if_true, if_false, Bool.and_true, Bool.true_and, Bool.and_false, Bool.false_and, Bool.and_self, Bool.false_eq_true, ↓reduceIte, decide_true, decide_false, Int.toNat_natCast, Bool.toNat_true, Bool.toNat_false]; try simp only [c_5, if_true, if_false, Bool.and_true, Bool.true_and, Bool.and_false, Bool.false_and, Bool.and_self, Bool.false_eq_true, ↓reduceIte, decide_true, decide_false, Int.toNat_natCast, Bool.toNat_true, Bool.toNat_false]; rfl))
abbrev rm_X4_camp : Room := { frames := 0, cells := 0, slots := 0, locals := 0 }
set_option maxHeartbeats 4000000 in
set_option maxRecDepth 100000 in
theorem k_X4_camp (l : Launch) (D : va_G) (cI cB : ClassId) (way half : Nat) (h1 : way < 65536) (h2 : half < 16) : CtQ l yX4_camp cX4_camp 2 (some .int) rm_X4_camp D cI cB [.int (iI ((way : Nat) : Int)), .int (iI ((half : Nat) : Int))] ([]) ((iI ((sp_camp way half : Nat) : Int))) := by
  refine CtQ.of RX4 (by decide) rfl (Nat.le_of_ble_eq_true rfl) ?_
  intro p e s m args below meth c H ls hH F hr hlk P hl
  have hl : lv_has ls 2 [(0, .int (iI ((way : Nat) : Int))), (1, .int (iI ((half : Nat) : Int)))] := hl
  refine r_iln F hl 0 rfl dX4_camp_0 rfl ?_
  refine r_iln F hl 1 rfl dX4_camp_1 rfl ?_
  refine r_ic F 2 dX4_camp_2 rfl ?_
  refine r_div F dX4_camp_3 (by omega) ?_
  refine r_shr F dX4_camp_4 ⟨by omega, by omega⟩ ?_
  have b_1 : (way / 2 ^ (half / 2)) ≤ way := Nat.div_le_self _ _
  refine r_ic F 1 dX4_camp_5 rfl ?_
  refine r_and F dX4_camp_6 ?_
  have b_2 : ((way / 2 ^ (half / 2)) &&& 1) ≤ 1 := Nat.and_le_right
  refine r_iln F hl 1 rfl dX4_camp_7 rfl ?_
  refine r_ic F 2 dX4_camp_8 rfl ?_
  refine r_rem F dX4_camp_9 (by omega) ?_
  refine r_xor F dX4_camp_10 ?_
  have b_3 : (((way / 2 ^ (half / 2)) &&& 1) ^^^ (half % 2)) < 65536 := xor16 (by omega) (by omega)
  exact r_retQ F hr hlk hH dX4_camp_11 (by first | rfl | (simp only [sp_camp, if_true, if_false, Bool.and_true, Bool.true_and, Bool.and_false, Bool.false_and, Bool.and_self, Bool.false_eq_true, ↓reduceIte, decide_true, decide_false, Int.toNat_natCast, Bool.toNat_true, Bool.toNat_false]; first | done | rfl | (simp only [if_true, if_true, if_false, Bool.and_true, Bool.true_and, Bool.and_false, Bool.false_and, Bool.and_self, Bool.false_eq_true, ↓reduceIte, decide_true, decide_false, Int.toNat_natCast, Bool.toNat_true, Bool.toNat_false]; first | done | rfl) | (simp only [if_true]; first | done | rfl) | (simp [if_true]; done) | (simp [if_true]; first | rfl | omega)) | (simp [sp_camp]; done) | (simp [sp_camp]; omega) | (simp only [sp_camp, if_true, if_false, Bool.and_true, Bool.true_and, Bool.and_false, Bool.false_and, Bool.and_self, Bool.false_eq_true, ↓reduceIte, decide_true, decide_false, Int.toNat_natCast, Bool.toNat_true, Bool.toNat_false]; try simp only [if_true, if_true, if_false, Bool.and_true, Bool.true_and, Bool.and_false, Bool.false_and, Bool.and_self, Bool.false_eq_true, ↓reduceIte, decide_true, decide_false, Int.toNat_natCast, Bool.toNat_true, Bool.toNat_false]; rfl))
abbrev rm_X4_holds : Room := { frames := 0, cells := 0, slots := 0, locals := 0 }
set_option maxHeartbeats 4000000 in
set_option maxRecDepth 100000 in
theorem k_X4_holds (l : Launch) (D : va_G) (cI cB : ClassId) (q : Nat → Nat) (M : St) (x y d : Nat) (hx : x < 10 ∧ y < 10 ∧ d < 2) (hbk : ∀ k, M 2 k < 256) : CtQ l yX4_holds cX4_holds 5 (some .int) rm_X4_holds D cI cB [.ref (q 0), .int (iI ((x : Nat) : Int)), .int (iI ((y : Nat) : Int)), .int (iI ((d : Nat) : Int))] (wM q cI M) ((iI ((sp_holds (M 2 5) (M 2 6) (M 2 7) x y d : Nat) : Int))) := by
  refine CtQ.of RX4 (by decide) rfl (Nat.le_of_ble_eq_true rfl) ?_
  intro p e s m args below meth c H ls hH F hr hlk P hl
  have hl : lv_has ls 5 [(0, .ref (q 0)), (1, .int (iI ((x : Nat) : Int))), (2, .int (iI ((y : Nat) : Int))), (3, .int (iI ((d : Nat) : Int)))] := hl
  refine r_aln F hl 0 rfl dX4_holds_0 rfl ?_
  refine gf_X4_13 F P 0 rfl (.ref (q 3)) rfl dX4_holds_1 ?_
  refine r_ic F 5 dX4_holds_4 rfl ?_
  refine r_ald (f := M 2) F P 2 rfl dX4_holds_5 (by decide) (by omega) ?_
  have b_1 : M 2 (5) < 256 := hbk (5)
  refine r_iln F hl 1 rfl dX4_holds_6 rfl ?_
  refine r_subz F dX4_holds_7 ?_
  refine r_iln F hl 2 rfl dX4_holds_8 rfl ?_
  refine r_subz F dX4_holds_9 ?_
  refine r_is (lv' := [(0, .ref (q 0)), (1, .int (iI ((x : Nat) : Int))), (2, .int (iI ((y : Nat) : Int))), (3, .int (iI ((d : Nat) : Int))), (4, .int (iI (((((M 2 (5) : Nat) : Int) - ((x : Nat) : Int)) - ((y : Nat) : Int)))))]) F hl dX4_holds_10 (by decide) [1, 2, 3, 4, 0] rfl (fun ls hl => ?_)
  refine r_il F hl 4 rfl dX4_holds_12 ?_
  refine r_zgez (a := ((((M 2 (5) : Nat) : Int) - ((x : Nat) : Int)) - ((y : Nat) : Int))) 21 F dX4_holds_14 (by decide) (by omega) (fun c_2 => ?_) (fun c_2 => ?_)
  · have hl : lv_has ls 5 [(0, .ref (q 0)), (1, .int (iI ((x : Nat) : Int))), (2, .int (iI ((y : Nat) : Int))), (3, .int (iI ((d : Nat) : Int))), (4, .int (iI (((M 2 5 - x - y) : Nat) : Int)))] := by
      rw [show ((((M 2 (5) : Nat) : Int) - ((x : Nat) : Int)) - ((y : Nat) : Int)) = (((M 2 5 - x - y) : Nat) : Int) from by omega] at hl
      exact hl
    refine r_iln F hl 3 rfl dX4_holds_21 rfl ?_
    refine r_zne 37 F dX4_holds_22 (by decide) (by omega) (fun c_3 => ?_) (fun c_3 => ?_)
    · have hq_ : ¬ M 2 5 < x + y := by omega
      refine r_iln F hl 2 rfl dX4_holds_37 rfl ?_
      refine r_aln F hl 0 rfl dX4_holds_38 rfl ?_
      refine gf_X4_13 F P 0 rfl (.ref (q 3)) rfl dX4_holds_39 ?_
      refine r_bp F 7 dX4_holds_42 rfl ?_
      refine r_ald (f := M 2) F P 2 rfl dX4_holds_44 (by decide) (by omega) ?_
      have b_4 : M 2 (7) < 256 := hbk (7)
      refine r_mul F dX4_holds_45 ?_
      refine r_il F hl 4 rfl dX4_holds_46 ?_
      refine r_ic F 2 dX4_holds_48 rfl ?_
      refine r_div F dX4_holds_49 (by omega) ?_
      refine r_add F dX4_holds_50 ?_
      exact r_retQ F hr hlk hH dX4_holds_51 (by simp [sp_holds, hq_, c_2, (Int.not_lt.mp c_2), c_3])
    · have hq_ : ¬ M 2 5 < x + y := by omega
      refine r_iln F hl 1 rfl dX4_holds_25 rfl ?_
      refine r_aln F hl 0 rfl dX4_holds_26 rfl ?_
      refine gf_X4_13 F P 0 rfl (.ref (q 3)) rfl dX4_holds_27 ?_
      refine r_bp F 6 dX4_holds_30 rfl ?_
      refine r_ald (f := M 2) F P 2 rfl dX4_holds_32 (by decide) (by omega) ?_
      have b_5 : M 2 (6) < 256 := hbk (6)
      refine r_mul F dX4_holds_33 ?_
      refine r_goto 46 F dX4_holds_34 (by decide) ?_
      refine r_il F hl 4 rfl dX4_holds_46 ?_
      refine r_ic F 2 dX4_holds_48 rfl ?_
      refine r_div F dX4_holds_49 (by omega) ?_
      refine r_add F dX4_holds_50 ?_
      exact r_retQ F hr hlk hH dX4_holds_51 (by simp [sp_holds, hq_, c_2, (Int.not_lt.mp c_2), c_3])
  · have hq_ : M 2 5 < x + y := by omega
    refine r_ic F 0 dX4_holds_17 rfl ?_
    refine r_goto 51 F dX4_holds_18 (by decide) ?_
    exact r_retQ F hr hlk hH dX4_holds_51 (by simp [sp_holds, hq_, c_2, (Int.not_le.mpr c_2)])
abbrev rm_X4_whoKnow : Room := { frames := 0, cells := 0, slots := 0, locals := 0 }
set_option maxHeartbeats 4000000 in
set_option maxRecDepth 100000 in
theorem k_X4_whoKnow (l : Launch) (D : va_G) (cI cB : ClassId) (q : Nat → Nat) (M : St) (x : Nat) (hx : x < 65536) (hp : 1 ≤ M 2 0 ∧ M 2 0 ≤ 5) (hbk : ∀ k, M 2 k < 256) (ha : ∀ k, M 5 k < 65536) : CtQ l yX4_whoKnow cX4_whoKnow 4 (some .int) rm_X4_whoKnow D cI cB [.ref (q 0), .int (iI ((x : Nat) : Int))] (wM q cI M) ((iI ((sp_who (M 2 0) x (M 5) : Nat) : Int))) := by
  refine CtQ.of RX4 (by decide) rfl (Nat.le_of_ble_eq_true rfl) ?_
  intro p e s m args below meth c H ls hH F hr hlk P hl
  have hl : lv_has ls 4 [(0, .ref (q 0)), (1, .int (iI ((x : Nat) : Int)))] := hl
  refine r_ic F 0 dX4_whoKnow_0 rfl ?_
  refine r_isn (lv' := [(0, .ref (q 0)), (1, .int (iI ((x : Nat) : Int))), (2, .int (iI ((0 : Nat) : Int)))]) F hl dX4_whoKnow_1 rfl (by decide) [1, 2, 0] rfl (fun ls hl => ?_)
  refine r_ic F 0 dX4_whoKnow_2 rfl ?_
  refine r_isn (lv' := [(0, .ref (q 0)), (1, .int (iI ((x : Nat) : Int))), (2, .int (iI ((0 : Nat) : Int))), (3, .int (iI ((0 : Nat) : Int)))]) F hl dX4_whoKnow_3 rfl (by decide) [1, 2, 3, 0] rfl (fun ls hl => ?_)
  have lp_1 : ∀ (nn_ : Nat) (y : Nat) (i : Nat) (ls : Array Slot), M 2 0 - i < nn_ → (lpR (wkB x (M 5)) (M 2 0) i y = sp_who (M 2 0) x (M 5)) → (y < 65536) → (i ≤ M 2 0) → lv_has ls 4 [(0, .ref (q 0)), (1, .int (iI ((x : Nat) : Int))), (2, .int (iI ((y : Nat) : Int))), (3, .int (iI ((i : Nat) : Int)))] → W p l e rm_X4_whoKnow s m args below meth c H [] 0 0 (Qq below args s ((iI ((sp_who (M 2 0) x (M 5) : Nat) : Int)))) (F0 m 4 ls []) := by
    intro nn_
    induction nn_ with
    | zero => intro y i ls hlt; exact absurd hlt (Nat.not_lt_zero _)
    | succ nn_ ih =>
      have ih_2 := ih; clear ih
      intro y i ls hlt hI hy hk hl
      have hlt_3 := hlt
      refine r_iln F hl 3 rfl dX4_whoKnow_4 rfl ?_
      refine r_aln F hl 0 rfl dX4_whoKnow_5 rfl ?_
      refine gf_X4_13 F P 0 rfl (.ref (q 3)) rfl dX4_whoKnow_6 ?_
      refine r_ic F 0 dX4_whoKnow_9 rfl ?_
      refine r_ald (f := M 2) F P 2 rfl dX4_whoKnow_10 (by decide) (by omega) ?_
      have b_4 : M 2 (0) < 256 := hbk (0)
      refine r_cge 56 F dX4_whoKnow_11 (by decide) (by omega) (fun c_5 => ?_) (fun c_5 => ?_)
      · refine r_iln F hl 2 rfl dX4_whoKnow_56 rfl ?_
        exact r_retQ F hr hlk hH dX4_whoKnow_57 (by rw [← hI, lpR_end (by omega)])
      · refine r_iln F hl 2 rfl dX4_whoKnow_14 rfl ?_
        refine r_iln F hl 1 rfl dX4_whoKnow_15 rfl ?_
        refine r_aln F hl 0 rfl dX4_whoKnow_16 rfl ?_
        refine gf_X4_22 F P 0 rfl (.ref (q 6)) rfl dX4_whoKnow_17 ?_
        refine r_ic F 1 dX4_whoKnow_20 rfl ?_
        refine r_ic F 2 dX4_whoKnow_21 rfl ?_
        refine r_iln F hl 3 rfl dX4_whoKnow_22 rfl ?_
        refine r_mul F dX4_whoKnow_23 ?_
        refine r_add F dX4_whoKnow_24 ?_
        refine r_aln F hl 0 rfl dX4_whoKnow_25 rfl ?_
        refine gf_X4_22 F P 0 rfl (.ref (q 6)) rfl dX4_whoKnow_26 ?_
        refine r_ic F 0 dX4_whoKnow_29 rfl ?_
        refine r_ald (f := M 5) F P 5 rfl dX4_whoKnow_30 (by decide) (by omega) ?_
        have b_6 : M 5 (0) < 65536 := ha (0)
        refine r_ic F 2 dX4_whoKnow_31 rfl ?_
        refine r_rem F dX4_whoKnow_32 (by omega) ?_
        refine r_add F dX4_whoKnow_33 ?_
        refine r_ald (f := M 5) F P 5 rfl dX4_whoKnow_34 (by decide) (by omega) ?_
        have b_7 : M 5 (((1 + (2 * i)) + (M 5 (0) % 2))) < 65536 := ha (((1 + (2 * i)) + (M 5 (0) % 2)))
        refine r_icz F (-1) dX4_whoKnow_35 rfl ?_
        refine r_xorr F dX4_whoKnow_36 (iI (((M 5 (((1 + (2 * i)) + (M 5 (0) % 2))) : Nat) : Int)) ^^^ iI (-1)) rfl ?_
        refine r_andr F dX4_whoKnow_37 _ (iI_anot _ _) ?_
        have b_8 : anot (x) (M 5 (((1 + (2 * i)) + (M 5 (0) % 2)))) < 65536 := anot16 (by omega)
        refine r_zne 47 F dX4_whoKnow_38 (by decide) (by omega) (fun c_9 => ?_) (fun c_9 => ?_)
        · refine r_ic F 0 dX4_whoKnow_47 rfl ?_
          refine r_or F dX4_whoKnow_48 ?_
          have b_10 : (y ||| 0) < 65536 := or16 (by omega) (by omega)
          refine r_isn (lv' := [(0, .ref (q 0)), (1, .int (iI ((x : Nat) : Int))), (2, .int (iI (((y ||| 0) : Nat) : Int))), (3, .int (iI ((i : Nat) : Int)))]) F hl dX4_whoKnow_49 rfl (by decide) [1, 2, 0, 3] rfl (fun ls hl => ?_)
          refine r_inc (lv' := [(0, .ref (q 0)), (1, .int (iI ((x : Nat) : Int))), (2, .int (iI (((y ||| 0) : Nat) : Int))), (3, .int (iI (((i + 1) : Nat) : Int)))]) F hl 3 rfl dX4_whoKnow_50 1 rfl (by decide) [1, 2, 3, 0] rfl (fun ls hl => ?_)
          refine r_goto 4 F dX4_whoKnow_53 (by decide) ?_
          exact ih_2 ((y ||| 0)) ((i + 1)) ls (by omega) (by have h_ := hI; rw [lpR_step (by omega)] at h_; refine Eq.trans ?_ h_; first | rfl | (simp only [wkB, c_5, (Nat.not_le.mpr c_5), c_9, if_true, if_false, Bool.and_true, Bool.true_and, Bool.and_false, Bool.false_and, Bool.and_self, Bool.false_eq_true, ↓reduceIte, decide_true, decide_false, Int.toNat_natCast, Bool.toNat_true, Bool.toNat_false]; done) | (simp [wkB, c_5, (Nat.not_le.mpr c_5), c_9]; done)) (by omega) (by omega) hl
        · refine r_ic F 1 dX4_whoKnow_41 rfl ?_
          refine r_iln F hl 3 rfl dX4_whoKnow_42 rfl ?_
          have b_11 : 1 * 2 ^ (i) < 65536 := pw16 (by omega)
          refine r_shl F dX4_whoKnow_43 ⟨by omega, by omega⟩ ?_
          refine r_goto 48 F dX4_whoKnow_44 (by decide) ?_
          refine r_or F dX4_whoKnow_48 ?_
          have b_12 : (y ||| (1 * 2 ^ i)) < 65536 := or16 (by omega) (by omega)
          refine r_isn (lv' := [(0, .ref (q 0)), (1, .int (iI ((x : Nat) : Int))), (2, .int (iI (((y ||| (1 * 2 ^ i)) : Nat) : Int))), (3, .int (iI ((i : Nat) : Int)))]) F hl dX4_whoKnow_49 rfl (by decide) [1, 2, 0, 3] rfl (fun ls hl => ?_)
          refine r_inc (lv' := [(0, .ref (q 0)), (1, .int (iI ((x : Nat) : Int))), (2, .int (iI (((y ||| (1 * 2 ^ i)) : Nat) : Int))), (3, .int (iI (((i + 1) : Nat) : Int)))]) F hl 3 rfl dX4_whoKnow_50 1 rfl (by decide) [1, 2, 3, 0] rfl (fun ls hl => ?_)
          refine r_goto 4 F dX4_whoKnow_53 (by decide) ?_
          exact ih_2 ((y ||| (1 * 2 ^ i))) ((i + 1)) ls (by omega) (by have h_ := hI; rw [lpR_step (by omega)] at h_; refine Eq.trans ?_ h_; first | rfl | (simp only [wkB, c_5, (Nat.not_le.mpr c_5), c_9, if_true, if_false, Bool.and_true, Bool.true_and, Bool.and_false, Bool.false_and, Bool.and_self, Bool.false_eq_true, ↓reduceIte, decide_true, decide_false, Int.toNat_natCast, Bool.toNat_true, Bool.toNat_false]; done) | (simp [wkB, c_5, (Nat.not_le.mpr c_5), c_9]; done)) (by omega) (by omega) hl
  exact lp_1 _ (0) (0) ls (Nat.lt_succ_self _) rfl (by omega) (by omega) hl
abbrev rm_X4_parts : Room := { frames := 1, cells := 0, slots := 0, locals := 21 }
set_option maxHeartbeats 4000000 in
set_option maxRecDepth 100000 in
theorem k_X4_parts (l : Launch) (D : va_G) (cI cB : ClassId) (q : Nat → Nat) (M : St) (way : Nat) (hw : way < 65536) (hbk : ∀ k, M 2 k < 256) (hpr : M 2 2 ≤ 8 ∧ ∀ k, 64 ≤ k → k < 80 → M 2 k < 16) : CtQ l yX4_parts cX4_parts 4 (some .int) rm_X4_parts D cI cB [.ref (q 0), .int (iI ((way : Nat) : Int))] (wM q cI M) ((iI ((sp_parts (M 2) way : Nat) : Int))) := by
  refine CtQ.of RX4 (by decide) rfl (Nat.le_of_ble_eq_true rfl) ?_
  intro p e s m args below meth c H ls hH F hr hlk P hl
  have hl : lv_has ls 4 [(0, .ref (q 0)), (1, .int (iI ((way : Nat) : Int)))] := hl
  refine r_ic F 0 dX4_parts_0 rfl ?_
  refine r_isn (lv' := [(0, .ref (q 0)), (1, .int (iI ((way : Nat) : Int))), (2, .int (iI ((0 : Nat) : Int)))]) F hl dX4_parts_1 rfl (by decide) [1, 2, 0] rfl (fun ls hl => ?_)
  refine r_ic F 0 dX4_parts_2 rfl ?_
  refine r_isn (lv' := [(0, .ref (q 0)), (1, .int (iI ((way : Nat) : Int))), (2, .int (iI ((0 : Nat) : Int))), (3, .int (iI ((0 : Nat) : Int)))]) F hl dX4_parts_3 rfl (by decide) [1, 2, 3, 0] rfl (fun ls hl => ?_)
  have lp_1 : ∀ (nn_ : Nat) (y : Nat) (k : Nat) (ls : Array Slot), M 2 2 - k < nn_ → (lpR (ptB (M 2) way) (M 2 2) k y = sp_parts (M 2) way) → (y ≤ k) → (k ≤ M 2 2) → lv_has ls 4 [(0, .ref (q 0)), (1, .int (iI ((way : Nat) : Int))), (2, .int (iI ((y : Nat) : Int))), (3, .int (iI ((k : Nat) : Int)))] → W p l e rm_X4_parts s m args below meth c H [] 0 0 (Qq below args s ((iI ((sp_parts (M 2) way : Nat) : Int)))) (F0 m 4 ls []) := by
    intro nn_
    induction nn_ with
    | zero => intro y k ls hlt; exact absurd hlt (Nat.not_lt_zero _)
    | succ nn_ ih =>
      have ih_2 := ih; clear ih
      intro y k ls hlt hI hy hk hl
      have hlt_3 := hlt
      refine r_iln F hl 3 rfl dX4_parts_4 rfl ?_
      refine r_aln F hl 0 rfl dX4_parts_5 rfl ?_
      refine gf_X4_13 F P 0 rfl (.ref (q 3)) rfl dX4_parts_6 ?_
      refine r_ic F 2 dX4_parts_9 rfl ?_
      refine r_ald (f := M 2) F P 2 rfl dX4_parts_10 (by decide) (by omega) ?_
      have b_4 : M 2 (2) < 256 := hbk (2)
      refine r_cge 63 F dX4_parts_11 (by decide) (by omega) (fun c_5 => ?_) (fun c_5 => ?_)
      · refine r_iln F hl 2 rfl dX4_parts_63 rfl ?_
        exact r_retQ F hr hlk hH dX4_parts_64 (by rw [← hI, lpR_end (by omega)])
      · refine r_iln F hl 2 rfl dX4_parts_14 rfl ?_
        refine r_iln F hl 1 rfl dX4_parts_15 rfl ?_
        refine r_aln F hl 0 rfl dX4_parts_16 rfl ?_
        refine gf_X4_13 F P 0 rfl (.ref (q 3)) rfl dX4_parts_17 ?_
        refine r_bp F 64 dX4_parts_20 rfl ?_
        refine r_ic F 2 dX4_parts_22 rfl ?_
        refine r_iln F hl 3 rfl dX4_parts_23 rfl ?_
        refine r_mul F dX4_parts_24 ?_
        refine r_add F dX4_parts_25 ?_
        refine r_ald (f := M 2) F P 2 rfl dX4_parts_26 (by decide) (by omega) ?_
        have b_6 : M 2 ((64 + (2 * k))) < 256 := hbk ((64 + (2 * k)))
        have hq_ := hpr.2 (64 + 2 * k) (by omega) (by omega)
        refine r_sq F P (k_X4_camp l D cI cB (way) (M 2 ((64 + (2 * k)))) (by omega) (by omega)) gw_X4_140 [] rfl ⟨⟨rfl, rfl⟩, Nat.le_of_ble_eq_true rfl, Nat.le_of_ble_eq_true rfl⟩ ⟨Nat.le_of_ble_eq_true rfl, Nat.le_of_ble_eq_true rfl⟩ hl.1 rfl [.int (iI ((y : Nat) : Int))] rfl (Nat.le_of_ble_eq_true rfl) dX4_parts_27 ?_
        have hq_ := @camp_lt (way) (M 2 ((64 + (2 * k))))
        refine r_iln F hl 1 rfl dX4_parts_30 rfl ?_
        refine r_aln F hl 0 rfl dX4_parts_31 rfl ?_
        refine gf_X4_13 F P 0 rfl (.ref (q 3)) rfl dX4_parts_32 ?_
        refine r_bp F 64 dX4_parts_35 rfl ?_
        refine r_ic F 2 dX4_parts_37 rfl ?_
        refine r_iln F hl 3 rfl dX4_parts_38 rfl ?_
        refine r_mul F dX4_parts_39 ?_
        refine r_add F dX4_parts_40 ?_
        refine r_ic F 1 dX4_parts_41 rfl ?_
        refine r_add F dX4_parts_42 ?_
        refine r_ald (f := M 2) F P 2 rfl dX4_parts_43 (by decide) (by omega) ?_
        have b_7 : M 2 (((64 + (2 * k)) + 1)) < 256 := hbk (((64 + (2 * k)) + 1))
        have hq_ := hpr.2 (64 + 2 * k + 1) (by omega) (by omega)
        refine r_sq F P (k_X4_camp l D cI cB (way) (M 2 (((64 + (2 * k)) + 1))) (by omega) (by omega)) gw_X4_140 [] rfl ⟨⟨rfl, rfl⟩, Nat.le_of_ble_eq_true rfl, Nat.le_of_ble_eq_true rfl⟩ ⟨Nat.le_of_ble_eq_true rfl, Nat.le_of_ble_eq_true rfl⟩ hl.1 rfl [.int (iI ((sp_camp (way) (M 2 ((64 + (2 * k)))) : Nat) : Int)), .int (iI ((y : Nat) : Int))] rfl (Nat.le_of_ble_eq_true rfl) dX4_parts_44 ?_
        have hq_ := @camp_lt (way) (M 2 (((64 + (2 * k)) + 1)))
        refine r_ceq 54 F dX4_parts_47 (by decide) (by omega) (fun c_8 => ?_) (fun c_8 => ?_)
        · refine r_ic F 0 dX4_parts_54 rfl ?_
          refine r_add F dX4_parts_55 ?_
          refine r_isn (lv' := [(0, .ref (q 0)), (1, .int (iI ((way : Nat) : Int))), (2, .int (iI (((y + 0) : Nat) : Int))), (3, .int (iI ((k : Nat) : Int)))]) F hl dX4_parts_56 rfl (by decide) [1, 2, 0, 3] rfl (fun ls hl => ?_)
          refine r_inc (lv' := [(0, .ref (q 0)), (1, .int (iI ((way : Nat) : Int))), (2, .int (iI (((y + 0) : Nat) : Int))), (3, .int (iI (((k + 1) : Nat) : Int)))]) F hl 3 rfl dX4_parts_57 1 rfl (by decide) [1, 2, 3, 0] rfl (fun ls hl => ?_)
          refine r_goto 4 F dX4_parts_60 (by decide) ?_
          exact ih_2 ((y + 0)) ((k + 1)) ls (by omega) (by have h_ := hI; rw [lpR_step (by omega)] at h_; refine Eq.trans ?_ h_; first | rfl | (simp only [ptB, c_5, (Nat.not_le.mpr c_5), c_8, if_true, if_false, Bool.and_true, Bool.true_and, Bool.and_false, Bool.false_and, Bool.and_self, Bool.false_eq_true, ↓reduceIte, decide_true, decide_false, Int.toNat_natCast, Bool.toNat_true, Bool.toNat_false]; done) | (simp [ptB, c_5, (Nat.not_le.mpr c_5), c_8]; done)) (by omega) (by omega) hl
        · refine r_ic F 1 dX4_parts_50 rfl ?_
          refine r_goto 55 F dX4_parts_51 (by decide) ?_
          refine r_add F dX4_parts_55 ?_
          refine r_isn (lv' := [(0, .ref (q 0)), (1, .int (iI ((way : Nat) : Int))), (2, .int (iI (((y + 1) : Nat) : Int))), (3, .int (iI ((k : Nat) : Int)))]) F hl dX4_parts_56 rfl (by decide) [1, 2, 0, 3] rfl (fun ls hl => ?_)
          refine r_inc (lv' := [(0, .ref (q 0)), (1, .int (iI ((way : Nat) : Int))), (2, .int (iI (((y + 1) : Nat) : Int))), (3, .int (iI (((k + 1) : Nat) : Int)))]) F hl 3 rfl dX4_parts_57 1 rfl (by decide) [1, 2, 3, 0] rfl (fun ls hl => ?_)
          refine r_goto 4 F dX4_parts_60 (by decide) ?_
          exact ih_2 ((y + 1)) ((k + 1)) ls (by omega) (by have h_ := hI; rw [lpR_step (by omega)] at h_; refine Eq.trans ?_ h_; first | rfl | (simp only [ptB, c_5, (Nat.not_le.mpr c_5), c_8, if_true, if_false, Bool.and_true, Bool.true_and, Bool.and_false, Bool.false_and, Bool.and_self, Bool.false_eq_true, ↓reduceIte, decide_true, decide_false, Int.toNat_natCast, Bool.toNat_true, Bool.toNat_false]; done) | (simp [ptB, c_5, (Nat.not_le.mpr c_5), c_8]; done)) (by omega) (by omega) hl
  exact lp_1 _ (0) (0) ls (Nat.lt_succ_self _) rfl (by omega) (by omega) hl
abbrev rm_X4_rest : Room := { frames := 1, cells := 0, slots := 0, locals := 24 }
set_option maxHeartbeats 4000000 in
set_option maxRecDepth 100000 in
theorem k_X4_rest (l : Launch) (D : va_G) (cI cB : ClassId) (q : Nat → Nat) (M : St) (x y : Nat) (hx : x < 10 ∧ y < 10) (hbk : ∀ k, M 2 k < 256) : CtQ l yX4_rest cX4_rest 5 (some .boolean) rm_X4_rest D cI cB [.ref (q 0), .int (iI ((x : Nat) : Int)), .int (iI ((y : Nat) : Int))] (wM q cI M) ((iI ((Bool.toNat (sp_rest (M 2 5) (M 2 6) (M 2 7) x y) : Nat) : Int))) := by
  refine CtQ.of RX4 (by decide) rfl (Nat.le_of_ble_eq_true rfl) ?_
  intro p e s m args below meth c H ls hH F hr hlk P hl
  have hl : lv_has ls 5 [(0, .ref (q 0)), (1, .int (iI ((x : Nat) : Int))), (2, .int (iI ((y : Nat) : Int)))] := hl
  refine r_icb F true dX4_rest_0 rfl ?_
  refine r_isn (lv' := [(0, .ref (q 0)), (1, .int (iI ((x : Nat) : Int))), (2, .int (iI ((y : Nat) : Int))), (3, .int (iI ((Bool.toNat (true) : Nat) : Int)))]) F hl dX4_rest_1 rfl (by decide) [1, 2, 3, 0] rfl (fun ls hl => ?_)
  refine r_ic F 0 dX4_rest_2 rfl ?_
  refine r_is (lv' := [(0, .ref (q 0)), (1, .int (iI ((x : Nat) : Int))), (2, .int (iI ((y : Nat) : Int))), (3, .int (iI ((Bool.toNat (true) : Nat) : Int))), (4, .int (iI ((0 : Nat) : Int)))]) F hl dX4_rest_3 (by decide) [1, 2, 3, 4, 0] rfl (fun ls hl => ?_)
  have lp_1 : ∀ (nn_ : Nat) (b : Bool) (v : Nat) (ls : Array Slot), 10 - v < nn_ → (lpR (rsB (M 2 5) (M 2 6) (M 2 7) x y) 10 v b = sp_rest (M 2 5) (M 2 6) (M 2 7) x y) → (v ≤ 10) → lv_has ls 5 [(0, .ref (q 0)), (1, .int (iI ((x : Nat) : Int))), (2, .int (iI ((y : Nat) : Int))), (3, .int (iI ((Bool.toNat (b) : Nat) : Int))), (4, .int (iI ((v : Nat) : Int)))] → W p l e rm_X4_rest s m args below meth c H [] 0 0 (Qq below args s ((iI ((Bool.toNat (sp_rest (M 2 5) (M 2 6) (M 2 7) x y) : Nat) : Int)))) (F0 m 5 ls []) := by
    intro nn_
    induction nn_ with
    | zero => intro b v ls hlt; exact absurd hlt (Nat.not_lt_zero _)
    | succ nn_ ih =>
      have ih_2 := ih; clear ih
      intro b v ls hlt hI hk hl
      have hlt_3 := hlt
      refine r_il F hl 4 rfl dX4_rest_5 ?_
      refine r_bp F 10 dX4_rest_7 rfl ?_
      refine r_cge 64 F dX4_rest_9 (by decide) (by omega) (fun c_4 => ?_) (fun c_4 => ?_)
      · refine r_iln F hl 3 rfl dX4_rest_64 rfl ?_
        exact r_retQb F hr hlk hH dX4_rest_65 (by rw [← hI, lpR_end (by omega)])
      · refine r_iln F hl 3 rfl dX4_rest_12 rfl ?_
        refine r_zeqb 56 F dX4_rest_13 (by decide) (fun c_5 => ?_) (fun c_5 => ?_)
        · refine r_icb F false dX4_rest_56 rfl ?_
          refine r_isn (lv' := [(0, .ref (q 0)), (1, .int (iI ((x : Nat) : Int))), (2, .int (iI ((y : Nat) : Int))), (3, .int (iI ((Bool.toNat (false) : Nat) : Int))), (4, .int (iI ((v : Nat) : Int)))]) F hl dX4_rest_57 rfl (by decide) [1, 2, 3, 0, 4] rfl (fun ls hl => ?_)
          refine r_inc (lv' := [(0, .ref (q 0)), (1, .int (iI ((x : Nat) : Int))), (2, .int (iI ((y : Nat) : Int))), (3, .int (iI ((Bool.toNat (false) : Nat) : Int))), (4, .int (iI (((v + 1) : Nat) : Int)))]) F hl 4 rfl dX4_rest_58 1 rfl (by decide) [1, 2, 3, 4, 0] rfl (fun ls hl => ?_)
          refine r_goto 5 F dX4_rest_61 (by decide) ?_
          exact ih_2 (false) ((v + 1)) ls (by omega) (by have h_ := hI; rw [lpR_step (by omega)] at h_; refine Eq.trans ?_ h_; first | rfl | (simp only [rsB, c_4, (Nat.not_le.mpr c_4), c_5, if_true, if_false, Bool.and_true, Bool.true_and, Bool.and_false, Bool.false_and, Bool.and_self, Bool.false_eq_true, ↓reduceIte, decide_true, decide_false, Int.toNat_natCast, Bool.toNat_true, Bool.toNat_false]; done) | (simp [rsB, c_4, (Nat.not_le.mpr c_4), c_5]; done)) (by omega) hl
        · refine r_aln F hl 0 rfl dX4_rest_16 rfl ?_
          refine r_il F hl 4 rfl dX4_rest_17 ?_
          refine r_iln F hl 2 rfl dX4_rest_19 rfl ?_
          refine r_ic F 0 dX4_rest_20 rfl ?_
          refine r_cq F P (k_X4_holds l D cI cB (q) (M) (v) (y) (0) (by omega) hbk) gw_X4_132 [0, 1, 2, 3, 4, 5, 6, 7, 8, 9, 10] rfl rfl rfl ⟨⟨rfl, rfl⟩, Nat.le_of_ble_eq_true rfl, Nat.le_of_ble_eq_true rfl⟩ ⟨Nat.le_of_ble_eq_true rfl, Nat.le_of_ble_eq_true rfl⟩ hl.1 rfl [] rfl (Nat.le_of_ble_eq_true rfl) dX4_rest_21 ?_
          have hq_ := @holds_le ((M 2) 5) ((M 2) 6) ((M 2) 7) (v) (y) (0) (hbk 5) (hbk 6) (hbk 7) (by omega) (by omega)
          refine r_aln F hl 0 rfl dX4_rest_24 rfl ?_
          refine r_iln F hl 1 rfl dX4_rest_25 rfl ?_
          refine r_iln F hl 2 rfl dX4_rest_26 rfl ?_
          refine r_ic F 0 dX4_rest_27 rfl ?_
          refine r_cq F P (k_X4_holds l D cI cB (q) (M) (x) (y) (0) (by omega) hbk) gw_X4_132 [0, 1, 2, 3, 4, 5, 6, 7, 8, 9, 10] rfl rfl rfl ⟨⟨rfl, rfl⟩, Nat.le_of_ble_eq_true rfl, Nat.le_of_ble_eq_true rfl⟩ ⟨Nat.le_of_ble_eq_true rfl, Nat.le_of_ble_eq_true rfl⟩ hl.1 rfl [.int (iI ((sp_holds ((M 2) 5) ((M 2) 6) ((M 2) 7) (v) (y) (0) : Nat) : Int))] rfl (Nat.le_of_ble_eq_true rfl) dX4_rest_28 ?_
          have hq_ := @holds_le ((M 2) 5) ((M 2) 6) ((M 2) 7) (x) (y) (0) (hbk 5) (hbk 6) (hbk 7) (by omega) (by omega)
          refine r_cgt 56 F dX4_rest_31 (by decide) (by omega) (fun c_6 => ?_) (fun c_6 => ?_)
          · refine r_icb F false dX4_rest_56 rfl ?_
            refine r_isn (lv' := [(0, .ref (q 0)), (1, .int (iI ((x : Nat) : Int))), (2, .int (iI ((y : Nat) : Int))), (3, .int (iI ((Bool.toNat (false) : Nat) : Int))), (4, .int (iI ((v : Nat) : Int)))]) F hl dX4_rest_57 rfl (by decide) [1, 2, 3, 0, 4] rfl (fun ls hl => ?_)
            refine r_inc (lv' := [(0, .ref (q 0)), (1, .int (iI ((x : Nat) : Int))), (2, .int (iI ((y : Nat) : Int))), (3, .int (iI ((Bool.toNat (false) : Nat) : Int))), (4, .int (iI (((v + 1) : Nat) : Int)))]) F hl 4 rfl dX4_rest_58 1 rfl (by decide) [1, 2, 3, 4, 0] rfl (fun ls hl => ?_)
            refine r_goto 5 F dX4_rest_61 (by decide) ?_
            exact ih_2 (false) ((v + 1)) ls (by omega) (by have h_ := hI; rw [lpR_step (by omega)] at h_; refine Eq.trans ?_ h_; first | rfl | (simp only [rsB, c_4, (Nat.not_le.mpr c_4), c_5, c_6, (Nat.not_le.mpr c_6), if_true, if_false, Bool.and_true, Bool.true_and, Bool.and_false, Bool.false_and, Bool.and_self, Bool.false_eq_true, ↓reduceIte, decide_true, decide_false, Int.toNat_natCast, Bool.toNat_true, Bool.toNat_false]; done) | (simp [rsB, c_4, (Nat.not_le.mpr c_4), c_5, c_6, (Nat.not_le.mpr c_6)]; done)) (by omega) hl
          · refine r_aln F hl 0 rfl dX4_rest_34 rfl ?_
            refine r_iln F hl 1 rfl dX4_rest_35 rfl ?_
            refine r_il F hl 4 rfl dX4_rest_36 ?_
            refine r_ic F 1 dX4_rest_38 rfl ?_
            refine r_cq F P (k_X4_holds l D cI cB (q) (M) (x) (v) (1) (by omega) hbk) gw_X4_132 [0, 1, 2, 3, 4, 5, 6, 7, 8, 9, 10] rfl rfl rfl ⟨⟨rfl, rfl⟩, Nat.le_of_ble_eq_true rfl, Nat.le_of_ble_eq_true rfl⟩ ⟨Nat.le_of_ble_eq_true rfl, Nat.le_of_ble_eq_true rfl⟩ hl.1 rfl [] rfl (Nat.le_of_ble_eq_true rfl) dX4_rest_39 ?_
            have hq_ := @holds_le ((M 2) 5) ((M 2) 6) ((M 2) 7) (x) (v) (1) (hbk 5) (hbk 6) (hbk 7) (by omega) (by omega)
            refine r_aln F hl 0 rfl dX4_rest_42 rfl ?_
            refine r_iln F hl 1 rfl dX4_rest_43 rfl ?_
            refine r_iln F hl 2 rfl dX4_rest_44 rfl ?_
            refine r_ic F 1 dX4_rest_45 rfl ?_
            refine r_cq F P (k_X4_holds l D cI cB (q) (M) (x) (y) (1) (by omega) hbk) gw_X4_132 [0, 1, 2, 3, 4, 5, 6, 7, 8, 9, 10] rfl rfl rfl ⟨⟨rfl, rfl⟩, Nat.le_of_ble_eq_true rfl, Nat.le_of_ble_eq_true rfl⟩ ⟨Nat.le_of_ble_eq_true rfl, Nat.le_of_ble_eq_true rfl⟩ hl.1 rfl [.int (iI ((sp_holds ((M 2) 5) ((M 2) 6) ((M 2) 7) (x) (v) (1) : Nat) : Int))] rfl (Nat.le_of_ble_eq_true rfl) dX4_rest_46 ?_
            have hq_ := @holds_le ((M 2) 5) ((M 2) 6) ((M 2) 7) (x) (y) (1) (hbk 5) (hbk 6) (hbk 7) (by omega) (by omega)
            refine r_cgt 56 F dX4_rest_49 (by decide) (by omega) (fun c_7 => ?_) (fun c_7 => ?_)
            · refine r_icb F false dX4_rest_56 rfl ?_
              refine r_isn (lv' := [(0, .ref (q 0)), (1, .int (iI ((x : Nat) : Int))), (2, .int (iI ((y : Nat) : Int))), (3, .int (iI ((Bool.toNat (false) : Nat) : Int))), (4, .int (iI ((v : Nat) : Int)))]) F hl dX4_rest_57 rfl (by decide) [1, 2, 3, 0, 4] rfl (fun ls hl => ?_)
              refine r_inc (lv' := [(0, .ref (q 0)), (1, .int (iI ((x : Nat) : Int))), (2, .int (iI ((y : Nat) : Int))), (3, .int (iI ((Bool.toNat (false) : Nat) : Int))), (4, .int (iI (((v + 1) : Nat) : Int)))]) F hl 4 rfl dX4_rest_58 1 rfl (by decide) [1, 2, 3, 4, 0] rfl (fun ls hl => ?_)
              refine r_goto 5 F dX4_rest_61 (by decide) ?_
              exact ih_2 (false) ((v + 1)) ls (by omega) (by have h_ := hI; rw [lpR_step (by omega)] at h_; refine Eq.trans ?_ h_; first | rfl | (simp only [rsB, c_4, (Nat.not_le.mpr c_4), c_5, c_6, (Nat.not_lt.mp c_6), c_7, (Nat.not_le.mpr c_7), if_true, if_false, Bool.and_true, Bool.true_and, Bool.and_false, Bool.false_and, Bool.and_self, Bool.false_eq_true, ↓reduceIte, decide_true, decide_false, Int.toNat_natCast, Bool.toNat_true, Bool.toNat_false]; done) | (simp [rsB, c_4, (Nat.not_le.mpr c_4), c_5, c_6, (Nat.not_lt.mp c_6), c_7, (Nat.not_le.mpr c_7)]; done)) (by omega) hl
            · refine r_icb F true dX4_rest_52 rfl ?_
              refine r_goto 57 F dX4_rest_53 (by decide) ?_
              refine r_isn (lv' := [(0, .ref (q 0)), (1, .int (iI ((x : Nat) : Int))), (2, .int (iI ((y : Nat) : Int))), (3, .int (iI ((Bool.toNat (true) : Nat) : Int))), (4, .int (iI ((v : Nat) : Int)))]) F hl dX4_rest_57 rfl (by decide) [1, 2, 3, 0, 4] rfl (fun ls hl => ?_)
              refine r_inc (lv' := [(0, .ref (q 0)), (1, .int (iI ((x : Nat) : Int))), (2, .int (iI ((y : Nat) : Int))), (3, .int (iI ((Bool.toNat (true) : Nat) : Int))), (4, .int (iI (((v + 1) : Nat) : Int)))]) F hl 4 rfl dX4_rest_58 1 rfl (by decide) [1, 2, 3, 4, 0] rfl (fun ls hl => ?_)
              refine r_goto 5 F dX4_rest_61 (by decide) ?_
              exact ih_2 (true) ((v + 1)) ls (by omega) (by have h_ := hI; rw [lpR_step (by omega)] at h_; refine Eq.trans ?_ h_; first | rfl | (simp only [rsB, c_4, (Nat.not_le.mpr c_4), c_5, c_6, (Nat.not_lt.mp c_6), c_7, (Nat.not_lt.mp c_7), if_true, if_false, Bool.and_true, Bool.true_and, Bool.and_false, Bool.false_and, Bool.and_self, Bool.false_eq_true, ↓reduceIte, decide_true, decide_false, Int.toNat_natCast, Bool.toNat_true, Bool.toNat_false]; done) | (simp [rsB, c_4, (Nat.not_le.mpr c_4), c_5, c_6, (Nat.not_lt.mp c_6), c_7, (Nat.not_lt.mp c_7)]; done)) (by omega) hl
  exact lp_1 _ (true) (0) ls (Nat.lt_succ_self _) rfl (by omega) hl
end
section
-- ===== the model: shifts played ahead
def enB (bk : Nat → Nat) (i : Nat) (f : Nat → Nat) : Nat → Nat :=
  let f1 := upN f (1 + 2 * i) (f (1 + 2 * i) ||| sp_tells (bk 4) (f (2 + 2 * i)) (f (1 + 2 * i)))
  let f2 := upN f1 (2 + 2 * i) (f (2 + 2 * i) ||| sp_tells (bk 4) (f (1 + 2 * i)) (f (2 + 2 * i)))
  let f3 := upN f2 (1 + 2 * i + f2 0 % 2) (f2 (1 + 2 * i + f2 0 % 2) ||| f2 (11 + i))
  upN f3 (11 + i) 0
def sp_ends (bk f : Nat → Nat) : Nat → Nat := lpR (enB bk) (bk 0) 0 (upN f 0 (f 0 + 1))
theorem enB_lt {bk f : Nat → Nat} {i : Nat} (h : ∀ k, f k < 65536) : ∀ k, enB bk i f k < 65536 := by
  have h1 : ∀ k, upN f (1 + 2 * i) (f (1 + 2 * i) ||| sp_tells (bk 4) (f (2 + 2 * i)) (f (1 + 2 * i))) k < 65536 := upN_lt h (or16 (h _) (tells_lt (h _)))
  have h2 := upN_lt (k := 2 + 2 * i) h1 (or16 (h (2 + 2 * i)) (tells_lt (N := bk 4) (b := f (2 + 2 * i)) (h (1 + 2 * i))))
  exact upN_lt (upN_lt h2 (or16 (h2 _) (h2 _))) (by decide)
theorem ends_lt {bk f : Nat → Nat} (h : ∀ k, f k < 65536) (h0 : f 0 < 65535) : ∀ k, sp_ends bk f k < 65536 :=
  lpR_inv (P := fun (f : Nat → Nat) => ∀ k, f k < 65536) (fun _ _ h => enB_lt h) (upN_lt h (by omega))
theorem upN_ne {f : Nat → Nat} {k v j : Nat} (h : j ≠ k) : upN f k v j = f j := if_neg h
theorem upN_eq {f : Nat → Nat} {k v : Nat} : upN f k v k = v := if_pos rfl
theorem enB_0 {bk f : Nat → Nat} {i : Nat} : enB bk i f 0 = f 0 := by
  show upN (upN (upN (upN f _ _) _ _) _ _) _ _ 0 = f 0
  rw [upN_ne (by omega), upN_ne (by omega), upN_ne (by omega), upN_ne (by omega)]
theorem ends_0 {bk f : Nat → Nat} : sp_ends bk f 0 = f 0 + 1 :=
  lpR_inv (P := fun (g : Nat → Nat) => g 0 = f 0 + 1) (fun _ _ h => enB_0.trans h) upN_eq
/-- sixteen cells are copied -/
def cp16 (s f : Nat → Nat) : Nat → Nat := lpR (fun k f => upN f k (s k)) 16 0 f
theorem cp16_0 {s f : Nat → Nat} : cp16 s f 0 = s 0 := rfl
theorem cp16_lt {s f : Nat → Nat} (hs : ∀ k, s k < 65536) (h : ∀ k, f k < 65536) : ∀ k, cp16 s f k < 65536 := lpR_inv (P := fun (f : Nat → Nat) => ∀ k, f k < 65536) (fun k _ h => upN_lt h (hs k)) h
def sp_plays (bk s f : Nat → Nat) (n : Nat) : Nat → Nat := lpR (fun _ => sp_ends bk) n 0 (cp16 s f)
theorem plays_all {bk s f : Nat → Nat} {n : Nat} (hs : ∀ k, s k < 65536) (h : ∀ k, f k < 65536) (h0 : s 0 + n < 65535) : (∀ k, sp_plays bk s f n k < 65536) ∧ sp_plays bk s f n 0 = s 0 + n :=
  lpR_invk (P := fun k (g : Nat → Nat) => (∀ j, g j < 65536) ∧ g 0 = s 0 + k) (Nat.zero_le n) (fun k g hk h => ⟨ends_lt h.1 (by omega), by rw [ends_0, h.2]; omega⟩) ⟨cp16_lt hs h, cp16_0⟩
-- ===== the model's calls
def vHalf (p : Nat) (i d w : Int) : Bool := isP p i && isIn d 0 1 && isIn w 0 2
def g_half (bk s : Nat → Nat) (i d w : Int) : Int := if vHalf (bk 0) i d w then (if w.toNat = 0 then (bk (8 + 2 * i.toNat + d.toNat) : Int) else if w.toNat = 1 then (s (1 + 2 * i.toNat + d.toNat) : Int) else if d.toNat = s 0 % 2 then 0 else (s (11 + i.toNat) : Int)) else -1
def vSee (p : Nat) (i f : Int) : Bool := isP p i && isIn f 0 7
def g_seeS (bk s : Nat → Nat) (i f : Int) : Nat → Nat := if vSee (bk 0) i f then upN s (1 + 2 * i.toNat + s 0 % 2) (s (1 + 2 * i.toNat + s 0 % 2) ||| 1 * 2 ^ f.toNat) else s
def g_see (bk s : Nat → Nat) (i f : Int) : Int := if vSee (bk 0) i f then (g_seeS bk s i f (1 + 2 * i.toNat + g_seeS bk s i f 0 % 2) : Int) else -1
def bNote (s : Nat → Nat) (i f : Int) : Bool := decide (s (1 + 2 * i.toNat + s 0 % 2) / 2 ^ f.toNat &&& 1 = 0)
def g_noteS (bk s : Nat → Nat) (i f : Int) : Nat → Nat := if vSee (bk 0) i f then (if bNote s i f then s else upN s (11 + i.toNat) (s (11 + i.toNat) ||| 1 * 2 ^ f.toNat)) else s
def g_note (bk s : Nat → Nat) (i f : Int) : Int := if vSee (bk 0) i f then (if bNote s i f then -2 else (g_noteS bk s i f (11 + i.toNat) : Int)) else -1
def vDeed (p : Nat) (i f : Int) : Bool := isP p i && isIn f 0 255
def g_deed (bk s : Nat → Nat) (i f : Int) : Int := if vDeed (bk 0) i f then (if anot f.toNat (s (1 + 2 * i.toNat + s 0 % 2)) = 0 then 1 else 0) else -1
def vShift (s : Nat → Nat) (n : Int) : Bool := isIn n 1 40 && decide (s 0 + n.toNat ≤ 9999)
def g_shiftsA (bk s f : Nat → Nat) (n : Int) : Nat → Nat := if vShift s n then sp_plays bk s f n.toNat else f
def g_shiftsS (bk s f : Nat → Nat) (n : Int) : Nat → Nat := if vShift s n then cp16 (sp_plays bk s f n.toNat) s else s
def g_shifts (bk s f : Nat → Nat) (n : Int) : Int := if isIn n 1 40 then (if vShift s n then (g_shiftsS bk s f n 0 : Int) else -2) else -1
def vKnows (p : Nat) (n i d : Int) : Bool := isIn n 0 40 && isP p i && isIn d 0 1
def g_knowsA (bk s f : Nat → Nat) (n i d : Int) : Nat → Nat := if vKnows (bk 0) n i d then sp_plays bk s f n.toNat else f
def g_knows (bk s f : Nat → Nat) (n i d : Int) : Int := if vKnows (bk 0) n i d then (sp_plays bk s f n.toNat (1 + 2 * i.toNat + d.toNat) : Int) else -1
def vCould (n f : Int) : Bool := isIn n 0 40 && isIn f 0 255
def g_couldA (bk s f : Nat → Nat) (n x : Int) : Nat → Nat := if vCould n x then sp_plays bk s f n.toNat else f
def g_could (bk s f : Nat → Nat) (n x : Int) : Int := if vCould n x then (sp_who (bk 0) x.toNat (sp_plays bk s f n.toNat) : Int) else -1
/-- how many shifts till both halves know the same: fuel, count, what is known -/
def alF (bk : Nat → Nat) (i : Nat) : Nat → Nat → (Nat → Nat) → Nat × (Nat → Nat)
  | 0, n, f => (n, f)
  | m + 1, n, f => if f (1 + 2 * i) = f (2 + 2 * i) then (n, f) else alF bk i m (n + 1) (sp_ends bk f)
def alR (bk s f : Nat → Nat) (i : Nat) : Nat × (Nat → Nat) := alF bk i 40 0 (sp_plays bk s f 0)
def g_alikeA (bk s f : Nat → Nat) (i : Int) : Nat → Nat := if isP (bk 0) i then (alR bk s f i.toNat).2 else f
def g_alike (bk s f : Nat → Nat) (i : Int) : Int := if isP (bk 0) i then (if (alR bk s f i.toNat).2 (1 + 2 * i.toNat) = (alR bk s f i.toNat).2 (2 + 2 * i.toNat) then ((alR bk s f i.toNat).1 : Int) else -4) else -1
theorem alF_go {bk : Nat → Nat} {i n : Nat} {f : Nat → Nat} (hn : n < 40) (h : ¬ f (1 + 2 * i) = f (2 + 2 * i)) : alF bk i (40 - n) n f = alF bk i (40 - (n + 1)) (n + 1) (sp_ends bk f) := by
  rw [show 40 - n = (40 - (n + 1)) + 1 by omega]
  show (if f (1 + 2 * i) = f (2 + 2 * i) then (n, f) else alF bk i (40 - (n + 1)) (n + 1) (sp_ends bk f)) = _
  rw [if_neg h]
theorem alF_eq {bk : Nat → Nat} {i m n : Nat} {f : Nat → Nat} (h : f (1 + 2 * i) = f (2 + 2 * i)) : alF bk i m n f = (n, f) := by
  cases m with
  | zero => rfl
  | succ m => show (if f (1 + 2 * i) = f (2 + 2 * i) then (n, f) else _) = _; rw [if_pos h]
def vPurse (x y d : Int) : Bool := isIn x 0 9 && isIn y 0 9 && isIn d 0 1
def g_purse (bk : Nat → Nat) (x y d : Int) : Int := if vPurse x y d then (sp_holds (bk 5) (bk 6) (bk 7) x.toNat y.toNat d.toNat : Int) else -1
/-- rests, counted down: places yet to try, how many, the first -/
def rtF (P G H : Nat) : Nat → Nat → Int → Nat × Int
  | 0, a, b => (a, b)
  | j + 1, a, b => if sp_rest P G H (j / 10) (j % 10) then rtF P G H j (a + 1) (j : Int) else rtF P G H j a b
def rtR (bk : Nat → Nat) : Nat × Int := rtF (bk 5) (bk 6) (bk 7) 100 0 (-4)
def g_rests (bk : Nat → Nat) (w : Int) : Int := if isIn w 0 2 then (if w.toNat = 0 then ((rtR bk).1 : Int) else if (rtR bk).2 = -4 then -4 else if w.toNat = 1 then (((rtR bk).2.toNat / 10 : Nat) : Int) else (((rtR bk).2.toNat % 10 : Nat) : Int)) else -1
def cmB (bk : Nat → Nat) (way found : Nat) : Nat := if sp_parts bk way < sp_parts bk found then way else found
def cmR (bk : Nat → Nat) : Nat := lpR (cmB bk) (1 * 2 ^ bk 0) 1 0
def g_camps (bk : Nat → Nat) (w : Int) : Int := if isIn w 0 1 then (if w.toNat = 0 then (sp_parts bk (cmR bk) : Int) else (cmR bk : Int)) else -1
def vSeen (t f : Int) : Bool := isIn t 0 40 && isIn f 0 255
def g_count (M : St) (w : Int) : Int := if isIn w 0 2 then (M 2 w.toNat : Int) else if w = 3 then (M 4 0 : Int) else if w = 4 then (M 11 0 : Int) else if w = 5 then (M 7 0 : Int) else if w = 6 then (M 1 0 : Int) else if w = 7 then (M 2 3 : Int) else if w = 8 then (M 2 4 : Int) else -1
def cpK (s : Nat → Nat) (n : Nat) (f : Nat → Nat) : Nat → Nat := lpR (fun k f => upN f (16 * n + k) (s k)) 16 0 f
def cpB (kp : Nat → Nat) (n : Nat) (s : Nat → Nat) : Nat → Nat := lpR (fun k f => upN f k (kp (16 * n + k))) 16 0 s
end
section
abbrev rm_X4_ends : Room := { frames := 1, cells := 0, slots := 0, locals := 25 }
set_option maxHeartbeats 4000000 in
set_option maxRecDepth 100000 in
theorem k_X4_ends (l : Launch) (D : va_G) (cI cB : ClassId) (q : Nat → Nat) (M : St) (hp : 1 ≤ M 2 0 ∧ M 2 0 ≤ 5) (hbk : ∀ k, M 2 k < 256) (ha : ∀ k, M 5 k < 65536) (ha0 : M 5 0 < 65535) : CtV l yX4_ends cX4_ends 4 rm_X4_ends D cI cB [.ref (q 0)] (wM q cI M) (wM q cI (stR M 5 (sp_ends (M 2) (M 5)))) := by
  refine CtV.of RX4 (by decide) rfl (Nat.le_of_ble_eq_true rfl) ?_
  intro p e s m args below meth c H0 ls A hH hA F hr hlk B hl
  have hl : lv_has ls 4 [(0, .ref (q 0))] := hl
  refine r_aln F hl 0 rfl dX4_ends_0 rfl ?_
  refine gf_X4_22 F B.1 0 rfl (.ref (q 6)) rfl dX4_ends_1 ?_
  refine r_ic F 0 dX4_ends_4 rfl ?_
  refine r_dup2 F dX4_ends_5 rfl rfl ?_
  refine r_ald (f := M 5) F B.1 5 rfl dX4_ends_6 (by decide) (by omega) ?_
  have b_1 : M 5 (0) < 65536 := ha (0)
  refine r_ic F 1 dX4_ends_7 rfl ?_
  refine r_add F dX4_ends_8 ?_
  have hb_2 : ∀ j_, upN (M 5) (0) ((M 5 (0) + 1)) j_ < 65536 := upN_lt ha (by omega)
  refine r_ast (f := M 5) F B 5 (wM q cI (stR M 5 (upN (M 5) (0) ((M 5 (0) + 1))))) rfl dX4_ends_9 (by decide) (by omega) rfl (fun H locs B => ?_)
  refine r_ic F 0 dX4_ends_10 rfl ?_
  refine r_isn (lv' := [(0, .ref (q 0)), (1, .int (iI ((0 : Nat) : Int)))]) F hl dX4_ends_11 rfl (by decide) [1, 0] rfl (fun ls hl => ?_)
  have lp_3 : ∀ (nn_ : Nat) (i : Nat) (f : Nat → Nat) (H : Heap) (locs : List Loc) (ls : Array Slot), M 2 0 - i < nn_ → (lpR (enB (M 2)) (M 2 0) i f = sp_ends (M 2) (M 5)) → (∀ k, f k < 65536) → (i ≤ M 2 0) → Bx D A H0 (wM q cI (stR M 5 (f))) H locs → lv_has ls 4 [(0, .ref (q 0)), (1, .int (iI ((i : Nat) : Int)))] → W p l e rm_X4_ends s m args below meth c H locs 0 0 (Qw below args s D (wM q cI (stR M 5 (sp_ends (M 2) (M 5)))) A) (F0 m 12 ls []) := by
    intro nn_
    induction nn_ with
    | zero => intro i f H locs ls hlt; exact absurd hlt (Nat.not_lt_zero _)
    | succ nn_ ih =>
      have ih_4 := ih; clear ih
      intro i f H locs ls hlt hI hf hk B hl
      have hlt_5 := hlt
      refine r_iln F hl 1 rfl dX4_ends_12 rfl ?_
      refine r_aln F hl 0 rfl dX4_ends_13 rfl ?_
      refine gf_X4_13 F B.1 0 rfl (.ref (q 3)) rfl dX4_ends_14 ?_
      refine r_ic F 0 dX4_ends_17 rfl ?_
      refine r_ald (f := M 2) F B.1 2 rfl dX4_ends_18 (by decide) (by omega) ?_
      have b_6 : M 2 (0) < 256 := hbk (0)
      refine r_cge 127 F dX4_ends_19 (by decide) (by omega) (fun c_7 => ?_) (fun c_7 => ?_)
      · exact r_retV F hr hlk hH B dX4_ends_127 (by rw [show f = sp_ends (M 2) (M 5) from by rw [← hI, lpR_end (by omega)]])
      · refine r_aln F hl 0 rfl dX4_ends_22 rfl ?_
        refine gf_X4_22 F B.1 0 rfl (.ref (q 6)) rfl dX4_ends_23 ?_
        refine r_ic F 1 dX4_ends_26 rfl ?_
        refine r_ic F 2 dX4_ends_27 rfl ?_
        refine r_iln F hl 1 rfl dX4_ends_28 rfl ?_
        refine r_mul F dX4_ends_29 ?_
        refine r_add F dX4_ends_30 ?_
        refine r_ald (f := f) F B.1 5 rfl dX4_ends_31 (by decide) (by omega) ?_
        have b_8 : f ((1 + (2 * i))) < 65536 := hf ((1 + (2 * i)))
        refine r_isn (lv' := [(0, .ref (q 0)), (1, .int (iI ((i : Nat) : Int))), (2, .int (iI ((f ((1 + (2 * i))) : Nat) : Int)))]) F hl dX4_ends_32 rfl (by decide) [1, 2, 0] rfl (fun ls hl => ?_)
        refine r_aln F hl 0 rfl dX4_ends_33 rfl ?_
        refine gf_X4_22 F B.1 0 rfl (.ref (q 6)) rfl dX4_ends_34 ?_
        refine r_ic F 2 dX4_ends_37 rfl ?_
        refine r_ic F 2 dX4_ends_38 rfl ?_
        refine r_iln F hl 1 rfl dX4_ends_39 rfl ?_
        refine r_mul F dX4_ends_40 ?_
        refine r_add F dX4_ends_41 ?_
        refine r_ald (f := f) F B.1 5 rfl dX4_ends_42 (by decide) (by omega) ?_
        have b_9 : f ((2 + (2 * i))) < 65536 := hf ((2 + (2 * i)))
        refine r_isn (lv' := [(0, .ref (q 0)), (1, .int (iI ((i : Nat) : Int))), (2, .int (iI ((f ((1 + (2 * i))) : Nat) : Int))), (3, .int (iI ((f ((2 + (2 * i))) : Nat) : Int)))]) F hl dX4_ends_43 rfl (by decide) [1, 2, 3, 0] rfl (fun ls hl => ?_)
        refine r_aln F hl 0 rfl dX4_ends_44 rfl ?_
        refine gf_X4_22 F B.1 0 rfl (.ref (q 6)) rfl dX4_ends_45 ?_
        refine r_ic F 1 dX4_ends_48 rfl ?_
        refine r_ic F 2 dX4_ends_49 rfl ?_
        refine r_iln F hl 1 rfl dX4_ends_50 rfl ?_
        refine r_mul F dX4_ends_51 ?_
        refine r_add F dX4_ends_52 ?_
        refine r_iln F hl 2 rfl dX4_ends_53 rfl ?_
        refine r_aln F hl 0 rfl dX4_ends_54 rfl ?_
        refine r_iln F hl 3 rfl dX4_ends_55 rfl ?_
        refine r_iln F hl 2 rfl dX4_ends_56 rfl ?_
        refine r_cq F B.1 (k_X4_tells l D cI cB (q) ((stR M 5 (f))) (f ((2 + (2 * i)))) (f ((1 + (2 * i)))) (by omega) hbk) gw_X4_108 [0, 1, 2, 3, 4, 5, 6, 7, 8, 9, 10] rfl rfl rfl ⟨⟨rfl, rfl⟩, Nat.le_of_ble_eq_true rfl, Nat.le_of_ble_eq_true rfl⟩ ⟨Nat.le_of_ble_eq_true rfl, Nat.le_of_ble_eq_true rfl⟩ hl.1 rfl [.int (iI ((f ((1 + (2 * i))) : Nat) : Int)), .int (iI (((1 + (2 * i)) : Nat) : Int)), .ref (q 6)] rfl (Nat.le_of_ble_eq_true rfl) dX4_ends_57 ?_
        have hq_ := @tells_lt ((M 2) 4) (f ((2 + (2 * i)))) (f ((1 + (2 * i)))) (by omega)
        refine r_or F dX4_ends_60 ?_
        have b_10 : (f ((1 + (2 * i))) ||| sp_tells ((M 2) 4) (f ((2 + (2 * i)))) (f ((1 + (2 * i))))) < 65536 := or16 (by omega) (by omega)
        have hb_11 : ∀ j_, upN (f) ((1 + (2 * i))) ((f ((1 + (2 * i))) ||| sp_tells ((M 2) 4) (f ((2 + (2 * i)))) (f ((1 + (2 * i)))))) j_ < 65536 := upN_lt hf (by omega)
        refine r_ast (f := f) F B 5 (wM q cI (stR M 5 (upN (f) ((1 + (2 * i))) ((f ((1 + (2 * i))) ||| sp_tells ((M 2) 4) (f ((2 + (2 * i)))) (f ((1 + (2 * i))))))))) rfl dX4_ends_61 (by decide) (by omega) rfl (fun H locs B => ?_)
        refine r_aln F hl 0 rfl dX4_ends_62 rfl ?_
        refine gf_X4_22 F B.1 0 rfl (.ref (q 6)) rfl dX4_ends_63 ?_
        refine r_ic F 2 dX4_ends_66 rfl ?_
        refine r_ic F 2 dX4_ends_67 rfl ?_
        refine r_iln F hl 1 rfl dX4_ends_68 rfl ?_
        refine r_mul F dX4_ends_69 ?_
        refine r_add F dX4_ends_70 ?_
        refine r_iln F hl 3 rfl dX4_ends_71 rfl ?_
        refine r_aln F hl 0 rfl dX4_ends_72 rfl ?_
        refine r_iln F hl 2 rfl dX4_ends_73 rfl ?_
        refine r_iln F hl 3 rfl dX4_ends_74 rfl ?_
        refine r_cq F B.1 (k_X4_tells l D cI cB (q) ((stR M 5 (upN (f) ((1 + (2 * i))) ((f ((1 + (2 * i))) ||| sp_tells ((M 2) 4) (f ((2 + (2 * i)))) (f ((1 + (2 * i))))))))) (f ((1 + (2 * i)))) (f ((2 + (2 * i)))) (by omega) hbk) gw_X4_108 [0, 1, 2, 3, 4, 5, 6, 7, 8, 9, 10] rfl rfl rfl ⟨⟨rfl, rfl⟩, Nat.le_of_ble_eq_true rfl, Nat.le_of_ble_eq_true rfl⟩ ⟨Nat.le_of_ble_eq_true rfl, Nat.le_of_ble_eq_true rfl⟩ hl.1 rfl [.int (iI ((f ((2 + (2 * i))) : Nat) : Int)), .int (iI (((2 + (2 * i)) : Nat) : Int)), .ref (q 6)] rfl (Nat.le_of_ble_eq_true rfl) dX4_ends_75 ?_
        have hq_ := @tells_lt ((M 2) 4) (f ((1 + (2 * i)))) (f ((2 + (2 * i)))) (by omega)
        refine r_or F dX4_ends_78 ?_
        have b_12 : (f ((2 + (2 * i))) ||| sp_tells ((M 2) 4) (f ((1 + (2 * i)))) (f ((2 + (2 * i))))) < 65536 := or16 (by omega) (by omega)
        have hb_13 : ∀ j_, upN (upN (f) ((1 + (2 * i))) ((f ((1 + (2 * i))) ||| sp_tells ((M 2) 4) (f ((2 + (2 * i)))) (f ((1 + (2 * i))))))) ((2 + (2 * i))) ((f ((2 + (2 * i))) ||| sp_tells ((M 2) 4) (f ((1 + (2 * i)))) (f ((2 + (2 * i)))))) j_ < 65536 := upN_lt hb_11 (by omega)
        refine r_ast (f := upN (f) ((1 + (2 * i))) ((f ((1 + (2 * i))) ||| sp_tells ((M 2) 4) (f ((2 + (2 * i)))) (f ((1 + (2 * i))))))) F B 5 (wM q cI (stR M 5 (upN (upN (f) ((1 + (2 * i))) ((f ((1 + (2 * i))) ||| sp_tells ((M 2) 4) (f ((2 + (2 * i)))) (f ((1 + (2 * i))))))) ((2 + (2 * i))) ((f ((2 + (2 * i))) ||| sp_tells ((M 2) 4) (f ((1 + (2 * i)))) (f ((2 + (2 * i))))))))) rfl dX4_ends_79 (by decide) (by omega) rfl (fun H locs B => ?_)
        refine r_aln F hl 0 rfl dX4_ends_80 rfl ?_
        refine gf_X4_22 F B.1 0 rfl (.ref (q 6)) rfl dX4_ends_81 ?_
        refine r_ic F 1 dX4_ends_84 rfl ?_
        refine r_ic F 2 dX4_ends_85 rfl ?_
        refine r_iln F hl 1 rfl dX4_ends_86 rfl ?_
        refine r_mul F dX4_ends_87 ?_
        refine r_add F dX4_ends_88 ?_
        refine r_aln F hl 0 rfl dX4_ends_89 rfl ?_
        refine gf_X4_22 F B.1 0 rfl (.ref (q 6)) rfl dX4_ends_90 ?_
        refine r_ic F 0 dX4_ends_93 rfl ?_
        refine r_ald (f := upN (upN (f) ((1 + (2 * i))) ((f ((1 + (2 * i))) ||| sp_tells ((M 2) 4) (f ((2 + (2 * i)))) (f ((1 + (2 * i))))))) ((2 + (2 * i))) ((f ((2 + (2 * i))) ||| sp_tells ((M 2) 4) (f ((1 + (2 * i)))) (f ((2 + (2 * i))))))) F B.1 5 rfl dX4_ends_94 (by decide) (by omega) ?_
        have b_14 : (upN (upN (f) ((1 + (2 * i))) ((f ((1 + (2 * i))) ||| sp_tells ((M 2) 4) (f ((2 + (2 * i)))) (f ((1 + (2 * i))))))) ((2 + (2 * i))) ((f ((2 + (2 * i))) ||| sp_tells ((M 2) 4) (f ((1 + (2 * i)))) (f ((2 + (2 * i))))))) (0) < 65536 := hb_13 (0)
        refine r_ic F 2 dX4_ends_95 rfl ?_
        refine r_rem F dX4_ends_96 (by omega) ?_
        refine r_add F dX4_ends_97 ?_
        refine r_dup2 F dX4_ends_98 rfl rfl ?_
        refine r_ald (f := upN (upN (f) ((1 + (2 * i))) ((f ((1 + (2 * i))) ||| sp_tells ((M 2) 4) (f ((2 + (2 * i)))) (f ((1 + (2 * i))))))) ((2 + (2 * i))) ((f ((2 + (2 * i))) ||| sp_tells ((M 2) 4) (f ((1 + (2 * i)))) (f ((2 + (2 * i))))))) F B.1 5 rfl dX4_ends_99 (by decide) (by omega) ?_
        have b_15 : (upN (upN (f) ((1 + (2 * i))) ((f ((1 + (2 * i))) ||| sp_tells ((M 2) 4) (f ((2 + (2 * i)))) (f ((1 + (2 * i))))))) ((2 + (2 * i))) ((f ((2 + (2 * i))) ||| sp_tells ((M 2) 4) (f ((1 + (2 * i)))) (f ((2 + (2 * i))))))) (((1 + (2 * i)) + ((upN (upN (f) ((1 + (2 * i))) ((f ((1 + (2 * i))) ||| sp_tells ((M 2) 4) (f ((2 + (2 * i)))) (f ((1 + (2 * i))))))) ((2 + (2 * i))) ((f ((2 + (2 * i))) ||| sp_tells ((M 2) 4) (f ((1 + (2 * i)))) (f ((2 + (2 * i))))))) (0) % 2))) < 65536 := hb_13 (((1 + (2 * i)) + ((upN (upN (f) ((1 + (2 * i))) ((f ((1 + (2 * i))) ||| sp_tells ((M 2) 4) (f ((2 + (2 * i)))) (f ((1 + (2 * i))))))) ((2 + (2 * i))) ((f ((2 + (2 * i))) ||| sp_tells ((M 2) 4) (f ((1 + (2 * i)))) (f ((2 + (2 * i))))))) (0) % 2)))
        refine r_aln F hl 0 rfl dX4_ends_100 rfl ?_
        refine gf_X4_22 F B.1 0 rfl (.ref (q 6)) rfl dX4_ends_101 ?_
        refine r_bp F 11 dX4_ends_104 rfl ?_
        refine r_iln F hl 1 rfl dX4_ends_106 rfl ?_
        refine r_add F dX4_ends_107 ?_
        refine r_ald (f := upN (upN (f) ((1 + (2 * i))) ((f ((1 + (2 * i))) ||| sp_tells ((M 2) 4) (f ((2 + (2 * i)))) (f ((1 + (2 * i))))))) ((2 + (2 * i))) ((f ((2 + (2 * i))) ||| sp_tells ((M 2) 4) (f ((1 + (2 * i)))) (f ((2 + (2 * i))))))) F B.1 5 rfl dX4_ends_108 (by decide) (by omega) ?_
        have b_16 : (upN (upN (f) ((1 + (2 * i))) ((f ((1 + (2 * i))) ||| sp_tells ((M 2) 4) (f ((2 + (2 * i)))) (f ((1 + (2 * i))))))) ((2 + (2 * i))) ((f ((2 + (2 * i))) ||| sp_tells ((M 2) 4) (f ((1 + (2 * i)))) (f ((2 + (2 * i))))))) ((11 + i)) < 65536 := hb_13 ((11 + i))
        refine r_or F dX4_ends_109 ?_
        have b_17 : ((upN (upN (f) ((1 + (2 * i))) ((f ((1 + (2 * i))) ||| sp_tells ((M 2) 4) (f ((2 + (2 * i)))) (f ((1 + (2 * i))))))) ((2 + (2 * i))) ((f ((2 + (2 * i))) ||| sp_tells ((M 2) 4) (f ((1 + (2 * i)))) (f ((2 + (2 * i))))))) (((1 + (2 * i)) + ((upN (upN (f) ((1 + (2 * i))) ((f ((1 + (2 * i))) ||| sp_tells ((M 2) 4) (f ((2 + (2 * i)))) (f ((1 + (2 * i))))))) ((2 + (2 * i))) ((f ((2 + (2 * i))) ||| sp_tells ((M 2) 4) (f ((1 + (2 * i)))) (f ((2 + (2 * i))))))) (0) % 2))) ||| (upN (upN (f) ((1 + (2 * i))) ((f ((1 + (2 * i))) ||| sp_tells ((M 2) 4) (f ((2 + (2 * i)))) (f ((1 + (2 * i))))))) ((2 + (2 * i))) ((f ((2 + (2 * i))) ||| sp_tells ((M 2) 4) (f ((1 + (2 * i)))) (f ((2 + (2 * i))))))) ((11 + i))) < 65536 := or16 (by omega) (by omega)
        have hb_18 : ∀ j_, upN (upN (upN (f) ((1 + (2 * i))) ((f ((1 + (2 * i))) ||| sp_tells ((M 2) 4) (f ((2 + (2 * i)))) (f ((1 + (2 * i))))))) ((2 + (2 * i))) ((f ((2 + (2 * i))) ||| sp_tells ((M 2) 4) (f ((1 + (2 * i)))) (f ((2 + (2 * i))))))) (((1 + (2 * i)) + ((upN (upN (f) ((1 + (2 * i))) ((f ((1 + (2 * i))) ||| sp_tells ((M 2) 4) (f ((2 + (2 * i)))) (f ((1 + (2 * i))))))) ((2 + (2 * i))) ((f ((2 + (2 * i))) ||| sp_tells ((M 2) 4) (f ((1 + (2 * i)))) (f ((2 + (2 * i))))))) (0) % 2))) (((upN (upN (f) ((1 + (2 * i))) ((f ((1 + (2 * i))) ||| sp_tells ((M 2) 4) (f ((2 + (2 * i)))) (f ((1 + (2 * i))))))) ((2 + (2 * i))) ((f ((2 + (2 * i))) ||| sp_tells ((M 2) 4) (f ((1 + (2 * i)))) (f ((2 + (2 * i))))))) (((1 + (2 * i)) + ((upN (upN (f) ((1 + (2 * i))) ((f ((1 + (2 * i))) ||| sp_tells ((M 2) 4) (f ((2 + (2 * i)))) (f ((1 + (2 * i))))))) ((2 + (2 * i))) ((f ((2 + (2 * i))) ||| sp_tells ((M 2) 4) (f ((1 + (2 * i)))) (f ((2 + (2 * i))))))) (0) % 2))) ||| (upN (upN (f) ((1 + (2 * i))) ((f ((1 + (2 * i))) ||| sp_tells ((M 2) 4) (f ((2 + (2 * i)))) (f ((1 + (2 * i))))))) ((2 + (2 * i))) ((f ((2 + (2 * i))) ||| sp_tells ((M 2) 4) (f ((1 + (2 * i)))) (f ((2 + (2 * i))))))) ((11 + i)))) j_ < 65536 := upN_lt hb_13 (by omega)
        refine r_ast (f := upN (upN (f) ((1 + (2 * i))) ((f ((1 + (2 * i))) ||| sp_tells ((M 2) 4) (f ((2 + (2 * i)))) (f ((1 + (2 * i))))))) ((2 + (2 * i))) ((f ((2 + (2 * i))) ||| sp_tells ((M 2) 4) (f ((1 + (2 * i)))) (f ((2 + (2 * i))))))) F B 5 (wM q cI (stR M 5 (upN (upN (upN (f) ((1 + (2 * i))) ((f ((1 + (2 * i))) ||| sp_tells ((M 2) 4) (f ((2 + (2 * i)))) (f ((1 + (2 * i))))))) ((2 + (2 * i))) ((f ((2 + (2 * i))) ||| sp_tells ((M 2) 4) (f ((1 + (2 * i)))) (f ((2 + (2 * i))))))) (((1 + (2 * i)) + ((upN (upN (f) ((1 + (2 * i))) ((f ((1 + (2 * i))) ||| sp_tells ((M 2) 4) (f ((2 + (2 * i)))) (f ((1 + (2 * i))))))) ((2 + (2 * i))) ((f ((2 + (2 * i))) ||| sp_tells ((M 2) 4) (f ((1 + (2 * i)))) (f ((2 + (2 * i))))))) (0) % 2))) (((upN (upN (f) ((1 + (2 * i))) ((f ((1 + (2 * i))) ||| sp_tells ((M 2) 4) (f ((2 + (2 * i)))) (f ((1 + (2 * i))))))) ((2 + (2 * i))) ((f ((2 + (2 * i))) ||| sp_tells ((M 2) 4) (f ((1 + (2 * i)))) (f ((2 + (2 * i))))))) (((1 + (2 * i)) + ((upN (upN (f) ((1 + (2 * i))) ((f ((1 + (2 * i))) ||| sp_tells ((M 2) 4) (f ((2 + (2 * i)))) (f ((1 + (2 * i))))))) ((2 + (2 * i))) ((f ((2 + (2 * i))) ||| sp_tells ((M 2) 4) (f ((1 + (2 * i)))) (f ((2 + (2 * i))))))) (0) % 2))) ||| (upN (upN (f) ((1 + (2 * i))) ((f ((1 + (2 * i))) ||| sp_tells ((M 2) 4) (f ((2 + (2 * i)))) (f ((1 + (2 * i))))))) ((2 + (2 * i))) ((f ((2 + (2 * i))) ||| sp_tells ((M 2) 4) (f ((1 + (2 * i)))) (f ((2 + (2 * i))))))) ((11 + i))))))) rfl dX4_ends_110 (by decide) (by omega) rfl (fun H locs B => ?_)
        refine r_aln F hl 0 rfl dX4_ends_111 rfl ?_
        refine gf_X4_22 F B.1 0 rfl (.ref (q 6)) rfl dX4_ends_112 ?_
        refine r_bp F 11 dX4_ends_115 rfl ?_
        refine r_iln F hl 1 rfl dX4_ends_117 rfl ?_
        refine r_add F dX4_ends_118 ?_
        refine r_ic F 0 dX4_ends_119 rfl ?_
        have hb_19 : ∀ j_, upN (upN (upN (upN (f) ((1 + (2 * i))) ((f ((1 + (2 * i))) ||| sp_tells ((M 2) 4) (f ((2 + (2 * i)))) (f ((1 + (2 * i))))))) ((2 + (2 * i))) ((f ((2 + (2 * i))) ||| sp_tells ((M 2) 4) (f ((1 + (2 * i)))) (f ((2 + (2 * i))))))) (((1 + (2 * i)) + ((upN (upN (f) ((1 + (2 * i))) ((f ((1 + (2 * i))) ||| sp_tells ((M 2) 4) (f ((2 + (2 * i)))) (f ((1 + (2 * i))))))) ((2 + (2 * i))) ((f ((2 + (2 * i))) ||| sp_tells ((M 2) 4) (f ((1 + (2 * i)))) (f ((2 + (2 * i))))))) (0) % 2))) (((upN (upN (f) ((1 + (2 * i))) ((f ((1 + (2 * i))) ||| sp_tells ((M 2) 4) (f ((2 + (2 * i)))) (f ((1 + (2 * i))))))) ((2 + (2 * i))) ((f ((2 + (2 * i))) ||| sp_tells ((M 2) 4) (f ((1 + (2 * i)))) (f ((2 + (2 * i))))))) (((1 + (2 * i)) + ((upN (upN (f) ((1 + (2 * i))) ((f ((1 + (2 * i))) ||| sp_tells ((M 2) 4) (f ((2 + (2 * i)))) (f ((1 + (2 * i))))))) ((2 + (2 * i))) ((f ((2 + (2 * i))) ||| sp_tells ((M 2) 4) (f ((1 + (2 * i)))) (f ((2 + (2 * i))))))) (0) % 2))) ||| (upN (upN (f) ((1 + (2 * i))) ((f ((1 + (2 * i))) ||| sp_tells ((M 2) 4) (f ((2 + (2 * i)))) (f ((1 + (2 * i))))))) ((2 + (2 * i))) ((f ((2 + (2 * i))) ||| sp_tells ((M 2) 4) (f ((1 + (2 * i)))) (f ((2 + (2 * i))))))) ((11 + i))))) ((11 + i)) (0) j_ < 65536 := upN_lt hb_18 (by omega)
        refine r_ast (f := upN (upN (upN (f) ((1 + (2 * i))) ((f ((1 + (2 * i))) ||| sp_tells ((M 2) 4) (f ((2 + (2 * i)))) (f ((1 + (2 * i))))))) ((2 + (2 * i))) ((f ((2 + (2 * i))) ||| sp_tells ((M 2) 4) (f ((1 + (2 * i)))) (f ((2 + (2 * i))))))) (((1 + (2 * i)) + ((upN (upN (f) ((1 + (2 * i))) ((f ((1 + (2 * i))) ||| sp_tells ((M 2) 4) (f ((2 + (2 * i)))) (f ((1 + (2 * i))))))) ((2 + (2 * i))) ((f ((2 + (2 * i))) ||| sp_tells ((M 2) 4) (f ((1 + (2 * i)))) (f ((2 + (2 * i))))))) (0) % 2))) (((upN (upN (f) ((1 + (2 * i))) ((f ((1 + (2 * i))) ||| sp_tells ((M 2) 4) (f ((2 + (2 * i)))) (f ((1 + (2 * i))))))) ((2 + (2 * i))) ((f ((2 + (2 * i))) ||| sp_tells ((M 2) 4) (f ((1 + (2 * i)))) (f ((2 + (2 * i))))))) (((1 + (2 * i)) + ((upN (upN (f) ((1 + (2 * i))) ((f ((1 + (2 * i))) ||| sp_tells ((M 2) 4) (f ((2 + (2 * i)))) (f ((1 + (2 * i))))))) ((2 + (2 * i))) ((f ((2 + (2 * i))) ||| sp_tells ((M 2) 4) (f ((1 + (2 * i)))) (f ((2 + (2 * i))))))) (0) % 2))) ||| (upN (upN (f) ((1 + (2 * i))) ((f ((1 + (2 * i))) ||| sp_tells ((M 2) 4) (f ((2 + (2 * i)))) (f ((1 + (2 * i))))))) ((2 + (2 * i))) ((f ((2 + (2 * i))) ||| sp_tells ((M 2) 4) (f ((1 + (2 * i)))) (f ((2 + (2 * i))))))) ((11 + i))))) F B 5 (wM q cI (stR M 5 (upN (upN (upN (upN (f) ((1 + (2 * i))) ((f ((1 + (2 * i))) ||| sp_tells ((M 2) 4) (f ((2 + (2 * i)))) (f ((1 + (2 * i))))))) ((2 + (2 * i))) ((f ((2 + (2 * i))) ||| sp_tells ((M 2) 4) (f ((1 + (2 * i)))) (f ((2 + (2 * i))))))) (((1 + (2 * i)) + ((upN (upN (f) ((1 + (2 * i))) ((f ((1 + (2 * i))) ||| sp_tells ((M 2) 4) (f ((2 + (2 * i)))) (f ((1 + (2 * i))))))) ((2 + (2 * i))) ((f ((2 + (2 * i))) ||| sp_tells ((M 2) 4) (f ((1 + (2 * i)))) (f ((2 + (2 * i))))))) (0) % 2))) (((upN (upN (f) ((1 + (2 * i))) ((f ((1 + (2 * i))) ||| sp_tells ((M 2) 4) (f ((2 + (2 * i)))) (f ((1 + (2 * i))))))) ((2 + (2 * i))) ((f ((2 + (2 * i))) ||| sp_tells ((M 2) 4) (f ((1 + (2 * i)))) (f ((2 + (2 * i))))))) (((1 + (2 * i)) + ((upN (upN (f) ((1 + (2 * i))) ((f ((1 + (2 * i))) ||| sp_tells ((M 2) 4) (f ((2 + (2 * i)))) (f ((1 + (2 * i))))))) ((2 + (2 * i))) ((f ((2 + (2 * i))) ||| sp_tells ((M 2) 4) (f ((1 + (2 * i)))) (f ((2 + (2 * i))))))) (0) % 2))) ||| (upN (upN (f) ((1 + (2 * i))) ((f ((1 + (2 * i))) ||| sp_tells ((M 2) 4) (f ((2 + (2 * i)))) (f ((1 + (2 * i))))))) ((2 + (2 * i))) ((f ((2 + (2 * i))) ||| sp_tells ((M 2) 4) (f ((1 + (2 * i)))) (f ((2 + (2 * i))))))) ((11 + i))))) ((11 + i)) (0)))) rfl dX4_ends_120 (by decide) (by omega) rfl (fun H locs B => ?_)
        refine r_inc (lv' := [(0, .ref (q 0)), (1, .int (iI (((i + 1) : Nat) : Int))), (2, .int (iI ((f ((1 + (2 * i))) : Nat) : Int))), (3, .int (iI ((f ((2 + (2 * i))) : Nat) : Int)))]) F hl 1 rfl dX4_ends_121 1 rfl (by decide) [1, 0, 2, 3] rfl (fun ls hl => ?_)
        refine r_goto 12 F dX4_ends_124 (by decide) ?_
        exact ih_4 ((i + 1)) (upN (upN (upN (upN (f) ((1 + (2 * i))) ((f ((1 + (2 * i))) ||| sp_tells ((M 2) 4) (f ((2 + (2 * i)))) (f ((1 + (2 * i))))))) ((2 + (2 * i))) ((f ((2 + (2 * i))) ||| sp_tells ((M 2) 4) (f ((1 + (2 * i)))) (f ((2 + (2 * i))))))) (((1 + (2 * i)) + ((upN (upN (f) ((1 + (2 * i))) ((f ((1 + (2 * i))) ||| sp_tells ((M 2) 4) (f ((2 + (2 * i)))) (f ((1 + (2 * i))))))) ((2 + (2 * i))) ((f ((2 + (2 * i))) ||| sp_tells ((M 2) 4) (f ((1 + (2 * i)))) (f ((2 + (2 * i))))))) (0) % 2))) (((upN (upN (f) ((1 + (2 * i))) ((f ((1 + (2 * i))) ||| sp_tells ((M 2) 4) (f ((2 + (2 * i)))) (f ((1 + (2 * i))))))) ((2 + (2 * i))) ((f ((2 + (2 * i))) ||| sp_tells ((M 2) 4) (f ((1 + (2 * i)))) (f ((2 + (2 * i))))))) (((1 + (2 * i)) + ((upN (upN (f) ((1 + (2 * i))) ((f ((1 + (2 * i))) ||| sp_tells ((M 2) 4) (f ((2 + (2 * i)))) (f ((1 + (2 * i))))))) ((2 + (2 * i))) ((f ((2 + (2 * i))) ||| sp_tells ((M 2) 4) (f ((1 + (2 * i)))) (f ((2 + (2 * i))))))) (0) % 2))) ||| (upN (upN (f) ((1 + (2 * i))) ((f ((1 + (2 * i))) ||| sp_tells ((M 2) 4) (f ((2 + (2 * i)))) (f ((1 + (2 * i))))))) ((2 + (2 * i))) ((f ((2 + (2 * i))) ||| sp_tells ((M 2) 4) (f ((1 + (2 * i)))) (f ((2 + (2 * i))))))) ((11 + i))))) ((11 + i)) (0)) _ _ ls (by omega) (by have h_ := hI; rw [lpR_step (by omega)] at h_; refine Eq.trans ?_ h_; first | rfl | (simp only [enB, c_7, (Nat.not_le.mpr c_7), if_true, if_false, Bool.and_true, Bool.true_and, Bool.and_false, Bool.false_and, Bool.and_self, Bool.false_eq_true, ↓reduceIte, decide_true, decide_false, Int.toNat_natCast, Bool.toNat_true, Bool.toNat_false]; done) | (simp [enB, c_7, (Nat.not_le.mpr c_7)]; done)) hb_19 (by omega) B (lv_sub hl [0, 1] rfl)
  exact lp_3 _ (0) (upN (M 5) (0) ((M 5 (0) + 1))) _ _ ls (Nat.lt_succ_self _) rfl hb_2 (by omega) B hl
abbrev rm_X4_plays : Room := { frames := 2, cells := 0, slots := 0, locals := 48 }
set_option maxHeartbeats 4000000 in
set_option maxRecDepth 100000 in
theorem k_X4_plays (l : Launch) (D : va_G) (cI cB : ClassId) (q : Nat → Nat) (M : St) (n : Nat) (hn : n ≤ 60) (hp : 1 ≤ M 2 0 ∧ M 2 0 ≤ 5) (hbk : ∀ k, M 2 k < 256) (hs : ∀ k, M 4 k < 65536) (hs0 : M 4 0 ≤ 9999) (ha : ∀ k, M 5 k < 65536) : CtV l yX4_plays cX4_plays 3 rm_X4_plays D cI cB [.ref (q 0), .int (iI ((n : Nat) : Int))] (wM q cI M) (wM q cI (stR M 5 (sp_plays (M 2) (M 4) (M 5) n))) := by
  refine CtV.of RX4 (by decide) rfl (Nat.le_of_ble_eq_true rfl) ?_
  intro p e s m args below meth c H0 ls A hH hA F hr hlk B hl
  have hl : lv_has ls 3 [(0, .ref (q 0)), (1, .int (iI ((n : Nat) : Int)))] := hl
  refine r_ic F 0 dX4_plays_0 rfl ?_
  refine r_isn (lv' := [(0, .ref (q 0)), (1, .int (iI ((n : Nat) : Int))), (2, .int (iI ((0 : Nat) : Int)))]) F hl dX4_plays_1 rfl (by decide) [1, 2, 0] rfl (fun ls hl => ?_)
  have lp_1 : ∀ (nn_ : Nat) (k : Nat) (f : Nat → Nat) (H : Heap) (locs : List Loc) (ls : Array Slot), 16 - k < nn_ → (lpR (fun k f => upN f k (M 4 k)) 16 k f = cp16 (M 4) (M 5)) → (∀ k, f k < 65536) → (k ≤ 16) → Bx D A H0 (wM q cI (stR M 5 (f))) H locs → lv_has ls 3 [(0, .ref (q 0)), (1, .int (iI ((n : Nat) : Int))), (2, .int (iI ((k : Nat) : Int)))] → W p l e rm_X4_plays s m args below meth c H locs 0 0 (Qw below args s D (wM q cI (stR M 5 (sp_plays (M 2) (M 4) (M 5) n))) A) (F0 m 2 ls []) := by
    intro nn_
    induction nn_ with
    | zero => intro k f H locs ls hlt; exact absurd hlt (Nat.not_lt_zero _)
    | succ nn_ ih =>
      have ih_2 := ih; clear ih
      intro k f H locs ls hlt hI hf hk B hl
      have hlt_3 := hlt
      refine r_iln F hl 2 rfl dX4_plays_2 rfl ?_
      refine r_bp F 16 dX4_plays_3 rfl ?_
      refine r_cge 26 F dX4_plays_5 (by decide) (by omega) (fun c_4 => ?_) (fun c_4 => ?_)
      · refine r_ic F 0 dX4_plays_26 rfl ?_
        refine r_isn (lv' := [(0, .ref (q 0)), (1, .int (iI ((n : Nat) : Int))), (2, .int (iI ((0 : Nat) : Int)))]) F hl dX4_plays_27 rfl (by decide) [1, 2, 0] rfl (fun ls hl => ?_)
        have lp_5 : ∀ (nn_ : Nat) (k2 : Nat) (f2 : Nat → Nat) (H : Heap) (locs : List Loc) (ls : Array Slot), n - k2 < nn_ → (lpR (fun _ => sp_ends (M 2)) n k2 f2 = sp_plays (M 2) (M 4) (M 5) n) → (∀ k, f2 k < 65536) → (f2 0 = M 4 0 + k2) → (k2 ≤ n) → Bx D A H0 (wM q cI (stR M 5 (f2))) H locs → lv_has ls 3 [(0, .ref (q 0)), (1, .int (iI ((n : Nat) : Int))), (2, .int (iI ((k2 : Nat) : Int)))] → W p l e rm_X4_plays s m args below meth c H locs 0 0 (Qw below args s D (wM q cI (stR M 5 (sp_plays (M 2) (M 4) (M 5) n))) A) (F0 m 28 ls []) := by
          intro nn_
          induction nn_ with
          | zero => intro k2 f2 H locs ls hlt; exact absurd hlt (Nat.not_lt_zero _)
          | succ nn_ ih =>
            have ih_6 := ih; clear ih
            intro k2 f2 H locs ls hlt hI2 hf2 h02 hk2 B hl
            have hlt_7 := hlt
            refine r_iln F hl 2 rfl dX4_plays_28 rfl ?_
            refine r_iln F hl 1 rfl dX4_plays_29 rfl ?_
            refine r_cge 43 F dX4_plays_30 (by decide) (by omega) (fun c_8 => ?_) (fun c_8 => ?_)
            · exact r_retV F hr hlk hH B dX4_plays_43 (by rw [show f2 = sp_plays (M 2) (M 4) (M 5) n from by rw [← hI2, lpR_end (by omega)]])
            · refine r_aln F hl 0 rfl dX4_plays_33 rfl ?_
              refine r_cvW F hA B (k_X4_ends l D cI cB (q) ((stR M 5 (f2)))  hp hbk hf2 (show (f2) 0 < 65535 from by omega)) gw_X4_112 rfl rfl ⟨⟨rfl, rfl⟩, Nat.le_of_ble_eq_true rfl, Nat.le_of_ble_eq_true rfl⟩ ⟨Nat.le_of_ble_eq_true rfl, Nat.le_of_ble_eq_true rfl⟩ hl.1 rfl [] rfl (Nat.le_of_ble_eq_true rfl) dX4_plays_34 (fun H locs B => ?_)
              have hb_9 : ∀ j_, (sp_ends (M 2) (f2)) j_ < 65536 := ends_lt hf2 (by omega)
              have hq_ := @ends_0 (M 2) (f2)
              refine r_inc (lv' := [(0, .ref (q 0)), (1, .int (iI ((n : Nat) : Int))), (2, .int (iI (((k2 + 1) : Nat) : Int)))]) F hl 2 rfl dX4_plays_37 1 rfl (by decide) [1, 2, 0] rfl (fun ls hl => ?_)
              refine r_goto 28 F dX4_plays_40 (by decide) ?_
              exact ih_6 ((k2 + 1)) (sp_ends (M 2) (f2)) _ _ ls (by omega) (by have h_ := hI2; rw [lpR_step (by omega)] at h_; refine Eq.trans ?_ h_; first | rfl | (simp only [c_4, (Nat.not_lt.mp c_4), c_8, (Nat.not_le.mpr c_8), if_true, if_false, Bool.and_true, Bool.true_and, Bool.and_false, Bool.false_and, Bool.and_self, Bool.false_eq_true, ↓reduceIte, decide_true, decide_false, Int.toNat_natCast, Bool.toNat_true, Bool.toNat_false]; done) | (simp [c_4, (Nat.not_lt.mp c_4), c_8, (Nat.not_le.mpr c_8)]; done)) hb_9 (by omega) (by omega) B hl
        exact lp_5 _ (0) (f) _ _ ls (Nat.lt_succ_self _) (by rw [show f = cp16 (M 4) (M 5) from by rw [← hI, lpR_end (by omega)]]; rfl) hf (by rw [show f = cp16 (M 4) (M 5) from by rw [← hI, lpR_end (by omega)]]; rfl) (by omega) B hl
      · refine r_aln F hl 0 rfl dX4_plays_8 rfl ?_
        refine gf_X4_22 F B.1 0 rfl (.ref (q 6)) rfl dX4_plays_9 ?_
        refine r_iln F hl 2 rfl dX4_plays_12 rfl ?_
        refine r_aln F hl 0 rfl dX4_plays_13 rfl ?_
        refine gf_X4_19 F B.1 0 rfl (.ref (q 5)) rfl dX4_plays_14 ?_
        refine r_iln F hl 2 rfl dX4_plays_17 rfl ?_
        refine r_ald (f := M 4) F B.1 4 rfl dX4_plays_18 (by decide) (by omega) ?_
        have b_10 : M 4 (k) < 65536 := hs (k)
        have hb_11 : ∀ j_, upN (f) (k) (M 4 (k)) j_ < 65536 := upN_lt hf (by omega)
        refine r_ast (f := f) F B 5 (wM q cI (stR M 5 (upN (f) (k) (M 4 (k))))) rfl dX4_plays_19 (by decide) (by omega) rfl (fun H locs B => ?_)
        refine r_inc (lv' := [(0, .ref (q 0)), (1, .int (iI ((n : Nat) : Int))), (2, .int (iI (((k + 1) : Nat) : Int)))]) F hl 2 rfl dX4_plays_20 1 rfl (by decide) [1, 2, 0] rfl (fun ls hl => ?_)
        refine r_goto 2 F dX4_plays_23 (by decide) ?_
        exact ih_2 ((k + 1)) (upN (f) (k) (M 4 (k))) _ _ ls (by omega) (by have h_ := hI; rw [lpR_step (by omega)] at h_; refine Eq.trans ?_ h_; first | rfl | (simp only [c_4, (Nat.not_le.mpr c_4), if_true, if_false, Bool.and_true, Bool.true_and, Bool.and_false, Bool.false_and, Bool.and_self, Bool.false_eq_true, ↓reduceIte, decide_true, decide_false, Int.toNat_natCast, Bool.toNat_true, Bool.toNat_false]; done) | (simp [c_4, (Nat.not_le.mpr c_4)]; done)) hb_11 (by omega) B hl
  exact lp_1 _ (0) (M 5) _ _ ls (Nat.lt_succ_self _) rfl ha (by omega) B hl
abbrev rm_X4_half : Room := { frames := 2, cells := 0, slots := 0, locals := 43 }
set_option maxHeartbeats 4000000 in
set_option maxRecDepth 100000 in
theorem k_X4_half (l : Launch) (D : va_G) (cI cB : ClassId) (q : Nat → Nat) (M : St) (i d w : Int) (hi : (-2147483648 ≤ i ∧ i < 2147483648)) (hd : (-2147483648 ≤ d ∧ d < 2147483648)) (hw : (-2147483648 ≤ w ∧ w < 2147483648)) (hp : 1 ≤ M 2 0 ∧ M 2 0 ≤ 5) (hbk : ∀ k, M 2 k < 256) (hs : ∀ k, M 4 k < 65536) : CtQ l yX4_half cX4_half 4 (some .int) rm_X4_half D cI cB [.ref (q 0), .int (iI (i)), .int (iI (d)), .int (iI (w))] (wM q cI M) ((iI (g_half (M 2) (M 4) i d w))) := by
  refine CtQ.of RX4 (by decide) rfl (Nat.le_of_ble_eq_true rfl) ?_
  intro p e s m args below meth c H ls hH F hr hlk P hl
  have hl : lv_has ls 4 [(0, .ref (q 0)), (1, .int (iI (i))), (2, .int (iI (d))), (3, .int (iI (w)))] := hl
  refine r_aln F hl 0 rfl dX4_half_0 rfl ?_
  refine r_iln F hl 1 rfl dX4_half_1 rfl ?_
  refine r_cq F P (k_X4_isPerson l D cI cB (q) (M) (i) (by omega) hbk) gw_X4_99 [0, 1, 2, 3, 4, 5, 6, 7, 8, 9, 10] rfl rfl rfl ⟨⟨rfl, rfl⟩, Nat.le_of_ble_eq_true rfl, Nat.le_of_ble_eq_true rfl⟩ ⟨Nat.le_of_ble_eq_true rfl, Nat.le_of_ble_eq_true rfl⟩ hl.1 rfl [] rfl (Nat.le_of_ble_eq_true rfl) dX4_half_2 ?_
  refine r_zeqb 26 F dX4_half_5 (by decide) (fun c_1 => ?_) (fun c_1 => ?_)
  · have c_1d := c_1
    simp only [isIn, isP, decide_eq_true_eq, decide_eq_false_iff_not] at c_1d
    refine r_icz F (-1) dX4_half_26 rfl ?_
    exact r_retQ F hr hlk hH dX4_half_27 (by first | rfl | (simp only [g_half, vHalf, c_1, if_true, if_false, Bool.and_true, Bool.true_and, Bool.and_false, Bool.false_and, Bool.and_self, Bool.false_eq_true, ↓reduceIte, decide_true, decide_false, Int.toNat_natCast, Bool.toNat_true, Bool.toNat_false]; first | done | rfl | (simp only [if_true, if_true, if_false, Bool.and_true, Bool.true_and, Bool.and_false, Bool.false_and, Bool.and_self, Bool.false_eq_true, ↓reduceIte, decide_true, decide_false, Int.toNat_natCast, Bool.toNat_true, Bool.toNat_false]; first | done | rfl) | (simp only [if_true]; first | done | rfl) | (simp [if_true]; done) | (simp [if_true]; first | rfl | omega)) | (simp [g_half, vHalf, c_1]; done) | (simp [g_half, vHalf, c_1]; omega) | (simp only [g_half, vHalf, c_1, if_true, if_false, Bool.and_true, Bool.true_and, Bool.and_false, Bool.false_and, Bool.and_self, Bool.false_eq_true, ↓reduceIte, decide_true, decide_false, Int.toNat_natCast, Bool.toNat_true, Bool.toNat_false]; try simp only [if_true, if_true, if_false, Bool.and_true, Bool.true_and, Bool.and_false, Bool.false_and, Bool.and_self, Bool.false_eq_true, ↓reduceIte, decide_true, decide_false, Int.toNat_natCast, Bool.toNat_true, Bool.toNat_false]; rfl))
  · have c_1d := c_1
    simp only [isIn, isP, decide_eq_true_eq, decide_eq_false_iff_not] at c_1d
    refine r_iln F hl 2 rfl dX4_half_8 rfl ?_
    refine r_ic F 0 dX4_half_9 rfl ?_
    refine r_ic F 1 dX4_half_10 rfl ?_
    refine r_sq F P (k_X4_in l D cI cB (d) ((0 : Int)) ((1 : Int)) (by omega) (by omega) (by omega)) gw_X4_40 [] rfl ⟨⟨rfl, rfl⟩, Nat.le_of_ble_eq_true rfl, Nat.le_of_ble_eq_true rfl⟩ ⟨Nat.le_of_ble_eq_true rfl, Nat.le_of_ble_eq_true rfl⟩ hl.1 rfl [] rfl (Nat.le_of_ble_eq_true rfl) dX4_half_11 ?_
    refine r_zeqb 26 F dX4_half_14 (by decide) (fun c_2 => ?_) (fun c_2 => ?_)
    · have c_2d := c_2
      simp only [isIn, isP, decide_eq_true_eq, decide_eq_false_iff_not] at c_2d
      refine r_icz F (-1) dX4_half_26 rfl ?_
      exact r_retQ F hr hlk hH dX4_half_27 (by first | rfl | (simp only [g_half, vHalf, c_1, c_2, if_true, if_false, Bool.and_true, Bool.true_and, Bool.and_false, Bool.false_and, Bool.and_self, Bool.false_eq_true, ↓reduceIte, decide_true, decide_false, Int.toNat_natCast, Bool.toNat_true, Bool.toNat_false]; first | done | rfl | (simp only [if_true, if_true, if_false, Bool.and_true, Bool.true_and, Bool.and_false, Bool.false_and, Bool.and_self, Bool.false_eq_true, ↓reduceIte, decide_true, decide_false, Int.toNat_natCast, Bool.toNat_true, Bool.toNat_false]; first | done | rfl) | (simp only [if_true]; first | done | rfl) | (simp [if_true]; done) | (simp [if_true]; first | rfl | omega)) | (simp [g_half, vHalf, c_1, c_2]; done) | (simp [g_half, vHalf, c_1, c_2]; omega) | (simp only [g_half, vHalf, c_1, c_2, if_true, if_false, Bool.and_true, Bool.true_and, Bool.and_false, Bool.false_and, Bool.and_self, Bool.false_eq_true, ↓reduceIte, decide_true, decide_false, Int.toNat_natCast, Bool.toNat_true, Bool.toNat_false]; try simp only [if_true, if_true, if_false, Bool.and_true, Bool.true_and, Bool.and_false, Bool.false_and, Bool.and_self, Bool.false_eq_true, ↓reduceIte, decide_true, decide_false, Int.toNat_natCast, Bool.toNat_true, Bool.toNat_false]; rfl))
    · have c_2d := c_2
      simp only [isIn, isP, decide_eq_true_eq, decide_eq_false_iff_not] at c_2d
      refine r_iln F hl 3 rfl dX4_half_17 rfl ?_
      refine r_ic F 0 dX4_half_18 rfl ?_
      refine r_ic F 2 dX4_half_19 rfl ?_
      refine r_sq F P (k_X4_in l D cI cB (w) ((0 : Int)) ((2 : Int)) (by omega) (by omega) (by omega)) gw_X4_40 [] rfl ⟨⟨rfl, rfl⟩, Nat.le_of_ble_eq_true rfl, Nat.le_of_ble_eq_true rfl⟩ ⟨Nat.le_of_ble_eq_true rfl, Nat.le_of_ble_eq_true rfl⟩ hl.1 rfl [] rfl (Nat.le_of_ble_eq_true rfl) dX4_half_20 ?_
      refine r_zneb 28 F dX4_half_23 (by decide) (fun c_3 => ?_) (fun c_3 => ?_)
      · have c_3d := c_3
        simp only [isIn, isP, decide_eq_true_eq, decide_eq_false_iff_not] at c_3d
        obtain ⟨i_, rfl⟩ : ∃ k : Nat, i = (k : Int) := ⟨i.toNat, by omega⟩
        have hl : lv_has ls 4 [(0, .ref (q 0)), (1, .int (iI ((i_ : Nat) : Int))), (2, .int (iI (d))), (3, .int (iI (w)))] := hl
        obtain ⟨d_, rfl⟩ : ∃ k : Nat, d = (k : Int) := ⟨d.toNat, by omega⟩
        have hl : lv_has ls 4 [(0, .ref (q 0)), (1, .int (iI ((i_ : Nat) : Int))), (2, .int (iI ((d_ : Nat) : Int))), (3, .int (iI (w)))] := hl
        obtain ⟨w_, rfl⟩ : ∃ k : Nat, w = (k : Int) := ⟨w.toNat, by omega⟩
        have hl : lv_has ls 4 [(0, .ref (q 0)), (1, .int (iI ((i_ : Nat) : Int))), (2, .int (iI ((d_ : Nat) : Int))), (3, .int (iI ((w_ : Nat) : Int)))] := hl
        refine r_iln F hl 3 rfl dX4_half_28 rfl ?_
        refine r_zne 48 F dX4_half_29 (by decide) (by omega) (fun c_4 => ?_) (fun c_4 => ?_)
        · refine r_iln F hl 3 rfl dX4_half_48 rfl ?_
          refine r_ic F 1 dX4_half_49 rfl ?_
          refine r_cne 68 F dX4_half_50 (by decide) (by omega) (fun c_5 => ?_) (fun c_5 => ?_)
          · refine r_iln F hl 2 rfl dX4_half_68 rfl ?_
            refine r_aln F hl 0 rfl dX4_half_69 rfl ?_
            refine r_cq F P (k_X4_awake l D cI cB (q) (M)  hs) gw_X4_102 [0, 1, 2, 3, 4, 5, 6, 7, 8, 9, 10] rfl rfl rfl ⟨⟨rfl, rfl⟩, Nat.le_of_ble_eq_true rfl, Nat.le_of_ble_eq_true rfl⟩ ⟨Nat.le_of_ble_eq_true rfl, Nat.le_of_ble_eq_true rfl⟩ hl.1 rfl [.int (iI ((d_ : Nat) : Int))] rfl (Nat.le_of_ble_eq_true rfl) dX4_half_70 ?_
            refine r_cne 80 F dX4_half_73 (by decide) (by omega) (fun c_6 => ?_) (fun c_6 => ?_)
            · refine r_aln F hl 0 rfl dX4_half_80 rfl ?_
              refine gf_X4_19 F P 0 rfl (.ref (q 5)) rfl dX4_half_81 ?_
              refine r_bp F 11 dX4_half_84 rfl ?_
              refine r_iln F hl 1 rfl dX4_half_86 rfl ?_
              refine r_add F dX4_half_87 ?_
              refine r_ald (f := M 4) F P 4 rfl dX4_half_88 (by decide) (by omega) ?_
              have b_7 : M 4 ((11 + i_)) < 65536 := hs ((11 + i_))
              exact r_retQ F hr hlk hH dX4_half_89 (by first | rfl | (simp only [g_half, vHalf, c_1, c_2, c_3, if_true, if_false, Bool.and_true, Bool.true_and, Bool.and_false, Bool.false_and, Bool.and_self, Bool.false_eq_true, ↓reduceIte, decide_true, decide_false, Int.toNat_natCast, Bool.toNat_true, Bool.toNat_false]; first | done | rfl | (simp only [c_4, c_5, c_6, if_true, if_false, Bool.and_true, Bool.true_and, Bool.and_false, Bool.false_and, Bool.and_self, Bool.false_eq_true, ↓reduceIte, decide_true, decide_false, Int.toNat_natCast, Bool.toNat_true, Bool.toNat_false]; first | done | rfl) | (simp only [if_neg c_4, if_neg c_5, if_neg c_6]; first | done | rfl) | (simp [c_4, c_5, c_6]; done) | (simp [c_4, c_5, c_6]; first | rfl | omega)) | (simp [g_half, vHalf, c_1, c_2, c_3, c_4, c_5, c_6]; done) | (simp [g_half, vHalf, c_1, c_2, c_3, c_4, c_5, c_6]; omega) | (simp only [g_half, vHalf, c_1, c_2, c_3, if_true, if_false, Bool.and_true, Bool.true_and, Bool.and_false, Bool.false_and, Bool.and_self, Bool.false_eq_true, ↓reduceIte, decide_true, decide_false, Int.toNat_natCast, Bool.toNat_true, Bool.toNat_false]; try simp only [c_4, c_5, c_6, if_true, if_false, Bool.and_true, Bool.true_and, Bool.and_false, Bool.false_and, Bool.and_self, Bool.false_eq_true, ↓reduceIte, decide_true, decide_false, Int.toNat_natCast, Bool.toNat_true, Bool.toNat_false]; rfl))
            · refine r_ic F 0 dX4_half_76 rfl ?_
              refine r_goto 89 F dX4_half_77 (by decide) ?_
              exact r_retQ F hr hlk hH dX4_half_89 (by first | rfl | (simp only [g_half, vHalf, c_1, c_2, c_3, if_true, if_false, Bool.and_true, Bool.true_and, Bool.and_false, Bool.false_and, Bool.and_self, Bool.false_eq_true, ↓reduceIte, decide_true, decide_false, Int.toNat_natCast, Bool.toNat_true, Bool.toNat_false]; first | done | rfl | (simp only [c_4, c_5, c_6, if_true, if_false, Bool.and_true, Bool.true_and, Bool.and_false, Bool.false_and, Bool.and_self, Bool.false_eq_true, ↓reduceIte, decide_true, decide_false, Int.toNat_natCast, Bool.toNat_true, Bool.toNat_false]; first | done | rfl) | (simp only [if_neg c_4, if_neg c_5, if_pos c_6]; first | done | rfl) | (simp [c_4, c_5, c_6]; done) | (simp [c_4, c_5, c_6]; first | rfl | omega)) | (simp [g_half, vHalf, c_1, c_2, c_3, c_4, c_5, c_6]; done) | (simp [g_half, vHalf, c_1, c_2, c_3, c_4, c_5, c_6]; omega) | (simp only [g_half, vHalf, c_1, c_2, c_3, if_true, if_false, Bool.and_true, Bool.true_and, Bool.and_false, Bool.false_and, Bool.and_self, Bool.false_eq_true, ↓reduceIte, decide_true, decide_false, Int.toNat_natCast, Bool.toNat_true, Bool.toNat_false]; try simp only [c_4, c_5, c_6, if_true, if_false, Bool.and_true, Bool.true_and, Bool.and_false, Bool.false_and, Bool.and_self, Bool.false_eq_true, ↓reduceIte, decide_true, decide_false, Int.toNat_natCast, Bool.toNat_true, Bool.toNat_false]; rfl))
          · refine r_aln F hl 0 rfl dX4_half_53 rfl ?_
            refine gf_X4_19 F P 0 rfl (.ref (q 5)) rfl dX4_half_54 ?_
            refine r_ic F 1 dX4_half_57 rfl ?_
            refine r_ic F 2 dX4_half_58 rfl ?_
            refine r_iln F hl 1 rfl dX4_half_59 rfl ?_
            refine r_mul F dX4_half_60 ?_
            refine r_add F dX4_half_61 ?_
            refine r_iln F hl 2 rfl dX4_half_62 rfl ?_
            refine r_add F dX4_half_63 ?_
            refine r_ald (f := M 4) F P 4 rfl dX4_half_64 (by decide) (by omega) ?_
            have b_8 : M 4 (((1 + (2 * i_)) + d_)) < 65536 := hs (((1 + (2 * i_)) + d_))
            refine r_goto 89 F dX4_half_65 (by decide) ?_
            exact r_retQ F hr hlk hH dX4_half_89 (by first | rfl | (simp only [g_half, vHalf, c_1, c_2, c_3, if_true, if_false, Bool.and_true, Bool.true_and, Bool.and_false, Bool.false_and, Bool.and_self, Bool.false_eq_true, ↓reduceIte, decide_true, decide_false, Int.toNat_natCast, Bool.toNat_true, Bool.toNat_false]; first | done | rfl | (simp only [c_4, c_5, if_true, if_false, Bool.and_true, Bool.true_and, Bool.and_false, Bool.false_and, Bool.and_self, Bool.false_eq_true, ↓reduceIte, decide_true, decide_false, Int.toNat_natCast, Bool.toNat_true, Bool.toNat_false]; first | done | rfl) | (simp only [if_neg c_4, if_pos c_5]; first | done | rfl) | (simp [c_4, c_5]; done) | (simp [c_4, c_5]; first | rfl | omega)) | (simp [g_half, vHalf, c_1, c_2, c_3, c_4, c_5]; done) | (simp [g_half, vHalf, c_1, c_2, c_3, c_4, c_5]; omega) | (simp only [g_half, vHalf, c_1, c_2, c_3, if_true, if_false, Bool.and_true, Bool.true_and, Bool.and_false, Bool.false_and, Bool.and_self, Bool.false_eq_true, ↓reduceIte, decide_true, decide_false, Int.toNat_natCast, Bool.toNat_true, Bool.toNat_false]; try simp only [c_4, c_5, if_true, if_false, Bool.and_true, Bool.true_and, Bool.and_false, Bool.false_and, Bool.and_self, Bool.false_eq_true, ↓reduceIte, decide_true, decide_false, Int.toNat_natCast, Bool.toNat_true, Bool.toNat_false]; rfl))
        · refine r_aln F hl 0 rfl dX4_half_32 rfl ?_
          refine gf_X4_13 F P 0 rfl (.ref (q 3)) rfl dX4_half_33 ?_
          refine r_bp F 8 dX4_half_36 rfl ?_
          refine r_ic F 2 dX4_half_38 rfl ?_
          refine r_iln F hl 1 rfl dX4_half_39 rfl ?_
          refine r_mul F dX4_half_40 ?_
          refine r_add F dX4_half_41 ?_
          refine r_iln F hl 2 rfl dX4_half_42 rfl ?_
          refine r_add F dX4_half_43 ?_
          refine r_ald (f := M 2) F P 2 rfl dX4_half_44 (by decide) (by omega) ?_
          have b_9 : M 2 (((8 + (2 * i_)) + d_)) < 256 := hbk (((8 + (2 * i_)) + d_))
          refine r_goto 89 F dX4_half_45 (by decide) ?_
          exact r_retQ F hr hlk hH dX4_half_89 (by first | rfl | (simp only [g_half, vHalf, c_1, c_2, c_3, if_true, if_false, Bool.and_true, Bool.true_and, Bool.and_false, Bool.false_and, Bool.and_self, Bool.false_eq_true, ↓reduceIte, decide_true, decide_false, Int.toNat_natCast, Bool.toNat_true, Bool.toNat_false]; first | done | rfl | (simp only [c_4, if_true, if_false, Bool.and_true, Bool.true_and, Bool.and_false, Bool.false_and, Bool.and_self, Bool.false_eq_true, ↓reduceIte, decide_true, decide_false, Int.toNat_natCast, Bool.toNat_true, Bool.toNat_false]; first | done | rfl) | (simp only [if_pos c_4]; first | done | rfl) | (simp [c_4]; done) | (simp [c_4]; first | rfl | omega)) | (simp [g_half, vHalf, c_1, c_2, c_3, c_4]; done) | (simp [g_half, vHalf, c_1, c_2, c_3, c_4]; omega) | (simp only [g_half, vHalf, c_1, c_2, c_3, if_true, if_false, Bool.and_true, Bool.true_and, Bool.and_false, Bool.false_and, Bool.and_self, Bool.false_eq_true, ↓reduceIte, decide_true, decide_false, Int.toNat_natCast, Bool.toNat_true, Bool.toNat_false]; try simp only [c_4, if_true, if_false, Bool.and_true, Bool.true_and, Bool.and_false, Bool.false_and, Bool.and_self, Bool.false_eq_true, ↓reduceIte, decide_true, decide_false, Int.toNat_natCast, Bool.toNat_true, Bool.toNat_false]; rfl))
      · have c_3d := c_3
        simp only [isIn, isP, decide_eq_true_eq, decide_eq_false_iff_not] at c_3d
        refine r_icz F (-1) dX4_half_26 rfl ?_
        exact r_retQ F hr hlk hH dX4_half_27 (by first | rfl | (simp only [g_half, vHalf, c_1, c_2, c_3, if_true, if_false, Bool.and_true, Bool.true_and, Bool.and_false, Bool.false_and, Bool.and_self, Bool.false_eq_true, ↓reduceIte, decide_true, decide_false, Int.toNat_natCast, Bool.toNat_true, Bool.toNat_false]; first | done | rfl | (simp only [if_true, if_true, if_false, Bool.and_true, Bool.true_and, Bool.and_false, Bool.false_and, Bool.and_self, Bool.false_eq_true, ↓reduceIte, decide_true, decide_false, Int.toNat_natCast, Bool.toNat_true, Bool.toNat_false]; first | done | rfl) | (simp only [if_true]; first | done | rfl) | (simp [if_true]; done) | (simp [if_true]; first | rfl | omega)) | (simp [g_half, vHalf, c_1, c_2, c_3]; done) | (simp [g_half, vHalf, c_1, c_2, c_3]; omega) | (simp only [g_half, vHalf, c_1, c_2, c_3, if_true, if_false, Bool.and_true, Bool.true_and, Bool.and_false, Bool.false_and, Bool.and_self, Bool.false_eq_true, ↓reduceIte, decide_true, decide_false, Int.toNat_natCast, Bool.toNat_true, Bool.toNat_false]; try simp only [if_true, if_true, if_false, Bool.and_true, Bool.true_and, Bool.and_false, Bool.false_and, Bool.and_self, Bool.false_eq_true, ↓reduceIte, decide_true, decide_false, Int.toNat_natCast, Bool.toNat_true, Bool.toNat_false]; rfl))
abbrev rm_X4_deed : Room := { frames := 2, cells := 0, slots := 0, locals := 43 }
set_option maxHeartbeats 4000000 in
set_option maxRecDepth 100000 in
theorem k_X4_deed (l : Launch) (D : va_G) (cI cB : ClassId) (q : Nat → Nat) (M : St) (i f : Int) (hi : (-2147483648 ≤ i ∧ i < 2147483648)) (hf : (-2147483648 ≤ f ∧ f < 2147483648)) (hp : 1 ≤ M 2 0 ∧ M 2 0 ≤ 5) (hbk : ∀ k, M 2 k < 256) (hs : ∀ k, M 4 k < 65536) : CtQ l yX4_deed cX4_deed 3 (some .int) rm_X4_deed D cI cB [.ref (q 0), .int (iI (i)), .int (iI (f))] (wM q cI M) ((iI (g_deed (M 2) (M 4) i f))) := by
  refine CtQ.of RX4 (by decide) rfl (Nat.le_of_ble_eq_true rfl) ?_
  intro p e s m args below meth c H ls hH F hr hlk P hl
  have hl : lv_has ls 3 [(0, .ref (q 0)), (1, .int (iI (i))), (2, .int (iI (f)))] := hl
  refine r_aln F hl 0 rfl dX4_deed_0 rfl ?_
  refine r_iln F hl 1 rfl dX4_deed_1 rfl ?_
  refine r_cq F P (k_X4_isPerson l D cI cB (q) (M) (i) (by omega) hbk) gw_X4_99 [0, 1, 2, 3, 4, 5, 6, 7, 8, 9, 10] rfl rfl rfl ⟨⟨rfl, rfl⟩, Nat.le_of_ble_eq_true rfl, Nat.le_of_ble_eq_true rfl⟩ ⟨Nat.le_of_ble_eq_true rfl, Nat.le_of_ble_eq_true rfl⟩ hl.1 rfl [] rfl (Nat.le_of_ble_eq_true rfl) dX4_deed_2 ?_
  refine r_zeqb 15 F dX4_deed_5 (by decide) (fun c_1 => ?_) (fun c_1 => ?_)
  · have c_1d := c_1
    simp only [isIn, isP, decide_eq_true_eq, decide_eq_false_iff_not] at c_1d
    refine r_icz F (-1) dX4_deed_15 rfl ?_
    exact r_retQ F hr hlk hH dX4_deed_16 (by first | rfl | (simp only [g_deed, vDeed, c_1, if_true, if_false, Bool.and_true, Bool.true_and, Bool.and_false, Bool.false_and, Bool.and_self, Bool.false_eq_true, ↓reduceIte, decide_true, decide_false, Int.toNat_natCast, Bool.toNat_true, Bool.toNat_false]; first | done | rfl | (simp only [if_true, if_true, if_false, Bool.and_true, Bool.true_and, Bool.and_false, Bool.false_and, Bool.and_self, Bool.false_eq_true, ↓reduceIte, decide_true, decide_false, Int.toNat_natCast, Bool.toNat_true, Bool.toNat_false]; first | done | rfl) | (simp only [if_true]; first | done | rfl) | (simp [if_true]; done) | (simp [if_true]; first | rfl | omega)) | (simp [g_deed, vDeed, c_1]; done) | (simp [g_deed, vDeed, c_1]; omega) | (simp only [g_deed, vDeed, c_1, if_true, if_false, Bool.and_true, Bool.true_and, Bool.and_false, Bool.false_and, Bool.and_self, Bool.false_eq_true, ↓reduceIte, decide_true, decide_false, Int.toNat_natCast, Bool.toNat_true, Bool.toNat_false]; try simp only [if_true, if_true, if_false, Bool.and_true, Bool.true_and, Bool.and_false, Bool.false_and, Bool.and_self, Bool.false_eq_true, ↓reduceIte, decide_true, decide_false, Int.toNat_natCast, Bool.toNat_true, Bool.toNat_false]; rfl))
  · have c_1d := c_1
    simp only [isIn, isP, decide_eq_true_eq, decide_eq_false_iff_not] at c_1d
    refine r_iln F hl 2 rfl dX4_deed_8 rfl ?_
    refine r_sq F P (k_X4_isSet l D cI cB (f) (by omega)) gw_X4_105 [] rfl ⟨⟨rfl, rfl⟩, Nat.le_of_ble_eq_true rfl, Nat.le_of_ble_eq_true rfl⟩ ⟨Nat.le_of_ble_eq_true rfl, Nat.le_of_ble_eq_true rfl⟩ hl.1 rfl [] rfl (Nat.le_of_ble_eq_true rfl) dX4_deed_9 ?_
    refine r_zneb 17 F dX4_deed_12 (by decide) (fun c_2 => ?_) (fun c_2 => ?_)
    · have c_2d := c_2
      simp only [isIn, isP, decide_eq_true_eq, decide_eq_false_iff_not] at c_2d
      obtain ⟨i_, rfl⟩ : ∃ k : Nat, i = (k : Int) := ⟨i.toNat, by omega⟩
      have hl : lv_has ls 3 [(0, .ref (q 0)), (1, .int (iI ((i_ : Nat) : Int))), (2, .int (iI (f)))] := hl
      obtain ⟨f_, rfl⟩ : ∃ k : Nat, f = (k : Int) := ⟨f.toNat, by omega⟩
      have hl : lv_has ls 3 [(0, .ref (q 0)), (1, .int (iI ((i_ : Nat) : Int))), (2, .int (iI ((f_ : Nat) : Int)))] := hl
      refine r_iln F hl 2 rfl dX4_deed_17 rfl ?_
      refine r_aln F hl 0 rfl dX4_deed_18 rfl ?_
      refine gf_X4_19 F P 0 rfl (.ref (q 5)) rfl dX4_deed_19 ?_
      refine r_ic F 1 dX4_deed_22 rfl ?_
      refine r_ic F 2 dX4_deed_23 rfl ?_
      refine r_iln F hl 1 rfl dX4_deed_24 rfl ?_
      refine r_mul F dX4_deed_25 ?_
      refine r_add F dX4_deed_26 ?_
      refine r_aln F hl 0 rfl dX4_deed_27 rfl ?_
      refine r_cq F P (k_X4_awake l D cI cB (q) (M)  hs) gw_X4_102 [0, 1, 2, 3, 4, 5, 6, 7, 8, 9, 10] rfl rfl rfl ⟨⟨rfl, rfl⟩, Nat.le_of_ble_eq_true rfl, Nat.le_of_ble_eq_true rfl⟩ ⟨Nat.le_of_ble_eq_true rfl, Nat.le_of_ble_eq_true rfl⟩ hl.1 rfl [.int (iI (((1 + (2 * i_)) : Nat) : Int)), .ref (q 5), .int (iI ((f_ : Nat) : Int))] rfl (Nat.le_of_ble_eq_true rfl) dX4_deed_28 ?_
      refine r_add F dX4_deed_31 ?_
      refine r_ald (f := M 4) F P 4 rfl dX4_deed_32 (by decide) (by omega) ?_
      have b_3 : M 4 (((1 + (2 * i_)) + ((M 4) 0 % 2))) < 65536 := hs (((1 + (2 * i_)) + ((M 4) 0 % 2)))
      refine r_icz F (-1) dX4_deed_33 rfl ?_
      refine r_xorr F dX4_deed_34 (iI (((M 4 (((1 + (2 * i_)) + ((M 4) 0 % 2))) : Nat) : Int)) ^^^ iI (-1)) rfl ?_
      refine r_andr F dX4_deed_35 _ (iI_anot _ _) ?_
      have b_4 : anot (f_) (M 4 (((1 + (2 * i_)) + ((M 4) 0 % 2)))) < 65536 := anot16 (by omega)
      refine r_zne 43 F dX4_deed_36 (by decide) (by omega) (fun c_5 => ?_) (fun c_5 => ?_)
      · refine r_ic F 0 dX4_deed_43 rfl ?_
        exact r_retQ F hr hlk hH dX4_deed_44 (by first | rfl | (simp only [g_deed, vDeed, c_1, c_2, if_true, if_false, Bool.and_true, Bool.true_and, Bool.and_false, Bool.false_and, Bool.and_self, Bool.false_eq_true, ↓reduceIte, decide_true, decide_false, Int.toNat_natCast, Bool.toNat_true, Bool.toNat_false]; first | done | rfl | (simp only [c_5, if_true, if_false, Bool.and_true, Bool.true_and, Bool.and_false, Bool.false_and, Bool.and_self, Bool.false_eq_true, ↓reduceIte, decide_true, decide_false, Int.toNat_natCast, Bool.toNat_true, Bool.toNat_false]; first | done | rfl) | (simp only [if_neg c_5]; first | done | rfl) | (simp [c_5]; done) | (simp [c_5]; first | rfl | omega)) | (simp [g_deed, vDeed, c_1, c_2, c_5]; done) | (simp [g_deed, vDeed, c_1, c_2, c_5]; omega) | (simp only [g_deed, vDeed, c_1, c_2, if_true, if_false, Bool.and_true, Bool.true_and, Bool.and_false, Bool.false_and, Bool.and_self, Bool.false_eq_true, ↓reduceIte, decide_true, decide_false, Int.toNat_natCast, Bool.toNat_true, Bool.toNat_false]; try simp only [c_5, if_true, if_false, Bool.and_true, Bool.true_and, Bool.and_false, Bool.false_and, Bool.and_self, Bool.false_eq_true, ↓reduceIte, decide_true, decide_false, Int.toNat_natCast, Bool.toNat_true, Bool.toNat_false]; rfl))
      · refine r_ic F 1 dX4_deed_39 rfl ?_
        refine r_goto 44 F dX4_deed_40 (by decide) ?_
        exact r_retQ F hr hlk hH dX4_deed_44 (by first | rfl | (simp only [g_deed, vDeed, c_1, c_2, if_true, if_false, Bool.and_true, Bool.true_and, Bool.and_false, Bool.false_and, Bool.and_self, Bool.false_eq_true, ↓reduceIte, decide_true, decide_false, Int.toNat_natCast, Bool.toNat_true, Bool.toNat_false]; first | done | rfl | (simp only [c_5, if_true, if_false, Bool.and_true, Bool.true_and, Bool.and_false, Bool.false_and, Bool.and_self, Bool.false_eq_true, ↓reduceIte, decide_true, decide_false, Int.toNat_natCast, Bool.toNat_true, Bool.toNat_false]; first | done | rfl) | (simp only [if_pos c_5]; first | done | rfl) | (simp [c_5]; done) | (simp [c_5]; first | rfl | omega)) | (simp [g_deed, vDeed, c_1, c_2, c_5]; done) | (simp [g_deed, vDeed, c_1, c_2, c_5]; omega) | (simp only [g_deed, vDeed, c_1, c_2, if_true, if_false, Bool.and_true, Bool.true_and, Bool.and_false, Bool.false_and, Bool.and_self, Bool.false_eq_true, ↓reduceIte, decide_true, decide_false, Int.toNat_natCast, Bool.toNat_true, Bool.toNat_false]; try simp only [c_5, if_true, if_false, Bool.and_true, Bool.true_and, Bool.and_false, Bool.false_and, Bool.and_self, Bool.false_eq_true, ↓reduceIte, decide_true, decide_false, Int.toNat_natCast, Bool.toNat_true, Bool.toNat_false]; rfl))
    · have c_2d := c_2
      simp only [isIn, isP, decide_eq_true_eq, decide_eq_false_iff_not] at c_2d
      refine r_icz F (-1) dX4_deed_15 rfl ?_
      exact r_retQ F hr hlk hH dX4_deed_16 (by first | rfl | (simp only [g_deed, vDeed, c_1, c_2, if_true, if_false, Bool.and_true, Bool.true_and, Bool.and_false, Bool.false_and, Bool.and_self, Bool.false_eq_true, ↓reduceIte, decide_true, decide_false, Int.toNat_natCast, Bool.toNat_true, Bool.toNat_false]; first | done | rfl | (simp only [if_true, if_true, if_false, Bool.and_true, Bool.true_and, Bool.and_false, Bool.false_and, Bool.and_self, Bool.false_eq_true, ↓reduceIte, decide_true, decide_false, Int.toNat_natCast, Bool.toNat_true, Bool.toNat_false]; first | done | rfl) | (simp only [if_true]; first | done | rfl) | (simp [if_true]; done) | (simp [if_true]; first | rfl | omega)) | (simp [g_deed, vDeed, c_1, c_2]; done) | (simp [g_deed, vDeed, c_1, c_2]; omega) | (simp only [g_deed, vDeed, c_1, c_2, if_true, if_false, Bool.and_true, Bool.true_and, Bool.and_false, Bool.false_and, Bool.and_self, Bool.false_eq_true, ↓reduceIte, decide_true, decide_false, Int.toNat_natCast, Bool.toNat_true, Bool.toNat_false]; try simp only [if_true, if_true, if_false, Bool.and_true, Bool.true_and, Bool.and_false, Bool.false_and, Bool.and_self, Bool.false_eq_true, ↓reduceIte, decide_true, decide_false, Int.toNat_natCast, Bool.toNat_true, Bool.toNat_false]; rfl))
abbrev rm_X4_see : Room := { frames := 2, cells := 0, slots := 0, locals := 43 }
set_option maxHeartbeats 4000000 in
set_option maxRecDepth 100000 in
theorem k_X4_see (l : Launch) (D : va_G) (cI cB : ClassId) (q : Nat → Nat) (M : St) (i f : Int) (hi : (-2147483648 ≤ i ∧ i < 2147483648)) (hf : (-2147483648 ≤ f ∧ f < 2147483648)) (hp : 1 ≤ M 2 0 ∧ M 2 0 ≤ 5) (hbk : ∀ k, M 2 k < 256) (hs : ∀ k, M 4 k < 65536) : CtU l yX4_see cX4_see 3 (some .int) rm_X4_see D cI cB [.ref (q 0), .int (iI (i)), .int (iI (f))] (wM q cI M) (wM q cI (stR M 4 (g_seeS (M 2) (M 4) i f))) ((iI (g_see (M 2) (M 4) i f))) := by
  refine CtU.of RX4 (by decide) rfl (Nat.le_of_ble_eq_true rfl) ?_
  intro p e s m args below meth c H0 ls A hH hA F hr hlk B hl
  have hl : lv_has ls 3 [(0, .ref (q 0)), (1, .int (iI (i))), (2, .int (iI (f)))] := hl
  refine r_aln F hl 0 rfl dX4_see_0 rfl ?_
  refine r_iln F hl 1 rfl dX4_see_1 rfl ?_
  refine r_cq F B.1 (k_X4_isPerson l D cI cB (q) (M) (i) (by omega) hbk) gw_X4_99 [0, 1, 2, 3, 4, 5, 6, 7, 8, 9, 10] rfl rfl rfl ⟨⟨rfl, rfl⟩, Nat.le_of_ble_eq_true rfl, Nat.le_of_ble_eq_true rfl⟩ ⟨Nat.le_of_ble_eq_true rfl, Nat.le_of_ble_eq_true rfl⟩ hl.1 rfl [] rfl (Nat.le_of_ble_eq_true rfl) dX4_see_2 ?_
  refine r_zeqb 18 F dX4_see_5 (by decide) (fun c_1 => ?_) (fun c_1 => ?_)
  · have c_1d := c_1
    simp only [isIn, isP, decide_eq_true_eq, decide_eq_false_iff_not] at c_1d
    refine r_icz F (-1) dX4_see_18 rfl ?_
    exact r_retU F hr hlk hH B dX4_see_19 (by first | rfl | (simp only [g_see, g_seeS, vSee, c_1, if_true, if_false, Bool.and_true, Bool.true_and, Bool.and_false, Bool.false_and, Bool.and_self, Bool.false_eq_true, ↓reduceIte, decide_true, decide_false, Int.toNat_natCast, Bool.toNat_true, Bool.toNat_false]; first | done | rfl | (simp only [if_true, if_true, if_false, Bool.and_true, Bool.true_and, Bool.and_false, Bool.false_and, Bool.and_self, Bool.false_eq_true, ↓reduceIte, decide_true, decide_false, Int.toNat_natCast, Bool.toNat_true, Bool.toNat_false]; first | done | rfl) | (simp only [if_true]; first | done | rfl) | (simp [if_true]; done) | (simp [if_true]; first | rfl | omega)) | (simp [g_see, g_seeS, vSee, c_1]; done) | (simp [g_see, g_seeS, vSee, c_1]; omega) | (simp only [g_see, g_seeS, vSee, c_1, if_true, if_false, Bool.and_true, Bool.true_and, Bool.and_false, Bool.false_and, Bool.and_self, Bool.false_eq_true, ↓reduceIte, decide_true, decide_false, Int.toNat_natCast, Bool.toNat_true, Bool.toNat_false]; try simp only [if_true, if_true, if_false, Bool.and_true, Bool.true_and, Bool.and_false, Bool.false_and, Bool.and_self, Bool.false_eq_true, ↓reduceIte, decide_true, decide_false, Int.toNat_natCast, Bool.toNat_true, Bool.toNat_false]; rfl)) (by first | rfl | (simp only [g_see, g_seeS, vSee, c_1, if_true, if_false, Bool.and_true, Bool.true_and, Bool.and_false, Bool.false_and, Bool.and_self, Bool.false_eq_true, ↓reduceIte, decide_true, decide_false, Int.toNat_natCast, Bool.toNat_true, Bool.toNat_false]; first | done | rfl | (simp only [if_true, if_true, if_false, Bool.and_true, Bool.true_and, Bool.and_false, Bool.false_and, Bool.and_self, Bool.false_eq_true, ↓reduceIte, decide_true, decide_false, Int.toNat_natCast, Bool.toNat_true, Bool.toNat_false]; first | done | rfl) | (simp only [if_true]; first | done | rfl) | (simp [if_true]; done) | (simp [if_true]; first | rfl | omega)) | (simp [g_see, g_seeS, vSee, c_1]; done) | (simp [g_see, g_seeS, vSee, c_1]; omega) | (simp only [g_see, g_seeS, vSee, c_1, if_true, if_false, Bool.and_true, Bool.true_and, Bool.and_false, Bool.false_and, Bool.and_self, Bool.false_eq_true, ↓reduceIte, decide_true, decide_false, Int.toNat_natCast, Bool.toNat_true, Bool.toNat_false]; try simp only [if_true, if_true, if_false, Bool.and_true, Bool.true_and, Bool.and_false, Bool.false_and, Bool.and_self, Bool.false_eq_true, ↓reduceIte, decide_true, decide_false, Int.toNat_natCast, Bool.toNat_true, Bool.toNat_false]; rfl))
  · have c_1d := c_1
    simp only [isIn, isP, decide_eq_true_eq, decide_eq_false_iff_not] at c_1d
    refine r_iln F hl 2 rfl dX4_see_8 rfl ?_
    refine r_ic F 0 dX4_see_9 rfl ?_
    refine r_bp F 7 dX4_see_10 rfl ?_
    refine r_sq F B.1 (k_X4_in l D cI cB (f) ((0 : Int)) ((7 : Int)) (by omega) (by omega) (by omega)) gw_X4_40 [] rfl ⟨⟨rfl, rfl⟩, Nat.le_of_ble_eq_true rfl, Nat.le_of_ble_eq_true rfl⟩ ⟨Nat.le_of_ble_eq_true rfl, Nat.le_of_ble_eq_true rfl⟩ hl.1 rfl [] rfl (Nat.le_of_ble_eq_true rfl) dX4_see_12 ?_
    refine r_zneb 20 F dX4_see_15 (by decide) (fun c_2 => ?_) (fun c_2 => ?_)
    · have c_2d := c_2
      simp only [isIn, isP, decide_eq_true_eq, decide_eq_false_iff_not] at c_2d
      obtain ⟨i_, rfl⟩ : ∃ k : Nat, i = (k : Int) := ⟨i.toNat, by omega⟩
      have hl : lv_has ls 3 [(0, .ref (q 0)), (1, .int (iI ((i_ : Nat) : Int))), (2, .int (iI (f)))] := hl
      obtain ⟨f_, rfl⟩ : ∃ k : Nat, f = (k : Int) := ⟨f.toNat, by omega⟩
      have hl : lv_has ls 3 [(0, .ref (q 0)), (1, .int (iI ((i_ : Nat) : Int))), (2, .int (iI ((f_ : Nat) : Int)))] := hl
      refine r_aln F hl 0 rfl dX4_see_20 rfl ?_
      refine gf_X4_19 F B.1 0 rfl (.ref (q 5)) rfl dX4_see_21 ?_
      refine r_ic F 1 dX4_see_24 rfl ?_
      refine r_ic F 2 dX4_see_25 rfl ?_
      refine r_iln F hl 1 rfl dX4_see_26 rfl ?_
      refine r_mul F dX4_see_27 ?_
      refine r_add F dX4_see_28 ?_
      refine r_aln F hl 0 rfl dX4_see_29 rfl ?_
      refine r_cq F B.1 (k_X4_awake l D cI cB (q) (M)  hs) gw_X4_102 [0, 1, 2, 3, 4, 5, 6, 7, 8, 9, 10] rfl rfl rfl ⟨⟨rfl, rfl⟩, Nat.le_of_ble_eq_true rfl, Nat.le_of_ble_eq_true rfl⟩ ⟨Nat.le_of_ble_eq_true rfl, Nat.le_of_ble_eq_true rfl⟩ hl.1 rfl [.int (iI (((1 + (2 * i_)) : Nat) : Int)), .ref (q 5)] rfl (Nat.le_of_ble_eq_true rfl) dX4_see_30 ?_
      refine r_add F dX4_see_33 ?_
      refine r_dup2 F dX4_see_34 rfl rfl ?_
      refine r_ald (f := M 4) F B.1 4 rfl dX4_see_35 (by decide) (by omega) ?_
      have b_3 : M 4 (((1 + (2 * i_)) + ((M 4) 0 % 2))) < 65536 := hs (((1 + (2 * i_)) + ((M 4) 0 % 2)))
      refine r_ic F 1 dX4_see_36 rfl ?_
      refine r_iln F hl 2 rfl dX4_see_37 rfl ?_
      have b_4 : 1 * 2 ^ (f_) < 65536 := pw16 (by omega)
      refine r_shl F dX4_see_38 ⟨by omega, by omega⟩ ?_
      refine r_or F dX4_see_39 ?_
      have b_5 : (M 4 (((1 + (2 * i_)) + ((M 4) 0 % 2))) ||| (1 * 2 ^ f_)) < 65536 := or16 (by omega) (by omega)
      have hb_6 : ∀ j_, upN (M 4) (((1 + (2 * i_)) + ((M 4) 0 % 2))) ((M 4 (((1 + (2 * i_)) + ((M 4) 0 % 2))) ||| (1 * 2 ^ f_))) j_ < 65536 := upN_lt hs (by omega)
      refine r_ast (f := M 4) F B 4 (wM q cI (stR M 4 (upN (M 4) (((1 + (2 * i_)) + ((M 4) 0 % 2))) ((M 4 (((1 + (2 * i_)) + ((M 4) 0 % 2))) ||| (1 * 2 ^ f_)))))) rfl dX4_see_40 (by decide) (by omega) rfl (fun H locs B => ?_)
      refine r_aln F hl 0 rfl dX4_see_41 rfl ?_
      refine gf_X4_19 F B.1 0 rfl (.ref (q 5)) rfl dX4_see_42 ?_
      refine r_ic F 1 dX4_see_45 rfl ?_
      refine r_ic F 2 dX4_see_46 rfl ?_
      refine r_iln F hl 1 rfl dX4_see_47 rfl ?_
      refine r_mul F dX4_see_48 ?_
      refine r_add F dX4_see_49 ?_
      refine r_aln F hl 0 rfl dX4_see_50 rfl ?_
      refine r_cq F B.1 (k_X4_awake l D cI cB (q) ((stR M 4 (upN (M 4) (((1 + (2 * i_)) + ((M 4) 0 % 2))) ((M 4 (((1 + (2 * i_)) + ((M 4) 0 % 2))) ||| (1 * 2 ^ f_))))))  hb_6) gw_X4_102 [0, 1, 2, 3, 4, 5, 6, 7, 8, 9, 10] rfl rfl rfl ⟨⟨rfl, rfl⟩, Nat.le_of_ble_eq_true rfl, Nat.le_of_ble_eq_true rfl⟩ ⟨Nat.le_of_ble_eq_true rfl, Nat.le_of_ble_eq_true rfl⟩ hl.1 rfl [.int (iI (((1 + (2 * i_)) : Nat) : Int)), .ref (q 5)] rfl (Nat.le_of_ble_eq_true rfl) dX4_see_51 ?_
      refine r_add F dX4_see_54 ?_
      refine r_ald (f := upN (M 4) (((1 + (2 * i_)) + ((M 4) 0 % 2))) ((M 4 (((1 + (2 * i_)) + ((M 4) 0 % 2))) ||| (1 * 2 ^ f_)))) F B.1 4 rfl dX4_see_55 (by decide) (by omega) ?_
      have b_7 : (upN (M 4) (((1 + (2 * i_)) + ((M 4) 0 % 2))) ((M 4 (((1 + (2 * i_)) + ((M 4) 0 % 2))) ||| (1 * 2 ^ f_)))) (((1 + (2 * i_)) + ((upN (M 4) (((1 + (2 * i_)) + ((M 4) 0 % 2))) ((M 4 (((1 + (2 * i_)) + ((M 4) 0 % 2))) ||| (1 * 2 ^ f_)))) 0 % 2))) < 65536 := hb_6 (((1 + (2 * i_)) + ((upN (M 4) (((1 + (2 * i_)) + ((M 4) 0 % 2))) ((M 4 (((1 + (2 * i_)) + ((M 4) 0 % 2))) ||| (1 * 2 ^ f_)))) 0 % 2)))
      exact r_retU F hr hlk hH B dX4_see_56 (by first | rfl | (simp only [g_see, g_seeS, vSee, c_1, c_2, if_true, if_false, Bool.and_true, Bool.true_and, Bool.and_false, Bool.false_and, Bool.and_self, Bool.false_eq_true, ↓reduceIte, decide_true, decide_false, Int.toNat_natCast, Bool.toNat_true, Bool.toNat_false]; first | done | rfl | (simp only [if_true, if_true, if_false, Bool.and_true, Bool.true_and, Bool.and_false, Bool.false_and, Bool.and_self, Bool.false_eq_true, ↓reduceIte, decide_true, decide_false, Int.toNat_natCast, Bool.toNat_true, Bool.toNat_false]; first | done | rfl) | (simp only [if_true]; first | done | rfl) | (simp [if_true]; done) | (simp [if_true]; first | rfl | omega)) | (simp [g_see, g_seeS, vSee, c_1, c_2]; done) | (simp [g_see, g_seeS, vSee, c_1, c_2]; omega) | (simp only [g_see, g_seeS, vSee, c_1, c_2, if_true, if_false, Bool.and_true, Bool.true_and, Bool.and_false, Bool.false_and, Bool.and_self, Bool.false_eq_true, ↓reduceIte, decide_true, decide_false, Int.toNat_natCast, Bool.toNat_true, Bool.toNat_false]; try simp only [if_true, if_true, if_false, Bool.and_true, Bool.true_and, Bool.and_false, Bool.false_and, Bool.and_self, Bool.false_eq_true, ↓reduceIte, decide_true, decide_false, Int.toNat_natCast, Bool.toNat_true, Bool.toNat_false]; rfl)) (by first | rfl | (simp only [g_see, g_seeS, vSee, c_1, c_2, if_true, if_false, Bool.and_true, Bool.true_and, Bool.and_false, Bool.false_and, Bool.and_self, Bool.false_eq_true, ↓reduceIte, decide_true, decide_false, Int.toNat_natCast, Bool.toNat_true, Bool.toNat_false]; first | done | rfl | (simp only [if_true, if_true, if_false, Bool.and_true, Bool.true_and, Bool.and_false, Bool.false_and, Bool.and_self, Bool.false_eq_true, ↓reduceIte, decide_true, decide_false, Int.toNat_natCast, Bool.toNat_true, Bool.toNat_false]; first | done | rfl) | (simp only [if_true]; first | done | rfl) | (simp [if_true]; done) | (simp [if_true]; first | rfl | omega)) | (simp [g_see, g_seeS, vSee, c_1, c_2]; done) | (simp [g_see, g_seeS, vSee, c_1, c_2]; omega) | (simp only [g_see, g_seeS, vSee, c_1, c_2, if_true, if_false, Bool.and_true, Bool.true_and, Bool.and_false, Bool.false_and, Bool.and_self, Bool.false_eq_true, ↓reduceIte, decide_true, decide_false, Int.toNat_natCast, Bool.toNat_true, Bool.toNat_false]; try simp only [if_true, if_true, if_false, Bool.and_true, Bool.true_and, Bool.and_false, Bool.false_and, Bool.and_self, Bool.false_eq_true, ↓reduceIte, decide_true, decide_false, Int.toNat_natCast, Bool.toNat_true, Bool.toNat_false]; rfl))
    · have c_2d := c_2
      simp only [isIn, isP, decide_eq_true_eq, decide_eq_false_iff_not] at c_2d
      refine r_icz F (-1) dX4_see_18 rfl ?_
      exact r_retU F hr hlk hH B dX4_see_19 (by first | rfl | (simp only [g_see, g_seeS, vSee, c_1, c_2, if_true, if_false, Bool.and_true, Bool.true_and, Bool.and_false, Bool.false_and, Bool.and_self, Bool.false_eq_true, ↓reduceIte, decide_true, decide_false, Int.toNat_natCast, Bool.toNat_true, Bool.toNat_false]; first | done | rfl | (simp only [if_true, if_true, if_false, Bool.and_true, Bool.true_and, Bool.and_false, Bool.false_and, Bool.and_self, Bool.false_eq_true, ↓reduceIte, decide_true, decide_false, Int.toNat_natCast, Bool.toNat_true, Bool.toNat_false]; first | done | rfl) | (simp only [if_true]; first | done | rfl) | (simp [if_true]; done) | (simp [if_true]; first | rfl | omega)) | (simp [g_see, g_seeS, vSee, c_1, c_2]; done) | (simp [g_see, g_seeS, vSee, c_1, c_2]; omega) | (simp only [g_see, g_seeS, vSee, c_1, c_2, if_true, if_false, Bool.and_true, Bool.true_and, Bool.and_false, Bool.false_and, Bool.and_self, Bool.false_eq_true, ↓reduceIte, decide_true, decide_false, Int.toNat_natCast, Bool.toNat_true, Bool.toNat_false]; try simp only [if_true, if_true, if_false, Bool.and_true, Bool.true_and, Bool.and_false, Bool.false_and, Bool.and_self, Bool.false_eq_true, ↓reduceIte, decide_true, decide_false, Int.toNat_natCast, Bool.toNat_true, Bool.toNat_false]; rfl)) (by first | rfl | (simp only [g_see, g_seeS, vSee, c_1, c_2, if_true, if_false, Bool.and_true, Bool.true_and, Bool.and_false, Bool.false_and, Bool.and_self, Bool.false_eq_true, ↓reduceIte, decide_true, decide_false, Int.toNat_natCast, Bool.toNat_true, Bool.toNat_false]; first | done | rfl | (simp only [if_true, if_true, if_false, Bool.and_true, Bool.true_and, Bool.and_false, Bool.false_and, Bool.and_self, Bool.false_eq_true, ↓reduceIte, decide_true, decide_false, Int.toNat_natCast, Bool.toNat_true, Bool.toNat_false]; first | done | rfl) | (simp only [if_true]; first | done | rfl) | (simp [if_true]; done) | (simp [if_true]; first | rfl | omega)) | (simp [g_see, g_seeS, vSee, c_1, c_2]; done) | (simp [g_see, g_seeS, vSee, c_1, c_2]; omega) | (simp only [g_see, g_seeS, vSee, c_1, c_2, if_true, if_false, Bool.and_true, Bool.true_and, Bool.and_false, Bool.false_and, Bool.and_self, Bool.false_eq_true, ↓reduceIte, decide_true, decide_false, Int.toNat_natCast, Bool.toNat_true, Bool.toNat_false]; try simp only [if_true, if_true, if_false, Bool.and_true, Bool.true_and, Bool.and_false, Bool.false_and, Bool.and_self, Bool.false_eq_true, ↓reduceIte, decide_true, decide_false, Int.toNat_natCast, Bool.toNat_true, Bool.toNat_false]; rfl))
abbrev rm_X4_note : Room := { frames := 2, cells := 0, slots := 0, locals := 43 }
set_option maxHeartbeats 4000000 in
set_option maxRecDepth 100000 in
theorem k_X4_note (l : Launch) (D : va_G) (cI cB : ClassId) (q : Nat → Nat) (M : St) (i f : Int) (hi : (-2147483648 ≤ i ∧ i < 2147483648)) (hf : (-2147483648 ≤ f ∧ f < 2147483648)) (hp : 1 ≤ M 2 0 ∧ M 2 0 ≤ 5) (hbk : ∀ k, M 2 k < 256) (hs : ∀ k, M 4 k < 65536) : CtU l yX4_note cX4_note 3 (some .int) rm_X4_note D cI cB [.ref (q 0), .int (iI (i)), .int (iI (f))] (wM q cI M) (wM q cI (stR M 4 (g_noteS (M 2) (M 4) i f))) ((iI (g_note (M 2) (M 4) i f))) := by
  refine CtU.of RX4 (by decide) rfl (Nat.le_of_ble_eq_true rfl) ?_
  intro p e s m args below meth c H0 ls A hH hA F hr hlk B hl
  have hl : lv_has ls 3 [(0, .ref (q 0)), (1, .int (iI (i))), (2, .int (iI (f)))] := hl
  refine r_aln F hl 0 rfl dX4_note_0 rfl ?_
  refine r_iln F hl 1 rfl dX4_note_1 rfl ?_
  refine r_cq F B.1 (k_X4_isPerson l D cI cB (q) (M) (i) (by omega) hbk) gw_X4_99 [0, 1, 2, 3, 4, 5, 6, 7, 8, 9, 10] rfl rfl rfl ⟨⟨rfl, rfl⟩, Nat.le_of_ble_eq_true rfl, Nat.le_of_ble_eq_true rfl⟩ ⟨Nat.le_of_ble_eq_true rfl, Nat.le_of_ble_eq_true rfl⟩ hl.1 rfl [] rfl (Nat.le_of_ble_eq_true rfl) dX4_note_2 ?_
  refine r_zeqb 18 F dX4_note_5 (by decide) (fun c_1 => ?_) (fun c_1 => ?_)
  · have c_1d := c_1
    simp only [isIn, isP, decide_eq_true_eq, decide_eq_false_iff_not] at c_1d
    refine r_icz F (-1) dX4_note_18 rfl ?_
    exact r_retU F hr hlk hH B dX4_note_19 (by first | rfl | (simp only [g_note, g_noteS, vSee, bNote, c_1, if_true, if_false, Bool.and_true, Bool.true_and, Bool.and_false, Bool.false_and, Bool.and_self, Bool.false_eq_true, ↓reduceIte, decide_true, decide_false, Int.toNat_natCast, Bool.toNat_true, Bool.toNat_false]; first | done | rfl | (simp only [if_true, if_true, if_false, Bool.and_true, Bool.true_and, Bool.and_false, Bool.false_and, Bool.and_self, Bool.false_eq_true, ↓reduceIte, decide_true, decide_false, Int.toNat_natCast, Bool.toNat_true, Bool.toNat_false]; first | done | rfl) | (simp only [if_true]; first | done | rfl) | (simp [if_true]; done) | (simp [if_true]; first | rfl | omega)) | (simp [g_note, g_noteS, vSee, bNote, c_1]; done) | (simp [g_note, g_noteS, vSee, bNote, c_1]; omega) | (simp only [g_note, g_noteS, vSee, bNote, c_1, if_true, if_false, Bool.and_true, Bool.true_and, Bool.and_false, Bool.false_and, Bool.and_self, Bool.false_eq_true, ↓reduceIte, decide_true, decide_false, Int.toNat_natCast, Bool.toNat_true, Bool.toNat_false]; try simp only [if_true, if_true, if_false, Bool.and_true, Bool.true_and, Bool.and_false, Bool.false_and, Bool.and_self, Bool.false_eq_true, ↓reduceIte, decide_true, decide_false, Int.toNat_natCast, Bool.toNat_true, Bool.toNat_false]; rfl)) (by first | rfl | (simp only [g_note, g_noteS, vSee, bNote, c_1, if_true, if_false, Bool.and_true, Bool.true_and, Bool.and_false, Bool.false_and, Bool.and_self, Bool.false_eq_true, ↓reduceIte, decide_true, decide_false, Int.toNat_natCast, Bool.toNat_true, Bool.toNat_false]; first | done | rfl | (simp only [if_true, if_true, if_false, Bool.and_true, Bool.true_and, Bool.and_false, Bool.false_and, Bool.and_self, Bool.false_eq_true, ↓reduceIte, decide_true, decide_false, Int.toNat_natCast, Bool.toNat_true, Bool.toNat_false]; first | done | rfl) | (simp only [if_true]; first | done | rfl) | (simp [if_true]; done) | (simp [if_true]; first | rfl | omega)) | (simp [g_note, g_noteS, vSee, bNote, c_1]; done) | (simp [g_note, g_noteS, vSee, bNote, c_1]; omega) | (simp only [g_note, g_noteS, vSee, bNote, c_1, if_true, if_false, Bool.and_true, Bool.true_and, Bool.and_false, Bool.false_and, Bool.and_self, Bool.false_eq_true, ↓reduceIte, decide_true, decide_false, Int.toNat_natCast, Bool.toNat_true, Bool.toNat_false]; try simp only [if_true, if_true, if_false, Bool.and_true, Bool.true_and, Bool.and_false, Bool.false_and, Bool.and_self, Bool.false_eq_true, ↓reduceIte, decide_true, decide_false, Int.toNat_natCast, Bool.toNat_true, Bool.toNat_false]; rfl))
  · have c_1d := c_1
    simp only [isIn, isP, decide_eq_true_eq, decide_eq_false_iff_not] at c_1d
    refine r_iln F hl 2 rfl dX4_note_8 rfl ?_
    refine r_ic F 0 dX4_note_9 rfl ?_
    refine r_bp F 7 dX4_note_10 rfl ?_
    refine r_sq F B.1 (k_X4_in l D cI cB (f) ((0 : Int)) ((7 : Int)) (by omega) (by omega) (by omega)) gw_X4_40 [] rfl ⟨⟨rfl, rfl⟩, Nat.le_of_ble_eq_true rfl, Nat.le_of_ble_eq_true rfl⟩ ⟨Nat.le_of_ble_eq_true rfl, Nat.le_of_ble_eq_true rfl⟩ hl.1 rfl [] rfl (Nat.le_of_ble_eq_true rfl) dX4_note_12 ?_
    refine r_zneb 20 F dX4_note_15 (by decide) (fun c_2 => ?_) (fun c_2 => ?_)
    · have c_2d := c_2
      simp only [isIn, isP, decide_eq_true_eq, decide_eq_false_iff_not] at c_2d
      obtain ⟨i_, rfl⟩ : ∃ k : Nat, i = (k : Int) := ⟨i.toNat, by omega⟩
      have hl : lv_has ls 3 [(0, .ref (q 0)), (1, .int (iI ((i_ : Nat) : Int))), (2, .int (iI (f)))] := hl
      obtain ⟨f_, rfl⟩ : ∃ k : Nat, f = (k : Int) := ⟨f.toNat, by omega⟩
      have hl : lv_has ls 3 [(0, .ref (q 0)), (1, .int (iI ((i_ : Nat) : Int))), (2, .int (iI ((f_ : Nat) : Int)))] := hl
      refine r_aln F hl 0 rfl dX4_note_20 rfl ?_
      refine gf_X4_19 F B.1 0 rfl (.ref (q 5)) rfl dX4_note_21 ?_
      refine r_ic F 1 dX4_note_24 rfl ?_
      refine r_ic F 2 dX4_note_25 rfl ?_
      refine r_iln F hl 1 rfl dX4_note_26 rfl ?_
      refine r_mul F dX4_note_27 ?_
      refine r_add F dX4_note_28 ?_
      refine r_aln F hl 0 rfl dX4_note_29 rfl ?_
      refine r_cq F B.1 (k_X4_awake l D cI cB (q) (M)  hs) gw_X4_102 [0, 1, 2, 3, 4, 5, 6, 7, 8, 9, 10] rfl rfl rfl ⟨⟨rfl, rfl⟩, Nat.le_of_ble_eq_true rfl, Nat.le_of_ble_eq_true rfl⟩ ⟨Nat.le_of_ble_eq_true rfl, Nat.le_of_ble_eq_true rfl⟩ hl.1 rfl [.int (iI (((1 + (2 * i_)) : Nat) : Int)), .ref (q 5)] rfl (Nat.le_of_ble_eq_true rfl) dX4_note_30 ?_
      refine r_add F dX4_note_33 ?_
      refine r_ald (f := M 4) F B.1 4 rfl dX4_note_34 (by decide) (by omega) ?_
      have b_3 : M 4 (((1 + (2 * i_)) + ((M 4) 0 % 2))) < 65536 := hs (((1 + (2 * i_)) + ((M 4) 0 % 2)))
      refine r_iln F hl 2 rfl dX4_note_35 rfl ?_
      refine r_shr F dX4_note_36 ⟨by omega, by omega⟩ ?_
      have b_4 : (M 4 (((1 + (2 * i_)) + ((M 4) 0 % 2))) / 2 ^ f_) ≤ M 4 (((1 + (2 * i_)) + ((M 4) 0 % 2))) := Nat.div_le_self _ _
      refine r_ic F 1 dX4_note_37 rfl ?_
      refine r_and F dX4_note_38 ?_
      have b_5 : ((M 4 (((1 + (2 * i_)) + ((M 4) 0 % 2))) / 2 ^ f_) &&& 1) ≤ 1 := Nat.and_le_right
      refine r_zne 45 F dX4_note_39 (by decide) (by omega) (fun c_6 => ?_) (fun c_6 => ?_)
      · refine r_aln F hl 0 rfl dX4_note_45 rfl ?_
        refine gf_X4_19 F B.1 0 rfl (.ref (q 5)) rfl dX4_note_46 ?_
        refine r_bp F 11 dX4_note_49 rfl ?_
        refine r_iln F hl 1 rfl dX4_note_51 rfl ?_
        refine r_add F dX4_note_52 ?_
        refine r_dup2 F dX4_note_53 rfl rfl ?_
        refine r_ald (f := M 4) F B.1 4 rfl dX4_note_54 (by decide) (by omega) ?_
        have b_7 : M 4 ((11 + i_)) < 65536 := hs ((11 + i_))
        refine r_ic F 1 dX4_note_55 rfl ?_
        refine r_iln F hl 2 rfl dX4_note_56 rfl ?_
        have b_8 : 1 * 2 ^ (f_) < 65536 := pw16 (by omega)
        refine r_shl F dX4_note_57 ⟨by omega, by omega⟩ ?_
        refine r_or F dX4_note_58 ?_
        have b_9 : (M 4 ((11 + i_)) ||| (1 * 2 ^ f_)) < 65536 := or16 (by omega) (by omega)
        have hb_10 : ∀ j_, upN (M 4) ((11 + i_)) ((M 4 ((11 + i_)) ||| (1 * 2 ^ f_))) j_ < 65536 := upN_lt hs (by omega)
        refine r_ast (f := M 4) F B 4 (wM q cI (stR M 4 (upN (M 4) ((11 + i_)) ((M 4 ((11 + i_)) ||| (1 * 2 ^ f_)))))) rfl dX4_note_59 (by decide) (by omega) rfl (fun H locs B => ?_)
        refine r_aln F hl 0 rfl dX4_note_60 rfl ?_
        refine gf_X4_19 F B.1 0 rfl (.ref (q 5)) rfl dX4_note_61 ?_
        refine r_bp F 11 dX4_note_64 rfl ?_
        refine r_iln F hl 1 rfl dX4_note_66 rfl ?_
        refine r_add F dX4_note_67 ?_
        refine r_ald (f := upN (M 4) ((11 + i_)) ((M 4 ((11 + i_)) ||| (1 * 2 ^ f_)))) F B.1 4 rfl dX4_note_68 (by decide) (by omega) ?_
        have b_11 : (upN (M 4) ((11 + i_)) ((M 4 ((11 + i_)) ||| (1 * 2 ^ f_)))) ((11 + i_)) < 65536 := hb_10 ((11 + i_))
        exact r_retU F hr hlk hH B dX4_note_69 (by first | rfl | (simp only [g_note, g_noteS, vSee, bNote, c_1, c_2, if_true, if_false, Bool.and_true, Bool.true_and, Bool.and_false, Bool.false_and, Bool.and_self, Bool.false_eq_true, ↓reduceIte, decide_true, decide_false, Int.toNat_natCast, Bool.toNat_true, Bool.toNat_false]; first | done | rfl | (simp only [c_6, if_true, if_false, Bool.and_true, Bool.true_and, Bool.and_false, Bool.false_and, Bool.and_self, Bool.false_eq_true, ↓reduceIte, decide_true, decide_false, Int.toNat_natCast, Bool.toNat_true, Bool.toNat_false]; first | done | rfl) | (simp only [if_neg c_6]; first | done | rfl) | (simp [c_6]; done) | (simp [c_6]; first | rfl | omega)) | (simp [g_note, g_noteS, vSee, bNote, c_1, c_2, c_6]; done) | (simp [g_note, g_noteS, vSee, bNote, c_1, c_2, c_6]; omega) | (simp only [g_note, g_noteS, vSee, bNote, c_1, c_2, if_true, if_false, Bool.and_true, Bool.true_and, Bool.and_false, Bool.false_and, Bool.and_self, Bool.false_eq_true, ↓reduceIte, decide_true, decide_false, Int.toNat_natCast, Bool.toNat_true, Bool.toNat_false]; try simp only [c_6, if_true, if_false, Bool.and_true, Bool.true_and, Bool.and_false, Bool.false_and, Bool.and_self, Bool.false_eq_true, ↓reduceIte, decide_true, decide_false, Int.toNat_natCast, Bool.toNat_true, Bool.toNat_false]; rfl)) (by first | rfl | (simp only [g_note, g_noteS, vSee, bNote, c_1, c_2, if_true, if_false, Bool.and_true, Bool.true_and, Bool.and_false, Bool.false_and, Bool.and_self, Bool.false_eq_true, ↓reduceIte, decide_true, decide_false, Int.toNat_natCast, Bool.toNat_true, Bool.toNat_false]; first | done | rfl | (simp only [c_6, if_true, if_false, Bool.and_true, Bool.true_and, Bool.and_false, Bool.false_and, Bool.and_self, Bool.false_eq_true, ↓reduceIte, decide_true, decide_false, Int.toNat_natCast, Bool.toNat_true, Bool.toNat_false]; first | done | rfl) | (simp only [if_neg c_6]; first | done | rfl) | (simp [c_6]; done) | (simp [c_6]; first | rfl | omega)) | (simp [g_note, g_noteS, vSee, bNote, c_1, c_2, c_6]; done) | (simp [g_note, g_noteS, vSee, bNote, c_1, c_2, c_6]; omega) | (simp only [g_note, g_noteS, vSee, bNote, c_1, c_2, if_true, if_false, Bool.and_true, Bool.true_and, Bool.and_false, Bool.false_and, Bool.and_self, Bool.false_eq_true, ↓reduceIte, decide_true, decide_false, Int.toNat_natCast, Bool.toNat_true, Bool.toNat_false]; try simp only [c_6, if_true, if_false, Bool.and_true, Bool.true_and, Bool.and_false, Bool.false_and, Bool.and_self, Bool.false_eq_true, ↓reduceIte, decide_true, decide_false, Int.toNat_natCast, Bool.toNat_true, Bool.toNat_false]; rfl))
      · refine r_bpz F (-2) dX4_note_42 rfl ?_
        exact r_retU F hr hlk hH B dX4_note_44 (by first | rfl | (simp only [g_note, g_noteS, vSee, bNote, c_1, c_2, if_true, if_false, Bool.and_true, Bool.true_and, Bool.and_false, Bool.false_and, Bool.and_self, Bool.false_eq_true, ↓reduceIte, decide_true, decide_false, Int.toNat_natCast, Bool.toNat_true, Bool.toNat_false]; first | done | rfl | (simp only [c_6, if_true, if_false, Bool.and_true, Bool.true_and, Bool.and_false, Bool.false_and, Bool.and_self, Bool.false_eq_true, ↓reduceIte, decide_true, decide_false, Int.toNat_natCast, Bool.toNat_true, Bool.toNat_false]; first | done | rfl) | (simp only [if_pos c_6]; first | done | rfl) | (simp [c_6]; done) | (simp [c_6]; first | rfl | omega)) | (simp [g_note, g_noteS, vSee, bNote, c_1, c_2, c_6]; done) | (simp [g_note, g_noteS, vSee, bNote, c_1, c_2, c_6]; omega) | (simp only [g_note, g_noteS, vSee, bNote, c_1, c_2, if_true, if_false, Bool.and_true, Bool.true_and, Bool.and_false, Bool.false_and, Bool.and_self, Bool.false_eq_true, ↓reduceIte, decide_true, decide_false, Int.toNat_natCast, Bool.toNat_true, Bool.toNat_false]; try simp only [c_6, if_true, if_false, Bool.and_true, Bool.true_and, Bool.and_false, Bool.false_and, Bool.and_self, Bool.false_eq_true, ↓reduceIte, decide_true, decide_false, Int.toNat_natCast, Bool.toNat_true, Bool.toNat_false]; rfl)) (by first | rfl | (simp only [g_note, g_noteS, vSee, bNote, c_1, c_2, if_true, if_false, Bool.and_true, Bool.true_and, Bool.and_false, Bool.false_and, Bool.and_self, Bool.false_eq_true, ↓reduceIte, decide_true, decide_false, Int.toNat_natCast, Bool.toNat_true, Bool.toNat_false]; first | done | rfl | (simp only [c_6, if_true, if_false, Bool.and_true, Bool.true_and, Bool.and_false, Bool.false_and, Bool.and_self, Bool.false_eq_true, ↓reduceIte, decide_true, decide_false, Int.toNat_natCast, Bool.toNat_true, Bool.toNat_false]; first | done | rfl) | (simp only [if_pos c_6]; first | done | rfl) | (simp [c_6]; done) | (simp [c_6]; first | rfl | omega)) | (simp [g_note, g_noteS, vSee, bNote, c_1, c_2, c_6]; done) | (simp [g_note, g_noteS, vSee, bNote, c_1, c_2, c_6]; omega) | (simp only [g_note, g_noteS, vSee, bNote, c_1, c_2, if_true, if_false, Bool.and_true, Bool.true_and, Bool.and_false, Bool.false_and, Bool.and_self, Bool.false_eq_true, ↓reduceIte, decide_true, decide_false, Int.toNat_natCast, Bool.toNat_true, Bool.toNat_false]; try simp only [c_6, if_true, if_false, Bool.and_true, Bool.true_and, Bool.and_false, Bool.false_and, Bool.and_self, Bool.false_eq_true, ↓reduceIte, decide_true, decide_false, Int.toNat_natCast, Bool.toNat_true, Bool.toNat_false]; rfl))
    · have c_2d := c_2
      simp only [isIn, isP, decide_eq_true_eq, decide_eq_false_iff_not] at c_2d
      refine r_icz F (-1) dX4_note_18 rfl ?_
      exact r_retU F hr hlk hH B dX4_note_19 (by first | rfl | (simp only [g_note, g_noteS, vSee, bNote, c_1, c_2, if_true, if_false, Bool.and_true, Bool.true_and, Bool.and_false, Bool.false_and, Bool.and_self, Bool.false_eq_true, ↓reduceIte, decide_true, decide_false, Int.toNat_natCast, Bool.toNat_true, Bool.toNat_false]; first | done | rfl | (simp only [if_true, if_true, if_false, Bool.and_true, Bool.true_and, Bool.and_false, Bool.false_and, Bool.and_self, Bool.false_eq_true, ↓reduceIte, decide_true, decide_false, Int.toNat_natCast, Bool.toNat_true, Bool.toNat_false]; first | done | rfl) | (simp only [if_true]; first | done | rfl) | (simp [if_true]; done) | (simp [if_true]; first | rfl | omega)) | (simp [g_note, g_noteS, vSee, bNote, c_1, c_2]; done) | (simp [g_note, g_noteS, vSee, bNote, c_1, c_2]; omega) | (simp only [g_note, g_noteS, vSee, bNote, c_1, c_2, if_true, if_false, Bool.and_true, Bool.true_and, Bool.and_false, Bool.false_and, Bool.and_self, Bool.false_eq_true, ↓reduceIte, decide_true, decide_false, Int.toNat_natCast, Bool.toNat_true, Bool.toNat_false]; try simp only [if_true, if_true, if_false, Bool.and_true, Bool.true_and, Bool.and_false, Bool.false_and, Bool.and_self, Bool.false_eq_true, ↓reduceIte, decide_true, decide_false, Int.toNat_natCast, Bool.toNat_true, Bool.toNat_false]; rfl)) (by first | rfl | (simp only [g_note, g_noteS, vSee, bNote, c_1, c_2, if_true, if_false, Bool.and_true, Bool.true_and, Bool.and_false, Bool.false_and, Bool.and_self, Bool.false_eq_true, ↓reduceIte, decide_true, decide_false, Int.toNat_natCast, Bool.toNat_true, Bool.toNat_false]; first | done | rfl | (simp only [if_true, if_true, if_false, Bool.and_true, Bool.true_and, Bool.and_false, Bool.false_and, Bool.and_self, Bool.false_eq_true, ↓reduceIte, decide_true, decide_false, Int.toNat_natCast, Bool.toNat_true, Bool.toNat_false]; first | done | rfl) | (simp only [if_true]; first | done | rfl) | (simp [if_true]; done) | (simp [if_true]; first | rfl | omega)) | (simp [g_note, g_noteS, vSee, bNote, c_1, c_2]; done) | (simp [g_note, g_noteS, vSee, bNote, c_1, c_2]; omega) | (simp only [g_note, g_noteS, vSee, bNote, c_1, c_2, if_true, if_false, Bool.and_true, Bool.true_and, Bool.and_false, Bool.false_and, Bool.and_self, Bool.false_eq_true, ↓reduceIte, decide_true, decide_false, Int.toNat_natCast, Bool.toNat_true, Bool.toNat_false]; try simp only [if_true, if_true, if_false, Bool.and_true, Bool.true_and, Bool.and_false, Bool.false_and, Bool.and_self, Bool.false_eq_true, ↓reduceIte, decide_true, decide_false, Int.toNat_natCast, Bool.toNat_true, Bool.toNat_false]; rfl))
abbrev rm_X4_shifts : Room := { frames := 3, cells := 0, slots := 0, locals := 70 }
set_option maxHeartbeats 4000000 in
set_option maxRecDepth 100000 in
theorem k_X4_shifts (l : Launch) (D : va_G) (cI cB : ClassId) (q : Nat → Nat) (M : St) (n : Int) (hn : (-2147483648 ≤ n ∧ n < 2147483648)) (hp : 1 ≤ M 2 0 ∧ M 2 0 ≤ 5) (hbk : ∀ k, M 2 k < 256) (hs : ∀ k, M 4 k < 65536) (hs0 : M 4 0 ≤ 9999) (ha : ∀ k, M 5 k < 65536) : CtU l yX4_shifts cX4_shifts 3 (some .int) rm_X4_shifts D cI cB [.ref (q 0), .int (iI (n))] (wM q cI M) (wM q cI (stR (stR M 4 (g_shiftsS (M 2) (M 4) (M 5) n)) 5 (g_shiftsA (M 2) (M 4) (M 5) n))) ((iI (g_shifts (M 2) (M 4) (M 5) n))) := by
  refine CtU.of RX4 (by decide) rfl (Nat.le_of_ble_eq_true rfl) ?_
  intro p e s m args below meth c H0 ls A hH hA F hr hlk B hl
  have hl : lv_has ls 3 [(0, .ref (q 0)), (1, .int (iI (n)))] := hl
  refine r_iln F hl 1 rfl dX4_shifts_0 rfl ?_
  refine r_ic F 1 dX4_shifts_1 rfl ?_
  refine r_bp F 40 dX4_shifts_2 rfl ?_
  refine r_sq F B.1 (k_X4_in l D cI cB (n) ((1 : Int)) ((40 : Int)) (by omega) (by omega) (by omega)) gw_X4_40 [] rfl ⟨⟨rfl, rfl⟩, Nat.le_of_ble_eq_true rfl, Nat.le_of_ble_eq_true rfl⟩ ⟨Nat.le_of_ble_eq_true rfl, Nat.le_of_ble_eq_true rfl⟩ hl.1 rfl [] rfl (Nat.le_of_ble_eq_true rfl) dX4_shifts_4 ?_
  refine r_zneb 12 F dX4_shifts_7 (by decide) (fun c_1 => ?_) (fun c_1 => ?_)
  · have c_1d := c_1
    simp only [isIn, isP, decide_eq_true_eq, decide_eq_false_iff_not] at c_1d
    obtain ⟨n_, rfl⟩ : ∃ k : Nat, n = (k : Int) := ⟨n.toNat, by omega⟩
    have hl : lv_has ls 3 [(0, .ref (q 0)), (1, .int (iI ((n_ : Nat) : Int)))] := hl
    refine r_aln F hl 0 rfl dX4_shifts_12 rfl ?_
    refine gf_X4_19 F B.1 0 rfl (.ref (q 5)) rfl dX4_shifts_13 ?_
    refine r_ic F 0 dX4_shifts_16 rfl ?_
    refine r_ald (f := M 4) F B.1 4 rfl dX4_shifts_17 (by decide) (by omega) ?_
    have b_2 : M 4 (0) < 65536 := hs (0)
    refine r_iln F hl 1 rfl dX4_shifts_18 rfl ?_
    refine r_add F dX4_shifts_19 ?_
    refine r_sp F 9999 dX4_shifts_20 rfl ?_
    refine r_cle 29 F dX4_shifts_23 (by decide) (by omega) (fun c_3 => ?_) (fun c_3 => ?_)
    · have hv_ : decide (M 4 0 + n_ ≤ 9999) = true := decide_eq_true (by omega)
      refine r_aln F hl 0 rfl dX4_shifts_29 rfl ?_
      refine r_iln F hl 1 rfl dX4_shifts_30 rfl ?_
      refine r_cvW F hA B (k_X4_plays l D cI cB (q) (M) (n_) (by omega) hp hbk hs hs0 ha) gw_X4_115 rfl rfl ⟨⟨rfl, rfl⟩, Nat.le_of_ble_eq_true rfl, Nat.le_of_ble_eq_true rfl⟩ ⟨Nat.le_of_ble_eq_true rfl, Nat.le_of_ble_eq_true rfl⟩ hl.1 rfl [] rfl (Nat.le_of_ble_eq_true rfl) dX4_shifts_31 (fun H locs B => ?_)
      have hb_4 : ∀ j_, (sp_plays (M 2) (M 4) (M 5) (n_)) j_ < 65536 := (plays_all hs ha (by omega)).1
      have hq_ := (@plays_all (M 2) (M 4) (M 5) (n_) hs ha (by omega)).2
      refine r_ic F 0 dX4_shifts_34 rfl ?_
      refine r_isn (lv' := [(0, .ref (q 0)), (1, .int (iI ((n_ : Nat) : Int))), (2, .int (iI ((0 : Nat) : Int)))]) F hl dX4_shifts_35 rfl (by decide) [1, 2, 0] rfl (fun ls hl => ?_)
      have lp_5 : ∀ (nn_ : Nat) (k : Nat) (f : Nat → Nat) (H : Heap) (locs : List Loc) (ls : Array Slot), 16 - k < nn_ → (lpR (fun k f => upN f k (sp_plays (M 2) (M 4) (M 5) n_ k)) 16 k f = cp16 (sp_plays (M 2) (M 4) (M 5) n_) (M 4)) → (∀ k, f k < 65536) → (k ≤ 16) → Bx D A H0 (wM q cI (stR (stR M 5 (sp_plays (M 2) (M 4) (M 5) (n_))) 4 (f))) H locs → lv_has ls 3 [(0, .ref (q 0)), (1, .int (iI ((n_ : Nat) : Int))), (2, .int (iI ((k : Nat) : Int)))] → W p l e rm_X4_shifts s m args below meth c H locs 0 0 (Qu below args s D ((iI (g_shifts (M 2) (M 4) (M 5) ((n_ : Nat) : Int)))) (wM q cI (stR (stR M 4 (g_shiftsS (M 2) (M 4) (M 5) ((n_ : Nat) : Int))) 5 (g_shiftsA (M 2) (M 4) (M 5) ((n_ : Nat) : Int)))) A) (F0 m 36 ls []) := by
        intro nn_
        induction nn_ with
        | zero => intro k f H locs ls hlt; exact absurd hlt (Nat.not_lt_zero _)
        | succ nn_ ih =>
          have ih_6 := ih; clear ih
          intro k f H locs ls hlt hI hf hk B hl
          have hlt_7 := hlt
          refine r_iln F hl 2 rfl dX4_shifts_36 rfl ?_
          refine r_bp F 16 dX4_shifts_37 rfl ?_
          refine r_cge 60 F dX4_shifts_39 (by decide) (by omega) (fun c_8 => ?_) (fun c_8 => ?_)
          · obtain rfl : f = cp16 (sp_plays (M 2) (M 4) (M 5) n_) (M 4) := by rw [← hI, lpR_end (by omega)]
            refine r_aln F hl 0 rfl dX4_shifts_60 rfl ?_
            refine gf_X4_19 F B.1 0 rfl (.ref (q 5)) rfl dX4_shifts_61 ?_
            refine r_ic F 0 dX4_shifts_64 rfl ?_
            refine r_ald (f := (cp16 (sp_plays (M 2) (M 4) (M 5) n_) (M 4))) F B.1 4 rfl dX4_shifts_65 (by decide) (by omega) ?_
            have b_9 : ((cp16 (sp_plays (M 2) (M 4) (M 5) n_) (M 4))) (0) < 65536 := hf (0)
            exact r_retU F hr hlk hH B dX4_shifts_66 (by first | rfl | (simp only [g_shifts, g_shiftsS, vShift, c_1, hv_, if_true, if_false, Bool.and_true, Bool.true_and, Bool.and_false, Bool.false_and, Bool.and_self, Bool.false_eq_true, ↓reduceIte, decide_true, decide_false, Int.toNat_natCast, Bool.toNat_true, Bool.toNat_false]; first | done | rfl | (simp only [c_3, (Nat.not_lt.mp c_3), c_8, (Nat.not_lt.mp c_8), if_true, if_false, Bool.and_true, Bool.true_and, Bool.and_false, Bool.false_and, Bool.and_self, Bool.false_eq_true, ↓reduceIte, decide_true, decide_false, Int.toNat_natCast, Bool.toNat_true, Bool.toNat_false]; first | done | rfl) | (simp only [if_neg c_3, if_pos (Nat.not_lt.mp c_3), if_neg c_8, if_pos (Nat.not_lt.mp c_8)]; first | done | rfl) | (simp [c_3, (Nat.not_lt.mp c_3), c_8, (Nat.not_lt.mp c_8)]; done) | (simp [c_3, (Nat.not_lt.mp c_3), c_8, (Nat.not_lt.mp c_8)]; first | rfl | omega)) | (simp [g_shifts, g_shiftsS, vShift, c_1, c_3, (Nat.not_lt.mp c_3), c_8, (Nat.not_lt.mp c_8), hv_]; done) | (simp [g_shifts, g_shiftsS, vShift, c_1, c_3, (Nat.not_lt.mp c_3), c_8, (Nat.not_lt.mp c_8), hv_]; omega) | (simp only [g_shifts, g_shiftsS, vShift, c_1, hv_, if_true, if_false, Bool.and_true, Bool.true_and, Bool.and_false, Bool.false_and, Bool.and_self, Bool.false_eq_true, ↓reduceIte, decide_true, decide_false, Int.toNat_natCast, Bool.toNat_true, Bool.toNat_false]; try simp only [c_3, (Nat.not_lt.mp c_3), c_8, (Nat.not_lt.mp c_8), if_true, if_false, Bool.and_true, Bool.true_and, Bool.and_false, Bool.false_and, Bool.and_self, Bool.false_eq_true, ↓reduceIte, decide_true, decide_false, Int.toNat_natCast, Bool.toNat_true, Bool.toNat_false]; rfl)) (by first | rfl | (simp only [g_shiftsS, g_shiftsA, vShift, c_1, hv_, if_true, if_false, Bool.and_true, Bool.true_and, Bool.and_false, Bool.false_and, Bool.and_self, Bool.false_eq_true, ↓reduceIte, decide_true, decide_false, Int.toNat_natCast, Bool.toNat_true, Bool.toNat_false]; first | done | rfl | (simp only [c_3, (Nat.not_lt.mp c_3), c_8, (Nat.not_lt.mp c_8), if_true, if_false, Bool.and_true, Bool.true_and, Bool.and_false, Bool.false_and, Bool.and_self, Bool.false_eq_true, ↓reduceIte, decide_true, decide_false, Int.toNat_natCast, Bool.toNat_true, Bool.toNat_false]; first | done | rfl) | (simp only [if_neg c_3, if_pos (Nat.not_lt.mp c_3), if_neg c_8, if_pos (Nat.not_lt.mp c_8)]; first | done | rfl) | (simp [c_3, (Nat.not_lt.mp c_3), c_8, (Nat.not_lt.mp c_8)]; done) | (simp [c_3, (Nat.not_lt.mp c_3), c_8, (Nat.not_lt.mp c_8)]; first | rfl | omega)) | (simp [g_shiftsS, g_shiftsA, vShift, c_1, c_3, (Nat.not_lt.mp c_3), c_8, (Nat.not_lt.mp c_8), hv_]; done) | (simp [g_shiftsS, g_shiftsA, vShift, c_1, c_3, (Nat.not_lt.mp c_3), c_8, (Nat.not_lt.mp c_8), hv_]; omega) | (simp only [g_shiftsS, g_shiftsA, vShift, c_1, hv_, if_true, if_false, Bool.and_true, Bool.true_and, Bool.and_false, Bool.false_and, Bool.and_self, Bool.false_eq_true, ↓reduceIte, decide_true, decide_false, Int.toNat_natCast, Bool.toNat_true, Bool.toNat_false]; try simp only [c_3, (Nat.not_lt.mp c_3), c_8, (Nat.not_lt.mp c_8), if_true, if_false, Bool.and_true, Bool.true_and, Bool.and_false, Bool.false_and, Bool.and_self, Bool.false_eq_true, ↓reduceIte, decide_true, decide_false, Int.toNat_natCast, Bool.toNat_true, Bool.toNat_false]; rfl))
          · refine r_aln F hl 0 rfl dX4_shifts_42 rfl ?_
            refine gf_X4_19 F B.1 0 rfl (.ref (q 5)) rfl dX4_shifts_43 ?_
            refine r_iln F hl 2 rfl dX4_shifts_46 rfl ?_
            refine r_aln F hl 0 rfl dX4_shifts_47 rfl ?_
            refine gf_X4_22 F B.1 0 rfl (.ref (q 6)) rfl dX4_shifts_48 ?_
            refine r_iln F hl 2 rfl dX4_shifts_51 rfl ?_
            refine r_ald (f := sp_plays (M 2) (M 4) (M 5) (n_)) F B.1 5 rfl dX4_shifts_52 (by decide) (by omega) ?_
            have b_10 : (sp_plays (M 2) (M 4) (M 5) (n_)) (k) < 65536 := hb_4 (k)
            have hb_11 : ∀ j_, upN (f) (k) ((sp_plays (M 2) (M 4) (M 5) (n_)) (k)) j_ < 65536 := upN_lt hf (by omega)
            refine r_ast (f := f) F B 4 (wM q cI (stR (stR M 5 (sp_plays (M 2) (M 4) (M 5) (n_))) 4 (upN (f) (k) ((sp_plays (M 2) (M 4) (M 5) (n_)) (k))))) rfl dX4_shifts_53 (by decide) (by omega) rfl (fun H locs B => ?_)
            refine r_inc (lv' := [(0, .ref (q 0)), (1, .int (iI ((n_ : Nat) : Int))), (2, .int (iI (((k + 1) : Nat) : Int)))]) F hl 2 rfl dX4_shifts_54 1 rfl (by decide) [1, 2, 0] rfl (fun ls hl => ?_)
            refine r_goto 36 F dX4_shifts_57 (by decide) ?_
            exact ih_6 ((k + 1)) (upN (f) (k) ((sp_plays (M 2) (M 4) (M 5) (n_)) (k))) _ _ ls (by omega) (by have h_ := hI; rw [lpR_step (by omega)] at h_; refine Eq.trans ?_ h_; first | rfl | (simp only [c_1, c_3, (Nat.not_lt.mp c_3), c_8, (Nat.not_le.mpr c_8), if_true, if_false, Bool.and_true, Bool.true_and, Bool.and_false, Bool.false_and, Bool.and_self, Bool.false_eq_true, ↓reduceIte, decide_true, decide_false, Int.toNat_natCast, Bool.toNat_true, Bool.toNat_false]; done) | (simp [c_1, c_3, (Nat.not_lt.mp c_3), c_8, (Nat.not_le.mpr c_8)]; done)) hb_11 (by omega) B hl
      exact lp_5 _ (0) (M 4) _ _ ls (Nat.lt_succ_self _) rfl hs (by omega) B hl
    · have hv_ : decide (M 4 0 + n_ ≤ 9999) = false := decide_eq_false (by omega)
      refine r_bpz F (-2) dX4_shifts_26 rfl ?_
      exact r_retU F hr hlk hH B dX4_shifts_28 (by first | rfl | (simp only [g_shifts, g_shiftsS, vShift, c_1, hv_, if_true, if_false, Bool.and_true, Bool.true_and, Bool.and_false, Bool.false_and, Bool.and_self, Bool.false_eq_true, ↓reduceIte, decide_true, decide_false, Int.toNat_natCast, Bool.toNat_true, Bool.toNat_false]; first | done | rfl | (simp only [c_3, (Nat.not_le.mpr c_3), if_true, if_false, Bool.and_true, Bool.true_and, Bool.and_false, Bool.false_and, Bool.and_self, Bool.false_eq_true, ↓reduceIte, decide_true, decide_false, Int.toNat_natCast, Bool.toNat_true, Bool.toNat_false]; first | done | rfl) | (simp only [if_pos c_3, if_neg (Nat.not_le.mpr c_3)]; first | done | rfl) | (simp [c_3, (Nat.not_le.mpr c_3)]; done) | (simp [c_3, (Nat.not_le.mpr c_3)]; first | rfl | omega)) | (simp [g_shifts, g_shiftsS, vShift, c_1, c_3, (Nat.not_le.mpr c_3), hv_]; done) | (simp [g_shifts, g_shiftsS, vShift, c_1, c_3, (Nat.not_le.mpr c_3), hv_]; omega) | (simp only [g_shifts, g_shiftsS, vShift, c_1, hv_, if_true, if_false, Bool.and_true, Bool.true_and, Bool.and_false, Bool.false_and, Bool.and_self, Bool.false_eq_true, ↓reduceIte, decide_true, decide_false, Int.toNat_natCast, Bool.toNat_true, Bool.toNat_false]; try simp only [c_3, (Nat.not_le.mpr c_3), if_true, if_false, Bool.and_true, Bool.true_and, Bool.and_false, Bool.false_and, Bool.and_self, Bool.false_eq_true, ↓reduceIte, decide_true, decide_false, Int.toNat_natCast, Bool.toNat_true, Bool.toNat_false]; rfl)) (by first | rfl | (simp only [g_shiftsS, g_shiftsA, vShift, c_1, hv_, if_true, if_false, Bool.and_true, Bool.true_and, Bool.and_false, Bool.false_and, Bool.and_self, Bool.false_eq_true, ↓reduceIte, decide_true, decide_false, Int.toNat_natCast, Bool.toNat_true, Bool.toNat_false]; first | done | rfl | (simp only [c_3, (Nat.not_le.mpr c_3), if_true, if_false, Bool.and_true, Bool.true_and, Bool.and_false, Bool.false_and, Bool.and_self, Bool.false_eq_true, ↓reduceIte, decide_true, decide_false, Int.toNat_natCast, Bool.toNat_true, Bool.toNat_false]; first | done | rfl) | (simp only [if_pos c_3, if_neg (Nat.not_le.mpr c_3)]; first | done | rfl) | (simp [c_3, (Nat.not_le.mpr c_3)]; done) | (simp [c_3, (Nat.not_le.mpr c_3)]; first | rfl | omega)) | (simp [g_shiftsS, g_shiftsA, vShift, c_1, c_3, (Nat.not_le.mpr c_3), hv_]; done) | (simp [g_shiftsS, g_shiftsA, vShift, c_1, c_3, (Nat.not_le.mpr c_3), hv_]; omega) | (simp only [g_shiftsS, g_shiftsA, vShift, c_1, hv_, if_true, if_false, Bool.and_true, Bool.true_and, Bool.and_false, Bool.false_and, Bool.and_self, Bool.false_eq_true, ↓reduceIte, decide_true, decide_false, Int.toNat_natCast, Bool.toNat_true, Bool.toNat_false]; try simp only [c_3, (Nat.not_le.mpr c_3), if_true, if_false, Bool.and_true, Bool.true_and, Bool.and_false, Bool.false_and, Bool.and_self, Bool.false_eq_true, ↓reduceIte, decide_true, decide_false, Int.toNat_natCast, Bool.toNat_true, Bool.toNat_false]; rfl))
  · have c_1d := c_1
    simp only [isIn, isP, decide_eq_true_eq, decide_eq_false_iff_not] at c_1d
    refine r_icz F (-1) dX4_shifts_10 rfl ?_
    exact r_retU F hr hlk hH B dX4_shifts_11 (by first | rfl | (simp only [g_shifts, g_shiftsS, vShift, c_1, if_true, if_false, Bool.and_true, Bool.true_and, Bool.and_false, Bool.false_and, Bool.and_self, Bool.false_eq_true, ↓reduceIte, decide_true, decide_false, Int.toNat_natCast, Bool.toNat_true, Bool.toNat_false]; first | done | rfl | (simp only [if_true, if_true, if_false, Bool.and_true, Bool.true_and, Bool.and_false, Bool.false_and, Bool.and_self, Bool.false_eq_true, ↓reduceIte, decide_true, decide_false, Int.toNat_natCast, Bool.toNat_true, Bool.toNat_false]; first | done | rfl) | (simp only [if_true]; first | done | rfl) | (simp [if_true]; done) | (simp [if_true]; first | rfl | omega)) | (simp [g_shifts, g_shiftsS, vShift, c_1]; done) | (simp [g_shifts, g_shiftsS, vShift, c_1]; omega) | (simp only [g_shifts, g_shiftsS, vShift, c_1, if_true, if_false, Bool.and_true, Bool.true_and, Bool.and_false, Bool.false_and, Bool.and_self, Bool.false_eq_true, ↓reduceIte, decide_true, decide_false, Int.toNat_natCast, Bool.toNat_true, Bool.toNat_false]; try simp only [if_true, if_true, if_false, Bool.and_true, Bool.true_and, Bool.and_false, Bool.false_and, Bool.and_self, Bool.false_eq_true, ↓reduceIte, decide_true, decide_false, Int.toNat_natCast, Bool.toNat_true, Bool.toNat_false]; rfl)) (by first | rfl | (simp only [g_shiftsS, g_shiftsA, vShift, c_1, if_true, if_false, Bool.and_true, Bool.true_and, Bool.and_false, Bool.false_and, Bool.and_self, Bool.false_eq_true, ↓reduceIte, decide_true, decide_false, Int.toNat_natCast, Bool.toNat_true, Bool.toNat_false]; first | done | rfl | (simp only [if_true, if_true, if_false, Bool.and_true, Bool.true_and, Bool.and_false, Bool.false_and, Bool.and_self, Bool.false_eq_true, ↓reduceIte, decide_true, decide_false, Int.toNat_natCast, Bool.toNat_true, Bool.toNat_false]; first | done | rfl) | (simp only [if_true]; first | done | rfl) | (simp [if_true]; done) | (simp [if_true]; first | rfl | omega)) | (simp [g_shiftsS, g_shiftsA, vShift, c_1]; done) | (simp [g_shiftsS, g_shiftsA, vShift, c_1]; omega) | (simp only [g_shiftsS, g_shiftsA, vShift, c_1, if_true, if_false, Bool.and_true, Bool.true_and, Bool.and_false, Bool.false_and, Bool.and_self, Bool.false_eq_true, ↓reduceIte, decide_true, decide_false, Int.toNat_natCast, Bool.toNat_true, Bool.toNat_false]; try simp only [if_true, if_true, if_false, Bool.and_true, Bool.true_and, Bool.and_false, Bool.false_and, Bool.and_self, Bool.false_eq_true, ↓reduceIte, decide_true, decide_false, Int.toNat_natCast, Bool.toNat_true, Bool.toNat_false]; rfl))
abbrev rm_X4_knows : Room := { frames := 3, cells := 0, slots := 0, locals := 70 }
set_option maxHeartbeats 4000000 in
set_option maxRecDepth 100000 in
theorem k_X4_knows (l : Launch) (D : va_G) (cI cB : ClassId) (q : Nat → Nat) (M : St) (n i d : Int) (hn : (-2147483648 ≤ n ∧ n < 2147483648)) (hi : (-2147483648 ≤ i ∧ i < 2147483648)) (hd : (-2147483648 ≤ d ∧ d < 2147483648)) (hp : 1 ≤ M 2 0 ∧ M 2 0 ≤ 5) (hbk : ∀ k, M 2 k < 256) (hs : ∀ k, M 4 k < 65536) (hs0 : M 4 0 ≤ 9999) (ha : ∀ k, M 5 k < 65536) : CtU l yX4_knows cX4_knows 4 (some .int) rm_X4_knows D cI cB [.ref (q 0), .int (iI (n)), .int (iI (i)), .int (iI (d))] (wM q cI M) (wM q cI (stR M 5 (g_knowsA (M 2) (M 4) (M 5) n i d))) ((iI (g_knows (M 2) (M 4) (M 5) n i d))) := by
  refine CtU.of RX4 (by decide) rfl (Nat.le_of_ble_eq_true rfl) ?_
  intro p e s m args below meth c H0 ls A hH hA F hr hlk B hl
  have hl : lv_has ls 4 [(0, .ref (q 0)), (1, .int (iI (n))), (2, .int (iI (i))), (3, .int (iI (d)))] := hl
  refine r_iln F hl 1 rfl dX4_knows_0 rfl ?_
  refine r_ic F 0 dX4_knows_1 rfl ?_
  refine r_bp F 40 dX4_knows_2 rfl ?_
  refine r_sq F B.1 (k_X4_in l D cI cB (n) ((0 : Int)) ((40 : Int)) (by omega) (by omega) (by omega)) gw_X4_40 [] rfl ⟨⟨rfl, rfl⟩, Nat.le_of_ble_eq_true rfl, Nat.le_of_ble_eq_true rfl⟩ ⟨Nat.le_of_ble_eq_true rfl, Nat.le_of_ble_eq_true rfl⟩ hl.1 rfl [] rfl (Nat.le_of_ble_eq_true rfl) dX4_knows_4 ?_
  refine r_zeqb 27 F dX4_knows_7 (by decide) (fun c_1 => ?_) (fun c_1 => ?_)
  · have c_1d := c_1
    simp only [isIn, isP, decide_eq_true_eq, decide_eq_false_iff_not] at c_1d
    refine r_icz F (-1) dX4_knows_27 rfl ?_
    exact r_retU F hr hlk hH B dX4_knows_28 (by first | rfl | (simp only [g_knows, g_knowsA, vKnows, c_1, if_true, if_false, Bool.and_true, Bool.true_and, Bool.and_false, Bool.false_and, Bool.and_self, Bool.false_eq_true, ↓reduceIte, decide_true, decide_false, Int.toNat_natCast, Bool.toNat_true, Bool.toNat_false]; first | done | rfl | (simp only [if_true, if_true, if_false, Bool.and_true, Bool.true_and, Bool.and_false, Bool.false_and, Bool.and_self, Bool.false_eq_true, ↓reduceIte, decide_true, decide_false, Int.toNat_natCast, Bool.toNat_true, Bool.toNat_false]; first | done | rfl) | (simp only [if_true]; first | done | rfl) | (simp [if_true]; done) | (simp [if_true]; first | rfl | omega)) | (simp [g_knows, g_knowsA, vKnows, c_1]; done) | (simp [g_knows, g_knowsA, vKnows, c_1]; omega) | (simp only [g_knows, g_knowsA, vKnows, c_1, if_true, if_false, Bool.and_true, Bool.true_and, Bool.and_false, Bool.false_and, Bool.and_self, Bool.false_eq_true, ↓reduceIte, decide_true, decide_false, Int.toNat_natCast, Bool.toNat_true, Bool.toNat_false]; try simp only [if_true, if_true, if_false, Bool.and_true, Bool.true_and, Bool.and_false, Bool.false_and, Bool.and_self, Bool.false_eq_true, ↓reduceIte, decide_true, decide_false, Int.toNat_natCast, Bool.toNat_true, Bool.toNat_false]; rfl)) (by first | rfl | (simp only [g_knows, g_knowsA, vKnows, c_1, if_true, if_false, Bool.and_true, Bool.true_and, Bool.and_false, Bool.false_and, Bool.and_self, Bool.false_eq_true, ↓reduceIte, decide_true, decide_false, Int.toNat_natCast, Bool.toNat_true, Bool.toNat_false]; first | done | rfl | (simp only [if_true, if_true, if_false, Bool.and_true, Bool.true_and, Bool.and_false, Bool.false_and, Bool.and_self, Bool.false_eq_true, ↓reduceIte, decide_true, decide_false, Int.toNat_natCast, Bool.toNat_true, Bool.toNat_false]; first | done | rfl) | (simp only [if_true]; first | done | rfl) | (simp [if_true]; done) | (simp [if_true]; first | rfl | omega)) | (simp [g_knows, g_knowsA, vKnows, c_1]; done) | (simp [g_knows, g_knowsA, vKnows, c_1]; omega) | (simp only [g_knows, g_knowsA, vKnows, c_1, if_true, if_false, Bool.and_true, Bool.true_and, Bool.and_false, Bool.false_and, Bool.and_self, Bool.false_eq_true, ↓reduceIte, decide_true, decide_false, Int.toNat_natCast, Bool.toNat_true, Bool.toNat_false]; try simp only [if_true, if_true, if_false, Bool.and_true, Bool.true_and, Bool.and_false, Bool.false_and, Bool.and_self, Bool.false_eq_true, ↓reduceIte, decide_true, decide_false, Int.toNat_natCast, Bool.toNat_true, Bool.toNat_false]; rfl))
  · have c_1d := c_1
    simp only [isIn, isP, decide_eq_true_eq, decide_eq_false_iff_not] at c_1d
    refine r_aln F hl 0 rfl dX4_knows_10 rfl ?_
    refine r_iln F hl 2 rfl dX4_knows_11 rfl ?_
    refine r_cq F B.1 (k_X4_isPerson l D cI cB (q) (M) (i) (by omega) hbk) gw_X4_99 [0, 1, 2, 3, 4, 5, 6, 7, 8, 9, 10] rfl rfl rfl ⟨⟨rfl, rfl⟩, Nat.le_of_ble_eq_true rfl, Nat.le_of_ble_eq_true rfl⟩ ⟨Nat.le_of_ble_eq_true rfl, Nat.le_of_ble_eq_true rfl⟩ hl.1 rfl [] rfl (Nat.le_of_ble_eq_true rfl) dX4_knows_12 ?_
    refine r_zeqb 27 F dX4_knows_15 (by decide) (fun c_2 => ?_) (fun c_2 => ?_)
    · have c_2d := c_2
      simp only [isIn, isP, decide_eq_true_eq, decide_eq_false_iff_not] at c_2d
      refine r_icz F (-1) dX4_knows_27 rfl ?_
      exact r_retU F hr hlk hH B dX4_knows_28 (by first | rfl | (simp only [g_knows, g_knowsA, vKnows, c_1, c_2, if_true, if_false, Bool.and_true, Bool.true_and, Bool.and_false, Bool.false_and, Bool.and_self, Bool.false_eq_true, ↓reduceIte, decide_true, decide_false, Int.toNat_natCast, Bool.toNat_true, Bool.toNat_false]; first | done | rfl | (simp only [if_true, if_true, if_false, Bool.and_true, Bool.true_and, Bool.and_false, Bool.false_and, Bool.and_self, Bool.false_eq_true, ↓reduceIte, decide_true, decide_false, Int.toNat_natCast, Bool.toNat_true, Bool.toNat_false]; first | done | rfl) | (simp only [if_true]; first | done | rfl) | (simp [if_true]; done) | (simp [if_true]; first | rfl | omega)) | (simp [g_knows, g_knowsA, vKnows, c_1, c_2]; done) | (simp [g_knows, g_knowsA, vKnows, c_1, c_2]; omega) | (simp only [g_knows, g_knowsA, vKnows, c_1, c_2, if_true, if_false, Bool.and_true, Bool.true_and, Bool.and_false, Bool.false_and, Bool.and_self, Bool.false_eq_true, ↓reduceIte, decide_true, decide_false, Int.toNat_natCast, Bool.toNat_true, Bool.toNat_false]; try simp only [if_true, if_true, if_false, Bool.and_true, Bool.true_and, Bool.and_false, Bool.false_and, Bool.and_self, Bool.false_eq_true, ↓reduceIte, decide_true, decide_false, Int.toNat_natCast, Bool.toNat_true, Bool.toNat_false]; rfl)) (by first | rfl | (simp only [g_knows, g_knowsA, vKnows, c_1, c_2, if_true, if_false, Bool.and_true, Bool.true_and, Bool.and_false, Bool.false_and, Bool.and_self, Bool.false_eq_true, ↓reduceIte, decide_true, decide_false, Int.toNat_natCast, Bool.toNat_true, Bool.toNat_false]; first | done | rfl | (simp only [if_true, if_true, if_false, Bool.and_true, Bool.true_and, Bool.and_false, Bool.false_and, Bool.and_self, Bool.false_eq_true, ↓reduceIte, decide_true, decide_false, Int.toNat_natCast, Bool.toNat_true, Bool.toNat_false]; first | done | rfl) | (simp only [if_true]; first | done | rfl) | (simp [if_true]; done) | (simp [if_true]; first | rfl | omega)) | (simp [g_knows, g_knowsA, vKnows, c_1, c_2]; done) | (simp [g_knows, g_knowsA, vKnows, c_1, c_2]; omega) | (simp only [g_knows, g_knowsA, vKnows, c_1, c_2, if_true, if_false, Bool.and_true, Bool.true_and, Bool.and_false, Bool.false_and, Bool.and_self, Bool.false_eq_true, ↓reduceIte, decide_true, decide_false, Int.toNat_natCast, Bool.toNat_true, Bool.toNat_false]; try simp only [if_true, if_true, if_false, Bool.and_true, Bool.true_and, Bool.and_false, Bool.false_and, Bool.and_self, Bool.false_eq_true, ↓reduceIte, decide_true, decide_false, Int.toNat_natCast, Bool.toNat_true, Bool.toNat_false]; rfl))
    · have c_2d := c_2
      simp only [isIn, isP, decide_eq_true_eq, decide_eq_false_iff_not] at c_2d
      refine r_iln F hl 3 rfl dX4_knows_18 rfl ?_
      refine r_ic F 0 dX4_knows_19 rfl ?_
      refine r_ic F 1 dX4_knows_20 rfl ?_
      refine r_sq F B.1 (k_X4_in l D cI cB (d) ((0 : Int)) ((1 : Int)) (by omega) (by omega) (by omega)) gw_X4_40 [] rfl ⟨⟨rfl, rfl⟩, Nat.le_of_ble_eq_true rfl, Nat.le_of_ble_eq_true rfl⟩ ⟨Nat.le_of_ble_eq_true rfl, Nat.le_of_ble_eq_true rfl⟩ hl.1 rfl [] rfl (Nat.le_of_ble_eq_true rfl) dX4_knows_21 ?_
      refine r_zneb 29 F dX4_knows_24 (by decide) (fun c_3 => ?_) (fun c_3 => ?_)
      · have c_3d := c_3
        simp only [isIn, isP, decide_eq_true_eq, decide_eq_false_iff_not] at c_3d
        obtain ⟨n_, rfl⟩ : ∃ k : Nat, n = (k : Int) := ⟨n.toNat, by omega⟩
        have hl : lv_has ls 4 [(0, .ref (q 0)), (1, .int (iI ((n_ : Nat) : Int))), (2, .int (iI (i))), (3, .int (iI (d)))] := hl
        obtain ⟨i_, rfl⟩ : ∃ k : Nat, i = (k : Int) := ⟨i.toNat, by omega⟩
        have hl : lv_has ls 4 [(0, .ref (q 0)), (1, .int (iI ((n_ : Nat) : Int))), (2, .int (iI ((i_ : Nat) : Int))), (3, .int (iI (d)))] := hl
        obtain ⟨d_, rfl⟩ : ∃ k : Nat, d = (k : Int) := ⟨d.toNat, by omega⟩
        have hl : lv_has ls 4 [(0, .ref (q 0)), (1, .int (iI ((n_ : Nat) : Int))), (2, .int (iI ((i_ : Nat) : Int))), (3, .int (iI ((d_ : Nat) : Int)))] := hl
        refine r_aln F hl 0 rfl dX4_knows_29 rfl ?_
        refine r_iln F hl 1 rfl dX4_knows_30 rfl ?_
        refine r_cvW F hA B (k_X4_plays l D cI cB (q) (M) (n_) (by omega) hp hbk hs hs0 ha) gw_X4_115 rfl rfl ⟨⟨rfl, rfl⟩, Nat.le_of_ble_eq_true rfl, Nat.le_of_ble_eq_true rfl⟩ ⟨Nat.le_of_ble_eq_true rfl, Nat.le_of_ble_eq_true rfl⟩ hl.1 rfl [] rfl (Nat.le_of_ble_eq_true rfl) dX4_knows_31 (fun H locs B => ?_)
        have hb_4 : ∀ j_, (sp_plays (M 2) (M 4) (M 5) (n_)) j_ < 65536 := (plays_all hs ha (by omega)).1
        have hq_ := (@plays_all (M 2) (M 4) (M 5) (n_) hs ha (by omega)).2
        refine r_aln F hl 0 rfl dX4_knows_34 rfl ?_
        refine gf_X4_22 F B.1 0 rfl (.ref (q 6)) rfl dX4_knows_35 ?_
        refine r_ic F 1 dX4_knows_38 rfl ?_
        refine r_ic F 2 dX4_knows_39 rfl ?_
        refine r_iln F hl 2 rfl dX4_knows_40 rfl ?_
        refine r_mul F dX4_knows_41 ?_
        refine r_add F dX4_knows_42 ?_
        refine r_iln F hl 3 rfl dX4_knows_43 rfl ?_
        refine r_add F dX4_knows_44 ?_
        refine r_ald (f := sp_plays (M 2) (M 4) (M 5) (n_)) F B.1 5 rfl dX4_knows_45 (by decide) (by omega) ?_
        have b_5 : (sp_plays (M 2) (M 4) (M 5) (n_)) (((1 + (2 * i_)) + d_)) < 65536 := hb_4 (((1 + (2 * i_)) + d_))
        exact r_retU F hr hlk hH B dX4_knows_46 (by first | rfl | (simp only [g_knows, g_knowsA, vKnows, c_1, c_2, c_3, if_true, if_false, Bool.and_true, Bool.true_and, Bool.and_false, Bool.false_and, Bool.and_self, Bool.false_eq_true, ↓reduceIte, decide_true, decide_false, Int.toNat_natCast, Bool.toNat_true, Bool.toNat_false]; first | done | rfl | (simp only [if_true, if_true, if_false, Bool.and_true, Bool.true_and, Bool.and_false, Bool.false_and, Bool.and_self, Bool.false_eq_true, ↓reduceIte, decide_true, decide_false, Int.toNat_natCast, Bool.toNat_true, Bool.toNat_false]; first | done | rfl) | (simp only [if_true]; first | done | rfl) | (simp [if_true]; done) | (simp [if_true]; first | rfl | omega)) | (simp [g_knows, g_knowsA, vKnows, c_1, c_2, c_3]; done) | (simp [g_knows, g_knowsA, vKnows, c_1, c_2, c_3]; omega) | (simp only [g_knows, g_knowsA, vKnows, c_1, c_2, c_3, if_true, if_false, Bool.and_true, Bool.true_and, Bool.and_false, Bool.false_and, Bool.and_self, Bool.false_eq_true, ↓reduceIte, decide_true, decide_false, Int.toNat_natCast, Bool.toNat_true, Bool.toNat_false]; try simp only [if_true, if_true, if_false, Bool.and_true, Bool.true_and, Bool.and_false, Bool.false_and, Bool.and_self, Bool.false_eq_true, ↓reduceIte, decide_true, decide_false, Int.toNat_natCast, Bool.toNat_true, Bool.toNat_false]; rfl)) (by first | rfl | (simp only [g_knows, g_knowsA, vKnows, c_1, c_2, c_3, if_true, if_false, Bool.and_true, Bool.true_and, Bool.and_false, Bool.false_and, Bool.and_self, Bool.false_eq_true, ↓reduceIte, decide_true, decide_false, Int.toNat_natCast, Bool.toNat_true, Bool.toNat_false]; first | done | rfl | (simp only [if_true, if_true, if_false, Bool.and_true, Bool.true_and, Bool.and_false, Bool.false_and, Bool.and_self, Bool.false_eq_true, ↓reduceIte, decide_true, decide_false, Int.toNat_natCast, Bool.toNat_true, Bool.toNat_false]; first | done | rfl) | (simp only [if_true]; first | done | rfl) | (simp [if_true]; done) | (simp [if_true]; first | rfl | omega)) | (simp [g_knows, g_knowsA, vKnows, c_1, c_2, c_3]; done) | (simp [g_knows, g_knowsA, vKnows, c_1, c_2, c_3]; omega) | (simp only [g_knows, g_knowsA, vKnows, c_1, c_2, c_3, if_true, if_false, Bool.and_true, Bool.true_and, Bool.and_false, Bool.false_and, Bool.and_self, Bool.false_eq_true, ↓reduceIte, decide_true, decide_false, Int.toNat_natCast, Bool.toNat_true, Bool.toNat_false]; try simp only [if_true, if_true, if_false, Bool.and_true, Bool.true_and, Bool.and_false, Bool.false_and, Bool.and_self, Bool.false_eq_true, ↓reduceIte, decide_true, decide_false, Int.toNat_natCast, Bool.toNat_true, Bool.toNat_false]; rfl))
      · have c_3d := c_3
        simp only [isIn, isP, decide_eq_true_eq, decide_eq_false_iff_not] at c_3d
        refine r_icz F (-1) dX4_knows_27 rfl ?_
        exact r_retU F hr hlk hH B dX4_knows_28 (by first | rfl | (simp only [g_knows, g_knowsA, vKnows, c_1, c_2, c_3, if_true, if_false, Bool.and_true, Bool.true_and, Bool.and_false, Bool.false_and, Bool.and_self, Bool.false_eq_true, ↓reduceIte, decide_true, decide_false, Int.toNat_natCast, Bool.toNat_true, Bool.toNat_false]; first | done | rfl | (simp only [if_true, if_true, if_false, Bool.and_true, Bool.true_and, Bool.and_false, Bool.false_and, Bool.and_self, Bool.false_eq_true, ↓reduceIte, decide_true, decide_false, Int.toNat_natCast, Bool.toNat_true, Bool.toNat_false]; first | done | rfl) | (simp only [if_true]; first | done | rfl) | (simp [if_true]; done) | (simp [if_true]; first | rfl | omega)) | (simp [g_knows, g_knowsA, vKnows, c_1, c_2, c_3]; done) | (simp [g_knows, g_knowsA, vKnows, c_1, c_2, c_3]; omega) | (simp only [g_knows, g_knowsA, vKnows, c_1, c_2, c_3, if_true, if_false, Bool.and_true, Bool.true_and, Bool.and_false, Bool.false_and, Bool.and_self, Bool.false_eq_true, ↓reduceIte, decide_true, decide_false, Int.toNat_natCast, Bool.toNat_true, Bool.toNat_false]; try simp only [if_true, if_true, if_false, Bool.and_true, Bool.true_and, Bool.and_false, Bool.false_and, Bool.and_self, Bool.false_eq_true, ↓reduceIte, decide_true, decide_false, Int.toNat_natCast, Bool.toNat_true, Bool.toNat_false]; rfl)) (by first | rfl | (simp only [g_knows, g_knowsA, vKnows, c_1, c_2, c_3, if_true, if_false, Bool.and_true, Bool.true_and, Bool.and_false, Bool.false_and, Bool.and_self, Bool.false_eq_true, ↓reduceIte, decide_true, decide_false, Int.toNat_natCast, Bool.toNat_true, Bool.toNat_false]; first | done | rfl | (simp only [if_true, if_true, if_false, Bool.and_true, Bool.true_and, Bool.and_false, Bool.false_and, Bool.and_self, Bool.false_eq_true, ↓reduceIte, decide_true, decide_false, Int.toNat_natCast, Bool.toNat_true, Bool.toNat_false]; first | done | rfl) | (simp only [if_true]; first | done | rfl) | (simp [if_true]; done) | (simp [if_true]; first | rfl | omega)) | (simp [g_knows, g_knowsA, vKnows, c_1, c_2, c_3]; done) | (simp [g_knows, g_knowsA, vKnows, c_1, c_2, c_3]; omega) | (simp only [g_knows, g_knowsA, vKnows, c_1, c_2, c_3, if_true, if_false, Bool.and_true, Bool.true_and, Bool.and_false, Bool.false_and, Bool.and_self, Bool.false_eq_true, ↓reduceIte, decide_true, decide_false, Int.toNat_natCast, Bool.toNat_true, Bool.toNat_false]; try simp only [if_true, if_true, if_false, Bool.and_true, Bool.true_and, Bool.and_false, Bool.false_and, Bool.and_self, Bool.false_eq_true, ↓reduceIte, decide_true, decide_false, Int.toNat_natCast, Bool.toNat_true, Bool.toNat_false]; rfl))
abbrev rm_X4_could : Room := { frames := 3, cells := 0, slots := 0, locals := 70 }
set_option maxHeartbeats 4000000 in
set_option maxRecDepth 100000 in
theorem k_X4_could (l : Launch) (D : va_G) (cI cB : ClassId) (q : Nat → Nat) (M : St) (n x : Int) (hn : (-2147483648 ≤ n ∧ n < 2147483648)) (hx : (-2147483648 ≤ x ∧ x < 2147483648)) (hp : 1 ≤ M 2 0 ∧ M 2 0 ≤ 5) (hbk : ∀ k, M 2 k < 256) (hs : ∀ k, M 4 k < 65536) (hs0 : M 4 0 ≤ 9999) (ha : ∀ k, M 5 k < 65536) : CtU l yX4_could cX4_could 3 (some .int) rm_X4_could D cI cB [.ref (q 0), .int (iI (n)), .int (iI (x))] (wM q cI M) (wM q cI (stR M 5 (g_couldA (M 2) (M 4) (M 5) n x))) ((iI (g_could (M 2) (M 4) (M 5) n x))) := by
  refine CtU.of RX4 (by decide) rfl (Nat.le_of_ble_eq_true rfl) ?_
  intro p e s m args below meth c H0 ls A hH hA F hr hlk B hl
  have hl : lv_has ls 3 [(0, .ref (q 0)), (1, .int (iI (n))), (2, .int (iI (x)))] := hl
  refine r_iln F hl 1 rfl dX4_could_0 rfl ?_
  refine r_ic F 0 dX4_could_1 rfl ?_
  refine r_bp F 40 dX4_could_2 rfl ?_
  refine r_sq F B.1 (k_X4_in l D cI cB (n) ((0 : Int)) ((40 : Int)) (by omega) (by omega) (by omega)) gw_X4_40 [] rfl ⟨⟨rfl, rfl⟩, Nat.le_of_ble_eq_true rfl, Nat.le_of_ble_eq_true rfl⟩ ⟨Nat.le_of_ble_eq_true rfl, Nat.le_of_ble_eq_true rfl⟩ hl.1 rfl [] rfl (Nat.le_of_ble_eq_true rfl) dX4_could_4 ?_
  refine r_zeqb 17 F dX4_could_7 (by decide) (fun c_1 => ?_) (fun c_1 => ?_)
  · have c_1d := c_1
    simp only [isIn, isP, decide_eq_true_eq, decide_eq_false_iff_not] at c_1d
    refine r_icz F (-1) dX4_could_17 rfl ?_
    exact r_retU F hr hlk hH B dX4_could_18 (by first | rfl | (simp only [g_could, g_couldA, vCould, c_1, if_true, if_false, Bool.and_true, Bool.true_and, Bool.and_false, Bool.false_and, Bool.and_self, Bool.false_eq_true, ↓reduceIte, decide_true, decide_false, Int.toNat_natCast, Bool.toNat_true, Bool.toNat_false]; first | done | rfl | (simp only [if_true, if_true, if_false, Bool.and_true, Bool.true_and, Bool.and_false, Bool.false_and, Bool.and_self, Bool.false_eq_true, ↓reduceIte, decide_true, decide_false, Int.toNat_natCast, Bool.toNat_true, Bool.toNat_false]; first | done | rfl) | (simp only [if_true]; first | done | rfl) | (simp [if_true]; done) | (simp [if_true]; first | rfl | omega)) | (simp [g_could, g_couldA, vCould, c_1]; done) | (simp [g_could, g_couldA, vCould, c_1]; omega) | (simp only [g_could, g_couldA, vCould, c_1, if_true, if_false, Bool.and_true, Bool.true_and, Bool.and_false, Bool.false_and, Bool.and_self, Bool.false_eq_true, ↓reduceIte, decide_true, decide_false, Int.toNat_natCast, Bool.toNat_true, Bool.toNat_false]; try simp only [if_true, if_true, if_false, Bool.and_true, Bool.true_and, Bool.and_false, Bool.false_and, Bool.and_self, Bool.false_eq_true, ↓reduceIte, decide_true, decide_false, Int.toNat_natCast, Bool.toNat_true, Bool.toNat_false]; rfl)) (by first | rfl | (simp only [g_could, g_couldA, vCould, c_1, if_true, if_false, Bool.and_true, Bool.true_and, Bool.and_false, Bool.false_and, Bool.and_self, Bool.false_eq_true, ↓reduceIte, decide_true, decide_false, Int.toNat_natCast, Bool.toNat_true, Bool.toNat_false]; first | done | rfl | (simp only [if_true, if_true, if_false, Bool.and_true, Bool.true_and, Bool.and_false, Bool.false_and, Bool.and_self, Bool.false_eq_true, ↓reduceIte, decide_true, decide_false, Int.toNat_natCast, Bool.toNat_true, Bool.toNat_false]; first | done | rfl) | (simp only [if_true]; first | done | rfl) | (simp [if_true]; done) | (simp [if_true]; first | rfl | omega)) | (simp [g_could, g_couldA, vCould, c_1]; done) | (simp [g_could, g_couldA, vCould, c_1]; omega) | (simp only [g_could, g_couldA, vCould, c_1, if_true, if_false, Bool.and_true, Bool.true_and, Bool.and_false, Bool.false_and, Bool.and_self, Bool.false_eq_true, ↓reduceIte, decide_true, decide_false, Int.toNat_natCast, Bool.toNat_true, Bool.toNat_false]; try simp only [if_true, if_true, if_false, Bool.and_true, Bool.true_and, Bool.and_false, Bool.false_and, Bool.and_self, Bool.false_eq_true, ↓reduceIte, decide_true, decide_false, Int.toNat_natCast, Bool.toNat_true, Bool.toNat_false]; rfl))
  · have c_1d := c_1
    simp only [isIn, isP, decide_eq_true_eq, decide_eq_false_iff_not] at c_1d
    refine r_iln F hl 2 rfl dX4_could_10 rfl ?_
    refine r_sq F B.1 (k_X4_isSet l D cI cB (x) (by omega)) gw_X4_105 [] rfl ⟨⟨rfl, rfl⟩, Nat.le_of_ble_eq_true rfl, Nat.le_of_ble_eq_true rfl⟩ ⟨Nat.le_of_ble_eq_true rfl, Nat.le_of_ble_eq_true rfl⟩ hl.1 rfl [] rfl (Nat.le_of_ble_eq_true rfl) dX4_could_11 ?_
    refine r_zneb 19 F dX4_could_14 (by decide) (fun c_2 => ?_) (fun c_2 => ?_)
    · have c_2d := c_2
      simp only [isIn, isP, decide_eq_true_eq, decide_eq_false_iff_not] at c_2d
      obtain ⟨n_, rfl⟩ : ∃ k : Nat, n = (k : Int) := ⟨n.toNat, by omega⟩
      have hl : lv_has ls 3 [(0, .ref (q 0)), (1, .int (iI ((n_ : Nat) : Int))), (2, .int (iI (x)))] := hl
      obtain ⟨x_, rfl⟩ : ∃ k : Nat, x = (k : Int) := ⟨x.toNat, by omega⟩
      have hl : lv_has ls 3 [(0, .ref (q 0)), (1, .int (iI ((n_ : Nat) : Int))), (2, .int (iI ((x_ : Nat) : Int)))] := hl
      refine r_aln F hl 0 rfl dX4_could_19 rfl ?_
      refine r_iln F hl 1 rfl dX4_could_20 rfl ?_
      refine r_cvW F hA B (k_X4_plays l D cI cB (q) (M) (n_) (by omega) hp hbk hs hs0 ha) gw_X4_115 rfl rfl ⟨⟨rfl, rfl⟩, Nat.le_of_ble_eq_true rfl, Nat.le_of_ble_eq_true rfl⟩ ⟨Nat.le_of_ble_eq_true rfl, Nat.le_of_ble_eq_true rfl⟩ hl.1 rfl [] rfl (Nat.le_of_ble_eq_true rfl) dX4_could_21 (fun H locs B => ?_)
      have hb_3 : ∀ j_, (sp_plays (M 2) (M 4) (M 5) (n_)) j_ < 65536 := (plays_all hs ha (by omega)).1
      have hq_ := (@plays_all (M 2) (M 4) (M 5) (n_) hs ha (by omega)).2
      refine r_aln F hl 0 rfl dX4_could_24 rfl ?_
      refine r_iln F hl 2 rfl dX4_could_25 rfl ?_
      refine r_cq F B.1 (k_X4_whoKnow l D cI cB (q) ((stR M 5 (sp_plays (M 2) (M 4) (M 5) (n_)))) (x_) (by omega) hp hbk hb_3) gw_X4_129 [0, 1, 2, 3, 4, 5, 6, 7, 8, 9, 10] rfl rfl rfl ⟨⟨rfl, rfl⟩, Nat.le_of_ble_eq_true rfl, Nat.le_of_ble_eq_true rfl⟩ ⟨Nat.le_of_ble_eq_true rfl, Nat.le_of_ble_eq_true rfl⟩ hl.1 rfl [] rfl (Nat.le_of_ble_eq_true rfl) dX4_could_26 ?_
      have hq_ := @who_lt ((M 2) 0) (x_) (sp_plays (M 2) (M 4) (M 5) (n_)) (by omega)
      exact r_retU F hr hlk hH B dX4_could_29 (by first | rfl | (simp only [g_could, g_couldA, vCould, c_1, c_2, if_true, if_false, Bool.and_true, Bool.true_and, Bool.and_false, Bool.false_and, Bool.and_self, Bool.false_eq_true, ↓reduceIte, decide_true, decide_false, Int.toNat_natCast, Bool.toNat_true, Bool.toNat_false]; first | done | rfl | (simp only [if_true, if_true, if_false, Bool.and_true, Bool.true_and, Bool.and_false, Bool.false_and, Bool.and_self, Bool.false_eq_true, ↓reduceIte, decide_true, decide_false, Int.toNat_natCast, Bool.toNat_true, Bool.toNat_false]; first | done | rfl) | (simp only [if_true]; first | done | rfl) | (simp [if_true]; done) | (simp [if_true]; first | rfl | omega)) | (simp [g_could, g_couldA, vCould, c_1, c_2]; done) | (simp [g_could, g_couldA, vCould, c_1, c_2]; omega) | (simp only [g_could, g_couldA, vCould, c_1, c_2, if_true, if_false, Bool.and_true, Bool.true_and, Bool.and_false, Bool.false_and, Bool.and_self, Bool.false_eq_true, ↓reduceIte, decide_true, decide_false, Int.toNat_natCast, Bool.toNat_true, Bool.toNat_false]; try simp only [if_true, if_true, if_false, Bool.and_true, Bool.true_and, Bool.and_false, Bool.false_and, Bool.and_self, Bool.false_eq_true, ↓reduceIte, decide_true, decide_false, Int.toNat_natCast, Bool.toNat_true, Bool.toNat_false]; rfl)) (by first | rfl | (simp only [g_could, g_couldA, vCould, c_1, c_2, if_true, if_false, Bool.and_true, Bool.true_and, Bool.and_false, Bool.false_and, Bool.and_self, Bool.false_eq_true, ↓reduceIte, decide_true, decide_false, Int.toNat_natCast, Bool.toNat_true, Bool.toNat_false]; first | done | rfl | (simp only [if_true, if_true, if_false, Bool.and_true, Bool.true_and, Bool.and_false, Bool.false_and, Bool.and_self, Bool.false_eq_true, ↓reduceIte, decide_true, decide_false, Int.toNat_natCast, Bool.toNat_true, Bool.toNat_false]; first | done | rfl) | (simp only [if_true]; first | done | rfl) | (simp [if_true]; done) | (simp [if_true]; first | rfl | omega)) | (simp [g_could, g_couldA, vCould, c_1, c_2]; done) | (simp [g_could, g_couldA, vCould, c_1, c_2]; omega) | (simp only [g_could, g_couldA, vCould, c_1, c_2, if_true, if_false, Bool.and_true, Bool.true_and, Bool.and_false, Bool.false_and, Bool.and_self, Bool.false_eq_true, ↓reduceIte, decide_true, decide_false, Int.toNat_natCast, Bool.toNat_true, Bool.toNat_false]; try simp only [if_true, if_true, if_false, Bool.and_true, Bool.true_and, Bool.and_false, Bool.false_and, Bool.and_self, Bool.false_eq_true, ↓reduceIte, decide_true, decide_false, Int.toNat_natCast, Bool.toNat_true, Bool.toNat_false]; rfl))
    · have c_2d := c_2
      simp only [isIn, isP, decide_eq_true_eq, decide_eq_false_iff_not] at c_2d
      refine r_icz F (-1) dX4_could_17 rfl ?_
      exact r_retU F hr hlk hH B dX4_could_18 (by first | rfl | (simp only [g_could, g_couldA, vCould, c_1, c_2, if_true, if_false, Bool.and_true, Bool.true_and, Bool.and_false, Bool.false_and, Bool.and_self, Bool.false_eq_true, ↓reduceIte, decide_true, decide_false, Int.toNat_natCast, Bool.toNat_true, Bool.toNat_false]; first | done | rfl | (simp only [if_true, if_true, if_false, Bool.and_true, Bool.true_and, Bool.and_false, Bool.false_and, Bool.and_self, Bool.false_eq_true, ↓reduceIte, decide_true, decide_false, Int.toNat_natCast, Bool.toNat_true, Bool.toNat_false]; first | done | rfl) | (simp only [if_true]; first | done | rfl) | (simp [if_true]; done) | (simp [if_true]; first | rfl | omega)) | (simp [g_could, g_couldA, vCould, c_1, c_2]; done) | (simp [g_could, g_couldA, vCould, c_1, c_2]; omega) | (simp only [g_could, g_couldA, vCould, c_1, c_2, if_true, if_false, Bool.and_true, Bool.true_and, Bool.and_false, Bool.false_and, Bool.and_self, Bool.false_eq_true, ↓reduceIte, decide_true, decide_false, Int.toNat_natCast, Bool.toNat_true, Bool.toNat_false]; try simp only [if_true, if_true, if_false, Bool.and_true, Bool.true_and, Bool.and_false, Bool.false_and, Bool.and_self, Bool.false_eq_true, ↓reduceIte, decide_true, decide_false, Int.toNat_natCast, Bool.toNat_true, Bool.toNat_false]; rfl)) (by first | rfl | (simp only [g_could, g_couldA, vCould, c_1, c_2, if_true, if_false, Bool.and_true, Bool.true_and, Bool.and_false, Bool.false_and, Bool.and_self, Bool.false_eq_true, ↓reduceIte, decide_true, decide_false, Int.toNat_natCast, Bool.toNat_true, Bool.toNat_false]; first | done | rfl | (simp only [if_true, if_true, if_false, Bool.and_true, Bool.true_and, Bool.and_false, Bool.false_and, Bool.and_self, Bool.false_eq_true, ↓reduceIte, decide_true, decide_false, Int.toNat_natCast, Bool.toNat_true, Bool.toNat_false]; first | done | rfl) | (simp only [if_true]; first | done | rfl) | (simp [if_true]; done) | (simp [if_true]; first | rfl | omega)) | (simp [g_could, g_couldA, vCould, c_1, c_2]; done) | (simp [g_could, g_couldA, vCould, c_1, c_2]; omega) | (simp only [g_could, g_couldA, vCould, c_1, c_2, if_true, if_false, Bool.and_true, Bool.true_and, Bool.and_false, Bool.false_and, Bool.and_self, Bool.false_eq_true, ↓reduceIte, decide_true, decide_false, Int.toNat_natCast, Bool.toNat_true, Bool.toNat_false]; try simp only [if_true, if_true, if_false, Bool.and_true, Bool.true_and, Bool.and_false, Bool.false_and, Bool.and_self, Bool.false_eq_true, ↓reduceIte, decide_true, decide_false, Int.toNat_natCast, Bool.toNat_true, Bool.toNat_false]; rfl))
abbrev rm_X4_purse : Room := { frames := 1, cells := 0, slots := 0, locals := 24 }
set_option maxHeartbeats 4000000 in
set_option maxRecDepth 100000 in
theorem k_X4_purse (l : Launch) (D : va_G) (cI cB : ClassId) (q : Nat → Nat) (M : St) (x y d : Int) (hx : (-2147483648 ≤ x ∧ x < 2147483648)) (hy : (-2147483648 ≤ y ∧ y < 2147483648)) (hd : (-2147483648 ≤ d ∧ d < 2147483648)) (hbk : ∀ k, M 2 k < 256) : CtQ l yX4_purse cX4_purse 4 (some .int) rm_X4_purse D cI cB [.ref (q 0), .int (iI (x)), .int (iI (y)), .int (iI (d))] (wM q cI M) ((iI (g_purse (M 2) x y d))) := by
  refine CtQ.of RX4 (by decide) rfl (Nat.le_of_ble_eq_true rfl) ?_
  intro p e s m args below meth c H ls hH F hr hlk P hl
  have hl : lv_has ls 4 [(0, .ref (q 0)), (1, .int (iI (x))), (2, .int (iI (y))), (3, .int (iI (d)))] := hl
  refine r_iln F hl 1 rfl dX4_purse_0 rfl ?_
  refine r_ic F 0 dX4_purse_1 rfl ?_
  refine r_bp F 9 dX4_purse_2 rfl ?_
  refine r_sq F P (k_X4_in l D cI cB (x) ((0 : Int)) ((9 : Int)) (by omega) (by omega) (by omega)) gw_X4_40 [] rfl ⟨⟨rfl, rfl⟩, Nat.le_of_ble_eq_true rfl, Nat.le_of_ble_eq_true rfl⟩ ⟨Nat.le_of_ble_eq_true rfl, Nat.le_of_ble_eq_true rfl⟩ hl.1 rfl [] rfl (Nat.le_of_ble_eq_true rfl) dX4_purse_4 ?_
  refine r_zeqb 39 F dX4_purse_7 (by decide) (fun c_1 => ?_) (fun c_1 => ?_)
  · have c_1d := c_1
    simp only [isIn, isP, decide_eq_true_eq, decide_eq_false_iff_not] at c_1d
    refine r_icz F (-1) dX4_purse_39 rfl ?_
    exact r_retQ F hr hlk hH dX4_purse_40 (by first | rfl | (simp only [g_purse, vPurse, c_1, if_true, if_false, Bool.and_true, Bool.true_and, Bool.and_false, Bool.false_and, Bool.and_self, Bool.false_eq_true, ↓reduceIte, decide_true, decide_false, Int.toNat_natCast, Bool.toNat_true, Bool.toNat_false]; first | done | rfl | (simp only [if_true, if_true, if_false, Bool.and_true, Bool.true_and, Bool.and_false, Bool.false_and, Bool.and_self, Bool.false_eq_true, ↓reduceIte, decide_true, decide_false, Int.toNat_natCast, Bool.toNat_true, Bool.toNat_false]; first | done | rfl) | (simp only [if_true]; first | done | rfl) | (simp [if_true]; done) | (simp [if_true]; first | rfl | omega)) | (simp [g_purse, vPurse, c_1]; done) | (simp [g_purse, vPurse, c_1]; omega) | (simp only [g_purse, vPurse, c_1, if_true, if_false, Bool.and_true, Bool.true_and, Bool.and_false, Bool.false_and, Bool.and_self, Bool.false_eq_true, ↓reduceIte, decide_true, decide_false, Int.toNat_natCast, Bool.toNat_true, Bool.toNat_false]; try simp only [if_true, if_true, if_false, Bool.and_true, Bool.true_and, Bool.and_false, Bool.false_and, Bool.and_self, Bool.false_eq_true, ↓reduceIte, decide_true, decide_false, Int.toNat_natCast, Bool.toNat_true, Bool.toNat_false]; rfl))
  · have c_1d := c_1
    simp only [isIn, isP, decide_eq_true_eq, decide_eq_false_iff_not] at c_1d
    refine r_iln F hl 2 rfl dX4_purse_10 rfl ?_
    refine r_ic F 0 dX4_purse_11 rfl ?_
    refine r_bp F 9 dX4_purse_12 rfl ?_
    refine r_sq F P (k_X4_in l D cI cB (y) ((0 : Int)) ((9 : Int)) (by omega) (by omega) (by omega)) gw_X4_40 [] rfl ⟨⟨rfl, rfl⟩, Nat.le_of_ble_eq_true rfl, Nat.le_of_ble_eq_true rfl⟩ ⟨Nat.le_of_ble_eq_true rfl, Nat.le_of_ble_eq_true rfl⟩ hl.1 rfl [] rfl (Nat.le_of_ble_eq_true rfl) dX4_purse_14 ?_
    refine r_zeqb 39 F dX4_purse_17 (by decide) (fun c_2 => ?_) (fun c_2 => ?_)
    · have c_2d := c_2
      simp only [isIn, isP, decide_eq_true_eq, decide_eq_false_iff_not] at c_2d
      refine r_icz F (-1) dX4_purse_39 rfl ?_
      exact r_retQ F hr hlk hH dX4_purse_40 (by first | rfl | (simp only [g_purse, vPurse, c_1, c_2, if_true, if_false, Bool.and_true, Bool.true_and, Bool.and_false, Bool.false_and, Bool.and_self, Bool.false_eq_true, ↓reduceIte, decide_true, decide_false, Int.toNat_natCast, Bool.toNat_true, Bool.toNat_false]; first | done | rfl | (simp only [if_true, if_true, if_false, Bool.and_true, Bool.true_and, Bool.and_false, Bool.false_and, Bool.and_self, Bool.false_eq_true, ↓reduceIte, decide_true, decide_false, Int.toNat_natCast, Bool.toNat_true, Bool.toNat_false]; first | done | rfl) | (simp only [if_true]; first | done | rfl) | (simp [if_true]; done) | (simp [if_true]; first | rfl | omega)) | (simp [g_purse, vPurse, c_1, c_2]; done) | (simp [g_purse, vPurse, c_1, c_2]; omega) | (simp only [g_purse, vPurse, c_1, c_2, if_true, if_false, Bool.and_true, Bool.true_and, Bool.and_false, Bool.false_and, Bool.and_self, Bool.false_eq_true, ↓reduceIte, decide_true, decide_false, Int.toNat_natCast, Bool.toNat_true, Bool.toNat_false]; try simp only [if_true, if_true, if_false, Bool.and_true, Bool.true_and, Bool.and_false, Bool.false_and, Bool.and_self, Bool.false_eq_true, ↓reduceIte, decide_true, decide_false, Int.toNat_natCast, Bool.toNat_true, Bool.toNat_false]; rfl))
    · have c_2d := c_2
      simp only [isIn, isP, decide_eq_true_eq, decide_eq_false_iff_not] at c_2d
      refine r_iln F hl 3 rfl dX4_purse_20 rfl ?_
      refine r_ic F 0 dX4_purse_21 rfl ?_
      refine r_ic F 1 dX4_purse_22 rfl ?_
      refine r_sq F P (k_X4_in l D cI cB (d) ((0 : Int)) ((1 : Int)) (by omega) (by omega) (by omega)) gw_X4_40 [] rfl ⟨⟨rfl, rfl⟩, Nat.le_of_ble_eq_true rfl, Nat.le_of_ble_eq_true rfl⟩ ⟨Nat.le_of_ble_eq_true rfl, Nat.le_of_ble_eq_true rfl⟩ hl.1 rfl [] rfl (Nat.le_of_ble_eq_true rfl) dX4_purse_23 ?_
      refine r_zeqb 39 F dX4_purse_26 (by decide) (fun c_3 => ?_) (fun c_3 => ?_)
      · have c_3d := c_3
        simp only [isIn, isP, decide_eq_true_eq, decide_eq_false_iff_not] at c_3d
        refine r_icz F (-1) dX4_purse_39 rfl ?_
        exact r_retQ F hr hlk hH dX4_purse_40 (by first | rfl | (simp only [g_purse, vPurse, c_1, c_2, c_3, if_true, if_false, Bool.and_true, Bool.true_and, Bool.and_false, Bool.false_and, Bool.and_self, Bool.false_eq_true, ↓reduceIte, decide_true, decide_false, Int.toNat_natCast, Bool.toNat_true, Bool.toNat_false]; first | done | rfl | (simp only [if_true, if_true, if_false, Bool.and_true, Bool.true_and, Bool.and_false, Bool.false_and, Bool.and_self, Bool.false_eq_true, ↓reduceIte, decide_true, decide_false, Int.toNat_natCast, Bool.toNat_true, Bool.toNat_false]; first | done | rfl) | (simp only [if_true]; first | done | rfl) | (simp [if_true]; done) | (simp [if_true]; first | rfl | omega)) | (simp [g_purse, vPurse, c_1, c_2, c_3]; done) | (simp [g_purse, vPurse, c_1, c_2, c_3]; omega) | (simp only [g_purse, vPurse, c_1, c_2, c_3, if_true, if_false, Bool.and_true, Bool.true_and, Bool.and_false, Bool.false_and, Bool.and_self, Bool.false_eq_true, ↓reduceIte, decide_true, decide_false, Int.toNat_natCast, Bool.toNat_true, Bool.toNat_false]; try simp only [if_true, if_true, if_false, Bool.and_true, Bool.true_and, Bool.and_false, Bool.false_and, Bool.and_self, Bool.false_eq_true, ↓reduceIte, decide_true, decide_false, Int.toNat_natCast, Bool.toNat_true, Bool.toNat_false]; rfl))
      · have c_3d := c_3
        simp only [isIn, isP, decide_eq_true_eq, decide_eq_false_iff_not] at c_3d
        obtain ⟨x_, rfl⟩ : ∃ k : Nat, x = (k : Int) := ⟨x.toNat, by omega⟩
        have hl : lv_has ls 4 [(0, .ref (q 0)), (1, .int (iI ((x_ : Nat) : Int))), (2, .int (iI (y))), (3, .int (iI (d)))] := hl
        obtain ⟨y_, rfl⟩ : ∃ k : Nat, y = (k : Int) := ⟨y.toNat, by omega⟩
        have hl : lv_has ls 4 [(0, .ref (q 0)), (1, .int (iI ((x_ : Nat) : Int))), (2, .int (iI ((y_ : Nat) : Int))), (3, .int (iI (d)))] := hl
        obtain ⟨d_, rfl⟩ : ∃ k : Nat, d = (k : Int) := ⟨d.toNat, by omega⟩
        have hl : lv_has ls 4 [(0, .ref (q 0)), (1, .int (iI ((x_ : Nat) : Int))), (2, .int (iI ((y_ : Nat) : Int))), (3, .int (iI ((d_ : Nat) : Int)))] := hl
        refine r_aln F hl 0 rfl dX4_purse_29 rfl ?_
        refine r_iln F hl 1 rfl dX4_purse_30 rfl ?_
        refine r_iln F hl 2 rfl dX4_purse_31 rfl ?_
        refine r_iln F hl 3 rfl dX4_purse_32 rfl ?_
        refine r_cq F P (k_X4_holds l D cI cB (q) (M) (x_) (y_) (d_) (by omega) hbk) gw_X4_132 [0, 1, 2, 3, 4, 5, 6, 7, 8, 9, 10] rfl rfl rfl ⟨⟨rfl, rfl⟩, Nat.le_of_ble_eq_true rfl, Nat.le_of_ble_eq_true rfl⟩ ⟨Nat.le_of_ble_eq_true rfl, Nat.le_of_ble_eq_true rfl⟩ hl.1 rfl [] rfl (Nat.le_of_ble_eq_true rfl) dX4_purse_33 ?_
        have hq_ := @holds_le ((M 2) 5) ((M 2) 6) ((M 2) 7) (x_) (y_) (d_) (hbk 5) (hbk 6) (hbk 7) (by omega) (by omega)
        refine r_goto 40 F dX4_purse_36 (by decide) ?_
        exact r_retQ F hr hlk hH dX4_purse_40 (by first | rfl | (simp only [g_purse, vPurse, c_1, c_2, c_3, if_true, if_false, Bool.and_true, Bool.true_and, Bool.and_false, Bool.false_and, Bool.and_self, Bool.false_eq_true, ↓reduceIte, decide_true, decide_false, Int.toNat_natCast, Bool.toNat_true, Bool.toNat_false]; first | done | rfl | (simp only [if_true, if_true, if_false, Bool.and_true, Bool.true_and, Bool.and_false, Bool.false_and, Bool.and_self, Bool.false_eq_true, ↓reduceIte, decide_true, decide_false, Int.toNat_natCast, Bool.toNat_true, Bool.toNat_false]; first | done | rfl) | (simp only [if_true]; first | done | rfl) | (simp [if_true]; done) | (simp [if_true]; first | rfl | omega)) | (simp [g_purse, vPurse, c_1, c_2, c_3]; done) | (simp [g_purse, vPurse, c_1, c_2, c_3]; omega) | (simp only [g_purse, vPurse, c_1, c_2, c_3, if_true, if_false, Bool.and_true, Bool.true_and, Bool.and_false, Bool.false_and, Bool.and_self, Bool.false_eq_true, ↓reduceIte, decide_true, decide_false, Int.toNat_natCast, Bool.toNat_true, Bool.toNat_false]; try simp only [if_true, if_true, if_false, Bool.and_true, Bool.true_and, Bool.and_false, Bool.false_and, Bool.and_self, Bool.false_eq_true, ↓reduceIte, decide_true, decide_false, Int.toNat_natCast, Bool.toNat_true, Bool.toNat_false]; rfl))
abbrev rm_X4_camps : Room := { frames := 2, cells := 0, slots := 0, locals := 44 }
set_option maxHeartbeats 4000000 in
set_option maxRecDepth 100000 in
theorem k_X4_camps (l : Launch) (D : va_G) (cI cB : ClassId) (q : Nat → Nat) (M : St) (w : Int) (hw : (-2147483648 ≤ w ∧ w < 2147483648)) (hp : 1 ≤ M 2 0 ∧ M 2 0 ≤ 5) (hbk : ∀ k, M 2 k < 256) (hpr : M 2 2 ≤ 8 ∧ ∀ k, 64 ≤ k → k < 80 → M 2 k < 16) : CtQ l yX4_camps cX4_camps 4 (some .int) rm_X4_camps D cI cB [.ref (q 0), .int (iI (w))] (wM q cI M) ((iI (g_camps (M 2) w))) := by
  refine CtQ.of RX4 (by decide) rfl (Nat.le_of_ble_eq_true rfl) ?_
  intro p e s m args below meth c H ls hH F hr hlk P hl
  have hl : lv_has ls 4 [(0, .ref (q 0)), (1, .int (iI (w)))] := hl
  refine r_iln F hl 1 rfl dX4_camps_0 rfl ?_
  refine r_ic F 0 dX4_camps_1 rfl ?_
  refine r_ic F 1 dX4_camps_2 rfl ?_
  refine r_sq F P (k_X4_in l D cI cB (w) ((0 : Int)) ((1 : Int)) (by omega) (by omega) (by omega)) gw_X4_40 [] rfl ⟨⟨rfl, rfl⟩, Nat.le_of_ble_eq_true rfl, Nat.le_of_ble_eq_true rfl⟩ ⟨Nat.le_of_ble_eq_true rfl, Nat.le_of_ble_eq_true rfl⟩ hl.1 rfl [] rfl (Nat.le_of_ble_eq_true rfl) dX4_camps_3 ?_
  refine r_zneb 11 F dX4_camps_6 (by decide) (fun c_1 => ?_) (fun c_1 => ?_)
  · have c_1d := c_1
    simp only [isIn, isP, decide_eq_true_eq, decide_eq_false_iff_not] at c_1d
    obtain ⟨w_, rfl⟩ : ∃ k : Nat, w = (k : Int) := ⟨w.toNat, by omega⟩
    have hl : lv_has ls 4 [(0, .ref (q 0)), (1, .int (iI ((w_ : Nat) : Int)))] := hl
    refine r_ic F 0 dX4_camps_11 rfl ?_
    refine r_isn (lv' := [(0, .ref (q 0)), (1, .int (iI ((w_ : Nat) : Int))), (2, .int (iI ((0 : Nat) : Int)))]) F hl dX4_camps_12 rfl (by decide) [1, 2, 0] rfl (fun ls hl => ?_)
    refine r_ic F 1 dX4_camps_13 rfl ?_
    refine r_isn (lv' := [(0, .ref (q 0)), (1, .int (iI ((w_ : Nat) : Int))), (2, .int (iI ((0 : Nat) : Int))), (3, .int (iI ((1 : Nat) : Int)))]) F hl dX4_camps_14 rfl (by decide) [1, 2, 3, 0] rfl (fun ls hl => ?_)
    have lp_2 : ∀ (nn_ : Nat) (y : Nat) (k : Nat) (ls : Array Slot), 1 * 2 ^ M 2 0 - k < nn_ → (lpR (cmB (M 2)) (1 * 2 ^ M 2 0) k y = cmR (M 2)) → (y < 65536) → (k ≤ 1 * 2 ^ M 2 0) → lv_has ls 4 [(0, .ref (q 0)), (1, .int (iI ((w_ : Nat) : Int))), (2, .int (iI ((y : Nat) : Int))), (3, .int (iI ((k : Nat) : Int)))] → W p l e rm_X4_camps s m args below meth c H [] 0 0 (Qq below args s ((iI (g_camps (M 2) ((w_ : Nat) : Int))))) (F0 m 15 ls []) := by
      intro nn_
      induction nn_ with
      | zero => intro y k ls hlt; exact absurd hlt (Nat.not_lt_zero _)
      | succ nn_ ih =>
        have ih_3 := ih; clear ih
        intro y k ls hlt hI hy hk hl
        have hlt_4 := hlt
        refine r_iln F hl 3 rfl dX4_camps_15 rfl ?_
        refine r_ic F 1 dX4_camps_16 rfl ?_
        refine r_aln F hl 0 rfl dX4_camps_17 rfl ?_
        refine gf_X4_13 F P 0 rfl (.ref (q 3)) rfl dX4_camps_18 ?_
        refine r_ic F 0 dX4_camps_21 rfl ?_
        refine r_ald (f := M 2) F P 2 rfl dX4_camps_22 (by decide) (by omega) ?_
        have b_5 : M 2 (0) < 256 := hbk (0)
        have b_6 : 1 * 2 ^ (M 2 (0)) < 65536 := pw16 (by omega)
        refine r_shl F dX4_camps_23 ⟨by omega, by omega⟩ ?_
        refine r_cge 52 F dX4_camps_24 (by decide) (by omega) (fun c_7 => ?_) (fun c_7 => ?_)
        · obtain rfl : y = cmR (M 2) := by rw [← hI, lpR_end (by omega)]
          refine r_iln F hl 1 rfl dX4_camps_52 rfl ?_
          refine r_zne 64 F dX4_camps_53 (by decide) (by omega) (fun c_8 => ?_) (fun c_8 => ?_)
          · refine r_iln F hl 2 rfl dX4_camps_64 rfl ?_
            exact r_retQ F hr hlk hH dX4_camps_65 (by first | rfl | (simp only [g_camps, c_1, if_true, if_false, Bool.and_true, Bool.true_and, Bool.and_false, Bool.false_and, Bool.and_self, Bool.false_eq_true, ↓reduceIte, decide_true, decide_false, Int.toNat_natCast, Bool.toNat_true, Bool.toNat_false]; first | done | rfl | (simp only [c_7, (Nat.not_lt.mp c_7), c_8, if_true, if_false, Bool.and_true, Bool.true_and, Bool.and_false, Bool.false_and, Bool.and_self, Bool.false_eq_true, ↓reduceIte, decide_true, decide_false, Int.toNat_natCast, Bool.toNat_true, Bool.toNat_false]; first | done | rfl) | (simp only [if_neg c_7, if_pos (Nat.not_lt.mp c_7), if_neg c_8]; first | done | rfl) | (simp [c_7, (Nat.not_lt.mp c_7), c_8]; done) | (simp [c_7, (Nat.not_lt.mp c_7), c_8]; first | rfl | omega)) | (simp [g_camps, c_1, c_7, (Nat.not_lt.mp c_7), c_8]; done) | (simp [g_camps, c_1, c_7, (Nat.not_lt.mp c_7), c_8]; omega) | (simp only [g_camps, c_1, if_true, if_false, Bool.and_true, Bool.true_and, Bool.and_false, Bool.false_and, Bool.and_self, Bool.false_eq_true, ↓reduceIte, decide_true, decide_false, Int.toNat_natCast, Bool.toNat_true, Bool.toNat_false]; try simp only [c_7, (Nat.not_lt.mp c_7), c_8, if_true, if_false, Bool.and_true, Bool.true_and, Bool.and_false, Bool.false_and, Bool.and_self, Bool.false_eq_true, ↓reduceIte, decide_true, decide_false, Int.toNat_natCast, Bool.toNat_true, Bool.toNat_false]; rfl))
          · refine r_aln F hl 0 rfl dX4_camps_56 rfl ?_
            refine r_iln F hl 2 rfl dX4_camps_57 rfl ?_
            refine r_cq F P (k_X4_parts l D cI cB (q) (M) ((cmR (M 2))) (by omega) hbk hpr) gw_X4_143 [0, 1, 2, 3, 4, 5, 6, 7, 8, 9, 10] rfl rfl rfl ⟨⟨rfl, rfl⟩, Nat.le_of_ble_eq_true rfl, Nat.le_of_ble_eq_true rfl⟩ ⟨Nat.le_of_ble_eq_true rfl, Nat.le_of_ble_eq_true rfl⟩ hl.1 rfl [] rfl (Nat.le_of_ble_eq_true rfl) dX4_camps_58 ?_
            have hq_ := @parts_le (M 2) ((cmR (M 2)))
            refine r_goto 65 F dX4_camps_61 (by decide) ?_
            exact r_retQ F hr hlk hH dX4_camps_65 (by first | rfl | (simp only [g_camps, c_1, if_true, if_false, Bool.and_true, Bool.true_and, Bool.and_false, Bool.false_and, Bool.and_self, Bool.false_eq_true, ↓reduceIte, decide_true, decide_false, Int.toNat_natCast, Bool.toNat_true, Bool.toNat_false]; first | done | rfl | (simp only [c_7, (Nat.not_lt.mp c_7), c_8, if_true, if_false, Bool.and_true, Bool.true_and, Bool.and_false, Bool.false_and, Bool.and_self, Bool.false_eq_true, ↓reduceIte, decide_true, decide_false, Int.toNat_natCast, Bool.toNat_true, Bool.toNat_false]; first | done | rfl) | (simp only [if_neg c_7, if_pos (Nat.not_lt.mp c_7), if_pos c_8]; first | done | rfl) | (simp [c_7, (Nat.not_lt.mp c_7), c_8]; done) | (simp [c_7, (Nat.not_lt.mp c_7), c_8]; first | rfl | omega)) | (simp [g_camps, c_1, c_7, (Nat.not_lt.mp c_7), c_8]; done) | (simp [g_camps, c_1, c_7, (Nat.not_lt.mp c_7), c_8]; omega) | (simp only [g_camps, c_1, if_true, if_false, Bool.and_true, Bool.true_and, Bool.and_false, Bool.false_and, Bool.and_self, Bool.false_eq_true, ↓reduceIte, decide_true, decide_false, Int.toNat_natCast, Bool.toNat_true, Bool.toNat_false]; try simp only [c_7, (Nat.not_lt.mp c_7), c_8, if_true, if_false, Bool.and_true, Bool.true_and, Bool.and_false, Bool.false_and, Bool.and_self, Bool.false_eq_true, ↓reduceIte, decide_true, decide_false, Int.toNat_natCast, Bool.toNat_true, Bool.toNat_false]; rfl))
        · refine r_aln F hl 0 rfl dX4_camps_27 rfl ?_
          refine r_iln F hl 3 rfl dX4_camps_28 rfl ?_
          refine r_cq F P (k_X4_parts l D cI cB (q) (M) (k) (by omega) hbk hpr) gw_X4_143 [0, 1, 2, 3, 4, 5, 6, 7, 8, 9, 10] rfl rfl rfl ⟨⟨rfl, rfl⟩, Nat.le_of_ble_eq_true rfl, Nat.le_of_ble_eq_true rfl⟩ ⟨Nat.le_of_ble_eq_true rfl, Nat.le_of_ble_eq_true rfl⟩ hl.1 rfl [] rfl (Nat.le_of_ble_eq_true rfl) dX4_camps_29 ?_
          have hq_ := @parts_le (M 2) (k)
          refine r_aln F hl 0 rfl dX4_camps_32 rfl ?_
          refine r_iln F hl 2 rfl dX4_camps_33 rfl ?_
          refine r_cq F P (k_X4_parts l D cI cB (q) (M) (y) (by omega) hbk hpr) gw_X4_143 [0, 1, 2, 3, 4, 5, 6, 7, 8, 9, 10] rfl rfl rfl ⟨⟨rfl, rfl⟩, Nat.le_of_ble_eq_true rfl, Nat.le_of_ble_eq_true rfl⟩ ⟨Nat.le_of_ble_eq_true rfl, Nat.le_of_ble_eq_true rfl⟩ hl.1 rfl [.int (iI ((sp_parts (M 2) (k) : Nat) : Int))] rfl (Nat.le_of_ble_eq_true rfl) dX4_camps_34 ?_
          have hq_ := @parts_le (M 2) (y)
          refine r_cge 44 F dX4_camps_37 (by decide) (by omega) (fun c_9 => ?_) (fun c_9 => ?_)
          · refine r_iln F hl 2 rfl dX4_camps_44 rfl ?_
            refine r_isn (lv' := [(0, .ref (q 0)), (1, .int (iI ((w_ : Nat) : Int))), (2, .int (iI ((y : Nat) : Int))), (3, .int (iI ((k : Nat) : Int)))]) F hl dX4_camps_45 rfl (by decide) [1, 2, 0, 3] rfl (fun ls hl => ?_)
            refine r_inc (lv' := [(0, .ref (q 0)), (1, .int (iI ((w_ : Nat) : Int))), (2, .int (iI ((y : Nat) : Int))), (3, .int (iI (((k + 1) : Nat) : Int)))]) F hl 3 rfl dX4_camps_46 1 rfl (by decide) [1, 2, 3, 0] rfl (fun ls hl => ?_)
            refine r_goto 15 F dX4_camps_49 (by decide) ?_
            exact ih_3 (y) ((k + 1)) ls (by omega) (by have h_ := hI; rw [lpR_step (by omega)] at h_; refine Eq.trans ?_ h_; first | rfl | (simp only [cmB, c_1, c_7, (Nat.not_le.mpr c_7), c_9, (Nat.not_lt.mp c_9), if_true, if_false, Bool.and_true, Bool.true_and, Bool.and_false, Bool.false_and, Bool.and_self, Bool.false_eq_true, ↓reduceIte, decide_true, decide_false, Int.toNat_natCast, Bool.toNat_true, Bool.toNat_false]; done) | (simp [cmB, c_1, c_7, (Nat.not_le.mpr c_7), c_9, (Nat.not_lt.mp c_9)]; done)) (by omega) (by omega) hl
          · refine r_iln F hl 3 rfl dX4_camps_40 rfl ?_
            refine r_goto 45 F dX4_camps_41 (by decide) ?_
            refine r_isn (lv' := [(0, .ref (q 0)), (1, .int (iI ((w_ : Nat) : Int))), (2, .int (iI ((k : Nat) : Int))), (3, .int (iI ((k : Nat) : Int)))]) F hl dX4_camps_45 rfl (by decide) [1, 2, 0, 3] rfl (fun ls hl => ?_)
            refine r_inc (lv' := [(0, .ref (q 0)), (1, .int (iI ((w_ : Nat) : Int))), (2, .int (iI ((k : Nat) : Int))), (3, .int (iI (((k + 1) : Nat) : Int)))]) F hl 3 rfl dX4_camps_46 1 rfl (by decide) [1, 2, 3, 0] rfl (fun ls hl => ?_)
            refine r_goto 15 F dX4_camps_49 (by decide) ?_
            exact ih_3 (k) ((k + 1)) ls (by omega) (by have h_ := hI; rw [lpR_step (by omega)] at h_; refine Eq.trans ?_ h_; first | rfl | (simp only [cmB, c_1, c_7, (Nat.not_le.mpr c_7), c_9, (Nat.not_le.mpr c_9), if_true, if_false, Bool.and_true, Bool.true_and, Bool.and_false, Bool.false_and, Bool.and_self, Bool.false_eq_true, ↓reduceIte, decide_true, decide_false, Int.toNat_natCast, Bool.toNat_true, Bool.toNat_false]; done) | (simp [cmB, c_1, c_7, (Nat.not_le.mpr c_7), c_9, (Nat.not_le.mpr c_9)]; done)) (by omega) (by omega) hl
    exact lp_2 _ (0) (1) ls (Nat.lt_succ_self _) rfl (by omega) (by have := Nat.two_pow_pos (M 2 0); omega) hl
  · have c_1d := c_1
    simp only [isIn, isP, decide_eq_true_eq, decide_eq_false_iff_not] at c_1d
    refine r_icz F (-1) dX4_camps_9 rfl ?_
    exact r_retQ F hr hlk hH dX4_camps_10 (by first | rfl | (simp only [g_camps, c_1, if_true, if_false, Bool.and_true, Bool.true_and, Bool.and_false, Bool.false_and, Bool.and_self, Bool.false_eq_true, ↓reduceIte, decide_true, decide_false, Int.toNat_natCast, Bool.toNat_true, Bool.toNat_false]; first | done | rfl | (simp only [if_true, if_true, if_false, Bool.and_true, Bool.true_and, Bool.and_false, Bool.false_and, Bool.and_self, Bool.false_eq_true, ↓reduceIte, decide_true, decide_false, Int.toNat_natCast, Bool.toNat_true, Bool.toNat_false]; first | done | rfl) | (simp only [if_true]; first | done | rfl) | (simp [if_true]; done) | (simp [if_true]; first | rfl | omega)) | (simp [g_camps, c_1]; done) | (simp [g_camps, c_1]; omega) | (simp only [g_camps, c_1, if_true, if_false, Bool.and_true, Bool.true_and, Bool.and_false, Bool.false_and, Bool.and_self, Bool.false_eq_true, ↓reduceIte, decide_true, decide_false, Int.toNat_natCast, Bool.toNat_true, Bool.toNat_false]; try simp only [if_true, if_true, if_false, Bool.and_true, Bool.true_and, Bool.and_false, Bool.false_and, Bool.and_self, Bool.false_eq_true, ↓reduceIte, decide_true, decide_false, Int.toNat_natCast, Bool.toNat_true, Bool.toNat_false]; rfl))
abbrev rm_X4_wipe : Room := { frames := 0, cells := 0, slots := 0, locals := 0 }
set_option maxHeartbeats 4000000 in
set_option maxRecDepth 100000 in
theorem k_X4_wipe (l : Launch) (D : va_G) (cI cB : ClassId) (q : Nat → Nat) (M : St)  : CtU l yX4_wipe cX4_wipe 2 (some .int) rm_X4_wipe D cI cB [.ref (q 0)] (wM q cI M) (wM q cI (stR M 1 (fun _ => 0))) ((iI ((M 1 0 : Nat) : Int))) := by
  refine CtU.of RX4 (by decide) rfl (Nat.le_of_ble_eq_true rfl) ?_
  intro p e s m args below meth c H0 ls A hH hA F hr hlk B hl
  have hl : lv_has ls 2 [(0, .ref (q 0))] := hl
  refine r_aln F hl 0 rfl dX4_wipe_0 rfl ?_
  refine gf_X4_44 F B.1 0 rfl (.int (iI ((M 1 0 : Nat) : Int))) rfl dX4_wipe_1 ?_
  refine r_isn (lv' := [(0, .ref (q 0)), (1, .int (iI ((M 1 0 : Nat) : Int)))]) F hl dX4_wipe_4 rfl (by decide) [1, 0] rfl (fun ls hl => ?_)
  refine r_aln F hl 0 rfl dX4_wipe_5 rfl ?_
  refine r_ic F 0 dX4_wipe_6 rfl ?_
  refine pf_X4_44 F B 0 (wM q cI (stR M 1 (fun _ => 0))) rfl rfl rfl (Nat.le_of_ble_eq_true rfl) rfl dX4_wipe_7 (fun H locs B => ?_)
  refine r_iln F hl 1 rfl dX4_wipe_10 rfl ?_
  exact r_retU F hr hlk hH B dX4_wipe_11 (by first | rfl | (simp only [if_true, if_false, Bool.and_true, Bool.true_and, Bool.and_false, Bool.false_and, Bool.and_self, Bool.false_eq_true, ↓reduceIte, decide_true, decide_false, Int.toNat_natCast, Bool.toNat_true, Bool.toNat_false]; first | done | rfl | (simp only [if_true, if_true, if_false, Bool.and_true, Bool.true_and, Bool.and_false, Bool.false_and, Bool.and_self, Bool.false_eq_true, ↓reduceIte, decide_true, decide_false, Int.toNat_natCast, Bool.toNat_true, Bool.toNat_false]; first | done | rfl) | (simp only [if_true]; first | done | rfl) | (simp [if_true]; done) | (simp [if_true]; first | rfl | omega)) | (simp [if_true]; done) | (simp [if_true]; omega) | (simp only [if_true, if_false, Bool.and_true, Bool.true_and, Bool.and_false, Bool.false_and, Bool.and_self, Bool.false_eq_true, ↓reduceIte, decide_true, decide_false, Int.toNat_natCast, Bool.toNat_true, Bool.toNat_false]; try simp only [if_true, if_true, if_false, Bool.and_true, Bool.true_and, Bool.and_false, Bool.false_and, Bool.and_self, Bool.false_eq_true, ↓reduceIte, decide_true, decide_false, Int.toNat_natCast, Bool.toNat_true, Bool.toNat_false]; rfl)) (by first | rfl | (simp only [if_true, if_false, Bool.and_true, Bool.true_and, Bool.and_false, Bool.false_and, Bool.and_self, Bool.false_eq_true, ↓reduceIte, decide_true, decide_false, Int.toNat_natCast, Bool.toNat_true, Bool.toNat_false]; first | done | rfl | (simp only [if_true, if_true, if_false, Bool.and_true, Bool.true_and, Bool.and_false, Bool.false_and, Bool.and_self, Bool.false_eq_true, ↓reduceIte, decide_true, decide_false, Int.toNat_natCast, Bool.toNat_true, Bool.toNat_false]; first | done | rfl) | (simp only [if_true]; first | done | rfl) | (simp [if_true]; done) | (simp [if_true]; first | rfl | omega)) | (simp [if_true]; done) | (simp [if_true]; omega) | (simp only [if_true, if_false, Bool.and_true, Bool.true_and, Bool.and_false, Bool.false_and, Bool.and_self, Bool.false_eq_true, ↓reduceIte, decide_true, decide_false, Int.toNat_natCast, Bool.toNat_true, Bool.toNat_false]; try simp only [if_true, if_true, if_false, Bool.and_true, Bool.true_and, Bool.and_false, Bool.false_and, Bool.and_self, Bool.false_eq_true, ↓reduceIte, decide_true, decide_false, Int.toNat_natCast, Bool.toNat_true, Bool.toNat_false]; rfl))
abbrev rm_X4_forget : Room := { frames := 0, cells := 0, slots := 0, locals := 0 }
set_option maxHeartbeats 4000000 in
set_option maxRecDepth 100000 in
theorem k_X4_forget (l : Launch) (D : va_G) (cI cB : ClassId) (q : Nat → Nat) (M : St)  : CtU l yX4_forget cX4_forget 2 (some .int) rm_X4_forget D cI cB [.ref (q 0)] (wM q cI M) (wM q cI (stR M 11 (fun _ => 0))) ((iI ((M 11 0 : Nat) : Int))) := by
  refine CtU.of RX4 (by decide) rfl (Nat.le_of_ble_eq_true rfl) ?_
  intro p e s m args below meth c H0 ls A hH hA F hr hlk B hl
  have hl : lv_has ls 2 [(0, .ref (q 0))] := hl
  refine r_aln F hl 0 rfl dX4_forget_0 rfl ?_
  refine gf_X4_93 F B.1 0 rfl (.int (iI ((M 11 0 : Nat) : Int))) rfl dX4_forget_1 ?_
  refine r_isn (lv' := [(0, .ref (q 0)), (1, .int (iI ((M 11 0 : Nat) : Int)))]) F hl dX4_forget_4 rfl (by decide) [1, 0] rfl (fun ls hl => ?_)
  refine r_aln F hl 0 rfl dX4_forget_5 rfl ?_
  refine r_ic F 0 dX4_forget_6 rfl ?_
  refine pf_X4_93 F B 0 (wM q cI (stR M 11 (fun _ => 0))) rfl rfl rfl (Nat.le_of_ble_eq_true rfl) rfl dX4_forget_7 (fun H locs B => ?_)
  refine r_iln F hl 1 rfl dX4_forget_10 rfl ?_
  exact r_retU F hr hlk hH B dX4_forget_11 (by first | rfl | (simp only [if_true, if_false, Bool.and_true, Bool.true_and, Bool.and_false, Bool.false_and, Bool.and_self, Bool.false_eq_true, ↓reduceIte, decide_true, decide_false, Int.toNat_natCast, Bool.toNat_true, Bool.toNat_false]; first | done | rfl | (simp only [if_true, if_true, if_false, Bool.and_true, Bool.true_and, Bool.and_false, Bool.false_and, Bool.and_self, Bool.false_eq_true, ↓reduceIte, decide_true, decide_false, Int.toNat_natCast, Bool.toNat_true, Bool.toNat_false]; first | done | rfl) | (simp only [if_true]; first | done | rfl) | (simp [if_true]; done) | (simp [if_true]; first | rfl | omega)) | (simp [if_true]; done) | (simp [if_true]; omega) | (simp only [if_true, if_false, Bool.and_true, Bool.true_and, Bool.and_false, Bool.false_and, Bool.and_self, Bool.false_eq_true, ↓reduceIte, decide_true, decide_false, Int.toNat_natCast, Bool.toNat_true, Bool.toNat_false]; try simp only [if_true, if_true, if_false, Bool.and_true, Bool.true_and, Bool.and_false, Bool.false_and, Bool.and_self, Bool.false_eq_true, ↓reduceIte, decide_true, decide_false, Int.toNat_natCast, Bool.toNat_true, Bool.toNat_false]; rfl)) (by first | rfl | (simp only [if_true, if_false, Bool.and_true, Bool.true_and, Bool.and_false, Bool.false_and, Bool.and_self, Bool.false_eq_true, ↓reduceIte, decide_true, decide_false, Int.toNat_natCast, Bool.toNat_true, Bool.toNat_false]; first | done | rfl | (simp only [if_true, if_true, if_false, Bool.and_true, Bool.true_and, Bool.and_false, Bool.false_and, Bool.and_self, Bool.false_eq_true, ↓reduceIte, decide_true, decide_false, Int.toNat_natCast, Bool.toNat_true, Bool.toNat_false]; first | done | rfl) | (simp only [if_true]; first | done | rfl) | (simp [if_true]; done) | (simp [if_true]; first | rfl | omega)) | (simp [if_true]; done) | (simp [if_true]; omega) | (simp only [if_true, if_false, Bool.and_true, Bool.true_and, Bool.and_false, Bool.false_and, Bool.and_self, Bool.false_eq_true, ↓reduceIte, decide_true, decide_false, Int.toNat_natCast, Bool.toNat_true, Bool.toNat_false]; try simp only [if_true, if_true, if_false, Bool.and_true, Bool.true_and, Bool.and_false, Bool.false_and, Bool.and_self, Bool.false_eq_true, ↓reduceIte, decide_true, decide_false, Int.toNat_natCast, Bool.toNat_true, Bool.toNat_false]; rfl))
end
section
-- ===== the model: trades
/-- steps done in one shift: fuel, did, step -/
def dnI (bk : Nat → Nat) (i d j : Nat) : Nat → Nat → Nat → Nat × Nat
  | 0, a, b => (a, b)
  | m + 1, a, b => if a < bk 3 ∧ b < bk (28 + j) ∧ sp_has bk i d j (if b < 8 then b else 7) = true then dnI bk i d j m (a + 1) (b + 1) else (a, b)
/-- shifts: fuel, step, idle, n -/
def dnO (bk : Nat → Nat) (s0 i j : Nat) : Nat → Nat → Nat → Nat → Int
  | 0, _, _, _ => -4
  | m + 1, b, c, n => if b < bk (28 + j) ∧ c < 2 then dnO bk s0 i j m (dnI bk i ((s0 + n) % 2) j (bk 3 + 1) 0 b).2 (if 0 < (dnI bk i ((s0 + n) % 2) j (bk 3 + 1) 0 b).1 then 0 else c + 1) (n + 1) else if b = bk (28 + j) then (n : Int) else -4
def sp_done (bk : Nat → Nat) (s0 i j : Nat) : Int := dnO bk s0 i j 30 0 0 0
theorem dnI_go {bk : Nat → Nat} {i d j m a b : Nat} (h1 : a < bk 3) (h2 : b < bk (28 + j)) (h3 : sp_has bk i d j (if b < 8 then b else 7) = true) : dnI bk i d j (m + 1) a b = dnI bk i d j m (a + 1) (b + 1) := by
  show (if a < bk 3 ∧ b < bk (28 + j) ∧ sp_has bk i d j (if b < 8 then b else 7) = true then _ else _) = _
  rw [if_pos ⟨h1, h2, h3⟩]
theorem dnI_stop {bk : Nat → Nat} {i d j m a b : Nat} (h : ¬ (a < bk 3 ∧ b < bk (28 + j) ∧ sp_has bk i d j (if b < 8 then b else 7) = true)) : dnI bk i d j m a b = (a, b) := by
  cases m with
  | zero => rfl
  | succ m => show (if a < bk 3 ∧ b < bk (28 + j) ∧ sp_has bk i d j (if b < 8 then b else 7) = true then _ else _) = _; rw [if_neg h]
theorem dnO_go {bk : Nat → Nat} {s0 i j m b c n : Nat} (h : b < bk (28 + j) ∧ c < 2) : dnO bk s0 i j (m + 1) b c n = dnO bk s0 i j m (dnI bk i ((s0 + n) % 2) j (bk 3 + 1) 0 b).2 (if 0 < (dnI bk i ((s0 + n) % 2) j (bk 3 + 1) 0 b).1 then 0 else c + 1) (n + 1) := by
  show (if b < bk (28 + j) ∧ c < 2 then _ else _) = _
  rw [if_pos h]
theorem dnO_stop {bk : Nat → Nat} {s0 i j m b c n : Nat} (h : ¬ (b < bk (28 + j) ∧ c < 2)) : dnO bk s0 i j (m + 1) b c n = if b = bk (28 + j) then (n : Int) else -4 := by
  show (if b < bk (28 + j) ∧ c < 2 then _ else _) = _
  rw [if_neg h]
theorem dnO_rng {bk : Nat → Nat} {s0 i j : Nat} : ∀ m b c n, n + m < 100000 → -4 ≤ dnO bk s0 i j m b c n ∧ dnO bk s0 i j m b c n < 100000
  | 0, b, c, n, h => by show -4 ≤ (-4 : Int) ∧ (-4 : Int) < 100000; omega
  | m + 1, b, c, n, h => by
    by_cases hc : b < bk (28 + j) ∧ c < 2
    · rw [dnO_go hc]; exact dnO_rng m _ _ _ (by omega)
    · rw [dnO_stop hc]
      split <;> omega
def vDone (p t : Nat) (i j : Int) : Bool := isP p i && isP t j
def g_done (bk s : Nat → Nat) (i j : Int) : Int := if vDone (bk 0) (bk 1) i j then sp_done bk (s 0) i.toNat j.toNat else -1
def hdB (bk : Nat → Nat) (i j way k : Nat) (a : Bool × Nat) : Bool × Nat := (a.1 && sp_has bk i (way / 2 ^ k &&& 1) j k, a.2 + (if 0 < k ∧ ¬ (way / 2 ^ k &&& 1) = (way / 2 ^ (k - 1) &&& 1) then 1 else 0))
def hdI (bk : Nat → Nat) (i j way : Nat) : Bool × Nat := lpR (hdB bk i j way) (bk (28 + j)) 0 (true, 0)
def hoB (bk : Nat → Nat) (i j way : Nat) (x : Int) : Int := if (hdI bk i j way).1 = true ∧ (x = -4 ∨ ((hdI bk i j way).2 : Int) < x) then ((hdI bk i j way).2 : Int) else x
def sp_handed (bk : Nat → Nat) (i j : Nat) : Int := lpR (hoB bk i j) (1 * 2 ^ bk (28 + j)) 0 (-4)
def g_handed (bk : Nat → Nat) (i j : Int) : Int := if vDone (bk 0) (bk 1) i j then sp_handed bk i.toNat j.toNat else -1
/-- the best, counted down: persons yet to try, found, least -/
def bsF (bk : Nat → Nat) (s0 j : Nat) : Nat → Int → Int → Int
  | 0, a, _ => a
  | i + 1, a, b => if ¬ sp_done bk s0 i j = -4 ∧ (a = -4 ∨ sp_done bk s0 i j ≤ b) then bsF bk s0 j i (i : Int) (sp_done bk s0 i j) else bsF bk s0 j i a b
def g_best (bk s : Nat → Nat) (j : Int) : Int := if isP (bk 1) j then bsF bk (s 0) j.toNat (bk 0) (-4) 0 else -1
def g_seen (M : St) (t f : Int) : Int := if vSeen t f then (if M 11 0 = 10 then -3 else ((M 11 0 + 1 : Nat) : Int)) else -1
def g_seenD (M : St) (t f : Int) : Nat := if vSeen t f then (if M 11 0 = 10 then M 11 0 else M 11 0 + 1) else M 11 0
def g_seenT (M : St) (t f : Int) : Nat → Nat := if vSeen t f then (if M 11 0 = 10 then M 8 else upN (M 8) (M 11 0) t.toNat) else M 8
def g_seenF (M : St) (t f : Int) : Nat → Nat := if vSeen t f then (if M 11 0 = 10 then M 9 else upN (M 9) (M 11 0) f.toNat) else M 9
def g_keep (M : St) : Int := if M 7 0 = 2 then -3 else ((M 7 0 + 1 : Nat) : Int)
def g_keepN (M : St) : Nat := if M 7 0 = 2 then M 7 0 else M 7 0 + 1
def g_keepK (M : St) : Nat → Nat := if M 7 0 = 2 then M 6 else cpK (M 4) (M 7 0) (M 6)
def g_back (M : St) : Int := if M 7 0 = 0 then -2 else ((M 7 0 - 1 : Nat) : Int)
def g_backN (M : St) : Nat := if M 7 0 = 0 then M 7 0 else M 7 0 - 1
def g_backS (M : St) : Nat → Nat := if M 7 0 = 0 then M 4 else cpB (M 6) (M 7 0 - 1) (M 4)
end
section
abbrev rm_X4_alike : Room := { frames := 3, cells := 0, slots := 0, locals := 70 }
set_option maxHeartbeats 4000000 in
set_option maxRecDepth 100000 in
theorem k_X4_alike (l : Launch) (D : va_G) (cI cB : ClassId) (q : Nat → Nat) (M : St) (i : Int) (hi : (-2147483648 ≤ i ∧ i < 2147483648)) (hp : 1 ≤ M 2 0 ∧ M 2 0 ≤ 5) (hbk : ∀ k, M 2 k < 256) (hs : ∀ k, M 4 k < 65536) (hs0 : M 4 0 ≤ 9999) (ha : ∀ k, M 5 k < 65536) : CtU l yX4_alike cX4_alike 3 (some .int) rm_X4_alike D cI cB [.ref (q 0), .int (iI (i))] (wM q cI M) (wM q cI (stR M 5 (g_alikeA (M 2) (M 4) (M 5) i))) ((iI (g_alike (M 2) (M 4) (M 5) i))) := by
  refine CtU.of RX4 (by decide) rfl (Nat.le_of_ble_eq_true rfl) ?_
  intro p e s m args below meth c H0 ls A hH hA F hr hlk B hl
  have hl : lv_has ls 3 [(0, .ref (q 0)), (1, .int (iI (i)))] := hl
  refine r_aln F hl 0 rfl dX4_alike_0 rfl ?_
  refine r_iln F hl 1 rfl dX4_alike_1 rfl ?_
  refine r_cq F B.1 (k_X4_isPerson l D cI cB (q) (M) (i) (by omega) hbk) gw_X4_99 [0, 1, 2, 3, 4, 5, 6, 7, 8, 9, 10] rfl rfl rfl ⟨⟨rfl, rfl⟩, Nat.le_of_ble_eq_true rfl, Nat.le_of_ble_eq_true rfl⟩ ⟨Nat.le_of_ble_eq_true rfl, Nat.le_of_ble_eq_true rfl⟩ hl.1 rfl [] rfl (Nat.le_of_ble_eq_true rfl) dX4_alike_2 ?_
  refine r_zneb 10 F dX4_alike_5 (by decide) (fun c_1 => ?_) (fun c_1 => ?_)
  · have c_1d := c_1
    simp only [isIn, isP, decide_eq_true_eq, decide_eq_false_iff_not] at c_1d
    obtain ⟨i_, rfl⟩ : ∃ k : Nat, i = (k : Int) := ⟨i.toNat, by omega⟩
    have hl : lv_has ls 3 [(0, .ref (q 0)), (1, .int (iI ((i_ : Nat) : Int)))] := hl
    refine r_aln F hl 0 rfl dX4_alike_10 rfl ?_
    refine r_ic F 0 dX4_alike_11 rfl ?_
    refine r_cvW F hA B (k_X4_plays l D cI cB (q) (M) (0) (by omega) hp hbk hs hs0 ha) gw_X4_115 rfl rfl ⟨⟨rfl, rfl⟩, Nat.le_of_ble_eq_true rfl, Nat.le_of_ble_eq_true rfl⟩ ⟨Nat.le_of_ble_eq_true rfl, Nat.le_of_ble_eq_true rfl⟩ hl.1 rfl [] rfl (Nat.le_of_ble_eq_true rfl) dX4_alike_12 (fun H locs B => ?_)
    have hb_2 : ∀ j_, (sp_plays (M 2) (M 4) (M 5) (0)) j_ < 65536 := (plays_all hs ha (by omega)).1
    have hq_ := (@plays_all (M 2) (M 4) (M 5) (0) hs ha (by omega)).2
    refine r_ic F 0 dX4_alike_15 rfl ?_
    refine r_isn (lv' := [(0, .ref (q 0)), (1, .int (iI ((i_ : Nat) : Int))), (2, .int (iI ((0 : Nat) : Int)))]) F hl dX4_alike_16 rfl (by decide) [1, 2, 0] rfl (fun ls hl => ?_)
    have lp_3 : ∀ (nn_ : Nat) (n : Nat) (f : Nat → Nat) (H : Heap) (locs : List Loc) (ls : Array Slot), 40 - n < nn_ → (alF (M 2) i_ (40 - n) n f = alR (M 2) (M 4) (M 5) i_) → (∀ k, f k < 65536) → (f 0 = M 4 0 + n) → (n ≤ 40) → Bx D A H0 (wM q cI (stR M 5 (f))) H locs → lv_has ls 3 [(0, .ref (q 0)), (1, .int (iI ((i_ : Nat) : Int))), (2, .int (iI ((n : Nat) : Int)))] → W p l e rm_X4_alike s m args below meth c H locs 0 0 (Qu below args s D ((iI (g_alike (M 2) (M 4) (M 5) ((i_ : Nat) : Int)))) (wM q cI (stR M 5 (g_alikeA (M 2) (M 4) (M 5) ((i_ : Nat) : Int)))) A) (F0 m 17 ls []) := by
      intro nn_
      induction nn_ with
      | zero => intro n f H locs ls hlt; exact absurd hlt (Nat.not_lt_zero _)
      | succ nn_ ih =>
        have ih_4 := ih; clear ih
        intro n f H locs ls hlt hI hf h0 hk B hl
        have hlt_5 := hlt
        refine r_iln F hl 2 rfl dX4_alike_17 rfl ?_
        refine r_bp F 40 dX4_alike_18 rfl ?_
        refine r_cge 56 F dX4_alike_20 (by decide) (by omega) (fun c_6 => ?_) (fun c_6 => ?_)
        · have he_ : alR (M 2) (M 4) (M 5) i_ = (n, f) := by rw [← hI, show 40 - n = 0 by omega]; rfl
          refine r_aln F hl 0 rfl dX4_alike_56 rfl ?_
          refine gf_X4_22 F B.1 0 rfl (.ref (q 6)) rfl dX4_alike_57 ?_
          refine r_ic F 1 dX4_alike_60 rfl ?_
          refine r_ic F 2 dX4_alike_61 rfl ?_
          refine r_iln F hl 1 rfl dX4_alike_62 rfl ?_
          refine r_mul F dX4_alike_63 ?_
          refine r_add F dX4_alike_64 ?_
          refine r_ald (f := f) F B.1 5 rfl dX4_alike_65 (by decide) (by omega) ?_
          have b_7 : f ((1 + (2 * i_))) < 65536 := hf ((1 + (2 * i_)))
          refine r_aln F hl 0 rfl dX4_alike_66 rfl ?_
          refine gf_X4_22 F B.1 0 rfl (.ref (q 6)) rfl dX4_alike_67 ?_
          refine r_ic F 2 dX4_alike_70 rfl ?_
          refine r_ic F 2 dX4_alike_71 rfl ?_
          refine r_iln F hl 1 rfl dX4_alike_72 rfl ?_
          refine r_mul F dX4_alike_73 ?_
          refine r_add F dX4_alike_74 ?_
          refine r_ald (f := f) F B.1 5 rfl dX4_alike_75 (by decide) (by omega) ?_
          have b_8 : f ((2 + (2 * i_))) < 65536 := hf ((2 + (2 * i_)))
          refine r_cne 83 F dX4_alike_76 (by decide) (by omega) (fun c_9 => ?_) (fun c_9 => ?_)
          · refine r_bpz F (-4) dX4_alike_83 rfl ?_
            exact r_retU F hr hlk hH B dX4_alike_85 (by first | rfl | (simp only [g_alike, c_1, he_, if_true, if_false, Bool.and_true, Bool.true_and, Bool.and_false, Bool.false_and, Bool.and_self, Bool.false_eq_true, ↓reduceIte, decide_true, decide_false, Int.toNat_natCast, Bool.toNat_true, Bool.toNat_false]; first | done | rfl | (simp only [c_6, (Nat.not_lt.mp c_6), c_9, if_true, if_false, Bool.and_true, Bool.true_and, Bool.and_false, Bool.false_and, Bool.and_self, Bool.false_eq_true, ↓reduceIte, decide_true, decide_false, Int.toNat_natCast, Bool.toNat_true, Bool.toNat_false]; first | done | rfl) | (simp only [if_neg c_6, if_pos (Nat.not_lt.mp c_6), if_neg c_9]; first | done | rfl) | (simp [c_6, (Nat.not_lt.mp c_6), c_9]; done) | (simp [c_6, (Nat.not_lt.mp c_6), c_9]; first | rfl | omega)) | (simp [g_alike, c_1, c_6, (Nat.not_lt.mp c_6), c_9, he_]; done) | (simp [g_alike, c_1, c_6, (Nat.not_lt.mp c_6), c_9, he_]; omega) | (simp only [g_alike, c_1, he_, if_true, if_false, Bool.and_true, Bool.true_and, Bool.and_false, Bool.false_and, Bool.and_self, Bool.false_eq_true, ↓reduceIte, decide_true, decide_false, Int.toNat_natCast, Bool.toNat_true, Bool.toNat_false]; try simp only [c_6, (Nat.not_lt.mp c_6), c_9, if_true, if_false, Bool.and_true, Bool.true_and, Bool.and_false, Bool.false_and, Bool.and_self, Bool.false_eq_true, ↓reduceIte, decide_true, decide_false, Int.toNat_natCast, Bool.toNat_true, Bool.toNat_false]; rfl)) (by first | rfl | (simp only [g_alikeA, c_1, he_, if_true, if_false, Bool.and_true, Bool.true_and, Bool.and_false, Bool.false_and, Bool.and_self, Bool.false_eq_true, ↓reduceIte, decide_true, decide_false, Int.toNat_natCast, Bool.toNat_true, Bool.toNat_false]; first | done | rfl | (simp only [c_6, (Nat.not_lt.mp c_6), c_9, if_true, if_false, Bool.and_true, Bool.true_and, Bool.and_false, Bool.false_and, Bool.and_self, Bool.false_eq_true, ↓reduceIte, decide_true, decide_false, Int.toNat_natCast, Bool.toNat_true, Bool.toNat_false]; first | done | rfl) | (simp only [if_neg c_6, if_pos (Nat.not_lt.mp c_6), if_neg c_9]; first | done | rfl) | (simp [c_6, (Nat.not_lt.mp c_6), c_9]; done) | (simp [c_6, (Nat.not_lt.mp c_6), c_9]; first | rfl | omega)) | (simp [g_alikeA, c_1, c_6, (Nat.not_lt.mp c_6), c_9, he_]; done) | (simp [g_alikeA, c_1, c_6, (Nat.not_lt.mp c_6), c_9, he_]; omega) | (simp only [g_alikeA, c_1, he_, if_true, if_false, Bool.and_true, Bool.true_and, Bool.and_false, Bool.false_and, Bool.and_self, Bool.false_eq_true, ↓reduceIte, decide_true, decide_false, Int.toNat_natCast, Bool.toNat_true, Bool.toNat_false]; try simp only [c_6, (Nat.not_lt.mp c_6), c_9, if_true, if_false, Bool.and_true, Bool.true_and, Bool.and_false, Bool.false_and, Bool.and_self, Bool.false_eq_true, ↓reduceIte, decide_true, decide_false, Int.toNat_natCast, Bool.toNat_true, Bool.toNat_false]; rfl))
          · refine r_iln F hl 2 rfl dX4_alike_79 rfl ?_
            refine r_goto 85 F dX4_alike_80 (by decide) ?_
            exact r_retU F hr hlk hH B dX4_alike_85 (by first | rfl | (simp only [g_alike, c_1, he_, if_true, if_false, Bool.and_true, Bool.true_and, Bool.and_false, Bool.false_and, Bool.and_self, Bool.false_eq_true, ↓reduceIte, decide_true, decide_false, Int.toNat_natCast, Bool.toNat_true, Bool.toNat_false]; first | done | rfl | (simp only [c_6, (Nat.not_lt.mp c_6), c_9, if_true, if_false, Bool.and_true, Bool.true_and, Bool.and_false, Bool.false_and, Bool.and_self, Bool.false_eq_true, ↓reduceIte, decide_true, decide_false, Int.toNat_natCast, Bool.toNat_true, Bool.toNat_false]; first | done | rfl) | (simp only [if_neg c_6, if_pos (Nat.not_lt.mp c_6), if_pos c_9]; first | done | rfl) | (simp [c_6, (Nat.not_lt.mp c_6), c_9]; done) | (simp [c_6, (Nat.not_lt.mp c_6), c_9]; first | rfl | omega)) | (simp [g_alike, c_1, c_6, (Nat.not_lt.mp c_6), c_9, he_]; done) | (simp [g_alike, c_1, c_6, (Nat.not_lt.mp c_6), c_9, he_]; omega) | (simp only [g_alike, c_1, he_, if_true, if_false, Bool.and_true, Bool.true_and, Bool.and_false, Bool.false_and, Bool.and_self, Bool.false_eq_true, ↓reduceIte, decide_true, decide_false, Int.toNat_natCast, Bool.toNat_true, Bool.toNat_false]; try simp only [c_6, (Nat.not_lt.mp c_6), c_9, if_true, if_false, Bool.and_true, Bool.true_and, Bool.and_false, Bool.false_and, Bool.and_self, Bool.false_eq_true, ↓reduceIte, decide_true, decide_false, Int.toNat_natCast, Bool.toNat_true, Bool.toNat_false]; rfl)) (by first | rfl | (simp only [g_alikeA, c_1, he_, if_true, if_false, Bool.and_true, Bool.true_and, Bool.and_false, Bool.false_and, Bool.and_self, Bool.false_eq_true, ↓reduceIte, decide_true, decide_false, Int.toNat_natCast, Bool.toNat_true, Bool.toNat_false]; first | done | rfl | (simp only [c_6, (Nat.not_lt.mp c_6), c_9, if_true, if_false, Bool.and_true, Bool.true_and, Bool.and_false, Bool.false_and, Bool.and_self, Bool.false_eq_true, ↓reduceIte, decide_true, decide_false, Int.toNat_natCast, Bool.toNat_true, Bool.toNat_false]; first | done | rfl) | (simp only [if_neg c_6, if_pos (Nat.not_lt.mp c_6), if_pos c_9]; first | done | rfl) | (simp [c_6, (Nat.not_lt.mp c_6), c_9]; done) | (simp [c_6, (Nat.not_lt.mp c_6), c_9]; first | rfl | omega)) | (simp [g_alikeA, c_1, c_6, (Nat.not_lt.mp c_6), c_9, he_]; done) | (simp [g_alikeA, c_1, c_6, (Nat.not_lt.mp c_6), c_9, he_]; omega) | (simp only [g_alikeA, c_1, he_, if_true, if_false, Bool.and_true, Bool.true_and, Bool.and_false, Bool.false_and, Bool.and_self, Bool.false_eq_true, ↓reduceIte, decide_true, decide_false, Int.toNat_natCast, Bool.toNat_true, Bool.toNat_false]; try simp only [c_6, (Nat.not_lt.mp c_6), c_9, if_true, if_false, Bool.and_true, Bool.true_and, Bool.and_false, Bool.false_and, Bool.and_self, Bool.false_eq_true, ↓reduceIte, decide_true, decide_false, Int.toNat_natCast, Bool.toNat_true, Bool.toNat_false]; rfl))
        · refine r_aln F hl 0 rfl dX4_alike_23 rfl ?_
          refine gf_X4_22 F B.1 0 rfl (.ref (q 6)) rfl dX4_alike_24 ?_
          refine r_ic F 1 dX4_alike_27 rfl ?_
          refine r_ic F 2 dX4_alike_28 rfl ?_
          refine r_iln F hl 1 rfl dX4_alike_29 rfl ?_
          refine r_mul F dX4_alike_30 ?_
          refine r_add F dX4_alike_31 ?_
          refine r_ald (f := f) F B.1 5 rfl dX4_alike_32 (by decide) (by omega) ?_
          have b_10 : f ((1 + (2 * i_))) < 65536 := hf ((1 + (2 * i_)))
          refine r_aln F hl 0 rfl dX4_alike_33 rfl ?_
          refine gf_X4_22 F B.1 0 rfl (.ref (q 6)) rfl dX4_alike_34 ?_
          refine r_ic F 2 dX4_alike_37 rfl ?_
          refine r_ic F 2 dX4_alike_38 rfl ?_
          refine r_iln F hl 1 rfl dX4_alike_39 rfl ?_
          refine r_mul F dX4_alike_40 ?_
          refine r_add F dX4_alike_41 ?_
          refine r_ald (f := f) F B.1 5 rfl dX4_alike_42 (by decide) (by omega) ?_
          have b_11 : f ((2 + (2 * i_))) < 65536 := hf ((2 + (2 * i_)))
          refine r_ceq 56 F dX4_alike_43 (by decide) (by omega) (fun c_12 => ?_) (fun c_12 => ?_)
          · have he_ : alR (M 2) (M 4) (M 5) i_ = (n, f) := by rw [← hI, alF_eq c_12]
            refine r_aln F hl 0 rfl dX4_alike_56 rfl ?_
            refine gf_X4_22 F B.1 0 rfl (.ref (q 6)) rfl dX4_alike_57 ?_
            refine r_ic F 1 dX4_alike_60 rfl ?_
            refine r_ic F 2 dX4_alike_61 rfl ?_
            refine r_iln F hl 1 rfl dX4_alike_62 rfl ?_
            refine r_mul F dX4_alike_63 ?_
            refine r_add F dX4_alike_64 ?_
            refine r_ald (f := f) F B.1 5 rfl dX4_alike_65 (by decide) (by omega) ?_
            have b_13 : f ((1 + (2 * i_))) < 65536 := hf ((1 + (2 * i_)))
            refine r_aln F hl 0 rfl dX4_alike_66 rfl ?_
            refine gf_X4_22 F B.1 0 rfl (.ref (q 6)) rfl dX4_alike_67 ?_
            refine r_ic F 2 dX4_alike_70 rfl ?_
            refine r_ic F 2 dX4_alike_71 rfl ?_
            refine r_iln F hl 1 rfl dX4_alike_72 rfl ?_
            refine r_mul F dX4_alike_73 ?_
            refine r_add F dX4_alike_74 ?_
            refine r_ald (f := f) F B.1 5 rfl dX4_alike_75 (by decide) (by omega) ?_
            have b_14 : f ((2 + (2 * i_))) < 65536 := hf ((2 + (2 * i_)))
            refine r_cne 83 F dX4_alike_76 (by decide) (by omega) (fun c_15 => ?_) (fun c_15 => ?_)
            · exact absurd c_12 c_15
            · refine r_iln F hl 2 rfl dX4_alike_79 rfl ?_
              refine r_goto 85 F dX4_alike_80 (by decide) ?_
              exact r_retU F hr hlk hH B dX4_alike_85 (by first | rfl | (simp only [g_alike, c_1, he_, if_true, if_false, Bool.and_true, Bool.true_and, Bool.and_false, Bool.false_and, Bool.and_self, Bool.false_eq_true, ↓reduceIte, decide_true, decide_false, Int.toNat_natCast, Bool.toNat_true, Bool.toNat_false]; first | done | rfl | (simp only [c_6, (Nat.not_le.mpr c_6), c_12, c_15, if_true, if_false, Bool.and_true, Bool.true_and, Bool.and_false, Bool.false_and, Bool.and_self, Bool.false_eq_true, ↓reduceIte, decide_true, decide_false, Int.toNat_natCast, Bool.toNat_true, Bool.toNat_false]; first | done | rfl) | (simp only [if_pos c_6, if_neg (Nat.not_le.mpr c_6), if_pos c_12, if_pos c_15]; first | done | rfl) | (simp [c_6, (Nat.not_le.mpr c_6), c_12, c_15]; done) | (simp [c_6, (Nat.not_le.mpr c_6), c_12, c_15]; first | rfl | omega)) | (simp [g_alike, c_1, c_6, (Nat.not_le.mpr c_6), c_12, c_15, he_]; done) | (simp [g_alike, c_1, c_6, (Nat.not_le.mpr c_6), c_12, c_15, he_]; omega) | (simp only [g_alike, c_1, he_, if_true, if_false, Bool.and_true, Bool.true_and, Bool.and_false, Bool.false_and, Bool.and_self, Bool.false_eq_true, ↓reduceIte, decide_true, decide_false, Int.toNat_natCast, Bool.toNat_true, Bool.toNat_false]; try simp only [c_6, (Nat.not_le.mpr c_6), c_12, c_15, if_true, if_false, Bool.and_true, Bool.true_and, Bool.and_false, Bool.false_and, Bool.and_self, Bool.false_eq_true, ↓reduceIte, decide_true, decide_false, Int.toNat_natCast, Bool.toNat_true, Bool.toNat_false]; rfl)) (by first | rfl | (simp only [g_alikeA, c_1, he_, if_true, if_false, Bool.and_true, Bool.true_and, Bool.and_false, Bool.false_and, Bool.and_self, Bool.false_eq_true, ↓reduceIte, decide_true, decide_false, Int.toNat_natCast, Bool.toNat_true, Bool.toNat_false]; first | done | rfl | (simp only [c_6, (Nat.not_le.mpr c_6), c_12, c_15, if_true, if_false, Bool.and_true, Bool.true_and, Bool.and_false, Bool.false_and, Bool.and_self, Bool.false_eq_true, ↓reduceIte, decide_true, decide_false, Int.toNat_natCast, Bool.toNat_true, Bool.toNat_false]; first | done | rfl) | (simp only [if_pos c_6, if_neg (Nat.not_le.mpr c_6), if_pos c_12, if_pos c_15]; first | done | rfl) | (simp [c_6, (Nat.not_le.mpr c_6), c_12, c_15]; done) | (simp [c_6, (Nat.not_le.mpr c_6), c_12, c_15]; first | rfl | omega)) | (simp [g_alikeA, c_1, c_6, (Nat.not_le.mpr c_6), c_12, c_15, he_]; done) | (simp [g_alikeA, c_1, c_6, (Nat.not_le.mpr c_6), c_12, c_15, he_]; omega) | (simp only [g_alikeA, c_1, he_, if_true, if_false, Bool.and_true, Bool.true_and, Bool.and_false, Bool.false_and, Bool.and_self, Bool.false_eq_true, ↓reduceIte, decide_true, decide_false, Int.toNat_natCast, Bool.toNat_true, Bool.toNat_false]; try simp only [c_6, (Nat.not_le.mpr c_6), c_12, c_15, if_true, if_false, Bool.and_true, Bool.true_and, Bool.and_false, Bool.false_and, Bool.and_self, Bool.false_eq_true, ↓reduceIte, decide_true, decide_false, Int.toNat_natCast, Bool.toNat_true, Bool.toNat_false]; rfl))
          · refine r_aln F hl 0 rfl dX4_alike_46 rfl ?_
            refine r_cvW F hA B (k_X4_ends l D cI cB (q) ((stR M 5 (f)))  hp hbk hf (show (f) 0 < 65535 from by omega)) gw_X4_112 rfl rfl ⟨⟨rfl, rfl⟩, Nat.le_of_ble_eq_true rfl, Nat.le_of_ble_eq_true rfl⟩ ⟨Nat.le_of_ble_eq_true rfl, Nat.le_of_ble_eq_true rfl⟩ hl.1 rfl [] rfl (Nat.le_of_ble_eq_true rfl) dX4_alike_47 (fun H locs B => ?_)
            have hb_16 : ∀ j_, (sp_ends (M 2) (f)) j_ < 65536 := ends_lt hf (by omega)
            have hq_ := @ends_0 (M 2) (f)
            refine r_inc (lv' := [(0, .ref (q 0)), (1, .int (iI ((i_ : Nat) : Int))), (2, .int (iI (((n + 1) : Nat) : Int)))]) F hl 2 rfl dX4_alike_50 1 rfl (by decide) [1, 2, 0] rfl (fun ls hl => ?_)
            refine r_goto 17 F dX4_alike_53 (by decide) ?_
            exact ih_4 ((n + 1)) (sp_ends (M 2) (f)) _ _ ls (by omega) (by rw [← hI]; exact (alF_go (by omega) c_12).symm) hb_16 (by omega) (by omega) B hl
    exact lp_3 _ (0) (sp_plays (M 2) (M 4) (M 5) (0)) _ _ ls (Nat.lt_succ_self _) rfl hb_2 (by omega) (by omega) B hl
  · have c_1d := c_1
    simp only [isIn, isP, decide_eq_true_eq, decide_eq_false_iff_not] at c_1d
    refine r_icz F (-1) dX4_alike_8 rfl ?_
    exact r_retU F hr hlk hH B dX4_alike_9 (by first | rfl | (simp only [g_alike, c_1, if_true, if_false, Bool.and_true, Bool.true_and, Bool.and_false, Bool.false_and, Bool.and_self, Bool.false_eq_true, ↓reduceIte, decide_true, decide_false, Int.toNat_natCast, Bool.toNat_true, Bool.toNat_false]; first | done | rfl | (simp only [if_true, if_true, if_false, Bool.and_true, Bool.true_and, Bool.and_false, Bool.false_and, Bool.and_self, Bool.false_eq_true, ↓reduceIte, decide_true, decide_false, Int.toNat_natCast, Bool.toNat_true, Bool.toNat_false]; first | done | rfl) | (simp only [if_true]; first | done | rfl) | (simp [if_true]; done) | (simp [if_true]; first | rfl | omega)) | (simp [g_alike, c_1]; done) | (simp [g_alike, c_1]; omega) | (simp only [g_alike, c_1, if_true, if_false, Bool.and_true, Bool.true_and, Bool.and_false, Bool.false_and, Bool.and_self, Bool.false_eq_true, ↓reduceIte, decide_true, decide_false, Int.toNat_natCast, Bool.toNat_true, Bool.toNat_false]; try simp only [if_true, if_true, if_false, Bool.and_true, Bool.true_and, Bool.and_false, Bool.false_and, Bool.and_self, Bool.false_eq_true, ↓reduceIte, decide_true, decide_false, Int.toNat_natCast, Bool.toNat_true, Bool.toNat_false]; rfl)) (by first | rfl | (simp only [g_alikeA, c_1, if_true, if_false, Bool.and_true, Bool.true_and, Bool.and_false, Bool.false_and, Bool.and_self, Bool.false_eq_true, ↓reduceIte, decide_true, decide_false, Int.toNat_natCast, Bool.toNat_true, Bool.toNat_false]; first | done | rfl | (simp only [if_true, if_true, if_false, Bool.and_true, Bool.true_and, Bool.and_false, Bool.false_and, Bool.and_self, Bool.false_eq_true, ↓reduceIte, decide_true, decide_false, Int.toNat_natCast, Bool.toNat_true, Bool.toNat_false]; first | done | rfl) | (simp only [if_true]; first | done | rfl) | (simp [if_true]; done) | (simp [if_true]; first | rfl | omega)) | (simp [g_alikeA, c_1]; done) | (simp [g_alikeA, c_1]; omega) | (simp only [g_alikeA, c_1, if_true, if_false, Bool.and_true, Bool.true_and, Bool.and_false, Bool.false_and, Bool.and_self, Bool.false_eq_true, ↓reduceIte, decide_true, decide_false, Int.toNat_natCast, Bool.toNat_true, Bool.toNat_false]; try simp only [if_true, if_true, if_false, Bool.and_true, Bool.true_and, Bool.and_false, Bool.false_and, Bool.and_self, Bool.false_eq_true, ↓reduceIte, decide_true, decide_false, Int.toNat_natCast, Bool.toNat_true, Bool.toNat_false]; rfl))
abbrev rm_X4_rests : Room := { frames := 2, cells := 0, slots := 0, locals := 48 }
set_option maxHeartbeats 4000000 in
set_option maxRecDepth 100000 in
theorem k_X4_rests (l : Launch) (D : va_G) (cI cB : ClassId) (q : Nat → Nat) (M : St) (w : Int) (hw : (-2147483648 ≤ w ∧ w < 2147483648)) (hbk : ∀ k, M 2 k < 256) : CtQ l yX4_rests cX4_rests 5 (some .int) rm_X4_rests D cI cB [.ref (q 0), .int (iI (w))] (wM q cI M) ((iI (g_rests (M 2) w))) := by
  refine CtQ.of RX4 (by decide) rfl (Nat.le_of_ble_eq_true rfl) ?_
  intro p e s m args below meth c H ls hH F hr hlk P hl
  have hl : lv_has ls 5 [(0, .ref (q 0)), (1, .int (iI (w)))] := hl
  refine r_iln F hl 1 rfl dX4_rests_0 rfl ?_
  refine r_ic F 0 dX4_rests_1 rfl ?_
  refine r_ic F 2 dX4_rests_2 rfl ?_
  refine r_sq F P (k_X4_in l D cI cB (w) ((0 : Int)) ((2 : Int)) (by omega) (by omega) (by omega)) gw_X4_40 [] rfl ⟨⟨rfl, rfl⟩, Nat.le_of_ble_eq_true rfl, Nat.le_of_ble_eq_true rfl⟩ ⟨Nat.le_of_ble_eq_true rfl, Nat.le_of_ble_eq_true rfl⟩ hl.1 rfl [] rfl (Nat.le_of_ble_eq_true rfl) dX4_rests_3 ?_
  refine r_zneb 11 F dX4_rests_6 (by decide) (fun c_1 => ?_) (fun c_1 => ?_)
  · have c_1d := c_1
    simp only [isIn, isP, decide_eq_true_eq, decide_eq_false_iff_not] at c_1d
    obtain ⟨w_, rfl⟩ : ∃ k : Nat, w = (k : Int) := ⟨w.toNat, by omega⟩
    have hl : lv_has ls 5 [(0, .ref (q 0)), (1, .int (iI ((w_ : Nat) : Int)))] := hl
    refine r_ic F 0 dX4_rests_11 rfl ?_
    refine r_isn (lv' := [(0, .ref (q 0)), (1, .int (iI ((w_ : Nat) : Int))), (2, .int (iI ((0 : Nat) : Int)))]) F hl dX4_rests_12 rfl (by decide) [1, 2, 0] rfl (fun ls hl => ?_)
    refine r_bpz F (-4) dX4_rests_13 rfl ?_
    refine r_isn (lv' := [(0, .ref (q 0)), (1, .int (iI ((w_ : Nat) : Int))), (2, .int (iI ((0 : Nat) : Int))), (3, .int (iI (-4)))]) F hl dX4_rests_15 rfl (by decide) [1, 2, 3, 0] rfl (fun ls hl => ?_)
    refine r_bp F 99 dX4_rests_16 rfl ?_
    refine r_is (lv' := [(0, .ref (q 0)), (1, .int (iI ((w_ : Nat) : Int))), (2, .int (iI ((0 : Nat) : Int))), (3, .int (iI (-4))), (4, .int (iI ((99 : Nat) : Int)))]) F hl dX4_rests_18 (by decide) [1, 2, 3, 4, 0] rfl (fun ls hl => ?_)
    have lp_2 : ∀ (nn_ : Nat) (j : Nat) (x : Nat) (y : Int) (ls : Array Slot), j < nn_ → (rtF (M 2 5) (M 2 6) (M 2 7) j x y = rtR (M 2)) → (x + j ≤ 100) → (y = -4 ∨ (0 ≤ y ∧ y < 100)) → (j ≤ 100) → lv_has ls 5 [(0, .ref (q 0)), (1, .int (iI ((w_ : Nat) : Int))), (2, .int (iI ((x : Nat) : Int))), (3, .int (iI (y))), (4, .int (iI ((((j : Nat) : Int) - 1))))] → W p l e rm_X4_rests s m args below meth c H [] 0 0 (Qq below args s ((iI (g_rests (M 2) ((w_ : Nat) : Int))))) (F0 m 20 ls []) := by
      intro nn_
      induction nn_ with
      | zero => intro j x y ls hlt; exact absurd hlt (Nat.not_lt_zero _)
      | succ nn_ ih =>
        have ih_3 := ih; clear ih
        intro j x y ls hlt hI hx hy hj hl
        have hlt_4 := hlt
        refine r_il F hl 4 rfl dX4_rests_20 ?_
        refine r_zltz (a := (((j : Nat) : Int) - 1)) 54 F dX4_rests_22 (by decide) (by omega) (fun c_5 => ?_) (fun c_5 => ?_)
        · have he_ : rtR (M 2) = (x, y) := by rw [← hI, show j = 0 from by omega]; rfl
          refine r_iln F hl 1 rfl dX4_rests_54 rfl ?_
          refine r_zne 62 F dX4_rests_55 (by decide) (by omega) (fun c_6 => ?_) (fun c_6 => ?_)
          · refine r_iln F hl 3 rfl dX4_rests_62 rfl ?_
            refine r_bpz F (-4) dX4_rests_63 rfl ?_
            refine r_cnez (a := y) (b := -4) 73 F dX4_rests_65 (by decide) (by omega) (fun c_7 => ?_) (fun c_7 => ?_)
            · obtain ⟨y_, rfl⟩ : ∃ k : Nat, y = (k : Int) := ⟨y.toNat, by omega⟩
              have hl : lv_has ls 5 [(0, .ref (q 0)), (1, .int (iI ((w_ : Nat) : Int))), (2, .int (iI ((x : Nat) : Int))), (3, .int (iI ((y_ : Nat) : Int))), (4, .int (iI ((((j : Nat) : Int) - 1))))] := hl
              refine r_iln F hl 1 rfl dX4_rests_73 rfl ?_
              refine r_ic F 1 dX4_rests_74 rfl ?_
              refine r_cne 85 F dX4_rests_75 (by decide) (by omega) (fun c_8 => ?_) (fun c_8 => ?_)
              · refine r_iln F hl 3 rfl dX4_rests_85 rfl ?_
                refine r_bp F 10 dX4_rests_86 rfl ?_
                refine r_rem F dX4_rests_88 (by omega) ?_
                exact r_retQ F hr hlk hH dX4_rests_89 (by first | rfl | (simp only [g_rests, c_1, he_, if_true, if_false, Bool.and_true, Bool.true_and, Bool.and_false, Bool.false_and, Bool.and_self, Bool.false_eq_true, ↓reduceIte, decide_true, decide_false, Int.toNat_natCast, Bool.toNat_true, Bool.toNat_false]; first | done | rfl | (simp only [c_5, (Int.not_le.mpr c_5), c_6, c_7, c_8, if_true, if_false, Bool.and_true, Bool.true_and, Bool.and_false, Bool.false_and, Bool.and_self, Bool.false_eq_true, ↓reduceIte, decide_true, decide_false, Int.toNat_natCast, Bool.toNat_true, Bool.toNat_false]; first | done | rfl) | (simp only [if_pos c_5, if_neg (Int.not_le.mpr c_5), if_neg c_6, if_neg c_7, if_neg c_8]; first | done | rfl) | (simp [c_5, (Int.not_le.mpr c_5), c_6, c_7, c_8]; done) | (simp [c_5, (Int.not_le.mpr c_5), c_6, c_7, c_8]; first | rfl | omega)) | (simp [g_rests, c_1, c_5, (Int.not_le.mpr c_5), c_6, c_7, c_8, he_]; done) | (simp [g_rests, c_1, c_5, (Int.not_le.mpr c_5), c_6, c_7, c_8, he_]; omega) | (simp only [g_rests, c_1, he_, if_true, if_false, Bool.and_true, Bool.true_and, Bool.and_false, Bool.false_and, Bool.and_self, Bool.false_eq_true, ↓reduceIte, decide_true, decide_false, Int.toNat_natCast, Bool.toNat_true, Bool.toNat_false]; try simp only [c_5, (Int.not_le.mpr c_5), c_6, c_7, c_8, if_true, if_false, Bool.and_true, Bool.true_and, Bool.and_false, Bool.false_and, Bool.and_self, Bool.false_eq_true, ↓reduceIte, decide_true, decide_false, Int.toNat_natCast, Bool.toNat_true, Bool.toNat_false]; rfl))
              · refine r_iln F hl 3 rfl dX4_rests_78 rfl ?_
                refine r_bp F 10 dX4_rests_79 rfl ?_
                refine r_div F dX4_rests_81 (by omega) ?_
                refine r_goto 89 F dX4_rests_82 (by decide) ?_
                exact r_retQ F hr hlk hH dX4_rests_89 (by first | rfl | (simp only [g_rests, c_1, he_, if_true, if_false, Bool.and_true, Bool.true_and, Bool.and_false, Bool.false_and, Bool.and_self, Bool.false_eq_true, ↓reduceIte, decide_true, decide_false, Int.toNat_natCast, Bool.toNat_true, Bool.toNat_false]; first | done | rfl | (simp only [c_5, (Int.not_le.mpr c_5), c_6, c_7, c_8, if_true, if_false, Bool.and_true, Bool.true_and, Bool.and_false, Bool.false_and, Bool.and_self, Bool.false_eq_true, ↓reduceIte, decide_true, decide_false, Int.toNat_natCast, Bool.toNat_true, Bool.toNat_false]; first | done | rfl) | (simp only [if_pos c_5, if_neg (Int.not_le.mpr c_5), if_neg c_6, if_neg c_7, if_pos c_8]; first | done | rfl) | (simp [c_5, (Int.not_le.mpr c_5), c_6, c_7, c_8]; done) | (simp [c_5, (Int.not_le.mpr c_5), c_6, c_7, c_8]; first | rfl | omega)) | (simp [g_rests, c_1, c_5, (Int.not_le.mpr c_5), c_6, c_7, c_8, he_]; done) | (simp [g_rests, c_1, c_5, (Int.not_le.mpr c_5), c_6, c_7, c_8, he_]; omega) | (simp only [g_rests, c_1, he_, if_true, if_false, Bool.and_true, Bool.true_and, Bool.and_false, Bool.false_and, Bool.and_self, Bool.false_eq_true, ↓reduceIte, decide_true, decide_false, Int.toNat_natCast, Bool.toNat_true, Bool.toNat_false]; try simp only [c_5, (Int.not_le.mpr c_5), c_6, c_7, c_8, if_true, if_false, Bool.and_true, Bool.true_and, Bool.and_false, Bool.false_and, Bool.and_self, Bool.false_eq_true, ↓reduceIte, decide_true, decide_false, Int.toNat_natCast, Bool.toNat_true, Bool.toNat_false]; rfl))
            · refine r_bpz F (-4) dX4_rests_68 rfl ?_
              refine r_goto 89 F dX4_rests_70 (by decide) ?_
              exact r_retQ F hr hlk hH dX4_rests_89 (by first | rfl | (simp only [g_rests, c_1, he_, if_true, if_false, Bool.and_true, Bool.true_and, Bool.and_false, Bool.false_and, Bool.and_self, Bool.false_eq_true, ↓reduceIte, decide_true, decide_false, Int.toNat_natCast, Bool.toNat_true, Bool.toNat_false]; first | done | rfl | (simp only [c_5, (Int.not_le.mpr c_5), c_6, c_7, if_true, if_false, Bool.and_true, Bool.true_and, Bool.and_false, Bool.false_and, Bool.and_self, Bool.false_eq_true, ↓reduceIte, decide_true, decide_false, Int.toNat_natCast, Bool.toNat_true, Bool.toNat_false]; first | done | rfl) | (simp only [if_pos c_5, if_neg (Int.not_le.mpr c_5), if_neg c_6, if_pos c_7]; first | done | rfl) | (simp [c_5, (Int.not_le.mpr c_5), c_6, c_7]; done) | (simp [c_5, (Int.not_le.mpr c_5), c_6, c_7]; first | rfl | omega)) | (simp [g_rests, c_1, c_5, (Int.not_le.mpr c_5), c_6, c_7, he_]; done) | (simp [g_rests, c_1, c_5, (Int.not_le.mpr c_5), c_6, c_7, he_]; omega) | (simp only [g_rests, c_1, he_, if_true, if_false, Bool.and_true, Bool.true_and, Bool.and_false, Bool.false_and, Bool.and_self, Bool.false_eq_true, ↓reduceIte, decide_true, decide_false, Int.toNat_natCast, Bool.toNat_true, Bool.toNat_false]; try simp only [c_5, (Int.not_le.mpr c_5), c_6, c_7, if_true, if_false, Bool.and_true, Bool.true_and, Bool.and_false, Bool.false_and, Bool.and_self, Bool.false_eq_true, ↓reduceIte, decide_true, decide_false, Int.toNat_natCast, Bool.toNat_true, Bool.toNat_false]; rfl))
          · refine r_iln F hl 2 rfl dX4_rests_58 rfl ?_
            refine r_goto 89 F dX4_rests_59 (by decide) ?_
            exact r_retQ F hr hlk hH dX4_rests_89 (by first | rfl | (simp only [g_rests, c_1, he_, if_true, if_false, Bool.and_true, Bool.true_and, Bool.and_false, Bool.false_and, Bool.and_self, Bool.false_eq_true, ↓reduceIte, decide_true, decide_false, Int.toNat_natCast, Bool.toNat_true, Bool.toNat_false]; first | done | rfl | (simp only [c_5, (Int.not_le.mpr c_5), c_6, if_true, if_false, Bool.and_true, Bool.true_and, Bool.and_false, Bool.false_and, Bool.and_self, Bool.false_eq_true, ↓reduceIte, decide_true, decide_false, Int.toNat_natCast, Bool.toNat_true, Bool.toNat_false]; first | done | rfl) | (simp only [if_pos c_5, if_neg (Int.not_le.mpr c_5), if_pos c_6]; first | done | rfl) | (simp [c_5, (Int.not_le.mpr c_5), c_6]; done) | (simp [c_5, (Int.not_le.mpr c_5), c_6]; first | rfl | omega)) | (simp [g_rests, c_1, c_5, (Int.not_le.mpr c_5), c_6, he_]; done) | (simp [g_rests, c_1, c_5, (Int.not_le.mpr c_5), c_6, he_]; omega) | (simp only [g_rests, c_1, he_, if_true, if_false, Bool.and_true, Bool.true_and, Bool.and_false, Bool.false_and, Bool.and_self, Bool.false_eq_true, ↓reduceIte, decide_true, decide_false, Int.toNat_natCast, Bool.toNat_true, Bool.toNat_false]; try simp only [c_5, (Int.not_le.mpr c_5), c_6, if_true, if_false, Bool.and_true, Bool.true_and, Bool.and_false, Bool.false_and, Bool.and_self, Bool.false_eq_true, ↓reduceIte, decide_true, decide_false, Int.toNat_natCast, Bool.toNat_true, Bool.toNat_false]; rfl))
        · have hl : lv_has ls 5 [(0, .ref (q 0)), (1, .int (iI ((w_ : Nat) : Int))), (2, .int (iI ((x : Nat) : Int))), (3, .int (iI (y))), (4, .int (iI (((j - 1) : Nat) : Int)))] := by
            rw [show (((j : Nat) : Int) - 1) = (((j - 1) : Nat) : Int) from by omega] at hl
            exact hl
          refine r_aln F hl 0 rfl dX4_rests_25 rfl ?_
          refine r_il F hl 4 rfl dX4_rests_26 ?_
          refine r_bp F 10 dX4_rests_28 rfl ?_
          refine r_div F dX4_rests_30 (by omega) ?_
          refine r_il F hl 4 rfl dX4_rests_31 ?_
          refine r_bp F 10 dX4_rests_33 rfl ?_
          refine r_rem F dX4_rests_35 (by omega) ?_
          refine r_cq F P (k_X4_rest l D cI cB (q) (M) (((j - 1) / 10)) (((j - 1) % 10)) (by omega) hbk) gw_X4_136 [0, 1, 2, 3, 4, 5, 6, 7, 8, 9, 10] rfl rfl rfl ⟨⟨rfl, rfl⟩, Nat.le_of_ble_eq_true rfl, Nat.le_of_ble_eq_true rfl⟩ ⟨Nat.le_of_ble_eq_true rfl, Nat.le_of_ble_eq_true rfl⟩ hl.1 rfl [] rfl (Nat.le_of_ble_eq_true rfl) dX4_rests_36 ?_
          refine r_zeqb 48 F dX4_rests_39 (by decide) (fun c_9 => ?_) (fun c_9 => ?_)
          · refine r_incz (lv' := [(0, .ref (q 0)), (1, .int (iI ((w_ : Nat) : Int))), (2, .int (iI ((x : Nat) : Int))), (3, .int (iI (y))), (4, .int (iI ((((j - 1 : Nat) : Int) - 1))))]) (b := (((j - 1 : Nat) : Int) - 1)) F hl 4 rfl dX4_rests_48 (by omega) (by decide) [1, 2, 3, 4, 0] rfl (fun ls hl => ?_)
            refine r_goto 20 F dX4_rests_51 (by decide) ?_
            exact ih_3 (j - 1) (x) (y) ls (by omega) (by rw [← hI]; obtain ⟨j_, rfl⟩ : ∃ a, j = a + 1 := ⟨j - 1, by omega⟩; have hc_ := c_9; simp only [Nat.add_sub_cancel] at hc_ ⊢; simp only [rtF, hc_, if_true, if_false, Bool.false_eq_true]) (by omega) (by omega) (by omega) hl
          · refine r_inc (lv' := [(0, .ref (q 0)), (1, .int (iI ((w_ : Nat) : Int))), (2, .int (iI (((x + 1) : Nat) : Int))), (3, .int (iI (y))), (4, .int (iI (((j - 1) : Nat) : Int)))]) F hl 2 rfl dX4_rests_42 1 rfl (by decide) [1, 2, 0, 3, 4] rfl (fun ls hl => ?_)
            refine r_il F hl 4 rfl dX4_rests_45 ?_
            refine r_isn (lv' := [(0, .ref (q 0)), (1, .int (iI ((w_ : Nat) : Int))), (2, .int (iI (((x + 1) : Nat) : Int))), (3, .int (iI (((j - 1) : Nat) : Int))), (4, .int (iI (((j - 1) : Nat) : Int)))]) F hl dX4_rests_47 rfl (by decide) [1, 2, 3, 0, 4] rfl (fun ls hl => ?_)
            refine r_incz (lv' := [(0, .ref (q 0)), (1, .int (iI ((w_ : Nat) : Int))), (2, .int (iI (((x + 1) : Nat) : Int))), (3, .int (iI (((j - 1) : Nat) : Int))), (4, .int (iI ((((j - 1 : Nat) : Int) - 1))))]) (b := (((j - 1 : Nat) : Int) - 1)) F hl 4 rfl dX4_rests_48 (by omega) (by decide) [1, 2, 3, 4, 0] rfl (fun ls hl => ?_)
            refine r_goto 20 F dX4_rests_51 (by decide) ?_
            exact ih_3 (j - 1) ((x + 1)) ((((j - 1) : Nat) : Int)) ls (by omega) (by rw [← hI]; obtain ⟨j_, rfl⟩ : ∃ a, j = a + 1 := ⟨j - 1, by omega⟩; have hc_ := c_9; simp only [Nat.add_sub_cancel] at hc_ ⊢; simp only [rtF, hc_, if_true, if_false, Bool.false_eq_true]) (by omega) (by omega) (by omega) hl
    exact lp_2 _ (100) (0) (-4) ls (Nat.lt_succ_self _) rfl (by omega) (by omega) (by omega) hl
  · have c_1d := c_1
    simp only [isIn, isP, decide_eq_true_eq, decide_eq_false_iff_not] at c_1d
    refine r_icz F (-1) dX4_rests_9 rfl ?_
    exact r_retQ F hr hlk hH dX4_rests_10 (by first | rfl | (simp only [g_rests, c_1, if_true, if_false, Bool.and_true, Bool.true_and, Bool.and_false, Bool.false_and, Bool.and_self, Bool.false_eq_true, ↓reduceIte, decide_true, decide_false, Int.toNat_natCast, Bool.toNat_true, Bool.toNat_false]; first | done | rfl | (simp only [if_true, if_true, if_false, Bool.and_true, Bool.true_and, Bool.and_false, Bool.false_and, Bool.and_self, Bool.false_eq_true, ↓reduceIte, decide_true, decide_false, Int.toNat_natCast, Bool.toNat_true, Bool.toNat_false]; first | done | rfl) | (simp only [if_true]; first | done | rfl) | (simp [if_true]; done) | (simp [if_true]; first | rfl | omega)) | (simp [g_rests, c_1]; done) | (simp [g_rests, c_1]; omega) | (simp only [g_rests, c_1, if_true, if_false, Bool.and_true, Bool.true_and, Bool.and_false, Bool.false_and, Bool.and_self, Bool.false_eq_true, ↓reduceIte, decide_true, decide_false, Int.toNat_natCast, Bool.toNat_true, Bool.toNat_false]; try simp only [if_true, if_true, if_false, Bool.and_true, Bool.true_and, Bool.and_false, Bool.false_and, Bool.and_self, Bool.false_eq_true, ↓reduceIte, decide_true, decide_false, Int.toNat_natCast, Bool.toNat_true, Bool.toNat_false]; rfl))
abbrev rm_X4_count : Room := { frames := 1, cells := 0, slots := 0, locals := 22 }
set_option maxHeartbeats 4000000 in
set_option maxRecDepth 100000 in
theorem k_X4_count (l : Launch) (D : va_G) (cI cB : ClassId) (q : Nat → Nat) (M : St) (w : Int) (hw : (-2147483648 ≤ w ∧ w < 2147483648)) (hp : 1 ≤ M 2 0 ∧ M 2 0 ≤ 5) (hbk : ∀ k, M 2 k < 256) (hs : ∀ k, M 4 k < 65536) : CtQ l yX4_count cX4_count 2 (some .int) rm_X4_count D cI cB [.ref (q 0), .int (iI (w))] (wM q cI M) ((iI (g_count M w))) := by
  refine CtQ.of RX4 (by decide) rfl (Nat.le_of_ble_eq_true rfl) ?_
  intro p e s m args below meth c H ls hH F hr hlk P hl
  have hl : lv_has ls 2 [(0, .ref (q 0)), (1, .int (iI (w)))] := hl
  refine r_iln F hl 1 rfl dX4_count_0 rfl ?_
  refine r_ic F 0 dX4_count_1 rfl ?_
  refine r_ic F 2 dX4_count_2 rfl ?_
  refine r_sq F P (k_X4_in l D cI cB (w) ((0 : Int)) ((2 : Int)) (by omega) (by omega) (by omega)) gw_X4_40 [] rfl ⟨⟨rfl, rfl⟩, Nat.le_of_ble_eq_true rfl, Nat.le_of_ble_eq_true rfl⟩ ⟨Nat.le_of_ble_eq_true rfl, Nat.le_of_ble_eq_true rfl⟩ hl.1 rfl [] rfl (Nat.le_of_ble_eq_true rfl) dX4_count_3 ?_
  refine r_zeqb 18 F dX4_count_6 (by decide) (fun c_1 => ?_) (fun c_1 => ?_)
  · have c_1d := c_1
    simp only [isIn, isP, decide_eq_true_eq, decide_eq_false_iff_not] at c_1d
    refine r_iln F hl 1 rfl dX4_count_18 rfl ?_
    refine r_ic F 3 dX4_count_19 rfl ?_
    refine r_cnez (a := w) (b := (3 : Int)) 32 F dX4_count_20 (by decide) (by omega) (fun c_2 => ?_) (fun c_2 => ?_)
    · refine r_iln F hl 1 rfl dX4_count_32 rfl ?_
      refine r_ic F 4 dX4_count_33 rfl ?_
      refine r_cnez (a := w) (b := (4 : Int)) 44 F dX4_count_34 (by decide) (by omega) (fun c_3 => ?_) (fun c_3 => ?_)
      · refine r_iln F hl 1 rfl dX4_count_44 rfl ?_
        refine r_ic F 5 dX4_count_45 rfl ?_
        refine r_cnez (a := w) (b := (5 : Int)) 56 F dX4_count_46 (by decide) (by omega) (fun c_4 => ?_) (fun c_4 => ?_)
        · refine r_iln F hl 1 rfl dX4_count_56 rfl ?_
          refine r_bp F 6 dX4_count_57 rfl ?_
          refine r_cnez (a := w) (b := (6 : Int)) 69 F dX4_count_59 (by decide) (by omega) (fun c_5 => ?_) (fun c_5 => ?_)
          · refine r_iln F hl 1 rfl dX4_count_69 rfl ?_
            refine r_bp F 7 dX4_count_70 rfl ?_
            refine r_cnez (a := w) (b := (7 : Int)) 84 F dX4_count_72 (by decide) (by omega) (fun c_6 => ?_) (fun c_6 => ?_)
            · refine r_iln F hl 1 rfl dX4_count_84 rfl ?_
              refine r_bp F 8 dX4_count_85 rfl ?_
              refine r_cnez (a := w) (b := (8 : Int)) 99 F dX4_count_87 (by decide) (by omega) (fun c_7 => ?_) (fun c_7 => ?_)
              · refine r_icz F (-1) dX4_count_99 rfl ?_
                exact r_retQ F hr hlk hH dX4_count_100 (by first | rfl | (simp only [g_count, c_1, if_true, if_false, Bool.and_true, Bool.true_and, Bool.and_false, Bool.false_and, Bool.and_self, Bool.false_eq_true, ↓reduceIte, decide_true, decide_false, Int.toNat_natCast, Bool.toNat_true, Bool.toNat_false]; first | done | rfl | (simp only [c_2, c_3, c_4, c_5, c_6, c_7, if_true, if_false, Bool.and_true, Bool.true_and, Bool.and_false, Bool.false_and, Bool.and_self, Bool.false_eq_true, ↓reduceIte, decide_true, decide_false, Int.toNat_natCast, Bool.toNat_true, Bool.toNat_false]; first | done | rfl) | (simp only [if_neg c_2, if_neg c_3, if_neg c_4, if_neg c_5, if_neg c_6, if_neg c_7]; first | done | rfl) | (simp [c_2, c_3, c_4, c_5, c_6, c_7]; done) | (simp [c_2, c_3, c_4, c_5, c_6, c_7]; first | rfl | omega)) | (simp [g_count, c_1, c_2, c_3, c_4, c_5, c_6, c_7]; done) | (simp [g_count, c_1, c_2, c_3, c_4, c_5, c_6, c_7]; omega) | (simp only [g_count, c_1, if_true, if_false, Bool.and_true, Bool.true_and, Bool.and_false, Bool.false_and, Bool.and_self, Bool.false_eq_true, ↓reduceIte, decide_true, decide_false, Int.toNat_natCast, Bool.toNat_true, Bool.toNat_false]; try simp only [c_2, c_3, c_4, c_5, c_6, c_7, if_true, if_false, Bool.and_true, Bool.true_and, Bool.and_false, Bool.false_and, Bool.and_self, Bool.false_eq_true, ↓reduceIte, decide_true, decide_false, Int.toNat_natCast, Bool.toNat_true, Bool.toNat_false]; rfl))
              · refine r_aln F hl 0 rfl dX4_count_90 rfl ?_
                refine gf_X4_13 F P 0 rfl (.ref (q 3)) rfl dX4_count_91 ?_
                refine r_ic F 4 dX4_count_94 rfl ?_
                refine r_ald (f := M 2) F P 2 rfl dX4_count_95 (by decide) (by omega) ?_
                have b_8 : M 2 (4) < 256 := hbk (4)
                refine r_goto 100 F dX4_count_96 (by decide) ?_
                exact r_retQ F hr hlk hH dX4_count_100 (by first | rfl | (simp only [g_count, c_1, if_true, if_false, Bool.and_true, Bool.true_and, Bool.and_false, Bool.false_and, Bool.and_self, Bool.false_eq_true, ↓reduceIte, decide_true, decide_false, Int.toNat_natCast, Bool.toNat_true, Bool.toNat_false]; first | done | rfl | (simp only [c_2, c_3, c_4, c_5, c_6, c_7, if_true, if_false, Bool.and_true, Bool.true_and, Bool.and_false, Bool.false_and, Bool.and_self, Bool.false_eq_true, ↓reduceIte, decide_true, decide_false, Int.toNat_natCast, Bool.toNat_true, Bool.toNat_false]; first | done | rfl) | (simp only [if_neg c_2, if_neg c_3, if_neg c_4, if_neg c_5, if_neg c_6, if_pos c_7]; first | done | rfl) | (simp [c_2, c_3, c_4, c_5, c_6, c_7]; done) | (simp [c_2, c_3, c_4, c_5, c_6, c_7]; first | rfl | omega)) | (simp [g_count, c_1, c_2, c_3, c_4, c_5, c_6, c_7]; done) | (simp [g_count, c_1, c_2, c_3, c_4, c_5, c_6, c_7]; omega) | (simp only [g_count, c_1, if_true, if_false, Bool.and_true, Bool.true_and, Bool.and_false, Bool.false_and, Bool.and_self, Bool.false_eq_true, ↓reduceIte, decide_true, decide_false, Int.toNat_natCast, Bool.toNat_true, Bool.toNat_false]; try simp only [c_2, c_3, c_4, c_5, c_6, c_7, if_true, if_false, Bool.and_true, Bool.true_and, Bool.and_false, Bool.false_and, Bool.and_self, Bool.false_eq_true, ↓reduceIte, decide_true, decide_false, Int.toNat_natCast, Bool.toNat_true, Bool.toNat_false]; rfl))
            · refine r_aln F hl 0 rfl dX4_count_75 rfl ?_
              refine gf_X4_13 F P 0 rfl (.ref (q 3)) rfl dX4_count_76 ?_
              refine r_ic F 3 dX4_count_79 rfl ?_
              refine r_ald (f := M 2) F P 2 rfl dX4_count_80 (by decide) (by omega) ?_
              have b_9 : M 2 (3) < 256 := hbk (3)
              refine r_goto 100 F dX4_count_81 (by decide) ?_
              exact r_retQ F hr hlk hH dX4_count_100 (by first | rfl | (simp only [g_count, c_1, if_true, if_false, Bool.and_true, Bool.true_and, Bool.and_false, Bool.false_and, Bool.and_self, Bool.false_eq_true, ↓reduceIte, decide_true, decide_false, Int.toNat_natCast, Bool.toNat_true, Bool.toNat_false]; first | done | rfl | (simp only [c_2, c_3, c_4, c_5, c_6, if_true, if_false, Bool.and_true, Bool.true_and, Bool.and_false, Bool.false_and, Bool.and_self, Bool.false_eq_true, ↓reduceIte, decide_true, decide_false, Int.toNat_natCast, Bool.toNat_true, Bool.toNat_false]; first | done | rfl) | (simp only [if_neg c_2, if_neg c_3, if_neg c_4, if_neg c_5, if_pos c_6]; first | done | rfl) | (simp [c_2, c_3, c_4, c_5, c_6]; done) | (simp [c_2, c_3, c_4, c_5, c_6]; first | rfl | omega)) | (simp [g_count, c_1, c_2, c_3, c_4, c_5, c_6]; done) | (simp [g_count, c_1, c_2, c_3, c_4, c_5, c_6]; omega) | (simp only [g_count, c_1, if_true, if_false, Bool.and_true, Bool.true_and, Bool.and_false, Bool.false_and, Bool.and_self, Bool.false_eq_true, ↓reduceIte, decide_true, decide_false, Int.toNat_natCast, Bool.toNat_true, Bool.toNat_false]; try simp only [c_2, c_3, c_4, c_5, c_6, if_true, if_false, Bool.and_true, Bool.true_and, Bool.and_false, Bool.false_and, Bool.and_self, Bool.false_eq_true, ↓reduceIte, decide_true, decide_false, Int.toNat_natCast, Bool.toNat_true, Bool.toNat_false]; rfl))
          · refine r_aln F hl 0 rfl dX4_count_62 rfl ?_
            refine gf_X4_44 F P 0 rfl (.int (iI ((M 1 0 : Nat) : Int))) rfl dX4_count_63 ?_
            refine r_goto 100 F dX4_count_66 (by decide) ?_
            exact r_retQ F hr hlk hH dX4_count_100 (by first | rfl | (simp only [g_count, c_1, if_true, if_false, Bool.and_true, Bool.true_and, Bool.and_false, Bool.false_and, Bool.and_self, Bool.false_eq_true, ↓reduceIte, decide_true, decide_false, Int.toNat_natCast, Bool.toNat_true, Bool.toNat_false]; first | done | rfl | (simp only [c_2, c_3, c_4, c_5, if_true, if_false, Bool.and_true, Bool.true_and, Bool.and_false, Bool.false_and, Bool.and_self, Bool.false_eq_true, ↓reduceIte, decide_true, decide_false, Int.toNat_natCast, Bool.toNat_true, Bool.toNat_false]; first | done | rfl) | (simp only [if_neg c_2, if_neg c_3, if_neg c_4, if_pos c_5]; first | done | rfl) | (simp [c_2, c_3, c_4, c_5]; done) | (simp [c_2, c_3, c_4, c_5]; first | rfl | omega)) | (simp [g_count, c_1, c_2, c_3, c_4, c_5]; done) | (simp [g_count, c_1, c_2, c_3, c_4, c_5]; omega) | (simp only [g_count, c_1, if_true, if_false, Bool.and_true, Bool.true_and, Bool.and_false, Bool.false_and, Bool.and_self, Bool.false_eq_true, ↓reduceIte, decide_true, decide_false, Int.toNat_natCast, Bool.toNat_true, Bool.toNat_false]; try simp only [c_2, c_3, c_4, c_5, if_true, if_false, Bool.and_true, Bool.true_and, Bool.and_false, Bool.false_and, Bool.and_self, Bool.false_eq_true, ↓reduceIte, decide_true, decide_false, Int.toNat_natCast, Bool.toNat_true, Bool.toNat_false]; rfl))
        · refine r_aln F hl 0 rfl dX4_count_49 rfl ?_
          refine gf_X4_96 F P 0 rfl (.int (iI ((M 7 0 : Nat) : Int))) rfl dX4_count_50 ?_
          refine r_goto 100 F dX4_count_53 (by decide) ?_
          exact r_retQ F hr hlk hH dX4_count_100 (by first | rfl | (simp only [g_count, c_1, if_true, if_false, Bool.and_true, Bool.true_and, Bool.and_false, Bool.false_and, Bool.and_self, Bool.false_eq_true, ↓reduceIte, decide_true, decide_false, Int.toNat_natCast, Bool.toNat_true, Bool.toNat_false]; first | done | rfl | (simp only [c_2, c_3, c_4, if_true, if_false, Bool.and_true, Bool.true_and, Bool.and_false, Bool.false_and, Bool.and_self, Bool.false_eq_true, ↓reduceIte, decide_true, decide_false, Int.toNat_natCast, Bool.toNat_true, Bool.toNat_false]; first | done | rfl) | (simp only [if_neg c_2, if_neg c_3, if_pos c_4]; first | done | rfl) | (simp [c_2, c_3, c_4]; done) | (simp [c_2, c_3, c_4]; first | rfl | omega)) | (simp [g_count, c_1, c_2, c_3, c_4]; done) | (simp [g_count, c_1, c_2, c_3, c_4]; omega) | (simp only [g_count, c_1, if_true, if_false, Bool.and_true, Bool.true_and, Bool.and_false, Bool.false_and, Bool.and_self, Bool.false_eq_true, ↓reduceIte, decide_true, decide_false, Int.toNat_natCast, Bool.toNat_true, Bool.toNat_false]; try simp only [c_2, c_3, c_4, if_true, if_false, Bool.and_true, Bool.true_and, Bool.and_false, Bool.false_and, Bool.and_self, Bool.false_eq_true, ↓reduceIte, decide_true, decide_false, Int.toNat_natCast, Bool.toNat_true, Bool.toNat_false]; rfl))
      · refine r_aln F hl 0 rfl dX4_count_37 rfl ?_
        refine gf_X4_93 F P 0 rfl (.int (iI ((M 11 0 : Nat) : Int))) rfl dX4_count_38 ?_
        refine r_goto 100 F dX4_count_41 (by decide) ?_
        exact r_retQ F hr hlk hH dX4_count_100 (by first | rfl | (simp only [g_count, c_1, if_true, if_false, Bool.and_true, Bool.true_and, Bool.and_false, Bool.false_and, Bool.and_self, Bool.false_eq_true, ↓reduceIte, decide_true, decide_false, Int.toNat_natCast, Bool.toNat_true, Bool.toNat_false]; first | done | rfl | (simp only [c_2, c_3, if_true, if_false, Bool.and_true, Bool.true_and, Bool.and_false, Bool.false_and, Bool.and_self, Bool.false_eq_true, ↓reduceIte, decide_true, decide_false, Int.toNat_natCast, Bool.toNat_true, Bool.toNat_false]; first | done | rfl) | (simp only [if_neg c_2, if_pos c_3]; first | done | rfl) | (simp [c_2, c_3]; done) | (simp [c_2, c_3]; first | rfl | omega)) | (simp [g_count, c_1, c_2, c_3]; done) | (simp [g_count, c_1, c_2, c_3]; omega) | (simp only [g_count, c_1, if_true, if_false, Bool.and_true, Bool.true_and, Bool.and_false, Bool.false_and, Bool.and_self, Bool.false_eq_true, ↓reduceIte, decide_true, decide_false, Int.toNat_natCast, Bool.toNat_true, Bool.toNat_false]; try simp only [c_2, c_3, if_true, if_false, Bool.and_true, Bool.true_and, Bool.and_false, Bool.false_and, Bool.and_self, Bool.false_eq_true, ↓reduceIte, decide_true, decide_false, Int.toNat_natCast, Bool.toNat_true, Bool.toNat_false]; rfl))
    · refine r_aln F hl 0 rfl dX4_count_23 rfl ?_
      refine gf_X4_19 F P 0 rfl (.ref (q 5)) rfl dX4_count_24 ?_
      refine r_ic F 0 dX4_count_27 rfl ?_
      refine r_ald (f := M 4) F P 4 rfl dX4_count_28 (by decide) (by omega) ?_
      have b_10 : M 4 (0) < 65536 := hs (0)
      refine r_goto 100 F dX4_count_29 (by decide) ?_
      exact r_retQ F hr hlk hH dX4_count_100 (by first | rfl | (simp only [g_count, c_1, if_true, if_false, Bool.and_true, Bool.true_and, Bool.and_false, Bool.false_and, Bool.and_self, Bool.false_eq_true, ↓reduceIte, decide_true, decide_false, Int.toNat_natCast, Bool.toNat_true, Bool.toNat_false]; first | done | rfl | (simp only [c_2, if_true, if_false, Bool.and_true, Bool.true_and, Bool.and_false, Bool.false_and, Bool.and_self, Bool.false_eq_true, ↓reduceIte, decide_true, decide_false, Int.toNat_natCast, Bool.toNat_true, Bool.toNat_false]; first | done | rfl) | (simp only [if_pos c_2]; first | done | rfl) | (simp [c_2]; done) | (simp [c_2]; first | rfl | omega)) | (simp [g_count, c_1, c_2]; done) | (simp [g_count, c_1, c_2]; omega) | (simp only [g_count, c_1, if_true, if_false, Bool.and_true, Bool.true_and, Bool.and_false, Bool.false_and, Bool.and_self, Bool.false_eq_true, ↓reduceIte, decide_true, decide_false, Int.toNat_natCast, Bool.toNat_true, Bool.toNat_false]; try simp only [c_2, if_true, if_false, Bool.and_true, Bool.true_and, Bool.and_false, Bool.false_and, Bool.and_self, Bool.false_eq_true, ↓reduceIte, decide_true, decide_false, Int.toNat_natCast, Bool.toNat_true, Bool.toNat_false]; rfl))
  · have c_1d := c_1
    simp only [isIn, isP, decide_eq_true_eq, decide_eq_false_iff_not] at c_1d
    obtain ⟨w_, rfl⟩ : ∃ k : Nat, w = (k : Int) := ⟨w.toNat, by omega⟩
    have hl : lv_has ls 2 [(0, .ref (q 0)), (1, .int (iI ((w_ : Nat) : Int)))] := hl
    refine r_aln F hl 0 rfl dX4_count_9 rfl ?_
    refine gf_X4_13 F P 0 rfl (.ref (q 3)) rfl dX4_count_10 ?_
    refine r_iln F hl 1 rfl dX4_count_13 rfl ?_
    refine r_ald (f := M 2) F P 2 rfl dX4_count_14 (by decide) (by omega) ?_
    have b_11 : M 2 (w_) < 256 := hbk (w_)
    refine r_goto 100 F dX4_count_15 (by decide) ?_
    exact r_retQ F hr hlk hH dX4_count_100 (by first | rfl | (simp only [g_count, c_1, if_true, if_false, Bool.and_true, Bool.true_and, Bool.and_false, Bool.false_and, Bool.and_self, Bool.false_eq_true, ↓reduceIte, decide_true, decide_false, Int.toNat_natCast, Bool.toNat_true, Bool.toNat_false]; first | done | rfl | (simp only [if_true, if_true, if_false, Bool.and_true, Bool.true_and, Bool.and_false, Bool.false_and, Bool.and_self, Bool.false_eq_true, ↓reduceIte, decide_true, decide_false, Int.toNat_natCast, Bool.toNat_true, Bool.toNat_false]; first | done | rfl) | (simp only [if_true]; first | done | rfl) | (simp [if_true]; done) | (simp [if_true]; first | rfl | omega)) | (simp [g_count, c_1]; done) | (simp [g_count, c_1]; omega) | (simp only [g_count, c_1, if_true, if_false, Bool.and_true, Bool.true_and, Bool.and_false, Bool.false_and, Bool.and_self, Bool.false_eq_true, ↓reduceIte, decide_true, decide_false, Int.toNat_natCast, Bool.toNat_true, Bool.toNat_false]; try simp only [if_true, if_true, if_false, Bool.and_true, Bool.true_and, Bool.and_false, Bool.false_and, Bool.and_self, Bool.false_eq_true, ↓reduceIte, decide_true, decide_false, Int.toNat_natCast, Bool.toNat_true, Bool.toNat_false]; rfl))
abbrev rm_X4_seen : Room := { frames := 2, cells := 0, slots := 0, locals := 42 }
set_option maxHeartbeats 4000000 in
set_option maxRecDepth 100000 in
theorem k_X4_seen (l : Launch) (D : va_G) (cI cB : ClassId) (q : Nat → Nat) (M : St) (t f : Int) (ht : (-2147483648 ≤ t ∧ t < 2147483648)) (hf : (-2147483648 ≤ f ∧ f < 2147483648)) (h11 : M 11 0 ≤ 10) : CtU l yX4_seen cX4_seen 3 (some .int) rm_X4_seen D cI cB [.ref (q 0), .int (iI (t)), .int (iI (f))] (wM q cI M) (wM q cI (stR (stR (stR M 8 (g_seenT M t f)) 9 (g_seenF M t f)) 11 (fun _ => g_seenD M t f))) ((iI (g_seen M t f))) := by
  refine CtU.of RX4 (by decide) rfl (Nat.le_of_ble_eq_true rfl) ?_
  intro p e s m args below meth c H0 ls A hH hA F hr hlk B hl
  have hl : lv_has ls 3 [(0, .ref (q 0)), (1, .int (iI (t))), (2, .int (iI (f)))] := hl
  refine r_iln F hl 1 rfl dX4_seen_0 rfl ?_
  refine r_ic F 0 dX4_seen_1 rfl ?_
  refine r_bp F 40 dX4_seen_2 rfl ?_
  refine r_sq F B.1 (k_X4_in l D cI cB (t) ((0 : Int)) ((40 : Int)) (by omega) (by omega) (by omega)) gw_X4_40 [] rfl ⟨⟨rfl, rfl⟩, Nat.le_of_ble_eq_true rfl, Nat.le_of_ble_eq_true rfl⟩ ⟨Nat.le_of_ble_eq_true rfl, Nat.le_of_ble_eq_true rfl⟩ hl.1 rfl [] rfl (Nat.le_of_ble_eq_true rfl) dX4_seen_4 ?_
  refine r_zeqb 17 F dX4_seen_7 (by decide) (fun c_1 => ?_) (fun c_1 => ?_)
  · have c_1d := c_1
    simp only [isIn, isP, decide_eq_true_eq, decide_eq_false_iff_not] at c_1d
    refine r_icz F (-1) dX4_seen_17 rfl ?_
    exact r_retU F hr hlk hH B dX4_seen_18 (by first | rfl | (simp only [g_seen, g_seenT, g_seenF, g_seenD, vSeen, c_1, if_true, if_false, Bool.and_true, Bool.true_and, Bool.and_false, Bool.false_and, Bool.and_self, Bool.false_eq_true, ↓reduceIte, decide_true, decide_false, Int.toNat_natCast, Bool.toNat_true, Bool.toNat_false]; first | done | rfl | (simp only [if_true, if_true, if_false, Bool.and_true, Bool.true_and, Bool.and_false, Bool.false_and, Bool.and_self, Bool.false_eq_true, ↓reduceIte, decide_true, decide_false, Int.toNat_natCast, Bool.toNat_true, Bool.toNat_false]; first | done | rfl) | (simp only [if_true]; first | done | rfl) | (simp [if_true]; done) | (simp [if_true]; first | rfl | omega)) | (simp [g_seen, g_seenT, g_seenF, g_seenD, vSeen, c_1]; done) | (simp [g_seen, g_seenT, g_seenF, g_seenD, vSeen, c_1]; omega) | (simp only [g_seen, g_seenT, g_seenF, g_seenD, vSeen, c_1, if_true, if_false, Bool.and_true, Bool.true_and, Bool.and_false, Bool.false_and, Bool.and_self, Bool.false_eq_true, ↓reduceIte, decide_true, decide_false, Int.toNat_natCast, Bool.toNat_true, Bool.toNat_false]; try simp only [if_true, if_true, if_false, Bool.and_true, Bool.true_and, Bool.and_false, Bool.false_and, Bool.and_self, Bool.false_eq_true, ↓reduceIte, decide_true, decide_false, Int.toNat_natCast, Bool.toNat_true, Bool.toNat_false]; rfl)) (by first | rfl | (simp only [g_seen, g_seenT, g_seenF, g_seenD, vSeen, c_1, if_true, if_false, Bool.and_true, Bool.true_and, Bool.and_false, Bool.false_and, Bool.and_self, Bool.false_eq_true, ↓reduceIte, decide_true, decide_false, Int.toNat_natCast, Bool.toNat_true, Bool.toNat_false]; first | done | rfl | (simp only [if_true, if_true, if_false, Bool.and_true, Bool.true_and, Bool.and_false, Bool.false_and, Bool.and_self, Bool.false_eq_true, ↓reduceIte, decide_true, decide_false, Int.toNat_natCast, Bool.toNat_true, Bool.toNat_false]; first | done | rfl) | (simp only [if_true]; first | done | rfl) | (simp [if_true]; done) | (simp [if_true]; first | rfl | omega)) | (simp [g_seen, g_seenT, g_seenF, g_seenD, vSeen, c_1]; done) | (simp [g_seen, g_seenT, g_seenF, g_seenD, vSeen, c_1]; omega) | (simp only [g_seen, g_seenT, g_seenF, g_seenD, vSeen, c_1, if_true, if_false, Bool.and_true, Bool.true_and, Bool.and_false, Bool.false_and, Bool.and_self, Bool.false_eq_true, ↓reduceIte, decide_true, decide_false, Int.toNat_natCast, Bool.toNat_true, Bool.toNat_false]; try simp only [if_true, if_true, if_false, Bool.and_true, Bool.true_and, Bool.and_false, Bool.false_and, Bool.and_self, Bool.false_eq_true, ↓reduceIte, decide_true, decide_false, Int.toNat_natCast, Bool.toNat_true, Bool.toNat_false]; rfl))
  · have c_1d := c_1
    simp only [isIn, isP, decide_eq_true_eq, decide_eq_false_iff_not] at c_1d
    refine r_iln F hl 2 rfl dX4_seen_10 rfl ?_
    refine r_sq F B.1 (k_X4_isSet l D cI cB (f) (by omega)) gw_X4_105 [] rfl ⟨⟨rfl, rfl⟩, Nat.le_of_ble_eq_true rfl, Nat.le_of_ble_eq_true rfl⟩ ⟨Nat.le_of_ble_eq_true rfl, Nat.le_of_ble_eq_true rfl⟩ hl.1 rfl [] rfl (Nat.le_of_ble_eq_true rfl) dX4_seen_11 ?_
    refine r_zneb 19 F dX4_seen_14 (by decide) (fun c_2 => ?_) (fun c_2 => ?_)
    · have c_2d := c_2
      simp only [isIn, isP, decide_eq_true_eq, decide_eq_false_iff_not] at c_2d
      obtain ⟨t_, rfl⟩ : ∃ k : Nat, t = (k : Int) := ⟨t.toNat, by omega⟩
      have hl : lv_has ls 3 [(0, .ref (q 0)), (1, .int (iI ((t_ : Nat) : Int))), (2, .int (iI (f)))] := hl
      obtain ⟨f_, rfl⟩ : ∃ k : Nat, f = (k : Int) := ⟨f.toNat, by omega⟩
      have hl : lv_has ls 3 [(0, .ref (q 0)), (1, .int (iI ((t_ : Nat) : Int))), (2, .int (iI ((f_ : Nat) : Int)))] := hl
      refine r_aln F hl 0 rfl dX4_seen_19 rfl ?_
      refine gf_X4_93 F B.1 0 rfl (.int (iI ((M 11 0 : Nat) : Int))) rfl dX4_seen_20 ?_
      refine r_bp F 10 dX4_seen_23 rfl ?_
      refine r_cne 31 F dX4_seen_25 (by decide) (by omega) (fun c_3 => ?_) (fun c_3 => ?_)
      · refine r_aln F hl 0 rfl dX4_seen_31 rfl ?_
        refine gf_X4_28 F B.1 0 rfl (.ref (q 9)) rfl dX4_seen_32 ?_
        refine r_aln F hl 0 rfl dX4_seen_35 rfl ?_
        refine gf_X4_93 F B.1 0 rfl (.int (iI ((M 11 0 : Nat) : Int))) rfl dX4_seen_36 ?_
        refine r_iln F hl 1 rfl dX4_seen_39 rfl ?_
        refine r_ast (f := M 8) F B 7 (wM q cI (stR M 8 (upN (M 8) (M 11 0) (t_)))) rfl dX4_seen_40 (by decide) (by omega) rfl (fun H locs B => ?_)
        refine r_aln F hl 0 rfl dX4_seen_41 rfl ?_
        refine gf_X4_31 F B.1 0 rfl (.ref (q 10)) rfl dX4_seen_42 ?_
        refine r_aln F hl 0 rfl dX4_seen_45 rfl ?_
        refine gf_X4_93 F B.1 0 rfl (.int (iI ((M 11 0 : Nat) : Int))) rfl dX4_seen_46 ?_
        refine r_iln F hl 2 rfl dX4_seen_49 rfl ?_
        refine r_ast (f := M 9) F B 8 (wM q cI (stR (stR M 8 (upN (M 8) (M 11 0) (t_))) 9 (upN (M 9) (M 11 0) (f_)))) rfl dX4_seen_50 (by decide) (by omega) rfl (fun H locs B => ?_)
        refine r_aln F hl 0 rfl dX4_seen_51 rfl ?_
        refine r_dup F dX4_seen_52 rfl ?_
        refine gf_X4_93 F B.1 0 rfl (.int (iI ((M 11 0 : Nat) : Int))) rfl dX4_seen_53 ?_
        refine r_ic F 1 dX4_seen_56 rfl ?_
        refine r_add F dX4_seen_57 ?_
        refine pf_X4_93 F B 0 (wM q cI (stR (stR (stR M 8 (upN (M 8) (M 11 0) (t_))) 9 (upN (M 9) (M 11 0) (f_))) 11 (fun _ => (M 11 0 + 1)))) rfl rfl rfl (Nat.le_of_ble_eq_true rfl) rfl dX4_seen_58 (fun H locs B => ?_)
        refine r_aln F hl 0 rfl dX4_seen_61 rfl ?_
        refine gf_X4_93 F B.1 0 rfl (.int (iI (((M 11 0 + 1) : Nat) : Int))) rfl dX4_seen_62 ?_
        exact r_retU F hr hlk hH B dX4_seen_65 (by first | rfl | (simp only [g_seen, g_seenT, g_seenF, g_seenD, vSeen, c_1, c_2, if_true, if_false, Bool.and_true, Bool.true_and, Bool.and_false, Bool.false_and, Bool.and_self, Bool.false_eq_true, ↓reduceIte, decide_true, decide_false, Int.toNat_natCast, Bool.toNat_true, Bool.toNat_false]; first | done | rfl | (simp only [c_3, if_true, if_false, Bool.and_true, Bool.true_and, Bool.and_false, Bool.false_and, Bool.and_self, Bool.false_eq_true, ↓reduceIte, decide_true, decide_false, Int.toNat_natCast, Bool.toNat_true, Bool.toNat_false]; first | done | rfl) | (simp only [if_neg c_3]; first | done | rfl) | (simp [c_3]; done) | (simp [c_3]; first | rfl | omega)) | (simp [g_seen, g_seenT, g_seenF, g_seenD, vSeen, c_1, c_2, c_3]; done) | (simp [g_seen, g_seenT, g_seenF, g_seenD, vSeen, c_1, c_2, c_3]; omega) | (simp only [g_seen, g_seenT, g_seenF, g_seenD, vSeen, c_1, c_2, if_true, if_false, Bool.and_true, Bool.true_and, Bool.and_false, Bool.false_and, Bool.and_self, Bool.false_eq_true, ↓reduceIte, decide_true, decide_false, Int.toNat_natCast, Bool.toNat_true, Bool.toNat_false]; try simp only [c_3, if_true, if_false, Bool.and_true, Bool.true_and, Bool.and_false, Bool.false_and, Bool.and_self, Bool.false_eq_true, ↓reduceIte, decide_true, decide_false, Int.toNat_natCast, Bool.toNat_true, Bool.toNat_false]; rfl)) (by first | rfl | (simp only [g_seen, g_seenT, g_seenF, g_seenD, vSeen, c_1, c_2, if_true, if_false, Bool.and_true, Bool.true_and, Bool.and_false, Bool.false_and, Bool.and_self, Bool.false_eq_true, ↓reduceIte, decide_true, decide_false, Int.toNat_natCast, Bool.toNat_true, Bool.toNat_false]; first | done | rfl | (simp only [c_3, if_true, if_false, Bool.and_true, Bool.true_and, Bool.and_false, Bool.false_and, Bool.and_self, Bool.false_eq_true, ↓reduceIte, decide_true, decide_false, Int.toNat_natCast, Bool.toNat_true, Bool.toNat_false]; first | done | rfl) | (simp only [if_neg c_3]; first | done | rfl) | (simp [c_3]; done) | (simp [c_3]; first | rfl | omega)) | (simp [g_seen, g_seenT, g_seenF, g_seenD, vSeen, c_1, c_2, c_3]; done) | (simp [g_seen, g_seenT, g_seenF, g_seenD, vSeen, c_1, c_2, c_3]; omega) | (simp only [g_seen, g_seenT, g_seenF, g_seenD, vSeen, c_1, c_2, if_true, if_false, Bool.and_true, Bool.true_and, Bool.and_false, Bool.false_and, Bool.and_self, Bool.false_eq_true, ↓reduceIte, decide_true, decide_false, Int.toNat_natCast, Bool.toNat_true, Bool.toNat_false]; try simp only [c_3, if_true, if_false, Bool.and_true, Bool.true_and, Bool.and_false, Bool.false_and, Bool.and_self, Bool.false_eq_true, ↓reduceIte, decide_true, decide_false, Int.toNat_natCast, Bool.toNat_true, Bool.toNat_false]; rfl))
      · refine r_bpz F (-3) dX4_seen_28 rfl ?_
        exact r_retU F hr hlk hH B dX4_seen_30 (by first | rfl | (simp only [g_seen, g_seenT, g_seenF, g_seenD, vSeen, c_1, c_2, if_true, if_false, Bool.and_true, Bool.true_and, Bool.and_false, Bool.false_and, Bool.and_self, Bool.false_eq_true, ↓reduceIte, decide_true, decide_false, Int.toNat_natCast, Bool.toNat_true, Bool.toNat_false]; first | done | rfl | (simp only [c_3, if_true, if_false, Bool.and_true, Bool.true_and, Bool.and_false, Bool.false_and, Bool.and_self, Bool.false_eq_true, ↓reduceIte, decide_true, decide_false, Int.toNat_natCast, Bool.toNat_true, Bool.toNat_false]; first | done | rfl) | (simp only [if_pos c_3]; first | done | rfl) | (simp [c_3]; done) | (simp [c_3]; first | rfl | omega)) | (simp [g_seen, g_seenT, g_seenF, g_seenD, vSeen, c_1, c_2, c_3]; done) | (simp [g_seen, g_seenT, g_seenF, g_seenD, vSeen, c_1, c_2, c_3]; omega) | (simp only [g_seen, g_seenT, g_seenF, g_seenD, vSeen, c_1, c_2, if_true, if_false, Bool.and_true, Bool.true_and, Bool.and_false, Bool.false_and, Bool.and_self, Bool.false_eq_true, ↓reduceIte, decide_true, decide_false, Int.toNat_natCast, Bool.toNat_true, Bool.toNat_false]; try simp only [c_3, if_true, if_false, Bool.and_true, Bool.true_and, Bool.and_false, Bool.false_and, Bool.and_self, Bool.false_eq_true, ↓reduceIte, decide_true, decide_false, Int.toNat_natCast, Bool.toNat_true, Bool.toNat_false]; rfl)) (by first | rfl | (simp only [g_seen, g_seenT, g_seenF, g_seenD, vSeen, c_1, c_2, if_true, if_false, Bool.and_true, Bool.true_and, Bool.and_false, Bool.false_and, Bool.and_self, Bool.false_eq_true, ↓reduceIte, decide_true, decide_false, Int.toNat_natCast, Bool.toNat_true, Bool.toNat_false]; first | done | rfl | (simp only [c_3, if_true, if_false, Bool.and_true, Bool.true_and, Bool.and_false, Bool.false_and, Bool.and_self, Bool.false_eq_true, ↓reduceIte, decide_true, decide_false, Int.toNat_natCast, Bool.toNat_true, Bool.toNat_false]; first | done | rfl) | (simp only [if_pos c_3]; first | done | rfl) | (simp [c_3]; done) | (simp [c_3]; first | rfl | omega)) | (simp [g_seen, g_seenT, g_seenF, g_seenD, vSeen, c_1, c_2, c_3]; done) | (simp [g_seen, g_seenT, g_seenF, g_seenD, vSeen, c_1, c_2, c_3]; omega) | (simp only [g_seen, g_seenT, g_seenF, g_seenD, vSeen, c_1, c_2, if_true, if_false, Bool.and_true, Bool.true_and, Bool.and_false, Bool.false_and, Bool.and_self, Bool.false_eq_true, ↓reduceIte, decide_true, decide_false, Int.toNat_natCast, Bool.toNat_true, Bool.toNat_false]; try simp only [c_3, if_true, if_false, Bool.and_true, Bool.true_and, Bool.and_false, Bool.false_and, Bool.and_self, Bool.false_eq_true, ↓reduceIte, decide_true, decide_false, Int.toNat_natCast, Bool.toNat_true, Bool.toNat_false]; rfl))
    · have c_2d := c_2
      simp only [isIn, isP, decide_eq_true_eq, decide_eq_false_iff_not] at c_2d
      refine r_icz F (-1) dX4_seen_17 rfl ?_
      exact r_retU F hr hlk hH B dX4_seen_18 (by first | rfl | (simp only [g_seen, g_seenT, g_seenF, g_seenD, vSeen, c_1, c_2, if_true, if_false, Bool.and_true, Bool.true_and, Bool.and_false, Bool.false_and, Bool.and_self, Bool.false_eq_true, ↓reduceIte, decide_true, decide_false, Int.toNat_natCast, Bool.toNat_true, Bool.toNat_false]; first | done | rfl | (simp only [if_true, if_true, if_false, Bool.and_true, Bool.true_and, Bool.and_false, Bool.false_and, Bool.and_self, Bool.false_eq_true, ↓reduceIte, decide_true, decide_false, Int.toNat_natCast, Bool.toNat_true, Bool.toNat_false]; first | done | rfl) | (simp only [if_true]; first | done | rfl) | (simp [if_true]; done) | (simp [if_true]; first | rfl | omega)) | (simp [g_seen, g_seenT, g_seenF, g_seenD, vSeen, c_1, c_2]; done) | (simp [g_seen, g_seenT, g_seenF, g_seenD, vSeen, c_1, c_2]; omega) | (simp only [g_seen, g_seenT, g_seenF, g_seenD, vSeen, c_1, c_2, if_true, if_false, Bool.and_true, Bool.true_and, Bool.and_false, Bool.false_and, Bool.and_self, Bool.false_eq_true, ↓reduceIte, decide_true, decide_false, Int.toNat_natCast, Bool.toNat_true, Bool.toNat_false]; try simp only [if_true, if_true, if_false, Bool.and_true, Bool.true_and, Bool.and_false, Bool.false_and, Bool.and_self, Bool.false_eq_true, ↓reduceIte, decide_true, decide_false, Int.toNat_natCast, Bool.toNat_true, Bool.toNat_false]; rfl)) (by first | rfl | (simp only [g_seen, g_seenT, g_seenF, g_seenD, vSeen, c_1, c_2, if_true, if_false, Bool.and_true, Bool.true_and, Bool.and_false, Bool.false_and, Bool.and_self, Bool.false_eq_true, ↓reduceIte, decide_true, decide_false, Int.toNat_natCast, Bool.toNat_true, Bool.toNat_false]; first | done | rfl | (simp only [if_true, if_true, if_false, Bool.and_true, Bool.true_and, Bool.and_false, Bool.false_and, Bool.and_self, Bool.false_eq_true, ↓reduceIte, decide_true, decide_false, Int.toNat_natCast, Bool.toNat_true, Bool.toNat_false]; first | done | rfl) | (simp only [if_true]; first | done | rfl) | (simp [if_true]; done) | (simp [if_true]; first | rfl | omega)) | (simp [g_seen, g_seenT, g_seenF, g_seenD, vSeen, c_1, c_2]; done) | (simp [g_seen, g_seenT, g_seenF, g_seenD, vSeen, c_1, c_2]; omega) | (simp only [g_seen, g_seenT, g_seenF, g_seenD, vSeen, c_1, c_2, if_true, if_false, Bool.and_true, Bool.true_and, Bool.and_false, Bool.false_and, Bool.and_self, Bool.false_eq_true, ↓reduceIte, decide_true, decide_false, Int.toNat_natCast, Bool.toNat_true, Bool.toNat_false]; try simp only [if_true, if_true, if_false, Bool.and_true, Bool.true_and, Bool.and_false, Bool.false_and, Bool.and_self, Bool.false_eq_true, ↓reduceIte, decide_true, decide_false, Int.toNat_natCast, Bool.toNat_true, Bool.toNat_false]; rfl))
abbrev rm_X4_keep : Room := { frames := 0, cells := 0, slots := 0, locals := 0 }
set_option maxHeartbeats 4000000 in
set_option maxRecDepth 100000 in
theorem k_X4_keep (l : Launch) (D : va_G) (cI cB : ClassId) (q : Nat → Nat) (M : St) (h7 : M 7 0 ≤ 2) (hs : ∀ k, M 4 k < 65536) : CtU l yX4_keep cX4_keep 2 (some .int) rm_X4_keep D cI cB [.ref (q 0)] (wM q cI M) (wM q cI (stR (stR M 7 (fun _ => g_keepN M)) 6 (g_keepK M))) ((iI (g_keep M))) := by
  refine CtU.of RX4 (by decide) rfl (Nat.le_of_ble_eq_true rfl) ?_
  intro p e s m args below meth c H0 ls A hH hA F hr hlk B hl
  have hl : lv_has ls 2 [(0, .ref (q 0))] := hl
  refine r_aln F hl 0 rfl dX4_keep_0 rfl ?_
  refine gf_X4_96 F B.1 0 rfl (.int (iI ((M 7 0 : Nat) : Int))) rfl dX4_keep_1 ?_
  refine r_ic F 2 dX4_keep_4 rfl ?_
  refine r_cne 11 F dX4_keep_5 (by decide) (by omega) (fun c_1 => ?_) (fun c_1 => ?_)
  · refine r_ic F 0 dX4_keep_11 rfl ?_
    refine r_isn (lv' := [(0, .ref (q 0)), (1, .int (iI ((0 : Nat) : Int)))]) F hl dX4_keep_12 rfl (by decide) [1, 0] rfl (fun ls hl => ?_)
    have lp_2 : ∀ (nn_ : Nat) (k : Nat) (f : Nat → Nat) (H : Heap) (locs : List Loc) (ls : Array Slot), 16 - k < nn_ → (lpR (fun k f => upN f (16 * M 7 0 + k) (M 4 k)) 16 k f = cpK (M 4) (M 7 0) (M 6)) → (k ≤ 16) → Bx D A H0 (wM q cI (stR M 6 (f))) H locs → lv_has ls 2 [(0, .ref (q 0)), (1, .int (iI ((k : Nat) : Int)))] → W p l e rm_X4_keep s m args below meth c H locs 0 0 (Qu below args s D ((iI (g_keep M))) (wM q cI (stR (stR M 7 (fun _ => g_keepN M)) 6 (g_keepK M))) A) (F0 m 13 ls []) := by
      intro nn_
      induction nn_ with
      | zero => intro k f H locs ls hlt; exact absurd hlt (Nat.not_lt_zero _)
      | succ nn_ ih =>
        have ih_3 := ih; clear ih
        intro k f H locs ls hlt hI hk B hl
        have hlt_4 := hlt
        refine r_iln F hl 1 rfl dX4_keep_13 rfl ?_
        refine r_bp F 16 dX4_keep_14 rfl ?_
        refine r_cge 45 F dX4_keep_16 (by decide) (by omega) (fun c_5 => ?_) (fun c_5 => ?_)
        · obtain rfl : f = cpK (M 4) (M 7 0) (M 6) := by rw [← hI, lpR_end (by omega)]
          refine r_aln F hl 0 rfl dX4_keep_45 rfl ?_
          refine r_dup F dX4_keep_46 rfl ?_
          refine gf_X4_96 F B.1 0 rfl (.int (iI ((M 7 0 : Nat) : Int))) rfl dX4_keep_47 ?_
          refine r_ic F 1 dX4_keep_50 rfl ?_
          refine r_add F dX4_keep_51 ?_
          refine pf_X4_96 F B 0 (wM q cI (stR (stR M 6 ((cpK (M 4) (M 7 0) (M 6)))) 7 (fun _ => (M 7 0 + 1)))) rfl rfl rfl (Nat.le_of_ble_eq_true rfl) rfl dX4_keep_52 (fun H locs B => ?_)
          refine r_aln F hl 0 rfl dX4_keep_55 rfl ?_
          refine gf_X4_96 F B.1 0 rfl (.int (iI (((M 7 0 + 1) : Nat) : Int))) rfl dX4_keep_56 ?_
          exact r_retU F hr hlk hH B dX4_keep_59 (by first | rfl | (simp only [g_keep, g_keepN, g_keepK, if_true, if_false, Bool.and_true, Bool.true_and, Bool.and_false, Bool.false_and, Bool.and_self, Bool.false_eq_true, ↓reduceIte, decide_true, decide_false, Int.toNat_natCast, Bool.toNat_true, Bool.toNat_false]; first | done | rfl | (simp only [c_1, c_5, (Nat.not_lt.mp c_5), if_true, if_false, Bool.and_true, Bool.true_and, Bool.and_false, Bool.false_and, Bool.and_self, Bool.false_eq_true, ↓reduceIte, decide_true, decide_false, Int.toNat_natCast, Bool.toNat_true, Bool.toNat_false]; first | done | rfl) | (simp only [if_neg c_1, if_neg c_5, if_pos (Nat.not_lt.mp c_5)]; first | done | rfl) | (simp [c_1, c_5, (Nat.not_lt.mp c_5)]; done) | (simp [c_1, c_5, (Nat.not_lt.mp c_5)]; first | rfl | omega)) | (simp [g_keep, g_keepN, g_keepK, c_1, c_5, (Nat.not_lt.mp c_5)]; done) | (simp [g_keep, g_keepN, g_keepK, c_1, c_5, (Nat.not_lt.mp c_5)]; omega) | (simp only [g_keep, g_keepN, g_keepK, if_true, if_false, Bool.and_true, Bool.true_and, Bool.and_false, Bool.false_and, Bool.and_self, Bool.false_eq_true, ↓reduceIte, decide_true, decide_false, Int.toNat_natCast, Bool.toNat_true, Bool.toNat_false]; try simp only [c_1, c_5, (Nat.not_lt.mp c_5), if_true, if_false, Bool.and_true, Bool.true_and, Bool.and_false, Bool.false_and, Bool.and_self, Bool.false_eq_true, ↓reduceIte, decide_true, decide_false, Int.toNat_natCast, Bool.toNat_true, Bool.toNat_false]; rfl)) (by first | rfl | (simp only [g_keep, g_keepN, g_keepK, if_true, if_false, Bool.and_true, Bool.true_and, Bool.and_false, Bool.false_and, Bool.and_self, Bool.false_eq_true, ↓reduceIte, decide_true, decide_false, Int.toNat_natCast, Bool.toNat_true, Bool.toNat_false]; first | done | rfl | (simp only [c_1, c_5, (Nat.not_lt.mp c_5), if_true, if_false, Bool.and_true, Bool.true_and, Bool.and_false, Bool.false_and, Bool.and_self, Bool.false_eq_true, ↓reduceIte, decide_true, decide_false, Int.toNat_natCast, Bool.toNat_true, Bool.toNat_false]; first | done | rfl) | (simp only [if_neg c_1, if_neg c_5, if_pos (Nat.not_lt.mp c_5)]; first | done | rfl) | (simp [c_1, c_5, (Nat.not_lt.mp c_5)]; done) | (simp [c_1, c_5, (Nat.not_lt.mp c_5)]; first | rfl | omega)) | (simp [g_keep, g_keepN, g_keepK, c_1, c_5, (Nat.not_lt.mp c_5)]; done) | (simp [g_keep, g_keepN, g_keepK, c_1, c_5, (Nat.not_lt.mp c_5)]; omega) | (simp only [g_keep, g_keepN, g_keepK, if_true, if_false, Bool.and_true, Bool.true_and, Bool.and_false, Bool.false_and, Bool.and_self, Bool.false_eq_true, ↓reduceIte, decide_true, decide_false, Int.toNat_natCast, Bool.toNat_true, Bool.toNat_false]; try simp only [c_1, c_5, (Nat.not_lt.mp c_5), if_true, if_false, Bool.and_true, Bool.true_and, Bool.and_false, Bool.false_and, Bool.and_self, Bool.false_eq_true, ↓reduceIte, decide_true, decide_false, Int.toNat_natCast, Bool.toNat_true, Bool.toNat_false]; rfl))
        · refine r_aln F hl 0 rfl dX4_keep_19 rfl ?_
          refine gf_X4_25 F B.1 0 rfl (.ref (q 7)) rfl dX4_keep_20 ?_
          refine r_bp F 16 dX4_keep_23 rfl ?_
          refine r_aln F hl 0 rfl dX4_keep_25 rfl ?_
          refine gf_X4_96 F B.1 0 rfl (.int (iI ((M 7 0 : Nat) : Int))) rfl dX4_keep_26 ?_
          refine r_mul F dX4_keep_29 ?_
          refine r_iln F hl 1 rfl dX4_keep_30 rfl ?_
          refine r_add F dX4_keep_31 ?_
          refine r_aln F hl 0 rfl dX4_keep_32 rfl ?_
          refine gf_X4_19 F B.1 0 rfl (.ref (q 5)) rfl dX4_keep_33 ?_
          refine r_iln F hl 1 rfl dX4_keep_36 rfl ?_
          refine r_ald (f := M 4) F B.1 4 rfl dX4_keep_37 (by decide) (by omega) ?_
          have b_6 : M 4 (k) < 65536 := hs (k)
          refine r_ast (f := f) F B 6 (wM q cI (stR M 6 (upN (f) (((16 * M 7 0) + k)) (M 4 (k))))) rfl dX4_keep_38 (by decide) (by omega) rfl (fun H locs B => ?_)
          refine r_inc (lv' := [(0, .ref (q 0)), (1, .int (iI (((k + 1) : Nat) : Int)))]) F hl 1 rfl dX4_keep_39 1 rfl (by decide) [1, 0] rfl (fun ls hl => ?_)
          refine r_goto 13 F dX4_keep_42 (by decide) ?_
          exact ih_3 ((k + 1)) (upN (f) (((16 * M 7 0) + k)) (M 4 (k))) _ _ ls (by omega) (by have h_ := hI; rw [lpR_step (by omega)] at h_; refine Eq.trans ?_ h_; first | rfl | (simp only [c_1, c_5, (Nat.not_le.mpr c_5), if_true, if_false, Bool.and_true, Bool.true_and, Bool.and_false, Bool.false_and, Bool.and_self, Bool.false_eq_true, ↓reduceIte, decide_true, decide_false, Int.toNat_natCast, Bool.toNat_true, Bool.toNat_false]; done) | (simp [c_1, c_5, (Nat.not_le.mpr c_5)]; done)) (by omega) B hl
    exact lp_2 _ (0) (M 6) _ _ ls (Nat.lt_succ_self _) rfl (by omega) B hl
  · refine r_bpz F (-3) dX4_keep_8 rfl ?_
    exact r_retU F hr hlk hH B dX4_keep_10 (by first | rfl | (simp only [g_keep, g_keepN, g_keepK, if_true, if_false, Bool.and_true, Bool.true_and, Bool.and_false, Bool.false_and, Bool.and_self, Bool.false_eq_true, ↓reduceIte, decide_true, decide_false, Int.toNat_natCast, Bool.toNat_true, Bool.toNat_false]; first | done | rfl | (simp only [c_1, if_true, if_false, Bool.and_true, Bool.true_and, Bool.and_false, Bool.false_and, Bool.and_self, Bool.false_eq_true, ↓reduceIte, decide_true, decide_false, Int.toNat_natCast, Bool.toNat_true, Bool.toNat_false]; first | done | rfl) | (simp only [if_pos c_1]; first | done | rfl) | (simp [c_1]; done) | (simp [c_1]; first | rfl | omega)) | (simp [g_keep, g_keepN, g_keepK, c_1]; done) | (simp [g_keep, g_keepN, g_keepK, c_1]; omega) | (simp only [g_keep, g_keepN, g_keepK, if_true, if_false, Bool.and_true, Bool.true_and, Bool.and_false, Bool.false_and, Bool.and_self, Bool.false_eq_true, ↓reduceIte, decide_true, decide_false, Int.toNat_natCast, Bool.toNat_true, Bool.toNat_false]; try simp only [c_1, if_true, if_false, Bool.and_true, Bool.true_and, Bool.and_false, Bool.false_and, Bool.and_self, Bool.false_eq_true, ↓reduceIte, decide_true, decide_false, Int.toNat_natCast, Bool.toNat_true, Bool.toNat_false]; rfl)) (by first | rfl | (simp only [g_keep, g_keepN, g_keepK, if_true, if_false, Bool.and_true, Bool.true_and, Bool.and_false, Bool.false_and, Bool.and_self, Bool.false_eq_true, ↓reduceIte, decide_true, decide_false, Int.toNat_natCast, Bool.toNat_true, Bool.toNat_false]; first | done | rfl | (simp only [c_1, if_true, if_false, Bool.and_true, Bool.true_and, Bool.and_false, Bool.false_and, Bool.and_self, Bool.false_eq_true, ↓reduceIte, decide_true, decide_false, Int.toNat_natCast, Bool.toNat_true, Bool.toNat_false]; first | done | rfl) | (simp only [if_pos c_1]; first | done | rfl) | (simp [c_1]; done) | (simp [c_1]; first | rfl | omega)) | (simp [g_keep, g_keepN, g_keepK, c_1]; done) | (simp [g_keep, g_keepN, g_keepK, c_1]; omega) | (simp only [g_keep, g_keepN, g_keepK, if_true, if_false, Bool.and_true, Bool.true_and, Bool.and_false, Bool.false_and, Bool.and_self, Bool.false_eq_true, ↓reduceIte, decide_true, decide_false, Int.toNat_natCast, Bool.toNat_true, Bool.toNat_false]; try simp only [c_1, if_true, if_false, Bool.and_true, Bool.true_and, Bool.and_false, Bool.false_and, Bool.and_self, Bool.false_eq_true, ↓reduceIte, decide_true, decide_false, Int.toNat_natCast, Bool.toNat_true, Bool.toNat_false]; rfl))
abbrev rm_X4_back : Room := { frames := 0, cells := 0, slots := 0, locals := 0 }
set_option maxHeartbeats 4000000 in
set_option maxRecDepth 100000 in
theorem k_X4_back (l : Launch) (D : va_G) (cI cB : ClassId) (q : Nat → Nat) (M : St) (h7 : M 7 0 ≤ 2) : CtU l yX4_back cX4_back 2 (some .int) rm_X4_back D cI cB [.ref (q 0)] (wM q cI M) (wM q cI (stR (stR M 7 (fun _ => g_backN M)) 4 (g_backS M))) ((iI (g_back M))) := by
  refine CtU.of RX4 (by decide) rfl (Nat.le_of_ble_eq_true rfl) ?_
  intro p e s m args below meth c H0 ls A hH hA F hr hlk B hl
  have hl : lv_has ls 2 [(0, .ref (q 0))] := hl
  refine r_aln F hl 0 rfl dX4_back_0 rfl ?_
  refine gf_X4_96 F B.1 0 rfl (.int (iI ((M 7 0 : Nat) : Int))) rfl dX4_back_1 ?_
  refine r_zne 10 F dX4_back_4 (by decide) (by omega) (fun c_1 => ?_) (fun c_1 => ?_)
  · refine r_aln F hl 0 rfl dX4_back_10 rfl ?_
    refine r_dup F dX4_back_11 rfl ?_
    refine gf_X4_96 F B.1 0 rfl (.int (iI ((M 7 0 : Nat) : Int))) rfl dX4_back_12 ?_
    refine r_ic F 1 dX4_back_15 rfl ?_
    refine r_sub F dX4_back_16 (by omega) ?_
    refine pf_X4_96 F B 0 (wM q cI (stR M 7 (fun _ => (M 7 0 - 1)))) rfl rfl rfl (Nat.le_of_ble_eq_true rfl) rfl dX4_back_17 (fun H locs B => ?_)
    refine r_ic F 0 dX4_back_20 rfl ?_
    refine r_isn (lv' := [(0, .ref (q 0)), (1, .int (iI ((0 : Nat) : Int)))]) F hl dX4_back_21 rfl (by decide) [1, 0] rfl (fun ls hl => ?_)
    have lp_2 : ∀ (nn_ : Nat) (k : Nat) (f : Nat → Nat) (H : Heap) (locs : List Loc) (ls : Array Slot), 16 - k < nn_ → (lpR (fun k f => upN f k (M 6 (16 * (M 7 0 - 1) + k))) 16 k f = cpB (M 6) (M 7 0 - 1) (M 4)) → (k ≤ 16) → Bx D A H0 (wM q cI (stR (stR M 7 (fun _ => (M 7 0 - 1))) 4 (f))) H locs → lv_has ls 2 [(0, .ref (q 0)), (1, .int (iI ((k : Nat) : Int)))] → W p l e rm_X4_back s m args below meth c H locs 0 0 (Qu below args s D ((iI (g_back M))) (wM q cI (stR (stR M 7 (fun _ => g_backN M)) 4 (g_backS M))) A) (F0 m 22 ls []) := by
      intro nn_
      induction nn_ with
      | zero => intro k f H locs ls hlt; exact absurd hlt (Nat.not_lt_zero _)
      | succ nn_ ih =>
        have ih_3 := ih; clear ih
        intro k f H locs ls hlt hI hk B hl
        have hlt_4 := hlt
        refine r_iln F hl 1 rfl dX4_back_22 rfl ?_
        refine r_bp F 16 dX4_back_23 rfl ?_
        refine r_cge 54 F dX4_back_25 (by decide) (by omega) (fun c_5 => ?_) (fun c_5 => ?_)
        · obtain rfl : f = cpB (M 6) (M 7 0 - 1) (M 4) := by rw [← hI, lpR_end (by omega)]
          refine r_aln F hl 0 rfl dX4_back_54 rfl ?_
          refine gf_X4_96 F B.1 0 rfl (.int (iI (((M 7 0 - 1) : Nat) : Int))) rfl dX4_back_55 ?_
          exact r_retU F hr hlk hH B dX4_back_58 (by first | rfl | (simp only [g_back, g_backN, g_backS, if_true, if_false, Bool.and_true, Bool.true_and, Bool.and_false, Bool.false_and, Bool.and_self, Bool.false_eq_true, ↓reduceIte, decide_true, decide_false, Int.toNat_natCast, Bool.toNat_true, Bool.toNat_false]; first | done | rfl | (simp only [c_1, c_5, (Nat.not_lt.mp c_5), if_true, if_false, Bool.and_true, Bool.true_and, Bool.and_false, Bool.false_and, Bool.and_self, Bool.false_eq_true, ↓reduceIte, decide_true, decide_false, Int.toNat_natCast, Bool.toNat_true, Bool.toNat_false]; first | done | rfl) | (simp only [if_neg c_1, if_neg c_5, if_pos (Nat.not_lt.mp c_5)]; first | done | rfl) | (simp [c_1, c_5, (Nat.not_lt.mp c_5)]; done) | (simp [c_1, c_5, (Nat.not_lt.mp c_5)]; first | rfl | omega)) | (simp [g_back, g_backN, g_backS, c_1, c_5, (Nat.not_lt.mp c_5)]; done) | (simp [g_back, g_backN, g_backS, c_1, c_5, (Nat.not_lt.mp c_5)]; omega) | (simp only [g_back, g_backN, g_backS, if_true, if_false, Bool.and_true, Bool.true_and, Bool.and_false, Bool.false_and, Bool.and_self, Bool.false_eq_true, ↓reduceIte, decide_true, decide_false, Int.toNat_natCast, Bool.toNat_true, Bool.toNat_false]; try simp only [c_1, c_5, (Nat.not_lt.mp c_5), if_true, if_false, Bool.and_true, Bool.true_and, Bool.and_false, Bool.false_and, Bool.and_self, Bool.false_eq_true, ↓reduceIte, decide_true, decide_false, Int.toNat_natCast, Bool.toNat_true, Bool.toNat_false]; rfl)) (by first | rfl | (simp only [g_back, g_backN, g_backS, if_true, if_false, Bool.and_true, Bool.true_and, Bool.and_false, Bool.false_and, Bool.and_self, Bool.false_eq_true, ↓reduceIte, decide_true, decide_false, Int.toNat_natCast, Bool.toNat_true, Bool.toNat_false]; first | done | rfl | (simp only [c_1, c_5, (Nat.not_lt.mp c_5), if_true, if_false, Bool.and_true, Bool.true_and, Bool.and_false, Bool.false_and, Bool.and_self, Bool.false_eq_true, ↓reduceIte, decide_true, decide_false, Int.toNat_natCast, Bool.toNat_true, Bool.toNat_false]; first | done | rfl) | (simp only [if_neg c_1, if_neg c_5, if_pos (Nat.not_lt.mp c_5)]; first | done | rfl) | (simp [c_1, c_5, (Nat.not_lt.mp c_5)]; done) | (simp [c_1, c_5, (Nat.not_lt.mp c_5)]; first | rfl | omega)) | (simp [g_back, g_backN, g_backS, c_1, c_5, (Nat.not_lt.mp c_5)]; done) | (simp [g_back, g_backN, g_backS, c_1, c_5, (Nat.not_lt.mp c_5)]; omega) | (simp only [g_back, g_backN, g_backS, if_true, if_false, Bool.and_true, Bool.true_and, Bool.and_false, Bool.false_and, Bool.and_self, Bool.false_eq_true, ↓reduceIte, decide_true, decide_false, Int.toNat_natCast, Bool.toNat_true, Bool.toNat_false]; try simp only [c_1, c_5, (Nat.not_lt.mp c_5), if_true, if_false, Bool.and_true, Bool.true_and, Bool.and_false, Bool.false_and, Bool.and_self, Bool.false_eq_true, ↓reduceIte, decide_true, decide_false, Int.toNat_natCast, Bool.toNat_true, Bool.toNat_false]; rfl))
        · refine r_aln F hl 0 rfl dX4_back_28 rfl ?_
          refine gf_X4_19 F B.1 0 rfl (.ref (q 5)) rfl dX4_back_29 ?_
          refine r_iln F hl 1 rfl dX4_back_32 rfl ?_
          refine r_aln F hl 0 rfl dX4_back_33 rfl ?_
          refine gf_X4_25 F B.1 0 rfl (.ref (q 7)) rfl dX4_back_34 ?_
          refine r_bp F 16 dX4_back_37 rfl ?_
          refine r_aln F hl 0 rfl dX4_back_39 rfl ?_
          refine gf_X4_96 F B.1 0 rfl (.int (iI (((M 7 0 - 1) : Nat) : Int))) rfl dX4_back_40 ?_
          refine r_mul F dX4_back_43 ?_
          refine r_iln F hl 1 rfl dX4_back_44 rfl ?_
          refine r_add F dX4_back_45 ?_
          refine r_ald (f := M 6) F B.1 6 rfl dX4_back_46 (by decide) (by omega) ?_
          refine r_ast (f := f) F B 4 (wM q cI (stR (stR M 7 (fun _ => (M 7 0 - 1))) 4 (upN (f) (k) (M 6 (((16 * (M 7 0 - 1)) + k)))))) rfl dX4_back_47 (by decide) (by omega) rfl (fun H locs B => ?_)
          refine r_inc (lv' := [(0, .ref (q 0)), (1, .int (iI (((k + 1) : Nat) : Int)))]) F hl 1 rfl dX4_back_48 1 rfl (by decide) [1, 0] rfl (fun ls hl => ?_)
          refine r_goto 22 F dX4_back_51 (by decide) ?_
          exact ih_3 ((k + 1)) (upN (f) (k) (M 6 (((16 * (M 7 0 - 1)) + k)))) _ _ ls (by omega) (by have h_ := hI; rw [lpR_step (by omega)] at h_; refine Eq.trans ?_ h_; first | rfl | (simp only [c_1, c_5, (Nat.not_le.mpr c_5), if_true, if_false, Bool.and_true, Bool.true_and, Bool.and_false, Bool.false_and, Bool.and_self, Bool.false_eq_true, ↓reduceIte, decide_true, decide_false, Int.toNat_natCast, Bool.toNat_true, Bool.toNat_false]; done) | (simp [c_1, c_5, (Nat.not_le.mpr c_5)]; done)) (by omega) B hl
    exact lp_2 _ (0) (M 4) _ _ ls (Nat.lt_succ_self _) rfl (by omega) B hl
  · refine r_bpz F (-2) dX4_back_7 rfl ?_
    exact r_retU F hr hlk hH B dX4_back_9 (by first | rfl | (simp only [g_back, g_backN, g_backS, if_true, if_false, Bool.and_true, Bool.true_and, Bool.and_false, Bool.false_and, Bool.and_self, Bool.false_eq_true, ↓reduceIte, decide_true, decide_false, Int.toNat_natCast, Bool.toNat_true, Bool.toNat_false]; first | done | rfl | (simp only [c_1, if_true, if_false, Bool.and_true, Bool.true_and, Bool.and_false, Bool.false_and, Bool.and_self, Bool.false_eq_true, ↓reduceIte, decide_true, decide_false, Int.toNat_natCast, Bool.toNat_true, Bool.toNat_false]; first | done | rfl) | (simp only [if_pos c_1]; first | done | rfl) | (simp [c_1]; done) | (simp [c_1]; first | rfl | omega)) | (simp [g_back, g_backN, g_backS, c_1]; done) | (simp [g_back, g_backN, g_backS, c_1]; omega) | (simp only [g_back, g_backN, g_backS, if_true, if_false, Bool.and_true, Bool.true_and, Bool.and_false, Bool.false_and, Bool.and_self, Bool.false_eq_true, ↓reduceIte, decide_true, decide_false, Int.toNat_natCast, Bool.toNat_true, Bool.toNat_false]; try simp only [c_1, if_true, if_false, Bool.and_true, Bool.true_and, Bool.and_false, Bool.false_and, Bool.and_self, Bool.false_eq_true, ↓reduceIte, decide_true, decide_false, Int.toNat_natCast, Bool.toNat_true, Bool.toNat_false]; rfl)) (by first | rfl | (simp only [g_back, g_backN, g_backS, if_true, if_false, Bool.and_true, Bool.true_and, Bool.and_false, Bool.false_and, Bool.and_self, Bool.false_eq_true, ↓reduceIte, decide_true, decide_false, Int.toNat_natCast, Bool.toNat_true, Bool.toNat_false]; first | done | rfl | (simp only [c_1, if_true, if_false, Bool.and_true, Bool.true_and, Bool.and_false, Bool.false_and, Bool.and_self, Bool.false_eq_true, ↓reduceIte, decide_true, decide_false, Int.toNat_natCast, Bool.toNat_true, Bool.toNat_false]; first | done | rfl) | (simp only [if_pos c_1]; first | done | rfl) | (simp [c_1]; done) | (simp [c_1]; first | rfl | omega)) | (simp [g_back, g_backN, g_backS, c_1]; done) | (simp [g_back, g_backN, g_backS, c_1]; omega) | (simp only [g_back, g_backN, g_backS, if_true, if_false, Bool.and_true, Bool.true_and, Bool.and_false, Bool.false_and, Bool.and_self, Bool.false_eq_true, ↓reduceIte, decide_true, decide_false, Int.toNat_natCast, Bool.toNat_true, Bool.toNat_false]; try simp only [c_1, if_true, if_false, Bool.and_true, Bool.true_and, Bool.and_false, Bool.false_and, Bool.and_self, Bool.false_eq_true, ↓reduceIte, decide_true, decide_false, Int.toNat_natCast, Bool.toNat_true, Bool.toNat_false]; rfl))
end
