-- ===== PART A: goes FIRST, ahead of the names: the tables' words, and 'selects' of the private methods out of them =====
/-- a private method of a class that the tables say can be made, by its rows of tables_1 -/
def lw_okq (q : MethodName × Nat) : Prop := (q.1.cls ≠ "java/lang/invoke/MethodHandle" ∧ q.1.cls ≠ "java/lang/invoke/VarHandle") ∧ Cond.instantiable q.1.cls q.2 ∈ tables_1 ∧ Cond.privateMethod q.1 ∈ tables_1 ∧ Cond.instanceMethod q.1 ∈ tables_1
theorem lw_p0 : lw_okq (⟨"HalfAsleep$Page", "readItem", "(LHalfAsleep$Town;)Z"⟩, 4) := ⟨⟨by decide +kernel, by decide +kernel⟩, List.mem_of_getElem? (i := 18) (by decide +kernel), List.mem_of_getElem? (i := 198) (by decide +kernel), List.mem_of_getElem? (i := 199) (by decide +kernel)⟩
theorem lw_p1 : lw_okq (⟨"HalfAsleep$Page", "next", "()I"⟩, 4) := ⟨⟨by decide +kernel, by decide +kernel⟩, List.mem_of_getElem? (i := 18) (by decide +kernel), List.mem_of_getElem? (i := 202) (by decide +kernel), List.mem_of_getElem? (i := 203) (by decide +kernel)⟩
theorem lw_p2 : lw_okq (⟨"HalfAsleep$Page", "readNumbers", "(I)Z"⟩, 4) := ⟨⟨by decide +kernel, by decide +kernel⟩, List.mem_of_getElem? (i := 18) (by decide +kernel), List.mem_of_getElem? (i := 206) (by decide +kernel), List.mem_of_getElem? (i := 207) (by decide +kernel)⟩
theorem lw_p3 : lw_okq (⟨"HalfAsleep$Page", "readNumber", "()I"⟩, 4) := ⟨⟨by decide +kernel, by decide +kernel⟩, List.mem_of_getElem? (i := 18) (by decide +kernel), List.mem_of_getElem? (i := 210) (by decide +kernel), List.mem_of_getElem? (i := 211) (by decide +kernel)⟩
theorem lw_p4 : lw_okq (⟨"HalfAsleep$Page", "readSign", "(I)Z"⟩, 4) := ⟨⟨by decide +kernel, by decide +kernel⟩, List.mem_of_getElem? (i := 18) (by decide +kernel), List.mem_of_getElem? (i := 217) (by decide +kernel), List.mem_of_getElem? (i := 218) (by decide +kernel)⟩
theorem lw_p5 : lw_okq (⟨"HalfAsleep$Page", "readSteps", "(LHalfAsleep$Town;)Z"⟩, 4) := ⟨⟨by decide +kernel, by decide +kernel⟩, List.mem_of_getElem? (i := 18) (by decide +kernel), List.mem_of_getElem? (i := 222) (by decide +kernel), List.mem_of_getElem? (i := 223) (by decide +kernel)⟩
theorem lw_p6 : lw_okq (⟨"HalfAsleep$Town", "isHalfHere", "(II)Z"⟩, 14) := ⟨⟨by decide +kernel, by decide +kernel⟩, List.mem_of_getElem? (i := 40) (by decide +kernel), List.mem_of_getElem? (i := 240) (by decide +kernel), List.mem_of_getElem? (i := 241) (by decide +kernel)⟩
theorem lw_p7 : lw_okq (⟨"HalfAsleep", "isPerson", "(I)Z"⟩, 12) := ⟨⟨by decide +kernel, by decide +kernel⟩, List.mem_of_getElem? (i := 10) (by decide +kernel), List.mem_of_getElem? (i := 263) (by decide +kernel), List.mem_of_getElem? (i := 264) (by decide +kernel)⟩
theorem lw_p8 : lw_okq (⟨"HalfAsleep$Standing", "tellOneAnother", "(II)V"⟩, 3) := ⟨⟨by decide +kernel, by decide +kernel⟩, List.mem_of_getElem? (i := 102) (by decide +kernel), List.mem_of_getElem? (i := 310) (by decide +kernel), List.mem_of_getElem? (i := 311) (by decide +kernel)⟩
theorem lw_p9 : lw_okq (⟨"HalfAsleep$Standing", "readNotes", "(I)V"⟩, 3) := ⟨⟨by decide +kernel, by decide +kernel⟩, List.mem_of_getElem? (i := 102) (by decide +kernel), List.mem_of_getElem? (i := 317) (by decide +kernel), List.mem_of_getElem? (i := 318) (by decide +kernel)⟩
theorem lw_p10 : lw_okq (⟨"HalfAsleep", "isTrade", "(I)Z"⟩, 12) := ⟨⟨by decide +kernel, by decide +kernel⟩, List.mem_of_getElem? (i := 10) (by decide +kernel), List.mem_of_getElem? (i := 325) (by decide +kernel), List.mem_of_getElem? (i := 326) (by decide +kernel)⟩
theorem lw_p11 : lw_okq (⟨"HalfAsleep$Town", "stepAfterShift", "(IIII)I"⟩, 14) := ⟨⟨by decide +kernel, by decide +kernel⟩, List.mem_of_getElem? (i := 40) (by decide +kernel), List.mem_of_getElem? (i := 333) (by decide +kernel), List.mem_of_getElem? (i := 334) (by decide +kernel)⟩
theorem lw_p12 : lw_okq (⟨"HalfAsleep$Town", "hasSkillFor", "(IIII)Z"⟩, 14) := ⟨⟨by decide +kernel, by decide +kernel⟩, List.mem_of_getElem? (i := 40) (by decide +kernel), List.mem_of_getElem? (i := 340) (by decide +kernel), List.mem_of_getElem? (i := 341) (by decide +kernel)⟩
theorem lw_p13 : lw_okq (⟨"HalfAsleep", "findMostByTakes", "()V"⟩, 12) := ⟨⟨by decide +kernel, by decide +kernel⟩, List.mem_of_getElem? (i := 10) (by decide +kernel), List.mem_of_getElem? (i := 396) (by decide +kernel), List.mem_of_getElem? (i := 397) (by decide +kernel)⟩
theorem lw_p14 : lw_okq (⟨"HalfAsleep", "explainsAllDeeds", "(I)Z"⟩, 12) := ⟨⟨by decide +kernel, by decide +kernel⟩, List.mem_of_getElem? (i := 10) (by decide +kernel), List.mem_of_getElem? (i := 434) (by decide +kernel), List.mem_of_getElem? (i := 435) (by decide +kernel)⟩
theorem lw_p15 : lw_okq (⟨"HalfAsleep", "keptPlace", "(I)LHalfAsleep$Standing;"⟩, 12) := ⟨⟨by decide +kernel, by decide +kernel⟩, List.mem_of_getElem? (i := 10) (by decide +kernel), List.mem_of_getElem? (i := 456) (by decide +kernel), List.mem_of_getElem? (i := 457) (by decide +kernel)⟩
def lw_privs_1 : List (MethodName × Nat) := [(⟨"HalfAsleep$Page", "readItem", "(LHalfAsleep$Town;)Z"⟩, 4), (⟨"HalfAsleep$Page", "next", "()I"⟩, 4), (⟨"HalfAsleep$Page", "readNumbers", "(I)Z"⟩, 4), (⟨"HalfAsleep$Page", "readNumber", "()I"⟩, 4), (⟨"HalfAsleep$Page", "readSign", "(I)Z"⟩, 4), (⟨"HalfAsleep$Page", "readSteps", "(LHalfAsleep$Town;)Z"⟩, 4), (⟨"HalfAsleep$Town", "isHalfHere", "(II)Z"⟩, 14), (⟨"HalfAsleep", "isPerson", "(I)Z"⟩, 12), (⟨"HalfAsleep$Standing", "tellOneAnother", "(II)V"⟩, 3), (⟨"HalfAsleep$Standing", "readNotes", "(I)V"⟩, 3), (⟨"HalfAsleep", "isTrade", "(I)Z"⟩, 12), (⟨"HalfAsleep$Town", "stepAfterShift", "(IIII)I"⟩, 14), (⟨"HalfAsleep$Town", "hasSkillFor", "(IIII)Z"⟩, 14), (⟨"HalfAsleep", "findMostByTakes", "()V"⟩, 12), (⟨"HalfAsleep", "explainsAllDeeds", "(I)Z"⟩, 12), (⟨"HalfAsleep", "keptPlace", "(I)LHalfAsleep$Standing;"⟩, 12)]
theorem lw_r1 : ∀ q ∈ lw_privs_1, lw_okq q := List.forall_mem_cons.mpr ⟨lw_p0, List.forall_mem_cons.mpr ⟨lw_p1, List.forall_mem_cons.mpr ⟨lw_p2, List.forall_mem_cons.mpr ⟨lw_p3, List.forall_mem_cons.mpr ⟨lw_p4, List.forall_mem_cons.mpr ⟨lw_p5, List.forall_mem_cons.mpr ⟨lw_p6, List.forall_mem_cons.mpr ⟨lw_p7, List.forall_mem_cons.mpr ⟨lw_p8, List.forall_mem_cons.mpr ⟨lw_p9, List.forall_mem_cons.mpr ⟨lw_p10, List.forall_mem_cons.mpr ⟨lw_p11, List.forall_mem_cons.mpr ⟨lw_p12, List.forall_mem_cons.mpr ⟨lw_p13, List.forall_mem_cons.mpr ⟨lw_p14, List.forall_mem_cons.mpr ⟨lw_p15, fun _ h => absurd h List.not_mem_nil⟩⟩⟩⟩⟩⟩⟩⟩⟩⟩⟩⟩⟩⟩⟩⟩
theorem lw_p16 : lw_okq (⟨"HalfAsleepModel", "reads", "()I"⟩, 14) := ⟨⟨by decide +kernel, by decide +kernel⟩, List.mem_of_getElem? (i := 468) (by decide +kernel), List.mem_of_getElem? (i := 533) (by decide +kernel), List.mem_of_getElem? (i := 534) (by decide +kernel)⟩
theorem lw_p17 : lw_okq (⟨"HalfAsleepModel", "item", "()Z"⟩, 14) := ⟨⟨by decide +kernel, by decide +kernel⟩, List.mem_of_getElem? (i := 468) (by decide +kernel), List.mem_of_getElem? (i := 537) (by decide +kernel), List.mem_of_getElem? (i := 538) (by decide +kernel)⟩
theorem lw_p18 : lw_okq (⟨"HalfAsleepModel", "byteAt", "(I)I"⟩, 14) := ⟨⟨by decide +kernel, by decide +kernel⟩, List.mem_of_getElem? (i := 468) (by decide +kernel), List.mem_of_getElem? (i := 541) (by decide +kernel), List.mem_of_getElem? (i := 542) (by decide +kernel)⟩
theorem lw_p19 : lw_okq (⟨"HalfAsleepModel", "person", "()Z"⟩, 14) := ⟨⟨by decide +kernel, by decide +kernel⟩, List.mem_of_getElem? (i := 468) (by decide +kernel), List.mem_of_getElem? (i := 545) (by decide +kernel), List.mem_of_getElem? (i := 546) (by decide +kernel)⟩
theorem lw_p20 : lw_okq (⟨"HalfAsleepModel", "numbers", "(I)Z"⟩, 14) := ⟨⟨by decide +kernel, by decide +kernel⟩, List.mem_of_getElem? (i := 468) (by decide +kernel), List.mem_of_getElem? (i := 549) (by decide +kernel), List.mem_of_getElem? (i := 550) (by decide +kernel)⟩
theorem lw_p21 : lw_okq (⟨"HalfAsleepModel", "isFigure", "()Z"⟩, 14) := ⟨⟨by decide +kernel, by decide +kernel⟩, List.mem_of_getElem? (i := 468) (by decide +kernel), List.mem_of_getElem? (i := 553) (by decide +kernel), List.mem_of_getElem? (i := 554) (by decide +kernel)⟩
theorem lw_p22 : lw_okq (⟨"HalfAsleepModel", "trade", "()Z"⟩, 14) := ⟨⟨by decide +kernel, by decide +kernel⟩, List.mem_of_getElem? (i := 468) (by decide +kernel), List.mem_of_getElem? (i := 557) (by decide +kernel), List.mem_of_getElem? (i := 558) (by decide +kernel)⟩
theorem lw_p23 : lw_okq (⟨"HalfAsleepModel", "one", "(III)Z"⟩, 14) := ⟨⟨by decide +kernel, by decide +kernel⟩, List.mem_of_getElem? (i := 468) (by decide +kernel), List.mem_of_getElem? (i := 561) (by decide +kernel), List.mem_of_getElem? (i := 562) (by decide +kernel)⟩
theorem lw_p24 : lw_okq (⟨"HalfAsleepModel", "known", "()Z"⟩, 14) := ⟨⟨by decide +kernel, by decide +kernel⟩, List.mem_of_getElem? (i := 468) (by decide +kernel), List.mem_of_getElem? (i := 565) (by decide +kernel), List.mem_of_getElem? (i := 566) (by decide +kernel)⟩
theorem lw_p25 : lw_okq (⟨"HalfAsleepModel", "isHalf", "(I)Z"⟩, 14) := ⟨⟨by decide +kernel, by decide +kernel⟩, List.mem_of_getElem? (i := 468) (by decide +kernel), List.mem_of_getElem? (i := 569) (by decide +kernel), List.mem_of_getElem? (i := 570) (by decide +kernel)⟩
theorem lw_p26 : lw_okq (⟨"HalfAsleepModel", "married", "()Z"⟩, 14) := ⟨⟨by decide +kernel, by decide +kernel⟩, List.mem_of_getElem? (i := 468) (by decide +kernel), List.mem_of_getElem? (i := 573) (by decide +kernel), List.mem_of_getElem? (i := 574) (by decide +kernel)⟩
theorem lw_p27 : lw_okq (⟨"HalfAsleepModel", "pursed", "()Z"⟩, 14) := ⟨⟨by decide +kernel, by decide +kernel⟩, List.mem_of_getElem? (i := 468) (by decide +kernel), List.mem_of_getElem? (i := 577) (by decide +kernel), List.mem_of_getElem? (i := 578) (by decide +kernel)⟩
theorem lw_p28 : lw_okq (⟨"HalfAsleepModel", "isPerson", "(I)Z"⟩, 14) := ⟨⟨by decide +kernel, by decide +kernel⟩, List.mem_of_getElem? (i := 468) (by decide +kernel), List.mem_of_getElem? (i := 589) (by decide +kernel), List.mem_of_getElem? (i := 590) (by decide +kernel)⟩
theorem lw_p29 : lw_okq (⟨"HalfAsleepModel", "awake", "()I"⟩, 14) := ⟨⟨by decide +kernel, by decide +kernel⟩, List.mem_of_getElem? (i := 468) (by decide +kernel), List.mem_of_getElem? (i := 593) (by decide +kernel), List.mem_of_getElem? (i := 594) (by decide +kernel)⟩
theorem lw_p30 : lw_okq (⟨"HalfAsleepModel", "plays", "(I)V"⟩, 14) := ⟨⟨by decide +kernel, by decide +kernel⟩, List.mem_of_getElem? (i := 468) (by decide +kernel), List.mem_of_getElem? (i := 616) (by decide +kernel), List.mem_of_getElem? (i := 617) (by decide +kernel)⟩
theorem lw_p31 : lw_okq (⟨"HalfAsleepModel", "ends", "()V"⟩, 14) := ⟨⟨by decide +kernel, by decide +kernel⟩, List.mem_of_getElem? (i := 468) (by decide +kernel), List.mem_of_getElem? (i := 620) (by decide +kernel), List.mem_of_getElem? (i := 621) (by decide +kernel)⟩
def lw_privs_2 : List (MethodName × Nat) := [(⟨"HalfAsleepModel", "reads", "()I"⟩, 14), (⟨"HalfAsleepModel", "item", "()Z"⟩, 14), (⟨"HalfAsleepModel", "byteAt", "(I)I"⟩, 14), (⟨"HalfAsleepModel", "person", "()Z"⟩, 14), (⟨"HalfAsleepModel", "numbers", "(I)Z"⟩, 14), (⟨"HalfAsleepModel", "isFigure", "()Z"⟩, 14), (⟨"HalfAsleepModel", "trade", "()Z"⟩, 14), (⟨"HalfAsleepModel", "one", "(III)Z"⟩, 14), (⟨"HalfAsleepModel", "known", "()Z"⟩, 14), (⟨"HalfAsleepModel", "isHalf", "(I)Z"⟩, 14), (⟨"HalfAsleepModel", "married", "()Z"⟩, 14), (⟨"HalfAsleepModel", "pursed", "()Z"⟩, 14), (⟨"HalfAsleepModel", "isPerson", "(I)Z"⟩, 14), (⟨"HalfAsleepModel", "awake", "()I"⟩, 14), (⟨"HalfAsleepModel", "plays", "(I)V"⟩, 14), (⟨"HalfAsleepModel", "ends", "()V"⟩, 14)]
theorem lw_r2 : ∀ q ∈ lw_privs_2, lw_okq q := List.forall_mem_cons.mpr ⟨lw_p16, List.forall_mem_cons.mpr ⟨lw_p17, List.forall_mem_cons.mpr ⟨lw_p18, List.forall_mem_cons.mpr ⟨lw_p19, List.forall_mem_cons.mpr ⟨lw_p20, List.forall_mem_cons.mpr ⟨lw_p21, List.forall_mem_cons.mpr ⟨lw_p22, List.forall_mem_cons.mpr ⟨lw_p23, List.forall_mem_cons.mpr ⟨lw_p24, List.forall_mem_cons.mpr ⟨lw_p25, List.forall_mem_cons.mpr ⟨lw_p26, List.forall_mem_cons.mpr ⟨lw_p27, List.forall_mem_cons.mpr ⟨lw_p28, List.forall_mem_cons.mpr ⟨lw_p29, List.forall_mem_cons.mpr ⟨lw_p30, List.forall_mem_cons.mpr ⟨lw_p31, fun _ h => absurd h List.not_mem_nil⟩⟩⟩⟩⟩⟩⟩⟩⟩⟩⟩⟩⟩⟩⟩⟩
theorem lw_p32 : lw_okq (⟨"HalfAsleepModel", "tells", "(II)I"⟩, 14) := ⟨⟨by decide +kernel, by decide +kernel⟩, List.mem_of_getElem? (i := 468) (by decide +kernel), List.mem_of_getElem? (i := 624) (by decide +kernel), List.mem_of_getElem? (i := 625) (by decide +kernel)⟩
theorem lw_p33 : lw_okq (⟨"HalfAsleepModel", "isTrade", "(I)Z"⟩, 14) := ⟨⟨by decide +kernel, by decide +kernel⟩, List.mem_of_getElem? (i := 468) (by decide +kernel), List.mem_of_getElem? (i := 632) (by decide +kernel), List.mem_of_getElem? (i := 633) (by decide +kernel)⟩
theorem lw_p34 : lw_okq (⟨"HalfAsleepModel", "doneBy", "(II)I"⟩, 14) := ⟨⟨by decide +kernel, by decide +kernel⟩, List.mem_of_getElem? (i := 468) (by decide +kernel), List.mem_of_getElem? (i := 636) (by decide +kernel), List.mem_of_getElem? (i := 637) (by decide +kernel)⟩
theorem lw_p35 : lw_okq (⟨"HalfAsleepModel", "has", "(IIII)Z"⟩, 14) := ⟨⟨by decide +kernel, by decide +kernel⟩, List.mem_of_getElem? (i := 468) (by decide +kernel), List.mem_of_getElem? (i := 640) (by decide +kernel), List.mem_of_getElem? (i := 641) (by decide +kernel)⟩
theorem lw_p36 : lw_okq (⟨"HalfAsleepModel", "whoKnow", "(I)I"⟩, 14) := ⟨⟨by decide +kernel, by decide +kernel⟩, List.mem_of_getElem? (i := 468) (by decide +kernel), List.mem_of_getElem? (i := 660) (by decide +kernel), List.mem_of_getElem? (i := 661) (by decide +kernel)⟩
theorem lw_p37 : lw_okq (⟨"HalfAsleepModel", "holds", "(III)I"⟩, 14) := ⟨⟨by decide +kernel, by decide +kernel⟩, List.mem_of_getElem? (i := 468) (by decide +kernel), List.mem_of_getElem? (i := 672) (by decide +kernel), List.mem_of_getElem? (i := 673) (by decide +kernel)⟩
theorem lw_p38 : lw_okq (⟨"HalfAsleepModel", "rest", "(II)Z"⟩, 14) := ⟨⟨by decide +kernel, by decide +kernel⟩, List.mem_of_getElem? (i := 468) (by decide +kernel), List.mem_of_getElem? (i := 680) (by decide +kernel), List.mem_of_getElem? (i := 681) (by decide +kernel)⟩
theorem lw_p39 : lw_okq (⟨"HalfAsleepModel", "parts", "(I)I"⟩, 14) := ⟨⟨by decide +kernel, by decide +kernel⟩, List.mem_of_getElem? (i := 468) (by decide +kernel), List.mem_of_getElem? (i := 688) (by decide +kernel), List.mem_of_getElem? (i := 689) (by decide +kernel)⟩
theorem lw_p40 : lw_okq (⟨"HalfAsleepModel", "finds", "()V"⟩, 14) := ⟨⟨by decide +kernel, by decide +kernel⟩, List.mem_of_getElem? (i := 468) (by decide +kernel), List.mem_of_getElem? (i := 707) (by decide +kernel), List.mem_of_getElem? (i := 708) (by decide +kernel)⟩
def lw_privs_3 : List (MethodName × Nat) := [(⟨"HalfAsleepModel", "tells", "(II)I"⟩, 14), (⟨"HalfAsleepModel", "isTrade", "(I)Z"⟩, 14), (⟨"HalfAsleepModel", "doneBy", "(II)I"⟩, 14), (⟨"HalfAsleepModel", "has", "(IIII)Z"⟩, 14), (⟨"HalfAsleepModel", "whoKnow", "(I)I"⟩, 14), (⟨"HalfAsleepModel", "holds", "(III)I"⟩, 14), (⟨"HalfAsleepModel", "rest", "(II)Z"⟩, 14), (⟨"HalfAsleepModel", "parts", "(I)I"⟩, 14), (⟨"HalfAsleepModel", "finds", "()V"⟩, 14)]
theorem lw_r3 : ∀ q ∈ lw_privs_3, lw_okq q := List.forall_mem_cons.mpr ⟨lw_p32, List.forall_mem_cons.mpr ⟨lw_p33, List.forall_mem_cons.mpr ⟨lw_p34, List.forall_mem_cons.mpr ⟨lw_p35, List.forall_mem_cons.mpr ⟨lw_p36, List.forall_mem_cons.mpr ⟨lw_p37, List.forall_mem_cons.mpr ⟨lw_p38, List.forall_mem_cons.mpr ⟨lw_p39, List.forall_mem_cons.mpr ⟨lw_p40, fun _ h => absurd h List.not_mem_nil⟩⟩⟩⟩⟩⟩⟩⟩⟩
def lw_privs : List (MethodName × Nat) := lw_privs_1 ++ (lw_privs_2 ++ (lw_privs_3))
def lw_tbl : List Cond := k2_sels lw_privs ++ tables_1
theorem lw_privs_ok : ∀ q ∈ lw_privs, lw_okq q := by
  show ∀ q ∈ lw_privs_1 ++ (lw_privs_2 ++ (lw_privs_3)), lw_okq q
  exact List.forall_mem_append.mpr ⟨lw_r1, List.forall_mem_append.mpr ⟨lw_r2, lw_r3⟩⟩
def RX0 : String := "HalfAsleep$Page"
def TX0 : u_T := fun k => match k with
  | 0 => ("HalfAsleep$Page", "bytes", "[B", true)
  | 1 => ("HalfAsleep$Page", "length", "I", false)
  | 2 => ("HalfAsleep$Page", "place", "I", false)
  | _ => ("HalfAsleep$Page", "numbers", "[I", true)
def tyX0 : Nat → FieldType := fun k => match k with
  | 0 => .array .byte
  | 1 => .int
  | 2 => .int
  | _ => .array .int
abbrev wsX00 : List Cond := u_ws RX0 TX0 4
theorem nmX0 : ∀ a, a < 4 → ∀ b, b < 4 → a ≠ b → (TX0 a).2.1 ≠ (TX0 b).2.1 := by decide +kernel
theorem tyX0_ok : ∀ k, k < 4 → parseFieldDescriptor (TX0 k).2.2.1 = some (tyX0 k) := by decide +kernel
abbrev cX0_init : ByteArray := prog_2_method_1_code
def yX0_init : MethodName := ⟨RX0, "<init>", "()V"⟩
abbrev cX0_append : ByteArray := prog_2_method_2_code
def yX0_append : MethodName := ⟨RX0, "append", "(B)V"⟩
abbrev cX0_readInto : ByteArray := prog_2_method_3_code
def yX0_readInto : MethodName := ⟨RX0, "readInto", "(LHalfAsleep$Town;)I"⟩
abbrev cX0_readItem : ByteArray := prog_2_method_4_code
def yX0_readItem : MethodName := ⟨RX0, "readItem", "(LHalfAsleep$Town;)Z"⟩
abbrev cX0_readNumbers : ByteArray := prog_2_method_5_code
def yX0_readNumbers : MethodName := ⟨RX0, "readNumbers", "(I)Z"⟩
abbrev cX0_readNumber : ByteArray := prog_2_method_6_code
def yX0_readNumber : MethodName := ⟨RX0, "readNumber", "()I"⟩
abbrev cX0_readSteps : ByteArray := prog_2_method_7_code
def yX0_readSteps : MethodName := ⟨RX0, "readSteps", "(LHalfAsleep$Town;)Z"⟩
abbrev cX0_readSign : ByteArray := prog_2_method_8_code
def yX0_readSign : MethodName := ⟨RX0, "readSign", "(I)Z"⟩
abbrev cX0_next : ByteArray := prog_2_method_9_code
def yX0_next : MethodName := ⟨RX0, "next", "()I"⟩
def RX1 : String := "HalfAsleep$Standing"
def TX1 : u_T := fun k => match k with
  | 0 => ("HalfAsleep$Standing", "shift", "I", false)
  | 1 => ("HalfAsleep$Standing", "known", "[I", true)
  | _ => ("HalfAsleep$Standing", "hung", "[I", true)
def tyX1 : Nat → FieldType := fun k => match k with
  | 0 => .int
  | 1 => .array .int
  | _ => .array .int
abbrev wsX10 : List Cond := u_ws RX1 TX1 3
theorem nmX1 : ∀ a, a < 3 → ∀ b, b < 3 → a ≠ b → (TX1 a).2.1 ≠ (TX1 b).2.1 := by decide +kernel
theorem tyX1_ok : ∀ k, k < 3 → parseFieldDescriptor (TX1 k).2.2.1 = some (tyX1 k) := by decide +kernel
abbrev cX1_init : ByteArray := prog_3_method_1_code
def yX1_init : MethodName := ⟨RX1, "<init>", "()V"⟩
abbrev cX1_startFrom : ByteArray := prog_3_method_2_code
def yX1_startFrom : MethodName := ⟨RX1, "startFrom", "(LHalfAsleep$Town;)V"⟩
abbrev cX1_copyFrom : ByteArray := prog_3_method_3_code
def yX1_copyFrom : MethodName := ⟨RX1, "copyFrom", "(LHalfAsleep$Standing;)V"⟩
abbrev cX1_awake : ByteArray := prog_3_method_4_code
def yX1_awake : MethodName := ⟨RX1, "awake", "()I"⟩
abbrev cX1_awakeKnows : ByteArray := prog_3_method_5_code
def yX1_awakeKnows : MethodName := ⟨RX1, "awakeKnows", "(I)I"⟩
abbrev cX1_learn : ByteArray := prog_3_method_6_code
def yX1_learn : MethodName := ⟨RX1, "learn", "(II)V"⟩
abbrev cX1_ableTo : ByteArray := prog_3_method_7_code
def yX1_ableTo : MethodName := ⟨RX1, "ableTo", "(II)I"⟩
abbrev cX1_endShifts : ByteArray := prog_3_method_8_code
def yX1_endShifts : MethodName := ⟨RX1, "endShifts", "(LHalfAsleep$Town;I)V"⟩
abbrev cX1_tellOneAnother : ByteArray := prog_3_method_9_code
def yX1_tellOneAnother : MethodName := ⟨RX1, "tellOneAnother", "(II)V"⟩
abbrev cX1_readNotes : ByteArray := prog_3_method_10_code
def yX1_readNotes : MethodName := ⟨RX1, "readNotes", "(I)V"⟩
abbrev cX1_lowest : ByteArray := prog_3_method_11_code
def yX1_lowest : MethodName := ⟨RX1, "lowest", "(II)I"⟩
def RX2 : String := "HalfAsleep$Town"
def TX2 : u_T := fun k => match k with
  | 0 => ("HalfAsleep$Town", "persons", "I", false)
  | 1 => ("HalfAsleep$Town", "skills", "[I", true)
  | 2 => ("HalfAsleep$Town", "knownFirst", "[I", true)
  | 3 => ("HalfAsleep$Town", "trades", "I", false)
  | 4 => ("HalfAsleep$Town", "steps", "[I", true)
  | 5 => ("HalfAsleep$Town", "tradeLengths", "[I", true)
  | 6 => ("HalfAsleep$Town", "openSteps", "I", false)
  | 7 => ("HalfAsleep$Town", "pairs", "I", false)
  | 8 => ("HalfAsleep$Town", "pairHalves", "[I", true)
  | 9 => ("HalfAsleep$Town", "stepsPerShift", "I", false)
  | 10 => ("HalfAsleep$Town", "factsTold", "I", false)
  | 11 => ("HalfAsleep$Town", "coins", "I", false)
  | 12 => ("HalfAsleep$Town", "worthLeft", "I", false)
  | _ => ("HalfAsleep$Town", "worthRight", "I", false)
def tyX2 : Nat → FieldType := fun k => match k with
  | 0 => .int
  | 1 => .array .int
  | 2 => .array .int
  | 3 => .int
  | 4 => .array .int
  | 5 => .array .int
  | 6 => .int
  | 7 => .int
  | 8 => .array .int
  | 9 => .int
  | 10 => .int
  | 11 => .int
  | 12 => .int
  | _ => .int
abbrev wsX20 : List Cond := u_ws RX2 TX2 14
theorem nmX2 : ∀ a, a < 14 → ∀ b, b < 14 → a ≠ b → (TX2 a).2.1 ≠ (TX2 b).2.1 := by decide +kernel
theorem tyX2_ok : ∀ k, k < 14 → parseFieldDescriptor (TX2 k).2.2.1 = some (tyX2 k) := by decide +kernel
abbrev cX2_init : ByteArray := prog_4_method_1_code
def yX2_init : MethodName := ⟨RX2, "<init>", "()V"⟩
abbrev cX2_empty : ByteArray := prog_4_method_2_code
def yX2_empty : MethodName := ⟨RX2, "empty", "()V"⟩
abbrev cX2_addPerson : ByteArray := prog_4_method_3_code
def yX2_addPerson : MethodName := ⟨RX2, "addPerson", "(II)Z"⟩
abbrev cX2_addStep : ByteArray := prog_4_method_4_code
def yX2_addStep : MethodName := ⟨RX2, "addStep", "(I)Z"⟩
abbrev cX2_endTrade : ByteArray := prog_4_method_5_code
def yX2_endTrade : MethodName := ⟨RX2, "endTrade", "()Z"⟩
abbrev cX2_setStepsPerShift : ByteArray := prog_4_method_6_code
def yX2_setStepsPerShift : MethodName := ⟨RX2, "setStepsPerShift", "(I)Z"⟩
abbrev cX2_setFactsTold : ByteArray := prog_4_method_7_code
def yX2_setFactsTold : MethodName := ⟨RX2, "setFactsTold", "(I)Z"⟩
abbrev cX2_setKnown : ByteArray := prog_4_method_8_code
def yX2_setKnown : MethodName := ⟨RX2, "setKnown", "(III)Z"⟩
abbrev cX2_addPair : ByteArray := prog_4_method_9_code
def yX2_addPair : MethodName := ⟨RX2, "addPair", "(IIII)Z"⟩
abbrev cX2_setPurse : ByteArray := prog_4_method_10_code
def yX2_setPurse : MethodName := ⟨RX2, "setPurse", "(III)Z"⟩
abbrev cX2_isHalfHere : ByteArray := prog_4_method_11_code
def yX2_isHalfHere : MethodName := ⟨RX2, "isHalfHere", "(II)Z"⟩
abbrev cX2_hasSkillFor : ByteArray := prog_4_method_12_code
def yX2_hasSkillFor : MethodName := ⟨RX2, "hasSkillFor", "(IIII)Z"⟩
abbrev cX2_shiftsNeeded : ByteArray := prog_4_method_13_code
def yX2_shiftsNeeded : MethodName := ⟨RX2, "shiftsNeeded", "(III)I"⟩
abbrev cX2_stepAfterShift : ByteArray := prog_4_method_14_code
def yX2_stepAfterShift : MethodName := ⟨RX2, "stepAfterShift", "(IIII)I"⟩
abbrev cX2_fewestHandings : ByteArray := prog_4_method_15_code
def yX2_fewestHandings : MethodName := ⟨RX2, "fewestHandings", "(II)I"⟩
abbrev cX2_share : ByteArray := prog_4_method_16_code
def yX2_share : MethodName := ⟨RX2, "share", "(III)I"⟩
abbrev cX2_partings : ByteArray := prog_4_method_17_code
def yX2_partings : MethodName := ⟨RX2, "partings", "(I)I"⟩
abbrev cX2_campOf : ByteArray := prog_4_method_18_code
def yX2_campOf : MethodName := ⟨RX2, "campOf", "(II)I"⟩
abbrev cX2_personByDraw : ByteArray := prog_4_method_19_code
def yX2_personByDraw : MethodName := ⟨RX2, "personByDraw", "(I)I"⟩
def RX3 : String := "HalfAsleep"
def TX3 : u_T := fun k => match k with
  | 0 => ("HalfAsleep", "page", "LHalfAsleep$Page;", true)
  | 1 => ("HalfAsleep", "laid", "LHalfAsleep$Town;", false)
  | 2 => ("HalfAsleep", "draft", "LHalfAsleep$Town;", false)
  | 3 => ("HalfAsleep", "now", "LHalfAsleep$Standing;", true)
  | 4 => ("HalfAsleep", "trial", "LHalfAsleep$Standing;", true)
  | 5 => ("HalfAsleep", "firstKept", "LHalfAsleep$Standing;", true)
  | 6 => ("HalfAsleep", "secondKept", "LHalfAsleep$Standing;", true)
  | 7 => ("HalfAsleep", "keptNumber", "I", false)
  | 8 => ("HalfAsleep", "doers", "[I", true)
  | 9 => ("HalfAsleep", "deeds", "I", false)
  | 10 => ("HalfAsleep", "mostLeft", "[I", true)
  | _ => ("HalfAsleep", "mostRight", "[I", true)
def tyX3 : Nat → FieldType := fun k => match k with
  | 0 => .object "HalfAsleep$Page"
  | 1 => .object "HalfAsleep$Town"
  | 2 => .object "HalfAsleep$Town"
  | 3 => .object "HalfAsleep$Standing"
  | 4 => .object "HalfAsleep$Standing"
  | 5 => .object "HalfAsleep$Standing"
  | 6 => .object "HalfAsleep$Standing"
  | 7 => .int
  | 8 => .array .int
  | 9 => .int
  | 10 => .array .int
  | _ => .array .int
abbrev wsX30 : List Cond := u_ws RX3 TX3 12
theorem nmX3 : ∀ a, a < 12 → ∀ b, b < 12 → a ≠ b → (TX3 a).2.1 ≠ (TX3 b).2.1 := by decide +kernel
theorem tyX3_ok : ∀ k, k < 12 → parseFieldDescriptor (TX3 k).2.2.1 = some (tyX3 k) := by decide +kernel
abbrev cX3_init : ByteArray := prog_1_method_1_code
def yX3_init : MethodName := ⟨RX3, "<init>", "()V"⟩
abbrev cX3_write : ByteArray := prog_1_method_2_code
def yX3_write : MethodName := ⟨RX3, "write", "(IJ)I"⟩
abbrev cX3_wipe : ByteArray := prog_1_method_3_code
def yX3_wipe : MethodName := ⟨RX3, "wipe", "()I"⟩
abbrev cX3_fault : ByteArray := prog_1_method_4_code
def yX3_fault : MethodName := ⟨RX3, "fault", "()I"⟩
abbrev cX3_lay : ByteArray := prog_1_method_5_code
def yX3_lay : MethodName := ⟨RX3, "lay", "()I"⟩
abbrev cX3_half : ByteArray := prog_1_method_6_code
def yX3_half : MethodName := ⟨RX3, "half", "(III)I"⟩
abbrev cX3_see : ByteArray := prog_1_method_7_code
def yX3_see : MethodName := ⟨RX3, "see", "(II)I"⟩
abbrev cX3_note : ByteArray := prog_1_method_8_code
def yX3_note : MethodName := ⟨RX3, "note", "(II)I"⟩
abbrev cX3_deed : ByteArray := prog_1_method_9_code
def yX3_deed : MethodName := ⟨RX3, "deed", "(II)I"⟩
abbrev cX3_shifts : ByteArray := prog_1_method_10_code
def yX3_shifts : MethodName := ⟨RX3, "shifts", "(I)I"⟩
abbrev cX3_done : ByteArray := prog_1_method_11_code
def yX3_done : MethodName := ⟨RX3, "done", "(II)I"⟩
abbrev cX3_handed : ByteArray := prog_1_method_12_code
def yX3_handed : MethodName := ⟨RX3, "handed", "(II)I"⟩
abbrev cX3_best : ByteArray := prog_1_method_13_code
def yX3_best : MethodName := ⟨RX3, "best", "(I)I"⟩
abbrev cX3_knows : ByteArray := prog_1_method_14_code
def yX3_knows : MethodName := ⟨RX3, "knows", "(III)I"⟩
abbrev cX3_could : ByteArray := prog_1_method_15_code
def yX3_could : MethodName := ⟨RX3, "could", "(II)I"⟩
abbrev cX3_alike : ByteArray := prog_1_method_16_code
def yX3_alike : MethodName := ⟨RX3, "alike", "(I)I"⟩
abbrev cX3_purse : ByteArray := prog_1_method_17_code
def yX3_purse : MethodName := ⟨RX3, "purse", "(III)I"⟩
abbrev cX3_rests : ByteArray := prog_1_method_18_code
def yX3_rests : MethodName := ⟨RX3, "rests", "(I)I"⟩
abbrev cX3_camps : ByteArray := prog_1_method_19_code
def yX3_camps : MethodName := ⟨RX3, "camps", "(I)I"⟩
abbrev cX3_seen : ByteArray := prog_1_method_20_code
def yX3_seen : MethodName := ⟨RX3, "seen", "(II)I"⟩
abbrev cX3_forget : ByteArray := prog_1_method_21_code
def yX3_forget : MethodName := ⟨RX3, "forget", "()I"⟩
abbrev cX3_fits : ByteArray := prog_1_method_22_code
def yX3_fits : MethodName := ⟨RX3, "fits", "()I"⟩
abbrev cX3_least : ByteArray := prog_1_method_23_code
def yX3_least : MethodName := ⟨RX3, "least", "()I"⟩
abbrev cX3_month : ByteArray := prog_1_method_24_code
def yX3_month : MethodName := ⟨RX3, "month", "(IIII)I"⟩
abbrev cX3_keep : ByteArray := prog_1_method_25_code
def yX3_keep : MethodName := ⟨RX3, "keep", "()I"⟩
abbrev cX3_back : ByteArray := prog_1_method_26_code
def yX3_back : MethodName := ⟨RX3, "back", "()I"⟩
abbrev cX3_count : ByteArray := prog_1_method_27_code
def yX3_count : MethodName := ⟨RX3, "count", "(I)I"⟩
abbrev cX3_isPerson : ByteArray := prog_1_method_28_code
def yX3_isPerson : MethodName := ⟨RX3, "isPerson", "(I)Z"⟩
abbrev cX3_isTrade : ByteArray := prog_1_method_29_code
def yX3_isTrade : MethodName := ⟨RX3, "isTrade", "(I)Z"⟩
abbrev cX3_isHalf : ByteArray := prog_1_method_30_code
def yX3_isHalf : MethodName := ⟨RX3, "isHalf", "(I)Z"⟩
abbrev cX3_isFact : ByteArray := prog_1_method_31_code
def yX3_isFact : MethodName := ⟨RX3, "isFact", "(I)Z"⟩
abbrev cX3_areFacts : ByteArray := prog_1_method_32_code
def yX3_areFacts : MethodName := ⟨RX3, "areFacts", "(I)Z"⟩
abbrev cX3_isAhead : ByteArray := prog_1_method_33_code
def yX3_isAhead : MethodName := ⟨RX3, "isAhead", "(I)Z"⟩
abbrev cX3_isTake : ByteArray := prog_1_method_34_code
def yX3_isTake : MethodName := ⟨RX3, "isTake", "(I)Z"⟩
abbrev cX3_holdsAll : ByteArray := prog_1_method_35_code
def yX3_holdsAll : MethodName := ⟨RX3, "holdsAll", "(II)Z"⟩
abbrev cX3_draw : ByteArray := prog_1_method_36_code
def yX3_draw : MethodName := ⟨RX3, "draw", "(II)I"⟩
abbrev cX3_keptPlace : ByteArray := prog_1_method_37_code
def yX3_keptPlace : MethodName := ⟨RX3, "keptPlace", "(I)LHalfAsleep$Standing;"⟩
abbrev cX3_explainsAllDeeds : ByteArray := prog_1_method_38_code
def yX3_explainsAllDeeds : MethodName := ⟨RX3, "explainsAllDeeds", "(I)Z"⟩
abbrev cX3_findMostByTakes : ByteArray := prog_1_method_39_code
def yX3_findMostByTakes : MethodName := ⟨RX3, "findMostByTakes", "()V"⟩
def RX4 : String := "HalfAsleepModel"
def TX4 : u_T := fun k => match k with
  | 0 => ("HalfAsleepModel", "text", "[I", true)
  | 1 => ("HalfAsleepModel", "length", "I", false)
  | 2 => ("HalfAsleepModel", "book", "[I", true)
  | 3 => ("HalfAsleepModel", "draft", "[I", true)
  | 4 => ("HalfAsleepModel", "s", "[I", true)
  | 5 => ("HalfAsleepModel", "ahead", "[I", true)
  | 6 => ("HalfAsleepModel", "kept", "[I", true)
  | 7 => ("HalfAsleepModel", "keptMany", "I", false)
  | 8 => ("HalfAsleepModel", "deedShift", "[I", true)
  | 9 => ("HalfAsleepModel", "deedFacts", "[I", true)
  | 10 => ("HalfAsleepModel", "can", "[I", true)
  | 11 => ("HalfAsleepModel", "deeds", "I", false)
  | 12 => ("HalfAsleepModel", "at", "I", false)
  | _ => ("HalfAsleepModel", "told", "[I", true)
def tyX4 : Nat → FieldType := fun k => match k with
  | 0 => .array .int
  | 1 => .int
  | 2 => .array .int
  | 3 => .array .int
  | 4 => .array .int
  | 5 => .array .int
  | 6 => .array .int
  | 7 => .int
  | 8 => .array .int
  | 9 => .array .int
  | 10 => .array .int
  | 11 => .int
  | 12 => .int
  | _ => .array .int
abbrev wsX40 : List Cond := u_ws RX4 TX4 14
theorem nmX4 : ∀ a, a < 14 → ∀ b, b < 14 → a ≠ b → (TX4 a).2.1 ≠ (TX4 b).2.1 := by decide +kernel
theorem tyX4_ok : ∀ k, k < 14 → parseFieldDescriptor (TX4 k).2.2.1 = some (tyX4 k) := by decide +kernel
abbrev cX4_init : ByteArray := prog_6_method_1_code
def yX4_init : MethodName := ⟨RX4, "<init>", "()V"⟩
abbrev cX4_in : ByteArray := prog_6_method_3_code
def yX4_in : MethodName := ⟨RX4, "in", "(III)Z"⟩
abbrev cX4_isPerson : ByteArray := prog_6_method_4_code
def yX4_isPerson : MethodName := ⟨RX4, "isPerson", "(I)Z"⟩
abbrev cX4_isTrade : ByteArray := prog_6_method_5_code
def yX4_isTrade : MethodName := ⟨RX4, "isTrade", "(I)Z"⟩
abbrev cX4_isSet : ByteArray := prog_6_method_6_code
def yX4_isSet : MethodName := ⟨RX4, "isSet", "(I)Z"⟩
abbrev cX4_write : ByteArray := prog_6_method_7_code
def yX4_write : MethodName := ⟨RX4, "write", "(IJ)I"⟩
abbrev cX4_wipe : ByteArray := prog_6_method_8_code
def yX4_wipe : MethodName := ⟨RX4, "wipe", "()I"⟩
abbrev cX4_byteAt : ByteArray := prog_6_method_9_code
def yX4_byteAt : MethodName := ⟨RX4, "byteAt", "(I)I"⟩
abbrev cX4_isFigure : ByteArray := prog_6_method_10_code
def yX4_isFigure : MethodName := ⟨RX4, "isFigure", "()Z"⟩
abbrev cX4_numbers : ByteArray := prog_6_method_11_code
def yX4_numbers : MethodName := ⟨RX4, "numbers", "(I)Z"⟩
abbrev cX4_person : ByteArray := prog_6_method_12_code
def yX4_person : MethodName := ⟨RX4, "person", "()Z"⟩
abbrev cX4_trade : ByteArray := prog_6_method_13_code
def yX4_trade : MethodName := ⟨RX4, "trade", "()Z"⟩
abbrev cX4_isHalf : ByteArray := prog_6_method_14_code
def yX4_isHalf : MethodName := ⟨RX4, "isHalf", "(I)Z"⟩
abbrev cX4_known : ByteArray := prog_6_method_15_code
def yX4_known : MethodName := ⟨RX4, "known", "()Z"⟩
abbrev cX4_married : ByteArray := prog_6_method_16_code
def yX4_married : MethodName := ⟨RX4, "married", "()Z"⟩
abbrev cX4_pursed : ByteArray := prog_6_method_17_code
def yX4_pursed : MethodName := ⟨RX4, "pursed", "()Z"⟩
abbrev cX4_one : ByteArray := prog_6_method_18_code
def yX4_one : MethodName := ⟨RX4, "one", "(III)Z"⟩
abbrev cX4_item : ByteArray := prog_6_method_19_code
def yX4_item : MethodName := ⟨RX4, "item", "()Z"⟩
abbrev cX4_reads : ByteArray := prog_6_method_20_code
def yX4_reads : MethodName := ⟨RX4, "reads", "()I"⟩
abbrev cX4_fault : ByteArray := prog_6_method_21_code
def yX4_fault : MethodName := ⟨RX4, "fault", "()I"⟩
abbrev cX4_lay : ByteArray := prog_6_method_22_code
def yX4_lay : MethodName := ⟨RX4, "lay", "()I"⟩
abbrev cX4_awake : ByteArray := prog_6_method_23_code
def yX4_awake : MethodName := ⟨RX4, "awake", "()I"⟩
abbrev cX4_half : ByteArray := prog_6_method_24_code
def yX4_half : MethodName := ⟨RX4, "half", "(III)I"⟩
abbrev cX4_see : ByteArray := prog_6_method_25_code
def yX4_see : MethodName := ⟨RX4, "see", "(II)I"⟩
abbrev cX4_note : ByteArray := prog_6_method_26_code
def yX4_note : MethodName := ⟨RX4, "note", "(II)I"⟩
abbrev cX4_deed : ByteArray := prog_6_method_27_code
def yX4_deed : MethodName := ⟨RX4, "deed", "(II)I"⟩
abbrev cX4_tells : ByteArray := prog_6_method_28_code
def yX4_tells : MethodName := ⟨RX4, "tells", "(II)I"⟩
abbrev cX4_ends : ByteArray := prog_6_method_29_code
def yX4_ends : MethodName := ⟨RX4, "ends", "()V"⟩
abbrev cX4_plays : ByteArray := prog_6_method_30_code
def yX4_plays : MethodName := ⟨RX4, "plays", "(I)V"⟩
abbrev cX4_shifts : ByteArray := prog_6_method_31_code
def yX4_shifts : MethodName := ⟨RX4, "shifts", "(I)I"⟩
abbrev cX4_has : ByteArray := prog_6_method_32_code
def yX4_has : MethodName := ⟨RX4, "has", "(IIII)Z"⟩
abbrev cX4_doneBy : ByteArray := prog_6_method_33_code
def yX4_doneBy : MethodName := ⟨RX4, "doneBy", "(II)I"⟩
abbrev cX4_done : ByteArray := prog_6_method_34_code
def yX4_done : MethodName := ⟨RX4, "done", "(II)I"⟩
abbrev cX4_handed : ByteArray := prog_6_method_35_code
def yX4_handed : MethodName := ⟨RX4, "handed", "(II)I"⟩
abbrev cX4_best : ByteArray := prog_6_method_36_code
def yX4_best : MethodName := ⟨RX4, "best", "(I)I"⟩
abbrev cX4_knows : ByteArray := prog_6_method_37_code
def yX4_knows : MethodName := ⟨RX4, "knows", "(III)I"⟩
abbrev cX4_whoKnow : ByteArray := prog_6_method_38_code
def yX4_whoKnow : MethodName := ⟨RX4, "whoKnow", "(I)I"⟩
abbrev cX4_could : ByteArray := prog_6_method_39_code
def yX4_could : MethodName := ⟨RX4, "could", "(II)I"⟩
abbrev cX4_alike : ByteArray := prog_6_method_40_code
def yX4_alike : MethodName := ⟨RX4, "alike", "(I)I"⟩
abbrev cX4_holds : ByteArray := prog_6_method_41_code
def yX4_holds : MethodName := ⟨RX4, "holds", "(III)I"⟩
abbrev cX4_purse : ByteArray := prog_6_method_42_code
def yX4_purse : MethodName := ⟨RX4, "purse", "(III)I"⟩
abbrev cX4_rest : ByteArray := prog_6_method_43_code
def yX4_rest : MethodName := ⟨RX4, "rest", "(II)Z"⟩
abbrev cX4_rests : ByteArray := prog_6_method_44_code
def yX4_rests : MethodName := ⟨RX4, "rests", "(I)I"⟩
abbrev cX4_camp : ByteArray := prog_6_method_45_code
def yX4_camp : MethodName := ⟨RX4, "camp", "(II)I"⟩
abbrev cX4_parts : ByteArray := prog_6_method_46_code
def yX4_parts : MethodName := ⟨RX4, "parts", "(I)I"⟩
abbrev cX4_camps : ByteArray := prog_6_method_47_code
def yX4_camps : MethodName := ⟨RX4, "camps", "(I)I"⟩
abbrev cX4_seen : ByteArray := prog_6_method_48_code
def yX4_seen : MethodName := ⟨RX4, "seen", "(II)I"⟩
abbrev cX4_forget : ByteArray := prog_6_method_49_code
def yX4_forget : MethodName := ⟨RX4, "forget", "()I"⟩
abbrev cX4_finds : ByteArray := prog_6_method_50_code
def yX4_finds : MethodName := ⟨RX4, "finds", "()V"⟩
abbrev cX4_fits : ByteArray := prog_6_method_51_code
def yX4_fits : MethodName := ⟨RX4, "fits", "()I"⟩
abbrev cX4_least : ByteArray := prog_6_method_52_code
def yX4_least : MethodName := ⟨RX4, "least", "()I"⟩
abbrev cX4_month : ByteArray := prog_6_method_53_code
def yX4_month : MethodName := ⟨RX4, "month", "(IIII)I"⟩
abbrev cX4_keep : ByteArray := prog_6_method_54_code
def yX4_keep : MethodName := ⟨RX4, "keep", "()I"⟩
abbrev cX4_back : ByteArray := prog_6_method_55_code
def yX4_back : MethodName := ⟨RX4, "back", "()I"⟩
abbrev cX4_count : ByteArray := prog_6_method_56_code
def yX4_count : MethodName := ⟨RX4, "count", "(I)I"⟩
def RJ6 : String := "java/lang/Integer"
abbrev cJ6_bitCount_0f7a4 : ByteArray := prog_7_method_49_code
def yJ6_bitCount_0f7a4 : MethodName := ⟨RJ6, "bitCount", "(I)I"⟩
def RJ9 : String := "java/lang/Math"
abbrev cJ9_max_7cf53 : ByteArray := prog_8_method_65_code
def yJ9_max_7cf53 : MethodName := ⟨RJ9, "max", "(II)I"⟩
abbrev cJ9_min_7cf53 : ByteArray := prog_8_method_69_code
def yJ9_min_7cf53 : MethodName := ⟨RJ9, "min", "(II)I"⟩
def RJ10 : String := "java/lang/System"
def RL : String := "HalfAsleepLaw"
abbrev cL_law : ByteArray := code
def yL_law : MethodName := ⟨RL, "law", "([I)Z"⟩
abbrev vwCl : List vw_C := [(RX0, TX0, 4), (RX1, TX1, 3), (RX2, TX2, 14), (RX3, TX3, 12), (RX4, TX4, 14)]
theorem inX0 : ∀ w ∈ wsX00, w ∈ lw_tbl := by decide +kernel
theorem inX1 : ∀ w ∈ wsX10, w ∈ lw_tbl := by decide +kernel
theorem inX2 : ∀ w ∈ wsX20, w ∈ lw_tbl := by decide +kernel
theorem inX3 : ∀ w ∈ wsX30, w ∈ lw_tbl := by decide +kernel
theorem inX4 : ∀ w ∈ wsX40, w ∈ lw_tbl := by decide +kernel
def isNest : Cond → Bool
  | .fieldLinkNest .. => true
  | .methodLinkNest .. => true
  | _ => false
def tb : List Cond := lw_tbl.filter goodWord
def nst : List Cond := lw_tbl.filter isNest
