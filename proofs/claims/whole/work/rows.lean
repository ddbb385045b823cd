section
-- ===== PART A: goes FIRST, ahead of the names: the tables' words, and 'selects' of the private methods out of them =====
/-- a private method of a class that the tables say can be made, by its rows of tables_1 -/
def lw_okq (q : MethodName × Nat) : Prop := (q.1.cls ≠ "java/lang/invoke/MethodHandle" ∧ q.1.cls ≠ "java/lang/invoke/VarHandle") ∧ Cond.instantiable q.1.cls q.2 ∈ tables_1 ∧ Cond.privateMethod q.1 ∈ tables_1 ∧ Cond.instanceMethod q.1 ∈ tables_1
theorem lw_p0 : lw_okq (⟨"NameRolls", "recordState", "()V"⟩, 5) := ⟨⟨by decide +kernel, by decide +kernel⟩, List.mem_of_getElem? (i := 10) (by decide +kernel), List.mem_of_getElem? (i := 192) (by decide +kernel), List.mem_of_getElem? (i := 193) (by decide +kernel)⟩
theorem lw_p1 : lw_okq (⟨"NameRolls$Roll", "isAhead", "(III)Z"⟩, 15) := ⟨⟨by decide +kernel, by decide +kernel⟩, List.mem_of_getElem? (i := 18) (by decide +kernel), List.mem_of_getElem? (i := 305) (by decide +kernel), List.mem_of_getElem? (i := 306) (by decide +kernel)⟩
theorem lw_p2 : lw_okq (⟨"NameRolls$Roll", "moveNames", "(I)V"⟩, 15) := ⟨⟨by decide +kernel, by decide +kernel⟩, List.mem_of_getElem? (i := 18) (by decide +kernel), List.mem_of_getElem? (i := 317) (by decide +kernel), List.mem_of_getElem? (i := 318) (by decide +kernel)⟩
theorem lw_p3 : lw_okq (⟨"NameRolls$Roll", "moveCells", "(I)V"⟩, 15) := ⟨⟨by decide +kernel, by decide +kernel⟩, List.mem_of_getElem? (i := 18) (by decide +kernel), List.mem_of_getElem? (i := 321) (by decide +kernel), List.mem_of_getElem? (i := 322) (by decide +kernel)⟩
theorem lw_p4 : lw_okq (⟨"NameRolls$Player", "readOrder", "(LNameRolls$Text;)V"⟩, 12) := ⟨⟨by decide +kernel, by decide +kernel⟩, List.mem_of_getElem? (i := 101) (by decide +kernel), List.mem_of_getElem? (i := 407) (by decide +kernel), List.mem_of_getElem? (i := 408) (by decide +kernel)⟩
theorem lw_p5 : lw_okq (⟨"NameRolls$Player", "readLetters", "(LNameRolls$Text;)V"⟩, 12) := ⟨⟨by decide +kernel, by decide +kernel⟩, List.mem_of_getElem? (i := 101) (by decide +kernel), List.mem_of_getElem? (i := 415) (by decide +kernel), List.mem_of_getElem? (i := 416) (by decide +kernel)⟩
theorem lw_p6 : lw_okq (⟨"NameRolls$Player", "fail", "(II)V"⟩, 12) := ⟨⟨by decide +kernel, by decide +kernel⟩, List.mem_of_getElem? (i := 101) (by decide +kernel), List.mem_of_getElem? (i := 419) (by decide +kernel), List.mem_of_getElem? (i := 420) (by decide +kernel)⟩
theorem lw_p7 : lw_okq (⟨"NameRolls$Player", "readDigit", "(LNameRolls$Text;)I"⟩, 12) := ⟨⟨by decide +kernel, by decide +kernel⟩, List.mem_of_getElem? (i := 101) (by decide +kernel), List.mem_of_getElem? (i := 423) (by decide +kernel), List.mem_of_getElem? (i := 424) (by decide +kernel)⟩
theorem lw_p8 : lw_okq (⟨"NameRolls$Player", "readSign", "(LNameRolls$Text;C)V"⟩, 12) := ⟨⟨by decide +kernel, by decide +kernel⟩, List.mem_of_getElem? (i := 101) (by decide +kernel), List.mem_of_getElem? (i := 427) (by decide +kernel), List.mem_of_getElem? (i := 428) (by decide +kernel)⟩
theorem lw_p9 : lw_okq (⟨"NameRolls$Player", "checkRanges", "()V"⟩, 12) := ⟨⟨by decide +kernel, by decide +kernel⟩, List.mem_of_getElem? (i := 101) (by decide +kernel), List.mem_of_getElem? (i := 431) (by decide +kernel), List.mem_of_getElem? (i := 432) (by decide +kernel)⟩
theorem lw_p10 : lw_okq (⟨"NameRolls$Player", "carryOut", "()V"⟩, 12) := ⟨⟨by decide +kernel, by decide +kernel⟩, List.mem_of_getElem? (i := 101) (by decide +kernel), List.mem_of_getElem? (i := 435) (by decide +kernel), List.mem_of_getElem? (i := 436) (by decide +kernel)⟩
theorem lw_p11 : lw_okq (⟨"NameRolls$Player", "canCarryOut", "(I)Z"⟩, 12) := ⟨⟨by decide +kernel, by decide +kernel⟩, List.mem_of_getElem? (i := 101) (by decide +kernel), List.mem_of_getElem? (i := 440) (by decide +kernel), List.mem_of_getElem? (i := 441) (by decide +kernel)⟩
theorem lw_p12 : lw_okq (⟨"NameRollsModel", "canAcquire", "(I)Z"⟩, 17) := ⟨⟨by decide +kernel, by decide +kernel⟩, List.mem_of_getElem? (i := 457) (by decide +kernel), List.mem_of_getElem? (i := 532) (by decide +kernel), List.mem_of_getElem? (i := 533) (by decide +kernel)⟩
theorem lw_p13 : lw_okq (⟨"NameRollsModel", "numberWith", "(I)I"⟩, 17) := ⟨⟨by decide +kernel, by decide +kernel⟩, List.mem_of_getElem? (i := 457) (by decide +kernel), List.mem_of_getElem? (i := 536) (by decide +kernel), List.mem_of_getElem? (i := 537) (by decide +kernel)⟩
theorem lw_p14 : lw_okq (⟨"NameRollsModel", "freeNumber", "()I"⟩, 17) := ⟨⟨by decide +kernel, by decide +kernel⟩, List.mem_of_getElem? (i := 457) (by decide +kernel), List.mem_of_getElem? (i := 540) (by decide +kernel), List.mem_of_getElem? (i := 541) (by decide +kernel)⟩
theorem lw_p15 : lw_okq (⟨"NameRollsModel", "isNamed", "(I)Z"⟩, 17) := ⟨⟨by decide +kernel, by decide +kernel⟩, List.mem_of_getElem? (i := 457) (by decide +kernel), List.mem_of_getElem? (i := 544) (by decide +kernel), List.mem_of_getElem? (i := 545) (by decide +kernel)⟩
def lw_privs_1 : List (MethodName × Nat) := [(⟨"NameRolls", "recordState", "()V"⟩, 5), (⟨"NameRolls$Roll", "isAhead", "(III)Z"⟩, 15), (⟨"NameRolls$Roll", "moveNames", "(I)V"⟩, 15), (⟨"NameRolls$Roll", "moveCells", "(I)V"⟩, 15), (⟨"NameRolls$Player", "readOrder", "(LNameRolls$Text;)V"⟩, 12), (⟨"NameRolls$Player", "readLetters", "(LNameRolls$Text;)V"⟩, 12), (⟨"NameRolls$Player", "fail", "(II)V"⟩, 12), (⟨"NameRolls$Player", "readDigit", "(LNameRolls$Text;)I"⟩, 12), (⟨"NameRolls$Player", "readSign", "(LNameRolls$Text;C)V"⟩, 12), (⟨"NameRolls$Player", "checkRanges", "()V"⟩, 12), (⟨"NameRolls$Player", "carryOut", "()V"⟩, 12), (⟨"NameRolls$Player", "canCarryOut", "(I)Z"⟩, 12), (⟨"NameRollsModel", "canAcquire", "(I)Z"⟩, 17), (⟨"NameRollsModel", "numberWith", "(I)I"⟩, 17), (⟨"NameRollsModel", "freeNumber", "()I"⟩, 17), (⟨"NameRollsModel", "isNamed", "(I)Z"⟩, 17)]
theorem lw_r1 : ∀ q ∈ lw_privs_1, lw_okq q := List.forall_mem_cons.mpr ⟨lw_p0, List.forall_mem_cons.mpr ⟨lw_p1, List.forall_mem_cons.mpr ⟨lw_p2, List.forall_mem_cons.mpr ⟨lw_p3, List.forall_mem_cons.mpr ⟨lw_p4, List.forall_mem_cons.mpr ⟨lw_p5, List.forall_mem_cons.mpr ⟨lw_p6, List.forall_mem_cons.mpr ⟨lw_p7, List.forall_mem_cons.mpr ⟨lw_p8, List.forall_mem_cons.mpr ⟨lw_p9, List.forall_mem_cons.mpr ⟨lw_p10, List.forall_mem_cons.mpr ⟨lw_p11, List.forall_mem_cons.mpr ⟨lw_p12, List.forall_mem_cons.mpr ⟨lw_p13, List.forall_mem_cons.mpr ⟨lw_p14, List.forall_mem_cons.mpr ⟨lw_p15, fun _ h => absurd h List.not_mem_nil⟩⟩⟩⟩⟩⟩⟩⟩⟩⟩⟩⟩⟩⟩⟩⟩
theorem lw_p16 : lw_okq (⟨"NameRollsModel", "saves", "()V"⟩, 17) := ⟨⟨by decide +kernel, by decide +kernel⟩, List.mem_of_getElem? (i := 457) (by decide +kernel), List.mem_of_getElem? (i := 549) (by decide +kernel), List.mem_of_getElem? (i := 550) (by decide +kernel)⟩
theorem lw_p17 : lw_okq (⟨"NameRollsModel", "acquires", "(I)I"⟩, 17) := ⟨⟨by decide +kernel, by decide +kernel⟩, List.mem_of_getElem? (i := 457) (by decide +kernel), List.mem_of_getElem? (i := 553) (by decide +kernel), List.mem_of_getElem? (i := 554) (by decide +kernel)⟩
theorem lw_p18 : lw_okq (⟨"NameRollsModel", "tagOf", "(I)I"⟩, 17) := ⟨⟨by decide +kernel, by decide +kernel⟩, List.mem_of_getElem? (i := 457) (by decide +kernel), List.mem_of_getElem? (i := 557) (by decide +kernel), List.mem_of_getElem? (i := 558) (by decide +kernel)⟩
theorem lw_p19 : lw_okq (⟨"NameRollsModel", "reasonOf", "(I)I"⟩, 17) := ⟨⟨by decide +kernel, by decide +kernel⟩, List.mem_of_getElem? (i := 457) (by decide +kernel), List.mem_of_getElem? (i := 566) (by decide +kernel), List.mem_of_getElem? (i := 567) (by decide +kernel)⟩
theorem lw_p20 : lw_okq (⟨"NameRollsModel", "kept", "()I"⟩, 17) := ⟨⟨by decide +kernel, by decide +kernel⟩, List.mem_of_getElem? (i := 457) (by decide +kernel), List.mem_of_getElem? (i := 570) (by decide +kernel), List.mem_of_getElem? (i := 571) (by decide +kernel)⟩
theorem lw_p21 : lw_okq (⟨"NameRollsModel", "ofCompaction", "(II)I"⟩, 17) := ⟨⟨by decide +kernel, by decide +kernel⟩, List.mem_of_getElem? (i := 457) (by decide +kernel), List.mem_of_getElem? (i := 574) (by decide +kernel), List.mem_of_getElem? (i := 575) (by decide +kernel)⟩
theorem lw_p22 : lw_okq (⟨"NameRollsModel", "cellsWith", "(I)I"⟩, 17) := ⟨⟨by decide +kernel, by decide +kernel⟩, List.mem_of_getElem? (i := 457) (by decide +kernel), List.mem_of_getElem? (i := 595) (by decide +kernel), List.mem_of_getElem? (i := 596) (by decide +kernel)⟩
theorem lw_p23 : lw_okq (⟨"NameRollsModel", "givesBack", "(I)I"⟩, 17) := ⟨⟨by decide +kernel, by decide +kernel⟩, List.mem_of_getElem? (i := 457) (by decide +kernel), List.mem_of_getElem? (i := 599) (by decide +kernel), List.mem_of_getElem? (i := 600) (by decide +kernel)⟩
theorem lw_p24 : lw_okq (⟨"NameRollsModel", "puts", "(II)I"⟩, 17) := ⟨⟨by decide +kernel, by decide +kernel⟩, List.mem_of_getElem? (i := 457) (by decide +kernel), List.mem_of_getElem? (i := 610) (by decide +kernel), List.mem_of_getElem? (i := 611) (by decide +kernel)⟩
theorem lw_p25 : lw_okq (⟨"NameRollsModel", "compacts", "(I)I"⟩, 17) := ⟨⟨by decide +kernel, by decide +kernel⟩, List.mem_of_getElem? (i := 457) (by decide +kernel), List.mem_of_getElem? (i := 627) (by decide +kernel), List.mem_of_getElem? (i := 628) (by decide +kernel)⟩
theorem lw_p26 : lw_okq (⟨"NameRollsModel", "ranks", "(I)V"⟩, 17) := ⟨⟨by decide +kernel, by decide +kernel⟩, List.mem_of_getElem? (i := 457) (by decide +kernel), List.mem_of_getElem? (i := 631) (by decide +kernel), List.mem_of_getElem? (i := 632) (by decide +kernel)⟩
theorem lw_p27 : lw_okq (⟨"NameRollsModel", "isAhead", "(III)Z"⟩, 17) := ⟨⟨by decide +kernel, by decide +kernel⟩, List.mem_of_getElem? (i := 457) (by decide +kernel), List.mem_of_getElem? (i := 635) (by decide +kernel), List.mem_of_getElem? (i := 636) (by decide +kernel)⟩
theorem lw_p28 : lw_okq (⟨"NameRollsModel", "standing", "(I)I"⟩, 17) := ⟨⟨by decide +kernel, by decide +kernel⟩, List.mem_of_getElem? (i := 457) (by decide +kernel), List.mem_of_getElem? (i := 674) (by decide +kernel), List.mem_of_getElem? (i := 675) (by decide +kernel)⟩
theorem lw_p29 : lw_okq (⟨"NameRollsModel", "namesAll", "()I"⟩, 17) := ⟨⟨by decide +kernel, by decide +kernel⟩, List.mem_of_getElem? (i := 457) (by decide +kernel), List.mem_of_getElem? (i := 682) (by decide +kernel), List.mem_of_getElem? (i := 683) (by decide +kernel)⟩
theorem lw_p30 : lw_okq (⟨"NameRollsModel", "usersAll", "()I"⟩, 17) := ⟨⟨by decide +kernel, by decide +kernel⟩, List.mem_of_getElem? (i := 457) (by decide +kernel), List.mem_of_getElem? (i := 686) (by decide +kernel), List.mem_of_getElem? (i := 687) (by decide +kernel)⟩
theorem lw_p31 : lw_okq (⟨"NameRollsModel", "highest", "()I"⟩, 17) := ⟨⟨by decide +kernel, by decide +kernel⟩, List.mem_of_getElem? (i := 457) (by decide +kernel), List.mem_of_getElem? (i := 690) (by decide +kernel), List.mem_of_getElem? (i := 691) (by decide +kernel)⟩
def lw_privs_2 : List (MethodName × Nat) := [(⟨"NameRollsModel", "saves", "()V"⟩, 17), (⟨"NameRollsModel", "acquires", "(I)I"⟩, 17), (⟨"NameRollsModel", "tagOf", "(I)I"⟩, 17), (⟨"NameRollsModel", "reasonOf", "(I)I"⟩, 17), (⟨"NameRollsModel", "kept", "()I"⟩, 17), (⟨"NameRollsModel", "ofCompaction", "(II)I"⟩, 17), (⟨"NameRollsModel", "cellsWith", "(I)I"⟩, 17), (⟨"NameRollsModel", "givesBack", "(I)I"⟩, 17), (⟨"NameRollsModel", "puts", "(II)I"⟩, 17), (⟨"NameRollsModel", "compacts", "(I)I"⟩, 17), (⟨"NameRollsModel", "ranks", "(I)V"⟩, 17), (⟨"NameRollsModel", "isAhead", "(III)Z"⟩, 17), (⟨"NameRollsModel", "standing", "(I)I"⟩, 17), (⟨"NameRollsModel", "namesAll", "()I"⟩, 17), (⟨"NameRollsModel", "usersAll", "()I"⟩, 17), (⟨"NameRollsModel", "highest", "()I"⟩, 17)]
theorem lw_r2 : ∀ q ∈ lw_privs_2, lw_okq q := List.forall_mem_cons.mpr ⟨lw_p16, List.forall_mem_cons.mpr ⟨lw_p17, List.forall_mem_cons.mpr ⟨lw_p18, List.forall_mem_cons.mpr ⟨lw_p19, List.forall_mem_cons.mpr ⟨lw_p20, List.forall_mem_cons.mpr ⟨lw_p21, List.forall_mem_cons.mpr ⟨lw_p22, List.forall_mem_cons.mpr ⟨lw_p23, List.forall_mem_cons.mpr ⟨lw_p24, List.forall_mem_cons.mpr ⟨lw_p25, List.forall_mem_cons.mpr ⟨lw_p26, List.forall_mem_cons.mpr ⟨lw_p27, List.forall_mem_cons.mpr ⟨lw_p28, List.forall_mem_cons.mpr ⟨lw_p29, List.forall_mem_cons.mpr ⟨lw_p30, List.forall_mem_cons.mpr ⟨lw_p31, fun _ h => absurd h List.not_mem_nil⟩⟩⟩⟩⟩⟩⟩⟩⟩⟩⟩⟩⟩⟩⟩⟩
theorem lw_p32 : lw_okq (⟨"NameRollsModel", "lays", "()V"⟩, 17) := ⟨⟨by decide +kernel, by decide +kernel⟩, List.mem_of_getElem? (i := 457) (by decide +kernel), List.mem_of_getElem? (i := 706) (by decide +kernel), List.mem_of_getElem? (i := 707) (by decide +kernel)⟩
theorem lw_p33 : lw_okq (⟨"NameRollsModel", "doesAll", "()I"⟩, 17) := ⟨⟨by decide +kernel, by decide +kernel⟩, List.mem_of_getElem? (i := 457) (by decide +kernel), List.mem_of_getElem? (i := 710) (by decide +kernel), List.mem_of_getElem? (i := 711) (by decide +kernel)⟩
theorem lw_p34 : lw_okq (⟨"NameRollsModel", "letter", "(I)I"⟩, 17) := ⟨⟨by decide +kernel, by decide +kernel⟩, List.mem_of_getElem? (i := 457) (by decide +kernel), List.mem_of_getElem? (i := 714) (by decide +kernel), List.mem_of_getElem? (i := 715) (by decide +kernel)⟩
theorem lw_p35 : lw_okq (⟨"NameRollsModel", "reads", "()Z"⟩, 17) := ⟨⟨by decide +kernel, by decide +kernel⟩, List.mem_of_getElem? (i := 457) (by decide +kernel), List.mem_of_getElem? (i := 718) (by decide +kernel), List.mem_of_getElem? (i := 719) (by decide +kernel)⟩
theorem lw_p36 : lw_okq (⟨"NameRollsModel", "digit", "(I)Z"⟩, 17) := ⟨⟨by decide +kernel, by decide +kernel⟩, List.mem_of_getElem? (i := 457) (by decide +kernel), List.mem_of_getElem? (i := 722) (by decide +kernel), List.mem_of_getElem? (i := 723) (by decide +kernel)⟩
theorem lw_p37 : lw_okq (⟨"NameRollsModel", "passes", "(I)Z"⟩, 17) := ⟨⟨by decide +kernel, by decide +kernel⟩, List.mem_of_getElem? (i := 457) (by decide +kernel), List.mem_of_getElem? (i := 726) (by decide +kernel), List.mem_of_getElem? (i := 727) (by decide +kernel)⟩
theorem lw_p38 : lw_okq (⟨"NameRollsModel", "name", "()Z"⟩, 17) := ⟨⟨by decide +kernel, by decide +kernel⟩, List.mem_of_getElem? (i := 457) (by decide +kernel), List.mem_of_getElem? (i := 730) (by decide +kernel), List.mem_of_getElem? (i := 731) (by decide +kernel)⟩
theorem lw_p39 : lw_okq (⟨"NameRollsModel", "wrong", "(I)I"⟩, 17) := ⟨⟨by decide +kernel, by decide +kernel⟩, List.mem_of_getElem? (i := 457) (by decide +kernel), List.mem_of_getElem? (i := 734) (by decide +kernel), List.mem_of_getElem? (i := 735) (by decide +kernel)⟩
theorem lw_p40 : lw_okq (⟨"NameRollsModel", "does", "(I)Z"⟩, 17) := ⟨⟨by decide +kernel, by decide +kernel⟩, List.mem_of_getElem? (i := 457) (by decide +kernel), List.mem_of_getElem? (i := 738) (by decide +kernel), List.mem_of_getElem? (i := 739) (by decide +kernel)⟩
theorem lw_p41 : lw_okq (⟨"NameRollsModel", "back", "()V"⟩, 17) := ⟨⟨by decide +kernel, by decide +kernel⟩, List.mem_of_getElem? (i := 457) (by decide +kernel), List.mem_of_getElem? (i := 742) (by decide +kernel), List.mem_of_getElem? (i := 743) (by decide +kernel)⟩
def lw_privs_3 : List (MethodName × Nat) := [(⟨"NameRollsModel", "lays", "()V"⟩, 17), (⟨"NameRollsModel", "doesAll", "()I"⟩, 17), (⟨"NameRollsModel", "letter", "(I)I"⟩, 17), (⟨"NameRollsModel", "reads", "()Z"⟩, 17), (⟨"NameRollsModel", "digit", "(I)Z"⟩, 17), (⟨"NameRollsModel", "passes", "(I)Z"⟩, 17), (⟨"NameRollsModel", "name", "()Z"⟩, 17), (⟨"NameRollsModel", "wrong", "(I)I"⟩, 17), (⟨"NameRollsModel", "does", "(I)Z"⟩, 17), (⟨"NameRollsModel", "back", "()V"⟩, 17)]
theorem lw_r3 : ∀ q ∈ lw_privs_3, lw_okq q := List.forall_mem_cons.mpr ⟨lw_p32, List.forall_mem_cons.mpr ⟨lw_p33, List.forall_mem_cons.mpr ⟨lw_p34, List.forall_mem_cons.mpr ⟨lw_p35, List.forall_mem_cons.mpr ⟨lw_p36, List.forall_mem_cons.mpr ⟨lw_p37, List.forall_mem_cons.mpr ⟨lw_p38, List.forall_mem_cons.mpr ⟨lw_p39, List.forall_mem_cons.mpr ⟨lw_p40, List.forall_mem_cons.mpr ⟨lw_p41, fun _ h => absurd h List.not_mem_nil⟩⟩⟩⟩⟩⟩⟩⟩⟩⟩
def lw_privs : List (MethodName × Nat) := lw_privs_1 ++ (lw_privs_2 ++ (lw_privs_3))
def lw_tbl : List Cond := k2_sels lw_privs ++ tables_1
theorem lw_privs_ok : ∀ q ∈ lw_privs, lw_okq q := by
  show ∀ q ∈ lw_privs_1 ++ (lw_privs_2 ++ (lw_privs_3)), lw_okq q
  exact List.forall_mem_append.mpr ⟨lw_r1, List.forall_mem_append.mpr ⟨lw_r2, lw_r3⟩⟩
-- ===== end of PART A; then your names; then what follows =====
end
section
/-! ===== BEGIN words of one list among another's, by their places ===== -/
theorem goodIn_r {big : List Cond} (ws : List Cond) (ps : List Nat) (hp : ws = ps.filterMap (fun i => big[i]?)) (h : ws.all goodWord = true) : GoodIn big ws := by
  intro w hw
  have h1 := List.all_eq_true.mp h w hw
  rw [hp] at hw
  obtain ⟨i, -, hi⟩ := List.mem_filterMap.mp hw
  have hm : w ∈ big := by first | exact List.mem_of_getElem? hi | exact List.getElem?_mem hi
  exact ⟨hm, good_of_word h1⟩
theorem goodIn_app {big a b : List Cond} (ha : GoodIn big a) (hb : GoodIn big b) : GoodIn big (a ++ b) := fun w h => (List.mem_append.mp h).elim (ha w) (hb w)
theorem goodIn_ca {big a b : List Cond} {c : Cond} (ha : GoodIn big (c :: a)) (hb : GoodIn big b) : GoodIn big (c :: (a ++ b)) := fun w h => (List.mem_cons.mp h).elim (fun e => ha w (List.mem_cons.mpr (Or.inl e))) (fun h => (List.mem_append.mp h).elim (fun h => ha w (List.mem_cons.mpr (Or.inr h))) (hb w))
theorem goodIn_sub {big ws : List Cond} (hm : ∀ w ∈ ws, w ∈ big) (h : ws.all goodWord = true) : GoodIn big ws := fun w hw => ⟨hm w hw, good_of_word (List.all_eq_true.mp h w hw)⟩
/-! ===== END ===== -/

/-! ===== BEGIN printed: names, fields, word lists, decode rows ===== -/
def RX0 : String := "NameRolls$Player"
def TX0 : u_T := fun k => match k with
  | 0 => ("NameRolls$Player", "trial", "LNameRolls$Roll;", true)
  | 1 => ("NameRolls$Player", "orders", "I", false)
  | 2 => ("NameRolls$Player", "reason", "I", false)
  | 3 => ("NameRolls$Player", "cause", "I", false)
  | 4 => ("NameRolls$Player", "start", "I", false)
  | 5 => ("NameRolls$Player", "at", "I", false)
  | 6 => ("NameRolls$Player", "kind", "C", false)
  | 7 => ("NameRolls$Player", "table", "I", false)
  | 8 => ("NameRolls$Player", "cell", "I", false)
  | 9 => ("NameRolls$Player", "rule", "I", false)
  | 10 => ("NameRolls$Player", "letters", "I", false)
  | _ => ("NameRolls$Player", "name", "I", false)
def tyX0 : Nat → FieldType := fun k => match k with
  | 0 => .object "NameRolls$Roll"
  | 1 => .int
  | 2 => .int
  | 3 => .int
  | 4 => .int
  | 5 => .int
  | 6 => .char
  | 7 => .int
  | 8 => .int
  | 9 => .int
  | 10 => .int
  | _ => .int
abbrev wsX00 : List Cond := u_ws RX0 TX0 12
theorem nmX0 : ∀ a, a < 12 → ∀ b, b < 12 → a ≠ b → (TX0 a).2.1 ≠ (TX0 b).2.1 := by decide +kernel
theorem tyX0_ok : ∀ k, k < 12 → parseFieldDescriptor (TX0 k).2.2.1 = some (tyX0 k) := by decide +kernel
abbrev cX0_init : ByteArray := prog_2_method_1_code
def yX0_init : MethodName := ⟨RX0, "<init>", "()V"⟩
abbrev cX0_tryOn : ByteArray := prog_2_method_2_code
def yX0_tryOn : MethodName := ⟨RX0, "tryOn", "(LNameRolls$Roll;LNameRolls$Text;)V"⟩
abbrev cX0_readOrder : ByteArray := prog_2_method_3_code
def yX0_readOrder : MethodName := ⟨RX0, "readOrder", "(LNameRolls$Text;)V"⟩
abbrev cX0_readDigit : ByteArray := prog_2_method_4_code
def yX0_readDigit : MethodName := ⟨RX0, "readDigit", "(LNameRolls$Text;)I"⟩
abbrev cX0_readSign : ByteArray := prog_2_method_5_code
def yX0_readSign : MethodName := ⟨RX0, "readSign", "(LNameRolls$Text;C)V"⟩
abbrev cX0_readLetters : ByteArray := prog_2_method_6_code
def yX0_readLetters : MethodName := ⟨RX0, "readLetters", "(LNameRolls$Text;)V"⟩
abbrev cX0_checkRanges : ByteArray := prog_2_method_7_code
def yX0_checkRanges : MethodName := ⟨RX0, "checkRanges", "()V"⟩
abbrev cX0_carryOut : ByteArray := prog_2_method_8_code
def yX0_carryOut : MethodName := ⟨RX0, "carryOut", "()V"⟩
abbrev cX0_canCarryOut : ByteArray := prog_2_method_9_code
def yX0_canCarryOut : MethodName := ⟨RX0, "canCarryOut", "(I)Z"⟩
abbrev cX0_fail : ByteArray := prog_2_method_10_code
def yX0_fail : MethodName := ⟨RX0, "fail", "(II)V"⟩
def RX1 : String := "NameRolls$Roll"
def TX1 : u_T := fun k => match k with
  | 0 => ("NameRolls$Roll", "names", "[I", true)
  | 1 => ("NameRolls$Roll", "users", "[I", true)
  | 2 => ("NameRolls$Roll", "years", "[I", true)
  | 3 => ("NameRolls$Roll", "cells", "[I", true)
  | 4 => ("NameRolls$Roll", "epoch", "I", false)
  | 5 => ("NameRolls$Roll", "gained", "I", false)
  | 6 => ("NameRolls$Roll", "lost", "I", false)
  | 7 => ("NameRolls$Roll", "rules", "[I", true)
  | 8 => ("NameRolls$Roll", "namesThen", "[I", true)
  | 9 => ("NameRolls$Roll", "movedThen", "[I", true)
  | 10 => ("NameRolls$Roll", "yearsThen", "[I", true)
  | 11 => ("NameRolls$Roll", "numbersBehind", "[I", true)
  | 12 => ("NameRolls$Roll", "yearsBehind", "[I", true)
  | 13 => ("NameRolls$Roll", "oldNames", "[I", true)
  | _ => ("NameRolls$Roll", "oldUsers", "[I", true)
def tyX1 : Nat → FieldType := fun k => match k with
  | 0 => .array .int
  | 1 => .array .int
  | 2 => .array .int
  | 3 => .array .int
  | 4 => .int
  | 5 => .int
  | 6 => .int
  | 7 => .array .int
  | 8 => .array .int
  | 9 => .array .int
  | 10 => .array .int
  | 11 => .array .int
  | 12 => .array .int
  | 13 => .array .int
  | _ => .array .int
abbrev wsX10 : List Cond := u_ws RX1 TX1 15
theorem nmX1 : ∀ a, a < 15 → ∀ b, b < 15 → a ≠ b → (TX1 a).2.1 ≠ (TX1 b).2.1 := by decide +kernel
theorem tyX1_ok : ∀ k, k < 15 → parseFieldDescriptor (TX1 k).2.2.1 = some (tyX1 k) := by decide +kernel
abbrev cX1_init : ByteArray := prog_3_method_1_code
def yX1_init : MethodName := ⟨RX1, "<init>", "()V"⟩
abbrev cX1_copyFrom : ByteArray := prog_3_method_2_code
def yX1_copyFrom : MethodName := ⟨RX1, "copyFrom", "(LNameRolls$Roll;)V"⟩
abbrev cX1_tagOf : ByteArray := prog_3_method_3_code
def yX1_tagOf : MethodName := ⟨RX1, "tagOf", "(I)I"⟩
abbrev cX1_tagIn : ByteArray := prog_3_method_4_code
def yX1_tagIn : MethodName := ⟨RX1, "tagIn", "(III)I"⟩
abbrev cX1_standing : ByteArray := prog_3_method_5_code
def yX1_standing : MethodName := ⟨RX1, "standing", "(I)I"⟩
abbrev cX1_numberWith : ByteArray := prog_3_method_6_code
def yX1_numberWith : MethodName := ⟨RX1, "numberWith", "(I)I"⟩
abbrev cX1_hasRoomFor : ByteArray := prog_3_method_7_code
def yX1_hasRoomFor : MethodName := ⟨RX1, "hasRoomFor", "(I)Z"⟩
abbrev cX1_enter : ByteArray := prog_3_method_8_code
def yX1_enter : MethodName := ⟨RX1, "enter", "(I)I"⟩
abbrev cX1_hasRoomForUser : ByteArray := prog_3_method_9_code
def yX1_hasRoomForUser : MethodName := ⟨RX1, "hasRoomForUser", "(I)Z"⟩
abbrev cX1_addUser : ByteArray := prog_3_method_10_code
def yX1_addUser : MethodName := ⟨RX1, "addUser", "(I)I"⟩
abbrev cX1_hasFreeUser : ByteArray := prog_3_method_11_code
def yX1_hasFreeUser : MethodName := ⟨RX1, "hasFreeUser", "(I)Z"⟩
abbrev cX1_giveBack : ByteArray := prog_3_method_12_code
def yX1_giveBack : MethodName := ⟨RX1, "giveBack", "(I)I"⟩
abbrev cX1_fillCell : ByteArray := prog_3_method_13_code
def yX1_fillCell : MethodName := ⟨RX1, "fillCell", "(II)I"⟩
abbrev cX1_emptyCell : ByteArray := prog_3_method_14_code
def yX1_emptyCell : MethodName := ⟨RX1, "emptyCell", "(I)I"⟩
abbrev cX1_cellsWith : ByteArray := prog_3_method_15_code
def yX1_cellsWith : MethodName := ⟨RX1, "cellsWith", "(I)I"⟩
abbrev cX1_placeOf : ByteArray := prog_3_method_16_code
def yX1_placeOf : MethodName := ⟨RX1, "placeOf", "(II)I"⟩
abbrev cX1_isAhead : ByteArray := prog_3_method_17_code
def yX1_isAhead : MethodName := ⟨RX1, "isAhead", "(III)Z"⟩
abbrev cX1_hasNextEpoch : ByteArray := prog_3_method_18_code
def yX1_hasNextEpoch : MethodName := ⟨RX1, "hasNextEpoch", "()Z"⟩
abbrev cX1_giveAnew : ByteArray := prog_3_method_19_code
def yX1_giveAnew : MethodName := ⟨RX1, "giveAnew", "(I)I"⟩
abbrev cX1_moveNames : ByteArray := prog_3_method_20_code
def yX1_moveNames : MethodName := ⟨RX1, "moveNames", "(I)V"⟩
abbrev cX1_moveCells : ByteArray := prog_3_method_21_code
def yX1_moveCells : MethodName := ⟨RX1, "moveCells", "(I)V"⟩
abbrev cX1_stillStanding : ByteArray := prog_3_method_22_code
def yX1_stillStanding : MethodName := ⟨RX1, "stillStanding", "(I)I"⟩
abbrev cX1_namesBelow : ByteArray := prog_3_method_23_code
def yX1_namesBelow : MethodName := ⟨RX1, "namesBelow", "(I)I"⟩
abbrev cX1_usersOfAll : ByteArray := prog_3_method_24_code
def yX1_usersOfAll : MethodName := ⟨RX1, "usersOfAll", "()I"⟩
abbrev cX1_top : ByteArray := prog_3_method_25_code
def yX1_top : MethodName := ⟨RX1, "top", "()I"⟩
def RX2 : String := "NameRolls$Text"
def TX2 : u_T := fun k => match k with
  | 0 => ("NameRolls$Text", "signs", "[C", true)
  | _ => ("NameRolls$Text", "length", "I", false)
def tyX2 : Nat → FieldType := fun k => match k with
  | 0 => .array .char
  | _ => .int
abbrev wsX20 : List Cond := u_ws RX2 TX2 2
theorem nmX2 : ∀ a, a < 2 → ∀ b, b < 2 → a ≠ b → (TX2 a).2.1 ≠ (TX2 b).2.1 := by decide +kernel
theorem tyX2_ok : ∀ k, k < 2 → parseFieldDescriptor (TX2 k).2.2.1 = some (tyX2 k) := by decide +kernel
abbrev cX2_init : ByteArray := prog_4_method_1_code
def yX2_init : MethodName := ⟨RX2, "<init>", "()V"⟩
abbrev cX2_append : ByteArray := prog_4_method_2_code
def yX2_append : MethodName := ⟨RX2, "append", "(C)I"⟩
abbrev cX2_signAt : ByteArray := prog_4_method_3_code
def yX2_signAt : MethodName := ⟨RX2, "signAt", "(I)C"⟩
def RX3 : String := "NameRolls"
def TX3 : u_T := fun k => match k with
  | 0 => ("NameRolls", "now", "LNameRolls$Roll;", true)
  | 1 => ("NameRolls", "past", "[LNameRolls$Roll;", true)
  | 2 => ("NameRolls", "states", "I", false)
  | 3 => ("NameRolls", "text", "LNameRolls$Text;", true)
  | _ => ("NameRolls", "player", "LNameRolls$Player;", true)
def tyX3 : Nat → FieldType := fun k => match k with
  | 0 => .object "NameRolls$Roll"
  | 1 => .array (.object "NameRolls$Roll")
  | 2 => .int
  | 3 => .object "NameRolls$Text"
  | _ => .object "NameRolls$Player"
abbrev wsX30 : List Cond := u_ws RX3 TX3 5
theorem nmX3 : ∀ a, a < 5 → ∀ b, b < 5 → a ≠ b → (TX3 a).2.1 ≠ (TX3 b).2.1 := by decide +kernel
theorem tyX3_ok : ∀ k, k < 5 → parseFieldDescriptor (TX3 k).2.2.1 = some (tyX3 k) := by decide +kernel
abbrev cX3_init : ByteArray := prog_1_method_1_code
def yX3_init : MethodName := ⟨RX3, "<init>", "()V"⟩
abbrev cX3_acquire : ByteArray := prog_1_method_2_code
def yX3_acquire : MethodName := ⟨RX3, "acquire", "(I)I"⟩
abbrev cX3_use : ByteArray := prog_1_method_3_code
def yX3_use : MethodName := ⟨RX3, "use", "(I)I"⟩
abbrev cX3_release : ByteArray := prog_1_method_4_code
def yX3_release : MethodName := ⟨RX3, "release", "(I)I"⟩
abbrev cX3_follow : ByteArray := prog_1_method_5_code
def yX3_follow : MethodName := ⟨RX3, "follow", "(I)I"⟩
abbrev cX3_nameOf : ByteArray := prog_1_method_6_code
def yX3_nameOf : MethodName := ⟨RX3, "nameOf", "(I)I"⟩
abbrev cX3_why : ByteArray := prog_1_method_7_code
def yX3_why : MethodName := ⟨RX3, "why", "(I)I"⟩
abbrev cX3_put : ByteArray := prog_1_method_8_code
def yX3_put : MethodName := ⟨RX3, "put", "(III)I"⟩
abbrev cX3_clear : ByteArray := prog_1_method_9_code
def yX3_clear : MethodName := ⟨RX3, "clear", "(II)I"⟩
abbrev cX3_cellOf : ByteArray := prog_1_method_10_code
def yX3_cellOf : MethodName := ⟨RX3, "cellOf", "(II)I"⟩
abbrev cX3_compact : ByteArray := prog_1_method_11_code
def yX3_compact : MethodName := ⟨RX3, "compact", "(I)I"⟩
abbrev cX3_numberOf : ByteArray := prog_1_method_12_code
def yX3_numberOf : MethodName := ⟨RX3, "numberOf", "(II)I"⟩
abbrev cX3_find : ByteArray := prog_1_method_13_code
def yX3_find : MethodName := ⟨RX3, "find", "(I)I"⟩
abbrev cX3_nameAt : ByteArray := prog_1_method_14_code
def yX3_nameAt : MethodName := ⟨RX3, "nameAt", "(II)I"⟩
abbrev cX3_beginning : ByteArray := prog_1_method_15_code
def yX3_beginning : MethodName := ⟨RX3, "beginning", "(I)I"⟩
abbrev cX3_behind : ByteArray := prog_1_method_16_code
def yX3_behind : MethodName := ⟨RX3, "behind", "(I)I"⟩
abbrev cX3_wouldBe : ByteArray := prog_1_method_17_code
def yX3_wouldBe : MethodName := ⟨RX3, "wouldBe", "(II)I"⟩
abbrev cX3_compaction : ByteArray := prog_1_method_18_code
def yX3_compaction : MethodName := ⟨RX3, "compaction", "(II)I"⟩
abbrev cX3_count : ByteArray := prog_1_method_19_code
def yX3_count : MethodName := ⟨RX3, "count", "(I)I"⟩
abbrev cX3_undo : ByteArray := prog_1_method_20_code
def yX3_undo : MethodName := ⟨RX3, "undo", "()I"⟩
abbrev cX3_type : ByteArray := prog_1_method_21_code
def yX3_type : MethodName := ⟨RX3, "type", "(I)I"⟩
abbrev cX3_clearText : ByteArray := prog_1_method_22_code
def yX3_clearText : MethodName := ⟨RX3, "clearText", "()I"⟩
abbrev cX3_fault : ByteArray := prog_1_method_23_code
def yX3_fault : MethodName := ⟨RX3, "fault", "(I)I"⟩
abbrev cX3_play : ByteArray := prog_1_method_24_code
def yX3_play : MethodName := ⟨RX3, "play", "()I"⟩
abbrev cX3_recordState : ByteArray := prog_1_method_25_code
def yX3_recordState : MethodName := ⟨RX3, "recordState", "()V"⟩
abbrev cX3_isBelow : ByteArray := prog_1_method_26_code
def yX3_isBelow : MethodName := ⟨RX3, "isBelow", "(II)Z"⟩
abbrev cX3_isCell : ByteArray := prog_1_method_27_code
def yX3_isCell : MethodName := ⟨RX3, "isCell", "(II)Z"⟩
abbrev cX3_cellIndex : ByteArray := prog_1_method_28_code
def yX3_cellIndex : MethodName := ⟨RX3, "cellIndex", "(II)I"⟩
abbrev cX3_isName : ByteArray := prog_1_method_29_code
def yX3_isName : MethodName := ⟨RX3, "isName", "(I)Z"⟩
abbrev cX3_orderKey : ByteArray := prog_1_method_30_code
def yX3_orderKey : MethodName := ⟨RX3, "orderKey", "(I)I"⟩
abbrev cX3_beginsWith : ByteArray := prog_1_method_31_code
def yX3_beginsWith : MethodName := ⟨RX3, "beginsWith", "(II)Z"⟩
def RX4 : String := "NameRollsModel"
def TX4 : u_T := fun k => match k with
  | 0 => ("NameRollsModel", "now", "[I", true)
  | 1 => ("NameRollsModel", "past", "[I", true)
  | 2 => ("NameRollsModel", "saved", "I", false)
  | 3 => ("NameRollsModel", "aside", "[I", true)
  | 4 => ("NameRollsModel", "text", "[I", true)
  | 5 => ("NameRollsModel", "length", "I", false)
  | 6 => ("NameRollsModel", "ranked", "[I", true)
  | 7 => ("NameRollsModel", "before", "[I", true)
  | 8 => ("NameRollsModel", "named", "I", false)
  | 9 => ("NameRollsModel", "followed", "I", false)
  | 10 => ("NameRollsModel", "end", "I", false)
  | 11 => ("NameRollsModel", "letters", "I", false)
  | 12 => ("NameRollsModel", "word", "I", false)
  | 13 => ("NameRollsModel", "digits", "[I", true)
  | 14 => ("NameRollsModel", "reason", "I", false)
  | 15 => ("NameRollsModel", "cause", "I", false)
  | _ => ("NameRollsModel", "place", "I", false)
def tyX4 : Nat → FieldType := fun k => match k with
  | 0 => .array .int
  | 1 => .array .int
  | 2 => .int
  | 3 => .array .int
  | 4 => .array .int
  | 5 => .int
  | 6 => .array .int
  | 7 => .array .int
  | 8 => .int
  | 9 => .int
  | 10 => .int
  | 11 => .int
  | 12 => .int
  | 13 => .array .int
  | 14 => .int
  | 15 => .int
  | _ => .int
abbrev wsX40 : List Cond := u_ws RX4 TX4 17
theorem nmX4 : ∀ a, a < 17 → ∀ b, b < 17 → a ≠ b → (TX4 a).2.1 ≠ (TX4 b).2.1 := by decide +kernel
theorem tyX4_ok : ∀ k, k < 17 → parseFieldDescriptor (TX4 k).2.2.1 = some (tyX4 k) := by decide +kernel
abbrev cX4_init : ByteArray := prog_6_method_1_code
def yX4_init : MethodName := ⟨RX4, "<init>", "()V"⟩
abbrev cX4_within : ByteArray := prog_6_method_2_code
def yX4_within : MethodName := ⟨RX4, "within", "(III)Z"⟩
abbrev cX4_saves : ByteArray := prog_6_method_3_code
def yX4_saves : MethodName := ⟨RX4, "saves", "()V"⟩
abbrev cX4_undo : ByteArray := prog_6_method_4_code
def yX4_undo : MethodName := ⟨RX4, "undo", "()I"⟩
abbrev cX4_isName : ByteArray := prog_6_method_5_code
def yX4_isName : MethodName := ⟨RX4, "isName", "(I)Z"⟩
abbrev cX4_padded : ByteArray := prog_6_method_6_code
def yX4_padded : MethodName := ⟨RX4, "padded", "(I)I"⟩
abbrev cX4_isNamed : ByteArray := prog_6_method_7_code
def yX4_isNamed : MethodName := ⟨RX4, "isNamed", "(I)Z"⟩
abbrev cX4_numberWith : ByteArray := prog_6_method_8_code
def yX4_numberWith : MethodName := ⟨RX4, "numberWith", "(I)I"⟩
abbrev cX4_freeNumber : ByteArray := prog_6_method_9_code
def yX4_freeNumber : MethodName := ⟨RX4, "freeNumber", "()I"⟩
abbrev cX4_tagOf : ByteArray := prog_6_method_10_code
def yX4_tagOf : MethodName := ⟨RX4, "tagOf", "(I)I"⟩
abbrev cX4_cellsWith : ByteArray := prog_6_method_11_code
def yX4_cellsWith : MethodName := ⟨RX4, "cellsWith", "(I)I"⟩
abbrev cX4_givesBack : ByteArray := prog_6_method_12_code
def yX4_givesBack : MethodName := ⟨RX4, "givesBack", "(I)I"⟩
abbrev cX4_canAcquire : ByteArray := prog_6_method_13_code
def yX4_canAcquire : MethodName := ⟨RX4, "canAcquire", "(I)Z"⟩
abbrev cX4_acquires : ByteArray := prog_6_method_14_code
def yX4_acquires : MethodName := ⟨RX4, "acquires", "(I)I"⟩
abbrev cX4_acquire : ByteArray := prog_6_method_15_code
def yX4_acquire : MethodName := ⟨RX4, "acquire", "(I)I"⟩
abbrev cX4_kept : ByteArray := prog_6_method_16_code
def yX4_kept : MethodName := ⟨RX4, "kept", "()I"⟩
abbrev cX4_ofCompaction : ByteArray := prog_6_method_17_code
def yX4_ofCompaction : MethodName := ⟨RX4, "ofCompaction", "(II)I"⟩
abbrev cX4_reasonOf : ByteArray := prog_6_method_18_code
def yX4_reasonOf : MethodName := ⟨RX4, "reasonOf", "(I)I"⟩
abbrev cX4_why : ByteArray := prog_6_method_19_code
def yX4_why : MethodName := ⟨RX4, "why", "(I)I"⟩
abbrev cX4_follow : ByteArray := prog_6_method_20_code
def yX4_follow : MethodName := ⟨RX4, "follow", "(I)I"⟩
abbrev cX4_nameOf : ByteArray := prog_6_method_21_code
def yX4_nameOf : MethodName := ⟨RX4, "nameOf", "(I)I"⟩
abbrev cX4_use : ByteArray := prog_6_method_22_code
def yX4_use : MethodName := ⟨RX4, "use", "(I)I"⟩
abbrev cX4_release : ByteArray := prog_6_method_23_code
def yX4_release : MethodName := ⟨RX4, "release", "(I)I"⟩
abbrev cX4_isCell : ByteArray := prog_6_method_24_code
def yX4_isCell : MethodName := ⟨RX4, "isCell", "(II)Z"⟩
abbrev cX4_puts : ByteArray := prog_6_method_25_code
def yX4_puts : MethodName := ⟨RX4, "puts", "(II)I"⟩
abbrev cX4_put : ByteArray := prog_6_method_26_code
def yX4_put : MethodName := ⟨RX4, "put", "(III)I"⟩
abbrev cX4_clear : ByteArray := prog_6_method_27_code
def yX4_clear : MethodName := ⟨RX4, "clear", "(II)I"⟩
abbrev cX4_cellOf : ByteArray := prog_6_method_28_code
def yX4_cellOf : MethodName := ⟨RX4, "cellOf", "(II)I"⟩
abbrev cX4_isAhead : ByteArray := prog_6_method_29_code
def yX4_isAhead : MethodName := ⟨RX4, "isAhead", "(III)Z"⟩
abbrev cX4_ranks : ByteArray := prog_6_method_30_code
def yX4_ranks : MethodName := ⟨RX4, "ranks", "(I)V"⟩
abbrev cX4_compacts : ByteArray := prog_6_method_31_code
def yX4_compacts : MethodName := ⟨RX4, "compacts", "(I)I"⟩
abbrev cX4_compact : ByteArray := prog_6_method_32_code
def yX4_compact : MethodName := ⟨RX4, "compact", "(I)I"⟩
abbrev cX4_numberOf : ByteArray := prog_6_method_33_code
def yX4_numberOf : MethodName := ⟨RX4, "numberOf", "(II)I"⟩
abbrev cX4_find : ByteArray := prog_6_method_34_code
def yX4_find : MethodName := ⟨RX4, "find", "(I)I"⟩
abbrev cX4_nameAt : ByteArray := prog_6_method_35_code
def yX4_nameAt : MethodName := ⟨RX4, "nameAt", "(II)I"⟩
abbrev cX4_begins : ByteArray := prog_6_method_36_code
def yX4_begins : MethodName := ⟨RX4, "begins", "(II)Z"⟩
abbrev cX4_beginning : ByteArray := prog_6_method_37_code
def yX4_beginning : MethodName := ⟨RX4, "beginning", "(I)I"⟩
abbrev cX4_behind : ByteArray := prog_6_method_38_code
def yX4_behind : MethodName := ⟨RX4, "behind", "(I)I"⟩
abbrev cX4_wouldBe : ByteArray := prog_6_method_39_code
def yX4_wouldBe : MethodName := ⟨RX4, "wouldBe", "(II)I"⟩
abbrev cX4_standing : ByteArray := prog_6_method_40_code
def yX4_standing : MethodName := ⟨RX4, "standing", "(I)I"⟩
abbrev cX4_compaction : ByteArray := prog_6_method_41_code
def yX4_compaction : MethodName := ⟨RX4, "compaction", "(II)I"⟩
abbrev cX4_namesAll : ByteArray := prog_6_method_42_code
def yX4_namesAll : MethodName := ⟨RX4, "namesAll", "()I"⟩
abbrev cX4_usersAll : ByteArray := prog_6_method_43_code
def yX4_usersAll : MethodName := ⟨RX4, "usersAll", "()I"⟩
abbrev cX4_highest : ByteArray := prog_6_method_44_code
def yX4_highest : MethodName := ⟨RX4, "highest", "()I"⟩
abbrev cX4_count : ByteArray := prog_6_method_45_code
def yX4_count : MethodName := ⟨RX4, "count", "(I)I"⟩
abbrev cX4_type : ByteArray := prog_6_method_46_code
def yX4_type : MethodName := ⟨RX4, "type", "(I)I"⟩
abbrev cX4_clearText : ByteArray := prog_6_method_47_code
def yX4_clearText : MethodName := ⟨RX4, "clearText", "()I"⟩
abbrev cX4_letter : ByteArray := prog_6_method_48_code
def yX4_letter : MethodName := ⟨RX4, "letter", "(I)I"⟩
abbrev cX4_passes : ByteArray := prog_6_method_49_code
def yX4_passes : MethodName := ⟨RX4, "passes", "(I)Z"⟩
abbrev cX4_digit : ByteArray := prog_6_method_50_code
def yX4_digit : MethodName := ⟨RX4, "digit", "(I)Z"⟩
abbrev cX4_name : ByteArray := prog_6_method_51_code
def yX4_name : MethodName := ⟨RX4, "name", "()Z"⟩
abbrev cX4_reads : ByteArray := prog_6_method_52_code
def yX4_reads : MethodName := ⟨RX4, "reads", "()Z"⟩
abbrev cX4_wrong : ByteArray := prog_6_method_53_code
def yX4_wrong : MethodName := ⟨RX4, "wrong", "(I)I"⟩
abbrev cX4_does : ByteArray := prog_6_method_54_code
def yX4_does : MethodName := ⟨RX4, "does", "(I)Z"⟩
abbrev cX4_doesAll : ByteArray := prog_6_method_55_code
def yX4_doesAll : MethodName := ⟨RX4, "doesAll", "()I"⟩
abbrev cX4_lays : ByteArray := prog_6_method_56_code
def yX4_lays : MethodName := ⟨RX4, "lays", "()V"⟩
abbrev cX4_back : ByteArray := prog_6_method_57_code
def yX4_back : MethodName := ⟨RX4, "back", "()V"⟩
abbrev cX4_fault : ByteArray := prog_6_method_58_code
def yX4_fault : MethodName := ⟨RX4, "fault", "(I)I"⟩
abbrev cX4_play : ByteArray := prog_6_method_59_code
def yX4_play : MethodName := ⟨RX4, "play", "()I"⟩
def RJ9 : String := "java/lang/Math"
def TJ9 : u_T := fun k => match k with
  | _ => ("", "", "", false)
def tyJ9 : Nat → FieldType := fun k => match k with
  | _ => .int
abbrev wsJ90 : List Cond := u_ws RJ9 TJ9 0
theorem nmJ9 : ∀ a, a < 0 → ∀ b, b < 0 → a ≠ b → (TJ9 a).2.1 ≠ (TJ9 b).2.1 := by decide +kernel
theorem tyJ9_ok : ∀ k, k < 0 → parseFieldDescriptor (TJ9 k).2.2.1 = some (tyJ9 k) := by decide +kernel
abbrev cJ9_min_7cf53 : ByteArray := prog_7_method_69_code
def yJ9_min_7cf53 : MethodName := ⟨RJ9, "min", "(II)I"⟩
def RJ10 : String := "java/lang/System"
def TJ10 : u_T := fun k => match k with
  | _ => ("", "", "", false)
def tyJ10 : Nat → FieldType := fun k => match k with
  | _ => .int
abbrev wsJ100 : List Cond := u_ws RJ10 TJ10 0
theorem nmJ10 : ∀ a, a < 0 → ∀ b, b < 0 → a ≠ b → (TJ10 a).2.1 ≠ (TJ10 b).2.1 := by decide +kernel
theorem tyJ10_ok : ∀ k, k < 0 → parseFieldDescriptor (TJ10 k).2.2.1 = some (tyJ10 k) := by decide +kernel
def RJ7 : String := "java/util/Arrays"
def TJ7 : u_T := fun k => match k with
  | _ => ("", "", "", false)
def tyJ7 : Nat → FieldType := fun k => match k with
  | _ => .int
abbrev wsJ70 : List Cond := u_ws RJ7 TJ7 0
theorem nmJ7 : ∀ a, a < 0 → ∀ b, b < 0 → a ≠ b → (TJ7 a).2.1 ≠ (TJ7 b).2.1 := by decide +kernel
theorem tyJ7_ok : ∀ k, k < 0 → parseFieldDescriptor (TJ7 k).2.2.1 = some (tyJ7 k) := by decide +kernel
abbrev cJ7_fill_53178 : ByteArray := prog_9_method_103_code
def yJ7_fill_53178 : MethodName := ⟨RJ7, "fill", "([II)V"⟩
def RL : String := "NameRollsLaw"
abbrev cL_law : ByteArray := code
def yL_law : MethodName := ⟨RL, "law", "([I)Z"⟩
def wsJ7_fill_53178 : List Cond := .code yJ7_fill_53178 cJ7_fill_53178 4 none :: ([])
def wsX1_init : List Cond := .code yX1_init cX1_init 1 none :: ([.methodLink RX1 3 objectInit, .instanceMethod objectInit, .code objectInit ⟨#[0xb1]⟩ 1 none, .arrayClass .int, .fieldLink RX1 9 "NameRolls$Roll" "names" "[I", .fieldLink RX1 15 "NameRolls$Roll" "users" "[I", .fieldLink RX1 18 "NameRolls$Roll" "years" "[I", .fieldLink RX1 21 "NameRolls$Roll" "cells" "[I", .fieldLink RX1 24 "NameRolls$Roll" "rules" "[I", .fieldLink RX1 27 "NameRolls$Roll" "namesThen" "[I", .fieldLink RX1 30 "NameRolls$Roll" "movedThen" "[I", .fieldLink RX1 33 "NameRolls$Roll" "yearsThen" "[I", .fieldLink RX1 36 "NameRolls$Roll" "numbersBehind" "[I", .fieldLink RX1 39 "NameRolls$Roll" "yearsBehind" "[I", .fieldLink RX1 42 "NameRolls$Roll" "oldNames" "[I", .fieldLink RX1 45 "NameRolls$Roll" "oldUsers" "[I", .methodLink RX1 48 yJ7_fill_53178, .static yJ7_fill_53178, .initialized RJ7, .code yJ7_fill_53178 cJ7_fill_53178 4 none] ++ wsX10)
def wsX0_init_r1 : List Cond := [Cond.methodLink RX0 3 objectInit, Cond.instanceMethod objectInit, Cond.code objectInit ⟨#[0xb1]⟩ 1 none, Cond.classLink RX0 9 RX1, Cond.instantiable RX1 15, Cond.initialized RX1, Cond.fieldLink RX0 12 "NameRolls$Player" "trial" "LNameRolls$Roll;", Cond.methodLink RX0 11 yX1_init, Cond.instanceMethod yX1_init, Cond.code yX1_init cX1_init 1 none, Cond.methodLink RX1 3 objectInit, Cond.arrayClass .int, Cond.fieldLink RX1 9 "NameRolls$Roll" "names" "[I", Cond.fieldLink RX1 15 "NameRolls$Roll" "users" "[I", Cond.fieldLink RX1 18 "NameRolls$Roll" "years" "[I", Cond.fieldLink RX1 21 "NameRolls$Roll" "cells" "[I", Cond.fieldLink RX1 24 "NameRolls$Roll" "rules" "[I", Cond.fieldLink RX1 27 "NameRolls$Roll" "namesThen" "[I", Cond.fieldLink RX1 30 "NameRolls$Roll" "movedThen" "[I", Cond.fieldLink RX1 33 "NameRolls$Roll" "yearsThen" "[I", Cond.fieldLink RX1 36 "NameRolls$Roll" "numbersBehind" "[I", Cond.fieldLink RX1 39 "NameRolls$Roll" "yearsBehind" "[I", Cond.fieldLink RX1 42 "NameRolls$Roll" "oldNames" "[I", Cond.fieldLink RX1 45 "NameRolls$Roll" "oldUsers" "[I"]
def wsX0_init_r2 : List Cond := [Cond.methodLink RX1 48 yJ7_fill_53178, Cond.static yJ7_fill_53178, Cond.initialized RJ7, Cond.code yJ7_fill_53178 cJ7_fill_53178 4 none]
def wsX0_init : List Cond := .code yX0_init cX0_init 1 none :: ((wsX0_init_r1 ++ wsX0_init_r2) ++ wsX10 ++ wsX00)
def wsX1_copyFrom : List Cond := .code yX1_copyFrom cX1_copyFrom 2 none :: ([.fieldLink RX1 9 "NameRolls$Roll" "names" "[I", .methodLink RX1 54 arraycopyName, .native arraycopyName, .static arraycopyName, .initialized "java/lang/System", .fieldLink RX1 15 "NameRolls$Roll" "users" "[I", .fieldLink RX1 18 "NameRolls$Roll" "years" "[I", .fieldLink RX1 21 "NameRolls$Roll" "cells" "[I", .fieldLink RX1 60 "NameRolls$Roll" "epoch" "I", .fieldLink RX1 64 "NameRolls$Roll" "gained" "I", .fieldLink RX1 67 "NameRolls$Roll" "lost" "I", .fieldLink RX1 24 "NameRolls$Roll" "rules" "[I", .fieldLink RX1 27 "NameRolls$Roll" "namesThen" "[I", .fieldLink RX1 30 "NameRolls$Roll" "movedThen" "[I", .fieldLink RX1 33 "NameRolls$Roll" "yearsThen" "[I", .fieldLink RX1 36 "NameRolls$Roll" "numbersBehind" "[I", .fieldLink RX1 39 "NameRolls$Roll" "yearsBehind" "[I"] ++ wsX10)
def wsX3_isBelow : List Cond := .code yX3_isBelow cX3_isBelow 2 (some .boolean) :: ([])
def wsX2_signAt : List Cond := .code yX2_signAt cX2_signAt 2 (some .char) :: ([.fieldLink RX2 15 "NameRolls$Text" "length" "I", .fieldLink RX2 9 "NameRolls$Text" "signs" "[C", .static yX3_isBelow, .initialized RX3, .code yX3_isBelow cX3_isBelow 2 (some .boolean)] ++ wsX20)
def wsX0_fail : List Cond := .code yX0_fail cX0_fail 3 none :: ([.fieldLink RX0 26 "NameRolls$Player" "reason" "I", .fieldLink RX0 125 "NameRolls$Player" "cause" "I"] ++ wsX00)
def wsX0_readLetters : List Cond := .code yX0_readLetters cX0_readLetters 4 none :: ([.fieldLink RX0 29 "NameRolls$Player" "at" "I", .fieldLink RX0 67 "NameRolls$Player" "letters" "I", .fieldLink RX0 70 "NameRolls$Player" "name" "I", .fieldLink RX0 37 "NameRolls$Player" "start" "I", .methodLink RX0 50 yX2_signAt, .instanceMethod yX2_signAt, .selects RX2 yX2_signAt yX2_signAt, .initialized RX2, .code yX2_signAt cX2_signAt 2 (some .char), .fieldLink RX2 15 "NameRolls$Text" "length" "I", .fieldLink RX2 9 "NameRolls$Text" "signs" "[C", .static yX3_isBelow, .initialized RX3, .code yX3_isBelow cX3_isBelow 2 (some .boolean), .methodLink RX0 84 yX0_fail, .instanceMethod yX0_fail, .selects RX0 yX0_fail yX0_fail, .initialized RX0, .code yX0_fail cX0_fail 3 none, .fieldLink RX0 26 "NameRolls$Player" "reason" "I", .fieldLink RX0 125 "NameRolls$Player" "cause" "I"] ++ wsX00 ++ wsX20)
def wsX0_readDigit : List Cond := .code yX0_readDigit cX0_readDigit 3 (some .int) :: ([.fieldLink RX0 29 "NameRolls$Player" "at" "I", .fieldLink RX0 37 "NameRolls$Player" "start" "I", .methodLink RX0 50 yX2_signAt, .instanceMethod yX2_signAt, .selects RX2 yX2_signAt yX2_signAt, .initialized RX2, .code yX2_signAt cX2_signAt 2 (some .char), .fieldLink RX2 15 "NameRolls$Text" "length" "I", .fieldLink RX2 9 "NameRolls$Text" "signs" "[C", .static yX3_isBelow, .initialized RX3, .code yX3_isBelow cX3_isBelow 2 (some .boolean), .methodLink RX0 84 yX0_fail, .instanceMethod yX0_fail, .selects RX0 yX0_fail yX0_fail, .initialized RX0, .code yX0_fail cX0_fail 3 none, .fieldLink RX0 26 "NameRolls$Player" "reason" "I", .fieldLink RX0 125 "NameRolls$Player" "cause" "I"] ++ wsX00 ++ wsX20)
def wsX0_readSign : List Cond := .code yX0_readSign cX0_readSign 3 none :: ([.fieldLink RX0 29 "NameRolls$Player" "at" "I", .fieldLink RX0 37 "NameRolls$Player" "start" "I", .methodLink RX0 50 yX2_signAt, .instanceMethod yX2_signAt, .selects RX2 yX2_signAt yX2_signAt, .initialized RX2, .code yX2_signAt cX2_signAt 2 (some .char), .fieldLink RX2 15 "NameRolls$Text" "length" "I", .fieldLink RX2 9 "NameRolls$Text" "signs" "[C", .static yX3_isBelow, .initialized RX3, .code yX3_isBelow cX3_isBelow 2 (some .boolean), .methodLink RX0 84 yX0_fail, .instanceMethod yX0_fail, .selects RX0 yX0_fail yX0_fail, .initialized RX0, .code yX0_fail cX0_fail 3 none, .fieldLink RX0 26 "NameRolls$Player" "reason" "I", .fieldLink RX0 125 "NameRolls$Player" "cause" "I"] ++ wsX00 ++ wsX20)
def wsX0_readOrder_r1 : List Cond := [Cond.fieldLink RX0 29 "NameRolls$Player" "at" "I", Cond.fieldLink RX0 54 "NameRolls$Player" "kind" "C", Cond.fieldLink RX0 58 "NameRolls$Player" "table" "I", Cond.fieldLink RX0 61 "NameRolls$Player" "cell" "I", Cond.fieldLink RX0 64 "NameRolls$Player" "rule" "I", Cond.fieldLink RX0 67 "NameRolls$Player" "letters" "I", Cond.fieldLink RX0 70 "NameRolls$Player" "name" "I", Cond.methodLink RX0 50 yX2_signAt, Cond.instanceMethod yX2_signAt, Cond.selects RX2 yX2_signAt yX2_signAt, Cond.initialized RX2, Cond.code yX2_signAt cX2_signAt 2 (some .char), Cond.fieldLink RX2 15 "NameRolls$Text" "length" "I", Cond.fieldLink RX2 9 "NameRolls$Text" "signs" "[C", Cond.static yX3_isBelow, Cond.initialized RX3, Cond.code yX3_isBelow cX3_isBelow 2 (some .boolean), Cond.methodLink RX0 73 yX0_readLetters, Cond.instanceMethod yX0_readLetters, Cond.selects RX0 yX0_readLetters yX0_readLetters, Cond.initialized RX0, Cond.code yX0_readLetters cX0_readLetters 4 none, Cond.fieldLink RX0 37 "NameRolls$Player" "start" "I", Cond.methodLink RX0 84 yX0_fail]
def wsX0_readOrder_r2 : List Cond := [Cond.instanceMethod yX0_fail, Cond.selects RX0 yX0_fail yX0_fail, Cond.code yX0_fail cX0_fail 3 none, Cond.fieldLink RX0 26 "NameRolls$Player" "reason" "I", Cond.fieldLink RX0 125 "NameRolls$Player" "cause" "I", Cond.methodLink RX0 76 yX0_readDigit, Cond.instanceMethod yX0_readDigit, Cond.selects RX0 yX0_readDigit yX0_readDigit, Cond.code yX0_readDigit cX0_readDigit 3 (some .int), Cond.methodLink RX0 80 yX0_readSign, Cond.instanceMethod yX0_readSign, Cond.selects RX0 yX0_readSign yX0_readSign, Cond.code yX0_readSign cX0_readSign 3 none]
def wsX0_readOrder : List Cond := .code yX0_readOrder cX0_readOrder 2 none :: ((wsX0_readOrder_r1 ++ wsX0_readOrder_r2) ++ wsX00 ++ wsX20)
def wsX0_checkRanges : List Cond := .code yX0_checkRanges cX0_checkRanges 1 none :: ([.fieldLink RX0 58 "NameRolls$Player" "table" "I", .fieldLink RX0 61 "NameRolls$Player" "cell" "I", .fieldLink RX0 64 "NameRolls$Player" "rule" "I", .fieldLink RX0 67 "NameRolls$Player" "letters" "I", .methodLink RX0 84 yX0_fail, .instanceMethod yX0_fail, .selects RX0 yX0_fail yX0_fail, .initialized RX0, .code yX0_fail cX0_fail 3 none, .fieldLink RX0 26 "NameRolls$Player" "reason" "I", .fieldLink RX0 125 "NameRolls$Player" "cause" "I"] ++ wsX00)
def wsX1_numberWith : List Cond := .code yX1_numberWith cX1_numberWith 3 (some .int) :: ([.fieldLink RX1 9 "NameRolls$Roll" "names" "[I"] ++ wsX10)
def wsX1_hasRoomForUser : List Cond := .code yX1_hasRoomForUser cX1_hasRoomForUser 2 (some .boolean) :: ([.fieldLink RX1 15 "NameRolls$Roll" "users" "[I", .static yX3_isBelow, .initialized RX3, .code yX3_isBelow cX3_isBelow 2 (some .boolean)] ++ wsX10)
def wsX1_hasRoomFor : List Cond := .code yX1_hasRoomFor cX1_hasRoomFor 3 (some .boolean) :: ([.methodLink RX1 80 yX1_numberWith, .instanceMethod yX1_numberWith, .selects RX1 yX1_numberWith yX1_numberWith, .initialized RX1, .code yX1_numberWith cX1_numberWith 3 (some .int), .fieldLink RX1 9 "NameRolls$Roll" "names" "[I", .methodLink RX1 84 yX1_hasRoomForUser, .instanceMethod yX1_hasRoomForUser, .selects RX1 yX1_hasRoomForUser yX1_hasRoomForUser, .code yX1_hasRoomForUser cX1_hasRoomForUser 2 (some .boolean), .fieldLink RX1 15 "NameRolls$Roll" "users" "[I", .static yX3_isBelow, .initialized RX3, .code yX3_isBelow cX3_isBelow 2 (some .boolean)] ++ wsX10)
def wsX1_cellsWith : List Cond := .code yX1_cellsWith cX1_cellsWith 4 (some .int) :: ([.fieldLink RX1 21 "NameRolls$Roll" "cells" "[I"] ++ wsX10)
def wsX1_hasFreeUser : List Cond := .code yX1_hasFreeUser cX1_hasFreeUser 2 (some .boolean) :: ([.fieldLink RX1 15 "NameRolls$Roll" "users" "[I", .static yX3_isBelow, .initialized RX3, .code yX3_isBelow cX3_isBelow 2 (some .boolean), .methodLink RX1 91 yX1_cellsWith, .instanceMethod yX1_cellsWith, .selects RX1 yX1_cellsWith yX1_cellsWith, .initialized RX1, .code yX1_cellsWith cX1_cellsWith 4 (some .int), .fieldLink RX1 21 "NameRolls$Roll" "cells" "[I"] ++ wsX10)
def wsX1_hasNextEpoch : List Cond := .code yX1_hasNextEpoch cX1_hasNextEpoch 1 (some .boolean) :: ([.fieldLink RX1 60 "NameRolls$Roll" "epoch" "I"] ++ wsX10)
def wsX0_canCarryOut_r1 : List Cond := [Cond.fieldLink RX0 54 "NameRolls$Player" "kind" "C", Cond.fieldLink RX0 12 "NameRolls$Player" "trial" "LNameRolls$Roll;", Cond.fieldLink RX0 70 "NameRolls$Player" "name" "I", Cond.methodLink RX0 112 yX1_hasRoomFor, Cond.instanceMethod yX1_hasRoomFor, Cond.selects RX1 yX1_hasRoomFor yX1_hasRoomFor, Cond.initialized RX1, Cond.code yX1_hasRoomFor cX1_hasRoomFor 3 (some .boolean), Cond.methodLink RX1 80 yX1_numberWith, Cond.instanceMethod yX1_numberWith, Cond.selects RX1 yX1_numberWith yX1_numberWith, Cond.code yX1_numberWith cX1_numberWith 3 (some .int), Cond.fieldLink RX1 9 "NameRolls$Roll" "names" "[I", Cond.methodLink RX1 84 yX1_hasRoomForUser, Cond.instanceMethod yX1_hasRoomForUser, Cond.selects RX1 yX1_hasRoomForUser yX1_hasRoomForUser, Cond.code yX1_hasRoomForUser cX1_hasRoomForUser 2 (some .boolean), Cond.fieldLink RX1 15 "NameRolls$Roll" "users" "[I", Cond.static yX3_isBelow, Cond.initialized RX3, Cond.code yX3_isBelow cX3_isBelow 2 (some .boolean), Cond.methodLink RX0 115 yX1_hasFreeUser, Cond.instanceMethod yX1_hasFreeUser, Cond.selects RX1 yX1_hasFreeUser yX1_hasFreeUser]
def wsX0_canCarryOut_r2 : List Cond := [Cond.code yX1_hasFreeUser cX1_hasFreeUser 2 (some .boolean), Cond.methodLink RX1 91 yX1_cellsWith, Cond.instanceMethod yX1_cellsWith, Cond.selects RX1 yX1_cellsWith yX1_cellsWith, Cond.code yX1_cellsWith cX1_cellsWith 4 (some .int), Cond.fieldLink RX1 21 "NameRolls$Roll" "cells" "[I", Cond.methodLink RX0 118 yX1_hasRoomForUser, Cond.methodLink RX0 121 yX1_hasNextEpoch, Cond.instanceMethod yX1_hasNextEpoch, Cond.selects RX1 yX1_hasNextEpoch yX1_hasNextEpoch, Cond.code yX1_hasNextEpoch cX1_hasNextEpoch 1 (some .boolean), Cond.fieldLink RX1 60 "NameRolls$Roll" "epoch" "I"]
def wsX0_canCarryOut : List Cond := .code yX0_canCarryOut cX0_canCarryOut 2 (some .boolean) :: ((wsX0_canCarryOut_r1 ++ wsX0_canCarryOut_r2) ++ wsX00 ++ wsX10)
def wsX1_addUser : List Cond := .code yX1_addUser cX1_addUser 2 (some .int) :: ([.fieldLink RX1 15 "NameRolls$Roll" "users" "[I", .static yX3_isBelow, .initialized RX3, .code yX3_isBelow cX3_isBelow 2 (some .boolean)] ++ wsX10)
def wsX1_enter : List Cond := .code yX1_enter cX1_enter 3 (some .int) :: ([.fieldLink RX1 9 "NameRolls$Roll" "names" "[I", .fieldLink RX1 64 "NameRolls$Roll" "gained" "I", .methodLink RX1 80 yX1_numberWith, .instanceMethod yX1_numberWith, .selects RX1 yX1_numberWith yX1_numberWith, .initialized RX1, .code yX1_numberWith cX1_numberWith 3 (some .int), .methodLink RX1 88 yX1_addUser, .instanceMethod yX1_addUser, .selects RX1 yX1_addUser yX1_addUser, .code yX1_addUser cX1_addUser 2 (some .int), .fieldLink RX1 15 "NameRolls$Roll" "users" "[I", .static yX3_isBelow, .initialized RX3, .code yX3_isBelow cX3_isBelow 2 (some .boolean)] ++ wsX10)
def wsX1_giveBack : List Cond := .code yX1_giveBack cX1_giveBack 2 (some .int) :: ([.fieldLink RX1 15 "NameRolls$Roll" "users" "[I", .fieldLink RX1 9 "NameRolls$Roll" "names" "[I", .fieldLink RX1 18 "NameRolls$Roll" "years" "[I", .fieldLink RX1 67 "NameRolls$Roll" "lost" "I", .static yX3_isBelow, .initialized RX3, .code yX3_isBelow cX3_isBelow 2 (some .boolean)] ++ wsX10)
def wsX3_cellIndex : List Cond := .code yX3_cellIndex cX3_cellIndex 2 (some .int) :: ([])
def wsX1_fillCell : List Cond := .code yX1_fillCell cX1_fillCell 3 (some .int) :: ([.fieldLink RX1 21 "NameRolls$Roll" "cells" "[I", .fieldLink RX1 15 "NameRolls$Roll" "users" "[I", .static yX3_isBelow, .initialized RX3, .code yX3_isBelow cX3_isBelow 2 (some .boolean), .methodLink RX1 88 yX1_addUser, .instanceMethod yX1_addUser, .selects RX1 yX1_addUser yX1_addUser, .initialized RX1, .code yX1_addUser cX1_addUser 2 (some .int), .methodLink RX1 94 yX1_giveBack, .instanceMethod yX1_giveBack, .selects RX1 yX1_giveBack yX1_giveBack, .code yX1_giveBack cX1_giveBack 2 (some .int), .fieldLink RX1 9 "NameRolls$Roll" "names" "[I", .fieldLink RX1 18 "NameRolls$Roll" "years" "[I", .fieldLink RX1 67 "NameRolls$Roll" "lost" "I"] ++ wsX10)
def wsX3_orderKey : List Cond := .code yX3_orderKey cX3_orderKey 3 (some .int) :: ([.constant RX3 194 (14348907)])
def wsX1_isAhead : List Cond := .code yX1_isAhead cX1_isAhead 4 (some .boolean) :: ([.fieldLink RX1 9 "NameRolls$Roll" "names" "[I", .fieldLink RX1 15 "NameRolls$Roll" "users" "[I", .static yX3_isBelow, .initialized RX3, .code yX3_isBelow cX3_isBelow 2 (some .boolean), .static yX3_orderKey, .code yX3_orderKey cX3_orderKey 3 (some .int), .constant RX3 194 (14348907)] ++ wsX10)
def wsX1_placeOf : List Cond := .code yX1_placeOf cX1_placeOf 5 (some .int) :: ([.fieldLink RX1 9 "NameRolls$Roll" "names" "[I", .methodLink RX1 97 yX1_isAhead, .instanceMethod yX1_isAhead, .selects RX1 yX1_isAhead yX1_isAhead, .initialized RX1, .code yX1_isAhead cX1_isAhead 4 (some .boolean), .fieldLink RX1 15 "NameRolls$Roll" "users" "[I", .static yX3_isBelow, .initialized RX3, .code yX3_isBelow cX3_isBelow 2 (some .boolean), .static yX3_orderKey, .code yX3_orderKey cX3_orderKey 3 (some .int), .constant RX3 194 (14348907)] ++ wsX10)
def wsX1_namesBelow : List Cond := .code yX1_namesBelow cX1_namesBelow 4 (some .int) :: ([.fieldLink RX1 9 "NameRolls$Roll" "names" "[I"] ++ wsX10)
def wsX1_moveNames : List Cond := .code yX1_moveNames cX1_moveNames 4 none :: ([.fieldLink RX1 9 "NameRolls$Roll" "names" "[I", .fieldLink RX1 42 "NameRolls$Roll" "oldNames" "[I", .methodLink RX1 54 arraycopyName, .native arraycopyName, .static arraycopyName, .initialized "java/lang/System", .fieldLink RX1 15 "NameRolls$Roll" "users" "[I", .fieldLink RX1 45 "NameRolls$Roll" "oldUsers" "[I", .fieldLink RX1 36 "NameRolls$Roll" "numbersBehind" "[I", .fieldLink RX1 18 "NameRolls$Roll" "years" "[I", .methodLink RX1 48 yJ7_fill_53178, .static yJ7_fill_53178, .initialized RJ7, .code yJ7_fill_53178 cJ7_fill_53178 4 none, .static yX3_isBelow, .initialized RX3, .code yX3_isBelow cX3_isBelow 2 (some .boolean)] ++ wsX10)
def wsX1_moveCells : List Cond := .code yX1_moveCells cX1_moveCells 3 none :: ([.fieldLink RX1 21 "NameRolls$Roll" "cells" "[I", .fieldLink RX1 36 "NameRolls$Roll" "numbersBehind" "[I", .static yX3_isBelow, .initialized RX3, .code yX3_isBelow cX3_isBelow 2 (some .boolean)] ++ wsX10)
def wsX1_giveAnew_r1 : List Cond := [Cond.fieldLink RX1 60 "NameRolls$Roll" "epoch" "I", Cond.fieldLink RX1 9 "NameRolls$Roll" "names" "[I", Cond.fieldLink RX1 36 "NameRolls$Roll" "numbersBehind" "[I", Cond.fieldLink RX1 24 "NameRolls$Roll" "rules" "[I", Cond.fieldLink RX1 27 "NameRolls$Roll" "namesThen" "[I", Cond.fieldLink RX1 30 "NameRolls$Roll" "movedThen" "[I", Cond.fieldLink RX1 18 "NameRolls$Roll" "years" "[I", Cond.fieldLink RX1 33 "NameRolls$Roll" "yearsThen" "[I", Cond.methodLink RX1 54 arraycopyName, Cond.native arraycopyName, Cond.static arraycopyName, Cond.initialized "java/lang/System", Cond.fieldLink RX1 39 "NameRolls$Roll" "yearsBehind" "[I", Cond.methodLink RX1 104 yX1_placeOf, Cond.instanceMethod yX1_placeOf, Cond.selects RX1 yX1_placeOf yX1_placeOf, Cond.initialized RX1, Cond.code yX1_placeOf cX1_placeOf 5 (some .int), Cond.methodLink RX1 97 yX1_isAhead, Cond.instanceMethod yX1_isAhead, Cond.selects RX1 yX1_isAhead yX1_isAhead, Cond.code yX1_isAhead cX1_isAhead 4 (some .boolean), Cond.fieldLink RX1 15 "NameRolls$Roll" "users" "[I", Cond.static yX3_isBelow]
def wsX1_giveAnew_r2 : List Cond := [Cond.initialized RX3, Cond.code yX3_isBelow cX3_isBelow 2 (some .boolean), Cond.static yX3_orderKey, Cond.code yX3_orderKey cX3_orderKey 3 (some .int), Cond.constant RX3 194 (14348907), Cond.methodLink RX1 108 yX1_namesBelow, Cond.instanceMethod yX1_namesBelow, Cond.selects RX1 yX1_namesBelow yX1_namesBelow, Cond.code yX1_namesBelow cX1_namesBelow 4 (some .int), Cond.methodLink RX1 111 yX1_moveNames, Cond.instanceMethod yX1_moveNames, Cond.selects RX1 yX1_moveNames yX1_moveNames, Cond.code yX1_moveNames cX1_moveNames 4 none, Cond.fieldLink RX1 42 "NameRolls$Roll" "oldNames" "[I", Cond.fieldLink RX1 45 "NameRolls$Roll" "oldUsers" "[I", Cond.methodLink RX1 48 yJ7_fill_53178, Cond.static yJ7_fill_53178, Cond.initialized RJ7, Cond.code yJ7_fill_53178 cJ7_fill_53178 4 none, Cond.methodLink RX1 115 yX1_moveCells, Cond.instanceMethod yX1_moveCells, Cond.selects RX1 yX1_moveCells yX1_moveCells, Cond.code yX1_moveCells cX1_moveCells 3 none, Cond.fieldLink RX1 21 "NameRolls$Roll" "cells" "[I"]
def wsX1_giveAnew : List Cond := .code yX1_giveAnew cX1_giveAnew 7 (some .int) :: ((wsX1_giveAnew_r1 ++ wsX1_giveAnew_r2) ++ wsX10)
def wsX0_carryOut_r1 : List Cond := [Cond.fieldLink RX0 26 "NameRolls$Player" "reason" "I", Cond.fieldLink RX0 12 "NameRolls$Player" "trial" "LNameRolls$Roll;", Cond.fieldLink RX0 70 "NameRolls$Player" "name" "I", Cond.fieldLink RX0 54 "NameRolls$Player" "kind" "C", Cond.fieldLink RX0 58 "NameRolls$Player" "table" "I", Cond.fieldLink RX0 61 "NameRolls$Player" "cell" "I", Cond.fieldLink RX0 64 "NameRolls$Player" "rule" "I", Cond.methodLink RX0 88 yX1_numberWith, Cond.instanceMethod yX1_numberWith, Cond.selects RX1 yX1_numberWith yX1_numberWith, Cond.initialized RX1, Cond.code yX1_numberWith cX1_numberWith 3 (some .int), Cond.fieldLink RX1 9 "NameRolls$Roll" "names" "[I", Cond.methodLink RX0 92 yX0_canCarryOut, Cond.instanceMethod yX0_canCarryOut, Cond.selects RX0 yX0_canCarryOut yX0_canCarryOut, Cond.initialized RX0, Cond.code yX0_canCarryOut cX0_canCarryOut 2 (some .boolean), Cond.methodLink RX0 112 yX1_hasRoomFor, Cond.instanceMethod yX1_hasRoomFor, Cond.selects RX1 yX1_hasRoomFor yX1_hasRoomFor, Cond.code yX1_hasRoomFor cX1_hasRoomFor 3 (some .boolean), Cond.methodLink RX1 80 yX1_numberWith, Cond.methodLink RX1 84 yX1_hasRoomForUser]
def wsX0_carryOut_r2 : List Cond := [Cond.instanceMethod yX1_hasRoomForUser, Cond.selects RX1 yX1_hasRoomForUser yX1_hasRoomForUser, Cond.code yX1_hasRoomForUser cX1_hasRoomForUser 2 (some .boolean), Cond.fieldLink RX1 15 "NameRolls$Roll" "users" "[I", Cond.static yX3_isBelow, Cond.initialized RX3, Cond.code yX3_isBelow cX3_isBelow 2 (some .boolean), Cond.methodLink RX0 115 yX1_hasFreeUser, Cond.instanceMethod yX1_hasFreeUser, Cond.selects RX1 yX1_hasFreeUser yX1_hasFreeUser, Cond.code yX1_hasFreeUser cX1_hasFreeUser 2 (some .boolean), Cond.methodLink RX1 91 yX1_cellsWith, Cond.instanceMethod yX1_cellsWith, Cond.selects RX1 yX1_cellsWith yX1_cellsWith, Cond.code yX1_cellsWith cX1_cellsWith 4 (some .int), Cond.fieldLink RX1 21 "NameRolls$Roll" "cells" "[I", Cond.methodLink RX0 118 yX1_hasRoomForUser, Cond.methodLink RX0 121 yX1_hasNextEpoch, Cond.instanceMethod yX1_hasNextEpoch, Cond.selects RX1 yX1_hasNextEpoch yX1_hasNextEpoch, Cond.code yX1_hasNextEpoch cX1_hasNextEpoch 1 (some .boolean), Cond.fieldLink RX1 60 "NameRolls$Roll" "epoch" "I", Cond.methodLink RX0 84 yX0_fail, Cond.instanceMethod yX0_fail]
def wsX0_carryOut_r3 : List Cond := [Cond.selects RX0 yX0_fail yX0_fail, Cond.code yX0_fail cX0_fail 3 none, Cond.fieldLink RX0 125 "NameRolls$Player" "cause" "I", Cond.methodLink RX0 96 yX1_enter, Cond.instanceMethod yX1_enter, Cond.selects RX1 yX1_enter yX1_enter, Cond.code yX1_enter cX1_enter 3 (some .int), Cond.fieldLink RX1 64 "NameRolls$Roll" "gained" "I", Cond.methodLink RX1 88 yX1_addUser, Cond.instanceMethod yX1_addUser, Cond.selects RX1 yX1_addUser yX1_addUser, Cond.code yX1_addUser cX1_addUser 2 (some .int), Cond.methodLink RX0 99 yX1_giveBack, Cond.instanceMethod yX1_giveBack, Cond.selects RX1 yX1_giveBack yX1_giveBack, Cond.code yX1_giveBack cX1_giveBack 2 (some .int), Cond.fieldLink RX1 18 "NameRolls$Roll" "years" "[I", Cond.fieldLink RX1 67 "NameRolls$Roll" "lost" "I", Cond.static yX3_cellIndex, Cond.code yX3_cellIndex cX3_cellIndex 2 (some .int), Cond.methodLink RX0 106 yX1_fillCell, Cond.instanceMethod yX1_fillCell, Cond.selects RX1 yX1_fillCell yX1_fillCell, Cond.code yX1_fillCell cX1_fillCell 3 (some .int)]
def wsX0_carryOut_r4 : List Cond := [Cond.methodLink RX1 94 yX1_giveBack, Cond.methodLink RX0 109 yX1_giveAnew, Cond.instanceMethod yX1_giveAnew, Cond.selects RX1 yX1_giveAnew yX1_giveAnew, Cond.code yX1_giveAnew cX1_giveAnew 7 (some .int), Cond.fieldLink RX1 36 "NameRolls$Roll" "numbersBehind" "[I", Cond.fieldLink RX1 24 "NameRolls$Roll" "rules" "[I", Cond.fieldLink RX1 27 "NameRolls$Roll" "namesThen" "[I", Cond.fieldLink RX1 30 "NameRolls$Roll" "movedThen" "[I", Cond.fieldLink RX1 33 "NameRolls$Roll" "yearsThen" "[I", Cond.methodLink RX1 54 arraycopyName, Cond.native arraycopyName, Cond.static arraycopyName, Cond.initialized "java/lang/System", Cond.fieldLink RX1 39 "NameRolls$Roll" "yearsBehind" "[I", Cond.methodLink RX1 104 yX1_placeOf, Cond.instanceMethod yX1_placeOf, Cond.selects RX1 yX1_placeOf yX1_placeOf, Cond.code yX1_placeOf cX1_placeOf 5 (some .int), Cond.methodLink RX1 97 yX1_isAhead, Cond.instanceMethod yX1_isAhead, Cond.selects RX1 yX1_isAhead yX1_isAhead, Cond.code yX1_isAhead cX1_isAhead 4 (some .boolean), Cond.static yX3_orderKey]
def wsX0_carryOut_r5 : List Cond := [Cond.code yX3_orderKey cX3_orderKey 3 (some .int), Cond.constant RX3 194 (14348907), Cond.methodLink RX1 108 yX1_namesBelow, Cond.instanceMethod yX1_namesBelow, Cond.selects RX1 yX1_namesBelow yX1_namesBelow, Cond.code yX1_namesBelow cX1_namesBelow 4 (some .int), Cond.methodLink RX1 111 yX1_moveNames, Cond.instanceMethod yX1_moveNames, Cond.selects RX1 yX1_moveNames yX1_moveNames, Cond.code yX1_moveNames cX1_moveNames 4 none, Cond.fieldLink RX1 42 "NameRolls$Roll" "oldNames" "[I", Cond.fieldLink RX1 45 "NameRolls$Roll" "oldUsers" "[I", Cond.methodLink RX1 48 yJ7_fill_53178, Cond.static yJ7_fill_53178, Cond.initialized RJ7, Cond.code yJ7_fill_53178 cJ7_fill_53178 4 none, Cond.methodLink RX1 115 yX1_moveCells, Cond.instanceMethod yX1_moveCells, Cond.selects RX1 yX1_moveCells yX1_moveCells, Cond.code yX1_moveCells cX1_moveCells 3 none]
def wsX0_carryOut : List Cond := .code yX0_carryOut cX0_carryOut 2 none :: ((wsX0_carryOut_r1 ++ (wsX0_carryOut_r2 ++ (wsX0_carryOut_r3 ++ (wsX0_carryOut_r4 ++ wsX0_carryOut_r5)))) ++ wsX00 ++ wsX10)
def wsX0_tryOn_r1 : List Cond := [Cond.fieldLink RX0 12 "NameRolls$Player" "trial" "LNameRolls$Roll;", Cond.fieldLink RX0 22 "NameRolls$Player" "orders" "I", Cond.fieldLink RX0 26 "NameRolls$Player" "reason" "I", Cond.fieldLink RX0 29 "NameRolls$Player" "at" "I", Cond.fieldLink RX0 32 "NameRolls$Text" "length" "I", Cond.fieldLink RX0 37 "NameRolls$Player" "start" "I", Cond.methodLink RX0 18 yX1_copyFrom, Cond.instanceMethod yX1_copyFrom, Cond.selects RX1 yX1_copyFrom yX1_copyFrom, Cond.initialized RX1, Cond.code yX1_copyFrom cX1_copyFrom 2 none, Cond.fieldLink RX1 9 "NameRolls$Roll" "names" "[I", Cond.methodLink RX1 54 arraycopyName, Cond.native arraycopyName, Cond.static arraycopyName, Cond.initialized "java/lang/System", Cond.fieldLink RX1 15 "NameRolls$Roll" "users" "[I", Cond.fieldLink RX1 18 "NameRolls$Roll" "years" "[I", Cond.fieldLink RX1 21 "NameRolls$Roll" "cells" "[I", Cond.fieldLink RX1 60 "NameRolls$Roll" "epoch" "I", Cond.fieldLink RX1 64 "NameRolls$Roll" "gained" "I", Cond.fieldLink RX1 67 "NameRolls$Roll" "lost" "I", Cond.fieldLink RX1 24 "NameRolls$Roll" "rules" "[I", Cond.fieldLink RX1 27 "NameRolls$Roll" "namesThen" "[I"]
def wsX0_tryOn_r2 : List Cond := [Cond.fieldLink RX1 30 "NameRolls$Roll" "movedThen" "[I", Cond.fieldLink RX1 33 "NameRolls$Roll" "yearsThen" "[I", Cond.fieldLink RX1 36 "NameRolls$Roll" "numbersBehind" "[I", Cond.fieldLink RX1 39 "NameRolls$Roll" "yearsBehind" "[I", Cond.methodLink RX0 40 yX0_readOrder, Cond.instanceMethod yX0_readOrder, Cond.selects RX0 yX0_readOrder yX0_readOrder, Cond.initialized RX0, Cond.code yX0_readOrder cX0_readOrder 2 none, Cond.fieldLink RX0 54 "NameRolls$Player" "kind" "C", Cond.fieldLink RX0 58 "NameRolls$Player" "table" "I", Cond.fieldLink RX0 61 "NameRolls$Player" "cell" "I", Cond.fieldLink RX0 64 "NameRolls$Player" "rule" "I", Cond.fieldLink RX0 67 "NameRolls$Player" "letters" "I", Cond.fieldLink RX0 70 "NameRolls$Player" "name" "I", Cond.methodLink RX0 50 yX2_signAt, Cond.instanceMethod yX2_signAt, Cond.selects RX2 yX2_signAt yX2_signAt, Cond.initialized RX2, Cond.code yX2_signAt cX2_signAt 2 (some .char), Cond.fieldLink RX2 15 "NameRolls$Text" "length" "I", Cond.fieldLink RX2 9 "NameRolls$Text" "signs" "[C", Cond.static yX3_isBelow, Cond.initialized RX3]
def wsX0_tryOn_r3 : List Cond := [Cond.code yX3_isBelow cX3_isBelow 2 (some .boolean), Cond.methodLink RX0 73 yX0_readLetters, Cond.instanceMethod yX0_readLetters, Cond.selects RX0 yX0_readLetters yX0_readLetters, Cond.code yX0_readLetters cX0_readLetters 4 none, Cond.methodLink RX0 84 yX0_fail, Cond.instanceMethod yX0_fail, Cond.selects RX0 yX0_fail yX0_fail, Cond.code yX0_fail cX0_fail 3 none, Cond.fieldLink RX0 125 "NameRolls$Player" "cause" "I", Cond.methodLink RX0 76 yX0_readDigit, Cond.instanceMethod yX0_readDigit, Cond.selects RX0 yX0_readDigit yX0_readDigit, Cond.code yX0_readDigit cX0_readDigit 3 (some .int), Cond.methodLink RX0 80 yX0_readSign, Cond.instanceMethod yX0_readSign, Cond.selects RX0 yX0_readSign yX0_readSign, Cond.code yX0_readSign cX0_readSign 3 none, Cond.methodLink RX0 44 yX0_checkRanges, Cond.instanceMethod yX0_checkRanges, Cond.selects RX0 yX0_checkRanges yX0_checkRanges, Cond.code yX0_checkRanges cX0_checkRanges 1 none, Cond.methodLink RX0 47 yX0_carryOut, Cond.instanceMethod yX0_carryOut]
def wsX0_tryOn_r4 : List Cond := [Cond.selects RX0 yX0_carryOut yX0_carryOut, Cond.code yX0_carryOut cX0_carryOut 2 none, Cond.methodLink RX0 88 yX1_numberWith, Cond.instanceMethod yX1_numberWith, Cond.selects RX1 yX1_numberWith yX1_numberWith, Cond.code yX1_numberWith cX1_numberWith 3 (some .int), Cond.methodLink RX0 92 yX0_canCarryOut, Cond.instanceMethod yX0_canCarryOut, Cond.selects RX0 yX0_canCarryOut yX0_canCarryOut, Cond.code yX0_canCarryOut cX0_canCarryOut 2 (some .boolean), Cond.methodLink RX0 112 yX1_hasRoomFor, Cond.instanceMethod yX1_hasRoomFor, Cond.selects RX1 yX1_hasRoomFor yX1_hasRoomFor, Cond.code yX1_hasRoomFor cX1_hasRoomFor 3 (some .boolean), Cond.methodLink RX1 80 yX1_numberWith, Cond.methodLink RX1 84 yX1_hasRoomForUser, Cond.instanceMethod yX1_hasRoomForUser, Cond.selects RX1 yX1_hasRoomForUser yX1_hasRoomForUser, Cond.code yX1_hasRoomForUser cX1_hasRoomForUser 2 (some .boolean), Cond.methodLink RX0 115 yX1_hasFreeUser, Cond.instanceMethod yX1_hasFreeUser, Cond.selects RX1 yX1_hasFreeUser yX1_hasFreeUser, Cond.code yX1_hasFreeUser cX1_hasFreeUser 2 (some .boolean), Cond.methodLink RX1 91 yX1_cellsWith]
def wsX0_tryOn_r5 : List Cond := [Cond.instanceMethod yX1_cellsWith, Cond.selects RX1 yX1_cellsWith yX1_cellsWith, Cond.code yX1_cellsWith cX1_cellsWith 4 (some .int), Cond.methodLink RX0 118 yX1_hasRoomForUser, Cond.methodLink RX0 121 yX1_hasNextEpoch, Cond.instanceMethod yX1_hasNextEpoch, Cond.selects RX1 yX1_hasNextEpoch yX1_hasNextEpoch, Cond.code yX1_hasNextEpoch cX1_hasNextEpoch 1 (some .boolean), Cond.methodLink RX0 96 yX1_enter, Cond.instanceMethod yX1_enter, Cond.selects RX1 yX1_enter yX1_enter, Cond.code yX1_enter cX1_enter 3 (some .int), Cond.methodLink RX1 88 yX1_addUser, Cond.instanceMethod yX1_addUser, Cond.selects RX1 yX1_addUser yX1_addUser, Cond.code yX1_addUser cX1_addUser 2 (some .int), Cond.methodLink RX0 99 yX1_giveBack, Cond.instanceMethod yX1_giveBack, Cond.selects RX1 yX1_giveBack yX1_giveBack, Cond.code yX1_giveBack cX1_giveBack 2 (some .int), Cond.static yX3_cellIndex, Cond.code yX3_cellIndex cX3_cellIndex 2 (some .int), Cond.methodLink RX0 106 yX1_fillCell, Cond.instanceMethod yX1_fillCell]
def wsX0_tryOn_r6 : List Cond := [Cond.selects RX1 yX1_fillCell yX1_fillCell, Cond.code yX1_fillCell cX1_fillCell 3 (some .int), Cond.methodLink RX1 94 yX1_giveBack, Cond.methodLink RX0 109 yX1_giveAnew, Cond.instanceMethod yX1_giveAnew, Cond.selects RX1 yX1_giveAnew yX1_giveAnew, Cond.code yX1_giveAnew cX1_giveAnew 7 (some .int), Cond.methodLink RX1 104 yX1_placeOf, Cond.instanceMethod yX1_placeOf, Cond.selects RX1 yX1_placeOf yX1_placeOf, Cond.code yX1_placeOf cX1_placeOf 5 (some .int), Cond.methodLink RX1 97 yX1_isAhead, Cond.instanceMethod yX1_isAhead, Cond.selects RX1 yX1_isAhead yX1_isAhead, Cond.code yX1_isAhead cX1_isAhead 4 (some .boolean), Cond.static yX3_orderKey, Cond.code yX3_orderKey cX3_orderKey 3 (some .int), Cond.constant RX3 194 (14348907), Cond.methodLink RX1 108 yX1_namesBelow, Cond.instanceMethod yX1_namesBelow, Cond.selects RX1 yX1_namesBelow yX1_namesBelow, Cond.code yX1_namesBelow cX1_namesBelow 4 (some .int), Cond.methodLink RX1 111 yX1_moveNames, Cond.instanceMethod yX1_moveNames]
def wsX0_tryOn_r7 : List Cond := [Cond.selects RX1 yX1_moveNames yX1_moveNames, Cond.code yX1_moveNames cX1_moveNames 4 none, Cond.fieldLink RX1 42 "NameRolls$Roll" "oldNames" "[I", Cond.fieldLink RX1 45 "NameRolls$Roll" "oldUsers" "[I", Cond.methodLink RX1 48 yJ7_fill_53178, Cond.static yJ7_fill_53178, Cond.initialized RJ7, Cond.code yJ7_fill_53178 cJ7_fill_53178 4 none, Cond.methodLink RX1 115 yX1_moveCells, Cond.instanceMethod yX1_moveCells, Cond.selects RX1 yX1_moveCells yX1_moveCells, Cond.code yX1_moveCells cX1_moveCells 3 none]
def wsX0_tryOn : List Cond := .code yX0_tryOn cX0_tryOn 4 none :: ((wsX0_tryOn_r1 ++ (wsX0_tryOn_r2 ++ (wsX0_tryOn_r3 ++ (wsX0_tryOn_r4 ++ (wsX0_tryOn_r5 ++ (wsX0_tryOn_r6 ++ wsX0_tryOn_r7)))))) ++ wsX00 ++ wsX20 ++ wsX10)
def wsX1_tagIn : List Cond := .code yX1_tagIn cX1_tagIn 3 (some .int) :: ([.constant RX1 79 (1000000)])
def wsX1_tagOf : List Cond := .code yX1_tagOf cX1_tagOf 2 (some .int) :: ([.fieldLink RX1 60 "NameRolls$Roll" "epoch" "I", .fieldLink RX1 18 "NameRolls$Roll" "years" "[I", .constant RX1 78 (-1000004), .static yX3_isBelow, .initialized RX3, .code yX3_isBelow cX3_isBelow 2 (some .boolean), .methodLink RX1 74 yX1_tagIn, .static yX1_tagIn, .initialized RX1, .code yX1_tagIn cX1_tagIn 3 (some .int), .constant RX1 79 (1000000)] ++ wsX10)
def wsX1_standing : List Cond := .code yX1_standing cX1_standing 8 (some .int) :: ([.constant RX1 79 (1000000), .fieldLink RX1 60 "NameRolls$Roll" "epoch" "I", .fieldLink RX1 36 "NameRolls$Roll" "numbersBehind" "[I", .fieldLink RX1 33 "NameRolls$Roll" "yearsThen" "[I", .fieldLink RX1 39 "NameRolls$Roll" "yearsBehind" "[I", .fieldLink RX1 9 "NameRolls$Roll" "names" "[I", .fieldLink RX1 18 "NameRolls$Roll" "years" "[I", .static yX3_isBelow, .initialized RX3, .code yX3_isBelow cX3_isBelow 2 (some .boolean)] ++ wsX10)
def wsX1_emptyCell : List Cond := .code yX1_emptyCell cX1_emptyCell 3 (some .int) :: ([.fieldLink RX1 21 "NameRolls$Roll" "cells" "[I", .static yX3_isBelow, .initialized RX3, .code yX3_isBelow cX3_isBelow 2 (some .boolean), .methodLink RX1 94 yX1_giveBack, .instanceMethod yX1_giveBack, .selects RX1 yX1_giveBack yX1_giveBack, .initialized RX1, .code yX1_giveBack cX1_giveBack 2 (some .int), .fieldLink RX1 15 "NameRolls$Roll" "users" "[I", .fieldLink RX1 9 "NameRolls$Roll" "names" "[I", .fieldLink RX1 18 "NameRolls$Roll" "years" "[I", .fieldLink RX1 67 "NameRolls$Roll" "lost" "I"] ++ wsX10)
def wsX1_stillStanding : List Cond := .code yX1_stillStanding cX1_stillStanding 6 (some .int) :: ([.fieldLink RX1 36 "NameRolls$Roll" "numbersBehind" "[I", .fieldLink RX1 33 "NameRolls$Roll" "yearsThen" "[I", .methodLink RX1 74 yX1_tagIn, .static yX1_tagIn, .initialized RX1, .code yX1_tagIn cX1_tagIn 3 (some .int), .constant RX1 79 (1000000), .methodLink RX1 118 yX1_standing, .instanceMethod yX1_standing, .selects RX1 yX1_standing yX1_standing, .code yX1_standing cX1_standing 8 (some .int), .fieldLink RX1 60 "NameRolls$Roll" "epoch" "I", .fieldLink RX1 39 "NameRolls$Roll" "yearsBehind" "[I", .fieldLink RX1 9 "NameRolls$Roll" "names" "[I", .fieldLink RX1 18 "NameRolls$Roll" "years" "[I", .static yX3_isBelow, .initialized RX3, .code yX3_isBelow cX3_isBelow 2 (some .boolean)] ++ wsX10)
def wsX1_usersOfAll : List Cond := .code yX1_usersOfAll cX1_usersOfAll 3 (some .int) :: ([.fieldLink RX1 15 "NameRolls$Roll" "users" "[I"] ++ wsX10)
def wsX1_top : List Cond := .code yX1_top cX1_top 2 (some .int) :: ([.fieldLink RX1 9 "NameRolls$Roll" "names" "[I"] ++ wsX10)
def wsX2_init : List Cond := .code yX2_init cX2_init 1 none :: ([.methodLink RX2 3 objectInit, .instanceMethod objectInit, .code objectInit ⟨#[0xb1]⟩ 1 none, .arrayClass .char, .fieldLink RX2 9 "NameRolls$Text" "signs" "[C"] ++ wsX20)
def wsX2_append : List Cond := .code yX2_append cX2_append 2 (some .int) :: ([.fieldLink RX2 15 "NameRolls$Text" "length" "I", .fieldLink RX2 9 "NameRolls$Text" "signs" "[C", .static yX3_isBelow, .initialized RX3, .code yX3_isBelow cX3_isBelow 2 (some .boolean)] ++ wsX20)
def wsX3_init_r1 : List Cond := [Cond.methodLink RX3 1 objectInit, Cond.instanceMethod objectInit, Cond.code objectInit ⟨#[0xb1]⟩ 1 none, Cond.classLink RX3 7 RX1, Cond.instantiable RX1 15, Cond.initialized RX1, Cond.fieldLink RX3 10 "NameRolls" "now" "LNameRolls$Roll;", Cond.fieldLink RX3 16 "NameRolls" "past" "[LNameRolls$Roll;", Cond.classLink RX3 20 RX2, Cond.instantiable RX2 2, Cond.initialized RX2, Cond.fieldLink RX3 23 "NameRolls" "text" "LNameRolls$Text;", Cond.classLink RX3 27 RX0, Cond.instantiable RX0 12, Cond.initialized RX0, Cond.fieldLink RX3 30 "NameRolls" "player" "LNameRolls$Player;", Cond.methodLink RX3 9 yX1_init, Cond.instanceMethod yX1_init, Cond.code yX1_init cX1_init 1 none, Cond.methodLink RX1 3 objectInit, Cond.arrayClass .int, Cond.fieldLink RX1 9 "NameRolls$Roll" "names" "[I", Cond.fieldLink RX1 15 "NameRolls$Roll" "users" "[I", Cond.fieldLink RX1 18 "NameRolls$Roll" "years" "[I"]
def wsX3_init_r2 : List Cond := [Cond.fieldLink RX1 21 "NameRolls$Roll" "cells" "[I", Cond.fieldLink RX1 24 "NameRolls$Roll" "rules" "[I", Cond.fieldLink RX1 27 "NameRolls$Roll" "namesThen" "[I", Cond.fieldLink RX1 30 "NameRolls$Roll" "movedThen" "[I", Cond.fieldLink RX1 33 "NameRolls$Roll" "yearsThen" "[I", Cond.fieldLink RX1 36 "NameRolls$Roll" "numbersBehind" "[I", Cond.fieldLink RX1 39 "NameRolls$Roll" "yearsBehind" "[I", Cond.fieldLink RX1 42 "NameRolls$Roll" "oldNames" "[I", Cond.fieldLink RX1 45 "NameRolls$Roll" "oldUsers" "[I", Cond.methodLink RX1 48 yJ7_fill_53178, Cond.static yJ7_fill_53178, Cond.initialized RJ7, Cond.code yJ7_fill_53178 cJ7_fill_53178 4 none, Cond.instanceMethod yX2_init, Cond.code yX2_init cX2_init 1 none, Cond.methodLink RX2 3 objectInit, Cond.arrayClass .char, Cond.fieldLink RX2 9 "NameRolls$Text" "signs" "[C", Cond.instanceMethod yX0_init, Cond.code yX0_init cX0_init 1 none, Cond.methodLink RX0 3 objectInit, Cond.classLink RX0 9 RX1, Cond.fieldLink RX0 12 "NameRolls$Player" "trial" "LNameRolls$Roll;", Cond.methodLink RX0 11 yX1_init]
def wsX3_init : List Cond := .code yX3_init cX3_init 2 none :: ((wsX3_init_r1 ++ wsX3_init_r2) ++ wsX10 ++ wsX30 ++ wsX20 ++ wsX00)
def wsX3_isName : List Cond := .code yX3_isName cX3_isName 3 (some .boolean) :: ([.constant RX3 193 (387420488)])
def wsX3_recordState_r1 : List Cond := [Cond.fieldLink RX3 160 "NameRolls" "states" "I", Cond.fieldLink RX3 16 "NameRolls" "past" "[LNameRolls$Roll;", Cond.fieldLink RX3 10 "NameRolls" "now" "LNameRolls$Roll;", Cond.methodLink RX3 166 yX1_copyFrom, Cond.instanceMethod yX1_copyFrom, Cond.selects RX1 yX1_copyFrom yX1_copyFrom, Cond.initialized RX1, Cond.code yX1_copyFrom cX1_copyFrom 2 none, Cond.fieldLink RX1 9 "NameRolls$Roll" "names" "[I", Cond.methodLink RX1 54 arraycopyName, Cond.native arraycopyName, Cond.static arraycopyName, Cond.initialized "java/lang/System", Cond.fieldLink RX1 15 "NameRolls$Roll" "users" "[I", Cond.fieldLink RX1 18 "NameRolls$Roll" "years" "[I", Cond.fieldLink RX1 21 "NameRolls$Roll" "cells" "[I", Cond.fieldLink RX1 60 "NameRolls$Roll" "epoch" "I", Cond.fieldLink RX1 64 "NameRolls$Roll" "gained" "I", Cond.fieldLink RX1 67 "NameRolls$Roll" "lost" "I", Cond.fieldLink RX1 24 "NameRolls$Roll" "rules" "[I", Cond.fieldLink RX1 27 "NameRolls$Roll" "namesThen" "[I", Cond.fieldLink RX1 30 "NameRolls$Roll" "movedThen" "[I", Cond.fieldLink RX1 33 "NameRolls$Roll" "yearsThen" "[I", Cond.fieldLink RX1 36 "NameRolls$Roll" "numbersBehind" "[I"]
def wsX3_recordState_r2 : List Cond := [Cond.fieldLink RX1 39 "NameRolls$Roll" "yearsBehind" "[I"]
def wsX3_recordState : List Cond := .code yX3_recordState cX3_recordState 3 none :: ((wsX3_recordState_r1 ++ wsX3_recordState_r2) ++ wsX30 ++ wsX10)
def wsX3_acquire_r1 : List Cond := [Cond.constant RX3 38 (-1000001), Cond.fieldLink RX3 10 "NameRolls" "now" "LNameRolls$Roll;", Cond.constant RX3 42 (-1000003), Cond.methodLink RX3 34 yX3_isName, Cond.static yX3_isName, Cond.initialized RX3, Cond.code yX3_isName cX3_isName 3 (some .boolean), Cond.constant RX3 193 (387420488), Cond.methodLink RX3 39 yX1_hasRoomFor, Cond.instanceMethod yX1_hasRoomFor, Cond.selects RX1 yX1_hasRoomFor yX1_hasRoomFor, Cond.initialized RX1, Cond.code yX1_hasRoomFor cX1_hasRoomFor 3 (some .boolean), Cond.methodLink RX1 80 yX1_numberWith, Cond.instanceMethod yX1_numberWith, Cond.selects RX1 yX1_numberWith yX1_numberWith, Cond.code yX1_numberWith cX1_numberWith 3 (some .int), Cond.fieldLink RX1 9 "NameRolls$Roll" "names" "[I", Cond.methodLink RX1 84 yX1_hasRoomForUser, Cond.instanceMethod yX1_hasRoomForUser, Cond.selects RX1 yX1_hasRoomForUser yX1_hasRoomForUser, Cond.code yX1_hasRoomForUser cX1_hasRoomForUser 2 (some .boolean), Cond.fieldLink RX1 15 "NameRolls$Roll" "users" "[I", Cond.static yX3_isBelow]
def wsX3_acquire_r2 : List Cond := [Cond.code yX3_isBelow cX3_isBelow 2 (some .boolean), Cond.methodLink RX3 43 yX3_recordState, Cond.instanceMethod yX3_recordState, Cond.selects RX3 yX3_recordState yX3_recordState, Cond.code yX3_recordState cX3_recordState 3 none, Cond.fieldLink RX3 160 "NameRolls" "states" "I", Cond.fieldLink RX3 16 "NameRolls" "past" "[LNameRolls$Roll;", Cond.methodLink RX3 166 yX1_copyFrom, Cond.instanceMethod yX1_copyFrom, Cond.selects RX1 yX1_copyFrom yX1_copyFrom, Cond.code yX1_copyFrom cX1_copyFrom 2 none, Cond.methodLink RX1 54 arraycopyName, Cond.native arraycopyName, Cond.static arraycopyName, Cond.initialized "java/lang/System", Cond.fieldLink RX1 18 "NameRolls$Roll" "years" "[I", Cond.fieldLink RX1 21 "NameRolls$Roll" "cells" "[I", Cond.fieldLink RX1 60 "NameRolls$Roll" "epoch" "I", Cond.fieldLink RX1 64 "NameRolls$Roll" "gained" "I", Cond.fieldLink RX1 67 "NameRolls$Roll" "lost" "I", Cond.fieldLink RX1 24 "NameRolls$Roll" "rules" "[I", Cond.fieldLink RX1 27 "NameRolls$Roll" "namesThen" "[I", Cond.fieldLink RX1 30 "NameRolls$Roll" "movedThen" "[I", Cond.fieldLink RX1 33 "NameRolls$Roll" "yearsThen" "[I"]
def wsX3_acquire_r3 : List Cond := [Cond.fieldLink RX1 36 "NameRolls$Roll" "numbersBehind" "[I", Cond.fieldLink RX1 39 "NameRolls$Roll" "yearsBehind" "[I", Cond.methodLink RX3 46 yX1_enter, Cond.instanceMethod yX1_enter, Cond.selects RX1 yX1_enter yX1_enter, Cond.code yX1_enter cX1_enter 3 (some .int), Cond.methodLink RX1 88 yX1_addUser, Cond.instanceMethod yX1_addUser, Cond.selects RX1 yX1_addUser yX1_addUser, Cond.code yX1_addUser cX1_addUser 2 (some .int), Cond.methodLink RX3 50 yX1_tagOf, Cond.instanceMethod yX1_tagOf, Cond.selects RX1 yX1_tagOf yX1_tagOf, Cond.code yX1_tagOf cX1_tagOf 2 (some .int), Cond.constant RX1 78 (-1000004), Cond.methodLink RX1 74 yX1_tagIn, Cond.static yX1_tagIn, Cond.code yX1_tagIn cX1_tagIn 3 (some .int), Cond.constant RX1 79 (1000000)]
def wsX3_acquire : List Cond := .code yX3_acquire cX3_acquire 2 (some .int) :: ((wsX3_acquire_r1 ++ (wsX3_acquire_r2 ++ wsX3_acquire_r3)) ++ wsX30 ++ wsX10)
def wsX3_use_r1 : List Cond := [Cond.fieldLink RX3 10 "NameRolls" "now" "LNameRolls$Roll;", Cond.constant RX3 56 (-1000005), Cond.constant RX3 42 (-1000003), Cond.methodLink RX3 53 yX1_standing, Cond.instanceMethod yX1_standing, Cond.selects RX1 yX1_standing yX1_standing, Cond.initialized RX1, Cond.code yX1_standing cX1_standing 8 (some .int), Cond.constant RX1 79 (1000000), Cond.fieldLink RX1 60 "NameRolls$Roll" "epoch" "I", Cond.fieldLink RX1 36 "NameRolls$Roll" "numbersBehind" "[I", Cond.fieldLink RX1 33 "NameRolls$Roll" "yearsThen" "[I", Cond.fieldLink RX1 39 "NameRolls$Roll" "yearsBehind" "[I", Cond.fieldLink RX1 9 "NameRolls$Roll" "names" "[I", Cond.fieldLink RX1 18 "NameRolls$Roll" "years" "[I", Cond.static yX3_isBelow, Cond.initialized RX3, Cond.code yX3_isBelow cX3_isBelow 2 (some .boolean), Cond.methodLink RX3 57 yX1_hasRoomForUser, Cond.instanceMethod yX1_hasRoomForUser, Cond.selects RX1 yX1_hasRoomForUser yX1_hasRoomForUser, Cond.code yX1_hasRoomForUser cX1_hasRoomForUser 2 (some .boolean), Cond.fieldLink RX1 15 "NameRolls$Roll" "users" "[I", Cond.methodLink RX3 43 yX3_recordState]
def wsX3_use_r2 : List Cond := [Cond.instanceMethod yX3_recordState, Cond.selects RX3 yX3_recordState yX3_recordState, Cond.code yX3_recordState cX3_recordState 3 none, Cond.fieldLink RX3 160 "NameRolls" "states" "I", Cond.fieldLink RX3 16 "NameRolls" "past" "[LNameRolls$Roll;", Cond.methodLink RX3 166 yX1_copyFrom, Cond.instanceMethod yX1_copyFrom, Cond.selects RX1 yX1_copyFrom yX1_copyFrom, Cond.code yX1_copyFrom cX1_copyFrom 2 none, Cond.methodLink RX1 54 arraycopyName, Cond.native arraycopyName, Cond.static arraycopyName, Cond.initialized "java/lang/System", Cond.fieldLink RX1 21 "NameRolls$Roll" "cells" "[I", Cond.fieldLink RX1 64 "NameRolls$Roll" "gained" "I", Cond.fieldLink RX1 67 "NameRolls$Roll" "lost" "I", Cond.fieldLink RX1 24 "NameRolls$Roll" "rules" "[I", Cond.fieldLink RX1 27 "NameRolls$Roll" "namesThen" "[I", Cond.fieldLink RX1 30 "NameRolls$Roll" "movedThen" "[I", Cond.methodLink RX3 60 yX1_addUser, Cond.instanceMethod yX1_addUser, Cond.selects RX1 yX1_addUser yX1_addUser, Cond.code yX1_addUser cX1_addUser 2 (some .int)]
def wsX3_use : List Cond := .code yX3_use cX3_use 3 (some .int) :: ((wsX3_use_r1 ++ wsX3_use_r2) ++ wsX30 ++ wsX10)
def wsX3_release_r1 : List Cond := [Cond.fieldLink RX3 10 "NameRolls" "now" "LNameRolls$Roll;", Cond.constant RX3 56 (-1000005), Cond.constant RX3 66 (-1000002), Cond.methodLink RX3 53 yX1_standing, Cond.instanceMethod yX1_standing, Cond.selects RX1 yX1_standing yX1_standing, Cond.initialized RX1, Cond.code yX1_standing cX1_standing 8 (some .int), Cond.constant RX1 79 (1000000), Cond.fieldLink RX1 60 "NameRolls$Roll" "epoch" "I", Cond.fieldLink RX1 36 "NameRolls$Roll" "numbersBehind" "[I", Cond.fieldLink RX1 33 "NameRolls$Roll" "yearsThen" "[I", Cond.fieldLink RX1 39 "NameRolls$Roll" "yearsBehind" "[I", Cond.fieldLink RX1 9 "NameRolls$Roll" "names" "[I", Cond.fieldLink RX1 18 "NameRolls$Roll" "years" "[I", Cond.static yX3_isBelow, Cond.initialized RX3, Cond.code yX3_isBelow cX3_isBelow 2 (some .boolean), Cond.methodLink RX3 63 yX1_hasFreeUser, Cond.instanceMethod yX1_hasFreeUser, Cond.selects RX1 yX1_hasFreeUser yX1_hasFreeUser, Cond.code yX1_hasFreeUser cX1_hasFreeUser 2 (some .boolean), Cond.fieldLink RX1 15 "NameRolls$Roll" "users" "[I", Cond.methodLink RX1 91 yX1_cellsWith]
def wsX3_release_r2 : List Cond := [Cond.instanceMethod yX1_cellsWith, Cond.selects RX1 yX1_cellsWith yX1_cellsWith, Cond.code yX1_cellsWith cX1_cellsWith 4 (some .int), Cond.fieldLink RX1 21 "NameRolls$Roll" "cells" "[I", Cond.methodLink RX3 43 yX3_recordState, Cond.instanceMethod yX3_recordState, Cond.selects RX3 yX3_recordState yX3_recordState, Cond.code yX3_recordState cX3_recordState 3 none, Cond.fieldLink RX3 160 "NameRolls" "states" "I", Cond.fieldLink RX3 16 "NameRolls" "past" "[LNameRolls$Roll;", Cond.methodLink RX3 166 yX1_copyFrom, Cond.instanceMethod yX1_copyFrom, Cond.selects RX1 yX1_copyFrom yX1_copyFrom, Cond.code yX1_copyFrom cX1_copyFrom 2 none, Cond.methodLink RX1 54 arraycopyName, Cond.native arraycopyName, Cond.static arraycopyName, Cond.initialized "java/lang/System", Cond.fieldLink RX1 64 "NameRolls$Roll" "gained" "I", Cond.fieldLink RX1 67 "NameRolls$Roll" "lost" "I", Cond.fieldLink RX1 24 "NameRolls$Roll" "rules" "[I", Cond.fieldLink RX1 27 "NameRolls$Roll" "namesThen" "[I", Cond.fieldLink RX1 30 "NameRolls$Roll" "movedThen" "[I", Cond.methodLink RX3 67 yX1_giveBack]
def wsX3_release_r3 : List Cond := [Cond.instanceMethod yX1_giveBack, Cond.selects RX1 yX1_giveBack yX1_giveBack, Cond.code yX1_giveBack cX1_giveBack 2 (some .int)]
def wsX3_release : List Cond := .code yX3_release cX3_release 3 (some .int) :: ((wsX3_release_r1 ++ (wsX3_release_r2 ++ wsX3_release_r3)) ++ wsX30 ++ wsX10)
def wsX3_follow_r1 : List Cond := [Cond.fieldLink RX3 10 "NameRolls" "now" "LNameRolls$Roll;", Cond.constant RX3 56 (-1000005), Cond.methodLink RX3 53 yX1_standing, Cond.instanceMethod yX1_standing, Cond.selects RX1 yX1_standing yX1_standing, Cond.initialized RX1, Cond.code yX1_standing cX1_standing 8 (some .int), Cond.constant RX1 79 (1000000), Cond.fieldLink RX1 60 "NameRolls$Roll" "epoch" "I", Cond.fieldLink RX1 36 "NameRolls$Roll" "numbersBehind" "[I", Cond.fieldLink RX1 33 "NameRolls$Roll" "yearsThen" "[I", Cond.fieldLink RX1 39 "NameRolls$Roll" "yearsBehind" "[I", Cond.fieldLink RX1 9 "NameRolls$Roll" "names" "[I", Cond.fieldLink RX1 18 "NameRolls$Roll" "years" "[I", Cond.static yX3_isBelow, Cond.initialized RX3, Cond.code yX3_isBelow cX3_isBelow 2 (some .boolean), Cond.methodLink RX3 50 yX1_tagOf, Cond.instanceMethod yX1_tagOf, Cond.selects RX1 yX1_tagOf yX1_tagOf, Cond.code yX1_tagOf cX1_tagOf 2 (some .int), Cond.constant RX1 78 (-1000004), Cond.methodLink RX1 74 yX1_tagIn, Cond.static yX1_tagIn]
def wsX3_follow_r2 : List Cond := [Cond.code yX1_tagIn cX1_tagIn 3 (some .int)]
def wsX3_follow : List Cond := .code yX3_follow cX3_follow 3 (some .int) :: ((wsX3_follow_r1 ++ wsX3_follow_r2) ++ wsX30 ++ wsX10)
def wsX3_nameOf : List Cond := .code yX3_nameOf cX3_nameOf 3 (some .int) :: ([.fieldLink RX3 10 "NameRolls" "now" "LNameRolls$Roll;", .constant RX3 56 (-1000005), .fieldLink RX3 70 "NameRolls$Roll" "names" "[I", .methodLink RX3 53 yX1_standing, .instanceMethod yX1_standing, .selects RX1 yX1_standing yX1_standing, .initialized RX1, .code yX1_standing cX1_standing 8 (some .int), .constant RX1 79 (1000000), .fieldLink RX1 60 "NameRolls$Roll" "epoch" "I", .fieldLink RX1 36 "NameRolls$Roll" "numbersBehind" "[I", .fieldLink RX1 33 "NameRolls$Roll" "yearsThen" "[I", .fieldLink RX1 39 "NameRolls$Roll" "yearsBehind" "[I", .fieldLink RX1 9 "NameRolls$Roll" "names" "[I", .fieldLink RX1 18 "NameRolls$Roll" "years" "[I", .static yX3_isBelow, .initialized RX3, .code yX3_isBelow cX3_isBelow 2 (some .boolean)] ++ wsX30 ++ wsX10)
def wsX3_why : List Cond := .code yX3_why cX3_why 3 (some .int) :: ([.fieldLink RX3 10 "NameRolls" "now" "LNameRolls$Roll;", .methodLink RX3 53 yX1_standing, .instanceMethod yX1_standing, .selects RX1 yX1_standing yX1_standing, .initialized RX1, .code yX1_standing cX1_standing 8 (some .int), .constant RX1 79 (1000000), .fieldLink RX1 60 "NameRolls$Roll" "epoch" "I", .fieldLink RX1 36 "NameRolls$Roll" "numbersBehind" "[I", .fieldLink RX1 33 "NameRolls$Roll" "yearsThen" "[I", .fieldLink RX1 39 "NameRolls$Roll" "yearsBehind" "[I", .fieldLink RX1 9 "NameRolls$Roll" "names" "[I", .fieldLink RX1 18 "NameRolls$Roll" "years" "[I", .static yX3_isBelow, .initialized RX3, .code yX3_isBelow cX3_isBelow 2 (some .boolean)] ++ wsX30 ++ wsX10)
def wsX3_isCell : List Cond := .code yX3_isCell cX3_isCell 2 (some .boolean) :: ([.methodLink RX3 92 yX3_isBelow, .static yX3_isBelow, .initialized RX3, .code yX3_isBelow cX3_isBelow 2 (some .boolean)])
def wsX3_put_r1 : List Cond := [Cond.constant RX3 38 (-1000001), Cond.fieldLink RX3 10 "NameRolls" "now" "LNameRolls$Roll;", Cond.constant RX3 56 (-1000005), Cond.constant RX3 42 (-1000003), Cond.methodLink RX3 74 yX3_isCell, Cond.static yX3_isCell, Cond.initialized RX3, Cond.code yX3_isCell cX3_isCell 2 (some .boolean), Cond.methodLink RX3 92 yX3_isBelow, Cond.static yX3_isBelow, Cond.code yX3_isBelow cX3_isBelow 2 (some .boolean), Cond.methodLink RX3 53 yX1_standing, Cond.instanceMethod yX1_standing, Cond.selects RX1 yX1_standing yX1_standing, Cond.initialized RX1, Cond.code yX1_standing cX1_standing 8 (some .int), Cond.constant RX1 79 (1000000), Cond.fieldLink RX1 60 "NameRolls$Roll" "epoch" "I", Cond.fieldLink RX1 36 "NameRolls$Roll" "numbersBehind" "[I", Cond.fieldLink RX1 33 "NameRolls$Roll" "yearsThen" "[I", Cond.fieldLink RX1 39 "NameRolls$Roll" "yearsBehind" "[I", Cond.fieldLink RX1 9 "NameRolls$Roll" "names" "[I", Cond.fieldLink RX1 18 "NameRolls$Roll" "years" "[I", Cond.methodLink RX3 57 yX1_hasRoomForUser]
def wsX3_put_r2 : List Cond := [Cond.instanceMethod yX1_hasRoomForUser, Cond.selects RX1 yX1_hasRoomForUser yX1_hasRoomForUser, Cond.code yX1_hasRoomForUser cX1_hasRoomForUser 2 (some .boolean), Cond.fieldLink RX1 15 "NameRolls$Roll" "users" "[I", Cond.methodLink RX3 43 yX3_recordState, Cond.instanceMethod yX3_recordState, Cond.selects RX3 yX3_recordState yX3_recordState, Cond.code yX3_recordState cX3_recordState 3 none, Cond.fieldLink RX3 160 "NameRolls" "states" "I", Cond.fieldLink RX3 16 "NameRolls" "past" "[LNameRolls$Roll;", Cond.methodLink RX3 166 yX1_copyFrom, Cond.instanceMethod yX1_copyFrom, Cond.selects RX1 yX1_copyFrom yX1_copyFrom, Cond.code yX1_copyFrom cX1_copyFrom 2 none, Cond.methodLink RX1 54 arraycopyName, Cond.native arraycopyName, Cond.static arraycopyName, Cond.initialized "java/lang/System", Cond.fieldLink RX1 21 "NameRolls$Roll" "cells" "[I", Cond.fieldLink RX1 64 "NameRolls$Roll" "gained" "I", Cond.fieldLink RX1 67 "NameRolls$Roll" "lost" "I", Cond.fieldLink RX1 24 "NameRolls$Roll" "rules" "[I", Cond.fieldLink RX1 27 "NameRolls$Roll" "namesThen" "[I", Cond.fieldLink RX1 30 "NameRolls$Roll" "movedThen" "[I"]
def wsX3_put_r3 : List Cond := [Cond.methodLink RX3 78 yX3_cellIndex, Cond.static yX3_cellIndex, Cond.code yX3_cellIndex cX3_cellIndex 2 (some .int), Cond.methodLink RX3 82 yX1_fillCell, Cond.instanceMethod yX1_fillCell, Cond.selects RX1 yX1_fillCell yX1_fillCell, Cond.code yX1_fillCell cX1_fillCell 3 (some .int), Cond.methodLink RX1 88 yX1_addUser, Cond.instanceMethod yX1_addUser, Cond.selects RX1 yX1_addUser yX1_addUser, Cond.code yX1_addUser cX1_addUser 2 (some .int), Cond.methodLink RX1 94 yX1_giveBack, Cond.instanceMethod yX1_giveBack, Cond.selects RX1 yX1_giveBack yX1_giveBack, Cond.code yX1_giveBack cX1_giveBack 2 (some .int)]
def wsX3_put : List Cond := .code yX3_put cX3_put 5 (some .int) :: ((wsX3_put_r1 ++ (wsX3_put_r2 ++ wsX3_put_r3)) ++ wsX30 ++ wsX10)
def wsX3_clear_r1 : List Cond := [Cond.constant RX3 38 (-1000001), Cond.fieldLink RX3 10 "NameRolls" "now" "LNameRolls$Roll;", Cond.fieldLink RX3 85 "NameRolls$Roll" "cells" "[I", Cond.constant RX3 66 (-1000002), Cond.methodLink RX3 74 yX3_isCell, Cond.static yX3_isCell, Cond.initialized RX3, Cond.code yX3_isCell cX3_isCell 2 (some .boolean), Cond.methodLink RX3 92 yX3_isBelow, Cond.static yX3_isBelow, Cond.code yX3_isBelow cX3_isBelow 2 (some .boolean), Cond.methodLink RX3 78 yX3_cellIndex, Cond.static yX3_cellIndex, Cond.code yX3_cellIndex cX3_cellIndex 2 (some .int), Cond.methodLink RX3 43 yX3_recordState, Cond.instanceMethod yX3_recordState, Cond.selects RX3 yX3_recordState yX3_recordState, Cond.code yX3_recordState cX3_recordState 3 none, Cond.fieldLink RX3 160 "NameRolls" "states" "I", Cond.fieldLink RX3 16 "NameRolls" "past" "[LNameRolls$Roll;", Cond.methodLink RX3 166 yX1_copyFrom, Cond.instanceMethod yX1_copyFrom, Cond.selects RX1 yX1_copyFrom yX1_copyFrom, Cond.initialized RX1]
def wsX3_clear_r2 : List Cond := [Cond.code yX1_copyFrom cX1_copyFrom 2 none, Cond.fieldLink RX1 9 "NameRolls$Roll" "names" "[I", Cond.methodLink RX1 54 arraycopyName, Cond.native arraycopyName, Cond.static arraycopyName, Cond.initialized "java/lang/System", Cond.fieldLink RX1 15 "NameRolls$Roll" "users" "[I", Cond.fieldLink RX1 18 "NameRolls$Roll" "years" "[I", Cond.fieldLink RX1 21 "NameRolls$Roll" "cells" "[I", Cond.fieldLink RX1 60 "NameRolls$Roll" "epoch" "I", Cond.fieldLink RX1 64 "NameRolls$Roll" "gained" "I", Cond.fieldLink RX1 67 "NameRolls$Roll" "lost" "I", Cond.fieldLink RX1 24 "NameRolls$Roll" "rules" "[I", Cond.fieldLink RX1 27 "NameRolls$Roll" "namesThen" "[I", Cond.fieldLink RX1 30 "NameRolls$Roll" "movedThen" "[I", Cond.fieldLink RX1 33 "NameRolls$Roll" "yearsThen" "[I", Cond.fieldLink RX1 36 "NameRolls$Roll" "numbersBehind" "[I", Cond.fieldLink RX1 39 "NameRolls$Roll" "yearsBehind" "[I", Cond.methodLink RX3 88 yX1_emptyCell, Cond.instanceMethod yX1_emptyCell, Cond.selects RX1 yX1_emptyCell yX1_emptyCell, Cond.code yX1_emptyCell cX1_emptyCell 3 (some .int), Cond.methodLink RX1 94 yX1_giveBack, Cond.instanceMethod yX1_giveBack]
def wsX3_clear_r3 : List Cond := [Cond.selects RX1 yX1_giveBack yX1_giveBack, Cond.code yX1_giveBack cX1_giveBack 2 (some .int)]
def wsX3_clear : List Cond := .code yX3_clear cX3_clear 3 (some .int) :: ((wsX3_clear_r1 ++ (wsX3_clear_r2 ++ wsX3_clear_r3)) ++ wsX30 ++ wsX10)
def wsX3_cellOf_r1 : List Cond := [Cond.constant RX3 38 (-1000001), Cond.fieldLink RX3 10 "NameRolls" "now" "LNameRolls$Roll;", Cond.fieldLink RX3 85 "NameRolls$Roll" "cells" "[I", Cond.constant RX3 91 (-1000004), Cond.methodLink RX3 74 yX3_isCell, Cond.static yX3_isCell, Cond.initialized RX3, Cond.code yX3_isCell cX3_isCell 2 (some .boolean), Cond.methodLink RX3 92 yX3_isBelow, Cond.static yX3_isBelow, Cond.code yX3_isBelow cX3_isBelow 2 (some .boolean), Cond.methodLink RX3 78 yX3_cellIndex, Cond.static yX3_cellIndex, Cond.code yX3_cellIndex cX3_cellIndex 2 (some .int), Cond.methodLink RX3 50 yX1_tagOf, Cond.instanceMethod yX1_tagOf, Cond.selects RX1 yX1_tagOf yX1_tagOf, Cond.initialized RX1, Cond.code yX1_tagOf cX1_tagOf 2 (some .int), Cond.fieldLink RX1 60 "NameRolls$Roll" "epoch" "I", Cond.fieldLink RX1 18 "NameRolls$Roll" "years" "[I", Cond.constant RX1 78 (-1000004), Cond.methodLink RX1 74 yX1_tagIn, Cond.static yX1_tagIn]
def wsX3_cellOf_r2 : List Cond := [Cond.code yX1_tagIn cX1_tagIn 3 (some .int), Cond.constant RX1 79 (1000000)]
def wsX3_cellOf : List Cond := .code yX3_cellOf cX3_cellOf 4 (some .int) :: ((wsX3_cellOf_r1 ++ wsX3_cellOf_r2) ++ wsX30 ++ wsX10)
def wsX3_compact_r1 : List Cond := [Cond.constant RX3 38 (-1000001), Cond.fieldLink RX3 10 "NameRolls" "now" "LNameRolls$Roll;", Cond.constant RX3 42 (-1000003), Cond.methodLink RX3 92 yX3_isBelow, Cond.static yX3_isBelow, Cond.initialized RX3, Cond.code yX3_isBelow cX3_isBelow 2 (some .boolean), Cond.methodLink RX3 95 yX1_hasNextEpoch, Cond.instanceMethod yX1_hasNextEpoch, Cond.selects RX1 yX1_hasNextEpoch yX1_hasNextEpoch, Cond.initialized RX1, Cond.code yX1_hasNextEpoch cX1_hasNextEpoch 1 (some .boolean), Cond.fieldLink RX1 60 "NameRolls$Roll" "epoch" "I", Cond.methodLink RX3 43 yX3_recordState, Cond.instanceMethod yX3_recordState, Cond.selects RX3 yX3_recordState yX3_recordState, Cond.code yX3_recordState cX3_recordState 3 none, Cond.fieldLink RX3 160 "NameRolls" "states" "I", Cond.fieldLink RX3 16 "NameRolls" "past" "[LNameRolls$Roll;", Cond.methodLink RX3 166 yX1_copyFrom, Cond.instanceMethod yX1_copyFrom, Cond.selects RX1 yX1_copyFrom yX1_copyFrom, Cond.code yX1_copyFrom cX1_copyFrom 2 none, Cond.fieldLink RX1 9 "NameRolls$Roll" "names" "[I"]
def wsX3_compact_r2 : List Cond := [Cond.methodLink RX1 54 arraycopyName, Cond.native arraycopyName, Cond.static arraycopyName, Cond.initialized "java/lang/System", Cond.fieldLink RX1 15 "NameRolls$Roll" "users" "[I", Cond.fieldLink RX1 18 "NameRolls$Roll" "years" "[I", Cond.fieldLink RX1 21 "NameRolls$Roll" "cells" "[I", Cond.fieldLink RX1 64 "NameRolls$Roll" "gained" "I", Cond.fieldLink RX1 67 "NameRolls$Roll" "lost" "I", Cond.fieldLink RX1 24 "NameRolls$Roll" "rules" "[I", Cond.fieldLink RX1 27 "NameRolls$Roll" "namesThen" "[I", Cond.fieldLink RX1 30 "NameRolls$Roll" "movedThen" "[I", Cond.fieldLink RX1 33 "NameRolls$Roll" "yearsThen" "[I", Cond.fieldLink RX1 36 "NameRolls$Roll" "numbersBehind" "[I", Cond.fieldLink RX1 39 "NameRolls$Roll" "yearsBehind" "[I", Cond.methodLink RX3 99 yX1_giveAnew, Cond.instanceMethod yX1_giveAnew, Cond.selects RX1 yX1_giveAnew yX1_giveAnew, Cond.code yX1_giveAnew cX1_giveAnew 7 (some .int), Cond.methodLink RX1 104 yX1_placeOf, Cond.instanceMethod yX1_placeOf, Cond.selects RX1 yX1_placeOf yX1_placeOf, Cond.code yX1_placeOf cX1_placeOf 5 (some .int), Cond.methodLink RX1 97 yX1_isAhead]
def wsX3_compact_r3 : List Cond := [Cond.instanceMethod yX1_isAhead, Cond.selects RX1 yX1_isAhead yX1_isAhead, Cond.code yX1_isAhead cX1_isAhead 4 (some .boolean), Cond.static yX3_orderKey, Cond.code yX3_orderKey cX3_orderKey 3 (some .int), Cond.constant RX3 194 (14348907), Cond.methodLink RX1 108 yX1_namesBelow, Cond.instanceMethod yX1_namesBelow, Cond.selects RX1 yX1_namesBelow yX1_namesBelow, Cond.code yX1_namesBelow cX1_namesBelow 4 (some .int), Cond.methodLink RX1 111 yX1_moveNames, Cond.instanceMethod yX1_moveNames, Cond.selects RX1 yX1_moveNames yX1_moveNames, Cond.code yX1_moveNames cX1_moveNames 4 none, Cond.fieldLink RX1 42 "NameRolls$Roll" "oldNames" "[I", Cond.fieldLink RX1 45 "NameRolls$Roll" "oldUsers" "[I", Cond.methodLink RX1 48 yJ7_fill_53178, Cond.static yJ7_fill_53178, Cond.initialized RJ7, Cond.code yJ7_fill_53178 cJ7_fill_53178 4 none, Cond.methodLink RX1 115 yX1_moveCells, Cond.instanceMethod yX1_moveCells, Cond.selects RX1 yX1_moveCells yX1_moveCells, Cond.code yX1_moveCells cX1_moveCells 3 none]
def wsX3_compact : List Cond := .code yX3_compact cX3_compact 2 (some .int) :: ((wsX3_compact_r1 ++ (wsX3_compact_r2 ++ wsX3_compact_r3)) ++ wsX30 ++ wsX10)
def wsX3_numberOf_r1 : List Cond := [Cond.constant RX3 38 (-1000001), Cond.fieldLink RX3 10 "NameRolls" "now" "LNameRolls$Roll;", Cond.fieldLink RX3 70 "NameRolls$Roll" "names" "[I", Cond.constant RX3 91 (-1000004), Cond.fieldLink RX3 102 "NameRolls$Roll" "users" "[I", Cond.fieldLink RX3 108 "NameRolls$Roll" "years" "[I", Cond.methodLink RX3 92 yX3_isBelow, Cond.static yX3_isBelow, Cond.initialized RX3, Cond.code yX3_isBelow cX3_isBelow 2 (some .boolean), Cond.methodLink RX3 105 yX1_cellsWith, Cond.instanceMethod yX1_cellsWith, Cond.selects RX1 yX1_cellsWith yX1_cellsWith, Cond.initialized RX1, Cond.code yX1_cellsWith cX1_cellsWith 4 (some .int), Cond.fieldLink RX1 21 "NameRolls$Roll" "cells" "[I", Cond.methodLink RX3 50 yX1_tagOf, Cond.instanceMethod yX1_tagOf, Cond.selects RX1 yX1_tagOf yX1_tagOf, Cond.code yX1_tagOf cX1_tagOf 2 (some .int), Cond.fieldLink RX1 60 "NameRolls$Roll" "epoch" "I", Cond.fieldLink RX1 18 "NameRolls$Roll" "years" "[I", Cond.constant RX1 78 (-1000004), Cond.methodLink RX1 74 yX1_tagIn]
def wsX3_numberOf_r2 : List Cond := [Cond.static yX1_tagIn, Cond.code yX1_tagIn cX1_tagIn 3 (some .int), Cond.constant RX1 79 (1000000)]
def wsX3_numberOf : List Cond := .code yX3_numberOf cX3_numberOf 4 (some .int) :: ((wsX3_numberOf_r1 ++ wsX3_numberOf_r2) ++ wsX30 ++ wsX10)
def wsX3_find : List Cond := .code yX3_find cX3_find 3 (some .int) :: ([.constant RX3 38 (-1000001), .fieldLink RX3 10 "NameRolls" "now" "LNameRolls$Roll;", .constant RX3 91 (-1000004), .methodLink RX3 34 yX3_isName, .static yX3_isName, .initialized RX3, .code yX3_isName cX3_isName 3 (some .boolean), .constant RX3 193 (387420488), .methodLink RX3 111 yX1_numberWith, .instanceMethod yX1_numberWith, .selects RX1 yX1_numberWith yX1_numberWith, .initialized RX1, .code yX1_numberWith cX1_numberWith 3 (some .int), .fieldLink RX1 9 "NameRolls$Roll" "names" "[I"] ++ wsX30 ++ wsX10)
def wsX3_nameAt : List Cond := .code yX3_nameAt cX3_nameAt 4 (some .int) :: ([.constant RX3 38 (-1000001), .fieldLink RX3 10 "NameRolls" "now" "LNameRolls$Roll;", .fieldLink RX3 70 "NameRolls$Roll" "names" "[I", .constant RX3 91 (-1000004), .methodLink RX3 92 yX3_isBelow, .static yX3_isBelow, .initialized RX3, .code yX3_isBelow cX3_isBelow 2 (some .boolean), .methodLink RX3 114 yX1_placeOf, .instanceMethod yX1_placeOf, .selects RX1 yX1_placeOf yX1_placeOf, .initialized RX1, .code yX1_placeOf cX1_placeOf 5 (some .int), .fieldLink RX1 9 "NameRolls$Roll" "names" "[I", .methodLink RX1 97 yX1_isAhead, .instanceMethod yX1_isAhead, .selects RX1 yX1_isAhead yX1_isAhead, .code yX1_isAhead cX1_isAhead 4 (some .boolean), .fieldLink RX1 15 "NameRolls$Roll" "users" "[I", .static yX3_orderKey, .code yX3_orderKey cX3_orderKey 3 (some .int), .constant RX3 194 (14348907)] ++ wsX30 ++ wsX10)
def wsX3_beginsWith : List Cond := .code yX3_beginsWith cX3_beginsWith 4 (some .boolean) :: ([])
def wsX3_beginning : List Cond := .code yX3_beginning cX3_beginning 4 (some .int) :: ([.constant RX3 38 (-1000001), .fieldLink RX3 10 "NameRolls" "now" "LNameRolls$Roll;", .fieldLink RX3 70 "NameRolls$Roll" "names" "[I", .methodLink RX3 34 yX3_isName, .static yX3_isName, .initialized RX3, .code yX3_isName cX3_isName 3 (some .boolean), .constant RX3 193 (387420488), .methodLink RX3 117 yX3_beginsWith, .static yX3_beginsWith, .code yX3_beginsWith cX3_beginsWith 4 (some .boolean)] ++ wsX30 ++ wsX10)
def wsX3_behind : List Cond := .code yX3_behind cX3_behind 7 (some .int) :: ([.constant RX3 38 (-1000001), .fieldLink RX3 10 "NameRolls" "now" "LNameRolls$Roll;", .fieldLink RX3 70 "NameRolls$Roll" "names" "[I", .constant RX3 91 (-1000004), .methodLink RX3 34 yX3_isName, .static yX3_isName, .initialized RX3, .code yX3_isName cX3_isName 3 (some .boolean), .constant RX3 193 (387420488), .methodLink RX3 120 yX3_orderKey, .static yX3_orderKey, .code yX3_orderKey cX3_orderKey 3 (some .int), .constant RX3 194 (14348907)] ++ wsX30 ++ wsX10)
def wsX3_wouldBe : List Cond := .code yX3_wouldBe cX3_wouldBe 3 (some .int) :: ([.constant RX3 38 (-1000001), .fieldLink RX3 10 "NameRolls" "now" "LNameRolls$Roll;", .fieldLink RX3 70 "NameRolls$Roll" "names" "[I", .constant RX3 91 (-1000004), .methodLink RX3 92 yX3_isBelow, .static yX3_isBelow, .initialized RX3, .code yX3_isBelow cX3_isBelow 2 (some .boolean), .methodLink RX3 114 yX1_placeOf, .instanceMethod yX1_placeOf, .selects RX1 yX1_placeOf yX1_placeOf, .initialized RX1, .code yX1_placeOf cX1_placeOf 5 (some .int), .fieldLink RX1 9 "NameRolls$Roll" "names" "[I", .methodLink RX1 97 yX1_isAhead, .instanceMethod yX1_isAhead, .selects RX1 yX1_isAhead yX1_isAhead, .code yX1_isAhead cX1_isAhead 4 (some .boolean), .fieldLink RX1 15 "NameRolls$Roll" "users" "[I", .static yX3_orderKey, .code yX3_orderKey cX3_orderKey 3 (some .int), .constant RX3 194 (14348907)] ++ wsX30 ++ wsX10)
def wsX3_compaction_r1 : List Cond := [Cond.constant RX3 38 (-1000001), Cond.fieldLink RX3 10 "NameRolls" "now" "LNameRolls$Roll;", Cond.fieldLink RX3 123 "NameRolls$Roll" "epoch" "I", Cond.constant RX3 91 (-1000004), Cond.fieldLink RX3 127 "NameRolls$Roll" "rules" "[I", Cond.fieldLink RX3 130 "NameRolls$Roll" "namesThen" "[I", Cond.fieldLink RX3 133 "NameRolls$Roll" "movedThen" "[I", Cond.methodLink RX3 92 yX3_isBelow, Cond.static yX3_isBelow, Cond.initialized RX3, Cond.code yX3_isBelow cX3_isBelow 2 (some .boolean), Cond.methodLink RX3 136 yX1_stillStanding, Cond.instanceMethod yX1_stillStanding, Cond.selects RX1 yX1_stillStanding yX1_stillStanding, Cond.initialized RX1, Cond.code yX1_stillStanding cX1_stillStanding 6 (some .int), Cond.fieldLink RX1 36 "NameRolls$Roll" "numbersBehind" "[I", Cond.fieldLink RX1 33 "NameRolls$Roll" "yearsThen" "[I", Cond.methodLink RX1 74 yX1_tagIn, Cond.static yX1_tagIn, Cond.code yX1_tagIn cX1_tagIn 3 (some .int), Cond.constant RX1 79 (1000000), Cond.methodLink RX1 118 yX1_standing, Cond.instanceMethod yX1_standing]
def wsX3_compaction_r2 : List Cond := [Cond.selects RX1 yX1_standing yX1_standing, Cond.code yX1_standing cX1_standing 8 (some .int), Cond.fieldLink RX1 60 "NameRolls$Roll" "epoch" "I", Cond.fieldLink RX1 39 "NameRolls$Roll" "yearsBehind" "[I", Cond.fieldLink RX1 9 "NameRolls$Roll" "names" "[I", Cond.fieldLink RX1 18 "NameRolls$Roll" "years" "[I"]
def wsX3_compaction : List Cond := .code yX3_compaction cX3_compaction 4 (some .int) :: ((wsX3_compaction_r1 ++ wsX3_compaction_r2) ++ wsX30 ++ wsX10)
def wsX3_count_r1 : List Cond := [Cond.fieldLink RX3 10 "NameRolls" "now" "LNameRolls$Roll;", Cond.fieldLink RX3 85 "NameRolls$Roll" "cells" "[I", Cond.fieldLink RX3 123 "NameRolls$Roll" "epoch" "I", Cond.fieldLink RX3 149 "NameRolls$Roll" "gained" "I", Cond.fieldLink RX3 152 "NameRolls$Roll" "lost" "I", Cond.methodLink RX3 155 Lib.Math.min.name, Cond.static Lib.Math.min.name, Cond.initialized "java/lang/Math", Cond.code Lib.Math.min.name Lib.Math.min.code 2 (some .int), Cond.fieldLink RX3 160 "NameRolls" "states" "I", Cond.fieldLink RX3 23 "NameRolls" "text" "LNameRolls$Text;", Cond.fieldLink RX3 163 "NameRolls$Text" "length" "I", Cond.constant RX3 38 (-1000001), Cond.methodLink RX3 139 yX1_namesBelow, Cond.instanceMethod yX1_namesBelow, Cond.selects RX1 yX1_namesBelow yX1_namesBelow, Cond.initialized RX1, Cond.code yX1_namesBelow cX1_namesBelow 4 (some .int), Cond.fieldLink RX1 9 "NameRolls$Roll" "names" "[I", Cond.methodLink RX3 142 yX1_usersOfAll, Cond.instanceMethod yX1_usersOfAll, Cond.selects RX1 yX1_usersOfAll yX1_usersOfAll, Cond.code yX1_usersOfAll cX1_usersOfAll 3 (some .int), Cond.fieldLink RX1 15 "NameRolls$Roll" "users" "[I"]
def wsX3_count_r2 : List Cond := [Cond.methodLink RX3 105 yX1_cellsWith, Cond.instanceMethod yX1_cellsWith, Cond.selects RX1 yX1_cellsWith yX1_cellsWith, Cond.code yX1_cellsWith cX1_cellsWith 4 (some .int), Cond.fieldLink RX1 21 "NameRolls$Roll" "cells" "[I", Cond.methodLink RX3 146 yX1_top, Cond.instanceMethod yX1_top, Cond.selects RX1 yX1_top yX1_top, Cond.code yX1_top cX1_top 2 (some .int)]
def wsX3_count : List Cond := .code yX3_count cX3_count 2 (some .int) :: ((wsX3_count_r1 ++ wsX3_count_r2) ++ wsX30 ++ wsX10 ++ wsX20)
def wsX3_undo_r1 : List Cond := [Cond.fieldLink RX3 160 "NameRolls" "states" "I", Cond.constant RX3 66 (-1000002), Cond.fieldLink RX3 10 "NameRolls" "now" "LNameRolls$Roll;", Cond.fieldLink RX3 16 "NameRolls" "past" "[LNameRolls$Roll;", Cond.methodLink RX3 166 yX1_copyFrom, Cond.instanceMethod yX1_copyFrom, Cond.selects RX1 yX1_copyFrom yX1_copyFrom, Cond.initialized RX1, Cond.code yX1_copyFrom cX1_copyFrom 2 none, Cond.fieldLink RX1 9 "NameRolls$Roll" "names" "[I", Cond.methodLink RX1 54 arraycopyName, Cond.native arraycopyName, Cond.static arraycopyName, Cond.initialized "java/lang/System", Cond.fieldLink RX1 15 "NameRolls$Roll" "users" "[I", Cond.fieldLink RX1 18 "NameRolls$Roll" "years" "[I", Cond.fieldLink RX1 21 "NameRolls$Roll" "cells" "[I", Cond.fieldLink RX1 60 "NameRolls$Roll" "epoch" "I", Cond.fieldLink RX1 64 "NameRolls$Roll" "gained" "I", Cond.fieldLink RX1 67 "NameRolls$Roll" "lost" "I", Cond.fieldLink RX1 24 "NameRolls$Roll" "rules" "[I", Cond.fieldLink RX1 27 "NameRolls$Roll" "namesThen" "[I", Cond.fieldLink RX1 30 "NameRolls$Roll" "movedThen" "[I", Cond.fieldLink RX1 33 "NameRolls$Roll" "yearsThen" "[I"]
def wsX3_undo_r2 : List Cond := [Cond.fieldLink RX1 36 "NameRolls$Roll" "numbersBehind" "[I", Cond.fieldLink RX1 39 "NameRolls$Roll" "yearsBehind" "[I"]
def wsX3_undo : List Cond := .code yX3_undo cX3_undo 1 (some .int) :: ((wsX3_undo_r1 ++ wsX3_undo_r2) ++ wsX30 ++ wsX10)
def wsX3_type : List Cond := .code yX3_type cX3_type 2 (some .int) :: ([.constant RX3 38 (-1000001), .fieldLink RX3 23 "NameRolls" "text" "LNameRolls$Text;", .fieldLink RX3 163 "NameRolls$Text" "length" "I", .constant RX3 42 (-1000003), .methodLink RX3 170 yX2_append, .instanceMethod yX2_append, .selects RX2 yX2_append yX2_append, .initialized RX2, .code yX2_append cX2_append 2 (some .int), .fieldLink RX2 15 "NameRolls$Text" "length" "I", .fieldLink RX2 9 "NameRolls$Text" "signs" "[C", .static yX3_isBelow, .initialized RX3, .code yX3_isBelow cX3_isBelow 2 (some .boolean)] ++ wsX30 ++ wsX20)
def wsX3_clearText : List Cond := .code yX3_clearText cX3_clearText 2 (some .int) :: ([.fieldLink RX3 23 "NameRolls" "text" "LNameRolls$Text;", .fieldLink RX3 163 "NameRolls$Text" "length" "I"] ++ wsX30 ++ wsX20)
def wsX3_fault_r1 : List Cond := [Cond.constant RX3 38 (-1000001), Cond.fieldLink RX3 30 "NameRolls" "player" "LNameRolls$Player;", Cond.fieldLink RX3 10 "NameRolls" "now" "LNameRolls$Roll;", Cond.fieldLink RX3 23 "NameRolls" "text" "LNameRolls$Text;", Cond.fieldLink RX3 178 "NameRolls$Player" "reason" "I", Cond.constant RX3 91 (-1000004), Cond.fieldLink RX3 181 "NameRolls$Player" "start" "I", Cond.fieldLink RX3 184 "NameRolls$Player" "cause" "I", Cond.methodLink RX3 92 yX3_isBelow, Cond.static yX3_isBelow, Cond.initialized RX3, Cond.code yX3_isBelow cX3_isBelow 2 (some .boolean), Cond.methodLink RX3 174 yX0_tryOn, Cond.instanceMethod yX0_tryOn, Cond.selects RX0 yX0_tryOn yX0_tryOn, Cond.initialized RX0, Cond.code yX0_tryOn cX0_tryOn 4 none, Cond.fieldLink RX0 12 "NameRolls$Player" "trial" "LNameRolls$Roll;", Cond.fieldLink RX0 22 "NameRolls$Player" "orders" "I", Cond.fieldLink RX0 26 "NameRolls$Player" "reason" "I", Cond.fieldLink RX0 29 "NameRolls$Player" "at" "I", Cond.fieldLink RX0 32 "NameRolls$Text" "length" "I", Cond.fieldLink RX0 37 "NameRolls$Player" "start" "I", Cond.methodLink RX0 18 yX1_copyFrom]
def wsX3_fault_r2 : List Cond := [Cond.instanceMethod yX1_copyFrom, Cond.selects RX1 yX1_copyFrom yX1_copyFrom, Cond.initialized RX1, Cond.code yX1_copyFrom cX1_copyFrom 2 none, Cond.fieldLink RX1 9 "NameRolls$Roll" "names" "[I", Cond.methodLink RX1 54 arraycopyName, Cond.native arraycopyName, Cond.static arraycopyName, Cond.initialized "java/lang/System", Cond.fieldLink RX1 15 "NameRolls$Roll" "users" "[I", Cond.fieldLink RX1 18 "NameRolls$Roll" "years" "[I", Cond.fieldLink RX1 21 "NameRolls$Roll" "cells" "[I", Cond.fieldLink RX1 60 "NameRolls$Roll" "epoch" "I", Cond.fieldLink RX1 64 "NameRolls$Roll" "gained" "I", Cond.fieldLink RX1 67 "NameRolls$Roll" "lost" "I", Cond.fieldLink RX1 24 "NameRolls$Roll" "rules" "[I", Cond.fieldLink RX1 27 "NameRolls$Roll" "namesThen" "[I", Cond.fieldLink RX1 30 "NameRolls$Roll" "movedThen" "[I", Cond.fieldLink RX1 33 "NameRolls$Roll" "yearsThen" "[I", Cond.fieldLink RX1 36 "NameRolls$Roll" "numbersBehind" "[I", Cond.fieldLink RX1 39 "NameRolls$Roll" "yearsBehind" "[I", Cond.methodLink RX0 40 yX0_readOrder, Cond.instanceMethod yX0_readOrder, Cond.selects RX0 yX0_readOrder yX0_readOrder]
def wsX3_fault_r3 : List Cond := [Cond.code yX0_readOrder cX0_readOrder 2 none, Cond.fieldLink RX0 54 "NameRolls$Player" "kind" "C", Cond.fieldLink RX0 58 "NameRolls$Player" "table" "I", Cond.fieldLink RX0 61 "NameRolls$Player" "cell" "I", Cond.fieldLink RX0 64 "NameRolls$Player" "rule" "I", Cond.fieldLink RX0 67 "NameRolls$Player" "letters" "I", Cond.fieldLink RX0 70 "NameRolls$Player" "name" "I", Cond.methodLink RX0 50 yX2_signAt, Cond.instanceMethod yX2_signAt, Cond.selects RX2 yX2_signAt yX2_signAt, Cond.initialized RX2, Cond.code yX2_signAt cX2_signAt 2 (some .char), Cond.fieldLink RX2 15 "NameRolls$Text" "length" "I", Cond.fieldLink RX2 9 "NameRolls$Text" "signs" "[C", Cond.methodLink RX0 73 yX0_readLetters, Cond.instanceMethod yX0_readLetters, Cond.selects RX0 yX0_readLetters yX0_readLetters, Cond.code yX0_readLetters cX0_readLetters 4 none, Cond.methodLink RX0 84 yX0_fail, Cond.instanceMethod yX0_fail, Cond.selects RX0 yX0_fail yX0_fail, Cond.code yX0_fail cX0_fail 3 none, Cond.fieldLink RX0 125 "NameRolls$Player" "cause" "I", Cond.methodLink RX0 76 yX0_readDigit]
def wsX3_fault_r4 : List Cond := [Cond.instanceMethod yX0_readDigit, Cond.selects RX0 yX0_readDigit yX0_readDigit, Cond.code yX0_readDigit cX0_readDigit 3 (some .int), Cond.methodLink RX0 80 yX0_readSign, Cond.instanceMethod yX0_readSign, Cond.selects RX0 yX0_readSign yX0_readSign, Cond.code yX0_readSign cX0_readSign 3 none, Cond.methodLink RX0 44 yX0_checkRanges, Cond.instanceMethod yX0_checkRanges, Cond.selects RX0 yX0_checkRanges yX0_checkRanges, Cond.code yX0_checkRanges cX0_checkRanges 1 none, Cond.methodLink RX0 47 yX0_carryOut, Cond.instanceMethod yX0_carryOut, Cond.selects RX0 yX0_carryOut yX0_carryOut, Cond.code yX0_carryOut cX0_carryOut 2 none, Cond.methodLink RX0 88 yX1_numberWith, Cond.instanceMethod yX1_numberWith, Cond.selects RX1 yX1_numberWith yX1_numberWith, Cond.code yX1_numberWith cX1_numberWith 3 (some .int), Cond.methodLink RX0 92 yX0_canCarryOut, Cond.instanceMethod yX0_canCarryOut, Cond.selects RX0 yX0_canCarryOut yX0_canCarryOut, Cond.code yX0_canCarryOut cX0_canCarryOut 2 (some .boolean), Cond.methodLink RX0 112 yX1_hasRoomFor]
def wsX3_fault_r5 : List Cond := [Cond.instanceMethod yX1_hasRoomFor, Cond.selects RX1 yX1_hasRoomFor yX1_hasRoomFor, Cond.code yX1_hasRoomFor cX1_hasRoomFor 3 (some .boolean), Cond.methodLink RX1 80 yX1_numberWith, Cond.methodLink RX1 84 yX1_hasRoomForUser, Cond.instanceMethod yX1_hasRoomForUser, Cond.selects RX1 yX1_hasRoomForUser yX1_hasRoomForUser, Cond.code yX1_hasRoomForUser cX1_hasRoomForUser 2 (some .boolean), Cond.methodLink RX0 115 yX1_hasFreeUser, Cond.instanceMethod yX1_hasFreeUser, Cond.selects RX1 yX1_hasFreeUser yX1_hasFreeUser, Cond.code yX1_hasFreeUser cX1_hasFreeUser 2 (some .boolean), Cond.methodLink RX1 91 yX1_cellsWith, Cond.instanceMethod yX1_cellsWith, Cond.selects RX1 yX1_cellsWith yX1_cellsWith, Cond.code yX1_cellsWith cX1_cellsWith 4 (some .int), Cond.methodLink RX0 118 yX1_hasRoomForUser, Cond.methodLink RX0 121 yX1_hasNextEpoch, Cond.instanceMethod yX1_hasNextEpoch, Cond.selects RX1 yX1_hasNextEpoch yX1_hasNextEpoch, Cond.code yX1_hasNextEpoch cX1_hasNextEpoch 1 (some .boolean), Cond.methodLink RX0 96 yX1_enter, Cond.instanceMethod yX1_enter, Cond.selects RX1 yX1_enter yX1_enter]
def wsX3_fault_r6 : List Cond := [Cond.code yX1_enter cX1_enter 3 (some .int), Cond.methodLink RX1 88 yX1_addUser, Cond.instanceMethod yX1_addUser, Cond.selects RX1 yX1_addUser yX1_addUser, Cond.code yX1_addUser cX1_addUser 2 (some .int), Cond.methodLink RX0 99 yX1_giveBack, Cond.instanceMethod yX1_giveBack, Cond.selects RX1 yX1_giveBack yX1_giveBack, Cond.code yX1_giveBack cX1_giveBack 2 (some .int), Cond.static yX3_cellIndex, Cond.code yX3_cellIndex cX3_cellIndex 2 (some .int), Cond.methodLink RX0 106 yX1_fillCell, Cond.instanceMethod yX1_fillCell, Cond.selects RX1 yX1_fillCell yX1_fillCell, Cond.code yX1_fillCell cX1_fillCell 3 (some .int), Cond.methodLink RX1 94 yX1_giveBack, Cond.methodLink RX0 109 yX1_giveAnew, Cond.instanceMethod yX1_giveAnew, Cond.selects RX1 yX1_giveAnew yX1_giveAnew, Cond.code yX1_giveAnew cX1_giveAnew 7 (some .int), Cond.methodLink RX1 104 yX1_placeOf, Cond.instanceMethod yX1_placeOf, Cond.selects RX1 yX1_placeOf yX1_placeOf, Cond.code yX1_placeOf cX1_placeOf 5 (some .int)]
def wsX3_fault_r7 : List Cond := [Cond.methodLink RX1 97 yX1_isAhead, Cond.instanceMethod yX1_isAhead, Cond.selects RX1 yX1_isAhead yX1_isAhead, Cond.code yX1_isAhead cX1_isAhead 4 (some .boolean), Cond.static yX3_orderKey, Cond.code yX3_orderKey cX3_orderKey 3 (some .int), Cond.constant RX3 194 (14348907), Cond.methodLink RX1 108 yX1_namesBelow, Cond.instanceMethod yX1_namesBelow, Cond.selects RX1 yX1_namesBelow yX1_namesBelow, Cond.code yX1_namesBelow cX1_namesBelow 4 (some .int), Cond.methodLink RX1 111 yX1_moveNames, Cond.instanceMethod yX1_moveNames, Cond.selects RX1 yX1_moveNames yX1_moveNames, Cond.code yX1_moveNames cX1_moveNames 4 none, Cond.fieldLink RX1 42 "NameRolls$Roll" "oldNames" "[I", Cond.fieldLink RX1 45 "NameRolls$Roll" "oldUsers" "[I", Cond.methodLink RX1 48 yJ7_fill_53178, Cond.static yJ7_fill_53178, Cond.initialized RJ7, Cond.code yJ7_fill_53178 cJ7_fill_53178 4 none, Cond.methodLink RX1 115 yX1_moveCells, Cond.instanceMethod yX1_moveCells, Cond.selects RX1 yX1_moveCells yX1_moveCells]
def wsX3_fault_r8 : List Cond := [Cond.code yX1_moveCells cX1_moveCells 3 none]
def wsX3_fault : List Cond := .code yX3_fault cX3_fault 2 (some .int) :: ((wsX3_fault_r1 ++ (wsX3_fault_r2 ++ (wsX3_fault_r3 ++ (wsX3_fault_r4 ++ (wsX3_fault_r5 ++ (wsX3_fault_r6 ++ (wsX3_fault_r7 ++ wsX3_fault_r8))))))) ++ wsX30 ++ wsX00 ++ wsX20 ++ wsX10)
def wsX3_play_r1 : List Cond := [Cond.fieldLink RX3 30 "NameRolls" "player" "LNameRolls$Player;", Cond.fieldLink RX3 10 "NameRolls" "now" "LNameRolls$Roll;", Cond.fieldLink RX3 23 "NameRolls" "text" "LNameRolls$Text;", Cond.fieldLink RX3 178 "NameRolls$Player" "reason" "I", Cond.constant RX3 66 (-1000002), Cond.fieldLink RX3 187 "NameRolls$Player" "trial" "LNameRolls$Roll;", Cond.fieldLink RX3 190 "NameRolls$Player" "orders" "I", Cond.methodLink RX3 174 yX0_tryOn, Cond.instanceMethod yX0_tryOn, Cond.selects RX0 yX0_tryOn yX0_tryOn, Cond.initialized RX0, Cond.code yX0_tryOn cX0_tryOn 4 none, Cond.fieldLink RX0 12 "NameRolls$Player" "trial" "LNameRolls$Roll;", Cond.fieldLink RX0 22 "NameRolls$Player" "orders" "I", Cond.fieldLink RX0 26 "NameRolls$Player" "reason" "I", Cond.fieldLink RX0 29 "NameRolls$Player" "at" "I", Cond.fieldLink RX0 32 "NameRolls$Text" "length" "I", Cond.fieldLink RX0 37 "NameRolls$Player" "start" "I", Cond.methodLink RX0 18 yX1_copyFrom, Cond.instanceMethod yX1_copyFrom, Cond.selects RX1 yX1_copyFrom yX1_copyFrom, Cond.initialized RX1, Cond.code yX1_copyFrom cX1_copyFrom 2 none, Cond.fieldLink RX1 9 "NameRolls$Roll" "names" "[I"]
def wsX3_play_r2 : List Cond := [Cond.methodLink RX1 54 arraycopyName, Cond.native arraycopyName, Cond.static arraycopyName, Cond.initialized "java/lang/System", Cond.fieldLink RX1 15 "NameRolls$Roll" "users" "[I", Cond.fieldLink RX1 18 "NameRolls$Roll" "years" "[I", Cond.fieldLink RX1 21 "NameRolls$Roll" "cells" "[I", Cond.fieldLink RX1 60 "NameRolls$Roll" "epoch" "I", Cond.fieldLink RX1 64 "NameRolls$Roll" "gained" "I", Cond.fieldLink RX1 67 "NameRolls$Roll" "lost" "I", Cond.fieldLink RX1 24 "NameRolls$Roll" "rules" "[I", Cond.fieldLink RX1 27 "NameRolls$Roll" "namesThen" "[I", Cond.fieldLink RX1 30 "NameRolls$Roll" "movedThen" "[I", Cond.fieldLink RX1 33 "NameRolls$Roll" "yearsThen" "[I", Cond.fieldLink RX1 36 "NameRolls$Roll" "numbersBehind" "[I", Cond.fieldLink RX1 39 "NameRolls$Roll" "yearsBehind" "[I", Cond.methodLink RX0 40 yX0_readOrder, Cond.instanceMethod yX0_readOrder, Cond.selects RX0 yX0_readOrder yX0_readOrder, Cond.code yX0_readOrder cX0_readOrder 2 none, Cond.fieldLink RX0 54 "NameRolls$Player" "kind" "C", Cond.fieldLink RX0 58 "NameRolls$Player" "table" "I", Cond.fieldLink RX0 61 "NameRolls$Player" "cell" "I", Cond.fieldLink RX0 64 "NameRolls$Player" "rule" "I"]
def wsX3_play_r3 : List Cond := [Cond.fieldLink RX0 67 "NameRolls$Player" "letters" "I", Cond.fieldLink RX0 70 "NameRolls$Player" "name" "I", Cond.methodLink RX0 50 yX2_signAt, Cond.instanceMethod yX2_signAt, Cond.selects RX2 yX2_signAt yX2_signAt, Cond.initialized RX2, Cond.code yX2_signAt cX2_signAt 2 (some .char), Cond.fieldLink RX2 15 "NameRolls$Text" "length" "I", Cond.fieldLink RX2 9 "NameRolls$Text" "signs" "[C", Cond.static yX3_isBelow, Cond.initialized RX3, Cond.code yX3_isBelow cX3_isBelow 2 (some .boolean), Cond.methodLink RX0 73 yX0_readLetters, Cond.instanceMethod yX0_readLetters, Cond.selects RX0 yX0_readLetters yX0_readLetters, Cond.code yX0_readLetters cX0_readLetters 4 none, Cond.methodLink RX0 84 yX0_fail, Cond.instanceMethod yX0_fail, Cond.selects RX0 yX0_fail yX0_fail, Cond.code yX0_fail cX0_fail 3 none, Cond.fieldLink RX0 125 "NameRolls$Player" "cause" "I", Cond.methodLink RX0 76 yX0_readDigit, Cond.instanceMethod yX0_readDigit, Cond.selects RX0 yX0_readDigit yX0_readDigit]
def wsX3_play_r4 : List Cond := [Cond.code yX0_readDigit cX0_readDigit 3 (some .int), Cond.methodLink RX0 80 yX0_readSign, Cond.instanceMethod yX0_readSign, Cond.selects RX0 yX0_readSign yX0_readSign, Cond.code yX0_readSign cX0_readSign 3 none, Cond.methodLink RX0 44 yX0_checkRanges, Cond.instanceMethod yX0_checkRanges, Cond.selects RX0 yX0_checkRanges yX0_checkRanges, Cond.code yX0_checkRanges cX0_checkRanges 1 none, Cond.methodLink RX0 47 yX0_carryOut, Cond.instanceMethod yX0_carryOut, Cond.selects RX0 yX0_carryOut yX0_carryOut, Cond.code yX0_carryOut cX0_carryOut 2 none, Cond.methodLink RX0 88 yX1_numberWith, Cond.instanceMethod yX1_numberWith, Cond.selects RX1 yX1_numberWith yX1_numberWith, Cond.code yX1_numberWith cX1_numberWith 3 (some .int), Cond.methodLink RX0 92 yX0_canCarryOut, Cond.instanceMethod yX0_canCarryOut, Cond.selects RX0 yX0_canCarryOut yX0_canCarryOut, Cond.code yX0_canCarryOut cX0_canCarryOut 2 (some .boolean), Cond.methodLink RX0 112 yX1_hasRoomFor, Cond.instanceMethod yX1_hasRoomFor, Cond.selects RX1 yX1_hasRoomFor yX1_hasRoomFor]
def wsX3_play_r5 : List Cond := [Cond.code yX1_hasRoomFor cX1_hasRoomFor 3 (some .boolean), Cond.methodLink RX1 80 yX1_numberWith, Cond.methodLink RX1 84 yX1_hasRoomForUser, Cond.instanceMethod yX1_hasRoomForUser, Cond.selects RX1 yX1_hasRoomForUser yX1_hasRoomForUser, Cond.code yX1_hasRoomForUser cX1_hasRoomForUser 2 (some .boolean), Cond.methodLink RX0 115 yX1_hasFreeUser, Cond.instanceMethod yX1_hasFreeUser, Cond.selects RX1 yX1_hasFreeUser yX1_hasFreeUser, Cond.code yX1_hasFreeUser cX1_hasFreeUser 2 (some .boolean), Cond.methodLink RX1 91 yX1_cellsWith, Cond.instanceMethod yX1_cellsWith, Cond.selects RX1 yX1_cellsWith yX1_cellsWith, Cond.code yX1_cellsWith cX1_cellsWith 4 (some .int), Cond.methodLink RX0 118 yX1_hasRoomForUser, Cond.methodLink RX0 121 yX1_hasNextEpoch, Cond.instanceMethod yX1_hasNextEpoch, Cond.selects RX1 yX1_hasNextEpoch yX1_hasNextEpoch, Cond.code yX1_hasNextEpoch cX1_hasNextEpoch 1 (some .boolean), Cond.methodLink RX0 96 yX1_enter, Cond.instanceMethod yX1_enter, Cond.selects RX1 yX1_enter yX1_enter, Cond.code yX1_enter cX1_enter 3 (some .int), Cond.methodLink RX1 88 yX1_addUser]
def wsX3_play_r6 : List Cond := [Cond.instanceMethod yX1_addUser, Cond.selects RX1 yX1_addUser yX1_addUser, Cond.code yX1_addUser cX1_addUser 2 (some .int), Cond.methodLink RX0 99 yX1_giveBack, Cond.instanceMethod yX1_giveBack, Cond.selects RX1 yX1_giveBack yX1_giveBack, Cond.code yX1_giveBack cX1_giveBack 2 (some .int), Cond.static yX3_cellIndex, Cond.code yX3_cellIndex cX3_cellIndex 2 (some .int), Cond.methodLink RX0 106 yX1_fillCell, Cond.instanceMethod yX1_fillCell, Cond.selects RX1 yX1_fillCell yX1_fillCell, Cond.code yX1_fillCell cX1_fillCell 3 (some .int), Cond.methodLink RX1 94 yX1_giveBack, Cond.methodLink RX0 109 yX1_giveAnew, Cond.instanceMethod yX1_giveAnew, Cond.selects RX1 yX1_giveAnew yX1_giveAnew, Cond.code yX1_giveAnew cX1_giveAnew 7 (some .int), Cond.methodLink RX1 104 yX1_placeOf, Cond.instanceMethod yX1_placeOf, Cond.selects RX1 yX1_placeOf yX1_placeOf, Cond.code yX1_placeOf cX1_placeOf 5 (some .int), Cond.methodLink RX1 97 yX1_isAhead, Cond.instanceMethod yX1_isAhead]
def wsX3_play_r7 : List Cond := [Cond.selects RX1 yX1_isAhead yX1_isAhead, Cond.code yX1_isAhead cX1_isAhead 4 (some .boolean), Cond.static yX3_orderKey, Cond.code yX3_orderKey cX3_orderKey 3 (some .int), Cond.constant RX3 194 (14348907), Cond.methodLink RX1 108 yX1_namesBelow, Cond.instanceMethod yX1_namesBelow, Cond.selects RX1 yX1_namesBelow yX1_namesBelow, Cond.code yX1_namesBelow cX1_namesBelow 4 (some .int), Cond.methodLink RX1 111 yX1_moveNames, Cond.instanceMethod yX1_moveNames, Cond.selects RX1 yX1_moveNames yX1_moveNames, Cond.code yX1_moveNames cX1_moveNames 4 none, Cond.fieldLink RX1 42 "NameRolls$Roll" "oldNames" "[I", Cond.fieldLink RX1 45 "NameRolls$Roll" "oldUsers" "[I", Cond.methodLink RX1 48 yJ7_fill_53178, Cond.static yJ7_fill_53178, Cond.initialized RJ7, Cond.code yJ7_fill_53178 cJ7_fill_53178 4 none, Cond.methodLink RX1 115 yX1_moveCells, Cond.instanceMethod yX1_moveCells, Cond.selects RX1 yX1_moveCells yX1_moveCells, Cond.code yX1_moveCells cX1_moveCells 3 none, Cond.methodLink RX3 43 yX3_recordState]
def wsX3_play_r8 : List Cond := [Cond.instanceMethod yX3_recordState, Cond.selects RX3 yX3_recordState yX3_recordState, Cond.code yX3_recordState cX3_recordState 3 none, Cond.fieldLink RX3 160 "NameRolls" "states" "I", Cond.fieldLink RX3 16 "NameRolls" "past" "[LNameRolls$Roll;", Cond.methodLink RX3 166 yX1_copyFrom]
def wsX3_play : List Cond := .code yX3_play cX3_play 1 (some .int) :: ((wsX3_play_r1 ++ (wsX3_play_r2 ++ (wsX3_play_r3 ++ (wsX3_play_r4 ++ (wsX3_play_r5 ++ (wsX3_play_r6 ++ (wsX3_play_r7 ++ wsX3_play_r8))))))) ++ wsX30 ++ wsX00 ++ wsX20 ++ wsX10)
def wsX4_init : List Cond := .code yX4_init cX4_init 2 none :: ([.methodLink RX4 1 objectInit, .instanceMethod objectInit, .code objectInit ⟨#[0xb1]⟩ 1 none, .arrayClass .int, .fieldLink RX4 7 "NameRollsModel" "now" "[I", .fieldLink RX4 13 "NameRollsModel" "past" "[I", .fieldLink RX4 16 "NameRollsModel" "aside" "[I", .fieldLink RX4 19 "NameRollsModel" "text" "[I", .fieldLink RX4 22 "NameRollsModel" "ranked" "[I", .fieldLink RX4 25 "NameRollsModel" "before" "[I", .fieldLink RX4 28 "NameRollsModel" "digits" "[I"] ++ wsX40)
def wsX4_within : List Cond := .code yX4_within cX4_within 3 (some .boolean) :: ([])
def wsX4_saves : List Cond := .code yX4_saves cX4_saves 2 none :: ([.fieldLink RX4 31 "NameRollsModel" "saved" "I", .fieldLink RX4 13 "NameRollsModel" "past" "[I", .fieldLink RX4 7 "NameRollsModel" "now" "[I"] ++ wsX40)
def wsX4_undo : List Cond := .code yX4_undo cX4_undo 2 (some .int) :: ([.fieldLink RX4 31 "NameRollsModel" "saved" "I", .constant RX4 35 (-1000002), .fieldLink RX4 7 "NameRollsModel" "now" "[I", .fieldLink RX4 13 "NameRollsModel" "past" "[I"] ++ wsX40)
def wsX4_isName : List Cond := .code yX4_isName cX4_isName 3 (some .boolean) :: ([.constant RX4 36 (387420488), .methodLink RX4 37 yX4_within, .static yX4_within, .initialized RX4, .code yX4_within cX4_within 3 (some .boolean)])
def wsX4_padded : List Cond := .code yX4_padded cX4_padded 2 (some .int) :: ([.constant RX4 41 (14348907)])
def wsX4_isNamed : List Cond := .code yX4_isNamed cX4_isNamed 2 (some .boolean) :: ([.fieldLink RX4 7 "NameRollsModel" "now" "[I"] ++ wsX40)
def wsX4_numberWith : List Cond := .code yX4_numberWith cX4_numberWith 3 (some .int) :: ([.fieldLink RX4 7 "NameRollsModel" "now" "[I"] ++ wsX40)
def wsX4_freeNumber : List Cond := .code yX4_freeNumber cX4_freeNumber 2 (some .int) :: ([.methodLink RX4 42 yX4_isNamed, .instanceMethod yX4_isNamed, .selects RX4 yX4_isNamed yX4_isNamed, .initialized RX4, .code yX4_isNamed cX4_isNamed 2 (some .boolean), .fieldLink RX4 7 "NameRollsModel" "now" "[I"] ++ wsX40)
def wsX4_tagOf : List Cond := .code yX4_tagOf cX4_tagOf 2 (some .int) :: ([.constant RX4 46 (1000000), .fieldLink RX4 7 "NameRollsModel" "now" "[I"] ++ wsX40)
def wsX4_cellsWith : List Cond := .code yX4_cellsWith cX4_cellsWith 4 (some .int) :: ([.fieldLink RX4 7 "NameRollsModel" "now" "[I"] ++ wsX40)
def wsX4_givesBack : List Cond := .code yX4_givesBack cX4_givesBack 2 (some .int) :: ([.fieldLink RX4 7 "NameRollsModel" "now" "[I"] ++ wsX40)
def wsX4_canAcquire : List Cond := .code yX4_canAcquire cX4_canAcquire 3 (some .boolean) :: ([.fieldLink RX4 7 "NameRollsModel" "now" "[I", .methodLink RX4 47 yX4_numberWith, .instanceMethod yX4_numberWith, .selects RX4 yX4_numberWith yX4_numberWith, .initialized RX4, .code yX4_numberWith cX4_numberWith 3 (some .int), .methodLink RX4 51 yX4_freeNumber, .instanceMethod yX4_freeNumber, .selects RX4 yX4_freeNumber yX4_freeNumber, .code yX4_freeNumber cX4_freeNumber 2 (some .int), .methodLink RX4 42 yX4_isNamed, .instanceMethod yX4_isNamed, .selects RX4 yX4_isNamed yX4_isNamed, .code yX4_isNamed cX4_isNamed 2 (some .boolean)] ++ wsX40)
def wsX4_acquires : List Cond := .code yX4_acquires cX4_acquires 3 (some .int) :: ([.fieldLink RX4 7 "NameRollsModel" "now" "[I", .methodLink RX4 47 yX4_numberWith, .instanceMethod yX4_numberWith, .selects RX4 yX4_numberWith yX4_numberWith, .initialized RX4, .code yX4_numberWith cX4_numberWith 3 (some .int), .methodLink RX4 51 yX4_freeNumber, .instanceMethod yX4_freeNumber, .selects RX4 yX4_freeNumber yX4_freeNumber, .code yX4_freeNumber cX4_freeNumber 2 (some .int), .methodLink RX4 42 yX4_isNamed, .instanceMethod yX4_isNamed, .selects RX4 yX4_isNamed yX4_isNamed, .code yX4_isNamed cX4_isNamed 2 (some .boolean), .methodLink RX4 55 yX4_tagOf, .instanceMethod yX4_tagOf, .selects RX4 yX4_tagOf yX4_tagOf, .code yX4_tagOf cX4_tagOf 2 (some .int), .constant RX4 46 (1000000)] ++ wsX40)
def wsX4_acquire_r1 : List Cond := [Cond.constant RX4 61 (-1000001), Cond.constant RX4 65 (-1000003), Cond.methodLink RX4 58 yX4_isName, Cond.static yX4_isName, Cond.initialized RX4, Cond.code yX4_isName cX4_isName 3 (some .boolean), Cond.constant RX4 36 (387420488), Cond.methodLink RX4 37 yX4_within, Cond.static yX4_within, Cond.code yX4_within cX4_within 3 (some .boolean), Cond.methodLink RX4 62 yX4_canAcquire, Cond.instanceMethod yX4_canAcquire, Cond.selects RX4 yX4_canAcquire yX4_canAcquire, Cond.code yX4_canAcquire cX4_canAcquire 3 (some .boolean), Cond.fieldLink RX4 7 "NameRollsModel" "now" "[I", Cond.methodLink RX4 47 yX4_numberWith, Cond.instanceMethod yX4_numberWith, Cond.selects RX4 yX4_numberWith yX4_numberWith, Cond.code yX4_numberWith cX4_numberWith 3 (some .int), Cond.methodLink RX4 51 yX4_freeNumber, Cond.instanceMethod yX4_freeNumber, Cond.selects RX4 yX4_freeNumber yX4_freeNumber, Cond.code yX4_freeNumber cX4_freeNumber 2 (some .int), Cond.methodLink RX4 42 yX4_isNamed]
def wsX4_acquire_r2 : List Cond := [Cond.instanceMethod yX4_isNamed, Cond.selects RX4 yX4_isNamed yX4_isNamed, Cond.code yX4_isNamed cX4_isNamed 2 (some .boolean), Cond.methodLink RX4 66 yX4_saves, Cond.instanceMethod yX4_saves, Cond.selects RX4 yX4_saves yX4_saves, Cond.code yX4_saves cX4_saves 2 none, Cond.fieldLink RX4 31 "NameRollsModel" "saved" "I", Cond.fieldLink RX4 13 "NameRollsModel" "past" "[I", Cond.methodLink RX4 69 yX4_acquires, Cond.instanceMethod yX4_acquires, Cond.selects RX4 yX4_acquires yX4_acquires, Cond.code yX4_acquires cX4_acquires 3 (some .int), Cond.methodLink RX4 55 yX4_tagOf, Cond.instanceMethod yX4_tagOf, Cond.selects RX4 yX4_tagOf yX4_tagOf, Cond.code yX4_tagOf cX4_tagOf 2 (some .int), Cond.constant RX4 46 (1000000)]
def wsX4_acquire : List Cond := .code yX4_acquire cX4_acquire 2 (some .int) :: ((wsX4_acquire_r1 ++ wsX4_acquire_r2) ++ wsX40)
def wsX4_kept : List Cond := .code yX4_kept cX4_kept 1 (some .int) :: ([.fieldLink RX4 7 "NameRollsModel" "now" "[I"] ++ wsX40)
def wsX4_ofCompaction : List Cond := .code yX4_ofCompaction cX4_ofCompaction 3 (some .int) :: ([.fieldLink RX4 7 "NameRollsModel" "now" "[I"] ++ wsX40)
def wsX4_reasonOf : List Cond := .code yX4_reasonOf cX4_reasonOf 7 (some .int) :: ([.constant RX4 46 (1000000), .fieldLink RX4 7 "NameRollsModel" "now" "[I", .fieldLink RX4 79 "NameRollsModel" "followed" "I", .methodLink RX4 72 yX4_kept, .instanceMethod yX4_kept, .selects RX4 yX4_kept yX4_kept, .initialized RX4, .code yX4_kept cX4_kept 1 (some .int), .methodLink RX4 75 yX4_ofCompaction, .instanceMethod yX4_ofCompaction, .selects RX4 yX4_ofCompaction yX4_ofCompaction, .code yX4_ofCompaction cX4_ofCompaction 3 (some .int), .methodLink RX4 42 yX4_isNamed, .instanceMethod yX4_isNamed, .selects RX4 yX4_isNamed yX4_isNamed, .code yX4_isNamed cX4_isNamed 2 (some .boolean)] ++ wsX40)
def wsX4_why : List Cond := .code yX4_why cX4_why 2 (some .int) :: ([.methodLink RX4 82 yX4_reasonOf, .instanceMethod yX4_reasonOf, .selects RX4 yX4_reasonOf yX4_reasonOf, .initialized RX4, .code yX4_reasonOf cX4_reasonOf 7 (some .int), .constant RX4 46 (1000000), .fieldLink RX4 7 "NameRollsModel" "now" "[I", .fieldLink RX4 79 "NameRollsModel" "followed" "I", .methodLink RX4 72 yX4_kept, .instanceMethod yX4_kept, .selects RX4 yX4_kept yX4_kept, .code yX4_kept cX4_kept 1 (some .int), .methodLink RX4 75 yX4_ofCompaction, .instanceMethod yX4_ofCompaction, .selects RX4 yX4_ofCompaction yX4_ofCompaction, .code yX4_ofCompaction cX4_ofCompaction 3 (some .int), .methodLink RX4 42 yX4_isNamed, .instanceMethod yX4_isNamed, .selects RX4 yX4_isNamed yX4_isNamed, .code yX4_isNamed cX4_isNamed 2 (some .boolean)] ++ wsX40)
def wsX4_follow_r1 : List Cond := [Cond.constant RX4 85 (-1000005), Cond.fieldLink RX4 79 "NameRollsModel" "followed" "I", Cond.methodLink RX4 82 yX4_reasonOf, Cond.instanceMethod yX4_reasonOf, Cond.selects RX4 yX4_reasonOf yX4_reasonOf, Cond.initialized RX4, Cond.code yX4_reasonOf cX4_reasonOf 7 (some .int), Cond.constant RX4 46 (1000000), Cond.fieldLink RX4 7 "NameRollsModel" "now" "[I", Cond.methodLink RX4 72 yX4_kept, Cond.instanceMethod yX4_kept, Cond.selects RX4 yX4_kept yX4_kept, Cond.code yX4_kept cX4_kept 1 (some .int), Cond.methodLink RX4 75 yX4_ofCompaction, Cond.instanceMethod yX4_ofCompaction, Cond.selects RX4 yX4_ofCompaction yX4_ofCompaction, Cond.code yX4_ofCompaction cX4_ofCompaction 3 (some .int), Cond.methodLink RX4 42 yX4_isNamed, Cond.instanceMethod yX4_isNamed, Cond.selects RX4 yX4_isNamed yX4_isNamed, Cond.code yX4_isNamed cX4_isNamed 2 (some .boolean), Cond.methodLink RX4 55 yX4_tagOf, Cond.instanceMethod yX4_tagOf, Cond.selects RX4 yX4_tagOf yX4_tagOf]
def wsX4_follow_r2 : List Cond := [Cond.code yX4_tagOf cX4_tagOf 2 (some .int)]
def wsX4_follow : List Cond := .code yX4_follow cX4_follow 2 (some .int) :: ((wsX4_follow_r1 ++ wsX4_follow_r2) ++ wsX40)
def wsX4_nameOf : List Cond := .code yX4_nameOf cX4_nameOf 2 (some .int) :: ([.constant RX4 85 (-1000005), .fieldLink RX4 7 "NameRollsModel" "now" "[I", .fieldLink RX4 79 "NameRollsModel" "followed" "I", .methodLink RX4 82 yX4_reasonOf, .instanceMethod yX4_reasonOf, .selects RX4 yX4_reasonOf yX4_reasonOf, .initialized RX4, .code yX4_reasonOf cX4_reasonOf 7 (some .int), .constant RX4 46 (1000000), .methodLink RX4 72 yX4_kept, .instanceMethod yX4_kept, .selects RX4 yX4_kept yX4_kept, .code yX4_kept cX4_kept 1 (some .int), .methodLink RX4 75 yX4_ofCompaction, .instanceMethod yX4_ofCompaction, .selects RX4 yX4_ofCompaction yX4_ofCompaction, .code yX4_ofCompaction cX4_ofCompaction 3 (some .int), .methodLink RX4 42 yX4_isNamed, .instanceMethod yX4_isNamed, .selects RX4 yX4_isNamed yX4_isNamed, .code yX4_isNamed cX4_isNamed 2 (some .boolean)] ++ wsX40)
def wsX4_use_r1 : List Cond := [Cond.constant RX4 85 (-1000005), Cond.fieldLink RX4 7 "NameRollsModel" "now" "[I", Cond.fieldLink RX4 79 "NameRollsModel" "followed" "I", Cond.constant RX4 65 (-1000003), Cond.methodLink RX4 82 yX4_reasonOf, Cond.instanceMethod yX4_reasonOf, Cond.selects RX4 yX4_reasonOf yX4_reasonOf, Cond.initialized RX4, Cond.code yX4_reasonOf cX4_reasonOf 7 (some .int), Cond.constant RX4 46 (1000000), Cond.methodLink RX4 72 yX4_kept, Cond.instanceMethod yX4_kept, Cond.selects RX4 yX4_kept yX4_kept, Cond.code yX4_kept cX4_kept 1 (some .int), Cond.methodLink RX4 75 yX4_ofCompaction, Cond.instanceMethod yX4_ofCompaction, Cond.selects RX4 yX4_ofCompaction yX4_ofCompaction, Cond.code yX4_ofCompaction cX4_ofCompaction 3 (some .int), Cond.methodLink RX4 42 yX4_isNamed, Cond.instanceMethod yX4_isNamed, Cond.selects RX4 yX4_isNamed yX4_isNamed, Cond.code yX4_isNamed cX4_isNamed 2 (some .boolean), Cond.methodLink RX4 66 yX4_saves, Cond.instanceMethod yX4_saves]
def wsX4_use_r2 : List Cond := [Cond.selects RX4 yX4_saves yX4_saves, Cond.code yX4_saves cX4_saves 2 none, Cond.fieldLink RX4 31 "NameRollsModel" "saved" "I", Cond.fieldLink RX4 13 "NameRollsModel" "past" "[I"]
def wsX4_use : List Cond := .code yX4_use cX4_use 2 (some .int) :: ((wsX4_use_r1 ++ wsX4_use_r2) ++ wsX40)
def wsX4_release_r1 : List Cond := [Cond.constant RX4 85 (-1000005), Cond.fieldLink RX4 7 "NameRollsModel" "now" "[I", Cond.fieldLink RX4 79 "NameRollsModel" "followed" "I", Cond.constant RX4 35 (-1000002), Cond.methodLink RX4 82 yX4_reasonOf, Cond.instanceMethod yX4_reasonOf, Cond.selects RX4 yX4_reasonOf yX4_reasonOf, Cond.initialized RX4, Cond.code yX4_reasonOf cX4_reasonOf 7 (some .int), Cond.constant RX4 46 (1000000), Cond.methodLink RX4 72 yX4_kept, Cond.instanceMethod yX4_kept, Cond.selects RX4 yX4_kept yX4_kept, Cond.code yX4_kept cX4_kept 1 (some .int), Cond.methodLink RX4 75 yX4_ofCompaction, Cond.instanceMethod yX4_ofCompaction, Cond.selects RX4 yX4_ofCompaction yX4_ofCompaction, Cond.code yX4_ofCompaction cX4_ofCompaction 3 (some .int), Cond.methodLink RX4 42 yX4_isNamed, Cond.instanceMethod yX4_isNamed, Cond.selects RX4 yX4_isNamed yX4_isNamed, Cond.code yX4_isNamed cX4_isNamed 2 (some .boolean), Cond.methodLink RX4 86 yX4_cellsWith, Cond.instanceMethod yX4_cellsWith]
def wsX4_release_r2 : List Cond := [Cond.selects RX4 yX4_cellsWith yX4_cellsWith, Cond.code yX4_cellsWith cX4_cellsWith 4 (some .int), Cond.methodLink RX4 66 yX4_saves, Cond.instanceMethod yX4_saves, Cond.selects RX4 yX4_saves yX4_saves, Cond.code yX4_saves cX4_saves 2 none, Cond.fieldLink RX4 31 "NameRollsModel" "saved" "I", Cond.fieldLink RX4 13 "NameRollsModel" "past" "[I", Cond.methodLink RX4 89 yX4_givesBack, Cond.instanceMethod yX4_givesBack, Cond.selects RX4 yX4_givesBack yX4_givesBack, Cond.code yX4_givesBack cX4_givesBack 2 (some .int)]
def wsX4_release : List Cond := .code yX4_release cX4_release 2 (some .int) :: ((wsX4_release_r1 ++ wsX4_release_r2) ++ wsX40)
def wsX4_isCell : List Cond := .code yX4_isCell cX4_isCell 2 (some .boolean) :: ([.methodLink RX4 37 yX4_within, .static yX4_within, .initialized RX4, .code yX4_within cX4_within 3 (some .boolean)])
def wsX4_puts : List Cond := .code yX4_puts cX4_puts 4 (some .int) :: ([.fieldLink RX4 7 "NameRollsModel" "now" "[I", .methodLink RX4 89 yX4_givesBack, .instanceMethod yX4_givesBack, .selects RX4 yX4_givesBack yX4_givesBack, .initialized RX4, .code yX4_givesBack cX4_givesBack 2 (some .int)] ++ wsX40)
def wsX4_put_r1 : List Cond := [Cond.constant RX4 61 (-1000001), Cond.constant RX4 85 (-1000005), Cond.fieldLink RX4 7 "NameRollsModel" "now" "[I", Cond.fieldLink RX4 79 "NameRollsModel" "followed" "I", Cond.constant RX4 65 (-1000003), Cond.methodLink RX4 92 yX4_isCell, Cond.static yX4_isCell, Cond.initialized RX4, Cond.code yX4_isCell cX4_isCell 2 (some .boolean), Cond.methodLink RX4 37 yX4_within, Cond.static yX4_within, Cond.code yX4_within cX4_within 3 (some .boolean), Cond.methodLink RX4 82 yX4_reasonOf, Cond.instanceMethod yX4_reasonOf, Cond.selects RX4 yX4_reasonOf yX4_reasonOf, Cond.code yX4_reasonOf cX4_reasonOf 7 (some .int), Cond.constant RX4 46 (1000000), Cond.methodLink RX4 72 yX4_kept, Cond.instanceMethod yX4_kept, Cond.selects RX4 yX4_kept yX4_kept, Cond.code yX4_kept cX4_kept 1 (some .int), Cond.methodLink RX4 75 yX4_ofCompaction, Cond.instanceMethod yX4_ofCompaction, Cond.selects RX4 yX4_ofCompaction yX4_ofCompaction]
def wsX4_put_r2 : List Cond := [Cond.code yX4_ofCompaction cX4_ofCompaction 3 (some .int), Cond.methodLink RX4 42 yX4_isNamed, Cond.instanceMethod yX4_isNamed, Cond.selects RX4 yX4_isNamed yX4_isNamed, Cond.code yX4_isNamed cX4_isNamed 2 (some .boolean), Cond.methodLink RX4 66 yX4_saves, Cond.instanceMethod yX4_saves, Cond.selects RX4 yX4_saves yX4_saves, Cond.code yX4_saves cX4_saves 2 none, Cond.fieldLink RX4 31 "NameRollsModel" "saved" "I", Cond.fieldLink RX4 13 "NameRollsModel" "past" "[I", Cond.methodLink RX4 96 yX4_puts, Cond.instanceMethod yX4_puts, Cond.selects RX4 yX4_puts yX4_puts, Cond.code yX4_puts cX4_puts 4 (some .int), Cond.methodLink RX4 89 yX4_givesBack, Cond.instanceMethod yX4_givesBack, Cond.selects RX4 yX4_givesBack yX4_givesBack, Cond.code yX4_givesBack cX4_givesBack 2 (some .int)]
def wsX4_put : List Cond := .code yX4_put cX4_put 4 (some .int) :: ((wsX4_put_r1 ++ wsX4_put_r2) ++ wsX40)
def wsX4_clear : List Cond := .code yX4_clear cX4_clear 5 (some .int) :: ([.constant RX4 61 (-1000001), .fieldLink RX4 7 "NameRollsModel" "now" "[I", .constant RX4 35 (-1000002), .methodLink RX4 92 yX4_isCell, .static yX4_isCell, .initialized RX4, .code yX4_isCell cX4_isCell 2 (some .boolean), .methodLink RX4 37 yX4_within, .static yX4_within, .code yX4_within cX4_within 3 (some .boolean), .methodLink RX4 66 yX4_saves, .instanceMethod yX4_saves, .selects RX4 yX4_saves yX4_saves, .code yX4_saves cX4_saves 2 none, .fieldLink RX4 31 "NameRollsModel" "saved" "I", .fieldLink RX4 13 "NameRollsModel" "past" "[I", .methodLink RX4 89 yX4_givesBack, .instanceMethod yX4_givesBack, .selects RX4 yX4_givesBack yX4_givesBack, .code yX4_givesBack cX4_givesBack 2 (some .int)] ++ wsX40)
def wsX4_cellOf : List Cond := .code yX4_cellOf cX4_cellOf 4 (some .int) :: ([.constant RX4 61 (-1000001), .fieldLink RX4 7 "NameRollsModel" "now" "[I", .constant RX4 99 (-1000004), .methodLink RX4 92 yX4_isCell, .static yX4_isCell, .initialized RX4, .code yX4_isCell cX4_isCell 2 (some .boolean), .methodLink RX4 37 yX4_within, .static yX4_within, .code yX4_within cX4_within 3 (some .boolean), .methodLink RX4 55 yX4_tagOf, .instanceMethod yX4_tagOf, .selects RX4 yX4_tagOf yX4_tagOf, .code yX4_tagOf cX4_tagOf 2 (some .int), .constant RX4 46 (1000000)] ++ wsX40)
def wsX4_isAhead : List Cond := .code yX4_isAhead cX4_isAhead 4 (some .boolean) :: ([.fieldLink RX4 7 "NameRollsModel" "now" "[I", .methodLink RX4 100 yX4_padded, .static yX4_padded, .initialized RX4, .code yX4_padded cX4_padded 2 (some .int), .constant RX4 41 (14348907)] ++ wsX40)
def wsX4_ranks : List Cond := .code yX4_ranks cX4_ranks 4 none :: ([.fieldLink RX4 103 "NameRollsModel" "named" "I", .fieldLink RX4 22 "NameRollsModel" "ranked" "[I", .methodLink RX4 42 yX4_isNamed, .instanceMethod yX4_isNamed, .selects RX4 yX4_isNamed yX4_isNamed, .initialized RX4, .code yX4_isNamed cX4_isNamed 2 (some .boolean), .fieldLink RX4 7 "NameRollsModel" "now" "[I", .methodLink RX4 106 yX4_isAhead, .instanceMethod yX4_isAhead, .selects RX4 yX4_isAhead yX4_isAhead, .code yX4_isAhead cX4_isAhead 4 (some .boolean), .methodLink RX4 100 yX4_padded, .static yX4_padded, .code yX4_padded cX4_padded 2 (some .int), .constant RX4 41 (14348907)] ++ wsX40)
def wsX4_compacts : List Cond := .code yX4_compacts cX4_compacts 6 (some .int) :: ([.fieldLink RX4 7 "NameRollsModel" "now" "[I", .fieldLink RX4 25 "NameRollsModel" "before" "[I", .fieldLink RX4 103 "NameRollsModel" "named" "I", .fieldLink RX4 22 "NameRollsModel" "ranked" "[I", .methodLink RX4 109 yX4_ranks, .instanceMethod yX4_ranks, .selects RX4 yX4_ranks yX4_ranks, .initialized RX4, .code yX4_ranks cX4_ranks 4 none, .methodLink RX4 42 yX4_isNamed, .instanceMethod yX4_isNamed, .selects RX4 yX4_isNamed yX4_isNamed, .code yX4_isNamed cX4_isNamed 2 (some .boolean), .methodLink RX4 106 yX4_isAhead, .instanceMethod yX4_isAhead, .selects RX4 yX4_isAhead yX4_isAhead, .code yX4_isAhead cX4_isAhead 4 (some .boolean), .methodLink RX4 100 yX4_padded, .static yX4_padded, .code yX4_padded cX4_padded 2 (some .int), .constant RX4 41 (14348907)] ++ wsX40)
def wsX4_compact_r1 : List Cond := [Cond.constant RX4 61 (-1000001), Cond.fieldLink RX4 7 "NameRollsModel" "now" "[I", Cond.constant RX4 65 (-1000003), Cond.methodLink RX4 37 yX4_within, Cond.static yX4_within, Cond.initialized RX4, Cond.code yX4_within cX4_within 3 (some .boolean), Cond.methodLink RX4 66 yX4_saves, Cond.instanceMethod yX4_saves, Cond.selects RX4 yX4_saves yX4_saves, Cond.code yX4_saves cX4_saves 2 none, Cond.fieldLink RX4 31 "NameRollsModel" "saved" "I", Cond.fieldLink RX4 13 "NameRollsModel" "past" "[I", Cond.methodLink RX4 113 yX4_compacts, Cond.instanceMethod yX4_compacts, Cond.selects RX4 yX4_compacts yX4_compacts, Cond.code yX4_compacts cX4_compacts 6 (some .int), Cond.fieldLink RX4 25 "NameRollsModel" "before" "[I", Cond.fieldLink RX4 103 "NameRollsModel" "named" "I", Cond.fieldLink RX4 22 "NameRollsModel" "ranked" "[I", Cond.methodLink RX4 109 yX4_ranks, Cond.instanceMethod yX4_ranks, Cond.selects RX4 yX4_ranks yX4_ranks, Cond.code yX4_ranks cX4_ranks 4 none]
def wsX4_compact_r2 : List Cond := [Cond.methodLink RX4 42 yX4_isNamed, Cond.instanceMethod yX4_isNamed, Cond.selects RX4 yX4_isNamed yX4_isNamed, Cond.code yX4_isNamed cX4_isNamed 2 (some .boolean), Cond.methodLink RX4 106 yX4_isAhead, Cond.instanceMethod yX4_isAhead, Cond.selects RX4 yX4_isAhead yX4_isAhead, Cond.code yX4_isAhead cX4_isAhead 4 (some .boolean), Cond.methodLink RX4 100 yX4_padded, Cond.static yX4_padded, Cond.code yX4_padded cX4_padded 2 (some .int), Cond.constant RX4 41 (14348907)]
def wsX4_compact : List Cond := .code yX4_compact cX4_compact 2 (some .int) :: ((wsX4_compact_r1 ++ wsX4_compact_r2) ++ wsX40)
def wsX4_numberOf : List Cond := .code yX4_numberOf cX4_numberOf 3 (some .int) :: ([.constant RX4 61 (-1000001), .fieldLink RX4 7 "NameRollsModel" "now" "[I", .constant RX4 99 (-1000004), .methodLink RX4 37 yX4_within, .static yX4_within, .initialized RX4, .code yX4_within cX4_within 3 (some .boolean), .methodLink RX4 42 yX4_isNamed, .instanceMethod yX4_isNamed, .selects RX4 yX4_isNamed yX4_isNamed, .code yX4_isNamed cX4_isNamed 2 (some .boolean), .methodLink RX4 86 yX4_cellsWith, .instanceMethod yX4_cellsWith, .selects RX4 yX4_cellsWith yX4_cellsWith, .code yX4_cellsWith cX4_cellsWith 4 (some .int), .methodLink RX4 55 yX4_tagOf, .instanceMethod yX4_tagOf, .selects RX4 yX4_tagOf yX4_tagOf, .code yX4_tagOf cX4_tagOf 2 (some .int), .constant RX4 46 (1000000)] ++ wsX40)
def wsX4_find : List Cond := .code yX4_find cX4_find 3 (some .int) :: ([.constant RX4 61 (-1000001), .constant RX4 99 (-1000004), .methodLink RX4 58 yX4_isName, .static yX4_isName, .initialized RX4, .code yX4_isName cX4_isName 3 (some .boolean), .constant RX4 36 (387420488), .methodLink RX4 37 yX4_within, .static yX4_within, .code yX4_within cX4_within 3 (some .boolean), .methodLink RX4 47 yX4_numberWith, .instanceMethod yX4_numberWith, .selects RX4 yX4_numberWith yX4_numberWith, .code yX4_numberWith cX4_numberWith 3 (some .int), .fieldLink RX4 7 "NameRollsModel" "now" "[I"] ++ wsX40)
def wsX4_nameAt_r1 : List Cond := [Cond.constant RX4 61 (-1000001), Cond.fieldLink RX4 103 "NameRollsModel" "named" "I", Cond.fieldLink RX4 7 "NameRollsModel" "now" "[I", Cond.fieldLink RX4 22 "NameRollsModel" "ranked" "[I", Cond.constant RX4 99 (-1000004), Cond.methodLink RX4 37 yX4_within, Cond.static yX4_within, Cond.initialized RX4, Cond.code yX4_within cX4_within 3 (some .boolean), Cond.methodLink RX4 109 yX4_ranks, Cond.instanceMethod yX4_ranks, Cond.selects RX4 yX4_ranks yX4_ranks, Cond.code yX4_ranks cX4_ranks 4 none, Cond.methodLink RX4 42 yX4_isNamed, Cond.instanceMethod yX4_isNamed, Cond.selects RX4 yX4_isNamed yX4_isNamed, Cond.code yX4_isNamed cX4_isNamed 2 (some .boolean), Cond.methodLink RX4 106 yX4_isAhead, Cond.instanceMethod yX4_isAhead, Cond.selects RX4 yX4_isAhead yX4_isAhead, Cond.code yX4_isAhead cX4_isAhead 4 (some .boolean), Cond.methodLink RX4 100 yX4_padded, Cond.static yX4_padded, Cond.code yX4_padded cX4_padded 2 (some .int)]
def wsX4_nameAt_r2 : List Cond := [Cond.constant RX4 41 (14348907)]
def wsX4_nameAt : List Cond := .code yX4_nameAt cX4_nameAt 3 (some .int) :: ((wsX4_nameAt_r1 ++ wsX4_nameAt_r2) ++ wsX40)
def wsX4_begins : List Cond := .code yX4_begins cX4_begins 3 (some .boolean) :: ([])
def wsX4_beginning : List Cond := .code yX4_beginning cX4_beginning 4 (some .int) :: ([.constant RX4 61 (-1000001), .fieldLink RX4 7 "NameRollsModel" "now" "[I", .methodLink RX4 58 yX4_isName, .static yX4_isName, .initialized RX4, .code yX4_isName cX4_isName 3 (some .boolean), .constant RX4 36 (387420488), .methodLink RX4 37 yX4_within, .static yX4_within, .code yX4_within cX4_within 3 (some .boolean), .methodLink RX4 42 yX4_isNamed, .instanceMethod yX4_isNamed, .selects RX4 yX4_isNamed yX4_isNamed, .code yX4_isNamed cX4_isNamed 2 (some .boolean), .methodLink RX4 116 yX4_begins, .static yX4_begins, .code yX4_begins cX4_begins 3 (some .boolean)] ++ wsX40)
def wsX4_behind_r1 : List Cond := [Cond.constant RX4 61 (-1000001), Cond.fieldLink RX4 103 "NameRollsModel" "named" "I", Cond.fieldLink RX4 7 "NameRollsModel" "now" "[I", Cond.fieldLink RX4 22 "NameRollsModel" "ranked" "[I", Cond.constant RX4 99 (-1000004), Cond.methodLink RX4 58 yX4_isName, Cond.static yX4_isName, Cond.initialized RX4, Cond.code yX4_isName cX4_isName 3 (some .boolean), Cond.constant RX4 36 (387420488), Cond.methodLink RX4 37 yX4_within, Cond.static yX4_within, Cond.code yX4_within cX4_within 3 (some .boolean), Cond.methodLink RX4 109 yX4_ranks, Cond.instanceMethod yX4_ranks, Cond.selects RX4 yX4_ranks yX4_ranks, Cond.code yX4_ranks cX4_ranks 4 none, Cond.methodLink RX4 42 yX4_isNamed, Cond.instanceMethod yX4_isNamed, Cond.selects RX4 yX4_isNamed yX4_isNamed, Cond.code yX4_isNamed cX4_isNamed 2 (some .boolean), Cond.methodLink RX4 106 yX4_isAhead, Cond.instanceMethod yX4_isAhead, Cond.selects RX4 yX4_isAhead yX4_isAhead]
def wsX4_behind_r2 : List Cond := [Cond.code yX4_isAhead cX4_isAhead 4 (some .boolean), Cond.methodLink RX4 100 yX4_padded, Cond.static yX4_padded, Cond.code yX4_padded cX4_padded 2 (some .int), Cond.constant RX4 41 (14348907)]
def wsX4_behind : List Cond := .code yX4_behind cX4_behind 3 (some .int) :: ((wsX4_behind_r1 ++ wsX4_behind_r2) ++ wsX40)
def wsX4_wouldBe_r1 : List Cond := [Cond.constant RX4 61 (-1000001), Cond.fieldLink RX4 103 "NameRollsModel" "named" "I", Cond.fieldLink RX4 22 "NameRollsModel" "ranked" "[I", Cond.constant RX4 99 (-1000004), Cond.methodLink RX4 37 yX4_within, Cond.static yX4_within, Cond.initialized RX4, Cond.code yX4_within cX4_within 3 (some .boolean), Cond.methodLink RX4 109 yX4_ranks, Cond.instanceMethod yX4_ranks, Cond.selects RX4 yX4_ranks yX4_ranks, Cond.code yX4_ranks cX4_ranks 4 none, Cond.methodLink RX4 42 yX4_isNamed, Cond.instanceMethod yX4_isNamed, Cond.selects RX4 yX4_isNamed yX4_isNamed, Cond.code yX4_isNamed cX4_isNamed 2 (some .boolean), Cond.fieldLink RX4 7 "NameRollsModel" "now" "[I", Cond.methodLink RX4 106 yX4_isAhead, Cond.instanceMethod yX4_isAhead, Cond.selects RX4 yX4_isAhead yX4_isAhead, Cond.code yX4_isAhead cX4_isAhead 4 (some .boolean), Cond.methodLink RX4 100 yX4_padded, Cond.static yX4_padded, Cond.code yX4_padded cX4_padded 2 (some .int)]
def wsX4_wouldBe_r2 : List Cond := [Cond.constant RX4 41 (14348907)]
def wsX4_wouldBe : List Cond := .code yX4_wouldBe cX4_wouldBe 4 (some .int) :: ((wsX4_wouldBe_r1 ++ wsX4_wouldBe_r2) ++ wsX40)
def wsX4_standing : List Cond := .code yX4_standing cX4_standing 6 (some .int) :: ([.fieldLink RX4 7 "NameRollsModel" "now" "[I", .constant RX4 46 (1000000), .methodLink RX4 75 yX4_ofCompaction, .instanceMethod yX4_ofCompaction, .selects RX4 yX4_ofCompaction yX4_ofCompaction, .initialized RX4, .code yX4_ofCompaction cX4_ofCompaction 3 (some .int), .methodLink RX4 82 yX4_reasonOf, .instanceMethod yX4_reasonOf, .selects RX4 yX4_reasonOf yX4_reasonOf, .code yX4_reasonOf cX4_reasonOf 7 (some .int), .fieldLink RX4 79 "NameRollsModel" "followed" "I", .methodLink RX4 72 yX4_kept, .instanceMethod yX4_kept, .selects RX4 yX4_kept yX4_kept, .code yX4_kept cX4_kept 1 (some .int), .methodLink RX4 42 yX4_isNamed, .instanceMethod yX4_isNamed, .selects RX4 yX4_isNamed yX4_isNamed, .code yX4_isNamed cX4_isNamed 2 (some .boolean)] ++ wsX40)
def wsX4_compaction_r1 : List Cond := [Cond.constant RX4 61 (-1000001), Cond.constant RX4 99 (-1000004), Cond.methodLink RX4 37 yX4_within, Cond.static yX4_within, Cond.initialized RX4, Cond.code yX4_within cX4_within 3 (some .boolean), Cond.methodLink RX4 72 yX4_kept, Cond.instanceMethod yX4_kept, Cond.selects RX4 yX4_kept yX4_kept, Cond.code yX4_kept cX4_kept 1 (some .int), Cond.fieldLink RX4 7 "NameRollsModel" "now" "[I", Cond.methodLink RX4 75 yX4_ofCompaction, Cond.instanceMethod yX4_ofCompaction, Cond.selects RX4 yX4_ofCompaction yX4_ofCompaction, Cond.code yX4_ofCompaction cX4_ofCompaction 3 (some .int), Cond.methodLink RX4 119 yX4_standing, Cond.instanceMethod yX4_standing, Cond.selects RX4 yX4_standing yX4_standing, Cond.code yX4_standing cX4_standing 6 (some .int), Cond.constant RX4 46 (1000000), Cond.methodLink RX4 82 yX4_reasonOf, Cond.instanceMethod yX4_reasonOf, Cond.selects RX4 yX4_reasonOf yX4_reasonOf, Cond.code yX4_reasonOf cX4_reasonOf 7 (some .int)]
def wsX4_compaction_r2 : List Cond := [Cond.fieldLink RX4 79 "NameRollsModel" "followed" "I", Cond.methodLink RX4 42 yX4_isNamed, Cond.instanceMethod yX4_isNamed, Cond.selects RX4 yX4_isNamed yX4_isNamed, Cond.code yX4_isNamed cX4_isNamed 2 (some .boolean)]
def wsX4_compaction : List Cond := .code yX4_compaction cX4_compaction 3 (some .int) :: ((wsX4_compaction_r1 ++ wsX4_compaction_r2) ++ wsX40)
def wsX4_namesAll : List Cond := .code yX4_namesAll cX4_namesAll 3 (some .int) :: ([.methodLink RX4 42 yX4_isNamed, .instanceMethod yX4_isNamed, .selects RX4 yX4_isNamed yX4_isNamed, .initialized RX4, .code yX4_isNamed cX4_isNamed 2 (some .boolean), .fieldLink RX4 7 "NameRollsModel" "now" "[I"] ++ wsX40)
def wsX4_usersAll : List Cond := .code yX4_usersAll cX4_usersAll 3 (some .int) :: ([.fieldLink RX4 7 "NameRollsModel" "now" "[I"] ++ wsX40)
def wsX4_highest : List Cond := .code yX4_highest cX4_highest 3 (some .int) :: ([.methodLink RX4 42 yX4_isNamed, .instanceMethod yX4_isNamed, .selects RX4 yX4_isNamed yX4_isNamed, .initialized RX4, .code yX4_isNamed cX4_isNamed 2 (some .boolean), .fieldLink RX4 7 "NameRollsModel" "now" "[I"] ++ wsX40)
def wsX4_count_r1 : List Cond := [Cond.fieldLink RX4 7 "NameRollsModel" "now" "[I", Cond.fieldLink RX4 31 "NameRollsModel" "saved" "I", Cond.fieldLink RX4 131 "NameRollsModel" "length" "I", Cond.constant RX4 61 (-1000001), Cond.methodLink RX4 122 yX4_namesAll, Cond.instanceMethod yX4_namesAll, Cond.selects RX4 yX4_namesAll yX4_namesAll, Cond.initialized RX4, Cond.code yX4_namesAll cX4_namesAll 3 (some .int), Cond.methodLink RX4 42 yX4_isNamed, Cond.instanceMethod yX4_isNamed, Cond.selects RX4 yX4_isNamed yX4_isNamed, Cond.code yX4_isNamed cX4_isNamed 2 (some .boolean), Cond.methodLink RX4 125 yX4_usersAll, Cond.instanceMethod yX4_usersAll, Cond.selects RX4 yX4_usersAll yX4_usersAll, Cond.code yX4_usersAll cX4_usersAll 3 (some .int), Cond.methodLink RX4 86 yX4_cellsWith, Cond.instanceMethod yX4_cellsWith, Cond.selects RX4 yX4_cellsWith yX4_cellsWith, Cond.code yX4_cellsWith cX4_cellsWith 4 (some .int), Cond.methodLink RX4 128 yX4_highest, Cond.instanceMethod yX4_highest, Cond.selects RX4 yX4_highest yX4_highest]
def wsX4_count_r2 : List Cond := [Cond.code yX4_highest cX4_highest 3 (some .int), Cond.methodLink RX4 72 yX4_kept, Cond.instanceMethod yX4_kept, Cond.selects RX4 yX4_kept yX4_kept, Cond.code yX4_kept cX4_kept 1 (some .int)]
def wsX4_count : List Cond := .code yX4_count cX4_count 2 (some .int) :: ((wsX4_count_r1 ++ wsX4_count_r2) ++ wsX40)
def wsX4_type : List Cond := .code yX4_type cX4_type 2 (some .int) :: ([.constant RX4 61 (-1000001), .fieldLink RX4 131 "NameRollsModel" "length" "I", .constant RX4 65 (-1000003), .fieldLink RX4 19 "NameRollsModel" "text" "[I", .methodLink RX4 37 yX4_within, .static yX4_within, .initialized RX4, .code yX4_within cX4_within 3 (some .boolean)] ++ wsX40)
def wsX4_clearText : List Cond := .code yX4_clearText cX4_clearText 2 (some .int) :: ([.fieldLink RX4 131 "NameRollsModel" "length" "I"] ++ wsX40)
def wsX4_letter : List Cond := .code yX4_letter cX4_letter 2 (some .int) :: ([.fieldLink RX4 131 "NameRollsModel" "length" "I", .fieldLink RX4 19 "NameRollsModel" "text" "[I"] ++ wsX40)
def wsX4_passes : List Cond := .code yX4_passes cX4_passes 3 (some .boolean) :: ([.fieldLink RX4 134 "NameRollsModel" "end" "I", .methodLink RX4 137 yX4_letter, .instanceMethod yX4_letter, .selects RX4 yX4_letter yX4_letter, .initialized RX4, .code yX4_letter cX4_letter 2 (some .int), .fieldLink RX4 131 "NameRollsModel" "length" "I", .fieldLink RX4 19 "NameRollsModel" "text" "[I"] ++ wsX40)
def wsX4_digit : List Cond := .code yX4_digit cX4_digit 3 (some .boolean) :: ([.fieldLink RX4 134 "NameRollsModel" "end" "I", .fieldLink RX4 28 "NameRollsModel" "digits" "[I", .methodLink RX4 137 yX4_letter, .instanceMethod yX4_letter, .selects RX4 yX4_letter yX4_letter, .initialized RX4, .code yX4_letter cX4_letter 2 (some .int), .fieldLink RX4 131 "NameRollsModel" "length" "I", .fieldLink RX4 19 "NameRollsModel" "text" "[I", .methodLink RX4 37 yX4_within, .static yX4_within, .code yX4_within cX4_within 3 (some .boolean)] ++ wsX40)
def wsX4_name : List Cond := .code yX4_name cX4_name 1 (some .boolean) :: ([.fieldLink RX4 140 "NameRollsModel" "letters" "I", .fieldLink RX4 143 "NameRollsModel" "word" "I", .fieldLink RX4 134 "NameRollsModel" "end" "I", .methodLink RX4 137 yX4_letter, .instanceMethod yX4_letter, .selects RX4 yX4_letter yX4_letter, .initialized RX4, .code yX4_letter cX4_letter 2 (some .int), .fieldLink RX4 131 "NameRollsModel" "length" "I", .fieldLink RX4 19 "NameRollsModel" "text" "[I", .methodLink RX4 37 yX4_within, .static yX4_within, .code yX4_within cX4_within 3 (some .boolean)] ++ wsX40)
def wsX4_reads_r1 : List Cond := [Cond.fieldLink RX4 134 "NameRollsModel" "end" "I", Cond.methodLink RX4 137 yX4_letter, Cond.instanceMethod yX4_letter, Cond.selects RX4 yX4_letter yX4_letter, Cond.initialized RX4, Cond.code yX4_letter cX4_letter 2 (some .int), Cond.fieldLink RX4 131 "NameRollsModel" "length" "I", Cond.fieldLink RX4 19 "NameRollsModel" "text" "[I", Cond.methodLink RX4 146 yX4_digit, Cond.instanceMethod yX4_digit, Cond.selects RX4 yX4_digit yX4_digit, Cond.code yX4_digit cX4_digit 3 (some .boolean), Cond.fieldLink RX4 28 "NameRollsModel" "digits" "[I", Cond.methodLink RX4 37 yX4_within, Cond.static yX4_within, Cond.code yX4_within cX4_within 3 (some .boolean), Cond.methodLink RX4 149 yX4_passes, Cond.instanceMethod yX4_passes, Cond.selects RX4 yX4_passes yX4_passes, Cond.code yX4_passes cX4_passes 3 (some .boolean), Cond.methodLink RX4 152 yX4_name, Cond.instanceMethod yX4_name, Cond.selects RX4 yX4_name yX4_name, Cond.code yX4_name cX4_name 1 (some .boolean)]
def wsX4_reads_r2 : List Cond := [Cond.fieldLink RX4 140 "NameRollsModel" "letters" "I", Cond.fieldLink RX4 143 "NameRollsModel" "word" "I"]
def wsX4_reads : List Cond := .code yX4_reads cX4_reads 2 (some .boolean) :: ((wsX4_reads_r1 ++ wsX4_reads_r2) ++ wsX40)
def wsX4_wrong : List Cond := .code yX4_wrong cX4_wrong 2 (some .int) :: ([.fieldLink RX4 28 "NameRollsModel" "digits" "[I", .fieldLink RX4 140 "NameRollsModel" "letters" "I"] ++ wsX40)
def wsX4_does_r1 : List Cond := [Cond.fieldLink RX4 143 "NameRollsModel" "word" "I", Cond.fieldLink RX4 7 "NameRollsModel" "now" "[I", Cond.fieldLink RX4 28 "NameRollsModel" "digits" "[I", Cond.methodLink RX4 47 yX4_numberWith, Cond.instanceMethod yX4_numberWith, Cond.selects RX4 yX4_numberWith yX4_numberWith, Cond.initialized RX4, Cond.code yX4_numberWith cX4_numberWith 3 (some .int), Cond.methodLink RX4 113 yX4_compacts, Cond.instanceMethod yX4_compacts, Cond.selects RX4 yX4_compacts yX4_compacts, Cond.code yX4_compacts cX4_compacts 6 (some .int), Cond.fieldLink RX4 25 "NameRollsModel" "before" "[I", Cond.fieldLink RX4 103 "NameRollsModel" "named" "I", Cond.fieldLink RX4 22 "NameRollsModel" "ranked" "[I", Cond.methodLink RX4 109 yX4_ranks, Cond.instanceMethod yX4_ranks, Cond.selects RX4 yX4_ranks yX4_ranks, Cond.code yX4_ranks cX4_ranks 4 none, Cond.methodLink RX4 42 yX4_isNamed, Cond.instanceMethod yX4_isNamed, Cond.selects RX4 yX4_isNamed yX4_isNamed, Cond.code yX4_isNamed cX4_isNamed 2 (some .boolean), Cond.methodLink RX4 106 yX4_isAhead]
def wsX4_does_r2 : List Cond := [Cond.instanceMethod yX4_isAhead, Cond.selects RX4 yX4_isAhead yX4_isAhead, Cond.code yX4_isAhead cX4_isAhead 4 (some .boolean), Cond.methodLink RX4 100 yX4_padded, Cond.static yX4_padded, Cond.code yX4_padded cX4_padded 2 (some .int), Cond.constant RX4 41 (14348907), Cond.methodLink RX4 62 yX4_canAcquire, Cond.instanceMethod yX4_canAcquire, Cond.selects RX4 yX4_canAcquire yX4_canAcquire, Cond.code yX4_canAcquire cX4_canAcquire 3 (some .boolean), Cond.methodLink RX4 51 yX4_freeNumber, Cond.instanceMethod yX4_freeNumber, Cond.selects RX4 yX4_freeNumber yX4_freeNumber, Cond.code yX4_freeNumber cX4_freeNumber 2 (some .int), Cond.methodLink RX4 69 yX4_acquires, Cond.instanceMethod yX4_acquires, Cond.selects RX4 yX4_acquires yX4_acquires, Cond.code yX4_acquires cX4_acquires 3 (some .int), Cond.methodLink RX4 55 yX4_tagOf, Cond.instanceMethod yX4_tagOf, Cond.selects RX4 yX4_tagOf yX4_tagOf, Cond.code yX4_tagOf cX4_tagOf 2 (some .int), Cond.constant RX4 46 (1000000)]
def wsX4_does_r3 : List Cond := [Cond.methodLink RX4 86 yX4_cellsWith, Cond.instanceMethod yX4_cellsWith, Cond.selects RX4 yX4_cellsWith yX4_cellsWith, Cond.code yX4_cellsWith cX4_cellsWith 4 (some .int), Cond.methodLink RX4 89 yX4_givesBack, Cond.instanceMethod yX4_givesBack, Cond.selects RX4 yX4_givesBack yX4_givesBack, Cond.code yX4_givesBack cX4_givesBack 2 (some .int), Cond.methodLink RX4 96 yX4_puts, Cond.instanceMethod yX4_puts, Cond.selects RX4 yX4_puts yX4_puts, Cond.code yX4_puts cX4_puts 4 (some .int)]
def wsX4_does : List Cond := .code yX4_does cX4_does 4 (some .boolean) :: ((wsX4_does_r1 ++ (wsX4_does_r2 ++ wsX4_does_r3)) ++ wsX40)
def wsX4_doesAll_r1 : List Cond := [Cond.fieldLink RX4 156 "NameRollsModel" "reason" "I", Cond.fieldLink RX4 134 "NameRollsModel" "end" "I", Cond.fieldLink RX4 131 "NameRollsModel" "length" "I", Cond.fieldLink RX4 159 "NameRollsModel" "place" "I", Cond.fieldLink RX4 165 "NameRollsModel" "cause" "I", Cond.methodLink RX4 137 yX4_letter, Cond.instanceMethod yX4_letter, Cond.selects RX4 yX4_letter yX4_letter, Cond.initialized RX4, Cond.code yX4_letter cX4_letter 2 (some .int), Cond.fieldLink RX4 19 "NameRollsModel" "text" "[I", Cond.methodLink RX4 162 yX4_reads, Cond.instanceMethod yX4_reads, Cond.selects RX4 yX4_reads yX4_reads, Cond.code yX4_reads cX4_reads 2 (some .boolean), Cond.methodLink RX4 146 yX4_digit, Cond.instanceMethod yX4_digit, Cond.selects RX4 yX4_digit yX4_digit, Cond.code yX4_digit cX4_digit 3 (some .boolean), Cond.fieldLink RX4 28 "NameRollsModel" "digits" "[I", Cond.methodLink RX4 37 yX4_within, Cond.static yX4_within, Cond.code yX4_within cX4_within 3 (some .boolean), Cond.methodLink RX4 149 yX4_passes]
def wsX4_doesAll_r2 : List Cond := [Cond.instanceMethod yX4_passes, Cond.selects RX4 yX4_passes yX4_passes, Cond.code yX4_passes cX4_passes 3 (some .boolean), Cond.methodLink RX4 152 yX4_name, Cond.instanceMethod yX4_name, Cond.selects RX4 yX4_name yX4_name, Cond.code yX4_name cX4_name 1 (some .boolean), Cond.fieldLink RX4 140 "NameRollsModel" "letters" "I", Cond.fieldLink RX4 143 "NameRollsModel" "word" "I", Cond.methodLink RX4 168 yX4_wrong, Cond.instanceMethod yX4_wrong, Cond.selects RX4 yX4_wrong yX4_wrong, Cond.code yX4_wrong cX4_wrong 2 (some .int), Cond.methodLink RX4 171 yX4_does, Cond.instanceMethod yX4_does, Cond.selects RX4 yX4_does yX4_does, Cond.code yX4_does cX4_does 4 (some .boolean), Cond.fieldLink RX4 7 "NameRollsModel" "now" "[I", Cond.methodLink RX4 47 yX4_numberWith, Cond.instanceMethod yX4_numberWith, Cond.selects RX4 yX4_numberWith yX4_numberWith, Cond.code yX4_numberWith cX4_numberWith 3 (some .int), Cond.methodLink RX4 113 yX4_compacts, Cond.instanceMethod yX4_compacts]
def wsX4_doesAll_r3 : List Cond := [Cond.selects RX4 yX4_compacts yX4_compacts, Cond.code yX4_compacts cX4_compacts 6 (some .int), Cond.fieldLink RX4 25 "NameRollsModel" "before" "[I", Cond.fieldLink RX4 103 "NameRollsModel" "named" "I", Cond.fieldLink RX4 22 "NameRollsModel" "ranked" "[I", Cond.methodLink RX4 109 yX4_ranks, Cond.instanceMethod yX4_ranks, Cond.selects RX4 yX4_ranks yX4_ranks, Cond.code yX4_ranks cX4_ranks 4 none, Cond.methodLink RX4 42 yX4_isNamed, Cond.instanceMethod yX4_isNamed, Cond.selects RX4 yX4_isNamed yX4_isNamed, Cond.code yX4_isNamed cX4_isNamed 2 (some .boolean), Cond.methodLink RX4 106 yX4_isAhead, Cond.instanceMethod yX4_isAhead, Cond.selects RX4 yX4_isAhead yX4_isAhead, Cond.code yX4_isAhead cX4_isAhead 4 (some .boolean), Cond.methodLink RX4 100 yX4_padded, Cond.static yX4_padded, Cond.code yX4_padded cX4_padded 2 (some .int), Cond.constant RX4 41 (14348907), Cond.methodLink RX4 62 yX4_canAcquire, Cond.instanceMethod yX4_canAcquire, Cond.selects RX4 yX4_canAcquire yX4_canAcquire]
def wsX4_doesAll_r4 : List Cond := [Cond.code yX4_canAcquire cX4_canAcquire 3 (some .boolean), Cond.methodLink RX4 51 yX4_freeNumber, Cond.instanceMethod yX4_freeNumber, Cond.selects RX4 yX4_freeNumber yX4_freeNumber, Cond.code yX4_freeNumber cX4_freeNumber 2 (some .int), Cond.methodLink RX4 69 yX4_acquires, Cond.instanceMethod yX4_acquires, Cond.selects RX4 yX4_acquires yX4_acquires, Cond.code yX4_acquires cX4_acquires 3 (some .int), Cond.methodLink RX4 55 yX4_tagOf, Cond.instanceMethod yX4_tagOf, Cond.selects RX4 yX4_tagOf yX4_tagOf, Cond.code yX4_tagOf cX4_tagOf 2 (some .int), Cond.constant RX4 46 (1000000), Cond.methodLink RX4 86 yX4_cellsWith, Cond.instanceMethod yX4_cellsWith, Cond.selects RX4 yX4_cellsWith yX4_cellsWith, Cond.code yX4_cellsWith cX4_cellsWith 4 (some .int), Cond.methodLink RX4 89 yX4_givesBack, Cond.instanceMethod yX4_givesBack, Cond.selects RX4 yX4_givesBack yX4_givesBack, Cond.code yX4_givesBack cX4_givesBack 2 (some .int), Cond.methodLink RX4 96 yX4_puts, Cond.instanceMethod yX4_puts]
def wsX4_doesAll_r5 : List Cond := [Cond.selects RX4 yX4_puts yX4_puts, Cond.code yX4_puts cX4_puts 4 (some .int)]
def wsX4_doesAll : List Cond := .code yX4_doesAll cX4_doesAll 3 (some .int) :: ((wsX4_doesAll_r1 ++ (wsX4_doesAll_r2 ++ (wsX4_doesAll_r3 ++ (wsX4_doesAll_r4 ++ wsX4_doesAll_r5)))) ++ wsX40)
def wsX4_lays : List Cond := .code yX4_lays cX4_lays 2 none :: ([.fieldLink RX4 16 "NameRollsModel" "aside" "[I", .fieldLink RX4 7 "NameRollsModel" "now" "[I"] ++ wsX40)
def wsX4_back : List Cond := .code yX4_back cX4_back 2 none :: ([.fieldLink RX4 7 "NameRollsModel" "now" "[I", .fieldLink RX4 16 "NameRollsModel" "aside" "[I"] ++ wsX40)
def wsX4_fault_r1 : List Cond := [Cond.constant RX4 61 (-1000001), Cond.fieldLink RX4 156 "NameRollsModel" "reason" "I", Cond.constant RX4 99 (-1000004), Cond.fieldLink RX4 159 "NameRollsModel" "place" "I", Cond.fieldLink RX4 165 "NameRollsModel" "cause" "I", Cond.methodLink RX4 37 yX4_within, Cond.static yX4_within, Cond.initialized RX4, Cond.code yX4_within cX4_within 3 (some .boolean), Cond.methodLink RX4 174 yX4_lays, Cond.instanceMethod yX4_lays, Cond.selects RX4 yX4_lays yX4_lays, Cond.code yX4_lays cX4_lays 2 none, Cond.fieldLink RX4 16 "NameRollsModel" "aside" "[I", Cond.fieldLink RX4 7 "NameRollsModel" "now" "[I", Cond.methodLink RX4 177 yX4_doesAll, Cond.instanceMethod yX4_doesAll, Cond.selects RX4 yX4_doesAll yX4_doesAll, Cond.code yX4_doesAll cX4_doesAll 3 (some .int), Cond.fieldLink RX4 134 "NameRollsModel" "end" "I", Cond.fieldLink RX4 131 "NameRollsModel" "length" "I", Cond.methodLink RX4 137 yX4_letter, Cond.instanceMethod yX4_letter, Cond.selects RX4 yX4_letter yX4_letter]
def wsX4_fault_r2 : List Cond := [Cond.code yX4_letter cX4_letter 2 (some .int), Cond.fieldLink RX4 19 "NameRollsModel" "text" "[I", Cond.methodLink RX4 162 yX4_reads, Cond.instanceMethod yX4_reads, Cond.selects RX4 yX4_reads yX4_reads, Cond.code yX4_reads cX4_reads 2 (some .boolean), Cond.methodLink RX4 146 yX4_digit, Cond.instanceMethod yX4_digit, Cond.selects RX4 yX4_digit yX4_digit, Cond.code yX4_digit cX4_digit 3 (some .boolean), Cond.fieldLink RX4 28 "NameRollsModel" "digits" "[I", Cond.methodLink RX4 149 yX4_passes, Cond.instanceMethod yX4_passes, Cond.selects RX4 yX4_passes yX4_passes, Cond.code yX4_passes cX4_passes 3 (some .boolean), Cond.methodLink RX4 152 yX4_name, Cond.instanceMethod yX4_name, Cond.selects RX4 yX4_name yX4_name, Cond.code yX4_name cX4_name 1 (some .boolean), Cond.fieldLink RX4 140 "NameRollsModel" "letters" "I", Cond.fieldLink RX4 143 "NameRollsModel" "word" "I", Cond.methodLink RX4 168 yX4_wrong, Cond.instanceMethod yX4_wrong, Cond.selects RX4 yX4_wrong yX4_wrong]
def wsX4_fault_r3 : List Cond := [Cond.code yX4_wrong cX4_wrong 2 (some .int), Cond.methodLink RX4 171 yX4_does, Cond.instanceMethod yX4_does, Cond.selects RX4 yX4_does yX4_does, Cond.code yX4_does cX4_does 4 (some .boolean), Cond.methodLink RX4 47 yX4_numberWith, Cond.instanceMethod yX4_numberWith, Cond.selects RX4 yX4_numberWith yX4_numberWith, Cond.code yX4_numberWith cX4_numberWith 3 (some .int), Cond.methodLink RX4 113 yX4_compacts, Cond.instanceMethod yX4_compacts, Cond.selects RX4 yX4_compacts yX4_compacts, Cond.code yX4_compacts cX4_compacts 6 (some .int), Cond.fieldLink RX4 25 "NameRollsModel" "before" "[I", Cond.fieldLink RX4 103 "NameRollsModel" "named" "I", Cond.fieldLink RX4 22 "NameRollsModel" "ranked" "[I", Cond.methodLink RX4 109 yX4_ranks, Cond.instanceMethod yX4_ranks, Cond.selects RX4 yX4_ranks yX4_ranks, Cond.code yX4_ranks cX4_ranks 4 none, Cond.methodLink RX4 42 yX4_isNamed, Cond.instanceMethod yX4_isNamed, Cond.selects RX4 yX4_isNamed yX4_isNamed, Cond.code yX4_isNamed cX4_isNamed 2 (some .boolean)]
def wsX4_fault_r4 : List Cond := [Cond.methodLink RX4 106 yX4_isAhead, Cond.instanceMethod yX4_isAhead, Cond.selects RX4 yX4_isAhead yX4_isAhead, Cond.code yX4_isAhead cX4_isAhead 4 (some .boolean), Cond.methodLink RX4 100 yX4_padded, Cond.static yX4_padded, Cond.code yX4_padded cX4_padded 2 (some .int), Cond.constant RX4 41 (14348907), Cond.methodLink RX4 62 yX4_canAcquire, Cond.instanceMethod yX4_canAcquire, Cond.selects RX4 yX4_canAcquire yX4_canAcquire, Cond.code yX4_canAcquire cX4_canAcquire 3 (some .boolean), Cond.methodLink RX4 51 yX4_freeNumber, Cond.instanceMethod yX4_freeNumber, Cond.selects RX4 yX4_freeNumber yX4_freeNumber, Cond.code yX4_freeNumber cX4_freeNumber 2 (some .int), Cond.methodLink RX4 69 yX4_acquires, Cond.instanceMethod yX4_acquires, Cond.selects RX4 yX4_acquires yX4_acquires, Cond.code yX4_acquires cX4_acquires 3 (some .int), Cond.methodLink RX4 55 yX4_tagOf, Cond.instanceMethod yX4_tagOf, Cond.selects RX4 yX4_tagOf yX4_tagOf, Cond.code yX4_tagOf cX4_tagOf 2 (some .int)]
def wsX4_fault_r5 : List Cond := [Cond.constant RX4 46 (1000000), Cond.methodLink RX4 86 yX4_cellsWith, Cond.instanceMethod yX4_cellsWith, Cond.selects RX4 yX4_cellsWith yX4_cellsWith, Cond.code yX4_cellsWith cX4_cellsWith 4 (some .int), Cond.methodLink RX4 89 yX4_givesBack, Cond.instanceMethod yX4_givesBack, Cond.selects RX4 yX4_givesBack yX4_givesBack, Cond.code yX4_givesBack cX4_givesBack 2 (some .int), Cond.methodLink RX4 96 yX4_puts, Cond.instanceMethod yX4_puts, Cond.selects RX4 yX4_puts yX4_puts, Cond.code yX4_puts cX4_puts 4 (some .int), Cond.methodLink RX4 180 yX4_back, Cond.instanceMethod yX4_back, Cond.selects RX4 yX4_back yX4_back, Cond.code yX4_back cX4_back 2 none]
def wsX4_fault : List Cond := .code yX4_fault cX4_fault 2 (some .int) :: ((wsX4_fault_r1 ++ (wsX4_fault_r2 ++ (wsX4_fault_r3 ++ (wsX4_fault_r4 ++ wsX4_fault_r5)))) ++ wsX40)
def wsX4_play_r1 : List Cond := [Cond.fieldLink RX4 156 "NameRollsModel" "reason" "I", Cond.constant RX4 35 (-1000002), Cond.methodLink RX4 174 yX4_lays, Cond.instanceMethod yX4_lays, Cond.selects RX4 yX4_lays yX4_lays, Cond.initialized RX4, Cond.code yX4_lays cX4_lays 2 none, Cond.fieldLink RX4 16 "NameRollsModel" "aside" "[I", Cond.fieldLink RX4 7 "NameRollsModel" "now" "[I", Cond.methodLink RX4 177 yX4_doesAll, Cond.instanceMethod yX4_doesAll, Cond.selects RX4 yX4_doesAll yX4_doesAll, Cond.code yX4_doesAll cX4_doesAll 3 (some .int), Cond.fieldLink RX4 134 "NameRollsModel" "end" "I", Cond.fieldLink RX4 131 "NameRollsModel" "length" "I", Cond.fieldLink RX4 159 "NameRollsModel" "place" "I", Cond.fieldLink RX4 165 "NameRollsModel" "cause" "I", Cond.methodLink RX4 137 yX4_letter, Cond.instanceMethod yX4_letter, Cond.selects RX4 yX4_letter yX4_letter, Cond.code yX4_letter cX4_letter 2 (some .int), Cond.fieldLink RX4 19 "NameRollsModel" "text" "[I", Cond.methodLink RX4 162 yX4_reads, Cond.instanceMethod yX4_reads]
def wsX4_play_r2 : List Cond := [Cond.selects RX4 yX4_reads yX4_reads, Cond.code yX4_reads cX4_reads 2 (some .boolean), Cond.methodLink RX4 146 yX4_digit, Cond.instanceMethod yX4_digit, Cond.selects RX4 yX4_digit yX4_digit, Cond.code yX4_digit cX4_digit 3 (some .boolean), Cond.fieldLink RX4 28 "NameRollsModel" "digits" "[I", Cond.methodLink RX4 37 yX4_within, Cond.static yX4_within, Cond.code yX4_within cX4_within 3 (some .boolean), Cond.methodLink RX4 149 yX4_passes, Cond.instanceMethod yX4_passes, Cond.selects RX4 yX4_passes yX4_passes, Cond.code yX4_passes cX4_passes 3 (some .boolean), Cond.methodLink RX4 152 yX4_name, Cond.instanceMethod yX4_name, Cond.selects RX4 yX4_name yX4_name, Cond.code yX4_name cX4_name 1 (some .boolean), Cond.fieldLink RX4 140 "NameRollsModel" "letters" "I", Cond.fieldLink RX4 143 "NameRollsModel" "word" "I", Cond.methodLink RX4 168 yX4_wrong, Cond.instanceMethod yX4_wrong, Cond.selects RX4 yX4_wrong yX4_wrong, Cond.code yX4_wrong cX4_wrong 2 (some .int)]
def wsX4_play_r3 : List Cond := [Cond.methodLink RX4 171 yX4_does, Cond.instanceMethod yX4_does, Cond.selects RX4 yX4_does yX4_does, Cond.code yX4_does cX4_does 4 (some .boolean), Cond.methodLink RX4 47 yX4_numberWith, Cond.instanceMethod yX4_numberWith, Cond.selects RX4 yX4_numberWith yX4_numberWith, Cond.code yX4_numberWith cX4_numberWith 3 (some .int), Cond.methodLink RX4 113 yX4_compacts, Cond.instanceMethod yX4_compacts, Cond.selects RX4 yX4_compacts yX4_compacts, Cond.code yX4_compacts cX4_compacts 6 (some .int), Cond.fieldLink RX4 25 "NameRollsModel" "before" "[I", Cond.fieldLink RX4 103 "NameRollsModel" "named" "I", Cond.fieldLink RX4 22 "NameRollsModel" "ranked" "[I", Cond.methodLink RX4 109 yX4_ranks, Cond.instanceMethod yX4_ranks, Cond.selects RX4 yX4_ranks yX4_ranks, Cond.code yX4_ranks cX4_ranks 4 none, Cond.methodLink RX4 42 yX4_isNamed, Cond.instanceMethod yX4_isNamed, Cond.selects RX4 yX4_isNamed yX4_isNamed, Cond.code yX4_isNamed cX4_isNamed 2 (some .boolean), Cond.methodLink RX4 106 yX4_isAhead]
def wsX4_play_r4 : List Cond := [Cond.instanceMethod yX4_isAhead, Cond.selects RX4 yX4_isAhead yX4_isAhead, Cond.code yX4_isAhead cX4_isAhead 4 (some .boolean), Cond.methodLink RX4 100 yX4_padded, Cond.static yX4_padded, Cond.code yX4_padded cX4_padded 2 (some .int), Cond.constant RX4 41 (14348907), Cond.methodLink RX4 62 yX4_canAcquire, Cond.instanceMethod yX4_canAcquire, Cond.selects RX4 yX4_canAcquire yX4_canAcquire, Cond.code yX4_canAcquire cX4_canAcquire 3 (some .boolean), Cond.methodLink RX4 51 yX4_freeNumber, Cond.instanceMethod yX4_freeNumber, Cond.selects RX4 yX4_freeNumber yX4_freeNumber, Cond.code yX4_freeNumber cX4_freeNumber 2 (some .int), Cond.methodLink RX4 69 yX4_acquires, Cond.instanceMethod yX4_acquires, Cond.selects RX4 yX4_acquires yX4_acquires, Cond.code yX4_acquires cX4_acquires 3 (some .int), Cond.methodLink RX4 55 yX4_tagOf, Cond.instanceMethod yX4_tagOf, Cond.selects RX4 yX4_tagOf yX4_tagOf, Cond.code yX4_tagOf cX4_tagOf 2 (some .int), Cond.constant RX4 46 (1000000)]
def wsX4_play_r5 : List Cond := [Cond.methodLink RX4 86 yX4_cellsWith, Cond.instanceMethod yX4_cellsWith, Cond.selects RX4 yX4_cellsWith yX4_cellsWith, Cond.code yX4_cellsWith cX4_cellsWith 4 (some .int), Cond.methodLink RX4 89 yX4_givesBack, Cond.instanceMethod yX4_givesBack, Cond.selects RX4 yX4_givesBack yX4_givesBack, Cond.code yX4_givesBack cX4_givesBack 2 (some .int), Cond.methodLink RX4 96 yX4_puts, Cond.instanceMethod yX4_puts, Cond.selects RX4 yX4_puts yX4_puts, Cond.code yX4_puts cX4_puts 4 (some .int), Cond.methodLink RX4 180 yX4_back, Cond.instanceMethod yX4_back, Cond.selects RX4 yX4_back yX4_back, Cond.code yX4_back cX4_back 2 none, Cond.methodLink RX4 66 yX4_saves, Cond.instanceMethod yX4_saves, Cond.selects RX4 yX4_saves yX4_saves, Cond.code yX4_saves cX4_saves 2 none, Cond.fieldLink RX4 31 "NameRollsModel" "saved" "I", Cond.fieldLink RX4 13 "NameRollsModel" "past" "[I"]
def wsX4_play : List Cond := .code yX4_play cX4_play 1 (some .int) :: ((wsX4_play_r1 ++ (wsX4_play_r2 ++ (wsX4_play_r3 ++ (wsX4_play_r4 ++ wsX4_play_r5)))) ++ wsX40)
def wsJ9_min_7cf53 : List Cond := .code yJ9_min_7cf53 cJ9_min_7cf53 2 (some .int) :: ([])
def wsL_law_r1 : List Cond := [Cond.classLink RL 7 RX3, Cond.instantiable RX3 5, Cond.initialized RX3, Cond.classLink RL 10 RX4, Cond.instantiable RX4 17, Cond.initialized RX4, Cond.methodLink RL 9 yX3_init, Cond.instanceMethod yX3_init, Cond.code yX3_init cX3_init 2 none, Cond.methodLink RX3 1 objectInit, Cond.instanceMethod objectInit, Cond.code objectInit ⟨#[0xb1]⟩ 1 none, Cond.classLink RX3 7 RX1, Cond.instantiable RX1 15, Cond.initialized RX1, Cond.fieldLink RX3 10 "NameRolls" "now" "LNameRolls$Roll;", Cond.fieldLink RX3 16 "NameRolls" "past" "[LNameRolls$Roll;", Cond.classLink RX3 20 RX2, Cond.instantiable RX2 2, Cond.initialized RX2, Cond.fieldLink RX3 23 "NameRolls" "text" "LNameRolls$Text;", Cond.classLink RX3 27 RX0, Cond.instantiable RX0 12, Cond.initialized RX0]
def wsL_law_r2 : List Cond := [Cond.fieldLink RX3 30 "NameRolls" "player" "LNameRolls$Player;", Cond.methodLink RX3 9 yX1_init, Cond.instanceMethod yX1_init, Cond.code yX1_init cX1_init 1 none, Cond.methodLink RX1 3 objectInit, Cond.arrayClass .int, Cond.fieldLink RX1 9 "NameRolls$Roll" "names" "[I", Cond.fieldLink RX1 15 "NameRolls$Roll" "users" "[I", Cond.fieldLink RX1 18 "NameRolls$Roll" "years" "[I", Cond.fieldLink RX1 21 "NameRolls$Roll" "cells" "[I", Cond.fieldLink RX1 24 "NameRolls$Roll" "rules" "[I", Cond.fieldLink RX1 27 "NameRolls$Roll" "namesThen" "[I", Cond.fieldLink RX1 30 "NameRolls$Roll" "movedThen" "[I", Cond.fieldLink RX1 33 "NameRolls$Roll" "yearsThen" "[I", Cond.fieldLink RX1 36 "NameRolls$Roll" "numbersBehind" "[I", Cond.fieldLink RX1 39 "NameRolls$Roll" "yearsBehind" "[I", Cond.fieldLink RX1 42 "NameRolls$Roll" "oldNames" "[I", Cond.fieldLink RX1 45 "NameRolls$Roll" "oldUsers" "[I", Cond.methodLink RX1 48 yJ7_fill_53178, Cond.static yJ7_fill_53178, Cond.initialized RJ7, Cond.code yJ7_fill_53178 cJ7_fill_53178 4 none, Cond.instanceMethod yX2_init, Cond.code yX2_init cX2_init 1 none]
def wsL_law_r3 : List Cond := [Cond.methodLink RX2 3 objectInit, Cond.arrayClass .char, Cond.fieldLink RX2 9 "NameRolls$Text" "signs" "[C", Cond.instanceMethod yX0_init, Cond.code yX0_init cX0_init 1 none, Cond.methodLink RX0 3 objectInit, Cond.classLink RX0 9 RX1, Cond.fieldLink RX0 12 "NameRolls$Player" "trial" "LNameRolls$Roll;", Cond.methodLink RX0 11 yX1_init, Cond.methodLink RL 12 yX4_init, Cond.instanceMethod yX4_init, Cond.code yX4_init cX4_init 2 none, Cond.methodLink RX4 1 objectInit, Cond.fieldLink RX4 7 "NameRollsModel" "now" "[I", Cond.fieldLink RX4 13 "NameRollsModel" "past" "[I", Cond.fieldLink RX4 16 "NameRollsModel" "aside" "[I", Cond.fieldLink RX4 19 "NameRollsModel" "text" "[I", Cond.fieldLink RX4 22 "NameRollsModel" "ranked" "[I", Cond.fieldLink RX4 25 "NameRollsModel" "before" "[I", Cond.fieldLink RX4 28 "NameRollsModel" "digits" "[I", Cond.methodLink RL 13 yX3_acquire, Cond.instanceMethod yX3_acquire, Cond.selects RX3 yX3_acquire yX3_acquire, Cond.code yX3_acquire cX3_acquire 2 (some .int)]
def wsL_law_r4 : List Cond := [Cond.constant RX3 38 (-1000001), Cond.constant RX3 42 (-1000003), Cond.methodLink RX3 34 yX3_isName, Cond.static yX3_isName, Cond.code yX3_isName cX3_isName 3 (some .boolean), Cond.constant RX3 193 (387420488), Cond.methodLink RX3 39 yX1_hasRoomFor, Cond.instanceMethod yX1_hasRoomFor, Cond.selects RX1 yX1_hasRoomFor yX1_hasRoomFor, Cond.code yX1_hasRoomFor cX1_hasRoomFor 3 (some .boolean), Cond.methodLink RX1 80 yX1_numberWith, Cond.instanceMethod yX1_numberWith, Cond.selects RX1 yX1_numberWith yX1_numberWith, Cond.code yX1_numberWith cX1_numberWith 3 (some .int), Cond.methodLink RX1 84 yX1_hasRoomForUser, Cond.instanceMethod yX1_hasRoomForUser, Cond.selects RX1 yX1_hasRoomForUser yX1_hasRoomForUser, Cond.code yX1_hasRoomForUser cX1_hasRoomForUser 2 (some .boolean), Cond.static yX3_isBelow, Cond.code yX3_isBelow cX3_isBelow 2 (some .boolean), Cond.methodLink RX3 43 yX3_recordState, Cond.instanceMethod yX3_recordState, Cond.selects RX3 yX3_recordState yX3_recordState, Cond.code yX3_recordState cX3_recordState 3 none]
def wsL_law_r5 : List Cond := [Cond.fieldLink RX3 160 "NameRolls" "states" "I", Cond.methodLink RX3 166 yX1_copyFrom, Cond.instanceMethod yX1_copyFrom, Cond.selects RX1 yX1_copyFrom yX1_copyFrom, Cond.code yX1_copyFrom cX1_copyFrom 2 none, Cond.methodLink RX1 54 arraycopyName, Cond.native arraycopyName, Cond.static arraycopyName, Cond.initialized "java/lang/System", Cond.fieldLink RX1 60 "NameRolls$Roll" "epoch" "I", Cond.fieldLink RX1 64 "NameRolls$Roll" "gained" "I", Cond.fieldLink RX1 67 "NameRolls$Roll" "lost" "I", Cond.methodLink RX3 46 yX1_enter, Cond.instanceMethod yX1_enter, Cond.selects RX1 yX1_enter yX1_enter, Cond.code yX1_enter cX1_enter 3 (some .int), Cond.methodLink RX1 88 yX1_addUser, Cond.instanceMethod yX1_addUser, Cond.selects RX1 yX1_addUser yX1_addUser, Cond.code yX1_addUser cX1_addUser 2 (some .int), Cond.methodLink RX3 50 yX1_tagOf, Cond.instanceMethod yX1_tagOf, Cond.selects RX1 yX1_tagOf yX1_tagOf, Cond.code yX1_tagOf cX1_tagOf 2 (some .int)]
def wsL_law_r6 : List Cond := [Cond.constant RX1 78 (-1000004), Cond.methodLink RX1 74 yX1_tagIn, Cond.static yX1_tagIn, Cond.code yX1_tagIn cX1_tagIn 3 (some .int), Cond.constant RX1 79 (1000000), Cond.methodLink RL 17 yX4_acquire, Cond.instanceMethod yX4_acquire, Cond.selects RX4 yX4_acquire yX4_acquire, Cond.code yX4_acquire cX4_acquire 2 (some .int), Cond.constant RX4 61 (-1000001), Cond.constant RX4 65 (-1000003), Cond.methodLink RX4 58 yX4_isName, Cond.static yX4_isName, Cond.code yX4_isName cX4_isName 3 (some .boolean), Cond.constant RX4 36 (387420488), Cond.methodLink RX4 37 yX4_within, Cond.static yX4_within, Cond.code yX4_within cX4_within 3 (some .boolean), Cond.methodLink RX4 62 yX4_canAcquire, Cond.instanceMethod yX4_canAcquire, Cond.selects RX4 yX4_canAcquire yX4_canAcquire, Cond.code yX4_canAcquire cX4_canAcquire 3 (some .boolean), Cond.methodLink RX4 47 yX4_numberWith, Cond.instanceMethod yX4_numberWith]
def wsL_law_r7 : List Cond := [Cond.selects RX4 yX4_numberWith yX4_numberWith, Cond.code yX4_numberWith cX4_numberWith 3 (some .int), Cond.methodLink RX4 51 yX4_freeNumber, Cond.instanceMethod yX4_freeNumber, Cond.selects RX4 yX4_freeNumber yX4_freeNumber, Cond.code yX4_freeNumber cX4_freeNumber 2 (some .int), Cond.methodLink RX4 42 yX4_isNamed, Cond.instanceMethod yX4_isNamed, Cond.selects RX4 yX4_isNamed yX4_isNamed, Cond.code yX4_isNamed cX4_isNamed 2 (some .boolean), Cond.methodLink RX4 66 yX4_saves, Cond.instanceMethod yX4_saves, Cond.selects RX4 yX4_saves yX4_saves, Cond.code yX4_saves cX4_saves 2 none, Cond.fieldLink RX4 31 "NameRollsModel" "saved" "I", Cond.methodLink RX4 69 yX4_acquires, Cond.instanceMethod yX4_acquires, Cond.selects RX4 yX4_acquires yX4_acquires, Cond.code yX4_acquires cX4_acquires 3 (some .int), Cond.methodLink RX4 55 yX4_tagOf, Cond.instanceMethod yX4_tagOf, Cond.selects RX4 yX4_tagOf yX4_tagOf, Cond.code yX4_tagOf cX4_tagOf 2 (some .int), Cond.constant RX4 46 (1000000)]
def wsL_law_r8 : List Cond := [Cond.methodLink RL 18 yX3_use, Cond.instanceMethod yX3_use, Cond.selects RX3 yX3_use yX3_use, Cond.code yX3_use cX3_use 3 (some .int), Cond.constant RX3 56 (-1000005), Cond.methodLink RX3 53 yX1_standing, Cond.instanceMethod yX1_standing, Cond.selects RX1 yX1_standing yX1_standing, Cond.code yX1_standing cX1_standing 8 (some .int), Cond.methodLink RX3 57 yX1_hasRoomForUser, Cond.methodLink RX3 60 yX1_addUser, Cond.methodLink RL 21 yX4_use, Cond.instanceMethod yX4_use, Cond.selects RX4 yX4_use yX4_use, Cond.code yX4_use cX4_use 2 (some .int), Cond.constant RX4 85 (-1000005), Cond.fieldLink RX4 79 "NameRollsModel" "followed" "I", Cond.methodLink RX4 82 yX4_reasonOf, Cond.instanceMethod yX4_reasonOf, Cond.selects RX4 yX4_reasonOf yX4_reasonOf, Cond.code yX4_reasonOf cX4_reasonOf 7 (some .int), Cond.methodLink RX4 72 yX4_kept, Cond.instanceMethod yX4_kept, Cond.selects RX4 yX4_kept yX4_kept]
def wsL_law_r9 : List Cond := [Cond.code yX4_kept cX4_kept 1 (some .int), Cond.methodLink RX4 75 yX4_ofCompaction, Cond.instanceMethod yX4_ofCompaction, Cond.selects RX4 yX4_ofCompaction yX4_ofCompaction, Cond.code yX4_ofCompaction cX4_ofCompaction 3 (some .int), Cond.methodLink RL 22 yX3_release, Cond.instanceMethod yX3_release, Cond.selects RX3 yX3_release yX3_release, Cond.code yX3_release cX3_release 3 (some .int), Cond.constant RX3 66 (-1000002), Cond.methodLink RX3 63 yX1_hasFreeUser, Cond.instanceMethod yX1_hasFreeUser, Cond.selects RX1 yX1_hasFreeUser yX1_hasFreeUser, Cond.code yX1_hasFreeUser cX1_hasFreeUser 2 (some .boolean), Cond.methodLink RX1 91 yX1_cellsWith, Cond.instanceMethod yX1_cellsWith, Cond.selects RX1 yX1_cellsWith yX1_cellsWith, Cond.code yX1_cellsWith cX1_cellsWith 4 (some .int), Cond.methodLink RX3 67 yX1_giveBack, Cond.instanceMethod yX1_giveBack, Cond.selects RX1 yX1_giveBack yX1_giveBack, Cond.code yX1_giveBack cX1_giveBack 2 (some .int), Cond.methodLink RL 25 yX4_release, Cond.instanceMethod yX4_release]
def wsL_law_r10 : List Cond := [Cond.selects RX4 yX4_release yX4_release, Cond.code yX4_release cX4_release 2 (some .int), Cond.constant RX4 35 (-1000002), Cond.methodLink RX4 86 yX4_cellsWith, Cond.instanceMethod yX4_cellsWith, Cond.selects RX4 yX4_cellsWith yX4_cellsWith, Cond.code yX4_cellsWith cX4_cellsWith 4 (some .int), Cond.methodLink RX4 89 yX4_givesBack, Cond.instanceMethod yX4_givesBack, Cond.selects RX4 yX4_givesBack yX4_givesBack, Cond.code yX4_givesBack cX4_givesBack 2 (some .int), Cond.methodLink RL 26 yX3_follow, Cond.instanceMethod yX3_follow, Cond.selects RX3 yX3_follow yX3_follow, Cond.code yX3_follow cX3_follow 3 (some .int), Cond.methodLink RL 29 yX4_follow, Cond.instanceMethod yX4_follow, Cond.selects RX4 yX4_follow yX4_follow, Cond.code yX4_follow cX4_follow 2 (some .int), Cond.methodLink RL 30 yX3_nameOf, Cond.instanceMethod yX3_nameOf, Cond.selects RX3 yX3_nameOf yX3_nameOf, Cond.code yX3_nameOf cX3_nameOf 3 (some .int), Cond.fieldLink RX3 70 "NameRolls$Roll" "names" "[I"]
def wsL_law_r11 : List Cond := [Cond.methodLink RL 33 yX4_nameOf, Cond.instanceMethod yX4_nameOf, Cond.selects RX4 yX4_nameOf yX4_nameOf, Cond.code yX4_nameOf cX4_nameOf 2 (some .int), Cond.methodLink RL 34 yX3_why, Cond.instanceMethod yX3_why, Cond.selects RX3 yX3_why yX3_why, Cond.code yX3_why cX3_why 3 (some .int), Cond.methodLink RL 37 yX4_why, Cond.instanceMethod yX4_why, Cond.selects RX4 yX4_why yX4_why, Cond.code yX4_why cX4_why 2 (some .int), Cond.methodLink RL 38 yX3_put, Cond.instanceMethod yX3_put, Cond.selects RX3 yX3_put yX3_put, Cond.code yX3_put cX3_put 5 (some .int), Cond.methodLink RX3 74 yX3_isCell, Cond.static yX3_isCell, Cond.code yX3_isCell cX3_isCell 2 (some .boolean), Cond.methodLink RX3 92 yX3_isBelow, Cond.methodLink RX3 78 yX3_cellIndex, Cond.static yX3_cellIndex, Cond.code yX3_cellIndex cX3_cellIndex 2 (some .int), Cond.methodLink RX3 82 yX1_fillCell]
def wsL_law_r12 : List Cond := [Cond.instanceMethod yX1_fillCell, Cond.selects RX1 yX1_fillCell yX1_fillCell, Cond.code yX1_fillCell cX1_fillCell 3 (some .int), Cond.methodLink RX1 94 yX1_giveBack, Cond.methodLink RL 42 yX4_put, Cond.instanceMethod yX4_put, Cond.selects RX4 yX4_put yX4_put, Cond.code yX4_put cX4_put 4 (some .int), Cond.methodLink RX4 92 yX4_isCell, Cond.static yX4_isCell, Cond.code yX4_isCell cX4_isCell 2 (some .boolean), Cond.methodLink RX4 96 yX4_puts, Cond.instanceMethod yX4_puts, Cond.selects RX4 yX4_puts yX4_puts, Cond.code yX4_puts cX4_puts 4 (some .int), Cond.methodLink RL 43 yX3_clear, Cond.instanceMethod yX3_clear, Cond.selects RX3 yX3_clear yX3_clear, Cond.code yX3_clear cX3_clear 3 (some .int), Cond.fieldLink RX3 85 "NameRolls$Roll" "cells" "[I", Cond.methodLink RX3 88 yX1_emptyCell, Cond.instanceMethod yX1_emptyCell, Cond.selects RX1 yX1_emptyCell yX1_emptyCell, Cond.code yX1_emptyCell cX1_emptyCell 3 (some .int)]
def wsL_law_r13 : List Cond := [Cond.methodLink RL 47 yX4_clear, Cond.instanceMethod yX4_clear, Cond.selects RX4 yX4_clear yX4_clear, Cond.code yX4_clear cX4_clear 5 (some .int), Cond.methodLink RL 48 yX3_cellOf, Cond.instanceMethod yX3_cellOf, Cond.selects RX3 yX3_cellOf yX3_cellOf, Cond.code yX3_cellOf cX3_cellOf 4 (some .int), Cond.constant RX3 91 (-1000004), Cond.methodLink RL 51 yX4_cellOf, Cond.instanceMethod yX4_cellOf, Cond.selects RX4 yX4_cellOf yX4_cellOf, Cond.code yX4_cellOf cX4_cellOf 4 (some .int), Cond.constant RX4 99 (-1000004), Cond.methodLink RL 52 yX3_compact, Cond.instanceMethod yX3_compact, Cond.selects RX3 yX3_compact yX3_compact, Cond.code yX3_compact cX3_compact 2 (some .int), Cond.methodLink RX3 95 yX1_hasNextEpoch, Cond.instanceMethod yX1_hasNextEpoch, Cond.selects RX1 yX1_hasNextEpoch yX1_hasNextEpoch, Cond.code yX1_hasNextEpoch cX1_hasNextEpoch 1 (some .boolean), Cond.methodLink RX3 99 yX1_giveAnew, Cond.instanceMethod yX1_giveAnew]
def wsL_law_r14 : List Cond := [Cond.selects RX1 yX1_giveAnew yX1_giveAnew, Cond.code yX1_giveAnew cX1_giveAnew 7 (some .int), Cond.methodLink RX1 104 yX1_placeOf, Cond.instanceMethod yX1_placeOf, Cond.selects RX1 yX1_placeOf yX1_placeOf, Cond.code yX1_placeOf cX1_placeOf 5 (some .int), Cond.methodLink RX1 97 yX1_isAhead, Cond.instanceMethod yX1_isAhead, Cond.selects RX1 yX1_isAhead yX1_isAhead, Cond.code yX1_isAhead cX1_isAhead 4 (some .boolean), Cond.static yX3_orderKey, Cond.code yX3_orderKey cX3_orderKey 3 (some .int), Cond.constant RX3 194 (14348907), Cond.methodLink RX1 108 yX1_namesBelow, Cond.instanceMethod yX1_namesBelow, Cond.selects RX1 yX1_namesBelow yX1_namesBelow, Cond.code yX1_namesBelow cX1_namesBelow 4 (some .int), Cond.methodLink RX1 111 yX1_moveNames, Cond.instanceMethod yX1_moveNames, Cond.selects RX1 yX1_moveNames yX1_moveNames, Cond.code yX1_moveNames cX1_moveNames 4 none, Cond.methodLink RX1 115 yX1_moveCells, Cond.instanceMethod yX1_moveCells, Cond.selects RX1 yX1_moveCells yX1_moveCells]
def wsL_law_r15 : List Cond := [Cond.code yX1_moveCells cX1_moveCells 3 none, Cond.methodLink RL 55 yX4_compact, Cond.instanceMethod yX4_compact, Cond.selects RX4 yX4_compact yX4_compact, Cond.code yX4_compact cX4_compact 2 (some .int), Cond.methodLink RX4 113 yX4_compacts, Cond.instanceMethod yX4_compacts, Cond.selects RX4 yX4_compacts yX4_compacts, Cond.code yX4_compacts cX4_compacts 6 (some .int), Cond.fieldLink RX4 103 "NameRollsModel" "named" "I", Cond.methodLink RX4 109 yX4_ranks, Cond.instanceMethod yX4_ranks, Cond.selects RX4 yX4_ranks yX4_ranks, Cond.code yX4_ranks cX4_ranks 4 none, Cond.methodLink RX4 106 yX4_isAhead, Cond.instanceMethod yX4_isAhead, Cond.selects RX4 yX4_isAhead yX4_isAhead, Cond.code yX4_isAhead cX4_isAhead 4 (some .boolean), Cond.methodLink RX4 100 yX4_padded, Cond.static yX4_padded, Cond.code yX4_padded cX4_padded 2 (some .int), Cond.constant RX4 41 (14348907), Cond.methodLink RL 56 yX3_numberOf, Cond.instanceMethod yX3_numberOf]
def wsL_law_r16 : List Cond := [Cond.selects RX3 yX3_numberOf yX3_numberOf, Cond.code yX3_numberOf cX3_numberOf 4 (some .int), Cond.fieldLink RX3 102 "NameRolls$Roll" "users" "[I", Cond.fieldLink RX3 108 "NameRolls$Roll" "years" "[I", Cond.methodLink RX3 105 yX1_cellsWith, Cond.methodLink RL 59 yX4_numberOf, Cond.instanceMethod yX4_numberOf, Cond.selects RX4 yX4_numberOf yX4_numberOf, Cond.code yX4_numberOf cX4_numberOf 3 (some .int), Cond.methodLink RL 60 yX3_find, Cond.instanceMethod yX3_find, Cond.selects RX3 yX3_find yX3_find, Cond.code yX3_find cX3_find 3 (some .int), Cond.methodLink RX3 111 yX1_numberWith, Cond.methodLink RL 63 yX4_find, Cond.instanceMethod yX4_find, Cond.selects RX4 yX4_find yX4_find, Cond.code yX4_find cX4_find 3 (some .int), Cond.methodLink RL 64 yX3_nameAt, Cond.instanceMethod yX3_nameAt, Cond.selects RX3 yX3_nameAt yX3_nameAt, Cond.code yX3_nameAt cX3_nameAt 4 (some .int), Cond.methodLink RX3 114 yX1_placeOf, Cond.methodLink RL 67 yX4_nameAt]
def wsL_law_r17 : List Cond := [Cond.instanceMethod yX4_nameAt, Cond.selects RX4 yX4_nameAt yX4_nameAt, Cond.code yX4_nameAt cX4_nameAt 3 (some .int), Cond.methodLink RL 68 yX3_beginning, Cond.instanceMethod yX3_beginning, Cond.selects RX3 yX3_beginning yX3_beginning, Cond.code yX3_beginning cX3_beginning 4 (some .int), Cond.methodLink RX3 117 yX3_beginsWith, Cond.static yX3_beginsWith, Cond.code yX3_beginsWith cX3_beginsWith 4 (some .boolean), Cond.methodLink RL 71 yX4_beginning, Cond.instanceMethod yX4_beginning, Cond.selects RX4 yX4_beginning yX4_beginning, Cond.code yX4_beginning cX4_beginning 4 (some .int), Cond.methodLink RX4 116 yX4_begins, Cond.static yX4_begins, Cond.code yX4_begins cX4_begins 3 (some .boolean), Cond.methodLink RL 72 yX3_behind, Cond.instanceMethod yX3_behind, Cond.selects RX3 yX3_behind yX3_behind, Cond.code yX3_behind cX3_behind 7 (some .int), Cond.methodLink RX3 120 yX3_orderKey, Cond.methodLink RL 75 yX4_behind, Cond.instanceMethod yX4_behind]
def wsL_law_r18 : List Cond := [Cond.selects RX4 yX4_behind yX4_behind, Cond.code yX4_behind cX4_behind 3 (some .int), Cond.methodLink RL 76 yX3_wouldBe, Cond.instanceMethod yX3_wouldBe, Cond.selects RX3 yX3_wouldBe yX3_wouldBe, Cond.code yX3_wouldBe cX3_wouldBe 3 (some .int), Cond.methodLink RL 79 yX4_wouldBe, Cond.instanceMethod yX4_wouldBe, Cond.selects RX4 yX4_wouldBe yX4_wouldBe, Cond.code yX4_wouldBe cX4_wouldBe 4 (some .int), Cond.methodLink RL 80 yX3_compaction, Cond.instanceMethod yX3_compaction, Cond.selects RX3 yX3_compaction yX3_compaction, Cond.code yX3_compaction cX3_compaction 4 (some .int), Cond.fieldLink RX3 123 "NameRolls$Roll" "epoch" "I", Cond.fieldLink RX3 127 "NameRolls$Roll" "rules" "[I", Cond.fieldLink RX3 130 "NameRolls$Roll" "namesThen" "[I", Cond.fieldLink RX3 133 "NameRolls$Roll" "movedThen" "[I", Cond.methodLink RX3 136 yX1_stillStanding, Cond.instanceMethod yX1_stillStanding, Cond.selects RX1 yX1_stillStanding yX1_stillStanding, Cond.code yX1_stillStanding cX1_stillStanding 6 (some .int), Cond.methodLink RX1 118 yX1_standing, Cond.methodLink RL 83 yX4_compaction]
def wsL_law_r19 : List Cond := [Cond.instanceMethod yX4_compaction, Cond.selects RX4 yX4_compaction yX4_compaction, Cond.code yX4_compaction cX4_compaction 3 (some .int), Cond.methodLink RX4 119 yX4_standing, Cond.instanceMethod yX4_standing, Cond.selects RX4 yX4_standing yX4_standing, Cond.code yX4_standing cX4_standing 6 (some .int), Cond.methodLink RL 84 yX3_count, Cond.instanceMethod yX3_count, Cond.selects RX3 yX3_count yX3_count, Cond.code yX3_count cX3_count 2 (some .int), Cond.fieldLink RX3 149 "NameRolls$Roll" "gained" "I", Cond.fieldLink RX3 152 "NameRolls$Roll" "lost" "I", Cond.methodLink RX3 155 Lib.Math.min.name, Cond.static Lib.Math.min.name, Cond.initialized "java/lang/Math", Cond.code Lib.Math.min.name Lib.Math.min.code 2 (some .int), Cond.fieldLink RX3 163 "NameRolls$Text" "length" "I", Cond.methodLink RX3 139 yX1_namesBelow, Cond.methodLink RX3 142 yX1_usersOfAll, Cond.instanceMethod yX1_usersOfAll, Cond.selects RX1 yX1_usersOfAll yX1_usersOfAll, Cond.code yX1_usersOfAll cX1_usersOfAll 3 (some .int), Cond.methodLink RX3 146 yX1_top]
def wsL_law_r20 : List Cond := [Cond.instanceMethod yX1_top, Cond.selects RX1 yX1_top yX1_top, Cond.code yX1_top cX1_top 2 (some .int), Cond.methodLink RL 87 yX4_count, Cond.instanceMethod yX4_count, Cond.selects RX4 yX4_count yX4_count, Cond.code yX4_count cX4_count 2 (some .int), Cond.fieldLink RX4 131 "NameRollsModel" "length" "I", Cond.methodLink RX4 122 yX4_namesAll, Cond.instanceMethod yX4_namesAll, Cond.selects RX4 yX4_namesAll yX4_namesAll, Cond.code yX4_namesAll cX4_namesAll 3 (some .int), Cond.methodLink RX4 125 yX4_usersAll, Cond.instanceMethod yX4_usersAll, Cond.selects RX4 yX4_usersAll yX4_usersAll, Cond.code yX4_usersAll cX4_usersAll 3 (some .int), Cond.methodLink RX4 128 yX4_highest, Cond.instanceMethod yX4_highest, Cond.selects RX4 yX4_highest yX4_highest, Cond.code yX4_highest cX4_highest 3 (some .int), Cond.methodLink RL 88 yX3_undo, Cond.instanceMethod yX3_undo, Cond.selects RX3 yX3_undo yX3_undo, Cond.code yX3_undo cX3_undo 1 (some .int)]
def wsL_law_r21 : List Cond := [Cond.methodLink RL 92 yX4_undo, Cond.instanceMethod yX4_undo, Cond.selects RX4 yX4_undo yX4_undo, Cond.code yX4_undo cX4_undo 2 (some .int), Cond.methodLink RL 93 yX3_type, Cond.instanceMethod yX3_type, Cond.selects RX3 yX3_type yX3_type, Cond.code yX3_type cX3_type 2 (some .int), Cond.methodLink RX3 170 yX2_append, Cond.instanceMethod yX2_append, Cond.selects RX2 yX2_append yX2_append, Cond.code yX2_append cX2_append 2 (some .int), Cond.fieldLink RX2 15 "NameRolls$Text" "length" "I", Cond.methodLink RL 96 yX4_type, Cond.instanceMethod yX4_type, Cond.selects RX4 yX4_type yX4_type, Cond.code yX4_type cX4_type 2 (some .int), Cond.methodLink RL 97 yX3_clearText, Cond.instanceMethod yX3_clearText, Cond.selects RX3 yX3_clearText yX3_clearText, Cond.code yX3_clearText cX3_clearText 2 (some .int), Cond.methodLink RL 100 yX4_clearText, Cond.instanceMethod yX4_clearText, Cond.selects RX4 yX4_clearText yX4_clearText]
def wsL_law_r22 : List Cond := [Cond.code yX4_clearText cX4_clearText 2 (some .int), Cond.methodLink RL 101 yX3_fault, Cond.instanceMethod yX3_fault, Cond.selects RX3 yX3_fault yX3_fault, Cond.code yX3_fault cX3_fault 2 (some .int), Cond.fieldLink RX3 178 "NameRolls$Player" "reason" "I", Cond.fieldLink RX3 181 "NameRolls$Player" "start" "I", Cond.fieldLink RX3 184 "NameRolls$Player" "cause" "I", Cond.methodLink RX3 174 yX0_tryOn, Cond.instanceMethod yX0_tryOn, Cond.selects RX0 yX0_tryOn yX0_tryOn, Cond.code yX0_tryOn cX0_tryOn 4 none, Cond.fieldLink RX0 22 "NameRolls$Player" "orders" "I", Cond.fieldLink RX0 26 "NameRolls$Player" "reason" "I", Cond.fieldLink RX0 29 "NameRolls$Player" "at" "I", Cond.fieldLink RX0 32 "NameRolls$Text" "length" "I", Cond.fieldLink RX0 37 "NameRolls$Player" "start" "I", Cond.methodLink RX0 18 yX1_copyFrom, Cond.methodLink RX0 40 yX0_readOrder, Cond.instanceMethod yX0_readOrder, Cond.selects RX0 yX0_readOrder yX0_readOrder, Cond.code yX0_readOrder cX0_readOrder 2 none, Cond.fieldLink RX0 54 "NameRolls$Player" "kind" "C", Cond.fieldLink RX0 58 "NameRolls$Player" "table" "I"]
def wsL_law_r23 : List Cond := [Cond.fieldLink RX0 61 "NameRolls$Player" "cell" "I", Cond.fieldLink RX0 64 "NameRolls$Player" "rule" "I", Cond.fieldLink RX0 67 "NameRolls$Player" "letters" "I", Cond.fieldLink RX0 70 "NameRolls$Player" "name" "I", Cond.methodLink RX0 50 yX2_signAt, Cond.instanceMethod yX2_signAt, Cond.selects RX2 yX2_signAt yX2_signAt, Cond.code yX2_signAt cX2_signAt 2 (some .char), Cond.methodLink RX0 73 yX0_readLetters, Cond.instanceMethod yX0_readLetters, Cond.selects RX0 yX0_readLetters yX0_readLetters, Cond.code yX0_readLetters cX0_readLetters 4 none, Cond.methodLink RX0 84 yX0_fail, Cond.instanceMethod yX0_fail, Cond.selects RX0 yX0_fail yX0_fail, Cond.code yX0_fail cX0_fail 3 none, Cond.fieldLink RX0 125 "NameRolls$Player" "cause" "I", Cond.methodLink RX0 76 yX0_readDigit, Cond.instanceMethod yX0_readDigit, Cond.selects RX0 yX0_readDigit yX0_readDigit, Cond.code yX0_readDigit cX0_readDigit 3 (some .int), Cond.methodLink RX0 80 yX0_readSign, Cond.instanceMethod yX0_readSign, Cond.selects RX0 yX0_readSign yX0_readSign]
def wsL_law_r24 : List Cond := [Cond.code yX0_readSign cX0_readSign 3 none, Cond.methodLink RX0 44 yX0_checkRanges, Cond.instanceMethod yX0_checkRanges, Cond.selects RX0 yX0_checkRanges yX0_checkRanges, Cond.code yX0_checkRanges cX0_checkRanges 1 none, Cond.methodLink RX0 47 yX0_carryOut, Cond.instanceMethod yX0_carryOut, Cond.selects RX0 yX0_carryOut yX0_carryOut, Cond.code yX0_carryOut cX0_carryOut 2 none, Cond.methodLink RX0 88 yX1_numberWith, Cond.methodLink RX0 92 yX0_canCarryOut, Cond.instanceMethod yX0_canCarryOut, Cond.selects RX0 yX0_canCarryOut yX0_canCarryOut, Cond.code yX0_canCarryOut cX0_canCarryOut 2 (some .boolean), Cond.methodLink RX0 112 yX1_hasRoomFor, Cond.methodLink RX0 115 yX1_hasFreeUser, Cond.methodLink RX0 118 yX1_hasRoomForUser, Cond.methodLink RX0 121 yX1_hasNextEpoch, Cond.methodLink RX0 96 yX1_enter, Cond.methodLink RX0 99 yX1_giveBack, Cond.methodLink RX0 106 yX1_fillCell, Cond.methodLink RX0 109 yX1_giveAnew, Cond.methodLink RL 104 yX4_fault, Cond.instanceMethod yX4_fault]
def wsL_law_r25 : List Cond := [Cond.selects RX4 yX4_fault yX4_fault, Cond.code yX4_fault cX4_fault 2 (some .int), Cond.fieldLink RX4 156 "NameRollsModel" "reason" "I", Cond.fieldLink RX4 159 "NameRollsModel" "place" "I", Cond.fieldLink RX4 165 "NameRollsModel" "cause" "I", Cond.methodLink RX4 174 yX4_lays, Cond.instanceMethod yX4_lays, Cond.selects RX4 yX4_lays yX4_lays, Cond.code yX4_lays cX4_lays 2 none, Cond.methodLink RX4 177 yX4_doesAll, Cond.instanceMethod yX4_doesAll, Cond.selects RX4 yX4_doesAll yX4_doesAll, Cond.code yX4_doesAll cX4_doesAll 3 (some .int), Cond.fieldLink RX4 134 "NameRollsModel" "end" "I", Cond.methodLink RX4 137 yX4_letter, Cond.instanceMethod yX4_letter, Cond.selects RX4 yX4_letter yX4_letter, Cond.code yX4_letter cX4_letter 2 (some .int), Cond.methodLink RX4 162 yX4_reads, Cond.instanceMethod yX4_reads, Cond.selects RX4 yX4_reads yX4_reads, Cond.code yX4_reads cX4_reads 2 (some .boolean), Cond.methodLink RX4 146 yX4_digit, Cond.instanceMethod yX4_digit]
def wsL_law_r26 : List Cond := [Cond.selects RX4 yX4_digit yX4_digit, Cond.code yX4_digit cX4_digit 3 (some .boolean), Cond.methodLink RX4 149 yX4_passes, Cond.instanceMethod yX4_passes, Cond.selects RX4 yX4_passes yX4_passes, Cond.code yX4_passes cX4_passes 3 (some .boolean), Cond.methodLink RX4 152 yX4_name, Cond.instanceMethod yX4_name, Cond.selects RX4 yX4_name yX4_name, Cond.code yX4_name cX4_name 1 (some .boolean), Cond.fieldLink RX4 140 "NameRollsModel" "letters" "I", Cond.fieldLink RX4 143 "NameRollsModel" "word" "I", Cond.methodLink RX4 168 yX4_wrong, Cond.instanceMethod yX4_wrong, Cond.selects RX4 yX4_wrong yX4_wrong, Cond.code yX4_wrong cX4_wrong 2 (some .int), Cond.methodLink RX4 171 yX4_does, Cond.instanceMethod yX4_does, Cond.selects RX4 yX4_does yX4_does, Cond.code yX4_does cX4_does 4 (some .boolean), Cond.methodLink RX4 180 yX4_back, Cond.instanceMethod yX4_back, Cond.selects RX4 yX4_back yX4_back, Cond.code yX4_back cX4_back 2 none]
def wsL_law_r27 : List Cond := [Cond.methodLink RL 105 yX3_play, Cond.instanceMethod yX3_play, Cond.selects RX3 yX3_play yX3_play, Cond.code yX3_play cX3_play 1 (some .int), Cond.fieldLink RX3 187 "NameRolls$Player" "trial" "LNameRolls$Roll;", Cond.fieldLink RX3 190 "NameRolls$Player" "orders" "I", Cond.methodLink RL 108 yX4_play, Cond.instanceMethod yX4_play, Cond.selects RX4 yX4_play yX4_play, Cond.code yX4_play cX4_play 1 (some .int)]
def wsL_law : List Cond := (wsL_law_r1 ++ (wsL_law_r2 ++ (wsL_law_r3 ++ (wsL_law_r4 ++ (wsL_law_r5 ++ (wsL_law_r6 ++ (wsL_law_r7 ++ (wsL_law_r8 ++ (wsL_law_r9 ++ (wsL_law_r10 ++ (wsL_law_r11 ++ (wsL_law_r12 ++ (wsL_law_r13 ++ (wsL_law_r14 ++ (wsL_law_r15 ++ (wsL_law_r16 ++ (wsL_law_r17 ++ (wsL_law_r18 ++ (wsL_law_r19 ++ (wsL_law_r20 ++ (wsL_law_r21 ++ (wsL_law_r22 ++ (wsL_law_r23 ++ (wsL_law_r24 ++ (wsL_law_r25 ++ (wsL_law_r26 ++ wsL_law_r27)))))))))))))))))))))))))) ++ wsX30 ++ wsX40 ++ wsX10 ++ wsX20 ++ wsX00 ++ ([] : List Cond)
theorem z_places {big : List Cond} (ws : List Cond) (ps : List Nat) (hp : ws = ps.filterMap (fun i => big[i]?)) : ∀ w ∈ ws, w ∈ big := by
  intro w hw
  rw [hp] at hw
  obtain ⟨i, -, hi⟩ := List.mem_filterMap.mp hw
  exact List.mem_of_getElem? hi
set_option maxRecDepth 20000 in
theorem in_wsL_law_r1 : ∀ w ∈ wsL_law_r1, w ∈ lw_tbl := z_places wsL_law_r1 [51, 52, 43, 498, 499, 48, 53, 54, 55, 56, 57, 58, 59, 60, 44, 192, 193, 126, 127, 46, 195, 142, 143, 47] (by decide +kernel)
set_option maxRecDepth 20000 in
theorem in_wsL_law_r2 : ∀ w ∈ wsL_law_r2, w ∈ lw_tbl := z_places wsL_law_r2 [196, 61, 62, 63, 64, 124, 68, 70, 72, 74, 82, 84, 86, 88, 89, 90, 91, 92, 65, 66, 45, 67, 129, 130] (by decide +kernel)
set_option maxRecDepth 20000 in
theorem in_wsL_law_r3 : ∀ w ∈ wsL_law_r3, w ∈ lw_tbl := z_places wsL_law_r3 [131, 141, 132, 145, 146, 147, 148, 150, 149, 500, 501, 502, 503, 504, 505, 507, 508, 510, 511, 517, 208, 209, 210, 211] (by decide +kernel)
set_option maxRecDepth 20000 in
theorem in_wsL_law_r4 : ∀ w ∈ wsL_law_r4, w ∈ lw_tbl := z_places wsL_law_r4 [216, 232, 212, 213, 214, 215, 217, 218, 219, 220, 221, 222, 223, 224, 225, 226, 227, 228, 230, 231, 233, 235, 0, 236] (by decide +kernel)
set_option maxRecDepth 20000 in
theorem in_wsL_law_r5 : ∀ w ∈ wsL_law_r5, w ∈ lw_tbl := z_places wsL_law_r5 [194, 237, 238, 239, 240, 241, 243, 242, 49, 76, 78, 80, 244, 245, 246, 247, 248, 249, 250, 251, 252, 253, 254, 255] (by decide +kernel)
set_option maxRecDepth 20000 in
theorem in_wsL_law_r6 : ∀ w ∈ wsL_law_r6, w ∈ lw_tbl := z_places wsL_law_r6 [260, 256, 257, 258, 259, 561, 562, 563, 564, 572, 589, 565, 566, 567, 568, 569, 570, 571, 573, 575, 12, 576, 577, 579] (by decide +kernel)
set_option maxRecDepth 20000 in
theorem in_wsL_law_r7 : ∀ w ∈ wsL_law_r7, w ∈ lw_tbl := z_places wsL_law_r7 [13, 580, 581, 583, 14, 584, 585, 587, 15, 588, 590, 592, 16, 593, 506, 594, 596, 17, 597, 598, 600, 18, 601, 602] (by decide +kernel)
set_option maxRecDepth 20000 in
theorem in_wsL_law_r8 : ∀ w ∈ wsL_law_r8, w ∈ lw_tbl := z_places wsL_law_r8 [261, 262, 263, 264, 269, 265, 266, 267, 268, 270, 271, 628, 629, 630, 631, 623, 513, 607, 609, 19, 610, 611, 613, 20] (by decide +kernel)
set_option maxRecDepth 20000 in
theorem in_wsL_law_r9 : ∀ w ∈ wsL_law_r9, w ∈ lw_tbl := z_places wsL_law_r9 [614, 615, 617, 21, 618, 272, 273, 274, 275, 284, 276, 277, 278, 279, 280, 281, 282, 283, 285, 286, 287, 288, 632, 633] (by decide +kernel)
set_option maxRecDepth 20000 in
theorem in_wsL_law_r10 : ∀ w ∈ wsL_law_r10, w ∈ lw_tbl := z_places wsL_law_r10 [634, 635, 560, 636, 638, 22, 639, 640, 642, 23, 643, 289, 290, 291, 292, 619, 620, 621, 622, 293, 294, 295, 296, 69] (by decide +kernel)
set_option maxRecDepth 20000 in
theorem in_wsL_law_r11 : ∀ w ∈ wsL_law_r11, w ∈ lw_tbl := z_places wsL_law_r11 [624, 625, 626, 627, 297, 298, 299, 300, 603, 604, 605, 606, 301, 302, 303, 304, 305, 306, 307, 308, 309, 310, 311, 312] (by decide +kernel)
set_option maxRecDepth 20000 in
theorem in_wsL_law_r12 : ∀ w ∈ wsL_law_r12, w ∈ lw_tbl := z_places wsL_law_r12 [313, 314, 315, 316, 644, 645, 646, 647, 648, 649, 650, 651, 653, 24, 654, 317, 318, 319, 320, 75, 321, 322, 323, 324] (by decide +kernel)
set_option maxRecDepth 20000 in
theorem in_wsL_law_r13 : ∀ w ∈ wsL_law_r13, w ∈ lw_tbl := z_places wsL_law_r13 [655, 656, 657, 658, 325, 326, 327, 328, 329, 659, 660, 661, 662, 663, 330, 331, 332, 333, 334, 335, 336, 337, 338, 339] (by decide +kernel)
set_option maxRecDepth 20000 in
theorem in_wsL_law_r14 : ∀ w ∈ wsL_law_r14, w ∈ lw_tbl := z_places wsL_law_r14 [340, 341, 342, 343, 344, 345, 346, 348, 1, 349, 351, 352, 353, 354, 355, 356, 357, 358, 360, 2, 361, 362, 364, 3] (by decide +kernel)
set_option maxRecDepth 20000 in
theorem in_wsL_law_r15 : ∀ w ∈ wsL_law_r15, w ∈ lw_tbl := z_places wsL_law_r15 [365, 664, 665, 666, 667, 668, 670, 25, 671, 512, 672, 674, 26, 675, 676, 678, 27, 679, 680, 681, 682, 683, 366, 367] (by decide +kernel)
set_option maxRecDepth 20000 in
theorem in_wsL_law_r16 : ∀ w ∈ wsL_law_r16, w ∈ lw_tbl := z_places wsL_law_r16 [368, 369, 71, 73, 370, 684, 685, 686, 687, 371, 372, 373, 374, 375, 688, 689, 690, 691, 376, 377, 378, 379, 380, 692] (by decide +kernel)
set_option maxRecDepth 20000 in
theorem in_wsL_law_r17 : ∀ w ∈ wsL_law_r17, w ∈ lw_tbl := z_places wsL_law_r17 [693, 694, 695, 381, 382, 383, 384, 385, 386, 387, 696, 697, 698, 699, 700, 701, 702, 388, 389, 390, 391, 392, 703, 704] (by decide +kernel)
set_option maxRecDepth 20000 in
theorem in_wsL_law_r18 : ∀ w ∈ wsL_law_r18, w ∈ lw_tbl := z_places wsL_law_r18 [705, 706, 393, 394, 395, 396, 707, 708, 709, 710, 397, 398, 399, 400, 77, 83, 85, 87, 401, 402, 403, 404, 405, 711] (by decide +kernel)
set_option maxRecDepth 20000 in
theorem in_wsL_law_r19 : ∀ w ∈ wsL_law_r19, w ∈ lw_tbl := z_places wsL_law_r19 [712, 713, 714, 715, 717, 28, 718, 406, 407, 408, 409, 79, 81, 419, 420, 50, 421, 135, 410, 411, 412, 413, 414, 415] (by decide +kernel)
set_option maxRecDepth 20000 in
theorem in_wsL_law_r20 : ∀ w ∈ wsL_law_r20, w ∈ lw_tbl := z_places wsL_law_r20 [416, 417, 418, 719, 720, 721, 722, 509, 723, 725, 29, 726, 727, 729, 30, 730, 731, 733, 31, 734, 422, 423, 424, 425] (by decide +kernel)
set_option maxRecDepth 20000 in
theorem in_wsL_law_r21 : ∀ w ∈ wsL_law_r21, w ∈ lw_tbl := z_places wsL_law_r21 [556, 557, 558, 559, 426, 427, 428, 429, 430, 431, 432, 433, 133, 735, 736, 737, 738, 435, 436, 437, 438, 739, 740, 741] (by decide +kernel)
set_option maxRecDepth 20000 in
theorem in_wsL_law_r22 : ∀ w ∈ wsL_law_r22, w ∈ lw_tbl := z_places wsL_law_r22 [742, 439, 440, 441, 442, 155, 159, 157, 443, 444, 445, 446, 152, 154, 160, 134, 158, 447, 448, 450, 4, 451, 161, 162] (by decide +kernel)
set_option maxRecDepth 20000 in
theorem in_wsL_law_r23 : ∀ w ∈ wsL_law_r23, w ∈ lw_tbl := z_places wsL_law_r23 [163, 164, 165, 166, 452, 453, 454, 455, 456, 458, 5, 459, 460, 462, 6, 463, 156, 464, 466, 7, 467, 468, 470, 8] (by decide +kernel)
set_option maxRecDepth 20000 in
theorem in_wsL_law_r24 : ∀ w ∈ wsL_law_r24, w ∈ lw_tbl := z_places wsL_law_r24 [471, 472, 474, 9, 475, 476, 478, 10, 479, 480, 481, 483, 11, 484, 485, 486, 487, 488, 489, 490, 492, 493, 743, 744] (by decide +kernel)
set_option maxRecDepth 20000 in
theorem in_wsL_law_r25 : ∀ w ∈ wsL_law_r25, w ∈ lw_tbl := z_places wsL_law_r25 [745, 746, 518, 520, 519, 747, 749, 32, 750, 751, 753, 33, 754, 514, 755, 757, 34, 758, 759, 761, 35, 762, 763, 765] (by decide +kernel)
set_option maxRecDepth 20000 in
theorem in_wsL_law_r26 : ∀ w ∈ wsL_law_r26, w ∈ lw_tbl := z_places wsL_law_r26 [36, 766, 767, 769, 37, 770, 771, 773, 38, 774, 515, 516, 775, 777, 39, 778, 779, 781, 40, 782, 783, 785, 41, 786] (by decide +kernel)
set_option maxRecDepth 20000 in
theorem in_wsL_law_r27 : ∀ w ∈ wsL_law_r27, w ∈ lw_tbl := z_places wsL_law_r27 [494, 495, 496, 497, 151, 153, 787, 788, 789, 790] (by decide +kernel)
set_option maxRecDepth 20000 in
theorem inX0 : ∀ w ∈ wsX00, w ∈ lw_tbl := z_places wsX00 [167, 169, 171, 173, 175, 177, 179, 181, 183, 185, 187, 189] (by decide +kernel)
set_option maxRecDepth 20000 in
theorem inX1 : ∀ w ∈ wsX10, w ∈ lw_tbl := z_places wsX10 [93, 95, 97, 99, 101, 103, 105, 107, 109, 111, 113, 115, 117, 119, 121] (by decide +kernel)
set_option maxRecDepth 20000 in
theorem inX2 : ∀ w ∈ wsX20, w ∈ lw_tbl := z_places wsX20 [136, 138] (by decide +kernel)
set_option maxRecDepth 20000 in
theorem inX3 : ∀ w ∈ wsX30, w ∈ lw_tbl := z_places wsX30 [197, 199, 201, 203, 205] (by decide +kernel)
set_option maxRecDepth 20000 in
theorem inX4 : ∀ w ∈ wsX40, w ∈ lw_tbl := z_places wsX40 [521, 523, 525, 527, 529, 531, 533, 535, 537, 539, 541, 543, 545, 547, 549, 551, 553] (by decide +kernel)
theorem wsL_law_in : ∀ w ∈ wsL_law, w ∈ lw_tbl := by
  show ∀ w ∈ (wsL_law_r1 ++ (wsL_law_r2 ++ (wsL_law_r3 ++ (wsL_law_r4 ++ (wsL_law_r5 ++ (wsL_law_r6 ++ (wsL_law_r7 ++ (wsL_law_r8 ++ (wsL_law_r9 ++ (wsL_law_r10 ++ (wsL_law_r11 ++ (wsL_law_r12 ++ (wsL_law_r13 ++ (wsL_law_r14 ++ (wsL_law_r15 ++ (wsL_law_r16 ++ (wsL_law_r17 ++ (wsL_law_r18 ++ (wsL_law_r19 ++ (wsL_law_r20 ++ (wsL_law_r21 ++ (wsL_law_r22 ++ (wsL_law_r23 ++ (wsL_law_r24 ++ (wsL_law_r25 ++ (wsL_law_r26 ++ wsL_law_r27)))))))))))))))))))))))))) ++ wsX30 ++ wsX40 ++ wsX10 ++ wsX20 ++ wsX00 ++ ([] : List Cond), w ∈ lw_tbl
  exact List.forall_mem_append.mpr ⟨List.forall_mem_append.mpr ⟨List.forall_mem_append.mpr ⟨List.forall_mem_append.mpr ⟨List.forall_mem_append.mpr ⟨List.forall_mem_append.mpr ⟨List.forall_mem_append.mpr ⟨in_wsL_law_r1, List.forall_mem_append.mpr ⟨in_wsL_law_r2, List.forall_mem_append.mpr ⟨in_wsL_law_r3, List.forall_mem_append.mpr ⟨in_wsL_law_r4, List.forall_mem_append.mpr ⟨in_wsL_law_r5, List.forall_mem_append.mpr ⟨in_wsL_law_r6, List.forall_mem_append.mpr ⟨in_wsL_law_r7, List.forall_mem_append.mpr ⟨in_wsL_law_r8, List.forall_mem_append.mpr ⟨in_wsL_law_r9, List.forall_mem_append.mpr ⟨in_wsL_law_r10, List.forall_mem_append.mpr ⟨in_wsL_law_r11, List.forall_mem_append.mpr ⟨in_wsL_law_r12, List.forall_mem_append.mpr ⟨in_wsL_law_r13, List.forall_mem_append.mpr ⟨in_wsL_law_r14, List.forall_mem_append.mpr ⟨in_wsL_law_r15, List.forall_mem_append.mpr ⟨in_wsL_law_r16, List.forall_mem_append.mpr ⟨in_wsL_law_r17, List.forall_mem_append.mpr ⟨in_wsL_law_r18, List.forall_mem_append.mpr ⟨in_wsL_law_r19, List.forall_mem_append.mpr ⟨in_wsL_law_r20, List.forall_mem_append.mpr ⟨in_wsL_law_r21, List.forall_mem_append.mpr ⟨in_wsL_law_r22, List.forall_mem_append.mpr ⟨in_wsL_law_r23, List.forall_mem_append.mpr ⟨in_wsL_law_r24, List.forall_mem_append.mpr ⟨in_wsL_law_r25, List.forall_mem_append.mpr ⟨in_wsL_law_r26, in_wsL_law_r27⟩⟩⟩⟩⟩⟩⟩⟩⟩⟩⟩⟩⟩⟩⟩⟩⟩⟩⟩⟩⟩⟩⟩⟩⟩⟩, inX3⟩, inX4⟩, inX1⟩, inX2⟩, inX0⟩, fun _ h => absurd h List.not_mem_nil⟩
theorem inlX0 : ∀ w ∈ wsX00, w ∈ wsL_law := fun _ h => List.mem_append_left _ (List.mem_append_right _ h)
theorem inlX1 : ∀ w ∈ wsX10, w ∈ wsL_law := fun _ h => List.mem_append_left _ (List.mem_append_left _ (List.mem_append_left _ (List.mem_append_right _ h)))
theorem inlX2 : ∀ w ∈ wsX20, w ∈ wsL_law := fun _ h => List.mem_append_left _ (List.mem_append_left _ (List.mem_append_right _ h))
theorem inlX3 : ∀ w ∈ wsX30, w ∈ wsL_law := fun _ h => List.mem_append_left _ (List.mem_append_left _ (List.mem_append_left _ (List.mem_append_left _ (List.mem_append_left _ (List.mem_append_right _ h)))))
theorem inlX4 : ∀ w ∈ wsX40, w ∈ wsL_law := fun _ h => List.mem_append_left _ (List.mem_append_left _ (List.mem_append_left _ (List.mem_append_left _ (List.mem_append_right _ h))))
theorem inJ9 : ∀ w ∈ wsJ90, w ∈ lw_tbl := by decide +kernel
theorem inJ10 : ∀ w ∈ wsJ100, w ∈ lw_tbl := by decide +kernel
theorem inJ7 : ∀ w ∈ wsJ70, w ∈ lw_tbl := by decide +kernel
set_option maxRecDepth 20000 in
theorem ggX0_init_X1_init : GoodIn wsX0_init wsX1_init := goodIn_r _ [10, 11, 2, 3, 12, 13, 14, 15, 16, 17, 18, 19, 20, 21, 22, 23, 24, 25, 26, 27, 28, 29, 30, 31, 32, 33, 34, 35, 36, 37, 38, 39, 40, 41, 42, 43] (by decide +kernel) (by decide +kernel)
set_option maxRecDepth 20000 in
theorem gX0_init_X1_init : GoodIn wsX0_init (wsX1_init) := ggX0_init_X1_init
theorem dX0_init_0 : decode cX0_init 0 = .ok (.aload_n 0, 1) := by decide +kernel
theorem dX0_init_1 : decode cX0_init 1 = .ok (.invokespecial 3, 3) := by decide +kernel
theorem dX0_init_4 : decode cX0_init 4 = .ok (.aload_n 0, 1) := by decide +kernel
theorem dX0_init_5 : decode cX0_init 5 = .ok (.new 9, 3) := by decide +kernel
theorem dX0_init_8 : decode cX0_init 8 = .ok (.dup, 1) := by decide +kernel
theorem dX0_init_9 : decode cX0_init 9 = .ok (.invokespecial 11, 3) := by decide +kernel
theorem dX0_init_12 : decode cX0_init 12 = .ok (.putfield 12, 3) := by decide +kernel
theorem dX0_init_15 : decode cX0_init 15 = .ok (.return_, 1) := by decide +kernel
set_option maxRecDepth 20000 in
theorem ggX0_tryOn_X1_copyFrom : GoodIn wsX0_tryOn wsX1_copyFrom := goodIn_r _ [11, 12, 13, 14, 15, 16, 17, 18, 19, 20, 21, 22, 23, 24, 25, 26, 27, 28, 171, 172, 173, 174, 175, 176, 177, 178, 179, 180, 181, 182, 183, 184, 185] (by decide +kernel) (by decide +kernel)
set_option maxRecDepth 20000 in
theorem gX0_tryOn_X1_copyFrom : GoodIn wsX0_tryOn (wsV RX0 18 RX1 yX1_copyFrom wsX1_copyFrom) := goodIn_app (goodIn_of _ (by decide +kernel)) ggX0_tryOn_X1_copyFrom
set_option maxRecDepth 20000 in
theorem ggX0_tryOn_X0_readOrder : GoodIn wsX0_tryOn wsX0_readOrder := goodIn_r _ [33, 4, 34, 35, 36, 37, 38, 39, 40, 41, 42, 43, 44, 45, 46, 47, 48, 49, 50, 51, 52, 32, 53, 6, 54, 55, 56, 57, 3, 58, 59, 60, 61, 62, 63, 64, 65, 66, 157, 158, 159, 160, 161, 162, 163, 164, 165, 166, 167, 168, 169, 170] (by decide +kernel) (by decide +kernel)
set_option maxRecDepth 20000 in
theorem gX0_tryOn_X0_readOrder : GoodIn wsX0_tryOn (wsV RX0 40 RX0 yX0_readOrder wsX0_readOrder) := goodIn_app (goodIn_of _ (by decide +kernel)) ggX0_tryOn_X0_readOrder
set_option maxRecDepth 20000 in
theorem ggX0_tryOn_X0_checkRanges : GoodIn wsX0_tryOn wsX0_checkRanges := goodIn_r _ [70, 35, 36, 37, 38, 54, 55, 56, 32, 57, 3, 58, 157, 158, 159, 160, 161, 162, 163, 164, 165, 166, 167, 168] (by decide +kernel) (by decide +kernel)
set_option maxRecDepth 20000 in
theorem gX0_tryOn_X0_checkRanges : GoodIn wsX0_tryOn (wsV RX0 44 RX0 yX0_checkRanges wsX0_checkRanges) := goodIn_app (goodIn_of _ (by decide +kernel)) ggX0_tryOn_X0_checkRanges
set_option maxRecDepth 20000 in
theorem ggX0_tryOn_X0_carryOut : GoodIn wsX0_tryOn wsX0_carryOut := goodIn_r _ [74, 3, 1, 39, 34, 35, 36, 37, 75, 76, 77, 10, 78, 12, 79, 80, 81, 32, 82, 83, 84, 85, 86, 87, 88, 89, 90, 91, 17, 47, 48, 49, 92, 93, 94, 95, 96, 97, 98, 99, 19, 100, 101, 102, 103, 104, 20, 54, 55, 56, 57, 58, 105, 106, 107, 108, 21, 109, 110, 111, 112, 113, 114, 115, 116, 18, 22, 117, 118, 119, 120, 121, 122, 123, 124, 125, 126, 127, 27, 23, 24, 25, 26, 13, 14, 15, 16, 28, 128, 129, 130, 131, 132, 133, 134, 135, 136, 137, 138, 139, 140, 141, 142, 143, 144, 145, 146, 147, 148, 149, 150, 151, 152, 153, 154, 155, 156, 157, 158, 159, 160, 161, 162, 163, 164, 165, 166, 167, 168, 171, 172, 173, 174, 175, 176, 177, 178, 179, 180, 181, 182, 183, 184, 185] (by decide +kernel) (by decide +kernel)
set_option maxRecDepth 20000 in
theorem gX0_tryOn_X0_carryOut : GoodIn wsX0_tryOn (wsV RX0 47 RX0 yX0_carryOut wsX0_carryOut) := goodIn_app (goodIn_of _ (by decide +kernel)) ggX0_tryOn_X0_carryOut
theorem dX0_tryOn_0 : decode cX0_tryOn 0 = .ok (.aload_n 0, 1) := by decide +kernel
theorem dX0_tryOn_1 : decode cX0_tryOn 1 = .ok (.getfield 12, 3) := by decide +kernel
theorem dX0_tryOn_4 : decode cX0_tryOn 4 = .ok (.aload_n 1, 1) := by decide +kernel
theorem dX0_tryOn_5 : decode cX0_tryOn 5 = .ok (.invokevirtual 18, 3) := by decide +kernel
theorem dX0_tryOn_8 : decode cX0_tryOn 8 = .ok (.aload_n 0, 1) := by decide +kernel
theorem dX0_tryOn_9 : decode cX0_tryOn 9 = .ok (.iconst 0, 1) := by decide +kernel
theorem dX0_tryOn_10 : decode cX0_tryOn 10 = .ok (.putfield 22, 3) := by decide +kernel
theorem dX0_tryOn_13 : decode cX0_tryOn 13 = .ok (.aload_n 0, 1) := by decide +kernel
theorem dX0_tryOn_14 : decode cX0_tryOn 14 = .ok (.iconst 0, 1) := by decide +kernel
theorem dX0_tryOn_15 : decode cX0_tryOn 15 = .ok (.putfield 26, 3) := by decide +kernel
theorem dX0_tryOn_18 : decode cX0_tryOn 18 = .ok (.aload_n 0, 1) := by decide +kernel
theorem dX0_tryOn_19 : decode cX0_tryOn 19 = .ok (.iconst 0, 1) := by decide +kernel
theorem dX0_tryOn_20 : decode cX0_tryOn 20 = .ok (.putfield 29, 3) := by decide +kernel
theorem dX0_tryOn_23 : decode cX0_tryOn 23 = .ok (.iconst 0, 1) := by decide +kernel
theorem dX0_tryOn_24 : decode cX0_tryOn 24 = .ok (.istore_n 3, 1) := by decide +kernel
theorem dX0_tryOn_25 : decode cX0_tryOn 25 = .ok (.iload_n 3, 1) := by decide +kernel
theorem dX0_tryOn_26 : decode cX0_tryOn 26 = .ok (.bipush 60, 2) := by decide +kernel
theorem dX0_tryOn_28 : decode cX0_tryOn 28 = .ok (.if_icmp .ge 59, 3) := by decide +kernel
theorem dX0_tryOn_31 : decode cX0_tryOn 31 = .ok (.aload_n 0, 1) := by decide +kernel
theorem dX0_tryOn_32 : decode cX0_tryOn 32 = .ok (.getfield 29, 3) := by decide +kernel
theorem dX0_tryOn_35 : decode cX0_tryOn 35 = .ok (.aload_n 2, 1) := by decide +kernel
theorem dX0_tryOn_36 : decode cX0_tryOn 36 = .ok (.getfield 32, 3) := by decide +kernel
theorem dX0_tryOn_39 : decode cX0_tryOn 39 = .ok (.if_icmp .ge 48, 3) := by decide +kernel
theorem dX0_tryOn_42 : decode cX0_tryOn 42 = .ok (.aload_n 0, 1) := by decide +kernel
theorem dX0_tryOn_43 : decode cX0_tryOn 43 = .ok (.aload_n 0, 1) := by decide +kernel
theorem dX0_tryOn_44 : decode cX0_tryOn 44 = .ok (.getfield 29, 3) := by decide +kernel
theorem dX0_tryOn_47 : decode cX0_tryOn 47 = .ok (.putfield 37, 3) := by decide +kernel
theorem dX0_tryOn_50 : decode cX0_tryOn 50 = .ok (.aload_n 0, 1) := by decide +kernel
theorem dX0_tryOn_51 : decode cX0_tryOn 51 = .ok (.aload_n 2, 1) := by decide +kernel
theorem dX0_tryOn_52 : decode cX0_tryOn 52 = .ok (.invokevirtual 40, 3) := by decide +kernel
theorem dX0_tryOn_55 : decode cX0_tryOn 55 = .ok (.aload_n 0, 1) := by decide +kernel
theorem dX0_tryOn_56 : decode cX0_tryOn 56 = .ok (.invokevirtual 44, 3) := by decide +kernel
theorem dX0_tryOn_59 : decode cX0_tryOn 59 = .ok (.aload_n 0, 1) := by decide +kernel
theorem dX0_tryOn_60 : decode cX0_tryOn 60 = .ok (.invokevirtual 47, 3) := by decide +kernel
theorem dX0_tryOn_63 : decode cX0_tryOn 63 = .ok (.aload_n 0, 1) := by decide +kernel
theorem dX0_tryOn_64 : decode cX0_tryOn 64 = .ok (.getfield 26, 3) := by decide +kernel
theorem dX0_tryOn_67 : decode cX0_tryOn 67 = .ok (.ifCond .eq 4, 3) := by decide +kernel
theorem dX0_tryOn_70 : decode cX0_tryOn 70 = .ok (.return_, 1) := by decide +kernel
theorem dX0_tryOn_71 : decode cX0_tryOn 71 = .ok (.aload_n 0, 1) := by decide +kernel
theorem dX0_tryOn_72 : decode cX0_tryOn 72 = .ok (.dup, 1) := by decide +kernel
theorem dX0_tryOn_73 : decode cX0_tryOn 73 = .ok (.getfield 22, 3) := by decide +kernel
theorem dX0_tryOn_76 : decode cX0_tryOn 76 = .ok (.iconst 1, 1) := by decide +kernel
theorem dX0_tryOn_77 : decode cX0_tryOn 77 = .ok (.iadd, 1) := by decide +kernel
theorem dX0_tryOn_78 : decode cX0_tryOn 78 = .ok (.putfield 22, 3) := by decide +kernel
theorem dX0_tryOn_81 : decode cX0_tryOn 81 = .ok (.iinc 3 1, 3) := by decide +kernel
theorem dX0_tryOn_84 : decode cX0_tryOn 84 = .ok (.goto (-59), 3) := by decide +kernel
theorem dX0_tryOn_87 : decode cX0_tryOn 87 = .ok (.return_, 1) := by decide +kernel
set_option maxRecDepth 20000 in
theorem ggX0_readOrder_X2_signAt : GoodIn wsX0_readOrder wsX2_signAt := goodIn_r _ [12, 13, 14, 15, 16, 17, 50, 51] (by decide +kernel) (by decide +kernel)
set_option maxRecDepth 20000 in
theorem gX0_readOrder_X2_signAt : GoodIn wsX0_readOrder (wsV RX0 50 RX2 yX2_signAt wsX2_signAt) := goodIn_app (goodIn_of _ (by decide +kernel)) ggX0_readOrder_X2_signAt
set_option maxRecDepth 20000 in
theorem ggX0_readOrder_X0_readLetters : GoodIn wsX0_readOrder wsX0_readLetters := goodIn_r _ [22, 1, 6, 7, 23, 8, 9, 10, 11, 12, 13, 14, 15, 16, 17, 24, 25, 26, 21, 27, 28, 29, 38, 39, 40, 41, 42, 43, 44, 45, 46, 47, 48, 49, 50, 51] (by decide +kernel) (by decide +kernel)
set_option maxRecDepth 20000 in
theorem gX0_readOrder_X0_readLetters : GoodIn wsX0_readOrder (wsV RX0 73 RX0 yX0_readLetters wsX0_readLetters) := goodIn_app (goodIn_of _ (by decide +kernel)) ggX0_readOrder_X0_readLetters
set_option maxRecDepth 20000 in
theorem ggX0_readOrder_X0_readDigit : GoodIn wsX0_readOrder wsX0_readDigit := goodIn_r _ [33, 1, 23, 8, 9, 10, 11, 12, 13, 14, 15, 16, 17, 24, 25, 26, 21, 27, 28, 29, 38, 39, 40, 41, 42, 43, 44, 45, 46, 47, 48, 49, 50, 51] (by decide +kernel) (by decide +kernel)
set_option maxRecDepth 20000 in
theorem gX0_readOrder_X0_readDigit : GoodIn wsX0_readOrder (wsV RX0 76 RX0 yX0_readDigit wsX0_readDigit) := goodIn_app (goodIn_of _ (by decide +kernel)) ggX0_readOrder_X0_readDigit
set_option maxRecDepth 20000 in
theorem ggX0_readOrder_X0_readSign : GoodIn wsX0_readOrder wsX0_readSign := goodIn_r _ [37, 1, 23, 8, 9, 10, 11, 12, 13, 14, 15, 16, 17, 24, 25, 26, 21, 27, 28, 29, 38, 39, 40, 41, 42, 43, 44, 45, 46, 47, 48, 49, 50, 51] (by decide +kernel) (by decide +kernel)
set_option maxRecDepth 20000 in
theorem gX0_readOrder_X0_readSign : GoodIn wsX0_readOrder (wsV RX0 80 RX0 yX0_readSign wsX0_readSign) := goodIn_app (goodIn_of _ (by decide +kernel)) ggX0_readOrder_X0_readSign
set_option maxRecDepth 20000 in
theorem ggX0_readOrder_X0_fail : GoodIn wsX0_readOrder wsX0_fail := goodIn_r _ [27, 28, 29, 38, 39, 40, 41, 42, 43, 44, 45, 46, 47, 48, 49] (by decide +kernel) (by decide +kernel)
set_option maxRecDepth 20000 in
theorem gX0_readOrder_X0_fail : GoodIn wsX0_readOrder (wsV RX0 84 RX0 yX0_fail wsX0_fail) := goodIn_app (goodIn_of _ (by decide +kernel)) ggX0_readOrder_X0_fail
theorem dX0_readOrder_0 : decode cX0_readOrder 0 = .ok (.aload_n 0, 1) := by decide +kernel
theorem dX0_readOrder_1 : decode cX0_readOrder 1 = .ok (.aload_n 1, 1) := by decide +kernel
theorem dX0_readOrder_2 : decode cX0_readOrder 2 = .ok (.aload_n 0, 1) := by decide +kernel
theorem dX0_readOrder_3 : decode cX0_readOrder 3 = .ok (.getfield 29, 3) := by decide +kernel
theorem dX0_readOrder_6 : decode cX0_readOrder 6 = .ok (.invokevirtual 50, 3) := by decide +kernel
theorem dX0_readOrder_9 : decode cX0_readOrder 9 = .ok (.putfield 54, 3) := by decide +kernel
theorem dX0_readOrder_12 : decode cX0_readOrder 12 = .ok (.aload_n 0, 1) := by decide +kernel
theorem dX0_readOrder_13 : decode cX0_readOrder 13 = .ok (.iconst 0, 1) := by decide +kernel
theorem dX0_readOrder_14 : decode cX0_readOrder 14 = .ok (.putfield 58, 3) := by decide +kernel
theorem dX0_readOrder_17 : decode cX0_readOrder 17 = .ok (.aload_n 0, 1) := by decide +kernel
theorem dX0_readOrder_18 : decode cX0_readOrder 18 = .ok (.iconst 0, 1) := by decide +kernel
theorem dX0_readOrder_19 : decode cX0_readOrder 19 = .ok (.putfield 61, 3) := by decide +kernel
theorem dX0_readOrder_22 : decode cX0_readOrder 22 = .ok (.aload_n 0, 1) := by decide +kernel
theorem dX0_readOrder_23 : decode cX0_readOrder 23 = .ok (.iconst 0, 1) := by decide +kernel
theorem dX0_readOrder_24 : decode cX0_readOrder 24 = .ok (.putfield 64, 3) := by decide +kernel
theorem dX0_readOrder_27 : decode cX0_readOrder 27 = .ok (.aload_n 0, 1) := by decide +kernel
theorem dX0_readOrder_28 : decode cX0_readOrder 28 = .ok (.iconst 0, 1) := by decide +kernel
theorem dX0_readOrder_29 : decode cX0_readOrder 29 = .ok (.putfield 67, 3) := by decide +kernel
theorem dX0_readOrder_32 : decode cX0_readOrder 32 = .ok (.aload_n 0, 1) := by decide +kernel
theorem dX0_readOrder_33 : decode cX0_readOrder 33 = .ok (.iconst 0, 1) := by decide +kernel
theorem dX0_readOrder_34 : decode cX0_readOrder 34 = .ok (.putfield 70, 3) := by decide +kernel
theorem dX0_readOrder_37 : decode cX0_readOrder 37 = .ok (.aload_n 0, 1) := by decide +kernel
theorem dX0_readOrder_38 : decode cX0_readOrder 38 = .ok (.getfield 54, 3) := by decide +kernel
theorem dX0_readOrder_41 : decode cX0_readOrder 41 = .ok (.lookupswitch 133 #[(33, 111), (43, 43), (45, 43), (61, 61)], 43) := by decide +kernel
theorem dX0_readOrder_84 : decode cX0_readOrder 84 = .ok (.aload_n 0, 1) := by decide +kernel
theorem dX0_readOrder_85 : decode cX0_readOrder 85 = .ok (.dup, 1) := by decide +kernel
theorem dX0_readOrder_86 : decode cX0_readOrder 86 = .ok (.getfield 29, 3) := by decide +kernel
theorem dX0_readOrder_89 : decode cX0_readOrder 89 = .ok (.iconst 1, 1) := by decide +kernel
theorem dX0_readOrder_90 : decode cX0_readOrder 90 = .ok (.iadd, 1) := by decide +kernel
theorem dX0_readOrder_91 : decode cX0_readOrder 91 = .ok (.putfield 29, 3) := by decide +kernel
theorem dX0_readOrder_94 : decode cX0_readOrder 94 = .ok (.aload_n 0, 1) := by decide +kernel
theorem dX0_readOrder_95 : decode cX0_readOrder 95 = .ok (.aload_n 1, 1) := by decide +kernel
theorem dX0_readOrder_96 : decode cX0_readOrder 96 = .ok (.invokevirtual 73, 3) := by decide +kernel
theorem dX0_readOrder_99 : decode cX0_readOrder 99 = .ok (.goto 81, 3) := by decide +kernel
theorem dX0_readOrder_102 : decode cX0_readOrder 102 = .ok (.aload_n 0, 1) := by decide +kernel
theorem dX0_readOrder_103 : decode cX0_readOrder 103 = .ok (.dup, 1) := by decide +kernel
theorem dX0_readOrder_104 : decode cX0_readOrder 104 = .ok (.getfield 29, 3) := by decide +kernel
theorem dX0_readOrder_107 : decode cX0_readOrder 107 = .ok (.iconst 1, 1) := by decide +kernel
theorem dX0_readOrder_108 : decode cX0_readOrder 108 = .ok (.iadd, 1) := by decide +kernel
theorem dX0_readOrder_109 : decode cX0_readOrder 109 = .ok (.putfield 29, 3) := by decide +kernel
theorem dX0_readOrder_112 : decode cX0_readOrder 112 = .ok (.aload_n 0, 1) := by decide +kernel
theorem dX0_readOrder_113 : decode cX0_readOrder 113 = .ok (.aload_n 0, 1) := by decide +kernel
theorem dX0_readOrder_114 : decode cX0_readOrder 114 = .ok (.aload_n 1, 1) := by decide +kernel
theorem dX0_readOrder_115 : decode cX0_readOrder 115 = .ok (.invokevirtual 76, 3) := by decide +kernel
theorem dX0_readOrder_118 : decode cX0_readOrder 118 = .ok (.putfield 58, 3) := by decide +kernel
theorem dX0_readOrder_121 : decode cX0_readOrder 121 = .ok (.aload_n 0, 1) := by decide +kernel
theorem dX0_readOrder_122 : decode cX0_readOrder 122 = .ok (.aload_n 1, 1) := by decide +kernel
theorem dX0_readOrder_123 : decode cX0_readOrder 123 = .ok (.bipush 44, 2) := by decide +kernel
theorem dX0_readOrder_125 : decode cX0_readOrder 125 = .ok (.invokevirtual 80, 3) := by decide +kernel
theorem dX0_readOrder_128 : decode cX0_readOrder 128 = .ok (.aload_n 0, 1) := by decide +kernel
theorem dX0_readOrder_129 : decode cX0_readOrder 129 = .ok (.aload_n 0, 1) := by decide +kernel
theorem dX0_readOrder_130 : decode cX0_readOrder 130 = .ok (.aload_n 1, 1) := by decide +kernel
theorem dX0_readOrder_131 : decode cX0_readOrder 131 = .ok (.invokevirtual 76, 3) := by decide +kernel
theorem dX0_readOrder_134 : decode cX0_readOrder 134 = .ok (.putfield 61, 3) := by decide +kernel
theorem dX0_readOrder_137 : decode cX0_readOrder 137 = .ok (.aload_n 0, 1) := by decide +kernel
theorem dX0_readOrder_138 : decode cX0_readOrder 138 = .ok (.aload_n 1, 1) := by decide +kernel
theorem dX0_readOrder_139 : decode cX0_readOrder 139 = .ok (.bipush 44, 2) := by decide +kernel
theorem dX0_readOrder_141 : decode cX0_readOrder 141 = .ok (.invokevirtual 80, 3) := by decide +kernel
theorem dX0_readOrder_144 : decode cX0_readOrder 144 = .ok (.aload_n 0, 1) := by decide +kernel
theorem dX0_readOrder_145 : decode cX0_readOrder 145 = .ok (.aload_n 1, 1) := by decide +kernel
theorem dX0_readOrder_146 : decode cX0_readOrder 146 = .ok (.invokevirtual 73, 3) := by decide +kernel
theorem dX0_readOrder_149 : decode cX0_readOrder 149 = .ok (.goto 31, 3) := by decide +kernel
theorem dX0_readOrder_152 : decode cX0_readOrder 152 = .ok (.aload_n 0, 1) := by decide +kernel
theorem dX0_readOrder_153 : decode cX0_readOrder 153 = .ok (.dup, 1) := by decide +kernel
theorem dX0_readOrder_154 : decode cX0_readOrder 154 = .ok (.getfield 29, 3) := by decide +kernel
theorem dX0_readOrder_157 : decode cX0_readOrder 157 = .ok (.iconst 1, 1) := by decide +kernel
theorem dX0_readOrder_158 : decode cX0_readOrder 158 = .ok (.iadd, 1) := by decide +kernel
theorem dX0_readOrder_159 : decode cX0_readOrder 159 = .ok (.putfield 29, 3) := by decide +kernel
theorem dX0_readOrder_162 : decode cX0_readOrder 162 = .ok (.aload_n 0, 1) := by decide +kernel
theorem dX0_readOrder_163 : decode cX0_readOrder 163 = .ok (.aload_n 0, 1) := by decide +kernel
theorem dX0_readOrder_164 : decode cX0_readOrder 164 = .ok (.aload_n 1, 1) := by decide +kernel
theorem dX0_readOrder_165 : decode cX0_readOrder 165 = .ok (.invokevirtual 76, 3) := by decide +kernel
theorem dX0_readOrder_168 : decode cX0_readOrder 168 = .ok (.putfield 64, 3) := by decide +kernel
theorem dX0_readOrder_171 : decode cX0_readOrder 171 = .ok (.goto 9, 3) := by decide +kernel
theorem dX0_readOrder_174 : decode cX0_readOrder 174 = .ok (.aload_n 0, 1) := by decide +kernel
theorem dX0_readOrder_175 : decode cX0_readOrder 175 = .ok (.iconst 1, 1) := by decide +kernel
theorem dX0_readOrder_176 : decode cX0_readOrder 176 = .ok (.iconst 0, 1) := by decide +kernel
theorem dX0_readOrder_177 : decode cX0_readOrder 177 = .ok (.invokevirtual 84, 3) := by decide +kernel
theorem dX0_readOrder_180 : decode cX0_readOrder 180 = .ok (.aload_n 0, 1) := by decide +kernel
theorem dX0_readOrder_181 : decode cX0_readOrder 181 = .ok (.aload_n 1, 1) := by decide +kernel
theorem dX0_readOrder_182 : decode cX0_readOrder 182 = .ok (.bipush 59, 2) := by decide +kernel
theorem dX0_readOrder_184 : decode cX0_readOrder 184 = .ok (.invokevirtual 80, 3) := by decide +kernel
theorem dX0_readOrder_187 : decode cX0_readOrder 187 = .ok (.return_, 1) := by decide +kernel
set_option maxRecDepth 20000 in
theorem ggX0_readDigit_X2_signAt : GoodIn wsX0_readDigit wsX2_signAt := goodIn_r _ [7, 8, 9, 10, 11, 12, 32, 33] (by decide +kernel) (by decide +kernel)
set_option maxRecDepth 20000 in
theorem gX0_readDigit_X2_signAt : GoodIn wsX0_readDigit (wsV RX0 50 RX2 yX2_signAt wsX2_signAt) := goodIn_app (goodIn_of _ (by decide +kernel)) ggX0_readDigit_X2_signAt
set_option maxRecDepth 20000 in
theorem ggX0_readDigit_X0_fail : GoodIn wsX0_readDigit wsX0_fail := goodIn_r _ [17, 18, 19, 20, 21, 22, 23, 24, 25, 26, 27, 28, 29, 30, 31] (by decide +kernel) (by decide +kernel)
set_option maxRecDepth 20000 in
theorem gX0_readDigit_X0_fail : GoodIn wsX0_readDigit (wsV RX0 84 RX0 yX0_fail wsX0_fail) := goodIn_app (goodIn_of _ (by decide +kernel)) ggX0_readDigit_X0_fail
theorem dX0_readDigit_0 : decode cX0_readDigit 0 = .ok (.aload_n 1, 1) := by decide +kernel
theorem dX0_readDigit_1 : decode cX0_readDigit 1 = .ok (.aload_n 0, 1) := by decide +kernel
theorem dX0_readDigit_2 : decode cX0_readDigit 2 = .ok (.getfield 29, 3) := by decide +kernel
theorem dX0_readDigit_5 : decode cX0_readDigit 5 = .ok (.invokevirtual 50, 3) := by decide +kernel
theorem dX0_readDigit_8 : decode cX0_readDigit 8 = .ok (.istore_n 2, 1) := by decide +kernel
theorem dX0_readDigit_9 : decode cX0_readDigit 9 = .ok (.iload_n 2, 1) := by decide +kernel
theorem dX0_readDigit_10 : decode cX0_readDigit 10 = .ok (.bipush 48, 2) := by decide +kernel
theorem dX0_readDigit_12 : decode cX0_readDigit 12 = .ok (.if_icmp .lt 9, 3) := by decide +kernel
theorem dX0_readDigit_15 : decode cX0_readDigit 15 = .ok (.iload_n 2, 1) := by decide +kernel
theorem dX0_readDigit_16 : decode cX0_readDigit 16 = .ok (.bipush 57, 2) := by decide +kernel
theorem dX0_readDigit_18 : decode cX0_readDigit 18 = .ok (.if_icmp .le 19, 3) := by decide +kernel
theorem dX0_readDigit_21 : decode cX0_readDigit 21 = .ok (.aload_n 0, 1) := by decide +kernel
theorem dX0_readDigit_22 : decode cX0_readDigit 22 = .ok (.iconst 1, 1) := by decide +kernel
theorem dX0_readDigit_23 : decode cX0_readDigit 23 = .ok (.aload_n 0, 1) := by decide +kernel
theorem dX0_readDigit_24 : decode cX0_readDigit 24 = .ok (.getfield 29, 3) := by decide +kernel
theorem dX0_readDigit_27 : decode cX0_readDigit 27 = .ok (.aload_n 0, 1) := by decide +kernel
theorem dX0_readDigit_28 : decode cX0_readDigit 28 = .ok (.getfield 37, 3) := by decide +kernel
theorem dX0_readDigit_31 : decode cX0_readDigit 31 = .ok (.isub, 1) := by decide +kernel
theorem dX0_readDigit_32 : decode cX0_readDigit 32 = .ok (.invokevirtual 84, 3) := by decide +kernel
theorem dX0_readDigit_35 : decode cX0_readDigit 35 = .ok (.iconst 0, 1) := by decide +kernel
theorem dX0_readDigit_36 : decode cX0_readDigit 36 = .ok (.ireturn, 1) := by decide +kernel
theorem dX0_readDigit_37 : decode cX0_readDigit 37 = .ok (.aload_n 0, 1) := by decide +kernel
theorem dX0_readDigit_38 : decode cX0_readDigit 38 = .ok (.dup, 1) := by decide +kernel
theorem dX0_readDigit_39 : decode cX0_readDigit 39 = .ok (.getfield 29, 3) := by decide +kernel
theorem dX0_readDigit_42 : decode cX0_readDigit 42 = .ok (.iconst 1, 1) := by decide +kernel
theorem dX0_readDigit_43 : decode cX0_readDigit 43 = .ok (.iadd, 1) := by decide +kernel
theorem dX0_readDigit_44 : decode cX0_readDigit 44 = .ok (.putfield 29, 3) := by decide +kernel
theorem dX0_readDigit_47 : decode cX0_readDigit 47 = .ok (.iload_n 2, 1) := by decide +kernel
theorem dX0_readDigit_48 : decode cX0_readDigit 48 = .ok (.bipush 48, 2) := by decide +kernel
theorem dX0_readDigit_50 : decode cX0_readDigit 50 = .ok (.isub, 1) := by decide +kernel
theorem dX0_readDigit_51 : decode cX0_readDigit 51 = .ok (.ireturn, 1) := by decide +kernel
set_option maxRecDepth 20000 in
theorem ggX0_readSign_X2_signAt : GoodIn wsX0_readSign wsX2_signAt := goodIn_r _ [7, 8, 9, 10, 11, 12, 32, 33] (by decide +kernel) (by decide +kernel)
set_option maxRecDepth 20000 in
theorem gX0_readSign_X2_signAt : GoodIn wsX0_readSign (wsV RX0 50 RX2 yX2_signAt wsX2_signAt) := goodIn_app (goodIn_of _ (by decide +kernel)) ggX0_readSign_X2_signAt
set_option maxRecDepth 20000 in
theorem ggX0_readSign_X0_fail : GoodIn wsX0_readSign wsX0_fail := goodIn_r _ [17, 18, 19, 20, 21, 22, 23, 24, 25, 26, 27, 28, 29, 30, 31] (by decide +kernel) (by decide +kernel)
set_option maxRecDepth 20000 in
theorem gX0_readSign_X0_fail : GoodIn wsX0_readSign (wsV RX0 84 RX0 yX0_fail wsX0_fail) := goodIn_app (goodIn_of _ (by decide +kernel)) ggX0_readSign_X0_fail
theorem dX0_readSign_0 : decode cX0_readSign 0 = .ok (.aload_n 1, 1) := by decide +kernel
theorem dX0_readSign_1 : decode cX0_readSign 1 = .ok (.aload_n 0, 1) := by decide +kernel
theorem dX0_readSign_2 : decode cX0_readSign 2 = .ok (.getfield 29, 3) := by decide +kernel
theorem dX0_readSign_5 : decode cX0_readSign 5 = .ok (.invokevirtual 50, 3) := by decide +kernel
theorem dX0_readSign_8 : decode cX0_readSign 8 = .ok (.iload_n 2, 1) := by decide +kernel
theorem dX0_readSign_9 : decode cX0_readSign 9 = .ok (.if_icmp .eq 18, 3) := by decide +kernel
theorem dX0_readSign_12 : decode cX0_readSign 12 = .ok (.aload_n 0, 1) := by decide +kernel
theorem dX0_readSign_13 : decode cX0_readSign 13 = .ok (.iconst 1, 1) := by decide +kernel
theorem dX0_readSign_14 : decode cX0_readSign 14 = .ok (.aload_n 0, 1) := by decide +kernel
theorem dX0_readSign_15 : decode cX0_readSign 15 = .ok (.getfield 29, 3) := by decide +kernel
theorem dX0_readSign_18 : decode cX0_readSign 18 = .ok (.aload_n 0, 1) := by decide +kernel
theorem dX0_readSign_19 : decode cX0_readSign 19 = .ok (.getfield 37, 3) := by decide +kernel
theorem dX0_readSign_22 : decode cX0_readSign 22 = .ok (.isub, 1) := by decide +kernel
theorem dX0_readSign_23 : decode cX0_readSign 23 = .ok (.invokevirtual 84, 3) := by decide +kernel
theorem dX0_readSign_26 : decode cX0_readSign 26 = .ok (.return_, 1) := by decide +kernel
theorem dX0_readSign_27 : decode cX0_readSign 27 = .ok (.aload_n 0, 1) := by decide +kernel
theorem dX0_readSign_28 : decode cX0_readSign 28 = .ok (.dup, 1) := by decide +kernel
theorem dX0_readSign_29 : decode cX0_readSign 29 = .ok (.getfield 29, 3) := by decide +kernel
theorem dX0_readSign_32 : decode cX0_readSign 32 = .ok (.iconst 1, 1) := by decide +kernel
theorem dX0_readSign_33 : decode cX0_readSign 33 = .ok (.iadd, 1) := by decide +kernel
theorem dX0_readSign_34 : decode cX0_readSign 34 = .ok (.putfield 29, 3) := by decide +kernel
theorem dX0_readSign_37 : decode cX0_readSign 37 = .ok (.return_, 1) := by decide +kernel
set_option maxRecDepth 20000 in
theorem ggX0_readLetters_X2_signAt : GoodIn wsX0_readLetters wsX2_signAt := goodIn_r _ [9, 10, 11, 12, 13, 14, 34, 35] (by decide +kernel) (by decide +kernel)
set_option maxRecDepth 20000 in
theorem gX0_readLetters_X2_signAt : GoodIn wsX0_readLetters (wsV RX0 50 RX2 yX2_signAt wsX2_signAt) := goodIn_app (goodIn_of _ (by decide +kernel)) ggX0_readLetters_X2_signAt
set_option maxRecDepth 20000 in
theorem ggX0_readLetters_X0_fail : GoodIn wsX0_readLetters wsX0_fail := goodIn_r _ [19, 20, 21, 22, 23, 24, 25, 26, 27, 28, 29, 30, 31, 32, 33] (by decide +kernel) (by decide +kernel)
set_option maxRecDepth 20000 in
theorem gX0_readLetters_X0_fail : GoodIn wsX0_readLetters (wsV RX0 84 RX0 yX0_fail wsX0_fail) := goodIn_app (goodIn_of _ (by decide +kernel)) ggX0_readLetters_X0_fail
theorem dX0_readLetters_0 : decode cX0_readLetters 0 = .ok (.iconst 0, 1) := by decide +kernel
theorem dX0_readLetters_1 : decode cX0_readLetters 1 = .ok (.istore_n 2, 1) := by decide +kernel
theorem dX0_readLetters_2 : decode cX0_readLetters 2 = .ok (.iload_n 2, 1) := by decide +kernel
theorem dX0_readLetters_3 : decode cX0_readLetters 3 = .ok (.bipush 60, 2) := by decide +kernel
theorem dX0_readLetters_5 : decode cX0_readLetters 5 = .ok (.if_icmp .ge 80, 3) := by decide +kernel
theorem dX0_readLetters_8 : decode cX0_readLetters 8 = .ok (.aload_n 1, 1) := by decide +kernel
theorem dX0_readLetters_9 : decode cX0_readLetters 9 = .ok (.aload_n 0, 1) := by decide +kernel
theorem dX0_readLetters_10 : decode cX0_readLetters 10 = .ok (.getfield 29, 3) := by decide +kernel
theorem dX0_readLetters_13 : decode cX0_readLetters 13 = .ok (.invokevirtual 50, 3) := by decide +kernel
theorem dX0_readLetters_16 : decode cX0_readLetters 16 = .ok (.istore_n 3, 1) := by decide +kernel
theorem dX0_readLetters_17 : decode cX0_readLetters 17 = .ok (.iload_n 3, 1) := by decide +kernel
theorem dX0_readLetters_18 : decode cX0_readLetters 18 = .ok (.bipush 97, 2) := by decide +kernel
theorem dX0_readLetters_20 : decode cX0_readLetters 20 = .ok (.if_icmp .lt 65, 3) := by decide +kernel
theorem dX0_readLetters_23 : decode cX0_readLetters 23 = .ok (.iload_n 3, 1) := by decide +kernel
theorem dX0_readLetters_24 : decode cX0_readLetters 24 = .ok (.bipush 122, 2) := by decide +kernel
theorem dX0_readLetters_26 : decode cX0_readLetters 26 = .ok (.if_icmp .le 6, 3) := by decide +kernel
theorem dX0_readLetters_29 : decode cX0_readLetters 29 = .ok (.goto 56, 3) := by decide +kernel
theorem dX0_readLetters_32 : decode cX0_readLetters 32 = .ok (.aload_n 0, 1) := by decide +kernel
theorem dX0_readLetters_33 : decode cX0_readLetters 33 = .ok (.dup, 1) := by decide +kernel
theorem dX0_readLetters_34 : decode cX0_readLetters 34 = .ok (.getfield 67, 3) := by decide +kernel
theorem dX0_readLetters_37 : decode cX0_readLetters 37 = .ok (.iconst 1, 1) := by decide +kernel
theorem dX0_readLetters_38 : decode cX0_readLetters 38 = .ok (.iadd, 1) := by decide +kernel
theorem dX0_readLetters_39 : decode cX0_readLetters 39 = .ok (.putfield 67, 3) := by decide +kernel
theorem dX0_readLetters_42 : decode cX0_readLetters 42 = .ok (.aload_n 0, 1) := by decide +kernel
theorem dX0_readLetters_43 : decode cX0_readLetters 43 = .ok (.getfield 67, 3) := by decide +kernel
theorem dX0_readLetters_46 : decode cX0_readLetters 46 = .ok (.bipush 6, 2) := by decide +kernel
theorem dX0_readLetters_48 : decode cX0_readLetters 48 = .ok (.if_icmp .gt 21, 3) := by decide +kernel
theorem dX0_readLetters_51 : decode cX0_readLetters 51 = .ok (.aload_n 0, 1) := by decide +kernel
theorem dX0_readLetters_52 : decode cX0_readLetters 52 = .ok (.aload_n 0, 1) := by decide +kernel
theorem dX0_readLetters_53 : decode cX0_readLetters 53 = .ok (.getfield 70, 3) := by decide +kernel
theorem dX0_readLetters_56 : decode cX0_readLetters 56 = .ok (.bipush 27, 2) := by decide +kernel
theorem dX0_readLetters_58 : decode cX0_readLetters 58 = .ok (.imul, 1) := by decide +kernel
theorem dX0_readLetters_59 : decode cX0_readLetters 59 = .ok (.iload_n 3, 1) := by decide +kernel
theorem dX0_readLetters_60 : decode cX0_readLetters 60 = .ok (.bipush 97, 2) := by decide +kernel
theorem dX0_readLetters_62 : decode cX0_readLetters 62 = .ok (.isub, 1) := by decide +kernel
theorem dX0_readLetters_63 : decode cX0_readLetters 63 = .ok (.iconst 1, 1) := by decide +kernel
theorem dX0_readLetters_64 : decode cX0_readLetters 64 = .ok (.iadd, 1) := by decide +kernel
theorem dX0_readLetters_65 : decode cX0_readLetters 65 = .ok (.iadd, 1) := by decide +kernel
theorem dX0_readLetters_66 : decode cX0_readLetters 66 = .ok (.putfield 70, 3) := by decide +kernel
theorem dX0_readLetters_69 : decode cX0_readLetters 69 = .ok (.aload_n 0, 1) := by decide +kernel
theorem dX0_readLetters_70 : decode cX0_readLetters 70 = .ok (.dup, 1) := by decide +kernel
theorem dX0_readLetters_71 : decode cX0_readLetters 71 = .ok (.getfield 29, 3) := by decide +kernel
theorem dX0_readLetters_74 : decode cX0_readLetters 74 = .ok (.iconst 1, 1) := by decide +kernel
theorem dX0_readLetters_75 : decode cX0_readLetters 75 = .ok (.iadd, 1) := by decide +kernel
theorem dX0_readLetters_76 : decode cX0_readLetters 76 = .ok (.putfield 29, 3) := by decide +kernel
theorem dX0_readLetters_79 : decode cX0_readLetters 79 = .ok (.iinc 2 1, 3) := by decide +kernel
theorem dX0_readLetters_82 : decode cX0_readLetters 82 = .ok (.goto (-80), 3) := by decide +kernel
theorem dX0_readLetters_85 : decode cX0_readLetters 85 = .ok (.aload_n 0, 1) := by decide +kernel
theorem dX0_readLetters_86 : decode cX0_readLetters 86 = .ok (.getfield 67, 3) := by decide +kernel
theorem dX0_readLetters_89 : decode cX0_readLetters 89 = .ok (.ifCond .ne 17, 3) := by decide +kernel
theorem dX0_readLetters_92 : decode cX0_readLetters 92 = .ok (.aload_n 0, 1) := by decide +kernel
theorem dX0_readLetters_93 : decode cX0_readLetters 93 = .ok (.iconst 1, 1) := by decide +kernel
theorem dX0_readLetters_94 : decode cX0_readLetters 94 = .ok (.aload_n 0, 1) := by decide +kernel
theorem dX0_readLetters_95 : decode cX0_readLetters 95 = .ok (.getfield 29, 3) := by decide +kernel
theorem dX0_readLetters_98 : decode cX0_readLetters 98 = .ok (.aload_n 0, 1) := by decide +kernel
theorem dX0_readLetters_99 : decode cX0_readLetters 99 = .ok (.getfield 37, 3) := by decide +kernel
theorem dX0_readLetters_102 : decode cX0_readLetters 102 = .ok (.isub, 1) := by decide +kernel
theorem dX0_readLetters_103 : decode cX0_readLetters 103 = .ok (.invokevirtual 84, 3) := by decide +kernel
theorem dX0_readLetters_106 : decode cX0_readLetters 106 = .ok (.return_, 1) := by decide +kernel
set_option maxRecDepth 20000 in
theorem ggX0_checkRanges_X0_fail : GoodIn wsX0_checkRanges wsX0_fail := goodIn_r _ [9, 10, 11, 12, 13, 14, 15, 16, 17, 18, 19, 20, 21, 22, 23] (by decide +kernel) (by decide +kernel)
set_option maxRecDepth 20000 in
theorem gX0_checkRanges_X0_fail : GoodIn wsX0_checkRanges (wsV RX0 84 RX0 yX0_fail wsX0_fail) := goodIn_app (goodIn_of _ (by decide +kernel)) ggX0_checkRanges_X0_fail
theorem dX0_checkRanges_0 : decode cX0_checkRanges 0 = .ok (.aload_n 0, 1) := by decide +kernel
theorem dX0_checkRanges_1 : decode cX0_checkRanges 1 = .ok (.getfield 58, 3) := by decide +kernel
theorem dX0_checkRanges_4 : decode cX0_checkRanges 4 = .ok (.iconst 3, 1) := by decide +kernel
theorem dX0_checkRanges_5 : decode cX0_checkRanges 5 = .ok (.if_icmp .lt 9, 3) := by decide +kernel
theorem dX0_checkRanges_8 : decode cX0_checkRanges 8 = .ok (.aload_n 0, 1) := by decide +kernel
theorem dX0_checkRanges_9 : decode cX0_checkRanges 9 = .ok (.iconst 2, 1) := by decide +kernel
theorem dX0_checkRanges_10 : decode cX0_checkRanges 10 = .ok (.iconst 0, 1) := by decide +kernel
theorem dX0_checkRanges_11 : decode cX0_checkRanges 11 = .ok (.invokevirtual 84, 3) := by decide +kernel
theorem dX0_checkRanges_14 : decode cX0_checkRanges 14 = .ok (.aload_n 0, 1) := by decide +kernel
theorem dX0_checkRanges_15 : decode cX0_checkRanges 15 = .ok (.getfield 61, 3) := by decide +kernel
theorem dX0_checkRanges_18 : decode cX0_checkRanges 18 = .ok (.bipush 6, 2) := by decide +kernel
theorem dX0_checkRanges_20 : decode cX0_checkRanges 20 = .ok (.if_icmp .lt 9, 3) := by decide +kernel
theorem dX0_checkRanges_23 : decode cX0_checkRanges 23 = .ok (.aload_n 0, 1) := by decide +kernel
theorem dX0_checkRanges_24 : decode cX0_checkRanges 24 = .ok (.iconst 2, 1) := by decide +kernel
theorem dX0_checkRanges_25 : decode cX0_checkRanges 25 = .ok (.iconst 1, 1) := by decide +kernel
theorem dX0_checkRanges_26 : decode cX0_checkRanges 26 = .ok (.invokevirtual 84, 3) := by decide +kernel
theorem dX0_checkRanges_29 : decode cX0_checkRanges 29 = .ok (.aload_n 0, 1) := by decide +kernel
theorem dX0_checkRanges_30 : decode cX0_checkRanges 30 = .ok (.getfield 64, 3) := by decide +kernel
theorem dX0_checkRanges_33 : decode cX0_checkRanges 33 = .ok (.iconst 3, 1) := by decide +kernel
theorem dX0_checkRanges_34 : decode cX0_checkRanges 34 = .ok (.if_icmp .lt 9, 3) := by decide +kernel
theorem dX0_checkRanges_37 : decode cX0_checkRanges 37 = .ok (.aload_n 0, 1) := by decide +kernel
theorem dX0_checkRanges_38 : decode cX0_checkRanges 38 = .ok (.iconst 2, 1) := by decide +kernel
theorem dX0_checkRanges_39 : decode cX0_checkRanges 39 = .ok (.iconst 2, 1) := by decide +kernel
theorem dX0_checkRanges_40 : decode cX0_checkRanges 40 = .ok (.invokevirtual 84, 3) := by decide +kernel
theorem dX0_checkRanges_43 : decode cX0_checkRanges 43 = .ok (.aload_n 0, 1) := by decide +kernel
theorem dX0_checkRanges_44 : decode cX0_checkRanges 44 = .ok (.getfield 67, 3) := by decide +kernel
theorem dX0_checkRanges_47 : decode cX0_checkRanges 47 = .ok (.bipush 6, 2) := by decide +kernel
theorem dX0_checkRanges_49 : decode cX0_checkRanges 49 = .ok (.if_icmp .le 9, 3) := by decide +kernel
theorem dX0_checkRanges_52 : decode cX0_checkRanges 52 = .ok (.aload_n 0, 1) := by decide +kernel
theorem dX0_checkRanges_53 : decode cX0_checkRanges 53 = .ok (.iconst 2, 1) := by decide +kernel
theorem dX0_checkRanges_54 : decode cX0_checkRanges 54 = .ok (.iconst 3, 1) := by decide +kernel
theorem dX0_checkRanges_55 : decode cX0_checkRanges 55 = .ok (.invokevirtual 84, 3) := by decide +kernel
theorem dX0_checkRanges_58 : decode cX0_checkRanges 58 = .ok (.return_, 1) := by decide +kernel
set_option maxRecDepth 20000 in
theorem ggX0_carryOut_X1_numberWith : GoodIn wsX0_carryOut wsX1_numberWith := goodIn_r _ [12, 13, 129, 130, 131, 132, 133, 134, 135, 136, 137, 138, 139, 140, 141, 142, 143] (by decide +kernel) (by decide +kernel)
set_option maxRecDepth 20000 in
theorem gX0_carryOut_X1_numberWith : GoodIn wsX0_carryOut (wsV RX0 88 RX1 yX1_numberWith wsX1_numberWith) := goodIn_app (goodIn_of _ (by decide +kernel)) ggX0_carryOut_X1_numberWith
set_option maxRecDepth 20000 in
theorem ggX0_carryOut_X0_canCarryOut : GoodIn wsX0_carryOut wsX0_canCarryOut := goodIn_r _ [18, 4, 2, 3, 19, 20, 21, 11, 22, 23, 9, 10, 12, 13, 24, 25, 26, 27, 28, 29, 30, 31, 32, 33, 34, 35, 36, 37, 38, 39, 40, 41, 42, 43, 44, 45, 46, 117, 118, 119, 120, 121, 122, 123, 124, 125, 126, 127, 128, 129, 130, 131, 132, 133, 134, 135, 136, 137, 138, 139, 140, 141, 142, 143] (by decide +kernel) (by decide +kernel)
set_option maxRecDepth 20000 in
theorem gX0_carryOut_X0_canCarryOut : GoodIn wsX0_carryOut (wsV RX0 92 RX0 yX0_canCarryOut wsX0_canCarryOut) := goodIn_app (goodIn_of _ (by decide +kernel)) ggX0_carryOut_X0_canCarryOut
set_option maxRecDepth 20000 in
theorem ggX0_carryOut_X0_fail : GoodIn wsX0_carryOut wsX0_fail := goodIn_r _ [50, 1, 51, 117, 118, 119, 120, 121, 122, 123, 124, 125, 126, 127, 128] (by decide +kernel) (by decide +kernel)
set_option maxRecDepth 20000 in
theorem gX0_carryOut_X0_fail : GoodIn wsX0_carryOut (wsV RX0 84 RX0 yX0_fail wsX0_fail) := goodIn_app (goodIn_of _ (by decide +kernel)) ggX0_carryOut_X0_fail
set_option maxRecDepth 20000 in
theorem ggX0_carryOut_X1_enter : GoodIn wsX0_carryOut wsX1_enter := goodIn_r _ [55, 13, 56, 23, 9, 10, 11, 12, 57, 58, 59, 60, 28, 29, 30, 31, 129, 130, 131, 132, 133, 134, 135, 136, 137, 138, 139, 140, 141, 142, 143] (by decide +kernel) (by decide +kernel)
set_option maxRecDepth 20000 in
theorem gX0_carryOut_X1_enter : GoodIn wsX0_carryOut (wsV RX0 96 RX1 yX1_enter wsX1_enter) := goodIn_app (goodIn_of _ (by decide +kernel)) ggX0_carryOut_X1_enter
set_option maxRecDepth 20000 in
theorem ggX0_carryOut_X1_giveBack : GoodIn wsX0_carryOut wsX1_giveBack := goodIn_r _ [64, 28, 13, 65, 66, 29, 30, 31, 129, 130, 131, 132, 133, 134, 135, 136, 137, 138, 139, 140, 141, 142, 143] (by decide +kernel) (by decide +kernel)
set_option maxRecDepth 20000 in
theorem gX0_carryOut_X1_giveBack : GoodIn wsX0_carryOut (wsV RX0 99 RX1 yX1_giveBack wsX1_giveBack) := goodIn_app (goodIn_of _ (by decide +kernel)) ggX0_carryOut_X1_giveBack
set_option maxRecDepth 20000 in
theorem ggX0_carryOut_X3_cellIndex : GoodIn wsX0_carryOut wsX3_cellIndex := goodIn_r _ [68] (by decide +kernel) (by decide +kernel)
set_option maxRecDepth 20000 in
theorem gX0_carryOut_X3_cellIndex_n102 : GoodIn wsX0_carryOut (wsX3_cellIndex) := ggX0_carryOut_X3_cellIndex
set_option maxRecDepth 20000 in
theorem ggX0_carryOut_X1_fillCell : GoodIn wsX0_carryOut wsX1_fillCell := goodIn_r _ [72, 40, 28, 29, 30, 31, 57, 58, 59, 11, 60, 73, 62, 63, 64, 13, 65, 66, 129, 130, 131, 132, 133, 134, 135, 136, 137, 138, 139, 140, 141, 142, 143] (by decide +kernel) (by decide +kernel)
set_option maxRecDepth 20000 in
theorem gX0_carryOut_X1_fillCell : GoodIn wsX0_carryOut (wsV RX0 106 RX1 yX1_fillCell wsX1_fillCell) := goodIn_app (goodIn_of _ (by decide +kernel)) ggX0_carryOut_X1_fillCell
set_option maxRecDepth 20000 in
theorem ggX0_carryOut_X1_giveAnew : GoodIn wsX0_carryOut wsX1_giveAnew := goodIn_r _ [77, 46, 13, 78, 79, 80, 81, 65, 82, 83, 84, 85, 86, 87, 88, 89, 90, 11, 91, 92, 93, 94, 95, 28, 29, 30, 31, 96, 97, 98, 99, 100, 101, 102, 103, 104, 105, 106, 107, 108, 109, 110, 111, 112, 113, 114, 115, 116, 40, 129, 130, 131, 132, 133, 134, 135, 136, 137, 138, 139, 140, 141, 142, 143] (by decide +kernel) (by decide +kernel)
set_option maxRecDepth 20000 in
theorem gX0_carryOut_X1_giveAnew : GoodIn wsX0_carryOut (wsV RX0 109 RX1 yX1_giveAnew wsX1_giveAnew) := goodIn_app (goodIn_of _ (by decide +kernel)) ggX0_carryOut_X1_giveAnew
theorem dX0_carryOut_0 : decode cX0_carryOut 0 = .ok (.aload_n 0, 1) := by decide +kernel
theorem dX0_carryOut_1 : decode cX0_carryOut 1 = .ok (.getfield 26, 3) := by decide +kernel
theorem dX0_carryOut_4 : decode cX0_carryOut 4 = .ok (.ifCond .eq 4, 3) := by decide +kernel
theorem dX0_carryOut_7 : decode cX0_carryOut 7 = .ok (.return_, 1) := by decide +kernel
theorem dX0_carryOut_8 : decode cX0_carryOut 8 = .ok (.aload_n 0, 1) := by decide +kernel
theorem dX0_carryOut_9 : decode cX0_carryOut 9 = .ok (.getfield 12, 3) := by decide +kernel
theorem dX0_carryOut_12 : decode cX0_carryOut 12 = .ok (.aload_n 0, 1) := by decide +kernel
theorem dX0_carryOut_13 : decode cX0_carryOut 13 = .ok (.getfield 70, 3) := by decide +kernel
theorem dX0_carryOut_16 : decode cX0_carryOut 16 = .ok (.invokevirtual 88, 3) := by decide +kernel
theorem dX0_carryOut_19 : decode cX0_carryOut 19 = .ok (.istore_n 1, 1) := by decide +kernel
theorem dX0_carryOut_20 : decode cX0_carryOut 20 = .ok (.aload_n 0, 1) := by decide +kernel
theorem dX0_carryOut_21 : decode cX0_carryOut 21 = .ok (.iload_n 1, 1) := by decide +kernel
theorem dX0_carryOut_22 : decode cX0_carryOut 22 = .ok (.invokevirtual 92, 3) := by decide +kernel
theorem dX0_carryOut_25 : decode cX0_carryOut 25 = .ok (.ifCond .ne 10, 3) := by decide +kernel
theorem dX0_carryOut_28 : decode cX0_carryOut 28 = .ok (.aload_n 0, 1) := by decide +kernel
theorem dX0_carryOut_29 : decode cX0_carryOut 29 = .ok (.iconst 3, 1) := by decide +kernel
theorem dX0_carryOut_30 : decode cX0_carryOut 30 = .ok (.iconst 0, 1) := by decide +kernel
theorem dX0_carryOut_31 : decode cX0_carryOut 31 = .ok (.invokevirtual 84, 3) := by decide +kernel
theorem dX0_carryOut_34 : decode cX0_carryOut 34 = .ok (.return_, 1) := by decide +kernel
theorem dX0_carryOut_35 : decode cX0_carryOut 35 = .ok (.aload_n 0, 1) := by decide +kernel
theorem dX0_carryOut_36 : decode cX0_carryOut 36 = .ok (.getfield 54, 3) := by decide +kernel
theorem dX0_carryOut_39 : decode cX0_carryOut 39 = .ok (.lookupswitch 83 #[(43, 33), (45, 48), (61, 60)], 33) := by decide +kernel
theorem dX0_carryOut_72 : decode cX0_carryOut 72 = .ok (.aload_n 0, 1) := by decide +kernel
theorem dX0_carryOut_73 : decode cX0_carryOut 73 = .ok (.getfield 12, 3) := by decide +kernel
theorem dX0_carryOut_76 : decode cX0_carryOut 76 = .ok (.aload_n 0, 1) := by decide +kernel
theorem dX0_carryOut_77 : decode cX0_carryOut 77 = .ok (.getfield 70, 3) := by decide +kernel
theorem dX0_carryOut_80 : decode cX0_carryOut 80 = .ok (.invokevirtual 96, 3) := by decide +kernel
theorem dX0_carryOut_83 : decode cX0_carryOut 83 = .ok (.pop, 1) := by decide +kernel
theorem dX0_carryOut_84 : decode cX0_carryOut 84 = .ok (.goto 50, 3) := by decide +kernel
theorem dX0_carryOut_87 : decode cX0_carryOut 87 = .ok (.aload_n 0, 1) := by decide +kernel
theorem dX0_carryOut_88 : decode cX0_carryOut 88 = .ok (.getfield 12, 3) := by decide +kernel
theorem dX0_carryOut_91 : decode cX0_carryOut 91 = .ok (.iload_n 1, 1) := by decide +kernel
theorem dX0_carryOut_92 : decode cX0_carryOut 92 = .ok (.invokevirtual 99, 3) := by decide +kernel
theorem dX0_carryOut_95 : decode cX0_carryOut 95 = .ok (.pop, 1) := by decide +kernel
theorem dX0_carryOut_96 : decode cX0_carryOut 96 = .ok (.goto 38, 3) := by decide +kernel
theorem dX0_carryOut_99 : decode cX0_carryOut 99 = .ok (.aload_n 0, 1) := by decide +kernel
theorem dX0_carryOut_100 : decode cX0_carryOut 100 = .ok (.getfield 12, 3) := by decide +kernel
theorem dX0_carryOut_103 : decode cX0_carryOut 103 = .ok (.aload_n 0, 1) := by decide +kernel
theorem dX0_carryOut_104 : decode cX0_carryOut 104 = .ok (.getfield 58, 3) := by decide +kernel
theorem dX0_carryOut_107 : decode cX0_carryOut 107 = .ok (.aload_n 0, 1) := by decide +kernel
theorem dX0_carryOut_108 : decode cX0_carryOut 108 = .ok (.getfield 61, 3) := by decide +kernel
theorem dX0_carryOut_111 : decode cX0_carryOut 111 = .ok (.invokestatic 102, 3) := by decide +kernel
theorem dX0_carryOut_114 : decode cX0_carryOut 114 = .ok (.iload_n 1, 1) := by decide +kernel
theorem dX0_carryOut_115 : decode cX0_carryOut 115 = .ok (.invokevirtual 106, 3) := by decide +kernel
theorem dX0_carryOut_118 : decode cX0_carryOut 118 = .ok (.pop, 1) := by decide +kernel
theorem dX0_carryOut_119 : decode cX0_carryOut 119 = .ok (.goto 15, 3) := by decide +kernel
theorem dX0_carryOut_122 : decode cX0_carryOut 122 = .ok (.aload_n 0, 1) := by decide +kernel
theorem dX0_carryOut_123 : decode cX0_carryOut 123 = .ok (.getfield 12, 3) := by decide +kernel
theorem dX0_carryOut_126 : decode cX0_carryOut 126 = .ok (.aload_n 0, 1) := by decide +kernel
theorem dX0_carryOut_127 : decode cX0_carryOut 127 = .ok (.getfield 64, 3) := by decide +kernel
theorem dX0_carryOut_130 : decode cX0_carryOut 130 = .ok (.invokevirtual 109, 3) := by decide +kernel
theorem dX0_carryOut_133 : decode cX0_carryOut 133 = .ok (.pop, 1) := by decide +kernel
theorem dX0_carryOut_134 : decode cX0_carryOut 134 = .ok (.return_, 1) := by decide +kernel
set_option maxRecDepth 20000 in
theorem ggX0_canCarryOut_X1_hasRoomFor : GoodIn wsX0_canCarryOut wsX1_hasRoomFor := goodIn_r _ [8, 9, 10, 11, 7, 12, 13, 14, 15, 16, 17, 18, 19, 20, 21, 49, 50, 51, 52, 53, 54, 55, 56, 57, 58, 59, 60, 61, 62, 63] (by decide +kernel) (by decide +kernel)
set_option maxRecDepth 20000 in
theorem gX0_canCarryOut_X1_hasRoomFor : GoodIn wsX0_canCarryOut (wsV RX0 112 RX1 yX1_hasRoomFor wsX1_hasRoomFor) := goodIn_app (goodIn_of _ (by decide +kernel)) ggX0_canCarryOut_X1_hasRoomFor
set_option maxRecDepth 20000 in
theorem ggX0_canCarryOut_X1_hasFreeUser : GoodIn wsX0_canCarryOut wsX1_hasFreeUser := goodIn_r _ [25, 18, 19, 20, 21, 26, 27, 28, 7, 29, 30, 49, 50, 51, 52, 53, 54, 55, 56, 57, 58, 59, 60, 61, 62, 63] (by decide +kernel) (by decide +kernel)
set_option maxRecDepth 20000 in
theorem gX0_canCarryOut_X1_hasFreeUser : GoodIn wsX0_canCarryOut (wsV RX0 115 RX1 yX1_hasFreeUser wsX1_hasFreeUser) := goodIn_app (goodIn_of _ (by decide +kernel)) ggX0_canCarryOut_X1_hasFreeUser
set_option maxRecDepth 20000 in
theorem ggX0_canCarryOut_X1_hasRoomForUser : GoodIn wsX0_canCarryOut wsX1_hasRoomForUser := goodIn_r _ [17, 18, 19, 20, 21, 49, 50, 51, 52, 53, 54, 55, 56, 57, 58, 59, 60, 61, 62, 63] (by decide +kernel) (by decide +kernel)
set_option maxRecDepth 20000 in
theorem gX0_canCarryOut_X1_hasRoomForUser : GoodIn wsX0_canCarryOut (wsV RX0 118 RX1 yX1_hasRoomForUser wsX1_hasRoomForUser) := goodIn_app (goodIn_of _ (by decide +kernel)) ggX0_canCarryOut_X1_hasRoomForUser
set_option maxRecDepth 20000 in
theorem ggX0_canCarryOut_X1_hasNextEpoch : GoodIn wsX0_canCarryOut wsX1_hasNextEpoch := goodIn_r _ [35, 36, 49, 50, 51, 52, 53, 54, 55, 56, 57, 58, 59, 60, 61, 62, 63] (by decide +kernel) (by decide +kernel)
set_option maxRecDepth 20000 in
theorem gX0_canCarryOut_X1_hasNextEpoch : GoodIn wsX0_canCarryOut (wsV RX0 121 RX1 yX1_hasNextEpoch wsX1_hasNextEpoch) := goodIn_app (goodIn_of _ (by decide +kernel)) ggX0_canCarryOut_X1_hasNextEpoch
theorem dX0_canCarryOut_0 : decode cX0_canCarryOut 0 = .ok (.aload_n 0, 1) := by decide +kernel
theorem dX0_canCarryOut_1 : decode cX0_canCarryOut 1 = .ok (.getfield 54, 3) := by decide +kernel
theorem dX0_canCarryOut_4 : decode cX0_canCarryOut 4 = .ok (.lookupswitch 66 #[(43, 36), (45, 48), (61, 57)], 36) := by decide +kernel
theorem dX0_canCarryOut_40 : decode cX0_canCarryOut 40 = .ok (.aload_n 0, 1) := by decide +kernel
theorem dX0_canCarryOut_41 : decode cX0_canCarryOut 41 = .ok (.getfield 12, 3) := by decide +kernel
theorem dX0_canCarryOut_44 : decode cX0_canCarryOut 44 = .ok (.aload_n 0, 1) := by decide +kernel
theorem dX0_canCarryOut_45 : decode cX0_canCarryOut 45 = .ok (.getfield 70, 3) := by decide +kernel
theorem dX0_canCarryOut_48 : decode cX0_canCarryOut 48 = .ok (.invokevirtual 112, 3) := by decide +kernel
theorem dX0_canCarryOut_51 : decode cX0_canCarryOut 51 = .ok (.ireturn, 1) := by decide +kernel
theorem dX0_canCarryOut_52 : decode cX0_canCarryOut 52 = .ok (.aload_n 0, 1) := by decide +kernel
theorem dX0_canCarryOut_53 : decode cX0_canCarryOut 53 = .ok (.getfield 12, 3) := by decide +kernel
theorem dX0_canCarryOut_56 : decode cX0_canCarryOut 56 = .ok (.iload_n 1, 1) := by decide +kernel
theorem dX0_canCarryOut_57 : decode cX0_canCarryOut 57 = .ok (.invokevirtual 115, 3) := by decide +kernel
theorem dX0_canCarryOut_60 : decode cX0_canCarryOut 60 = .ok (.ireturn, 1) := by decide +kernel
theorem dX0_canCarryOut_61 : decode cX0_canCarryOut 61 = .ok (.aload_n 0, 1) := by decide +kernel
theorem dX0_canCarryOut_62 : decode cX0_canCarryOut 62 = .ok (.getfield 12, 3) := by decide +kernel
theorem dX0_canCarryOut_65 : decode cX0_canCarryOut 65 = .ok (.iload_n 1, 1) := by decide +kernel
theorem dX0_canCarryOut_66 : decode cX0_canCarryOut 66 = .ok (.invokevirtual 118, 3) := by decide +kernel
theorem dX0_canCarryOut_69 : decode cX0_canCarryOut 69 = .ok (.ireturn, 1) := by decide +kernel
theorem dX0_canCarryOut_70 : decode cX0_canCarryOut 70 = .ok (.aload_n 0, 1) := by decide +kernel
theorem dX0_canCarryOut_71 : decode cX0_canCarryOut 71 = .ok (.getfield 12, 3) := by decide +kernel
theorem dX0_canCarryOut_74 : decode cX0_canCarryOut 74 = .ok (.invokevirtual 121, 3) := by decide +kernel
theorem dX0_canCarryOut_77 : decode cX0_canCarryOut 77 = .ok (.ireturn, 1) := by decide +kernel
theorem dX0_fail_0 : decode cX0_fail 0 = .ok (.aload_n 0, 1) := by decide +kernel
theorem dX0_fail_1 : decode cX0_fail 1 = .ok (.getfield 26, 3) := by decide +kernel
theorem dX0_fail_4 : decode cX0_fail 4 = .ok (.ifCond .ne 13, 3) := by decide +kernel
end
section
theorem dX0_fail_7 : decode cX0_fail 7 = .ok (.aload_n 0, 1) := by decide +kernel
theorem dX0_fail_8 : decode cX0_fail 8 = .ok (.iload_n 1, 1) := by decide +kernel
theorem dX0_fail_9 : decode cX0_fail 9 = .ok (.putfield 26, 3) := by decide +kernel
theorem dX0_fail_12 : decode cX0_fail 12 = .ok (.aload_n 0, 1) := by decide +kernel
theorem dX0_fail_13 : decode cX0_fail 13 = .ok (.iload_n 2, 1) := by decide +kernel
theorem dX0_fail_14 : decode cX0_fail 14 = .ok (.putfield 125, 3) := by decide +kernel
theorem dX0_fail_17 : decode cX0_fail 17 = .ok (.return_, 1) := by decide +kernel
set_option maxRecDepth 20000 in
theorem ggX1_init_J7_fill_53178 : GoodIn wsX1_init wsJ7_fill_53178 := goodIn_r _ [20] (by decide +kernel) (by decide +kernel)
set_option maxRecDepth 20000 in
theorem gX1_init_J7_fill_53178 : GoodIn wsX1_init (va_wsS RX1 48 yJ7_fill_53178 wsJ7_fill_53178) := goodIn_app (goodIn_of _ (by decide +kernel)) ggX1_init_J7_fill_53178
theorem dX1_init_0 : decode cX1_init 0 = .ok (.aload_n 0, 1) := by decide +kernel
theorem dX1_init_1 : decode cX1_init 1 = .ok (.invokespecial 3, 3) := by decide +kernel
theorem dX1_init_4 : decode cX1_init 4 = .ok (.aload_n 0, 1) := by decide +kernel
theorem dX1_init_5 : decode cX1_init 5 = .ok (.bipush 40, 2) := by decide +kernel
theorem dX1_init_7 : decode cX1_init 7 = .ok (.newarray .int, 2) := by decide +kernel
theorem dX1_init_9 : decode cX1_init 9 = .ok (.putfield 9, 3) := by decide +kernel
theorem dX1_init_12 : decode cX1_init 12 = .ok (.aload_n 0, 1) := by decide +kernel
theorem dX1_init_13 : decode cX1_init 13 = .ok (.bipush 40, 2) := by decide +kernel
theorem dX1_init_15 : decode cX1_init 15 = .ok (.newarray .int, 2) := by decide +kernel
theorem dX1_init_17 : decode cX1_init 17 = .ok (.putfield 15, 3) := by decide +kernel
theorem dX1_init_20 : decode cX1_init 20 = .ok (.aload_n 0, 1) := by decide +kernel
theorem dX1_init_21 : decode cX1_init 21 = .ok (.bipush 40, 2) := by decide +kernel
theorem dX1_init_23 : decode cX1_init 23 = .ok (.newarray .int, 2) := by decide +kernel
theorem dX1_init_25 : decode cX1_init 25 = .ok (.putfield 18, 3) := by decide +kernel
theorem dX1_init_28 : decode cX1_init 28 = .ok (.aload_n 0, 1) := by decide +kernel
theorem dX1_init_29 : decode cX1_init 29 = .ok (.bipush 18, 2) := by decide +kernel
theorem dX1_init_31 : decode cX1_init 31 = .ok (.newarray .int, 2) := by decide +kernel
theorem dX1_init_33 : decode cX1_init 33 = .ok (.putfield 21, 3) := by decide +kernel
theorem dX1_init_36 : decode cX1_init 36 = .ok (.aload_n 0, 1) := by decide +kernel
theorem dX1_init_37 : decode cX1_init 37 = .ok (.iconst 3, 1) := by decide +kernel
theorem dX1_init_38 : decode cX1_init 38 = .ok (.newarray .int, 2) := by decide +kernel
theorem dX1_init_40 : decode cX1_init 40 = .ok (.putfield 24, 3) := by decide +kernel
theorem dX1_init_43 : decode cX1_init 43 = .ok (.aload_n 0, 1) := by decide +kernel
theorem dX1_init_44 : decode cX1_init 44 = .ok (.iconst 3, 1) := by decide +kernel
theorem dX1_init_45 : decode cX1_init 45 = .ok (.newarray .int, 2) := by decide +kernel
theorem dX1_init_47 : decode cX1_init 47 = .ok (.putfield 27, 3) := by decide +kernel
theorem dX1_init_50 : decode cX1_init 50 = .ok (.aload_n 0, 1) := by decide +kernel
theorem dX1_init_51 : decode cX1_init 51 = .ok (.iconst 3, 1) := by decide +kernel
theorem dX1_init_52 : decode cX1_init 52 = .ok (.newarray .int, 2) := by decide +kernel
theorem dX1_init_54 : decode cX1_init 54 = .ok (.putfield 30, 3) := by decide +kernel
theorem dX1_init_57 : decode cX1_init 57 = .ok (.aload_n 0, 1) := by decide +kernel
theorem dX1_init_58 : decode cX1_init 58 = .ok (.bipush 120, 2) := by decide +kernel
theorem dX1_init_60 : decode cX1_init 60 = .ok (.newarray .int, 2) := by decide +kernel
theorem dX1_init_62 : decode cX1_init 62 = .ok (.putfield 33, 3) := by decide +kernel
theorem dX1_init_65 : decode cX1_init 65 = .ok (.aload_n 0, 1) := by decide +kernel
theorem dX1_init_66 : decode cX1_init 66 = .ok (.bipush 120, 2) := by decide +kernel
theorem dX1_init_68 : decode cX1_init 68 = .ok (.newarray .int, 2) := by decide +kernel
theorem dX1_init_70 : decode cX1_init 70 = .ok (.putfield 36, 3) := by decide +kernel
theorem dX1_init_73 : decode cX1_init 73 = .ok (.aload_n 0, 1) := by decide +kernel
theorem dX1_init_74 : decode cX1_init 74 = .ok (.bipush 120, 2) := by decide +kernel
theorem dX1_init_76 : decode cX1_init 76 = .ok (.newarray .int, 2) := by decide +kernel
theorem dX1_init_78 : decode cX1_init 78 = .ok (.putfield 39, 3) := by decide +kernel
theorem dX1_init_81 : decode cX1_init 81 = .ok (.aload_n 0, 1) := by decide +kernel
theorem dX1_init_82 : decode cX1_init 82 = .ok (.bipush 40, 2) := by decide +kernel
theorem dX1_init_84 : decode cX1_init 84 = .ok (.newarray .int, 2) := by decide +kernel
theorem dX1_init_86 : decode cX1_init 86 = .ok (.putfield 42, 3) := by decide +kernel
theorem dX1_init_89 : decode cX1_init 89 = .ok (.aload_n 0, 1) := by decide +kernel
theorem dX1_init_90 : decode cX1_init 90 = .ok (.bipush 40, 2) := by decide +kernel
theorem dX1_init_92 : decode cX1_init 92 = .ok (.newarray .int, 2) := by decide +kernel
theorem dX1_init_94 : decode cX1_init 94 = .ok (.putfield 45, 3) := by decide +kernel
theorem dX1_init_97 : decode cX1_init 97 = .ok (.aload_n 0, 1) := by decide +kernel
theorem dX1_init_98 : decode cX1_init 98 = .ok (.getfield 21, 3) := by decide +kernel
theorem dX1_init_101 : decode cX1_init 101 = .ok (.iconst (-1), 1) := by decide +kernel
theorem dX1_init_102 : decode cX1_init 102 = .ok (.invokestatic 48, 3) := by decide +kernel
theorem dX1_init_105 : decode cX1_init 105 = .ok (.return_, 1) := by decide +kernel
theorem dX1_copyFrom_0 : decode cX1_copyFrom 0 = .ok (.aload_n 1, 1) := by decide +kernel
theorem dX1_copyFrom_1 : decode cX1_copyFrom 1 = .ok (.getfield 9, 3) := by decide +kernel
theorem dX1_copyFrom_4 : decode cX1_copyFrom 4 = .ok (.iconst 0, 1) := by decide +kernel
theorem dX1_copyFrom_5 : decode cX1_copyFrom 5 = .ok (.aload_n 0, 1) := by decide +kernel
theorem dX1_copyFrom_6 : decode cX1_copyFrom 6 = .ok (.getfield 9, 3) := by decide +kernel
theorem dX1_copyFrom_9 : decode cX1_copyFrom 9 = .ok (.iconst 0, 1) := by decide +kernel
theorem dX1_copyFrom_10 : decode cX1_copyFrom 10 = .ok (.aload_n 0, 1) := by decide +kernel
theorem dX1_copyFrom_11 : decode cX1_copyFrom 11 = .ok (.getfield 9, 3) := by decide +kernel
theorem dX1_copyFrom_14 : decode cX1_copyFrom 14 = .ok (.arraylength, 1) := by decide +kernel
theorem dX1_copyFrom_15 : decode cX1_copyFrom 15 = .ok (.invokestatic 54, 3) := by decide +kernel
theorem dX1_copyFrom_18 : decode cX1_copyFrom 18 = .ok (.aload_n 1, 1) := by decide +kernel
theorem dX1_copyFrom_19 : decode cX1_copyFrom 19 = .ok (.getfield 15, 3) := by decide +kernel
theorem dX1_copyFrom_22 : decode cX1_copyFrom 22 = .ok (.iconst 0, 1) := by decide +kernel
theorem dX1_copyFrom_23 : decode cX1_copyFrom 23 = .ok (.aload_n 0, 1) := by decide +kernel
theorem dX1_copyFrom_24 : decode cX1_copyFrom 24 = .ok (.getfield 15, 3) := by decide +kernel
theorem dX1_copyFrom_27 : decode cX1_copyFrom 27 = .ok (.iconst 0, 1) := by decide +kernel
theorem dX1_copyFrom_28 : decode cX1_copyFrom 28 = .ok (.aload_n 0, 1) := by decide +kernel
theorem dX1_copyFrom_29 : decode cX1_copyFrom 29 = .ok (.getfield 15, 3) := by decide +kernel
theorem dX1_copyFrom_32 : decode cX1_copyFrom 32 = .ok (.arraylength, 1) := by decide +kernel
theorem dX1_copyFrom_33 : decode cX1_copyFrom 33 = .ok (.invokestatic 54, 3) := by decide +kernel
theorem dX1_copyFrom_36 : decode cX1_copyFrom 36 = .ok (.aload_n 1, 1) := by decide +kernel
theorem dX1_copyFrom_37 : decode cX1_copyFrom 37 = .ok (.getfield 18, 3) := by decide +kernel
theorem dX1_copyFrom_40 : decode cX1_copyFrom 40 = .ok (.iconst 0, 1) := by decide +kernel
theorem dX1_copyFrom_41 : decode cX1_copyFrom 41 = .ok (.aload_n 0, 1) := by decide +kernel
theorem dX1_copyFrom_42 : decode cX1_copyFrom 42 = .ok (.getfield 18, 3) := by decide +kernel
theorem dX1_copyFrom_45 : decode cX1_copyFrom 45 = .ok (.iconst 0, 1) := by decide +kernel
theorem dX1_copyFrom_46 : decode cX1_copyFrom 46 = .ok (.aload_n 0, 1) := by decide +kernel
theorem dX1_copyFrom_47 : decode cX1_copyFrom 47 = .ok (.getfield 18, 3) := by decide +kernel
theorem dX1_copyFrom_50 : decode cX1_copyFrom 50 = .ok (.arraylength, 1) := by decide +kernel
theorem dX1_copyFrom_51 : decode cX1_copyFrom 51 = .ok (.invokestatic 54, 3) := by decide +kernel
theorem dX1_copyFrom_54 : decode cX1_copyFrom 54 = .ok (.aload_n 1, 1) := by decide +kernel
theorem dX1_copyFrom_55 : decode cX1_copyFrom 55 = .ok (.getfield 21, 3) := by decide +kernel
theorem dX1_copyFrom_58 : decode cX1_copyFrom 58 = .ok (.iconst 0, 1) := by decide +kernel
theorem dX1_copyFrom_59 : decode cX1_copyFrom 59 = .ok (.aload_n 0, 1) := by decide +kernel
theorem dX1_copyFrom_60 : decode cX1_copyFrom 60 = .ok (.getfield 21, 3) := by decide +kernel
theorem dX1_copyFrom_63 : decode cX1_copyFrom 63 = .ok (.iconst 0, 1) := by decide +kernel
theorem dX1_copyFrom_64 : decode cX1_copyFrom 64 = .ok (.aload_n 0, 1) := by decide +kernel
theorem dX1_copyFrom_65 : decode cX1_copyFrom 65 = .ok (.getfield 21, 3) := by decide +kernel
theorem dX1_copyFrom_68 : decode cX1_copyFrom 68 = .ok (.arraylength, 1) := by decide +kernel
theorem dX1_copyFrom_69 : decode cX1_copyFrom 69 = .ok (.invokestatic 54, 3) := by decide +kernel
theorem dX1_copyFrom_72 : decode cX1_copyFrom 72 = .ok (.aload_n 0, 1) := by decide +kernel
theorem dX1_copyFrom_73 : decode cX1_copyFrom 73 = .ok (.aload_n 1, 1) := by decide +kernel
theorem dX1_copyFrom_74 : decode cX1_copyFrom 74 = .ok (.getfield 60, 3) := by decide +kernel
theorem dX1_copyFrom_77 : decode cX1_copyFrom 77 = .ok (.putfield 60, 3) := by decide +kernel
theorem dX1_copyFrom_80 : decode cX1_copyFrom 80 = .ok (.aload_n 0, 1) := by decide +kernel
theorem dX1_copyFrom_81 : decode cX1_copyFrom 81 = .ok (.aload_n 1, 1) := by decide +kernel
theorem dX1_copyFrom_82 : decode cX1_copyFrom 82 = .ok (.getfield 64, 3) := by decide +kernel
theorem dX1_copyFrom_85 : decode cX1_copyFrom 85 = .ok (.putfield 64, 3) := by decide +kernel
theorem dX1_copyFrom_88 : decode cX1_copyFrom 88 = .ok (.aload_n 0, 1) := by decide +kernel
theorem dX1_copyFrom_89 : decode cX1_copyFrom 89 = .ok (.aload_n 1, 1) := by decide +kernel
theorem dX1_copyFrom_90 : decode cX1_copyFrom 90 = .ok (.getfield 67, 3) := by decide +kernel
theorem dX1_copyFrom_93 : decode cX1_copyFrom 93 = .ok (.putfield 67, 3) := by decide +kernel
theorem dX1_copyFrom_96 : decode cX1_copyFrom 96 = .ok (.aload_n 1, 1) := by decide +kernel
theorem dX1_copyFrom_97 : decode cX1_copyFrom 97 = .ok (.getfield 24, 3) := by decide +kernel
theorem dX1_copyFrom_100 : decode cX1_copyFrom 100 = .ok (.iconst 0, 1) := by decide +kernel
theorem dX1_copyFrom_101 : decode cX1_copyFrom 101 = .ok (.aload_n 0, 1) := by decide +kernel
theorem dX1_copyFrom_102 : decode cX1_copyFrom 102 = .ok (.getfield 24, 3) := by decide +kernel
theorem dX1_copyFrom_105 : decode cX1_copyFrom 105 = .ok (.iconst 0, 1) := by decide +kernel
theorem dX1_copyFrom_106 : decode cX1_copyFrom 106 = .ok (.aload_n 0, 1) := by decide +kernel
theorem dX1_copyFrom_107 : decode cX1_copyFrom 107 = .ok (.getfield 24, 3) := by decide +kernel
theorem dX1_copyFrom_110 : decode cX1_copyFrom 110 = .ok (.arraylength, 1) := by decide +kernel
theorem dX1_copyFrom_111 : decode cX1_copyFrom 111 = .ok (.invokestatic 54, 3) := by decide +kernel
theorem dX1_copyFrom_114 : decode cX1_copyFrom 114 = .ok (.aload_n 1, 1) := by decide +kernel
theorem dX1_copyFrom_115 : decode cX1_copyFrom 115 = .ok (.getfield 27, 3) := by decide +kernel
theorem dX1_copyFrom_118 : decode cX1_copyFrom 118 = .ok (.iconst 0, 1) := by decide +kernel
theorem dX1_copyFrom_119 : decode cX1_copyFrom 119 = .ok (.aload_n 0, 1) := by decide +kernel
theorem dX1_copyFrom_120 : decode cX1_copyFrom 120 = .ok (.getfield 27, 3) := by decide +kernel
theorem dX1_copyFrom_123 : decode cX1_copyFrom 123 = .ok (.iconst 0, 1) := by decide +kernel
theorem dX1_copyFrom_124 : decode cX1_copyFrom 124 = .ok (.aload_n 0, 1) := by decide +kernel
theorem dX1_copyFrom_125 : decode cX1_copyFrom 125 = .ok (.getfield 27, 3) := by decide +kernel
theorem dX1_copyFrom_128 : decode cX1_copyFrom 128 = .ok (.arraylength, 1) := by decide +kernel
theorem dX1_copyFrom_129 : decode cX1_copyFrom 129 = .ok (.invokestatic 54, 3) := by decide +kernel
theorem dX1_copyFrom_132 : decode cX1_copyFrom 132 = .ok (.aload_n 1, 1) := by decide +kernel
theorem dX1_copyFrom_133 : decode cX1_copyFrom 133 = .ok (.getfield 30, 3) := by decide +kernel
theorem dX1_copyFrom_136 : decode cX1_copyFrom 136 = .ok (.iconst 0, 1) := by decide +kernel
theorem dX1_copyFrom_137 : decode cX1_copyFrom 137 = .ok (.aload_n 0, 1) := by decide +kernel
theorem dX1_copyFrom_138 : decode cX1_copyFrom 138 = .ok (.getfield 30, 3) := by decide +kernel
theorem dX1_copyFrom_141 : decode cX1_copyFrom 141 = .ok (.iconst 0, 1) := by decide +kernel
theorem dX1_copyFrom_142 : decode cX1_copyFrom 142 = .ok (.aload_n 0, 1) := by decide +kernel
theorem dX1_copyFrom_143 : decode cX1_copyFrom 143 = .ok (.getfield 30, 3) := by decide +kernel
theorem dX1_copyFrom_146 : decode cX1_copyFrom 146 = .ok (.arraylength, 1) := by decide +kernel
theorem dX1_copyFrom_147 : decode cX1_copyFrom 147 = .ok (.invokestatic 54, 3) := by decide +kernel
theorem dX1_copyFrom_150 : decode cX1_copyFrom 150 = .ok (.aload_n 1, 1) := by decide +kernel
theorem dX1_copyFrom_151 : decode cX1_copyFrom 151 = .ok (.getfield 33, 3) := by decide +kernel
theorem dX1_copyFrom_154 : decode cX1_copyFrom 154 = .ok (.iconst 0, 1) := by decide +kernel
theorem dX1_copyFrom_155 : decode cX1_copyFrom 155 = .ok (.aload_n 0, 1) := by decide +kernel
theorem dX1_copyFrom_156 : decode cX1_copyFrom 156 = .ok (.getfield 33, 3) := by decide +kernel
theorem dX1_copyFrom_159 : decode cX1_copyFrom 159 = .ok (.iconst 0, 1) := by decide +kernel
theorem dX1_copyFrom_160 : decode cX1_copyFrom 160 = .ok (.aload_n 0, 1) := by decide +kernel
theorem dX1_copyFrom_161 : decode cX1_copyFrom 161 = .ok (.getfield 33, 3) := by decide +kernel
theorem dX1_copyFrom_164 : decode cX1_copyFrom 164 = .ok (.arraylength, 1) := by decide +kernel
theorem dX1_copyFrom_165 : decode cX1_copyFrom 165 = .ok (.invokestatic 54, 3) := by decide +kernel
theorem dX1_copyFrom_168 : decode cX1_copyFrom 168 = .ok (.aload_n 1, 1) := by decide +kernel
theorem dX1_copyFrom_169 : decode cX1_copyFrom 169 = .ok (.getfield 36, 3) := by decide +kernel
theorem dX1_copyFrom_172 : decode cX1_copyFrom 172 = .ok (.iconst 0, 1) := by decide +kernel
theorem dX1_copyFrom_173 : decode cX1_copyFrom 173 = .ok (.aload_n 0, 1) := by decide +kernel
theorem dX1_copyFrom_174 : decode cX1_copyFrom 174 = .ok (.getfield 36, 3) := by decide +kernel
theorem dX1_copyFrom_177 : decode cX1_copyFrom 177 = .ok (.iconst 0, 1) := by decide +kernel
theorem dX1_copyFrom_178 : decode cX1_copyFrom 178 = .ok (.aload_n 0, 1) := by decide +kernel
theorem dX1_copyFrom_179 : decode cX1_copyFrom 179 = .ok (.getfield 36, 3) := by decide +kernel
theorem dX1_copyFrom_182 : decode cX1_copyFrom 182 = .ok (.arraylength, 1) := by decide +kernel
theorem dX1_copyFrom_183 : decode cX1_copyFrom 183 = .ok (.invokestatic 54, 3) := by decide +kernel
theorem dX1_copyFrom_186 : decode cX1_copyFrom 186 = .ok (.aload_n 1, 1) := by decide +kernel
theorem dX1_copyFrom_187 : decode cX1_copyFrom 187 = .ok (.getfield 39, 3) := by decide +kernel
theorem dX1_copyFrom_190 : decode cX1_copyFrom 190 = .ok (.iconst 0, 1) := by decide +kernel
theorem dX1_copyFrom_191 : decode cX1_copyFrom 191 = .ok (.aload_n 0, 1) := by decide +kernel
theorem dX1_copyFrom_192 : decode cX1_copyFrom 192 = .ok (.getfield 39, 3) := by decide +kernel
theorem dX1_copyFrom_195 : decode cX1_copyFrom 195 = .ok (.iconst 0, 1) := by decide +kernel
theorem dX1_copyFrom_196 : decode cX1_copyFrom 196 = .ok (.aload_n 0, 1) := by decide +kernel
theorem dX1_copyFrom_197 : decode cX1_copyFrom 197 = .ok (.getfield 39, 3) := by decide +kernel
theorem dX1_copyFrom_200 : decode cX1_copyFrom 200 = .ok (.arraylength, 1) := by decide +kernel
theorem dX1_copyFrom_201 : decode cX1_copyFrom 201 = .ok (.invokestatic 54, 3) := by decide +kernel
theorem dX1_copyFrom_204 : decode cX1_copyFrom 204 = .ok (.return_, 1) := by decide +kernel
set_option maxRecDepth 20000 in
theorem ggX1_tagOf_X3_isBelow : GoodIn wsX1_tagOf wsX3_isBelow := goodIn_r _ [6] (by decide +kernel) (by decide +kernel)
set_option maxRecDepth 20000 in
theorem gX1_tagOf_X3_isBelow_n70 : GoodIn wsX1_tagOf (wsX3_isBelow) := ggX1_tagOf_X3_isBelow
set_option maxRecDepth 20000 in
theorem ggX1_tagOf_X1_tagIn : GoodIn wsX1_tagOf wsX1_tagIn := goodIn_r _ [10, 11] (by decide +kernel) (by decide +kernel)
set_option maxRecDepth 20000 in
theorem gX1_tagOf_X1_tagIn : GoodIn wsX1_tagOf (va_wsS RX1 74 yX1_tagIn wsX1_tagIn) := goodIn_app (goodIn_of _ (by decide +kernel)) ggX1_tagOf_X1_tagIn
theorem dX1_tagOf_0 : decode cX1_tagOf 0 = .ok (.iload_n 1, 1) := by decide +kernel
theorem dX1_tagOf_1 : decode cX1_tagOf 1 = .ok (.bipush 40, 2) := by decide +kernel
theorem dX1_tagOf_3 : decode cX1_tagOf 3 = .ok (.invokestatic 70, 3) := by decide +kernel
theorem dX1_tagOf_6 : decode cX1_tagOf 6 = .ok (.ifCond .eq 20, 3) := by decide +kernel
theorem dX1_tagOf_9 : decode cX1_tagOf 9 = .ok (.aload_n 0, 1) := by decide +kernel
theorem dX1_tagOf_10 : decode cX1_tagOf 10 = .ok (.getfield 60, 3) := by decide +kernel
theorem dX1_tagOf_13 : decode cX1_tagOf 13 = .ok (.aload_n 0, 1) := by decide +kernel
theorem dX1_tagOf_14 : decode cX1_tagOf 14 = .ok (.getfield 18, 3) := by decide +kernel
theorem dX1_tagOf_17 : decode cX1_tagOf 17 = .ok (.iload_n 1, 1) := by decide +kernel
theorem dX1_tagOf_18 : decode cX1_tagOf 18 = .ok (.iaload, 1) := by decide +kernel
theorem dX1_tagOf_19 : decode cX1_tagOf 19 = .ok (.iload_n 1, 1) := by decide +kernel
theorem dX1_tagOf_20 : decode cX1_tagOf 20 = .ok (.invokestatic 74, 3) := by decide +kernel
theorem dX1_tagOf_23 : decode cX1_tagOf 23 = .ok (.goto 5, 3) := by decide +kernel
theorem dX1_tagOf_26 : decode cX1_tagOf 26 = .ok (.ldc 78, 2) := by decide +kernel
theorem dX1_tagOf_28 : decode cX1_tagOf 28 = .ok (.ireturn, 1) := by decide +kernel
theorem dX1_tagIn_0 : decode cX1_tagIn 0 = .ok (.ldc 79, 2) := by decide +kernel
theorem dX1_tagIn_2 : decode cX1_tagIn 2 = .ok (.iload_n 0, 1) := by decide +kernel
theorem dX1_tagIn_3 : decode cX1_tagIn 3 = .ok (.imul, 1) := by decide +kernel
theorem dX1_tagIn_4 : decode cX1_tagIn 4 = .ok (.bipush 100, 2) := by decide +kernel
theorem dX1_tagIn_6 : decode cX1_tagIn 6 = .ok (.iload_n 1, 1) := by decide +kernel
theorem dX1_tagIn_7 : decode cX1_tagIn 7 = .ok (.imul, 1) := by decide +kernel
theorem dX1_tagIn_8 : decode cX1_tagIn 8 = .ok (.iadd, 1) := by decide +kernel
theorem dX1_tagIn_9 : decode cX1_tagIn 9 = .ok (.iload_n 2, 1) := by decide +kernel
theorem dX1_tagIn_10 : decode cX1_tagIn 10 = .ok (.iadd, 1) := by decide +kernel
theorem dX1_tagIn_11 : decode cX1_tagIn 11 = .ok (.ireturn, 1) := by decide +kernel
set_option maxRecDepth 20000 in
theorem ggX1_standing_X3_isBelow : GoodIn wsX1_standing wsX3_isBelow := goodIn_r _ [10] (by decide +kernel) (by decide +kernel)
set_option maxRecDepth 20000 in
theorem gX1_standing_X3_isBelow_n70 : GoodIn wsX1_standing (wsX3_isBelow) := ggX1_standing_X3_isBelow
theorem dX1_standing_0 : decode cX1_standing 0 = .ok (.iload_n 1, 1) := by decide +kernel
theorem dX1_standing_1 : decode cX1_standing 1 = .ok (.ldc 79, 2) := by decide +kernel
theorem dX1_standing_3 : decode cX1_standing 3 = .ok (.idiv, 1) := by decide +kernel
theorem dX1_standing_4 : decode cX1_standing 4 = .ok (.istore_n 2, 1) := by decide +kernel
theorem dX1_standing_5 : decode cX1_standing 5 = .ok (.iload_n 1, 1) := by decide +kernel
theorem dX1_standing_6 : decode cX1_standing 6 = .ok (.bipush 100, 2) := by decide +kernel
theorem dX1_standing_8 : decode cX1_standing 8 = .ok (.idiv, 1) := by decide +kernel
theorem dX1_standing_9 : decode cX1_standing 9 = .ok (.sipush 10000, 3) := by decide +kernel
theorem dX1_standing_12 : decode cX1_standing 12 = .ok (.irem, 1) := by decide +kernel
theorem dX1_standing_13 : decode cX1_standing 13 = .ok (.istore_n 3, 1) := by decide +kernel
theorem dX1_standing_14 : decode cX1_standing 14 = .ok (.iload_n 1, 1) := by decide +kernel
theorem dX1_standing_15 : decode cX1_standing 15 = .ok (.bipush 100, 2) := by decide +kernel
theorem dX1_standing_17 : decode cX1_standing 17 = .ok (.irem, 1) := by decide +kernel
theorem dX1_standing_18 : decode cX1_standing 18 = .ok (.istore 4, 2) := by decide +kernel
theorem dX1_standing_20 : decode cX1_standing 20 = .ok (.iload_n 1, 1) := by decide +kernel
theorem dX1_standing_21 : decode cX1_standing 21 = .ok (.ifCond .lt 18, 3) := by decide +kernel
theorem dX1_standing_24 : decode cX1_standing 24 = .ok (.iload 4, 2) := by decide +kernel
theorem dX1_standing_26 : decode cX1_standing 26 = .ok (.bipush 40, 2) := by decide +kernel
theorem dX1_standing_28 : decode cX1_standing 28 = .ok (.if_icmp .ge 11, 3) := by decide +kernel
theorem dX1_standing_31 : decode cX1_standing 31 = .ok (.iload_n 2, 1) := by decide +kernel
theorem dX1_standing_32 : decode cX1_standing 32 = .ok (.aload_n 0, 1) := by decide +kernel
theorem dX1_standing_33 : decode cX1_standing 33 = .ok (.getfield 60, 3) := by decide +kernel
theorem dX1_standing_36 : decode cX1_standing 36 = .ok (.if_icmp .le 5, 3) := by decide +kernel
theorem dX1_standing_39 : decode cX1_standing 39 = .ok (.iconst (-1), 1) := by decide +kernel
theorem dX1_standing_40 : decode cX1_standing 40 = .ok (.ireturn, 1) := by decide +kernel
theorem dX1_standing_41 : decode cX1_standing 41 = .ok (.iload_n 2, 1) := by decide +kernel
theorem dX1_standing_42 : decode cX1_standing 42 = .ok (.aload_n 0, 1) := by decide +kernel
theorem dX1_standing_43 : decode cX1_standing 43 = .ok (.getfield 60, 3) := by decide +kernel
theorem dX1_standing_46 : decode cX1_standing 46 = .ok (.iconst 3, 1) := by decide +kernel
theorem dX1_standing_47 : decode cX1_standing 47 = .ok (.isub, 1) := by decide +kernel
theorem dX1_standing_48 : decode cX1_standing 48 = .ok (.if_icmp .ge 6, 3) := by decide +kernel
theorem dX1_standing_51 : decode cX1_standing 51 = .ok (.bipush (-2), 2) := by decide +kernel
theorem dX1_standing_53 : decode cX1_standing 53 = .ok (.ireturn, 1) := by decide +kernel
theorem dX1_standing_54 : decode cX1_standing 54 = .ok (.iload_n 2, 1) := by decide +kernel
theorem dX1_standing_55 : decode cX1_standing 55 = .ok (.istore 5, 2) := by decide +kernel
theorem dX1_standing_57 : decode cX1_standing 57 = .ok (.iload 5, 2) := by decide +kernel
theorem dX1_standing_59 : decode cX1_standing 59 = .ok (.aload_n 0, 1) := by decide +kernel
theorem dX1_standing_60 : decode cX1_standing 60 = .ok (.getfield 60, 3) := by decide +kernel
theorem dX1_standing_63 : decode cX1_standing 63 = .ok (.if_icmp .ge 72, 3) := by decide +kernel
theorem dX1_standing_66 : decode cX1_standing 66 = .ok (.iload 5, 2) := by decide +kernel
theorem dX1_standing_68 : decode cX1_standing 68 = .ok (.iconst 3, 1) := by decide +kernel
theorem dX1_standing_69 : decode cX1_standing 69 = .ok (.irem, 1) := by decide +kernel
theorem dX1_standing_70 : decode cX1_standing 70 = .ok (.bipush 40, 2) := by decide +kernel
theorem dX1_standing_72 : decode cX1_standing 72 = .ok (.imul, 1) := by decide +kernel
theorem dX1_standing_73 : decode cX1_standing 73 = .ok (.istore 6, 2) := by decide +kernel
theorem dX1_standing_75 : decode cX1_standing 75 = .ok (.aload_n 0, 1) := by decide +kernel
theorem dX1_standing_76 : decode cX1_standing 76 = .ok (.getfield 36, 3) := by decide +kernel
theorem dX1_standing_79 : decode cX1_standing 79 = .ok (.iload 6, 2) := by decide +kernel
theorem dX1_standing_81 : decode cX1_standing 81 = .ok (.iload 4, 2) := by decide +kernel
theorem dX1_standing_83 : decode cX1_standing 83 = .ok (.iadd, 1) := by decide +kernel
theorem dX1_standing_84 : decode cX1_standing 84 = .ok (.iaload, 1) := by decide +kernel
theorem dX1_standing_85 : decode cX1_standing 85 = .ok (.istore 7, 2) := by decide +kernel
theorem dX1_standing_87 : decode cX1_standing 87 = .ok (.iload 7, 2) := by decide +kernel
theorem dX1_standing_89 : decode cX1_standing 89 = .ok (.bipush 40, 2) := by decide +kernel
theorem dX1_standing_91 : decode cX1_standing 91 = .ok (.invokestatic 70, 3) := by decide +kernel
theorem dX1_standing_94 : decode cX1_standing 94 = .ok (.ifCond .eq 17, 3) := by decide +kernel
theorem dX1_standing_97 : decode cX1_standing 97 = .ok (.aload_n 0, 1) := by decide +kernel
theorem dX1_standing_98 : decode cX1_standing 98 = .ok (.getfield 33, 3) := by decide +kernel
theorem dX1_standing_101 : decode cX1_standing 101 = .ok (.iload 6, 2) := by decide +kernel
theorem dX1_standing_103 : decode cX1_standing 103 = .ok (.iload 4, 2) := by decide +kernel
theorem dX1_standing_105 : decode cX1_standing 105 = .ok (.iadd, 1) := by decide +kernel
theorem dX1_standing_106 : decode cX1_standing 106 = .ok (.iaload, 1) := by decide +kernel
theorem dX1_standing_107 : decode cX1_standing 107 = .ok (.iload_n 3, 1) := by decide +kernel
theorem dX1_standing_108 : decode cX1_standing 108 = .ok (.if_icmp .eq 6, 3) := by decide +kernel
theorem dX1_standing_111 : decode cX1_standing 111 = .ok (.bipush (-3), 2) := by decide +kernel
theorem dX1_standing_113 : decode cX1_standing 113 = .ok (.ireturn, 1) := by decide +kernel
theorem dX1_standing_114 : decode cX1_standing 114 = .ok (.iload 7, 2) := by decide +kernel
theorem dX1_standing_116 : decode cX1_standing 116 = .ok (.istore 4, 2) := by decide +kernel
theorem dX1_standing_118 : decode cX1_standing 118 = .ok (.aload_n 0, 1) := by decide +kernel
theorem dX1_standing_119 : decode cX1_standing 119 = .ok (.getfield 39, 3) := by decide +kernel
theorem dX1_standing_122 : decode cX1_standing 122 = .ok (.iload 6, 2) := by decide +kernel
theorem dX1_standing_124 : decode cX1_standing 124 = .ok (.iload 7, 2) := by decide +kernel
theorem dX1_standing_126 : decode cX1_standing 126 = .ok (.iadd, 1) := by decide +kernel
theorem dX1_standing_127 : decode cX1_standing 127 = .ok (.iaload, 1) := by decide +kernel
theorem dX1_standing_128 : decode cX1_standing 128 = .ok (.istore_n 3, 1) := by decide +kernel
theorem dX1_standing_129 : decode cX1_standing 129 = .ok (.iinc 5 1, 3) := by decide +kernel
theorem dX1_standing_132 : decode cX1_standing 132 = .ok (.goto (-75), 3) := by decide +kernel
theorem dX1_standing_135 : decode cX1_standing 135 = .ok (.aload_n 0, 1) := by decide +kernel
theorem dX1_standing_136 : decode cX1_standing 136 = .ok (.getfield 9, 3) := by decide +kernel
theorem dX1_standing_139 : decode cX1_standing 139 = .ok (.iload 4, 2) := by decide +kernel
theorem dX1_standing_141 : decode cX1_standing 141 = .ok (.iaload, 1) := by decide +kernel
theorem dX1_standing_142 : decode cX1_standing 142 = .ok (.ifCond .eq 14, 3) := by decide +kernel
theorem dX1_standing_145 : decode cX1_standing 145 = .ok (.aload_n 0, 1) := by decide +kernel
theorem dX1_standing_146 : decode cX1_standing 146 = .ok (.getfield 18, 3) := by decide +kernel
theorem dX1_standing_149 : decode cX1_standing 149 = .ok (.iload 4, 2) := by decide +kernel
theorem dX1_standing_151 : decode cX1_standing 151 = .ok (.iaload, 1) := by decide +kernel
theorem dX1_standing_152 : decode cX1_standing 152 = .ok (.iload_n 3, 1) := by decide +kernel
theorem dX1_standing_153 : decode cX1_standing 153 = .ok (.if_icmp .eq 8, 3) := by decide +kernel
theorem dX1_standing_156 : decode cX1_standing 156 = .ok (.bipush (-4), 2) := by decide +kernel
theorem dX1_standing_158 : decode cX1_standing 158 = .ok (.goto 5, 3) := by decide +kernel
theorem dX1_standing_161 : decode cX1_standing 161 = .ok (.iload 4, 2) := by decide +kernel
theorem dX1_standing_163 : decode cX1_standing 163 = .ok (.ireturn, 1) := by decide +kernel
theorem dX1_numberWith_0 : decode cX1_numberWith 0 = .ok (.iconst 0, 1) := by decide +kernel
theorem dX1_numberWith_1 : decode cX1_numberWith 1 = .ok (.istore_n 2, 1) := by decide +kernel
theorem dX1_numberWith_2 : decode cX1_numberWith 2 = .ok (.iload_n 2, 1) := by decide +kernel
theorem dX1_numberWith_3 : decode cX1_numberWith 3 = .ok (.bipush 40, 2) := by decide +kernel
theorem dX1_numberWith_5 : decode cX1_numberWith 5 = .ok (.if_icmp .ge 21, 3) := by decide +kernel
theorem dX1_numberWith_8 : decode cX1_numberWith 8 = .ok (.aload_n 0, 1) := by decide +kernel
theorem dX1_numberWith_9 : decode cX1_numberWith 9 = .ok (.getfield 9, 3) := by decide +kernel
theorem dX1_numberWith_12 : decode cX1_numberWith 12 = .ok (.iload_n 2, 1) := by decide +kernel
theorem dX1_numberWith_13 : decode cX1_numberWith 13 = .ok (.iaload, 1) := by decide +kernel
theorem dX1_numberWith_14 : decode cX1_numberWith 14 = .ok (.iload_n 1, 1) := by decide +kernel
theorem dX1_numberWith_15 : decode cX1_numberWith 15 = .ok (.if_icmp .ne 5, 3) := by decide +kernel
theorem dX1_numberWith_18 : decode cX1_numberWith 18 = .ok (.iload_n 2, 1) := by decide +kernel
theorem dX1_numberWith_19 : decode cX1_numberWith 19 = .ok (.ireturn, 1) := by decide +kernel
theorem dX1_numberWith_20 : decode cX1_numberWith 20 = .ok (.iinc 2 1, 3) := by decide +kernel
theorem dX1_numberWith_23 : decode cX1_numberWith 23 = .ok (.goto (-21), 3) := by decide +kernel
theorem dX1_numberWith_26 : decode cX1_numberWith 26 = .ok (.iconst (-1), 1) := by decide +kernel
theorem dX1_numberWith_27 : decode cX1_numberWith 27 = .ok (.ireturn, 1) := by decide +kernel
set_option maxRecDepth 20000 in
theorem ggX1_hasRoomFor_X1_numberWith : GoodIn wsX1_hasRoomFor wsX1_numberWith := goodIn_r _ [5, 6, 15, 16, 17, 18, 19, 20, 21, 22, 23, 24, 25, 26, 27, 28, 29] (by decide +kernel) (by decide +kernel)
set_option maxRecDepth 20000 in
theorem gX1_hasRoomFor_X1_numberWith : GoodIn wsX1_hasRoomFor (wsV RX1 80 RX1 yX1_numberWith wsX1_numberWith) := goodIn_app (goodIn_of _ (by decide +kernel)) ggX1_hasRoomFor_X1_numberWith
set_option maxRecDepth 20000 in
theorem ggX1_hasRoomFor_X1_hasRoomForUser : GoodIn wsX1_hasRoomFor wsX1_hasRoomForUser := goodIn_r _ [10, 11, 12, 13, 14, 15, 16, 17, 18, 19, 20, 21, 22, 23, 24, 25, 26, 27, 28, 29] (by decide +kernel) (by decide +kernel)
set_option maxRecDepth 20000 in
theorem gX1_hasRoomFor_X1_hasRoomForUser : GoodIn wsX1_hasRoomFor (wsV RX1 84 RX1 yX1_hasRoomForUser wsX1_hasRoomForUser) := goodIn_app (goodIn_of _ (by decide +kernel)) ggX1_hasRoomFor_X1_hasRoomForUser
theorem dX1_hasRoomFor_0 : decode cX1_hasRoomFor 0 = .ok (.aload_n 0, 1) := by decide +kernel
theorem dX1_hasRoomFor_1 : decode cX1_hasRoomFor 1 = .ok (.iload_n 1, 1) := by decide +kernel
theorem dX1_hasRoomFor_2 : decode cX1_hasRoomFor 2 = .ok (.invokevirtual 80, 3) := by decide +kernel
theorem dX1_hasRoomFor_5 : decode cX1_hasRoomFor 5 = .ok (.istore_n 2, 1) := by decide +kernel
theorem dX1_hasRoomFor_6 : decode cX1_hasRoomFor 6 = .ok (.iload_n 2, 1) := by decide +kernel
theorem dX1_hasRoomFor_7 : decode cX1_hasRoomFor 7 = .ok (.iconst (-1), 1) := by decide +kernel
theorem dX1_hasRoomFor_8 : decode cX1_hasRoomFor 8 = .ok (.if_icmp .ne 20, 3) := by decide +kernel
theorem dX1_hasRoomFor_11 : decode cX1_hasRoomFor 11 = .ok (.aload_n 0, 1) := by decide +kernel
theorem dX1_hasRoomFor_12 : decode cX1_hasRoomFor 12 = .ok (.iconst 0, 1) := by decide +kernel
theorem dX1_hasRoomFor_13 : decode cX1_hasRoomFor 13 = .ok (.invokevirtual 80, 3) := by decide +kernel
theorem dX1_hasRoomFor_16 : decode cX1_hasRoomFor 16 = .ok (.iconst (-1), 1) := by decide +kernel
theorem dX1_hasRoomFor_17 : decode cX1_hasRoomFor 17 = .ok (.if_icmp .eq 7, 3) := by decide +kernel
theorem dX1_hasRoomFor_20 : decode cX1_hasRoomFor 20 = .ok (.iconst 1, 1) := by decide +kernel
theorem dX1_hasRoomFor_21 : decode cX1_hasRoomFor 21 = .ok (.goto 12, 3) := by decide +kernel
theorem dX1_hasRoomFor_24 : decode cX1_hasRoomFor 24 = .ok (.iconst 0, 1) := by decide +kernel
theorem dX1_hasRoomFor_25 : decode cX1_hasRoomFor 25 = .ok (.goto 8, 3) := by decide +kernel
theorem dX1_hasRoomFor_28 : decode cX1_hasRoomFor 28 = .ok (.aload_n 0, 1) := by decide +kernel
theorem dX1_hasRoomFor_29 : decode cX1_hasRoomFor 29 = .ok (.iload_n 2, 1) := by decide +kernel
theorem dX1_hasRoomFor_30 : decode cX1_hasRoomFor 30 = .ok (.invokevirtual 84, 3) := by decide +kernel
theorem dX1_hasRoomFor_33 : decode cX1_hasRoomFor 33 = .ok (.ireturn, 1) := by decide +kernel
set_option maxRecDepth 20000 in
theorem ggX1_enter_X1_numberWith : GoodIn wsX1_enter wsX1_numberWith := goodIn_r _ [7, 1, 16, 17, 18, 19, 20, 21, 22, 23, 24, 25, 26, 27, 28, 29, 30] (by decide +kernel) (by decide +kernel)
set_option maxRecDepth 20000 in
theorem gX1_enter_X1_numberWith : GoodIn wsX1_enter (wsV RX1 80 RX1 yX1_numberWith wsX1_numberWith) := goodIn_app (goodIn_of _ (by decide +kernel)) ggX1_enter_X1_numberWith
set_option maxRecDepth 20000 in
theorem ggX1_enter_X1_addUser : GoodIn wsX1_enter wsX1_addUser := goodIn_r _ [11, 12, 13, 14, 15, 16, 17, 18, 19, 20, 21, 22, 23, 24, 25, 26, 27, 28, 29, 30] (by decide +kernel) (by decide +kernel)
set_option maxRecDepth 20000 in
theorem gX1_enter_X1_addUser : GoodIn wsX1_enter (wsV RX1 88 RX1 yX1_addUser wsX1_addUser) := goodIn_app (goodIn_of _ (by decide +kernel)) ggX1_enter_X1_addUser
theorem dX1_enter_0 : decode cX1_enter 0 = .ok (.aload_n 0, 1) := by decide +kernel
theorem dX1_enter_1 : decode cX1_enter 1 = .ok (.iload_n 1, 1) := by decide +kernel
theorem dX1_enter_2 : decode cX1_enter 2 = .ok (.invokevirtual 80, 3) := by decide +kernel
theorem dX1_enter_5 : decode cX1_enter 5 = .ok (.istore_n 2, 1) := by decide +kernel
theorem dX1_enter_6 : decode cX1_enter 6 = .ok (.iload_n 2, 1) := by decide +kernel
theorem dX1_enter_7 : decode cX1_enter 7 = .ok (.iconst (-1), 1) := by decide +kernel
theorem dX1_enter_8 : decode cX1_enter 8 = .ok (.if_icmp .ne 33, 3) := by decide +kernel
theorem dX1_enter_11 : decode cX1_enter 11 = .ok (.aload_n 0, 1) := by decide +kernel
theorem dX1_enter_12 : decode cX1_enter 12 = .ok (.iconst 0, 1) := by decide +kernel
theorem dX1_enter_13 : decode cX1_enter 13 = .ok (.invokevirtual 80, 3) := by decide +kernel
theorem dX1_enter_16 : decode cX1_enter 16 = .ok (.istore_n 2, 1) := by decide +kernel
theorem dX1_enter_17 : decode cX1_enter 17 = .ok (.iload_n 2, 1) := by decide +kernel
theorem dX1_enter_18 : decode cX1_enter 18 = .ok (.iconst (-1), 1) := by decide +kernel
theorem dX1_enter_19 : decode cX1_enter 19 = .ok (.if_icmp .ne 5, 3) := by decide +kernel
theorem dX1_enter_22 : decode cX1_enter 22 = .ok (.iconst (-1), 1) := by decide +kernel
theorem dX1_enter_23 : decode cX1_enter 23 = .ok (.ireturn, 1) := by decide +kernel
theorem dX1_enter_24 : decode cX1_enter 24 = .ok (.aload_n 0, 1) := by decide +kernel
theorem dX1_enter_25 : decode cX1_enter 25 = .ok (.getfield 9, 3) := by decide +kernel
theorem dX1_enter_28 : decode cX1_enter 28 = .ok (.iload_n 2, 1) := by decide +kernel
theorem dX1_enter_29 : decode cX1_enter 29 = .ok (.iload_n 1, 1) := by decide +kernel
theorem dX1_enter_30 : decode cX1_enter 30 = .ok (.iastore, 1) := by decide +kernel
theorem dX1_enter_31 : decode cX1_enter 31 = .ok (.aload_n 0, 1) := by decide +kernel
theorem dX1_enter_32 : decode cX1_enter 32 = .ok (.dup, 1) := by decide +kernel
theorem dX1_enter_33 : decode cX1_enter 33 = .ok (.getfield 64, 3) := by decide +kernel
theorem dX1_enter_36 : decode cX1_enter 36 = .ok (.iconst 1, 1) := by decide +kernel
theorem dX1_enter_37 : decode cX1_enter 37 = .ok (.iadd, 1) := by decide +kernel
theorem dX1_enter_38 : decode cX1_enter 38 = .ok (.putfield 64, 3) := by decide +kernel
theorem dX1_enter_41 : decode cX1_enter 41 = .ok (.aload_n 0, 1) := by decide +kernel
theorem dX1_enter_42 : decode cX1_enter 42 = .ok (.iload_n 2, 1) := by decide +kernel
theorem dX1_enter_43 : decode cX1_enter 43 = .ok (.invokevirtual 88, 3) := by decide +kernel
theorem dX1_enter_46 : decode cX1_enter 46 = .ok (.pop, 1) := by decide +kernel
theorem dX1_enter_47 : decode cX1_enter 47 = .ok (.iload_n 2, 1) := by decide +kernel
theorem dX1_enter_48 : decode cX1_enter 48 = .ok (.ireturn, 1) := by decide +kernel
set_option maxRecDepth 20000 in
theorem ggX1_hasRoomForUser_X3_isBelow : GoodIn wsX1_hasRoomForUser wsX3_isBelow := goodIn_r _ [4] (by decide +kernel) (by decide +kernel)
set_option maxRecDepth 20000 in
theorem gX1_hasRoomForUser_X3_isBelow_n70 : GoodIn wsX1_hasRoomForUser (wsX3_isBelow) := ggX1_hasRoomForUser_X3_isBelow
theorem dX1_hasRoomForUser_0 : decode cX1_hasRoomForUser 0 = .ok (.iload_n 1, 1) := by decide +kernel
theorem dX1_hasRoomForUser_1 : decode cX1_hasRoomForUser 1 = .ok (.bipush 40, 2) := by decide +kernel
theorem dX1_hasRoomForUser_3 : decode cX1_hasRoomForUser 3 = .ok (.invokestatic 70, 3) := by decide +kernel
theorem dX1_hasRoomForUser_6 : decode cX1_hasRoomForUser 6 = .ok (.ifCond .eq 19, 3) := by decide +kernel
theorem dX1_hasRoomForUser_9 : decode cX1_hasRoomForUser 9 = .ok (.aload_n 0, 1) := by decide +kernel
theorem dX1_hasRoomForUser_10 : decode cX1_hasRoomForUser 10 = .ok (.getfield 15, 3) := by decide +kernel
theorem dX1_hasRoomForUser_13 : decode cX1_hasRoomForUser 13 = .ok (.iload_n 1, 1) := by decide +kernel
theorem dX1_hasRoomForUser_14 : decode cX1_hasRoomForUser 14 = .ok (.iaload, 1) := by decide +kernel
theorem dX1_hasRoomForUser_15 : decode cX1_hasRoomForUser 15 = .ok (.sipush 999, 3) := by decide +kernel
theorem dX1_hasRoomForUser_18 : decode cX1_hasRoomForUser 18 = .ok (.if_icmp .ge 7, 3) := by decide +kernel
theorem dX1_hasRoomForUser_21 : decode cX1_hasRoomForUser 21 = .ok (.iconst 1, 1) := by decide +kernel
theorem dX1_hasRoomForUser_22 : decode cX1_hasRoomForUser 22 = .ok (.goto 4, 3) := by decide +kernel
theorem dX1_hasRoomForUser_25 : decode cX1_hasRoomForUser 25 = .ok (.iconst 0, 1) := by decide +kernel
theorem dX1_hasRoomForUser_26 : decode cX1_hasRoomForUser 26 = .ok (.ireturn, 1) := by decide +kernel
set_option maxRecDepth 20000 in
theorem ggX1_addUser_X3_isBelow : GoodIn wsX1_addUser wsX3_isBelow := goodIn_r _ [4] (by decide +kernel) (by decide +kernel)
set_option maxRecDepth 20000 in
theorem gX1_addUser_X3_isBelow_n70 : GoodIn wsX1_addUser (wsX3_isBelow) := ggX1_addUser_X3_isBelow
theorem dX1_addUser_0 : decode cX1_addUser 0 = .ok (.iload_n 1, 1) := by decide +kernel
theorem dX1_addUser_1 : decode cX1_addUser 1 = .ok (.bipush 40, 2) := by decide +kernel
theorem dX1_addUser_3 : decode cX1_addUser 3 = .ok (.invokestatic 70, 3) := by decide +kernel
theorem dX1_addUser_6 : decode cX1_addUser 6 = .ok (.ifCond .ne 5, 3) := by decide +kernel
theorem dX1_addUser_9 : decode cX1_addUser 9 = .ok (.iconst 0, 1) := by decide +kernel
theorem dX1_addUser_10 : decode cX1_addUser 10 = .ok (.ireturn, 1) := by decide +kernel
theorem dX1_addUser_11 : decode cX1_addUser 11 = .ok (.aload_n 0, 1) := by decide +kernel
theorem dX1_addUser_12 : decode cX1_addUser 12 = .ok (.getfield 15, 3) := by decide +kernel
theorem dX1_addUser_15 : decode cX1_addUser 15 = .ok (.iload_n 1, 1) := by decide +kernel
theorem dX1_addUser_16 : decode cX1_addUser 16 = .ok (.dup2, 1) := by decide +kernel
theorem dX1_addUser_17 : decode cX1_addUser 17 = .ok (.iaload, 1) := by decide +kernel
theorem dX1_addUser_18 : decode cX1_addUser 18 = .ok (.iconst 1, 1) := by decide +kernel
theorem dX1_addUser_19 : decode cX1_addUser 19 = .ok (.iadd, 1) := by decide +kernel
theorem dX1_addUser_20 : decode cX1_addUser 20 = .ok (.iastore, 1) := by decide +kernel
theorem dX1_addUser_21 : decode cX1_addUser 21 = .ok (.aload_n 0, 1) := by decide +kernel
theorem dX1_addUser_22 : decode cX1_addUser 22 = .ok (.getfield 15, 3) := by decide +kernel
theorem dX1_addUser_25 : decode cX1_addUser 25 = .ok (.iload_n 1, 1) := by decide +kernel
theorem dX1_addUser_26 : decode cX1_addUser 26 = .ok (.iaload, 1) := by decide +kernel
theorem dX1_addUser_27 : decode cX1_addUser 27 = .ok (.ireturn, 1) := by decide +kernel
set_option maxRecDepth 20000 in
theorem ggX1_hasFreeUser_X3_isBelow : GoodIn wsX1_hasFreeUser wsX3_isBelow := goodIn_r _ [4] (by decide +kernel) (by decide +kernel)
set_option maxRecDepth 20000 in
theorem gX1_hasFreeUser_X3_isBelow_n70 : GoodIn wsX1_hasFreeUser (wsX3_isBelow) := ggX1_hasFreeUser_X3_isBelow
set_option maxRecDepth 20000 in
theorem ggX1_hasFreeUser_X1_cellsWith : GoodIn wsX1_hasFreeUser wsX1_cellsWith := goodIn_r _ [9, 10, 11, 12, 13, 14, 15, 16, 17, 18, 19, 20, 21, 22, 23, 24, 25] (by decide +kernel) (by decide +kernel)
set_option maxRecDepth 20000 in
theorem gX1_hasFreeUser_X1_cellsWith : GoodIn wsX1_hasFreeUser (wsV RX1 91 RX1 yX1_cellsWith wsX1_cellsWith) := goodIn_app (goodIn_of _ (by decide +kernel)) ggX1_hasFreeUser_X1_cellsWith
theorem dX1_hasFreeUser_0 : decode cX1_hasFreeUser 0 = .ok (.iload_n 1, 1) := by decide +kernel
theorem dX1_hasFreeUser_1 : decode cX1_hasFreeUser 1 = .ok (.bipush 40, 2) := by decide +kernel
theorem dX1_hasFreeUser_3 : decode cX1_hasFreeUser 3 = .ok (.invokestatic 70, 3) := by decide +kernel
theorem dX1_hasFreeUser_6 : decode cX1_hasFreeUser 6 = .ok (.ifCond .eq 21, 3) := by decide +kernel
theorem dX1_hasFreeUser_9 : decode cX1_hasFreeUser 9 = .ok (.aload_n 0, 1) := by decide +kernel
theorem dX1_hasFreeUser_10 : decode cX1_hasFreeUser 10 = .ok (.getfield 15, 3) := by decide +kernel
theorem dX1_hasFreeUser_13 : decode cX1_hasFreeUser 13 = .ok (.iload_n 1, 1) := by decide +kernel
theorem dX1_hasFreeUser_14 : decode cX1_hasFreeUser 14 = .ok (.iaload, 1) := by decide +kernel
theorem dX1_hasFreeUser_15 : decode cX1_hasFreeUser 15 = .ok (.aload_n 0, 1) := by decide +kernel
theorem dX1_hasFreeUser_16 : decode cX1_hasFreeUser 16 = .ok (.iload_n 1, 1) := by decide +kernel
theorem dX1_hasFreeUser_17 : decode cX1_hasFreeUser 17 = .ok (.invokevirtual 91, 3) := by decide +kernel
theorem dX1_hasFreeUser_20 : decode cX1_hasFreeUser 20 = .ok (.if_icmp .le 7, 3) := by decide +kernel
theorem dX1_hasFreeUser_23 : decode cX1_hasFreeUser 23 = .ok (.iconst 1, 1) := by decide +kernel
theorem dX1_hasFreeUser_24 : decode cX1_hasFreeUser 24 = .ok (.goto 4, 3) := by decide +kernel
theorem dX1_hasFreeUser_27 : decode cX1_hasFreeUser 27 = .ok (.iconst 0, 1) := by decide +kernel
theorem dX1_hasFreeUser_28 : decode cX1_hasFreeUser 28 = .ok (.ireturn, 1) := by decide +kernel
set_option maxRecDepth 20000 in
theorem ggX1_giveBack_X3_isBelow : GoodIn wsX1_giveBack wsX3_isBelow := goodIn_r _ [7] (by decide +kernel) (by decide +kernel)
set_option maxRecDepth 20000 in
theorem gX1_giveBack_X3_isBelow_n70 : GoodIn wsX1_giveBack (wsX3_isBelow) := ggX1_giveBack_X3_isBelow
theorem dX1_giveBack_0 : decode cX1_giveBack 0 = .ok (.iload_n 1, 1) := by decide +kernel
theorem dX1_giveBack_1 : decode cX1_giveBack 1 = .ok (.bipush 40, 2) := by decide +kernel
theorem dX1_giveBack_3 : decode cX1_giveBack 3 = .ok (.invokestatic 70, 3) := by decide +kernel
theorem dX1_giveBack_6 : decode cX1_giveBack 6 = .ok (.ifCond .eq 12, 3) := by decide +kernel
theorem dX1_giveBack_9 : decode cX1_giveBack 9 = .ok (.aload_n 0, 1) := by decide +kernel
theorem dX1_giveBack_10 : decode cX1_giveBack 10 = .ok (.getfield 15, 3) := by decide +kernel
theorem dX1_giveBack_13 : decode cX1_giveBack 13 = .ok (.iload_n 1, 1) := by decide +kernel
theorem dX1_giveBack_14 : decode cX1_giveBack 14 = .ok (.iaload, 1) := by decide +kernel
theorem dX1_giveBack_15 : decode cX1_giveBack 15 = .ok (.ifCond .gt 5, 3) := by decide +kernel
theorem dX1_giveBack_18 : decode cX1_giveBack 18 = .ok (.iconst 0, 1) := by decide +kernel
theorem dX1_giveBack_19 : decode cX1_giveBack 19 = .ok (.ireturn, 1) := by decide +kernel
theorem dX1_giveBack_20 : decode cX1_giveBack 20 = .ok (.aload_n 0, 1) := by decide +kernel
theorem dX1_giveBack_21 : decode cX1_giveBack 21 = .ok (.getfield 15, 3) := by decide +kernel
theorem dX1_giveBack_24 : decode cX1_giveBack 24 = .ok (.iload_n 1, 1) := by decide +kernel
theorem dX1_giveBack_25 : decode cX1_giveBack 25 = .ok (.dup2, 1) := by decide +kernel
theorem dX1_giveBack_26 : decode cX1_giveBack 26 = .ok (.iaload, 1) := by decide +kernel
theorem dX1_giveBack_27 : decode cX1_giveBack 27 = .ok (.iconst 1, 1) := by decide +kernel
theorem dX1_giveBack_28 : decode cX1_giveBack 28 = .ok (.isub, 1) := by decide +kernel
theorem dX1_giveBack_29 : decode cX1_giveBack 29 = .ok (.iastore, 1) := by decide +kernel
theorem dX1_giveBack_30 : decode cX1_giveBack 30 = .ok (.aload_n 0, 1) := by decide +kernel
theorem dX1_giveBack_31 : decode cX1_giveBack 31 = .ok (.getfield 15, 3) := by decide +kernel
theorem dX1_giveBack_34 : decode cX1_giveBack 34 = .ok (.iload_n 1, 1) := by decide +kernel
theorem dX1_giveBack_35 : decode cX1_giveBack 35 = .ok (.iaload, 1) := by decide +kernel
theorem dX1_giveBack_36 : decode cX1_giveBack 36 = .ok (.ifCond .ne 30, 3) := by decide +kernel
theorem dX1_giveBack_39 : decode cX1_giveBack 39 = .ok (.aload_n 0, 1) := by decide +kernel
theorem dX1_giveBack_40 : decode cX1_giveBack 40 = .ok (.getfield 9, 3) := by decide +kernel
theorem dX1_giveBack_43 : decode cX1_giveBack 43 = .ok (.iload_n 1, 1) := by decide +kernel
theorem dX1_giveBack_44 : decode cX1_giveBack 44 = .ok (.iconst 0, 1) := by decide +kernel
theorem dX1_giveBack_45 : decode cX1_giveBack 45 = .ok (.iastore, 1) := by decide +kernel
theorem dX1_giveBack_46 : decode cX1_giveBack 46 = .ok (.aload_n 0, 1) := by decide +kernel
theorem dX1_giveBack_47 : decode cX1_giveBack 47 = .ok (.getfield 18, 3) := by decide +kernel
theorem dX1_giveBack_50 : decode cX1_giveBack 50 = .ok (.iload_n 1, 1) := by decide +kernel
theorem dX1_giveBack_51 : decode cX1_giveBack 51 = .ok (.dup2, 1) := by decide +kernel
theorem dX1_giveBack_52 : decode cX1_giveBack 52 = .ok (.iaload, 1) := by decide +kernel
theorem dX1_giveBack_53 : decode cX1_giveBack 53 = .ok (.iconst 1, 1) := by decide +kernel
theorem dX1_giveBack_54 : decode cX1_giveBack 54 = .ok (.iadd, 1) := by decide +kernel
theorem dX1_giveBack_55 : decode cX1_giveBack 55 = .ok (.iastore, 1) := by decide +kernel
theorem dX1_giveBack_56 : decode cX1_giveBack 56 = .ok (.aload_n 0, 1) := by decide +kernel
theorem dX1_giveBack_57 : decode cX1_giveBack 57 = .ok (.dup, 1) := by decide +kernel
theorem dX1_giveBack_58 : decode cX1_giveBack 58 = .ok (.getfield 67, 3) := by decide +kernel
theorem dX1_giveBack_61 : decode cX1_giveBack 61 = .ok (.iconst 1, 1) := by decide +kernel
theorem dX1_giveBack_62 : decode cX1_giveBack 62 = .ok (.iadd, 1) := by decide +kernel
theorem dX1_giveBack_63 : decode cX1_giveBack 63 = .ok (.putfield 67, 3) := by decide +kernel
theorem dX1_giveBack_66 : decode cX1_giveBack 66 = .ok (.aload_n 0, 1) := by decide +kernel
theorem dX1_giveBack_67 : decode cX1_giveBack 67 = .ok (.getfield 15, 3) := by decide +kernel
theorem dX1_giveBack_70 : decode cX1_giveBack 70 = .ok (.iload_n 1, 1) := by decide +kernel
theorem dX1_giveBack_71 : decode cX1_giveBack 71 = .ok (.iaload, 1) := by decide +kernel
theorem dX1_giveBack_72 : decode cX1_giveBack 72 = .ok (.ireturn, 1) := by decide +kernel
set_option maxRecDepth 20000 in
theorem ggX1_fillCell_X3_isBelow : GoodIn wsX1_fillCell wsX3_isBelow := goodIn_r _ [5] (by decide +kernel) (by decide +kernel)
set_option maxRecDepth 20000 in
theorem gX1_fillCell_X3_isBelow_n70 : GoodIn wsX1_fillCell (wsX3_isBelow) := ggX1_fillCell_X3_isBelow
set_option maxRecDepth 20000 in
theorem ggX1_fillCell_X1_addUser : GoodIn wsX1_fillCell wsX1_addUser := goodIn_r _ [10, 2, 3, 4, 5, 18, 19, 20, 21, 22, 23, 24, 25, 26, 27, 28, 29, 30, 31, 32] (by decide +kernel) (by decide +kernel)
set_option maxRecDepth 20000 in
theorem gX1_fillCell_X1_addUser : GoodIn wsX1_fillCell (wsV RX1 88 RX1 yX1_addUser wsX1_addUser) := goodIn_app (goodIn_of _ (by decide +kernel)) ggX1_fillCell_X1_addUser
set_option maxRecDepth 20000 in
theorem ggX1_fillCell_X1_giveBack : GoodIn wsX1_fillCell wsX1_giveBack := goodIn_r _ [14, 2, 15, 16, 17, 3, 4, 5, 18, 19, 20, 21, 22, 23, 24, 25, 26, 27, 28, 29, 30, 31, 32] (by decide +kernel) (by decide +kernel)
set_option maxRecDepth 20000 in
theorem gX1_fillCell_X1_giveBack : GoodIn wsX1_fillCell (wsV RX1 94 RX1 yX1_giveBack wsX1_giveBack) := goodIn_app (goodIn_of _ (by decide +kernel)) ggX1_fillCell_X1_giveBack
theorem dX1_fillCell_0 : decode cX1_fillCell 0 = .ok (.iload_n 1, 1) := by decide +kernel
theorem dX1_fillCell_1 : decode cX1_fillCell 1 = .ok (.aload_n 0, 1) := by decide +kernel
theorem dX1_fillCell_2 : decode cX1_fillCell 2 = .ok (.getfield 21, 3) := by decide +kernel
theorem dX1_fillCell_5 : decode cX1_fillCell 5 = .ok (.arraylength, 1) := by decide +kernel
theorem dX1_fillCell_6 : decode cX1_fillCell 6 = .ok (.invokestatic 70, 3) := by decide +kernel
theorem dX1_fillCell_9 : decode cX1_fillCell 9 = .ok (.ifCond .eq 12, 3) := by decide +kernel
theorem dX1_fillCell_12 : decode cX1_fillCell 12 = .ok (.iload_n 2, 1) := by decide +kernel
theorem dX1_fillCell_13 : decode cX1_fillCell 13 = .ok (.bipush 40, 2) := by decide +kernel
theorem dX1_fillCell_15 : decode cX1_fillCell 15 = .ok (.invokestatic 70, 3) := by decide +kernel
theorem dX1_fillCell_18 : decode cX1_fillCell 18 = .ok (.ifCond .ne 5, 3) := by decide +kernel
theorem dX1_fillCell_21 : decode cX1_fillCell 21 = .ok (.iconst 0, 1) := by decide +kernel
theorem dX1_fillCell_22 : decode cX1_fillCell 22 = .ok (.ireturn, 1) := by decide +kernel
theorem dX1_fillCell_23 : decode cX1_fillCell 23 = .ok (.aload_n 0, 1) := by decide +kernel
theorem dX1_fillCell_24 : decode cX1_fillCell 24 = .ok (.iload_n 2, 1) := by decide +kernel
theorem dX1_fillCell_25 : decode cX1_fillCell 25 = .ok (.invokevirtual 88, 3) := by decide +kernel
theorem dX1_fillCell_28 : decode cX1_fillCell 28 = .ok (.pop, 1) := by decide +kernel
theorem dX1_fillCell_29 : decode cX1_fillCell 29 = .ok (.aload_n 0, 1) := by decide +kernel
theorem dX1_fillCell_30 : decode cX1_fillCell 30 = .ok (.aload_n 0, 1) := by decide +kernel
theorem dX1_fillCell_31 : decode cX1_fillCell 31 = .ok (.getfield 21, 3) := by decide +kernel
theorem dX1_fillCell_34 : decode cX1_fillCell 34 = .ok (.iload_n 1, 1) := by decide +kernel
theorem dX1_fillCell_35 : decode cX1_fillCell 35 = .ok (.iaload, 1) := by decide +kernel
theorem dX1_fillCell_36 : decode cX1_fillCell 36 = .ok (.invokevirtual 94, 3) := by decide +kernel
theorem dX1_fillCell_39 : decode cX1_fillCell 39 = .ok (.pop, 1) := by decide +kernel
theorem dX1_fillCell_40 : decode cX1_fillCell 40 = .ok (.aload_n 0, 1) := by decide +kernel
theorem dX1_fillCell_41 : decode cX1_fillCell 41 = .ok (.getfield 21, 3) := by decide +kernel
theorem dX1_fillCell_44 : decode cX1_fillCell 44 = .ok (.iload_n 1, 1) := by decide +kernel
theorem dX1_fillCell_45 : decode cX1_fillCell 45 = .ok (.iload_n 2, 1) := by decide +kernel
theorem dX1_fillCell_46 : decode cX1_fillCell 46 = .ok (.iastore, 1) := by decide +kernel
theorem dX1_fillCell_47 : decode cX1_fillCell 47 = .ok (.aload_n 0, 1) := by decide +kernel
theorem dX1_fillCell_48 : decode cX1_fillCell 48 = .ok (.getfield 15, 3) := by decide +kernel
theorem dX1_fillCell_51 : decode cX1_fillCell 51 = .ok (.iload_n 2, 1) := by decide +kernel
theorem dX1_fillCell_52 : decode cX1_fillCell 52 = .ok (.iaload, 1) := by decide +kernel
theorem dX1_fillCell_53 : decode cX1_fillCell 53 = .ok (.ireturn, 1) := by decide +kernel
set_option maxRecDepth 20000 in
theorem ggX1_emptyCell_X3_isBelow : GoodIn wsX1_emptyCell wsX3_isBelow := goodIn_r _ [4] (by decide +kernel) (by decide +kernel)
set_option maxRecDepth 20000 in
theorem gX1_emptyCell_X3_isBelow_n70 : GoodIn wsX1_emptyCell (wsX3_isBelow) := ggX1_emptyCell_X3_isBelow
set_option maxRecDepth 20000 in
theorem ggX1_emptyCell_X1_giveBack : GoodIn wsX1_emptyCell wsX1_giveBack := goodIn_r _ [9, 10, 11, 12, 13, 2, 3, 4, 14, 15, 16, 17, 18, 19, 20, 21, 22, 23, 24, 25, 26, 27, 28] (by decide +kernel) (by decide +kernel)
set_option maxRecDepth 20000 in
theorem gX1_emptyCell_X1_giveBack : GoodIn wsX1_emptyCell (wsV RX1 94 RX1 yX1_giveBack wsX1_giveBack) := goodIn_app (goodIn_of _ (by decide +kernel)) ggX1_emptyCell_X1_giveBack
theorem dX1_emptyCell_0 : decode cX1_emptyCell 0 = .ok (.iload_n 1, 1) := by decide +kernel
theorem dX1_emptyCell_1 : decode cX1_emptyCell 1 = .ok (.aload_n 0, 1) := by decide +kernel
theorem dX1_emptyCell_2 : decode cX1_emptyCell 2 = .ok (.getfield 21, 3) := by decide +kernel
theorem dX1_emptyCell_5 : decode cX1_emptyCell 5 = .ok (.arraylength, 1) := by decide +kernel
theorem dX1_emptyCell_6 : decode cX1_emptyCell 6 = .ok (.invokestatic 70, 3) := by decide +kernel
theorem dX1_emptyCell_9 : decode cX1_emptyCell 9 = .ok (.ifCond .ne 5, 3) := by decide +kernel
theorem dX1_emptyCell_12 : decode cX1_emptyCell 12 = .ok (.iconst 0, 1) := by decide +kernel
theorem dX1_emptyCell_13 : decode cX1_emptyCell 13 = .ok (.ireturn, 1) := by decide +kernel
theorem dX1_emptyCell_14 : decode cX1_emptyCell 14 = .ok (.aload_n 0, 1) := by decide +kernel
theorem dX1_emptyCell_15 : decode cX1_emptyCell 15 = .ok (.getfield 21, 3) := by decide +kernel
theorem dX1_emptyCell_18 : decode cX1_emptyCell 18 = .ok (.iload_n 1, 1) := by decide +kernel
theorem dX1_emptyCell_19 : decode cX1_emptyCell 19 = .ok (.iaload, 1) := by decide +kernel
theorem dX1_emptyCell_20 : decode cX1_emptyCell 20 = .ok (.istore_n 2, 1) := by decide +kernel
theorem dX1_emptyCell_21 : decode cX1_emptyCell 21 = .ok (.aload_n 0, 1) := by decide +kernel
theorem dX1_emptyCell_22 : decode cX1_emptyCell 22 = .ok (.getfield 21, 3) := by decide +kernel
theorem dX1_emptyCell_25 : decode cX1_emptyCell 25 = .ok (.iload_n 1, 1) := by decide +kernel
theorem dX1_emptyCell_26 : decode cX1_emptyCell 26 = .ok (.iconst (-1), 1) := by decide +kernel
theorem dX1_emptyCell_27 : decode cX1_emptyCell 27 = .ok (.iastore, 1) := by decide +kernel
theorem dX1_emptyCell_28 : decode cX1_emptyCell 28 = .ok (.aload_n 0, 1) := by decide +kernel
theorem dX1_emptyCell_29 : decode cX1_emptyCell 29 = .ok (.iload_n 2, 1) := by decide +kernel
theorem dX1_emptyCell_30 : decode cX1_emptyCell 30 = .ok (.invokevirtual 94, 3) := by decide +kernel
theorem dX1_emptyCell_33 : decode cX1_emptyCell 33 = .ok (.ireturn, 1) := by decide +kernel
theorem dX1_cellsWith_0 : decode cX1_cellsWith 0 = .ok (.iconst 0, 1) := by decide +kernel
theorem dX1_cellsWith_1 : decode cX1_cellsWith 1 = .ok (.istore_n 2, 1) := by decide +kernel
theorem dX1_cellsWith_2 : decode cX1_cellsWith 2 = .ok (.iconst 0, 1) := by decide +kernel
theorem dX1_cellsWith_3 : decode cX1_cellsWith 3 = .ok (.istore_n 3, 1) := by decide +kernel
theorem dX1_cellsWith_4 : decode cX1_cellsWith 4 = .ok (.iload_n 3, 1) := by decide +kernel
theorem dX1_cellsWith_5 : decode cX1_cellsWith 5 = .ok (.aload_n 0, 1) := by decide +kernel
theorem dX1_cellsWith_6 : decode cX1_cellsWith 6 = .ok (.getfield 21, 3) := by decide +kernel
theorem dX1_cellsWith_9 : decode cX1_cellsWith 9 = .ok (.arraylength, 1) := by decide +kernel
theorem dX1_cellsWith_10 : decode cX1_cellsWith 10 = .ok (.if_icmp .ge 22, 3) := by decide +kernel
theorem dX1_cellsWith_13 : decode cX1_cellsWith 13 = .ok (.aload_n 0, 1) := by decide +kernel
theorem dX1_cellsWith_14 : decode cX1_cellsWith 14 = .ok (.getfield 21, 3) := by decide +kernel
theorem dX1_cellsWith_17 : decode cX1_cellsWith 17 = .ok (.iload_n 3, 1) := by decide +kernel
theorem dX1_cellsWith_18 : decode cX1_cellsWith 18 = .ok (.iaload, 1) := by decide +kernel
theorem dX1_cellsWith_19 : decode cX1_cellsWith 19 = .ok (.iload_n 1, 1) := by decide +kernel
theorem dX1_cellsWith_20 : decode cX1_cellsWith 20 = .ok (.if_icmp .ne 6, 3) := by decide +kernel
theorem dX1_cellsWith_23 : decode cX1_cellsWith 23 = .ok (.iinc 2 1, 3) := by decide +kernel
theorem dX1_cellsWith_26 : decode cX1_cellsWith 26 = .ok (.iinc 3 1, 3) := by decide +kernel
theorem dX1_cellsWith_29 : decode cX1_cellsWith 29 = .ok (.goto (-25), 3) := by decide +kernel
theorem dX1_cellsWith_32 : decode cX1_cellsWith 32 = .ok (.iload_n 2, 1) := by decide +kernel
theorem dX1_cellsWith_33 : decode cX1_cellsWith 33 = .ok (.ireturn, 1) := by decide +kernel
set_option maxRecDepth 20000 in
theorem ggX1_placeOf_X1_isAhead : GoodIn wsX1_placeOf wsX1_isAhead := goodIn_r _ [6, 1, 7, 8, 9, 10, 11, 12, 13, 14, 15, 16, 17, 18, 19, 20, 21, 22, 23, 24, 25, 26, 27, 28] (by decide +kernel) (by decide +kernel)
set_option maxRecDepth 20000 in
theorem gX1_placeOf_X1_isAhead : GoodIn wsX1_placeOf (wsV RX1 97 RX1 yX1_isAhead wsX1_isAhead) := goodIn_app (goodIn_of _ (by decide +kernel)) ggX1_placeOf_X1_isAhead
theorem dX1_placeOf_0 : decode cX1_placeOf 0 = .ok (.iconst 0, 1) := by decide +kernel
theorem dX1_placeOf_1 : decode cX1_placeOf 1 = .ok (.istore_n 3, 1) := by decide +kernel
theorem dX1_placeOf_2 : decode cX1_placeOf 2 = .ok (.iconst 0, 1) := by decide +kernel
theorem dX1_placeOf_3 : decode cX1_placeOf 3 = .ok (.istore 4, 2) := by decide +kernel
theorem dX1_placeOf_5 : decode cX1_placeOf 5 = .ok (.iload 4, 2) := by decide +kernel
theorem dX1_placeOf_7 : decode cX1_placeOf 7 = .ok (.bipush 40, 2) := by decide +kernel
theorem dX1_placeOf_9 : decode cX1_placeOf 9 = .ok (.if_icmp .ge 33, 3) := by decide +kernel
theorem dX1_placeOf_12 : decode cX1_placeOf 12 = .ok (.aload_n 0, 1) := by decide +kernel
theorem dX1_placeOf_13 : decode cX1_placeOf 13 = .ok (.getfield 9, 3) := by decide +kernel
theorem dX1_placeOf_16 : decode cX1_placeOf 16 = .ok (.iload 4, 2) := by decide +kernel
theorem dX1_placeOf_18 : decode cX1_placeOf 18 = .ok (.iaload, 1) := by decide +kernel
theorem dX1_placeOf_19 : decode cX1_placeOf 19 = .ok (.ifCond .eq 17, 3) := by decide +kernel
theorem dX1_placeOf_22 : decode cX1_placeOf 22 = .ok (.aload_n 0, 1) := by decide +kernel
theorem dX1_placeOf_23 : decode cX1_placeOf 23 = .ok (.iload 4, 2) := by decide +kernel
theorem dX1_placeOf_25 : decode cX1_placeOf 25 = .ok (.iload_n 1, 1) := by decide +kernel
theorem dX1_placeOf_26 : decode cX1_placeOf 26 = .ok (.iload_n 2, 1) := by decide +kernel
theorem dX1_placeOf_27 : decode cX1_placeOf 27 = .ok (.invokevirtual 97, 3) := by decide +kernel
theorem dX1_placeOf_30 : decode cX1_placeOf 30 = .ok (.ifCond .eq 6, 3) := by decide +kernel
theorem dX1_placeOf_33 : decode cX1_placeOf 33 = .ok (.iinc 3 1, 3) := by decide +kernel
theorem dX1_placeOf_36 : decode cX1_placeOf 36 = .ok (.iinc 4 1, 3) := by decide +kernel
theorem dX1_placeOf_39 : decode cX1_placeOf 39 = .ok (.goto (-34), 3) := by decide +kernel
theorem dX1_placeOf_42 : decode cX1_placeOf 42 = .ok (.iload_n 3, 1) := by decide +kernel
theorem dX1_placeOf_43 : decode cX1_placeOf 43 = .ok (.ireturn, 1) := by decide +kernel
set_option maxRecDepth 20000 in
theorem ggX1_isAhead_X3_isBelow : GoodIn wsX1_isAhead wsX3_isBelow := goodIn_r _ [5] (by decide +kernel) (by decide +kernel)
set_option maxRecDepth 20000 in
theorem gX1_isAhead_X3_isBelow_n70 : GoodIn wsX1_isAhead (wsX3_isBelow) := ggX1_isAhead_X3_isBelow
set_option maxRecDepth 20000 in
theorem ggX1_isAhead_X3_orderKey : GoodIn wsX1_isAhead wsX3_orderKey := goodIn_r _ [7, 8] (by decide +kernel) (by decide +kernel)
set_option maxRecDepth 20000 in
theorem gX1_isAhead_X3_orderKey_n101 : GoodIn wsX1_isAhead (wsX3_orderKey) := ggX1_isAhead_X3_orderKey
theorem dX1_isAhead_0 : decode cX1_isAhead 0 = .ok (.iload_n 1, 1) := by decide +kernel
theorem dX1_isAhead_1 : decode cX1_isAhead 1 = .ok (.bipush 40, 2) := by decide +kernel
theorem dX1_isAhead_3 : decode cX1_isAhead 3 = .ok (.invokestatic 70, 3) := by decide +kernel
theorem dX1_isAhead_6 : decode cX1_isAhead 6 = .ok (.ifCond .eq 12, 3) := by decide +kernel
theorem dX1_isAhead_9 : decode cX1_isAhead 9 = .ok (.iload_n 2, 1) := by decide +kernel
theorem dX1_isAhead_10 : decode cX1_isAhead 10 = .ok (.bipush 40, 2) := by decide +kernel
theorem dX1_isAhead_12 : decode cX1_isAhead 12 = .ok (.invokestatic 70, 3) := by decide +kernel
theorem dX1_isAhead_15 : decode cX1_isAhead 15 = .ok (.ifCond .ne 5, 3) := by decide +kernel
theorem dX1_isAhead_18 : decode cX1_isAhead 18 = .ok (.iconst 0, 1) := by decide +kernel
theorem dX1_isAhead_19 : decode cX1_isAhead 19 = .ok (.ireturn, 1) := by decide +kernel
theorem dX1_isAhead_20 : decode cX1_isAhead 20 = .ok (.iload_n 3, 1) := by decide +kernel
theorem dX1_isAhead_21 : decode cX1_isAhead 21 = .ok (.iconst 1, 1) := by decide +kernel
theorem dX1_isAhead_22 : decode cX1_isAhead 22 = .ok (.if_icmp .ne 30, 3) := by decide +kernel
theorem dX1_isAhead_25 : decode cX1_isAhead 25 = .ok (.aload_n 0, 1) := by decide +kernel
theorem dX1_isAhead_26 : decode cX1_isAhead 26 = .ok (.getfield 9, 3) := by decide +kernel
theorem dX1_isAhead_29 : decode cX1_isAhead 29 = .ok (.iload_n 1, 1) := by decide +kernel
theorem dX1_isAhead_30 : decode cX1_isAhead 30 = .ok (.iaload, 1) := by decide +kernel
theorem dX1_isAhead_31 : decode cX1_isAhead 31 = .ok (.invokestatic 101, 3) := by decide +kernel
theorem dX1_isAhead_34 : decode cX1_isAhead 34 = .ok (.aload_n 0, 1) := by decide +kernel
theorem dX1_isAhead_35 : decode cX1_isAhead 35 = .ok (.getfield 9, 3) := by decide +kernel
theorem dX1_isAhead_38 : decode cX1_isAhead 38 = .ok (.iload_n 2, 1) := by decide +kernel
theorem dX1_isAhead_39 : decode cX1_isAhead 39 = .ok (.iaload, 1) := by decide +kernel
theorem dX1_isAhead_40 : decode cX1_isAhead 40 = .ok (.invokestatic 101, 3) := by decide +kernel
theorem dX1_isAhead_43 : decode cX1_isAhead 43 = .ok (.if_icmp .ge 7, 3) := by decide +kernel
theorem dX1_isAhead_46 : decode cX1_isAhead 46 = .ok (.iconst 1, 1) := by decide +kernel
theorem dX1_isAhead_47 : decode cX1_isAhead 47 = .ok (.goto 4, 3) := by decide +kernel
theorem dX1_isAhead_50 : decode cX1_isAhead 50 = .ok (.iconst 0, 1) := by decide +kernel
theorem dX1_isAhead_51 : decode cX1_isAhead 51 = .ok (.ireturn, 1) := by decide +kernel
theorem dX1_isAhead_52 : decode cX1_isAhead 52 = .ok (.iload_n 3, 1) := by decide +kernel
theorem dX1_isAhead_53 : decode cX1_isAhead 53 = .ok (.iconst 2, 1) := by decide +kernel
theorem dX1_isAhead_54 : decode cX1_isAhead 54 = .ok (.if_icmp .ne 39, 3) := by decide +kernel
theorem dX1_isAhead_57 : decode cX1_isAhead 57 = .ok (.aload_n 0, 1) := by decide +kernel
theorem dX1_isAhead_58 : decode cX1_isAhead 58 = .ok (.getfield 15, 3) := by decide +kernel
theorem dX1_isAhead_61 : decode cX1_isAhead 61 = .ok (.iload_n 1, 1) := by decide +kernel
theorem dX1_isAhead_62 : decode cX1_isAhead 62 = .ok (.iaload, 1) := by decide +kernel
theorem dX1_isAhead_63 : decode cX1_isAhead 63 = .ok (.aload_n 0, 1) := by decide +kernel
theorem dX1_isAhead_64 : decode cX1_isAhead 64 = .ok (.getfield 15, 3) := by decide +kernel
theorem dX1_isAhead_67 : decode cX1_isAhead 67 = .ok (.iload_n 2, 1) := by decide +kernel
theorem dX1_isAhead_68 : decode cX1_isAhead 68 = .ok (.iaload, 1) := by decide +kernel
theorem dX1_isAhead_69 : decode cX1_isAhead 69 = .ok (.if_icmp .eq 24, 3) := by decide +kernel
theorem dX1_isAhead_72 : decode cX1_isAhead 72 = .ok (.aload_n 0, 1) := by decide +kernel
theorem dX1_isAhead_73 : decode cX1_isAhead 73 = .ok (.getfield 15, 3) := by decide +kernel
theorem dX1_isAhead_76 : decode cX1_isAhead 76 = .ok (.iload_n 1, 1) := by decide +kernel
theorem dX1_isAhead_77 : decode cX1_isAhead 77 = .ok (.iaload, 1) := by decide +kernel
theorem dX1_isAhead_78 : decode cX1_isAhead 78 = .ok (.aload_n 0, 1) := by decide +kernel
theorem dX1_isAhead_79 : decode cX1_isAhead 79 = .ok (.getfield 15, 3) := by decide +kernel
theorem dX1_isAhead_82 : decode cX1_isAhead 82 = .ok (.iload_n 2, 1) := by decide +kernel
theorem dX1_isAhead_83 : decode cX1_isAhead 83 = .ok (.iaload, 1) := by decide +kernel
theorem dX1_isAhead_84 : decode cX1_isAhead 84 = .ok (.if_icmp .le 7, 3) := by decide +kernel
theorem dX1_isAhead_87 : decode cX1_isAhead 87 = .ok (.iconst 1, 1) := by decide +kernel
theorem dX1_isAhead_88 : decode cX1_isAhead 88 = .ok (.goto 4, 3) := by decide +kernel
theorem dX1_isAhead_91 : decode cX1_isAhead 91 = .ok (.iconst 0, 1) := by decide +kernel
theorem dX1_isAhead_92 : decode cX1_isAhead 92 = .ok (.ireturn, 1) := by decide +kernel
theorem dX1_isAhead_93 : decode cX1_isAhead 93 = .ok (.iload_n 1, 1) := by decide +kernel
theorem dX1_isAhead_94 : decode cX1_isAhead 94 = .ok (.iload_n 2, 1) := by decide +kernel
theorem dX1_isAhead_95 : decode cX1_isAhead 95 = .ok (.if_icmp .ge 7, 3) := by decide +kernel
theorem dX1_isAhead_98 : decode cX1_isAhead 98 = .ok (.iconst 1, 1) := by decide +kernel
theorem dX1_isAhead_99 : decode cX1_isAhead 99 = .ok (.goto 4, 3) := by decide +kernel
theorem dX1_isAhead_102 : decode cX1_isAhead 102 = .ok (.iconst 0, 1) := by decide +kernel
theorem dX1_isAhead_103 : decode cX1_isAhead 103 = .ok (.ireturn, 1) := by decide +kernel
theorem dX1_hasNextEpoch_0 : decode cX1_hasNextEpoch 0 = .ok (.aload_n 0, 1) := by decide +kernel
theorem dX1_hasNextEpoch_1 : decode cX1_hasNextEpoch 1 = .ok (.getfield 60, 3) := by decide +kernel
theorem dX1_hasNextEpoch_4 : decode cX1_hasNextEpoch 4 = .ok (.sipush 999, 3) := by decide +kernel
theorem dX1_hasNextEpoch_7 : decode cX1_hasNextEpoch 7 = .ok (.if_icmp .ge 7, 3) := by decide +kernel
theorem dX1_hasNextEpoch_10 : decode cX1_hasNextEpoch 10 = .ok (.iconst 1, 1) := by decide +kernel
theorem dX1_hasNextEpoch_11 : decode cX1_hasNextEpoch 11 = .ok (.goto 4, 3) := by decide +kernel
theorem dX1_hasNextEpoch_14 : decode cX1_hasNextEpoch 14 = .ok (.iconst 0, 1) := by decide +kernel
theorem dX1_hasNextEpoch_15 : decode cX1_hasNextEpoch 15 = .ok (.ireturn, 1) := by decide +kernel
set_option maxRecDepth 20000 in
theorem ggX1_giveAnew_X1_placeOf : GoodIn wsX1_giveAnew wsX1_placeOf := goodIn_r _ [18, 2, 19, 20, 21, 17, 22, 23, 24, 25, 26, 27, 28, 29, 49, 50, 51, 52, 53, 54, 55, 56, 57, 58, 59, 60, 61, 62, 63] (by decide +kernel) (by decide +kernel)
set_option maxRecDepth 20000 in
theorem gX1_giveAnew_X1_placeOf : GoodIn wsX1_giveAnew (wsV RX1 104 RX1 yX1_placeOf wsX1_placeOf) := goodIn_app (goodIn_of _ (by decide +kernel)) ggX1_giveAnew_X1_placeOf
set_option maxRecDepth 20000 in
theorem ggX1_giveAnew_X1_namesBelow : GoodIn wsX1_giveAnew wsX1_namesBelow := goodIn_r _ [33, 2, 49, 50, 51, 52, 53, 54, 55, 56, 57, 58, 59, 60, 61, 62, 63] (by decide +kernel) (by decide +kernel)
set_option maxRecDepth 20000 in
theorem gX1_giveAnew_X1_namesBelow : GoodIn wsX1_giveAnew (wsV RX1 108 RX1 yX1_namesBelow wsX1_namesBelow) := goodIn_app (goodIn_of _ (by decide +kernel)) ggX1_giveAnew_X1_namesBelow
set_option maxRecDepth 20000 in
theorem ggX1_giveAnew_X1_moveNames : GoodIn wsX1_giveAnew wsX1_moveNames := goodIn_r _ [37, 2, 38, 9, 10, 11, 12, 23, 39, 3, 7, 40, 41, 42, 43, 24, 25, 26, 49, 50, 51, 52, 53, 54, 55, 56, 57, 58, 59, 60, 61, 62, 63] (by decide +kernel) (by decide +kernel)
set_option maxRecDepth 20000 in
theorem gX1_giveAnew_X1_moveNames : GoodIn wsX1_giveAnew (wsV RX1 111 RX1 yX1_moveNames wsX1_moveNames) := goodIn_app (goodIn_of _ (by decide +kernel)) ggX1_giveAnew_X1_moveNames
set_option maxRecDepth 20000 in
theorem ggX1_giveAnew_X1_moveCells : GoodIn wsX1_giveAnew wsX1_moveCells := goodIn_r _ [47, 48, 3, 24, 25, 26, 49, 50, 51, 52, 53, 54, 55, 56, 57, 58, 59, 60, 61, 62, 63] (by decide +kernel) (by decide +kernel)
set_option maxRecDepth 20000 in
theorem gX1_giveAnew_X1_moveCells : GoodIn wsX1_giveAnew (wsV RX1 115 RX1 yX1_moveCells wsX1_moveCells) := goodIn_app (goodIn_of _ (by decide +kernel)) ggX1_giveAnew_X1_moveCells
theorem dX1_giveAnew_0 : decode cX1_giveAnew 0 = .ok (.aload_n 0, 1) := by decide +kernel
theorem dX1_giveAnew_1 : decode cX1_giveAnew 1 = .ok (.getfield 60, 3) := by decide +kernel
theorem dX1_giveAnew_4 : decode cX1_giveAnew 4 = .ok (.iconst 3, 1) := by decide +kernel
theorem dX1_giveAnew_5 : decode cX1_giveAnew 5 = .ok (.irem, 1) := by decide +kernel
theorem dX1_giveAnew_6 : decode cX1_giveAnew 6 = .ok (.istore_n 2, 1) := by decide +kernel
theorem dX1_giveAnew_7 : decode cX1_giveAnew 7 = .ok (.iload_n 2, 1) := by decide +kernel
theorem dX1_giveAnew_8 : decode cX1_giveAnew 8 = .ok (.bipush 40, 2) := by decide +kernel
theorem dX1_giveAnew_10 : decode cX1_giveAnew 10 = .ok (.imul, 1) := by decide +kernel
theorem dX1_giveAnew_11 : decode cX1_giveAnew 11 = .ok (.istore_n 3, 1) := by decide +kernel
theorem dX1_giveAnew_12 : decode cX1_giveAnew 12 = .ok (.iconst 0, 1) := by decide +kernel
theorem dX1_giveAnew_13 : decode cX1_giveAnew 13 = .ok (.istore 4, 2) := by decide +kernel
theorem dX1_giveAnew_15 : decode cX1_giveAnew 15 = .ok (.iconst 0, 1) := by decide +kernel
theorem dX1_giveAnew_16 : decode cX1_giveAnew 16 = .ok (.istore 5, 2) := by decide +kernel
theorem dX1_giveAnew_18 : decode cX1_giveAnew 18 = .ok (.iload 5, 2) := by decide +kernel
theorem dX1_giveAnew_20 : decode cX1_giveAnew 20 = .ok (.bipush 40, 2) := by decide +kernel
theorem dX1_giveAnew_22 : decode cX1_giveAnew 22 = .ok (.if_icmp .ge 59, 3) := by decide +kernel
theorem dX1_giveAnew_25 : decode cX1_giveAnew 25 = .ok (.aload_n 0, 1) := by decide +kernel
theorem dX1_giveAnew_26 : decode cX1_giveAnew 26 = .ok (.getfield 9, 3) := by decide +kernel
theorem dX1_giveAnew_29 : decode cX1_giveAnew 29 = .ok (.iload 5, 2) := by decide +kernel
theorem dX1_giveAnew_31 : decode cX1_giveAnew 31 = .ok (.iaload, 1) := by decide +kernel
theorem dX1_giveAnew_32 : decode cX1_giveAnew 32 = .ok (.ifCond .ne 7, 3) := by decide +kernel
theorem dX1_giveAnew_35 : decode cX1_giveAnew 35 = .ok (.iconst (-1), 1) := by decide +kernel
theorem dX1_giveAnew_36 : decode cX1_giveAnew 36 = .ok (.goto 10, 3) := by decide +kernel
theorem dX1_giveAnew_39 : decode cX1_giveAnew 39 = .ok (.aload_n 0, 1) := by decide +kernel
theorem dX1_giveAnew_40 : decode cX1_giveAnew 40 = .ok (.iload 5, 2) := by decide +kernel
theorem dX1_giveAnew_42 : decode cX1_giveAnew 42 = .ok (.iload_n 1, 1) := by decide +kernel
theorem dX1_giveAnew_43 : decode cX1_giveAnew 43 = .ok (.invokevirtual 104, 3) := by decide +kernel
theorem dX1_giveAnew_46 : decode cX1_giveAnew 46 = .ok (.istore 6, 2) := by decide +kernel
theorem dX1_giveAnew_48 : decode cX1_giveAnew 48 = .ok (.aload_n 0, 1) := by decide +kernel
theorem dX1_giveAnew_49 : decode cX1_giveAnew 49 = .ok (.getfield 36, 3) := by decide +kernel
theorem dX1_giveAnew_52 : decode cX1_giveAnew 52 = .ok (.iload_n 3, 1) := by decide +kernel
theorem dX1_giveAnew_53 : decode cX1_giveAnew 53 = .ok (.iload 5, 2) := by decide +kernel
theorem dX1_giveAnew_55 : decode cX1_giveAnew 55 = .ok (.iadd, 1) := by decide +kernel
theorem dX1_giveAnew_56 : decode cX1_giveAnew 56 = .ok (.iload 6, 2) := by decide +kernel
theorem dX1_giveAnew_58 : decode cX1_giveAnew 58 = .ok (.iastore, 1) := by decide +kernel
theorem dX1_giveAnew_59 : decode cX1_giveAnew 59 = .ok (.iload 6, 2) := by decide +kernel
theorem dX1_giveAnew_61 : decode cX1_giveAnew 61 = .ok (.iconst (-1), 1) := by decide +kernel
theorem dX1_giveAnew_62 : decode cX1_giveAnew 62 = .ok (.if_icmp .eq 13, 3) := by decide +kernel
theorem dX1_giveAnew_65 : decode cX1_giveAnew 65 = .ok (.iload 6, 2) := by decide +kernel
theorem dX1_giveAnew_67 : decode cX1_giveAnew 67 = .ok (.iload 5, 2) := by decide +kernel
theorem dX1_giveAnew_69 : decode cX1_giveAnew 69 = .ok (.if_icmp .eq 6, 3) := by decide +kernel
theorem dX1_giveAnew_72 : decode cX1_giveAnew 72 = .ok (.iinc 4 1, 3) := by decide +kernel
theorem dX1_giveAnew_75 : decode cX1_giveAnew 75 = .ok (.iinc 5 1, 3) := by decide +kernel
theorem dX1_giveAnew_78 : decode cX1_giveAnew 78 = .ok (.goto (-60), 3) := by decide +kernel
theorem dX1_giveAnew_81 : decode cX1_giveAnew 81 = .ok (.aload_n 0, 1) := by decide +kernel
theorem dX1_giveAnew_82 : decode cX1_giveAnew 82 = .ok (.getfield 24, 3) := by decide +kernel
theorem dX1_giveAnew_85 : decode cX1_giveAnew 85 = .ok (.iload_n 2, 1) := by decide +kernel
theorem dX1_giveAnew_86 : decode cX1_giveAnew 86 = .ok (.iload_n 1, 1) := by decide +kernel
theorem dX1_giveAnew_87 : decode cX1_giveAnew 87 = .ok (.iastore, 1) := by decide +kernel
theorem dX1_giveAnew_88 : decode cX1_giveAnew 88 = .ok (.aload_n 0, 1) := by decide +kernel
theorem dX1_giveAnew_89 : decode cX1_giveAnew 89 = .ok (.getfield 27, 3) := by decide +kernel
theorem dX1_giveAnew_92 : decode cX1_giveAnew 92 = .ok (.iload_n 2, 1) := by decide +kernel
theorem dX1_giveAnew_93 : decode cX1_giveAnew 93 = .ok (.aload_n 0, 1) := by decide +kernel
theorem dX1_giveAnew_94 : decode cX1_giveAnew 94 = .ok (.bipush 40, 2) := by decide +kernel
theorem dX1_giveAnew_96 : decode cX1_giveAnew 96 = .ok (.invokevirtual 108, 3) := by decide +kernel
theorem dX1_giveAnew_99 : decode cX1_giveAnew 99 = .ok (.iastore, 1) := by decide +kernel
theorem dX1_giveAnew_100 : decode cX1_giveAnew 100 = .ok (.aload_n 0, 1) := by decide +kernel
theorem dX1_giveAnew_101 : decode cX1_giveAnew 101 = .ok (.getfield 30, 3) := by decide +kernel
theorem dX1_giveAnew_104 : decode cX1_giveAnew 104 = .ok (.iload_n 2, 1) := by decide +kernel
theorem dX1_giveAnew_105 : decode cX1_giveAnew 105 = .ok (.iload 4, 2) := by decide +kernel
theorem dX1_giveAnew_107 : decode cX1_giveAnew 107 = .ok (.iastore, 1) := by decide +kernel
theorem dX1_giveAnew_108 : decode cX1_giveAnew 108 = .ok (.aload_n 0, 1) := by decide +kernel
theorem dX1_giveAnew_109 : decode cX1_giveAnew 109 = .ok (.getfield 18, 3) := by decide +kernel
theorem dX1_giveAnew_112 : decode cX1_giveAnew 112 = .ok (.iconst 0, 1) := by decide +kernel
theorem dX1_giveAnew_113 : decode cX1_giveAnew 113 = .ok (.aload_n 0, 1) := by decide +kernel
theorem dX1_giveAnew_114 : decode cX1_giveAnew 114 = .ok (.getfield 33, 3) := by decide +kernel
theorem dX1_giveAnew_117 : decode cX1_giveAnew 117 = .ok (.iload_n 3, 1) := by decide +kernel
theorem dX1_giveAnew_118 : decode cX1_giveAnew 118 = .ok (.bipush 40, 2) := by decide +kernel
theorem dX1_giveAnew_120 : decode cX1_giveAnew 120 = .ok (.invokestatic 54, 3) := by decide +kernel
theorem dX1_giveAnew_123 : decode cX1_giveAnew 123 = .ok (.aload_n 0, 1) := by decide +kernel
theorem dX1_giveAnew_124 : decode cX1_giveAnew 124 = .ok (.iload_n 3, 1) := by decide +kernel
theorem dX1_giveAnew_125 : decode cX1_giveAnew 125 = .ok (.invokevirtual 111, 3) := by decide +kernel
theorem dX1_giveAnew_128 : decode cX1_giveAnew 128 = .ok (.aload_n 0, 1) := by decide +kernel
theorem dX1_giveAnew_129 : decode cX1_giveAnew 129 = .ok (.iload_n 3, 1) := by decide +kernel
theorem dX1_giveAnew_130 : decode cX1_giveAnew 130 = .ok (.invokevirtual 115, 3) := by decide +kernel
theorem dX1_giveAnew_133 : decode cX1_giveAnew 133 = .ok (.aload_n 0, 1) := by decide +kernel
theorem dX1_giveAnew_134 : decode cX1_giveAnew 134 = .ok (.getfield 18, 3) := by decide +kernel
theorem dX1_giveAnew_137 : decode cX1_giveAnew 137 = .ok (.iconst 0, 1) := by decide +kernel
theorem dX1_giveAnew_138 : decode cX1_giveAnew 138 = .ok (.aload_n 0, 1) := by decide +kernel
theorem dX1_giveAnew_139 : decode cX1_giveAnew 139 = .ok (.getfield 39, 3) := by decide +kernel
theorem dX1_giveAnew_142 : decode cX1_giveAnew 142 = .ok (.iload_n 3, 1) := by decide +kernel
theorem dX1_giveAnew_143 : decode cX1_giveAnew 143 = .ok (.bipush 40, 2) := by decide +kernel
theorem dX1_giveAnew_145 : decode cX1_giveAnew 145 = .ok (.invokestatic 54, 3) := by decide +kernel
theorem dX1_giveAnew_148 : decode cX1_giveAnew 148 = .ok (.aload_n 0, 1) := by decide +kernel
theorem dX1_giveAnew_149 : decode cX1_giveAnew 149 = .ok (.dup, 1) := by decide +kernel
theorem dX1_giveAnew_150 : decode cX1_giveAnew 150 = .ok (.getfield 60, 3) := by decide +kernel
theorem dX1_giveAnew_153 : decode cX1_giveAnew 153 = .ok (.iconst 1, 1) := by decide +kernel
theorem dX1_giveAnew_154 : decode cX1_giveAnew 154 = .ok (.iadd, 1) := by decide +kernel
theorem dX1_giveAnew_155 : decode cX1_giveAnew 155 = .ok (.putfield 60, 3) := by decide +kernel
theorem dX1_giveAnew_158 : decode cX1_giveAnew 158 = .ok (.iload 4, 2) := by decide +kernel
theorem dX1_giveAnew_160 : decode cX1_giveAnew 160 = .ok (.ireturn, 1) := by decide +kernel
set_option maxRecDepth 20000 in
theorem ggX1_moveNames_J7_fill_53178 : GoodIn wsX1_moveNames wsJ7_fill_53178 := goodIn_r _ [14] (by decide +kernel) (by decide +kernel)
set_option maxRecDepth 20000 in
theorem gX1_moveNames_J7_fill_53178 : GoodIn wsX1_moveNames (va_wsS RX1 48 yJ7_fill_53178 wsJ7_fill_53178) := goodIn_app (goodIn_of _ (by decide +kernel)) ggX1_moveNames_J7_fill_53178
set_option maxRecDepth 20000 in
theorem ggX1_moveNames_X3_isBelow : GoodIn wsX1_moveNames wsX3_isBelow := goodIn_r _ [17] (by decide +kernel) (by decide +kernel)
set_option maxRecDepth 20000 in
theorem gX1_moveNames_X3_isBelow_n70 : GoodIn wsX1_moveNames (wsX3_isBelow) := ggX1_moveNames_X3_isBelow
theorem dX1_moveNames_0 : decode cX1_moveNames 0 = .ok (.aload_n 0, 1) := by decide +kernel
theorem dX1_moveNames_1 : decode cX1_moveNames 1 = .ok (.getfield 9, 3) := by decide +kernel
theorem dX1_moveNames_4 : decode cX1_moveNames 4 = .ok (.iconst 0, 1) := by decide +kernel
theorem dX1_moveNames_5 : decode cX1_moveNames 5 = .ok (.aload_n 0, 1) := by decide +kernel
theorem dX1_moveNames_6 : decode cX1_moveNames 6 = .ok (.getfield 42, 3) := by decide +kernel
theorem dX1_moveNames_9 : decode cX1_moveNames 9 = .ok (.iconst 0, 1) := by decide +kernel
theorem dX1_moveNames_10 : decode cX1_moveNames 10 = .ok (.bipush 40, 2) := by decide +kernel
theorem dX1_moveNames_12 : decode cX1_moveNames 12 = .ok (.invokestatic 54, 3) := by decide +kernel
theorem dX1_moveNames_15 : decode cX1_moveNames 15 = .ok (.aload_n 0, 1) := by decide +kernel
theorem dX1_moveNames_16 : decode cX1_moveNames 16 = .ok (.getfield 15, 3) := by decide +kernel
theorem dX1_moveNames_19 : decode cX1_moveNames 19 = .ok (.iconst 0, 1) := by decide +kernel
theorem dX1_moveNames_20 : decode cX1_moveNames 20 = .ok (.aload_n 0, 1) := by decide +kernel
theorem dX1_moveNames_21 : decode cX1_moveNames 21 = .ok (.getfield 45, 3) := by decide +kernel
theorem dX1_moveNames_24 : decode cX1_moveNames 24 = .ok (.iconst 0, 1) := by decide +kernel
theorem dX1_moveNames_25 : decode cX1_moveNames 25 = .ok (.bipush 40, 2) := by decide +kernel
theorem dX1_moveNames_27 : decode cX1_moveNames 27 = .ok (.invokestatic 54, 3) := by decide +kernel
theorem dX1_moveNames_30 : decode cX1_moveNames 30 = .ok (.aload_n 0, 1) := by decide +kernel
theorem dX1_moveNames_31 : decode cX1_moveNames 31 = .ok (.getfield 9, 3) := by decide +kernel
theorem dX1_moveNames_34 : decode cX1_moveNames 34 = .ok (.iconst 0, 1) := by decide +kernel
theorem dX1_moveNames_35 : decode cX1_moveNames 35 = .ok (.invokestatic 48, 3) := by decide +kernel
theorem dX1_moveNames_38 : decode cX1_moveNames 38 = .ok (.aload_n 0, 1) := by decide +kernel
theorem dX1_moveNames_39 : decode cX1_moveNames 39 = .ok (.getfield 15, 3) := by decide +kernel
theorem dX1_moveNames_42 : decode cX1_moveNames 42 = .ok (.iconst 0, 1) := by decide +kernel
theorem dX1_moveNames_43 : decode cX1_moveNames 43 = .ok (.invokestatic 48, 3) := by decide +kernel
theorem dX1_moveNames_46 : decode cX1_moveNames 46 = .ok (.iconst 0, 1) := by decide +kernel
theorem dX1_moveNames_47 : decode cX1_moveNames 47 = .ok (.istore_n 2, 1) := by decide +kernel
theorem dX1_moveNames_48 : decode cX1_moveNames 48 = .ok (.iload_n 2, 1) := by decide +kernel
theorem dX1_moveNames_49 : decode cX1_moveNames 49 = .ok (.bipush 40, 2) := by decide +kernel
theorem dX1_moveNames_51 : decode cX1_moveNames 51 = .ok (.if_icmp .ge 51, 3) := by decide +kernel
theorem dX1_moveNames_54 : decode cX1_moveNames 54 = .ok (.aload_n 0, 1) := by decide +kernel
theorem dX1_moveNames_55 : decode cX1_moveNames 55 = .ok (.getfield 36, 3) := by decide +kernel
theorem dX1_moveNames_58 : decode cX1_moveNames 58 = .ok (.iload_n 1, 1) := by decide +kernel
theorem dX1_moveNames_59 : decode cX1_moveNames 59 = .ok (.iload_n 2, 1) := by decide +kernel
theorem dX1_moveNames_60 : decode cX1_moveNames 60 = .ok (.iadd, 1) := by decide +kernel
theorem dX1_moveNames_61 : decode cX1_moveNames 61 = .ok (.iaload, 1) := by decide +kernel
theorem dX1_moveNames_62 : decode cX1_moveNames 62 = .ok (.istore_n 3, 1) := by decide +kernel
theorem dX1_moveNames_63 : decode cX1_moveNames 63 = .ok (.iload_n 3, 1) := by decide +kernel
theorem dX1_moveNames_64 : decode cX1_moveNames 64 = .ok (.bipush 40, 2) := by decide +kernel
theorem dX1_moveNames_66 : decode cX1_moveNames 66 = .ok (.invokestatic 70, 3) := by decide +kernel
theorem dX1_moveNames_69 : decode cX1_moveNames 69 = .ok (.ifCond .eq 27, 3) := by decide +kernel
theorem dX1_moveNames_72 : decode cX1_moveNames 72 = .ok (.aload_n 0, 1) := by decide +kernel
theorem dX1_moveNames_73 : decode cX1_moveNames 73 = .ok (.getfield 9, 3) := by decide +kernel
theorem dX1_moveNames_76 : decode cX1_moveNames 76 = .ok (.iload_n 3, 1) := by decide +kernel
theorem dX1_moveNames_77 : decode cX1_moveNames 77 = .ok (.aload_n 0, 1) := by decide +kernel
theorem dX1_moveNames_78 : decode cX1_moveNames 78 = .ok (.getfield 42, 3) := by decide +kernel
theorem dX1_moveNames_81 : decode cX1_moveNames 81 = .ok (.iload_n 2, 1) := by decide +kernel
theorem dX1_moveNames_82 : decode cX1_moveNames 82 = .ok (.iaload, 1) := by decide +kernel
theorem dX1_moveNames_83 : decode cX1_moveNames 83 = .ok (.iastore, 1) := by decide +kernel
theorem dX1_moveNames_84 : decode cX1_moveNames 84 = .ok (.aload_n 0, 1) := by decide +kernel
theorem dX1_moveNames_85 : decode cX1_moveNames 85 = .ok (.getfield 15, 3) := by decide +kernel
theorem dX1_moveNames_88 : decode cX1_moveNames 88 = .ok (.iload_n 3, 1) := by decide +kernel
theorem dX1_moveNames_89 : decode cX1_moveNames 89 = .ok (.aload_n 0, 1) := by decide +kernel
theorem dX1_moveNames_90 : decode cX1_moveNames 90 = .ok (.getfield 45, 3) := by decide +kernel
theorem dX1_moveNames_93 : decode cX1_moveNames 93 = .ok (.iload_n 2, 1) := by decide +kernel
theorem dX1_moveNames_94 : decode cX1_moveNames 94 = .ok (.iaload, 1) := by decide +kernel
theorem dX1_moveNames_95 : decode cX1_moveNames 95 = .ok (.iastore, 1) := by decide +kernel
theorem dX1_moveNames_96 : decode cX1_moveNames 96 = .ok (.iinc 2 1, 3) := by decide +kernel
theorem dX1_moveNames_99 : decode cX1_moveNames 99 = .ok (.goto (-51), 3) := by decide +kernel
theorem dX1_moveNames_102 : decode cX1_moveNames 102 = .ok (.iconst 0, 1) := by decide +kernel
theorem dX1_moveNames_103 : decode cX1_moveNames 103 = .ok (.istore_n 2, 1) := by decide +kernel
theorem dX1_moveNames_104 : decode cX1_moveNames 104 = .ok (.iload_n 2, 1) := by decide +kernel
theorem dX1_moveNames_105 : decode cX1_moveNames 105 = .ok (.bipush 40, 2) := by decide +kernel
theorem dX1_moveNames_107 : decode cX1_moveNames 107 = .ok (.if_icmp .ge 34, 3) := by decide +kernel
theorem dX1_moveNames_110 : decode cX1_moveNames 110 = .ok (.aload_n 0, 1) := by decide +kernel
theorem dX1_moveNames_111 : decode cX1_moveNames 111 = .ok (.getfield 9, 3) := by decide +kernel
theorem dX1_moveNames_114 : decode cX1_moveNames 114 = .ok (.iload_n 2, 1) := by decide +kernel
theorem dX1_moveNames_115 : decode cX1_moveNames 115 = .ok (.iaload, 1) := by decide +kernel
theorem dX1_moveNames_116 : decode cX1_moveNames 116 = .ok (.aload_n 0, 1) := by decide +kernel
theorem dX1_moveNames_117 : decode cX1_moveNames 117 = .ok (.getfield 42, 3) := by decide +kernel
theorem dX1_moveNames_120 : decode cX1_moveNames 120 = .ok (.iload_n 2, 1) := by decide +kernel
theorem dX1_moveNames_121 : decode cX1_moveNames 121 = .ok (.iaload, 1) := by decide +kernel
theorem dX1_moveNames_122 : decode cX1_moveNames 122 = .ok (.if_icmp .eq 13, 3) := by decide +kernel
theorem dX1_moveNames_125 : decode cX1_moveNames 125 = .ok (.aload_n 0, 1) := by decide +kernel
theorem dX1_moveNames_126 : decode cX1_moveNames 126 = .ok (.getfield 18, 3) := by decide +kernel
theorem dX1_moveNames_129 : decode cX1_moveNames 129 = .ok (.iload_n 2, 1) := by decide +kernel
theorem dX1_moveNames_130 : decode cX1_moveNames 130 = .ok (.dup2, 1) := by decide +kernel
theorem dX1_moveNames_131 : decode cX1_moveNames 131 = .ok (.iaload, 1) := by decide +kernel
theorem dX1_moveNames_132 : decode cX1_moveNames 132 = .ok (.iconst 1, 1) := by decide +kernel
theorem dX1_moveNames_133 : decode cX1_moveNames 133 = .ok (.iadd, 1) := by decide +kernel
theorem dX1_moveNames_134 : decode cX1_moveNames 134 = .ok (.iastore, 1) := by decide +kernel
theorem dX1_moveNames_135 : decode cX1_moveNames 135 = .ok (.iinc 2 1, 3) := by decide +kernel
theorem dX1_moveNames_138 : decode cX1_moveNames 138 = .ok (.goto (-34), 3) := by decide +kernel
theorem dX1_moveNames_141 : decode cX1_moveNames 141 = .ok (.return_, 1) := by decide +kernel
set_option maxRecDepth 20000 in
theorem ggX1_moveCells_X3_isBelow : GoodIn wsX1_moveCells wsX3_isBelow := goodIn_r _ [5] (by decide +kernel) (by decide +kernel)
set_option maxRecDepth 20000 in
theorem gX1_moveCells_X3_isBelow_n70 : GoodIn wsX1_moveCells (wsX3_isBelow) := ggX1_moveCells_X3_isBelow
theorem dX1_moveCells_0 : decode cX1_moveCells 0 = .ok (.iconst 0, 1) := by decide +kernel
theorem dX1_moveCells_1 : decode cX1_moveCells 1 = .ok (.istore_n 2, 1) := by decide +kernel
theorem dX1_moveCells_2 : decode cX1_moveCells 2 = .ok (.iload_n 2, 1) := by decide +kernel
theorem dX1_moveCells_3 : decode cX1_moveCells 3 = .ok (.aload_n 0, 1) := by decide +kernel
theorem dX1_moveCells_4 : decode cX1_moveCells 4 = .ok (.getfield 21, 3) := by decide +kernel
theorem dX1_moveCells_7 : decode cX1_moveCells 7 = .ok (.arraylength, 1) := by decide +kernel
theorem dX1_moveCells_8 : decode cX1_moveCells 8 = .ok (.if_icmp .ge 42, 3) := by decide +kernel
theorem dX1_moveCells_11 : decode cX1_moveCells 11 = .ok (.aload_n 0, 1) := by decide +kernel
theorem dX1_moveCells_12 : decode cX1_moveCells 12 = .ok (.getfield 21, 3) := by decide +kernel
theorem dX1_moveCells_15 : decode cX1_moveCells 15 = .ok (.iload_n 2, 1) := by decide +kernel
theorem dX1_moveCells_16 : decode cX1_moveCells 16 = .ok (.iaload, 1) := by decide +kernel
theorem dX1_moveCells_17 : decode cX1_moveCells 17 = .ok (.bipush 40, 2) := by decide +kernel
theorem dX1_moveCells_19 : decode cX1_moveCells 19 = .ok (.invokestatic 70, 3) := by decide +kernel
theorem dX1_moveCells_22 : decode cX1_moveCells 22 = .ok (.ifCond .eq 22, 3) := by decide +kernel
theorem dX1_moveCells_25 : decode cX1_moveCells 25 = .ok (.aload_n 0, 1) := by decide +kernel
theorem dX1_moveCells_26 : decode cX1_moveCells 26 = .ok (.getfield 21, 3) := by decide +kernel
theorem dX1_moveCells_29 : decode cX1_moveCells 29 = .ok (.iload_n 2, 1) := by decide +kernel
theorem dX1_moveCells_30 : decode cX1_moveCells 30 = .ok (.aload_n 0, 1) := by decide +kernel
theorem dX1_moveCells_31 : decode cX1_moveCells 31 = .ok (.getfield 36, 3) := by decide +kernel
theorem dX1_moveCells_34 : decode cX1_moveCells 34 = .ok (.iload_n 1, 1) := by decide +kernel
theorem dX1_moveCells_35 : decode cX1_moveCells 35 = .ok (.aload_n 0, 1) := by decide +kernel
theorem dX1_moveCells_36 : decode cX1_moveCells 36 = .ok (.getfield 21, 3) := by decide +kernel
theorem dX1_moveCells_39 : decode cX1_moveCells 39 = .ok (.iload_n 2, 1) := by decide +kernel
theorem dX1_moveCells_40 : decode cX1_moveCells 40 = .ok (.iaload, 1) := by decide +kernel
theorem dX1_moveCells_41 : decode cX1_moveCells 41 = .ok (.iadd, 1) := by decide +kernel
theorem dX1_moveCells_42 : decode cX1_moveCells 42 = .ok (.iaload, 1) := by decide +kernel
theorem dX1_moveCells_43 : decode cX1_moveCells 43 = .ok (.iastore, 1) := by decide +kernel
theorem dX1_moveCells_44 : decode cX1_moveCells 44 = .ok (.iinc 2 1, 3) := by decide +kernel
theorem dX1_moveCells_47 : decode cX1_moveCells 47 = .ok (.goto (-45), 3) := by decide +kernel
theorem dX1_moveCells_50 : decode cX1_moveCells 50 = .ok (.return_, 1) := by decide +kernel
set_option maxRecDepth 20000 in
theorem ggX1_stillStanding_X1_tagIn : GoodIn wsX1_stillStanding wsX1_tagIn := goodIn_r _ [6, 7] (by decide +kernel) (by decide +kernel)
set_option maxRecDepth 20000 in
theorem gX1_stillStanding_X1_tagIn : GoodIn wsX1_stillStanding (va_wsS RX1 74 yX1_tagIn wsX1_tagIn) := goodIn_app (goodIn_of _ (by decide +kernel)) ggX1_stillStanding_X1_tagIn
set_option maxRecDepth 20000 in
theorem ggX1_stillStanding_X1_standing : GoodIn wsX1_stillStanding wsX1_standing := goodIn_r _ [11, 7, 12, 1, 2, 13, 14, 15, 16, 17, 18, 19, 20, 21, 22, 23, 24, 25, 26, 27, 28, 29, 30, 31, 32, 33] (by decide +kernel) (by decide +kernel)
set_option maxRecDepth 20000 in
theorem gX1_stillStanding_X1_standing : GoodIn wsX1_stillStanding (wsV RX1 118 RX1 yX1_standing wsX1_standing) := goodIn_app (goodIn_of _ (by decide +kernel)) ggX1_stillStanding_X1_standing
theorem dX1_stillStanding_0 : decode cX1_stillStanding 0 = .ok (.iload_n 1, 1) := by decide +kernel
theorem dX1_stillStanding_1 : decode cX1_stillStanding 1 = .ok (.ifCond .ge 5, 3) := by decide +kernel
theorem dX1_stillStanding_4 : decode cX1_stillStanding 4 = .ok (.iconst 0, 1) := by decide +kernel
theorem dX1_stillStanding_5 : decode cX1_stillStanding 5 = .ok (.ireturn, 1) := by decide +kernel
theorem dX1_stillStanding_6 : decode cX1_stillStanding 6 = .ok (.iload_n 1, 1) := by decide +kernel
theorem dX1_stillStanding_7 : decode cX1_stillStanding 7 = .ok (.iconst 3, 1) := by decide +kernel
theorem dX1_stillStanding_8 : decode cX1_stillStanding 8 = .ok (.irem, 1) := by decide +kernel
theorem dX1_stillStanding_9 : decode cX1_stillStanding 9 = .ok (.bipush 40, 2) := by decide +kernel
theorem dX1_stillStanding_11 : decode cX1_stillStanding 11 = .ok (.imul, 1) := by decide +kernel
theorem dX1_stillStanding_12 : decode cX1_stillStanding 12 = .ok (.istore_n 2, 1) := by decide +kernel
theorem dX1_stillStanding_13 : decode cX1_stillStanding 13 = .ok (.iconst 0, 1) := by decide +kernel
theorem dX1_stillStanding_14 : decode cX1_stillStanding 14 = .ok (.istore_n 3, 1) := by decide +kernel
theorem dX1_stillStanding_15 : decode cX1_stillStanding 15 = .ok (.iconst 0, 1) := by decide +kernel
theorem dX1_stillStanding_16 : decode cX1_stillStanding 16 = .ok (.istore 4, 2) := by decide +kernel
theorem dX1_stillStanding_18 : decode cX1_stillStanding 18 = .ok (.iload 4, 2) := by decide +kernel
theorem dX1_stillStanding_20 : decode cX1_stillStanding 20 = .ok (.bipush 40, 2) := by decide +kernel
theorem dX1_stillStanding_22 : decode cX1_stillStanding 22 = .ok (.if_icmp .ge 59, 3) := by decide +kernel
theorem dX1_stillStanding_25 : decode cX1_stillStanding 25 = .ok (.aload_n 0, 1) := by decide +kernel
theorem dX1_stillStanding_26 : decode cX1_stillStanding 26 = .ok (.getfield 36, 3) := by decide +kernel
theorem dX1_stillStanding_29 : decode cX1_stillStanding 29 = .ok (.iload_n 2, 1) := by decide +kernel
theorem dX1_stillStanding_30 : decode cX1_stillStanding 30 = .ok (.iload 4, 2) := by decide +kernel
theorem dX1_stillStanding_32 : decode cX1_stillStanding 32 = .ok (.iadd, 1) := by decide +kernel
theorem dX1_stillStanding_33 : decode cX1_stillStanding 33 = .ok (.iaload, 1) := by decide +kernel
theorem dX1_stillStanding_34 : decode cX1_stillStanding 34 = .ok (.iconst (-1), 1) := by decide +kernel
theorem dX1_stillStanding_35 : decode cX1_stillStanding 35 = .ok (.if_icmp .eq 7, 3) := by decide +kernel
theorem dX1_stillStanding_38 : decode cX1_stillStanding 38 = .ok (.iconst 1, 1) := by decide +kernel
theorem dX1_stillStanding_39 : decode cX1_stillStanding 39 = .ok (.goto 4, 3) := by decide +kernel
theorem dX1_stillStanding_42 : decode cX1_stillStanding 42 = .ok (.iconst 0, 1) := by decide +kernel
theorem dX1_stillStanding_43 : decode cX1_stillStanding 43 = .ok (.istore 5, 2) := by decide +kernel
theorem dX1_stillStanding_45 : decode cX1_stillStanding 45 = .ok (.iload 5, 2) := by decide +kernel
theorem dX1_stillStanding_47 : decode cX1_stillStanding 47 = .ok (.ifCond .eq 28, 3) := by decide +kernel
theorem dX1_stillStanding_50 : decode cX1_stillStanding 50 = .ok (.aload_n 0, 1) := by decide +kernel
theorem dX1_stillStanding_51 : decode cX1_stillStanding 51 = .ok (.iload_n 1, 1) := by decide +kernel
theorem dX1_stillStanding_52 : decode cX1_stillStanding 52 = .ok (.aload_n 0, 1) := by decide +kernel
theorem dX1_stillStanding_53 : decode cX1_stillStanding 53 = .ok (.getfield 33, 3) := by decide +kernel
theorem dX1_stillStanding_56 : decode cX1_stillStanding 56 = .ok (.iload_n 2, 1) := by decide +kernel
theorem dX1_stillStanding_57 : decode cX1_stillStanding 57 = .ok (.iload 4, 2) := by decide +kernel
theorem dX1_stillStanding_59 : decode cX1_stillStanding 59 = .ok (.iadd, 1) := by decide +kernel
theorem dX1_stillStanding_60 : decode cX1_stillStanding 60 = .ok (.iaload, 1) := by decide +kernel
theorem dX1_stillStanding_61 : decode cX1_stillStanding 61 = .ok (.iload 4, 2) := by decide +kernel
theorem dX1_stillStanding_63 : decode cX1_stillStanding 63 = .ok (.invokestatic 74, 3) := by decide +kernel
theorem dX1_stillStanding_66 : decode cX1_stillStanding 66 = .ok (.invokevirtual 118, 3) := by decide +kernel
theorem dX1_stillStanding_69 : decode cX1_stillStanding 69 = .ok (.ifCond .lt 6, 3) := by decide +kernel
theorem dX1_stillStanding_72 : decode cX1_stillStanding 72 = .ok (.iinc 3 1, 3) := by decide +kernel
theorem dX1_stillStanding_75 : decode cX1_stillStanding 75 = .ok (.iinc 4 1, 3) := by decide +kernel
theorem dX1_stillStanding_78 : decode cX1_stillStanding 78 = .ok (.goto (-60), 3) := by decide +kernel
theorem dX1_stillStanding_81 : decode cX1_stillStanding 81 = .ok (.iload_n 3, 1) := by decide +kernel
theorem dX1_stillStanding_82 : decode cX1_stillStanding 82 = .ok (.ireturn, 1) := by decide +kernel
theorem dX1_namesBelow_0 : decode cX1_namesBelow 0 = .ok (.iconst 0, 1) := by decide +kernel
theorem dX1_namesBelow_1 : decode cX1_namesBelow 1 = .ok (.istore_n 2, 1) := by decide +kernel
theorem dX1_namesBelow_2 : decode cX1_namesBelow 2 = .ok (.iconst 0, 1) := by decide +kernel
theorem dX1_namesBelow_3 : decode cX1_namesBelow 3 = .ok (.istore_n 3, 1) := by decide +kernel
theorem dX1_namesBelow_4 : decode cX1_namesBelow 4 = .ok (.iload_n 3, 1) := by decide +kernel
theorem dX1_namesBelow_5 : decode cX1_namesBelow 5 = .ok (.bipush 40, 2) := by decide +kernel
theorem dX1_namesBelow_7 : decode cX1_namesBelow 7 = .ok (.if_icmp .ge 26, 3) := by decide +kernel
theorem dX1_namesBelow_10 : decode cX1_namesBelow 10 = .ok (.iload_n 3, 1) := by decide +kernel
theorem dX1_namesBelow_11 : decode cX1_namesBelow 11 = .ok (.iload_n 1, 1) := by decide +kernel
theorem dX1_namesBelow_12 : decode cX1_namesBelow 12 = .ok (.if_icmp .ge 21, 3) := by decide +kernel
theorem dX1_namesBelow_15 : decode cX1_namesBelow 15 = .ok (.aload_n 0, 1) := by decide +kernel
theorem dX1_namesBelow_16 : decode cX1_namesBelow 16 = .ok (.getfield 9, 3) := by decide +kernel
theorem dX1_namesBelow_19 : decode cX1_namesBelow 19 = .ok (.iload_n 3, 1) := by decide +kernel
theorem dX1_namesBelow_20 : decode cX1_namesBelow 20 = .ok (.iaload, 1) := by decide +kernel
theorem dX1_namesBelow_21 : decode cX1_namesBelow 21 = .ok (.ifCond .eq 6, 3) := by decide +kernel
theorem dX1_namesBelow_24 : decode cX1_namesBelow 24 = .ok (.iinc 2 1, 3) := by decide +kernel
theorem dX1_namesBelow_27 : decode cX1_namesBelow 27 = .ok (.iinc 3 1, 3) := by decide +kernel
theorem dX1_namesBelow_30 : decode cX1_namesBelow 30 = .ok (.goto (-26), 3) := by decide +kernel
theorem dX1_namesBelow_33 : decode cX1_namesBelow 33 = .ok (.iload_n 2, 1) := by decide +kernel
theorem dX1_namesBelow_34 : decode cX1_namesBelow 34 = .ok (.ireturn, 1) := by decide +kernel
theorem dX1_usersOfAll_0 : decode cX1_usersOfAll 0 = .ok (.iconst 0, 1) := by decide +kernel
theorem dX1_usersOfAll_1 : decode cX1_usersOfAll 1 = .ok (.istore_n 1, 1) := by decide +kernel
theorem dX1_usersOfAll_2 : decode cX1_usersOfAll 2 = .ok (.iconst 0, 1) := by decide +kernel
theorem dX1_usersOfAll_3 : decode cX1_usersOfAll 3 = .ok (.istore_n 2, 1) := by decide +kernel
theorem dX1_usersOfAll_4 : decode cX1_usersOfAll 4 = .ok (.iload_n 2, 1) := by decide +kernel
theorem dX1_usersOfAll_5 : decode cX1_usersOfAll 5 = .ok (.bipush 40, 2) := by decide +kernel
theorem dX1_usersOfAll_7 : decode cX1_usersOfAll 7 = .ok (.if_icmp .ge 18, 3) := by decide +kernel
theorem dX1_usersOfAll_10 : decode cX1_usersOfAll 10 = .ok (.iload_n 1, 1) := by decide +kernel
theorem dX1_usersOfAll_11 : decode cX1_usersOfAll 11 = .ok (.aload_n 0, 1) := by decide +kernel
theorem dX1_usersOfAll_12 : decode cX1_usersOfAll 12 = .ok (.getfield 15, 3) := by decide +kernel
theorem dX1_usersOfAll_15 : decode cX1_usersOfAll 15 = .ok (.iload_n 2, 1) := by decide +kernel
theorem dX1_usersOfAll_16 : decode cX1_usersOfAll 16 = .ok (.iaload, 1) := by decide +kernel
theorem dX1_usersOfAll_17 : decode cX1_usersOfAll 17 = .ok (.iadd, 1) := by decide +kernel
theorem dX1_usersOfAll_18 : decode cX1_usersOfAll 18 = .ok (.istore_n 1, 1) := by decide +kernel
theorem dX1_usersOfAll_19 : decode cX1_usersOfAll 19 = .ok (.iinc 2 1, 3) := by decide +kernel
theorem dX1_usersOfAll_22 : decode cX1_usersOfAll 22 = .ok (.goto (-18), 3) := by decide +kernel
theorem dX1_usersOfAll_25 : decode cX1_usersOfAll 25 = .ok (.iload_n 1, 1) := by decide +kernel
theorem dX1_usersOfAll_26 : decode cX1_usersOfAll 26 = .ok (.ireturn, 1) := by decide +kernel
theorem dX1_top_0 : decode cX1_top 0 = .ok (.bipush 40, 2) := by decide +kernel
theorem dX1_top_2 : decode cX1_top 2 = .ok (.istore_n 1, 1) := by decide +kernel
theorem dX1_top_3 : decode cX1_top 3 = .ok (.iload_n 1, 1) := by decide +kernel
theorem dX1_top_4 : decode cX1_top 4 = .ok (.ifCond .le 22, 3) := by decide +kernel
theorem dX1_top_7 : decode cX1_top 7 = .ok (.aload_n 0, 1) := by decide +kernel
theorem dX1_top_8 : decode cX1_top 8 = .ok (.getfield 9, 3) := by decide +kernel
theorem dX1_top_11 : decode cX1_top 11 = .ok (.iload_n 1, 1) := by decide +kernel
theorem dX1_top_12 : decode cX1_top 12 = .ok (.iconst 1, 1) := by decide +kernel
theorem dX1_top_13 : decode cX1_top 13 = .ok (.isub, 1) := by decide +kernel
theorem dX1_top_14 : decode cX1_top 14 = .ok (.iaload, 1) := by decide +kernel
theorem dX1_top_15 : decode cX1_top 15 = .ok (.ifCond .eq 5, 3) := by decide +kernel
theorem dX1_top_18 : decode cX1_top 18 = .ok (.iload_n 1, 1) := by decide +kernel
theorem dX1_top_19 : decode cX1_top 19 = .ok (.ireturn, 1) := by decide +kernel
theorem dX1_top_20 : decode cX1_top 20 = .ok (.iinc 1 (-1), 3) := by decide +kernel
theorem dX1_top_23 : decode cX1_top 23 = .ok (.goto (-20), 3) := by decide +kernel
theorem dX1_top_26 : decode cX1_top 26 = .ok (.iconst 0, 1) := by decide +kernel
theorem dX1_top_27 : decode cX1_top 27 = .ok (.ireturn, 1) := by decide +kernel
theorem dX2_init_0 : decode cX2_init 0 = .ok (.aload_n 0, 1) := by decide +kernel
theorem dX2_init_1 : decode cX2_init 1 = .ok (.invokespecial 3, 3) := by decide +kernel
theorem dX2_init_4 : decode cX2_init 4 = .ok (.aload_n 0, 1) := by decide +kernel
theorem dX2_init_5 : decode cX2_init 5 = .ok (.bipush 60, 2) := by decide +kernel
theorem dX2_init_7 : decode cX2_init 7 = .ok (.newarray .char, 2) := by decide +kernel
theorem dX2_init_9 : decode cX2_init 9 = .ok (.putfield 9, 3) := by decide +kernel
theorem dX2_init_12 : decode cX2_init 12 = .ok (.return_, 1) := by decide +kernel
set_option maxRecDepth 20000 in
theorem ggX2_append_X3_isBelow : GoodIn wsX2_append wsX3_isBelow := goodIn_r _ [5] (by decide +kernel) (by decide +kernel)
set_option maxRecDepth 20000 in
theorem gX2_append_X3_isBelow_n19 : GoodIn wsX2_append (wsX3_isBelow) := ggX2_append_X3_isBelow
theorem dX2_append_0 : decode cX2_append 0 = .ok (.aload_n 0, 1) := by decide +kernel
theorem dX2_append_1 : decode cX2_append 1 = .ok (.getfield 15, 3) := by decide +kernel
theorem dX2_append_4 : decode cX2_append 4 = .ok (.bipush 60, 2) := by decide +kernel
theorem dX2_append_6 : decode cX2_append 6 = .ok (.invokestatic 19, 3) := by decide +kernel
theorem dX2_append_9 : decode cX2_append 9 = .ok (.ifCond .eq 23, 3) := by decide +kernel
theorem dX2_append_12 : decode cX2_append 12 = .ok (.aload_n 0, 1) := by decide +kernel
theorem dX2_append_13 : decode cX2_append 13 = .ok (.getfield 9, 3) := by decide +kernel
theorem dX2_append_16 : decode cX2_append 16 = .ok (.aload_n 0, 1) := by decide +kernel
theorem dX2_append_17 : decode cX2_append 17 = .ok (.getfield 15, 3) := by decide +kernel
theorem dX2_append_20 : decode cX2_append 20 = .ok (.iload_n 1, 1) := by decide +kernel
theorem dX2_append_21 : decode cX2_append 21 = .ok (.castore, 1) := by decide +kernel
theorem dX2_append_22 : decode cX2_append 22 = .ok (.aload_n 0, 1) := by decide +kernel
theorem dX2_append_23 : decode cX2_append 23 = .ok (.dup, 1) := by decide +kernel
theorem dX2_append_24 : decode cX2_append 24 = .ok (.getfield 15, 3) := by decide +kernel
theorem dX2_append_27 : decode cX2_append 27 = .ok (.iconst 1, 1) := by decide +kernel
theorem dX2_append_28 : decode cX2_append 28 = .ok (.iadd, 1) := by decide +kernel
theorem dX2_append_29 : decode cX2_append 29 = .ok (.putfield 15, 3) := by decide +kernel
theorem dX2_append_32 : decode cX2_append 32 = .ok (.aload_n 0, 1) := by decide +kernel
theorem dX2_append_33 : decode cX2_append 33 = .ok (.getfield 15, 3) := by decide +kernel
theorem dX2_append_36 : decode cX2_append 36 = .ok (.ireturn, 1) := by decide +kernel
set_option maxRecDepth 20000 in
theorem ggX2_signAt_X3_isBelow : GoodIn wsX2_signAt wsX3_isBelow := goodIn_r _ [5] (by decide +kernel) (by decide +kernel)
set_option maxRecDepth 20000 in
theorem gX2_signAt_X3_isBelow_n19 : GoodIn wsX2_signAt (wsX3_isBelow) := ggX2_signAt_X3_isBelow
theorem dX2_signAt_0 : decode cX2_signAt 0 = .ok (.iload_n 1, 1) := by decide +kernel
theorem dX2_signAt_1 : decode cX2_signAt 1 = .ok (.bipush 60, 2) := by decide +kernel
theorem dX2_signAt_3 : decode cX2_signAt 3 = .ok (.invokestatic 19, 3) := by decide +kernel
theorem dX2_signAt_6 : decode cX2_signAt 6 = .ok (.ifCond .eq 20, 3) := by decide +kernel
theorem dX2_signAt_9 : decode cX2_signAt 9 = .ok (.iload_n 1, 1) := by decide +kernel
theorem dX2_signAt_10 : decode cX2_signAt 10 = .ok (.aload_n 0, 1) := by decide +kernel
theorem dX2_signAt_11 : decode cX2_signAt 11 = .ok (.getfield 15, 3) := by decide +kernel
theorem dX2_signAt_14 : decode cX2_signAt 14 = .ok (.if_icmp .ge 12, 3) := by decide +kernel
theorem dX2_signAt_17 : decode cX2_signAt 17 = .ok (.aload_n 0, 1) := by decide +kernel
theorem dX2_signAt_18 : decode cX2_signAt 18 = .ok (.getfield 9, 3) := by decide +kernel
theorem dX2_signAt_21 : decode cX2_signAt 21 = .ok (.iload_n 1, 1) := by decide +kernel
theorem dX2_signAt_22 : decode cX2_signAt 22 = .ok (.caload, 1) := by decide +kernel
theorem dX2_signAt_23 : decode cX2_signAt 23 = .ok (.goto 4, 3) := by decide +kernel
theorem dX2_signAt_26 : decode cX2_signAt 26 = .ok (.iconst 0, 1) := by decide +kernel
theorem dX2_signAt_27 : decode cX2_signAt 27 = .ok (.ireturn, 1) := by decide +kernel
set_option maxRecDepth 20000 in
theorem ggX3_init_X1_init : GoodIn wsX3_init wsX1_init := goodIn_r _ [19, 20, 2, 3, 21, 22, 23, 24, 25, 26, 27, 28, 29, 30, 31, 32, 33, 34, 35, 36, 37, 49, 50, 51, 52, 53, 54, 55, 56, 57, 58, 59, 60, 61, 62, 63] (by decide +kernel) (by decide +kernel)
set_option maxRecDepth 20000 in
theorem gX3_init_X1_init : GoodIn wsX3_init (wsX1_init) := ggX3_init_X1_init
set_option maxRecDepth 20000 in
theorem ggX3_init_X2_init : GoodIn wsX3_init wsX2_init := goodIn_r _ [39, 40, 2, 3, 41, 42, 69, 70] (by decide +kernel) (by decide +kernel)
set_option maxRecDepth 20000 in
theorem gX3_init_X2_init_n22 : GoodIn wsX3_init (wsX2_init) := ggX3_init_X2_init
set_option maxRecDepth 20000 in
theorem ggX3_init_X0_init : GoodIn wsX3_init wsX0_init := goodIn_r _ [44, 45, 2, 3, 46, 5, 6, 47, 48, 18, 19, 20, 21, 22, 23, 24, 25, 26, 27, 28, 29, 30, 31, 32, 33, 34, 35, 36, 37, 49, 50, 51, 52, 53, 54, 55, 56, 57, 58, 59, 60, 61, 62, 63, 71, 72, 73, 74, 75, 76, 77, 78, 79, 80, 81, 82] (by decide +kernel) (by decide +kernel)
set_option maxRecDepth 20000 in
theorem gX3_init_X0_init_n29 : GoodIn wsX3_init (wsX0_init) := ggX3_init_X0_init
theorem dX3_init_0 : decode cX3_init 0 = .ok (.aload_n 0, 1) := by decide +kernel
theorem dX3_init_1 : decode cX3_init 1 = .ok (.invokespecial 1, 3) := by decide +kernel
theorem dX3_init_4 : decode cX3_init 4 = .ok (.aload_n 0, 1) := by decide +kernel
theorem dX3_init_5 : decode cX3_init 5 = .ok (.new 7, 3) := by decide +kernel
theorem dX3_init_8 : decode cX3_init 8 = .ok (.dup, 1) := by decide +kernel
theorem dX3_init_9 : decode cX3_init 9 = .ok (.invokespecial 9, 3) := by decide +kernel
theorem dX3_init_12 : decode cX3_init 12 = .ok (.putfield 10, 3) := by decide +kernel
theorem dX3_init_15 : decode cX3_init 15 = .ok (.aload_n 0, 1) := by decide +kernel
theorem dX3_init_16 : decode cX3_init 16 = .ok (.iconst 4, 1) := by decide +kernel
theorem dX3_init_17 : decode cX3_init 17 = .ok (.anewarray 7, 3) := by decide +kernel
theorem dX3_init_20 : decode cX3_init 20 = .ok (.putfield 16, 3) := by decide +kernel
theorem dX3_init_23 : decode cX3_init 23 = .ok (.aload_n 0, 1) := by decide +kernel
theorem dX3_init_24 : decode cX3_init 24 = .ok (.new 20, 3) := by decide +kernel
theorem dX3_init_27 : decode cX3_init 27 = .ok (.dup, 1) := by decide +kernel
theorem dX3_init_28 : decode cX3_init 28 = .ok (.invokespecial 22, 3) := by decide +kernel
theorem dX3_init_31 : decode cX3_init 31 = .ok (.putfield 23, 3) := by decide +kernel
theorem dX3_init_34 : decode cX3_init 34 = .ok (.aload_n 0, 1) := by decide +kernel
theorem dX3_init_35 : decode cX3_init 35 = .ok (.new 27, 3) := by decide +kernel
theorem dX3_init_38 : decode cX3_init 38 = .ok (.dup, 1) := by decide +kernel
theorem dX3_init_39 : decode cX3_init 39 = .ok (.invokespecial 29, 3) := by decide +kernel
theorem dX3_init_42 : decode cX3_init 42 = .ok (.putfield 30, 3) := by decide +kernel
theorem dX3_init_45 : decode cX3_init 45 = .ok (.iconst 0, 1) := by decide +kernel
theorem dX3_init_46 : decode cX3_init 46 = .ok (.istore_n 1, 1) := by decide +kernel
theorem dX3_init_47 : decode cX3_init 47 = .ok (.iload_n 1, 1) := by decide +kernel
theorem dX3_init_48 : decode cX3_init 48 = .ok (.iconst 4, 1) := by decide +kernel
theorem dX3_init_49 : decode cX3_init 49 = .ok (.if_icmp .ge 22, 3) := by decide +kernel
theorem dX3_init_52 : decode cX3_init 52 = .ok (.aload_n 0, 1) := by decide +kernel
theorem dX3_init_53 : decode cX3_init 53 = .ok (.getfield 16, 3) := by decide +kernel
theorem dX3_init_56 : decode cX3_init 56 = .ok (.iload_n 1, 1) := by decide +kernel
theorem dX3_init_57 : decode cX3_init 57 = .ok (.new 7, 3) := by decide +kernel
theorem dX3_init_60 : decode cX3_init 60 = .ok (.dup, 1) := by decide +kernel
theorem dX3_init_61 : decode cX3_init 61 = .ok (.invokespecial 9, 3) := by decide +kernel
theorem dX3_init_64 : decode cX3_init 64 = .ok (.aastore, 1) := by decide +kernel
theorem dX3_init_65 : decode cX3_init 65 = .ok (.iinc 1 1, 3) := by decide +kernel
theorem dX3_init_68 : decode cX3_init 68 = .ok (.goto (-21), 3) := by decide +kernel
theorem dX3_init_71 : decode cX3_init 71 = .ok (.return_, 1) := by decide +kernel
set_option maxRecDepth 20000 in
theorem ggX3_acquire_X3_isName : GoodIn wsX3_acquire wsX3_isName := goodIn_r _ [7, 8] (by decide +kernel) (by decide +kernel)
set_option maxRecDepth 20000 in
theorem gX3_acquire_X3_isName : GoodIn wsX3_acquire (va_wsS RX3 34 yX3_isName wsX3_isName) := goodIn_app (goodIn_of _ (by decide +kernel)) ggX3_acquire_X3_isName
set_option maxRecDepth 20000 in
theorem ggX3_acquire_X1_hasRoomFor : GoodIn wsX3_acquire wsX1_hasRoomFor := goodIn_r _ [13, 14, 15, 16, 12, 17, 18, 19, 20, 21, 22, 23, 24, 6, 25, 73, 74, 75, 76, 77, 78, 79, 80, 81, 82, 83, 84, 85, 86, 87] (by decide +kernel) (by decide +kernel)
set_option maxRecDepth 20000 in
theorem gX3_acquire_X1_hasRoomFor : GoodIn wsX3_acquire (wsV RX3 39 RX1 yX1_hasRoomFor wsX1_hasRoomFor) := goodIn_app (goodIn_of _ (by decide +kernel)) ggX3_acquire_X1_hasRoomFor
set_option maxRecDepth 20000 in
theorem ggX3_acquire_X3_recordState : GoodIn wsX3_acquire wsX3_recordState := goodIn_r _ [29, 30, 31, 2, 32, 33, 34, 12, 35, 18, 36, 37, 38, 39, 23, 40, 41, 42, 43, 44, 45, 46, 47, 48, 49, 50, 68, 69, 70, 71, 72, 73, 74, 75, 76, 77, 78, 79, 80, 81, 82, 83, 84, 85, 86, 87] (by decide +kernel) (by decide +kernel)
set_option maxRecDepth 20000 in
theorem gX3_acquire_X3_recordState : GoodIn wsX3_acquire (wsV RX3 43 RX3 yX3_recordState wsX3_recordState) := goodIn_app (goodIn_of _ (by decide +kernel)) ggX3_acquire_X3_recordState
set_option maxRecDepth 20000 in
theorem ggX3_acquire_X1_enter : GoodIn wsX3_acquire wsX1_enter := goodIn_r _ [54, 18, 43, 14, 15, 16, 12, 17, 55, 56, 57, 58, 23, 24, 6, 25, 73, 74, 75, 76, 77, 78, 79, 80, 81, 82, 83, 84, 85, 86, 87] (by decide +kernel) (by decide +kernel)
set_option maxRecDepth 20000 in
theorem gX3_acquire_X1_enter : GoodIn wsX3_acquire (wsV RX3 46 RX1 yX1_enter wsX1_enter) := goodIn_app (goodIn_of _ (by decide +kernel)) ggX3_acquire_X1_enter
set_option maxRecDepth 20000 in
theorem ggX3_acquire_X1_tagOf : GoodIn wsX3_acquire wsX1_tagOf := goodIn_r _ [62, 42, 40, 63, 24, 6, 25, 64, 65, 12, 66, 67, 73, 74, 75, 76, 77, 78, 79, 80, 81, 82, 83, 84, 85, 86, 87] (by decide +kernel) (by decide +kernel)
set_option maxRecDepth 20000 in
theorem gX3_acquire_X1_tagOf : GoodIn wsX3_acquire (wsV RX3 50 RX1 yX1_tagOf wsX1_tagOf) := goodIn_app (goodIn_of _ (by decide +kernel)) ggX3_acquire_X1_tagOf
theorem dX3_acquire_0 : decode cX3_acquire 0 = .ok (.iload_n 1, 1) := by decide +kernel
theorem dX3_acquire_1 : decode cX3_acquire 1 = .ok (.invokestatic 34, 3) := by decide +kernel
theorem dX3_acquire_4 : decode cX3_acquire 4 = .ok (.ifCond .ne 6, 3) := by decide +kernel
theorem dX3_acquire_7 : decode cX3_acquire 7 = .ok (.ldc 38, 2) := by decide +kernel
theorem dX3_acquire_9 : decode cX3_acquire 9 = .ok (.ireturn, 1) := by decide +kernel
theorem dX3_acquire_10 : decode cX3_acquire 10 = .ok (.aload_n 0, 1) := by decide +kernel
theorem dX3_acquire_11 : decode cX3_acquire 11 = .ok (.getfield 10, 3) := by decide +kernel
theorem dX3_acquire_14 : decode cX3_acquire 14 = .ok (.iload_n 1, 1) := by decide +kernel
theorem dX3_acquire_15 : decode cX3_acquire 15 = .ok (.invokevirtual 39, 3) := by decide +kernel
theorem dX3_acquire_18 : decode cX3_acquire 18 = .ok (.ifCond .ne 6, 3) := by decide +kernel
theorem dX3_acquire_21 : decode cX3_acquire 21 = .ok (.ldc 42, 2) := by decide +kernel
theorem dX3_acquire_23 : decode cX3_acquire 23 = .ok (.ireturn, 1) := by decide +kernel
theorem dX3_acquire_24 : decode cX3_acquire 24 = .ok (.aload_n 0, 1) := by decide +kernel
theorem dX3_acquire_25 : decode cX3_acquire 25 = .ok (.invokevirtual 43, 3) := by decide +kernel
theorem dX3_acquire_28 : decode cX3_acquire 28 = .ok (.aload_n 0, 1) := by decide +kernel
theorem dX3_acquire_29 : decode cX3_acquire 29 = .ok (.getfield 10, 3) := by decide +kernel
theorem dX3_acquire_32 : decode cX3_acquire 32 = .ok (.aload_n 0, 1) := by decide +kernel
theorem dX3_acquire_33 : decode cX3_acquire 33 = .ok (.getfield 10, 3) := by decide +kernel
theorem dX3_acquire_36 : decode cX3_acquire 36 = .ok (.iload_n 1, 1) := by decide +kernel
theorem dX3_acquire_37 : decode cX3_acquire 37 = .ok (.invokevirtual 46, 3) := by decide +kernel
theorem dX3_acquire_40 : decode cX3_acquire 40 = .ok (.invokevirtual 50, 3) := by decide +kernel
theorem dX3_acquire_43 : decode cX3_acquire 43 = .ok (.ireturn, 1) := by decide +kernel
set_option maxRecDepth 20000 in
theorem ggX3_use_X1_standing : GoodIn wsX3_use wsX1_standing := goodIn_r _ [8, 9, 10, 11, 12, 13, 14, 15, 16, 17, 18, 53, 54, 55, 56, 57, 58, 59, 60, 61, 62, 63, 64, 65, 66, 67] (by decide +kernel) (by decide +kernel)
set_option maxRecDepth 20000 in
theorem gX3_use_X1_standing : GoodIn wsX3_use (wsV RX3 53 RX1 yX1_standing wsX1_standing) := goodIn_app (goodIn_of _ (by decide +kernel)) ggX3_use_X1_standing
set_option maxRecDepth 20000 in
theorem ggX3_use_X1_hasRoomForUser : GoodIn wsX3_use wsX1_hasRoomForUser := goodIn_r _ [22, 23, 16, 17, 18, 53, 54, 55, 56, 57, 58, 59, 60, 61, 62, 63, 64, 65, 66, 67] (by decide +kernel) (by decide +kernel)
set_option maxRecDepth 20000 in
theorem gX3_use_X1_hasRoomForUser : GoodIn wsX3_use (wsV RX3 57 RX1 yX1_hasRoomForUser wsX1_hasRoomForUser) := goodIn_app (goodIn_of _ (by decide +kernel)) ggX3_use_X1_hasRoomForUser
set_option maxRecDepth 20000 in
theorem ggX3_use_X3_recordState : GoodIn wsX3_use wsX3_recordState := goodIn_r _ [27, 28, 29, 1, 30, 31, 32, 7, 33, 14, 34, 35, 36, 37, 23, 15, 38, 10, 39, 40, 41, 42, 43, 12, 11, 13, 48, 49, 50, 51, 52, 53, 54, 55, 56, 57, 58, 59, 60, 61, 62, 63, 64, 65, 66, 67] (by decide +kernel) (by decide +kernel)
set_option maxRecDepth 20000 in
theorem gX3_use_X3_recordState : GoodIn wsX3_use (wsV RX3 43 RX3 yX3_recordState wsX3_recordState) := goodIn_app (goodIn_of _ (by decide +kernel)) ggX3_use_X3_recordState
set_option maxRecDepth 20000 in
theorem ggX3_use_X1_addUser : GoodIn wsX3_use wsX1_addUser := goodIn_r _ [47, 23, 16, 17, 18, 53, 54, 55, 56, 57, 58, 59, 60, 61, 62, 63, 64, 65, 66, 67] (by decide +kernel) (by decide +kernel)
set_option maxRecDepth 20000 in
theorem gX3_use_X1_addUser : GoodIn wsX3_use (wsV RX3 60 RX1 yX1_addUser wsX1_addUser) := goodIn_app (goodIn_of _ (by decide +kernel)) ggX3_use_X1_addUser
theorem dX3_use_0 : decode cX3_use 0 = .ok (.aload_n 0, 1) := by decide +kernel
theorem dX3_use_1 : decode cX3_use 1 = .ok (.getfield 10, 3) := by decide +kernel
theorem dX3_use_4 : decode cX3_use 4 = .ok (.iload_n 1, 1) := by decide +kernel
theorem dX3_use_5 : decode cX3_use 5 = .ok (.invokevirtual 53, 3) := by decide +kernel
theorem dX3_use_8 : decode cX3_use 8 = .ok (.istore_n 2, 1) := by decide +kernel
theorem dX3_use_9 : decode cX3_use 9 = .ok (.iload_n 2, 1) := by decide +kernel
theorem dX3_use_10 : decode cX3_use 10 = .ok (.ifCond .ge 6, 3) := by decide +kernel
theorem dX3_use_13 : decode cX3_use 13 = .ok (.ldc 56, 2) := by decide +kernel
theorem dX3_use_15 : decode cX3_use 15 = .ok (.ireturn, 1) := by decide +kernel
theorem dX3_use_16 : decode cX3_use 16 = .ok (.aload_n 0, 1) := by decide +kernel
theorem dX3_use_17 : decode cX3_use 17 = .ok (.getfield 10, 3) := by decide +kernel
theorem dX3_use_20 : decode cX3_use 20 = .ok (.iload_n 2, 1) := by decide +kernel
theorem dX3_use_21 : decode cX3_use 21 = .ok (.invokevirtual 57, 3) := by decide +kernel
theorem dX3_use_24 : decode cX3_use 24 = .ok (.ifCond .ne 6, 3) := by decide +kernel
theorem dX3_use_27 : decode cX3_use 27 = .ok (.ldc 42, 2) := by decide +kernel
theorem dX3_use_29 : decode cX3_use 29 = .ok (.ireturn, 1) := by decide +kernel
theorem dX3_use_30 : decode cX3_use 30 = .ok (.aload_n 0, 1) := by decide +kernel
theorem dX3_use_31 : decode cX3_use 31 = .ok (.invokevirtual 43, 3) := by decide +kernel
theorem dX3_use_34 : decode cX3_use 34 = .ok (.aload_n 0, 1) := by decide +kernel
theorem dX3_use_35 : decode cX3_use 35 = .ok (.getfield 10, 3) := by decide +kernel
theorem dX3_use_38 : decode cX3_use 38 = .ok (.iload_n 2, 1) := by decide +kernel
theorem dX3_use_39 : decode cX3_use 39 = .ok (.invokevirtual 60, 3) := by decide +kernel
theorem dX3_use_42 : decode cX3_use 42 = .ok (.ireturn, 1) := by decide +kernel
set_option maxRecDepth 20000 in
theorem ggX3_release_X1_standing : GoodIn wsX3_release wsX1_standing := goodIn_r _ [8, 9, 10, 11, 12, 13, 14, 15, 16, 17, 18, 57, 58, 59, 60, 61, 62, 63, 64, 65, 66, 67, 68, 69, 70, 71] (by decide +kernel) (by decide +kernel)
set_option maxRecDepth 20000 in
theorem gX3_release_X1_standing : GoodIn wsX3_release (wsV RX3 53 RX1 yX1_standing wsX1_standing) := goodIn_app (goodIn_of _ (by decide +kernel)) ggX3_release_X1_standing
set_option maxRecDepth 20000 in
theorem ggX3_release_X1_hasFreeUser : GoodIn wsX3_release wsX1_hasFreeUser := goodIn_r _ [22, 23, 16, 17, 18, 24, 25, 26, 7, 27, 28, 57, 58, 59, 60, 61, 62, 63, 64, 65, 66, 67, 68, 69, 70, 71] (by decide +kernel) (by decide +kernel)
set_option maxRecDepth 20000 in
theorem gX3_release_X1_hasFreeUser : GoodIn wsX3_release (wsV RX3 63 RX1 yX1_hasFreeUser wsX1_hasFreeUser) := goodIn_app (goodIn_of _ (by decide +kernel)) ggX3_release_X1_hasFreeUser
set_option maxRecDepth 20000 in
theorem ggX3_release_X3_recordState : GoodIn wsX3_release wsX3_recordState := goodIn_r _ [32, 33, 34, 1, 35, 36, 37, 7, 38, 14, 39, 40, 41, 42, 23, 15, 28, 10, 43, 44, 45, 46, 47, 12, 11, 13, 52, 53, 54, 55, 56, 57, 58, 59, 60, 61, 62, 63, 64, 65, 66, 67, 68, 69, 70, 71] (by decide +kernel) (by decide +kernel)
set_option maxRecDepth 20000 in
theorem gX3_release_X3_recordState : GoodIn wsX3_release (wsV RX3 43 RX3 yX3_recordState wsX3_recordState) := goodIn_app (goodIn_of _ (by decide +kernel)) ggX3_release_X3_recordState
set_option maxRecDepth 20000 in
theorem ggX3_release_X1_giveBack : GoodIn wsX3_release wsX1_giveBack := goodIn_r _ [51, 23, 14, 15, 44, 16, 17, 18, 57, 58, 59, 60, 61, 62, 63, 64, 65, 66, 67, 68, 69, 70, 71] (by decide +kernel) (by decide +kernel)
set_option maxRecDepth 20000 in
theorem gX3_release_X1_giveBack : GoodIn wsX3_release (wsV RX3 67 RX1 yX1_giveBack wsX1_giveBack) := goodIn_app (goodIn_of _ (by decide +kernel)) ggX3_release_X1_giveBack
end
section
theorem dX3_release_0 : decode cX3_release 0 = .ok (.aload_n 0, 1) := by decide +kernel
theorem dX3_release_1 : decode cX3_release 1 = .ok (.getfield 10, 3) := by decide +kernel
theorem dX3_release_4 : decode cX3_release 4 = .ok (.iload_n 1, 1) := by decide +kernel
theorem dX3_release_5 : decode cX3_release 5 = .ok (.invokevirtual 53, 3) := by decide +kernel
theorem dX3_release_8 : decode cX3_release 8 = .ok (.istore_n 2, 1) := by decide +kernel
theorem dX3_release_9 : decode cX3_release 9 = .ok (.iload_n 2, 1) := by decide +kernel
theorem dX3_release_10 : decode cX3_release 10 = .ok (.ifCond .ge 6, 3) := by decide +kernel
theorem dX3_release_13 : decode cX3_release 13 = .ok (.ldc 56, 2) := by decide +kernel
theorem dX3_release_15 : decode cX3_release 15 = .ok (.ireturn, 1) := by decide +kernel
theorem dX3_release_16 : decode cX3_release 16 = .ok (.aload_n 0, 1) := by decide +kernel
theorem dX3_release_17 : decode cX3_release 17 = .ok (.getfield 10, 3) := by decide +kernel
theorem dX3_release_20 : decode cX3_release 20 = .ok (.iload_n 2, 1) := by decide +kernel
theorem dX3_release_21 : decode cX3_release 21 = .ok (.invokevirtual 63, 3) := by decide +kernel
theorem dX3_release_24 : decode cX3_release 24 = .ok (.ifCond .ne 6, 3) := by decide +kernel
theorem dX3_release_27 : decode cX3_release 27 = .ok (.ldc 66, 2) := by decide +kernel
theorem dX3_release_29 : decode cX3_release 29 = .ok (.ireturn, 1) := by decide +kernel
theorem dX3_release_30 : decode cX3_release 30 = .ok (.aload_n 0, 1) := by decide +kernel
theorem dX3_release_31 : decode cX3_release 31 = .ok (.invokevirtual 43, 3) := by decide +kernel
theorem dX3_release_34 : decode cX3_release 34 = .ok (.aload_n 0, 1) := by decide +kernel
theorem dX3_release_35 : decode cX3_release 35 = .ok (.getfield 10, 3) := by decide +kernel
theorem dX3_release_38 : decode cX3_release 38 = .ok (.iload_n 2, 1) := by decide +kernel
theorem dX3_release_39 : decode cX3_release 39 = .ok (.invokevirtual 67, 3) := by decide +kernel
theorem dX3_release_42 : decode cX3_release 42 = .ok (.ireturn, 1) := by decide +kernel
set_option maxRecDepth 20000 in
theorem ggX3_follow_X1_standing : GoodIn wsX3_follow wsX1_standing := goodIn_r _ [7, 8, 9, 10, 11, 12, 13, 14, 15, 16, 17, 31, 32, 33, 34, 35, 36, 37, 38, 39, 40, 41, 42, 43, 44, 45] (by decide +kernel) (by decide +kernel)
set_option maxRecDepth 20000 in
theorem gX3_follow_X1_standing : GoodIn wsX3_follow (wsV RX3 53 RX1 yX1_standing wsX1_standing) := goodIn_app (goodIn_of _ (by decide +kernel)) ggX3_follow_X1_standing
set_option maxRecDepth 20000 in
theorem ggX3_follow_X1_tagOf : GoodIn wsX3_follow wsX1_tagOf := goodIn_r _ [21, 9, 14, 22, 15, 16, 17, 23, 24, 6, 25, 8, 31, 32, 33, 34, 35, 36, 37, 38, 39, 40, 41, 42, 43, 44, 45] (by decide +kernel) (by decide +kernel)
set_option maxRecDepth 20000 in
theorem gX3_follow_X1_tagOf : GoodIn wsX3_follow (wsV RX3 50 RX1 yX1_tagOf wsX1_tagOf) := goodIn_app (goodIn_of _ (by decide +kernel)) ggX3_follow_X1_tagOf
theorem dX3_follow_0 : decode cX3_follow 0 = .ok (.aload_n 0, 1) := by decide +kernel
theorem dX3_follow_1 : decode cX3_follow 1 = .ok (.getfield 10, 3) := by decide +kernel
theorem dX3_follow_4 : decode cX3_follow 4 = .ok (.iload_n 1, 1) := by decide +kernel
theorem dX3_follow_5 : decode cX3_follow 5 = .ok (.invokevirtual 53, 3) := by decide +kernel
theorem dX3_follow_8 : decode cX3_follow 8 = .ok (.istore_n 2, 1) := by decide +kernel
theorem dX3_follow_9 : decode cX3_follow 9 = .ok (.iload_n 2, 1) := by decide +kernel
theorem dX3_follow_10 : decode cX3_follow 10 = .ok (.ifCond .ge 8, 3) := by decide +kernel
theorem dX3_follow_13 : decode cX3_follow 13 = .ok (.ldc 56, 2) := by decide +kernel
theorem dX3_follow_15 : decode cX3_follow 15 = .ok (.goto 11, 3) := by decide +kernel
theorem dX3_follow_18 : decode cX3_follow 18 = .ok (.aload_n 0, 1) := by decide +kernel
theorem dX3_follow_19 : decode cX3_follow 19 = .ok (.getfield 10, 3) := by decide +kernel
theorem dX3_follow_22 : decode cX3_follow 22 = .ok (.iload_n 2, 1) := by decide +kernel
theorem dX3_follow_23 : decode cX3_follow 23 = .ok (.invokevirtual 50, 3) := by decide +kernel
theorem dX3_follow_26 : decode cX3_follow 26 = .ok (.ireturn, 1) := by decide +kernel
set_option maxRecDepth 20000 in
theorem ggX3_nameOf_X1_standing : GoodIn wsX3_nameOf wsX1_standing := goodIn_r _ [8, 9, 10, 11, 12, 13, 14, 15, 16, 17, 18, 24, 25, 26, 27, 28, 29, 30, 31, 32, 33, 34, 35, 36, 37, 38] (by decide +kernel) (by decide +kernel)
set_option maxRecDepth 20000 in
theorem gX3_nameOf_X1_standing : GoodIn wsX3_nameOf (wsV RX3 53 RX1 yX1_standing wsX1_standing) := goodIn_app (goodIn_of _ (by decide +kernel)) ggX3_nameOf_X1_standing
theorem dX3_nameOf_0 : decode cX3_nameOf 0 = .ok (.aload_n 0, 1) := by decide +kernel
theorem dX3_nameOf_1 : decode cX3_nameOf 1 = .ok (.getfield 10, 3) := by decide +kernel
theorem dX3_nameOf_4 : decode cX3_nameOf 4 = .ok (.iload_n 1, 1) := by decide +kernel
theorem dX3_nameOf_5 : decode cX3_nameOf 5 = .ok (.invokevirtual 53, 3) := by decide +kernel
theorem dX3_nameOf_8 : decode cX3_nameOf 8 = .ok (.istore_n 2, 1) := by decide +kernel
theorem dX3_nameOf_9 : decode cX3_nameOf 9 = .ok (.iload_n 2, 1) := by decide +kernel
theorem dX3_nameOf_10 : decode cX3_nameOf 10 = .ok (.ifCond .ge 8, 3) := by decide +kernel
theorem dX3_nameOf_13 : decode cX3_nameOf 13 = .ok (.ldc 56, 2) := by decide +kernel
theorem dX3_nameOf_15 : decode cX3_nameOf 15 = .ok (.goto 12, 3) := by decide +kernel
theorem dX3_nameOf_18 : decode cX3_nameOf 18 = .ok (.aload_n 0, 1) := by decide +kernel
theorem dX3_nameOf_19 : decode cX3_nameOf 19 = .ok (.getfield 10, 3) := by decide +kernel
theorem dX3_nameOf_22 : decode cX3_nameOf 22 = .ok (.getfield 70, 3) := by decide +kernel
theorem dX3_nameOf_25 : decode cX3_nameOf 25 = .ok (.iload_n 2, 1) := by decide +kernel
theorem dX3_nameOf_26 : decode cX3_nameOf 26 = .ok (.iaload, 1) := by decide +kernel
theorem dX3_nameOf_27 : decode cX3_nameOf 27 = .ok (.ireturn, 1) := by decide +kernel
set_option maxRecDepth 20000 in
theorem ggX3_why_X1_standing : GoodIn wsX3_why wsX1_standing := goodIn_r _ [6, 7, 8, 9, 10, 11, 12, 13, 14, 15, 16, 22, 23, 24, 25, 26, 27, 28, 29, 30, 31, 32, 33, 34, 35, 36] (by decide +kernel) (by decide +kernel)
set_option maxRecDepth 20000 in
theorem gX3_why_X1_standing : GoodIn wsX3_why (wsV RX3 53 RX1 yX1_standing wsX1_standing) := goodIn_app (goodIn_of _ (by decide +kernel)) ggX3_why_X1_standing
theorem dX3_why_0 : decode cX3_why 0 = .ok (.aload_n 0, 1) := by decide +kernel
theorem dX3_why_1 : decode cX3_why 1 = .ok (.getfield 10, 3) := by decide +kernel
theorem dX3_why_4 : decode cX3_why 4 = .ok (.iload_n 1, 1) := by decide +kernel
theorem dX3_why_5 : decode cX3_why 5 = .ok (.invokevirtual 53, 3) := by decide +kernel
theorem dX3_why_8 : decode cX3_why 8 = .ok (.istore_n 2, 1) := by decide +kernel
theorem dX3_why_9 : decode cX3_why 9 = .ok (.iload_n 2, 1) := by decide +kernel
theorem dX3_why_10 : decode cX3_why 10 = .ok (.ifCond .ge 8, 3) := by decide +kernel
theorem dX3_why_13 : decode cX3_why 13 = .ok (.iload_n 2, 1) := by decide +kernel
theorem dX3_why_14 : decode cX3_why 14 = .ok (.ineg, 1) := by decide +kernel
theorem dX3_why_15 : decode cX3_why 15 = .ok (.goto 4, 3) := by decide +kernel
theorem dX3_why_18 : decode cX3_why 18 = .ok (.iconst 0, 1) := by decide +kernel
theorem dX3_why_19 : decode cX3_why 19 = .ok (.ireturn, 1) := by decide +kernel
set_option maxRecDepth 20000 in
theorem ggX3_put_X3_isCell : GoodIn wsX3_put wsX3_isCell := goodIn_r _ [8, 9, 10, 7, 11] (by decide +kernel) (by decide +kernel)
set_option maxRecDepth 20000 in
theorem gX3_put_X3_isCell : GoodIn wsX3_put (va_wsS RX3 74 yX3_isCell wsX3_isCell) := goodIn_app (goodIn_of _ (by decide +kernel)) ggX3_put_X3_isCell
set_option maxRecDepth 20000 in
theorem ggX3_put_X1_standing : GoodIn wsX3_put wsX1_standing := goodIn_r _ [16, 17, 18, 19, 20, 21, 22, 23, 10, 7, 11, 69, 70, 71, 72, 73, 74, 75, 76, 77, 78, 79, 80, 81, 82, 83] (by decide +kernel) (by decide +kernel)
set_option maxRecDepth 20000 in
theorem gX3_put_X1_standing : GoodIn wsX3_put (wsV RX3 53 RX1 yX1_standing wsX1_standing) := goodIn_app (goodIn_of _ (by decide +kernel)) ggX3_put_X1_standing
set_option maxRecDepth 20000 in
theorem ggX3_put_X1_hasRoomForUser : GoodIn wsX3_put wsX1_hasRoomForUser := goodIn_r _ [27, 28, 10, 7, 11, 69, 70, 71, 72, 73, 74, 75, 76, 77, 78, 79, 80, 81, 82, 83] (by decide +kernel) (by decide +kernel)
set_option maxRecDepth 20000 in
theorem gX3_put_X1_hasRoomForUser : GoodIn wsX3_put (wsV RX3 57 RX1 yX1_hasRoomForUser wsX1_hasRoomForUser) := goodIn_app (goodIn_of _ (by decide +kernel)) ggX3_put_X1_hasRoomForUser
set_option maxRecDepth 20000 in
theorem ggX3_put_X3_recordState : GoodIn wsX3_put wsX3_recordState := goodIn_r _ [32, 33, 34, 2, 35, 36, 37, 15, 38, 22, 39, 40, 41, 42, 28, 23, 43, 18, 44, 45, 46, 47, 48, 20, 19, 21, 64, 65, 66, 67, 68, 69, 70, 71, 72, 73, 74, 75, 76, 77, 78, 79, 80, 81, 82, 83] (by decide +kernel) (by decide +kernel)
set_option maxRecDepth 20000 in
theorem gX3_put_X3_recordState : GoodIn wsX3_put (wsV RX3 43 RX3 yX3_recordState wsX3_recordState) := goodIn_app (goodIn_of _ (by decide +kernel)) ggX3_put_X3_recordState
set_option maxRecDepth 20000 in
theorem ggX3_put_X3_cellIndex : GoodIn wsX3_put wsX3_cellIndex := goodIn_r _ [51] (by decide +kernel) (by decide +kernel)
set_option maxRecDepth 20000 in
theorem gX3_put_X3_cellIndex : GoodIn wsX3_put (va_wsS RX3 78 yX3_cellIndex wsX3_cellIndex) := goodIn_app (goodIn_of _ (by decide +kernel)) ggX3_put_X3_cellIndex
set_option maxRecDepth 20000 in
theorem ggX3_put_X1_fillCell : GoodIn wsX3_put wsX1_fillCell := goodIn_r _ [55, 43, 28, 10, 7, 11, 56, 57, 58, 15, 59, 60, 61, 62, 63, 22, 23, 45, 69, 70, 71, 72, 73, 74, 75, 76, 77, 78, 79, 80, 81, 82, 83] (by decide +kernel) (by decide +kernel)
set_option maxRecDepth 20000 in
theorem gX3_put_X1_fillCell : GoodIn wsX3_put (wsV RX3 82 RX1 yX1_fillCell wsX1_fillCell) := goodIn_app (goodIn_of _ (by decide +kernel)) ggX3_put_X1_fillCell
theorem dX3_put_0 : decode cX3_put 0 = .ok (.iload_n 1, 1) := by decide +kernel
theorem dX3_put_1 : decode cX3_put 1 = .ok (.iload_n 2, 1) := by decide +kernel
theorem dX3_put_2 : decode cX3_put 2 = .ok (.invokestatic 74, 3) := by decide +kernel
theorem dX3_put_5 : decode cX3_put 5 = .ok (.ifCond .ne 6, 3) := by decide +kernel
theorem dX3_put_8 : decode cX3_put 8 = .ok (.ldc 38, 2) := by decide +kernel
theorem dX3_put_10 : decode cX3_put 10 = .ok (.ireturn, 1) := by decide +kernel
theorem dX3_put_11 : decode cX3_put 11 = .ok (.aload_n 0, 1) := by decide +kernel
theorem dX3_put_12 : decode cX3_put 12 = .ok (.getfield 10, 3) := by decide +kernel
theorem dX3_put_15 : decode cX3_put 15 = .ok (.iload_n 3, 1) := by decide +kernel
theorem dX3_put_16 : decode cX3_put 16 = .ok (.invokevirtual 53, 3) := by decide +kernel
theorem dX3_put_19 : decode cX3_put 19 = .ok (.istore 4, 2) := by decide +kernel
theorem dX3_put_21 : decode cX3_put 21 = .ok (.iload 4, 2) := by decide +kernel
theorem dX3_put_23 : decode cX3_put 23 = .ok (.ifCond .ge 6, 3) := by decide +kernel
theorem dX3_put_26 : decode cX3_put 26 = .ok (.ldc 56, 2) := by decide +kernel
theorem dX3_put_28 : decode cX3_put 28 = .ok (.ireturn, 1) := by decide +kernel
theorem dX3_put_29 : decode cX3_put 29 = .ok (.aload_n 0, 1) := by decide +kernel
theorem dX3_put_30 : decode cX3_put 30 = .ok (.getfield 10, 3) := by decide +kernel
theorem dX3_put_33 : decode cX3_put 33 = .ok (.iload 4, 2) := by decide +kernel
theorem dX3_put_35 : decode cX3_put 35 = .ok (.invokevirtual 57, 3) := by decide +kernel
theorem dX3_put_38 : decode cX3_put 38 = .ok (.ifCond .ne 6, 3) := by decide +kernel
theorem dX3_put_41 : decode cX3_put 41 = .ok (.ldc 42, 2) := by decide +kernel
theorem dX3_put_43 : decode cX3_put 43 = .ok (.ireturn, 1) := by decide +kernel
theorem dX3_put_44 : decode cX3_put 44 = .ok (.aload_n 0, 1) := by decide +kernel
theorem dX3_put_45 : decode cX3_put 45 = .ok (.invokevirtual 43, 3) := by decide +kernel
theorem dX3_put_48 : decode cX3_put 48 = .ok (.aload_n 0, 1) := by decide +kernel
theorem dX3_put_49 : decode cX3_put 49 = .ok (.getfield 10, 3) := by decide +kernel
theorem dX3_put_52 : decode cX3_put 52 = .ok (.iload_n 1, 1) := by decide +kernel
theorem dX3_put_53 : decode cX3_put 53 = .ok (.iload_n 2, 1) := by decide +kernel
theorem dX3_put_54 : decode cX3_put 54 = .ok (.invokestatic 78, 3) := by decide +kernel
theorem dX3_put_57 : decode cX3_put 57 = .ok (.iload 4, 2) := by decide +kernel
theorem dX3_put_59 : decode cX3_put 59 = .ok (.invokevirtual 82, 3) := by decide +kernel
theorem dX3_put_62 : decode cX3_put 62 = .ok (.ireturn, 1) := by decide +kernel
set_option maxRecDepth 20000 in
theorem ggX3_clear_X3_isCell : GoodIn wsX3_clear wsX3_isCell := goodIn_r _ [8, 9, 10, 7, 11] (by decide +kernel) (by decide +kernel)
set_option maxRecDepth 20000 in
theorem gX3_clear_X3_isCell : GoodIn wsX3_clear (va_wsS RX3 74 yX3_isCell wsX3_isCell) := goodIn_app (goodIn_of _ (by decide +kernel)) ggX3_clear_X3_isCell
set_option maxRecDepth 20000 in
theorem ggX3_clear_X3_cellIndex : GoodIn wsX3_clear wsX3_cellIndex := goodIn_r _ [14] (by decide +kernel) (by decide +kernel)
set_option maxRecDepth 20000 in
theorem gX3_clear_X3_cellIndex : GoodIn wsX3_clear (va_wsS RX3 78 yX3_cellIndex wsX3_cellIndex) := goodIn_app (goodIn_of _ (by decide +kernel)) ggX3_clear_X3_cellIndex
set_option maxRecDepth 20000 in
theorem ggX3_clear_X3_recordState : GoodIn wsX3_clear wsX3_recordState := goodIn_r _ [18, 19, 20, 2, 21, 22, 23, 24, 25, 26, 27, 28, 29, 30, 31, 32, 33, 34, 35, 36, 37, 38, 39, 40, 41, 42, 51, 52, 53, 54, 55, 56, 57, 58, 59, 60, 61, 62, 63, 64, 65, 66, 67, 68, 69, 70] (by decide +kernel) (by decide +kernel)
set_option maxRecDepth 20000 in
theorem gX3_clear_X3_recordState : GoodIn wsX3_clear (wsV RX3 43 RX3 yX3_recordState wsX3_recordState) := goodIn_app (goodIn_of _ (by decide +kernel)) ggX3_clear_X3_recordState
set_option maxRecDepth 20000 in
theorem ggX3_clear_X1_emptyCell : GoodIn wsX3_clear wsX1_emptyCell := goodIn_r _ [46, 33, 10, 7, 11, 47, 48, 49, 24, 50, 31, 26, 32, 36, 56, 57, 58, 59, 60, 61, 62, 63, 64, 65, 66, 67, 68, 69, 70] (by decide +kernel) (by decide +kernel)
set_option maxRecDepth 20000 in
theorem gX3_clear_X1_emptyCell : GoodIn wsX3_clear (wsV RX3 88 RX1 yX1_emptyCell wsX1_emptyCell) := goodIn_app (goodIn_of _ (by decide +kernel)) ggX3_clear_X1_emptyCell
theorem dX3_clear_0 : decode cX3_clear 0 = .ok (.iload_n 1, 1) := by decide +kernel
theorem dX3_clear_1 : decode cX3_clear 1 = .ok (.iload_n 2, 1) := by decide +kernel
theorem dX3_clear_2 : decode cX3_clear 2 = .ok (.invokestatic 74, 3) := by decide +kernel
theorem dX3_clear_5 : decode cX3_clear 5 = .ok (.ifCond .ne 6, 3) := by decide +kernel
theorem dX3_clear_8 : decode cX3_clear 8 = .ok (.ldc 38, 2) := by decide +kernel
theorem dX3_clear_10 : decode cX3_clear 10 = .ok (.ireturn, 1) := by decide +kernel
theorem dX3_clear_11 : decode cX3_clear 11 = .ok (.aload_n 0, 1) := by decide +kernel
theorem dX3_clear_12 : decode cX3_clear 12 = .ok (.getfield 10, 3) := by decide +kernel
theorem dX3_clear_15 : decode cX3_clear 15 = .ok (.getfield 85, 3) := by decide +kernel
theorem dX3_clear_18 : decode cX3_clear 18 = .ok (.iload_n 1, 1) := by decide +kernel
theorem dX3_clear_19 : decode cX3_clear 19 = .ok (.iload_n 2, 1) := by decide +kernel
theorem dX3_clear_20 : decode cX3_clear 20 = .ok (.invokestatic 78, 3) := by decide +kernel
theorem dX3_clear_23 : decode cX3_clear 23 = .ok (.iaload, 1) := by decide +kernel
theorem dX3_clear_24 : decode cX3_clear 24 = .ok (.iconst (-1), 1) := by decide +kernel
theorem dX3_clear_25 : decode cX3_clear 25 = .ok (.if_icmp .ne 6, 3) := by decide +kernel
theorem dX3_clear_28 : decode cX3_clear 28 = .ok (.ldc 66, 2) := by decide +kernel
theorem dX3_clear_30 : decode cX3_clear 30 = .ok (.ireturn, 1) := by decide +kernel
theorem dX3_clear_31 : decode cX3_clear 31 = .ok (.aload_n 0, 1) := by decide +kernel
theorem dX3_clear_32 : decode cX3_clear 32 = .ok (.invokevirtual 43, 3) := by decide +kernel
theorem dX3_clear_35 : decode cX3_clear 35 = .ok (.aload_n 0, 1) := by decide +kernel
theorem dX3_clear_36 : decode cX3_clear 36 = .ok (.getfield 10, 3) := by decide +kernel
theorem dX3_clear_39 : decode cX3_clear 39 = .ok (.iload_n 1, 1) := by decide +kernel
theorem dX3_clear_40 : decode cX3_clear 40 = .ok (.iload_n 2, 1) := by decide +kernel
theorem dX3_clear_41 : decode cX3_clear 41 = .ok (.invokestatic 78, 3) := by decide +kernel
theorem dX3_clear_44 : decode cX3_clear 44 = .ok (.invokevirtual 88, 3) := by decide +kernel
theorem dX3_clear_47 : decode cX3_clear 47 = .ok (.ireturn, 1) := by decide +kernel
set_option maxRecDepth 20000 in
theorem ggX3_cellOf_X3_isCell : GoodIn wsX3_cellOf wsX3_isCell := goodIn_r _ [8, 9, 10, 7, 11] (by decide +kernel) (by decide +kernel)
set_option maxRecDepth 20000 in
theorem gX3_cellOf_X3_isCell : GoodIn wsX3_cellOf (va_wsS RX3 74 yX3_isCell wsX3_isCell) := goodIn_app (goodIn_of _ (by decide +kernel)) ggX3_cellOf_X3_isCell
set_option maxRecDepth 20000 in
theorem ggX3_cellOf_X3_cellIndex : GoodIn wsX3_cellOf wsX3_cellIndex := goodIn_r _ [14] (by decide +kernel) (by decide +kernel)
set_option maxRecDepth 20000 in
theorem gX3_cellOf_X3_cellIndex : GoodIn wsX3_cellOf (va_wsS RX3 78 yX3_cellIndex wsX3_cellIndex) := goodIn_app (goodIn_of _ (by decide +kernel)) ggX3_cellOf_X3_cellIndex
set_option maxRecDepth 20000 in
theorem ggX3_cellOf_X1_tagOf : GoodIn wsX3_cellOf wsX1_tagOf := goodIn_r _ [19, 20, 21, 22, 10, 7, 11, 23, 24, 18, 25, 26, 32, 33, 34, 35, 36, 37, 38, 39, 40, 41, 42, 43, 44, 45, 46] (by decide +kernel) (by decide +kernel)
set_option maxRecDepth 20000 in
theorem gX3_cellOf_X1_tagOf : GoodIn wsX3_cellOf (wsV RX3 50 RX1 yX1_tagOf wsX1_tagOf) := goodIn_app (goodIn_of _ (by decide +kernel)) ggX3_cellOf_X1_tagOf
theorem dX3_cellOf_0 : decode cX3_cellOf 0 = .ok (.iload_n 1, 1) := by decide +kernel
theorem dX3_cellOf_1 : decode cX3_cellOf 1 = .ok (.iload_n 2, 1) := by decide +kernel
theorem dX3_cellOf_2 : decode cX3_cellOf 2 = .ok (.invokestatic 74, 3) := by decide +kernel
theorem dX3_cellOf_5 : decode cX3_cellOf 5 = .ok (.ifCond .ne 6, 3) := by decide +kernel
theorem dX3_cellOf_8 : decode cX3_cellOf 8 = .ok (.ldc 38, 2) := by decide +kernel
theorem dX3_cellOf_10 : decode cX3_cellOf 10 = .ok (.ireturn, 1) := by decide +kernel
theorem dX3_cellOf_11 : decode cX3_cellOf 11 = .ok (.aload_n 0, 1) := by decide +kernel
theorem dX3_cellOf_12 : decode cX3_cellOf 12 = .ok (.getfield 10, 3) := by decide +kernel
theorem dX3_cellOf_15 : decode cX3_cellOf 15 = .ok (.getfield 85, 3) := by decide +kernel
theorem dX3_cellOf_18 : decode cX3_cellOf 18 = .ok (.iload_n 1, 1) := by decide +kernel
theorem dX3_cellOf_19 : decode cX3_cellOf 19 = .ok (.iload_n 2, 1) := by decide +kernel
theorem dX3_cellOf_20 : decode cX3_cellOf 20 = .ok (.invokestatic 78, 3) := by decide +kernel
theorem dX3_cellOf_23 : decode cX3_cellOf 23 = .ok (.iaload, 1) := by decide +kernel
theorem dX3_cellOf_24 : decode cX3_cellOf 24 = .ok (.istore_n 3, 1) := by decide +kernel
theorem dX3_cellOf_25 : decode cX3_cellOf 25 = .ok (.iload_n 3, 1) := by decide +kernel
theorem dX3_cellOf_26 : decode cX3_cellOf 26 = .ok (.iconst (-1), 1) := by decide +kernel
theorem dX3_cellOf_27 : decode cX3_cellOf 27 = .ok (.if_icmp .ne 8, 3) := by decide +kernel
theorem dX3_cellOf_30 : decode cX3_cellOf 30 = .ok (.ldc 91, 2) := by decide +kernel
theorem dX3_cellOf_32 : decode cX3_cellOf 32 = .ok (.goto 11, 3) := by decide +kernel
theorem dX3_cellOf_35 : decode cX3_cellOf 35 = .ok (.aload_n 0, 1) := by decide +kernel
theorem dX3_cellOf_36 : decode cX3_cellOf 36 = .ok (.getfield 10, 3) := by decide +kernel
theorem dX3_cellOf_39 : decode cX3_cellOf 39 = .ok (.iload_n 3, 1) := by decide +kernel
theorem dX3_cellOf_40 : decode cX3_cellOf 40 = .ok (.invokevirtual 50, 3) := by decide +kernel
theorem dX3_cellOf_43 : decode cX3_cellOf 43 = .ok (.ireturn, 1) := by decide +kernel
set_option maxRecDepth 20000 in
theorem ggX3_compact_X3_isBelow : GoodIn wsX3_compact wsX3_isBelow := goodIn_r _ [7] (by decide +kernel) (by decide +kernel)
set_option maxRecDepth 20000 in
theorem gX3_compact_X3_isBelow : GoodIn wsX3_compact (va_wsS RX3 92 yX3_isBelow wsX3_isBelow) := goodIn_app (goodIn_of _ (by decide +kernel)) ggX3_compact_X3_isBelow
set_option maxRecDepth 20000 in
theorem ggX3_compact_X1_hasNextEpoch : GoodIn wsX3_compact wsX1_hasNextEpoch := goodIn_r _ [12, 13, 78, 79, 80, 81, 82, 83, 84, 85, 86, 87, 88, 89, 90, 91, 92] (by decide +kernel) (by decide +kernel)
set_option maxRecDepth 20000 in
theorem gX3_compact_X1_hasNextEpoch : GoodIn wsX3_compact (wsV RX3 95 RX1 yX1_hasNextEpoch wsX1_hasNextEpoch) := goodIn_app (goodIn_of _ (by decide +kernel)) ggX3_compact_X1_hasNextEpoch
set_option maxRecDepth 20000 in
theorem ggX3_compact_X3_recordState : GoodIn wsX3_compact wsX3_recordState := goodIn_r _ [17, 18, 19, 2, 20, 21, 22, 11, 23, 24, 25, 26, 27, 28, 29, 30, 31, 13, 32, 33, 34, 35, 36, 37, 38, 39, 73, 74, 75, 76, 77, 78, 79, 80, 81, 82, 83, 84, 85, 86, 87, 88, 89, 90, 91, 92] (by decide +kernel) (by decide +kernel)
set_option maxRecDepth 20000 in
theorem gX3_compact_X3_recordState : GoodIn wsX3_compact (wsV RX3 43 RX3 yX3_recordState wsX3_recordState) := goodIn_app (goodIn_of _ (by decide +kernel)) ggX3_compact_X3_recordState
set_option maxRecDepth 20000 in
theorem ggX3_compact_X1_giveAnew : GoodIn wsX3_compact wsX1_giveAnew := goodIn_r _ [43, 13, 24, 38, 34, 35, 36, 30, 37, 25, 26, 27, 28, 39, 44, 45, 46, 11, 47, 48, 49, 50, 51, 29, 5, 6, 7, 52, 53, 54, 55, 56, 57, 58, 59, 60, 61, 62, 63, 64, 65, 66, 67, 68, 69, 70, 71, 72, 31, 78, 79, 80, 81, 82, 83, 84, 85, 86, 87, 88, 89, 90, 91, 92] (by decide +kernel) (by decide +kernel)
set_option maxRecDepth 20000 in
theorem gX3_compact_X1_giveAnew : GoodIn wsX3_compact (wsV RX3 99 RX1 yX1_giveAnew wsX1_giveAnew) := goodIn_app (goodIn_of _ (by decide +kernel)) ggX3_compact_X1_giveAnew
theorem dX3_compact_0 : decode cX3_compact 0 = .ok (.iload_n 1, 1) := by decide +kernel
theorem dX3_compact_1 : decode cX3_compact 1 = .ok (.iconst 3, 1) := by decide +kernel
theorem dX3_compact_2 : decode cX3_compact 2 = .ok (.invokestatic 92, 3) := by decide +kernel
theorem dX3_compact_5 : decode cX3_compact 5 = .ok (.ifCond .ne 6, 3) := by decide +kernel
theorem dX3_compact_8 : decode cX3_compact 8 = .ok (.ldc 38, 2) := by decide +kernel
theorem dX3_compact_10 : decode cX3_compact 10 = .ok (.ireturn, 1) := by decide +kernel
theorem dX3_compact_11 : decode cX3_compact 11 = .ok (.aload_n 0, 1) := by decide +kernel
theorem dX3_compact_12 : decode cX3_compact 12 = .ok (.getfield 10, 3) := by decide +kernel
theorem dX3_compact_15 : decode cX3_compact 15 = .ok (.invokevirtual 95, 3) := by decide +kernel
theorem dX3_compact_18 : decode cX3_compact 18 = .ok (.ifCond .ne 6, 3) := by decide +kernel
theorem dX3_compact_21 : decode cX3_compact 21 = .ok (.ldc 42, 2) := by decide +kernel
theorem dX3_compact_23 : decode cX3_compact 23 = .ok (.ireturn, 1) := by decide +kernel
theorem dX3_compact_24 : decode cX3_compact 24 = .ok (.aload_n 0, 1) := by decide +kernel
theorem dX3_compact_25 : decode cX3_compact 25 = .ok (.invokevirtual 43, 3) := by decide +kernel
theorem dX3_compact_28 : decode cX3_compact 28 = .ok (.aload_n 0, 1) := by decide +kernel
theorem dX3_compact_29 : decode cX3_compact 29 = .ok (.getfield 10, 3) := by decide +kernel
theorem dX3_compact_32 : decode cX3_compact 32 = .ok (.iload_n 1, 1) := by decide +kernel
theorem dX3_compact_33 : decode cX3_compact 33 = .ok (.invokevirtual 99, 3) := by decide +kernel
theorem dX3_compact_36 : decode cX3_compact 36 = .ok (.ireturn, 1) := by decide +kernel
set_option maxRecDepth 20000 in
theorem ggX3_numberOf_X3_isBelow : GoodIn wsX3_numberOf wsX3_isBelow := goodIn_r _ [10] (by decide +kernel) (by decide +kernel)
set_option maxRecDepth 20000 in
theorem gX3_numberOf_X3_isBelow : GoodIn wsX3_numberOf (va_wsS RX3 92 yX3_isBelow wsX3_isBelow) := goodIn_app (goodIn_of _ (by decide +kernel)) ggX3_numberOf_X3_isBelow
set_option maxRecDepth 20000 in
theorem ggX3_numberOf_X1_cellsWith : GoodIn wsX3_numberOf wsX1_cellsWith := goodIn_r _ [15, 16, 33, 34, 35, 36, 37, 38, 39, 40, 41, 42, 43, 44, 45, 46, 47] (by decide +kernel) (by decide +kernel)
set_option maxRecDepth 20000 in
theorem gX3_numberOf_X1_cellsWith : GoodIn wsX3_numberOf (wsV RX3 105 RX1 yX1_cellsWith wsX1_cellsWith) := goodIn_app (goodIn_of _ (by decide +kernel)) ggX3_numberOf_X1_cellsWith
set_option maxRecDepth 20000 in
theorem ggX3_numberOf_X1_tagOf : GoodIn wsX3_numberOf wsX1_tagOf := goodIn_r _ [20, 21, 22, 23, 8, 9, 10, 24, 25, 14, 26, 27, 33, 34, 35, 36, 37, 38, 39, 40, 41, 42, 43, 44, 45, 46, 47] (by decide +kernel) (by decide +kernel)
set_option maxRecDepth 20000 in
theorem gX3_numberOf_X1_tagOf : GoodIn wsX3_numberOf (wsV RX3 50 RX1 yX1_tagOf wsX1_tagOf) := goodIn_app (goodIn_of _ (by decide +kernel)) ggX3_numberOf_X1_tagOf
theorem dX3_numberOf_0 : decode cX3_numberOf 0 = .ok (.iload_n 1, 1) := by decide +kernel
theorem dX3_numberOf_1 : decode cX3_numberOf 1 = .ok (.bipush 40, 2) := by decide +kernel
theorem dX3_numberOf_3 : decode cX3_numberOf 3 = .ok (.invokestatic 92, 3) := by decide +kernel
theorem dX3_numberOf_6 : decode cX3_numberOf 6 = .ok (.ifCond .eq 11, 3) := by decide +kernel
theorem dX3_numberOf_9 : decode cX3_numberOf 9 = .ok (.iload_n 2, 1) := by decide +kernel
theorem dX3_numberOf_10 : decode cX3_numberOf 10 = .ok (.iconst 5, 1) := by decide +kernel
theorem dX3_numberOf_11 : decode cX3_numberOf 11 = .ok (.invokestatic 92, 3) := by decide +kernel
theorem dX3_numberOf_14 : decode cX3_numberOf 14 = .ok (.ifCond .ne 6, 3) := by decide +kernel
theorem dX3_numberOf_17 : decode cX3_numberOf 17 = .ok (.ldc 38, 2) := by decide +kernel
theorem dX3_numberOf_19 : decode cX3_numberOf 19 = .ok (.ireturn, 1) := by decide +kernel
theorem dX3_numberOf_20 : decode cX3_numberOf 20 = .ok (.aload_n 0, 1) := by decide +kernel
theorem dX3_numberOf_21 : decode cX3_numberOf 21 = .ok (.getfield 10, 3) := by decide +kernel
theorem dX3_numberOf_24 : decode cX3_numberOf 24 = .ok (.getfield 70, 3) := by decide +kernel
theorem dX3_numberOf_27 : decode cX3_numberOf 27 = .ok (.iload_n 1, 1) := by decide +kernel
theorem dX3_numberOf_28 : decode cX3_numberOf 28 = .ok (.iaload, 1) := by decide +kernel
theorem dX3_numberOf_29 : decode cX3_numberOf 29 = .ok (.ifCond .eq 7, 3) := by decide +kernel
theorem dX3_numberOf_32 : decode cX3_numberOf 32 = .ok (.iconst 1, 1) := by decide +kernel
theorem dX3_numberOf_33 : decode cX3_numberOf 33 = .ok (.goto 4, 3) := by decide +kernel
theorem dX3_numberOf_36 : decode cX3_numberOf 36 = .ok (.iconst 0, 1) := by decide +kernel
theorem dX3_numberOf_37 : decode cX3_numberOf 37 = .ok (.istore_n 3, 1) := by decide +kernel
theorem dX3_numberOf_38 : decode cX3_numberOf 38 = .ok (.iload_n 2, 1) := by decide +kernel
theorem dX3_numberOf_39 : decode cX3_numberOf 39 = .ok (.tableswitch 77 0 3 #[29, 48, 58, 67], 29) := by decide +kernel
theorem dX3_numberOf_68 : decode cX3_numberOf 68 = .ok (.iload_n 3, 1) := by decide +kernel
theorem dX3_numberOf_69 : decode cX3_numberOf 69 = .ok (.ifCond .eq 15, 3) := by decide +kernel
theorem dX3_numberOf_72 : decode cX3_numberOf 72 = .ok (.aload_n 0, 1) := by decide +kernel
theorem dX3_numberOf_73 : decode cX3_numberOf 73 = .ok (.getfield 10, 3) := by decide +kernel
theorem dX3_numberOf_76 : decode cX3_numberOf 76 = .ok (.getfield 70, 3) := by decide +kernel
theorem dX3_numberOf_79 : decode cX3_numberOf 79 = .ok (.iload_n 1, 1) := by decide +kernel
theorem dX3_numberOf_80 : decode cX3_numberOf 80 = .ok (.iaload, 1) := by decide +kernel
theorem dX3_numberOf_81 : decode cX3_numberOf 81 = .ok (.goto 5, 3) := by decide +kernel
theorem dX3_numberOf_84 : decode cX3_numberOf 84 = .ok (.ldc 91, 2) := by decide +kernel
theorem dX3_numberOf_86 : decode cX3_numberOf 86 = .ok (.ireturn, 1) := by decide +kernel
theorem dX3_numberOf_87 : decode cX3_numberOf 87 = .ok (.aload_n 0, 1) := by decide +kernel
theorem dX3_numberOf_88 : decode cX3_numberOf 88 = .ok (.getfield 10, 3) := by decide +kernel
theorem dX3_numberOf_91 : decode cX3_numberOf 91 = .ok (.getfield 102, 3) := by decide +kernel
theorem dX3_numberOf_94 : decode cX3_numberOf 94 = .ok (.iload_n 1, 1) := by decide +kernel
theorem dX3_numberOf_95 : decode cX3_numberOf 95 = .ok (.iaload, 1) := by decide +kernel
theorem dX3_numberOf_96 : decode cX3_numberOf 96 = .ok (.ireturn, 1) := by decide +kernel
theorem dX3_numberOf_97 : decode cX3_numberOf 97 = .ok (.aload_n 0, 1) := by decide +kernel
theorem dX3_numberOf_98 : decode cX3_numberOf 98 = .ok (.getfield 10, 3) := by decide +kernel
theorem dX3_numberOf_101 : decode cX3_numberOf 101 = .ok (.iload_n 1, 1) := by decide +kernel
theorem dX3_numberOf_102 : decode cX3_numberOf 102 = .ok (.invokevirtual 105, 3) := by decide +kernel
theorem dX3_numberOf_105 : decode cX3_numberOf 105 = .ok (.ireturn, 1) := by decide +kernel
theorem dX3_numberOf_106 : decode cX3_numberOf 106 = .ok (.aload_n 0, 1) := by decide +kernel
theorem dX3_numberOf_107 : decode cX3_numberOf 107 = .ok (.getfield 10, 3) := by decide +kernel
theorem dX3_numberOf_110 : decode cX3_numberOf 110 = .ok (.getfield 108, 3) := by decide +kernel
theorem dX3_numberOf_113 : decode cX3_numberOf 113 = .ok (.iload_n 1, 1) := by decide +kernel
theorem dX3_numberOf_114 : decode cX3_numberOf 114 = .ok (.iaload, 1) := by decide +kernel
theorem dX3_numberOf_115 : decode cX3_numberOf 115 = .ok (.ireturn, 1) := by decide +kernel
theorem dX3_numberOf_116 : decode cX3_numberOf 116 = .ok (.iload_n 3, 1) := by decide +kernel
theorem dX3_numberOf_117 : decode cX3_numberOf 117 = .ok (.ifCond .eq 14, 3) := by decide +kernel
theorem dX3_numberOf_120 : decode cX3_numberOf 120 = .ok (.aload_n 0, 1) := by decide +kernel
theorem dX3_numberOf_121 : decode cX3_numberOf 121 = .ok (.getfield 10, 3) := by decide +kernel
theorem dX3_numberOf_124 : decode cX3_numberOf 124 = .ok (.iload_n 1, 1) := by decide +kernel
theorem dX3_numberOf_125 : decode cX3_numberOf 125 = .ok (.invokevirtual 50, 3) := by decide +kernel
theorem dX3_numberOf_128 : decode cX3_numberOf 128 = .ok (.goto 5, 3) := by decide +kernel
theorem dX3_numberOf_131 : decode cX3_numberOf 131 = .ok (.ldc 91, 2) := by decide +kernel
theorem dX3_numberOf_133 : decode cX3_numberOf 133 = .ok (.ireturn, 1) := by decide +kernel
set_option maxRecDepth 20000 in
theorem ggX3_find_X3_isName : GoodIn wsX3_find wsX3_isName := goodIn_r _ [7, 8] (by decide +kernel) (by decide +kernel)
set_option maxRecDepth 20000 in
theorem gX3_find_X3_isName : GoodIn wsX3_find (va_wsS RX3 34 yX3_isName wsX3_isName) := goodIn_app (goodIn_of _ (by decide +kernel)) ggX3_find_X3_isName
set_option maxRecDepth 20000 in
theorem ggX3_find_X1_numberWith : GoodIn wsX3_find wsX1_numberWith := goodIn_r _ [13, 14, 20, 21, 22, 23, 24, 25, 26, 27, 28, 29, 30, 31, 32, 33, 34] (by decide +kernel) (by decide +kernel)
set_option maxRecDepth 20000 in
theorem gX3_find_X1_numberWith : GoodIn wsX3_find (wsV RX3 111 RX1 yX1_numberWith wsX1_numberWith) := goodIn_app (goodIn_of _ (by decide +kernel)) ggX3_find_X1_numberWith
theorem dX3_find_0 : decode cX3_find 0 = .ok (.iload_n 1, 1) := by decide +kernel
theorem dX3_find_1 : decode cX3_find 1 = .ok (.invokestatic 34, 3) := by decide +kernel
theorem dX3_find_4 : decode cX3_find 4 = .ok (.ifCond .ne 6, 3) := by decide +kernel
theorem dX3_find_7 : decode cX3_find 7 = .ok (.ldc 38, 2) := by decide +kernel
theorem dX3_find_9 : decode cX3_find 9 = .ok (.ireturn, 1) := by decide +kernel
theorem dX3_find_10 : decode cX3_find 10 = .ok (.aload_n 0, 1) := by decide +kernel
theorem dX3_find_11 : decode cX3_find 11 = .ok (.getfield 10, 3) := by decide +kernel
theorem dX3_find_14 : decode cX3_find 14 = .ok (.iload_n 1, 1) := by decide +kernel
theorem dX3_find_15 : decode cX3_find 15 = .ok (.invokevirtual 111, 3) := by decide +kernel
theorem dX3_find_18 : decode cX3_find 18 = .ok (.istore_n 2, 1) := by decide +kernel
theorem dX3_find_19 : decode cX3_find 19 = .ok (.iload_n 2, 1) := by decide +kernel
theorem dX3_find_20 : decode cX3_find 20 = .ok (.iconst (-1), 1) := by decide +kernel
theorem dX3_find_21 : decode cX3_find 21 = .ok (.if_icmp .ne 8, 3) := by decide +kernel
theorem dX3_find_24 : decode cX3_find 24 = .ok (.ldc 91, 2) := by decide +kernel
theorem dX3_find_26 : decode cX3_find 26 = .ok (.goto 4, 3) := by decide +kernel
theorem dX3_find_29 : decode cX3_find 29 = .ok (.iload_n 2, 1) := by decide +kernel
theorem dX3_find_30 : decode cX3_find 30 = .ok (.ireturn, 1) := by decide +kernel
set_option maxRecDepth 20000 in
theorem ggX3_nameAt_X3_isBelow : GoodIn wsX3_nameAt wsX3_isBelow := goodIn_r _ [8] (by decide +kernel) (by decide +kernel)
set_option maxRecDepth 20000 in
theorem gX3_nameAt_X3_isBelow : GoodIn wsX3_nameAt (va_wsS RX3 92 yX3_isBelow wsX3_isBelow) := goodIn_app (goodIn_of _ (by decide +kernel)) ggX3_nameAt_X3_isBelow
set_option maxRecDepth 20000 in
theorem ggX3_nameAt_X1_placeOf : GoodIn wsX3_nameAt wsX1_placeOf := goodIn_r _ [13, 14, 15, 16, 17, 12, 18, 19, 6, 7, 8, 20, 21, 22, 28, 29, 30, 31, 32, 33, 34, 35, 36, 37, 38, 39, 40, 41, 42] (by decide +kernel) (by decide +kernel)
set_option maxRecDepth 20000 in
theorem gX3_nameAt_X1_placeOf : GoodIn wsX3_nameAt (wsV RX3 114 RX1 yX1_placeOf wsX1_placeOf) := goodIn_app (goodIn_of _ (by decide +kernel)) ggX3_nameAt_X1_placeOf
theorem dX3_nameAt_0 : decode cX3_nameAt 0 = .ok (.iload_n 1, 1) := by decide +kernel
theorem dX3_nameAt_1 : decode cX3_nameAt 1 = .ok (.iconst 3, 1) := by decide +kernel
theorem dX3_nameAt_2 : decode cX3_nameAt 2 = .ok (.invokestatic 92, 3) := by decide +kernel
theorem dX3_nameAt_5 : decode cX3_nameAt 5 = .ok (.ifCond .eq 7, 3) := by decide +kernel
theorem dX3_nameAt_8 : decode cX3_nameAt 8 = .ok (.iload_n 2, 1) := by decide +kernel
theorem dX3_nameAt_9 : decode cX3_nameAt 9 = .ok (.ifCond .ge 6, 3) := by decide +kernel
theorem dX3_nameAt_12 : decode cX3_nameAt 12 = .ok (.ldc 38, 2) := by decide +kernel
theorem dX3_nameAt_14 : decode cX3_nameAt 14 = .ok (.ireturn, 1) := by decide +kernel
theorem dX3_nameAt_15 : decode cX3_nameAt 15 = .ok (.iconst 0, 1) := by decide +kernel
theorem dX3_nameAt_16 : decode cX3_nameAt 16 = .ok (.istore_n 3, 1) := by decide +kernel
theorem dX3_nameAt_17 : decode cX3_nameAt 17 = .ok (.iload_n 3, 1) := by decide +kernel
theorem dX3_nameAt_18 : decode cX3_nameAt 18 = .ok (.bipush 40, 2) := by decide +kernel
theorem dX3_nameAt_20 : decode cX3_nameAt 20 = .ok (.if_icmp .ge 44, 3) := by decide +kernel
theorem dX3_nameAt_23 : decode cX3_nameAt 23 = .ok (.aload_n 0, 1) := by decide +kernel
theorem dX3_nameAt_24 : decode cX3_nameAt 24 = .ok (.getfield 10, 3) := by decide +kernel
theorem dX3_nameAt_27 : decode cX3_nameAt 27 = .ok (.getfield 70, 3) := by decide +kernel
theorem dX3_nameAt_30 : decode cX3_nameAt 30 = .ok (.iload_n 3, 1) := by decide +kernel
theorem dX3_nameAt_31 : decode cX3_nameAt 31 = .ok (.iaload, 1) := by decide +kernel
theorem dX3_nameAt_32 : decode cX3_nameAt 32 = .ok (.ifCond .eq 26, 3) := by decide +kernel
theorem dX3_nameAt_35 : decode cX3_nameAt 35 = .ok (.aload_n 0, 1) := by decide +kernel
theorem dX3_nameAt_36 : decode cX3_nameAt 36 = .ok (.getfield 10, 3) := by decide +kernel
theorem dX3_nameAt_39 : decode cX3_nameAt 39 = .ok (.iload_n 3, 1) := by decide +kernel
theorem dX3_nameAt_40 : decode cX3_nameAt 40 = .ok (.iload_n 1, 1) := by decide +kernel
theorem dX3_nameAt_41 : decode cX3_nameAt 41 = .ok (.invokevirtual 114, 3) := by decide +kernel
theorem dX3_nameAt_44 : decode cX3_nameAt 44 = .ok (.iload_n 2, 1) := by decide +kernel
theorem dX3_nameAt_45 : decode cX3_nameAt 45 = .ok (.if_icmp .ne 13, 3) := by decide +kernel
theorem dX3_nameAt_48 : decode cX3_nameAt 48 = .ok (.aload_n 0, 1) := by decide +kernel
theorem dX3_nameAt_49 : decode cX3_nameAt 49 = .ok (.getfield 10, 3) := by decide +kernel
theorem dX3_nameAt_52 : decode cX3_nameAt 52 = .ok (.getfield 70, 3) := by decide +kernel
theorem dX3_nameAt_55 : decode cX3_nameAt 55 = .ok (.iload_n 3, 1) := by decide +kernel
theorem dX3_nameAt_56 : decode cX3_nameAt 56 = .ok (.iaload, 1) := by decide +kernel
theorem dX3_nameAt_57 : decode cX3_nameAt 57 = .ok (.ireturn, 1) := by decide +kernel
theorem dX3_nameAt_58 : decode cX3_nameAt 58 = .ok (.iinc 3 1, 3) := by decide +kernel
theorem dX3_nameAt_61 : decode cX3_nameAt 61 = .ok (.goto (-44), 3) := by decide +kernel
theorem dX3_nameAt_64 : decode cX3_nameAt 64 = .ok (.ldc 91, 2) := by decide +kernel
theorem dX3_nameAt_66 : decode cX3_nameAt 66 = .ok (.ireturn, 1) := by decide +kernel
set_option maxRecDepth 20000 in
theorem ggX3_beginning_X3_isName : GoodIn wsX3_beginning wsX3_isName := goodIn_r _ [7, 8] (by decide +kernel) (by decide +kernel)
set_option maxRecDepth 20000 in
theorem gX3_beginning_X3_isName : GoodIn wsX3_beginning (va_wsS RX3 34 yX3_isName wsX3_isName) := goodIn_app (goodIn_of _ (by decide +kernel)) ggX3_beginning_X3_isName
set_option maxRecDepth 20000 in
theorem ggX3_beginning_X3_beginsWith : GoodIn wsX3_beginning wsX3_beginsWith := goodIn_r _ [11] (by decide +kernel) (by decide +kernel)
set_option maxRecDepth 20000 in
theorem gX3_beginning_X3_beginsWith : GoodIn wsX3_beginning (va_wsS RX3 117 yX3_beginsWith wsX3_beginsWith) := goodIn_app (goodIn_of _ (by decide +kernel)) ggX3_beginning_X3_beginsWith
theorem dX3_beginning_0 : decode cX3_beginning 0 = .ok (.iload_n 1, 1) := by decide +kernel
theorem dX3_beginning_1 : decode cX3_beginning 1 = .ok (.invokestatic 34, 3) := by decide +kernel
theorem dX3_beginning_4 : decode cX3_beginning 4 = .ok (.ifCond .ne 6, 3) := by decide +kernel
theorem dX3_beginning_7 : decode cX3_beginning 7 = .ok (.ldc 38, 2) := by decide +kernel
theorem dX3_beginning_9 : decode cX3_beginning 9 = .ok (.ireturn, 1) := by decide +kernel
theorem dX3_beginning_10 : decode cX3_beginning 10 = .ok (.iconst 0, 1) := by decide +kernel
theorem dX3_beginning_11 : decode cX3_beginning 11 = .ok (.istore_n 2, 1) := by decide +kernel
theorem dX3_beginning_12 : decode cX3_beginning 12 = .ok (.iconst 0, 1) := by decide +kernel
theorem dX3_beginning_13 : decode cX3_beginning 13 = .ok (.istore_n 3, 1) := by decide +kernel
theorem dX3_beginning_14 : decode cX3_beginning 14 = .ok (.iload_n 3, 1) := by decide +kernel
theorem dX3_beginning_15 : decode cX3_beginning 15 = .ok (.bipush 40, 2) := by decide +kernel
theorem dX3_beginning_17 : decode cX3_beginning 17 = .ok (.if_icmp .ge 40, 3) := by decide +kernel
theorem dX3_beginning_20 : decode cX3_beginning 20 = .ok (.aload_n 0, 1) := by decide +kernel
theorem dX3_beginning_21 : decode cX3_beginning 21 = .ok (.getfield 10, 3) := by decide +kernel
theorem dX3_beginning_24 : decode cX3_beginning 24 = .ok (.getfield 70, 3) := by decide +kernel
theorem dX3_beginning_27 : decode cX3_beginning 27 = .ok (.iload_n 3, 1) := by decide +kernel
theorem dX3_beginning_28 : decode cX3_beginning 28 = .ok (.iaload, 1) := by decide +kernel
theorem dX3_beginning_29 : decode cX3_beginning 29 = .ok (.ifCond .eq 22, 3) := by decide +kernel
theorem dX3_beginning_32 : decode cX3_beginning 32 = .ok (.aload_n 0, 1) := by decide +kernel
theorem dX3_beginning_33 : decode cX3_beginning 33 = .ok (.getfield 10, 3) := by decide +kernel
theorem dX3_beginning_36 : decode cX3_beginning 36 = .ok (.getfield 70, 3) := by decide +kernel
theorem dX3_beginning_39 : decode cX3_beginning 39 = .ok (.iload_n 3, 1) := by decide +kernel
theorem dX3_beginning_40 : decode cX3_beginning 40 = .ok (.iaload, 1) := by decide +kernel
theorem dX3_beginning_41 : decode cX3_beginning 41 = .ok (.iload_n 1, 1) := by decide +kernel
theorem dX3_beginning_42 : decode cX3_beginning 42 = .ok (.invokestatic 117, 3) := by decide +kernel
theorem dX3_beginning_45 : decode cX3_beginning 45 = .ok (.ifCond .eq 6, 3) := by decide +kernel
theorem dX3_beginning_48 : decode cX3_beginning 48 = .ok (.iinc 2 1, 3) := by decide +kernel
theorem dX3_beginning_51 : decode cX3_beginning 51 = .ok (.iinc 3 1, 3) := by decide +kernel
theorem dX3_beginning_54 : decode cX3_beginning 54 = .ok (.goto (-40), 3) := by decide +kernel
theorem dX3_beginning_57 : decode cX3_beginning 57 = .ok (.iload_n 2, 1) := by decide +kernel
theorem dX3_beginning_58 : decode cX3_beginning 58 = .ok (.ireturn, 1) := by decide +kernel
set_option maxRecDepth 20000 in
theorem ggX3_behind_X3_isName : GoodIn wsX3_behind wsX3_isName := goodIn_r _ [8, 9] (by decide +kernel) (by decide +kernel)
set_option maxRecDepth 20000 in
theorem gX3_behind_X3_isName : GoodIn wsX3_behind (va_wsS RX3 34 yX3_isName wsX3_isName) := goodIn_app (goodIn_of _ (by decide +kernel)) ggX3_behind_X3_isName
set_option maxRecDepth 20000 in
theorem ggX3_behind_X3_orderKey : GoodIn wsX3_behind wsX3_orderKey := goodIn_r _ [12, 13] (by decide +kernel) (by decide +kernel)
set_option maxRecDepth 20000 in
theorem gX3_behind_X3_orderKey : GoodIn wsX3_behind (va_wsS RX3 120 yX3_orderKey wsX3_orderKey) := goodIn_app (goodIn_of _ (by decide +kernel)) ggX3_behind_X3_orderKey
theorem dX3_behind_0 : decode cX3_behind 0 = .ok (.iload_n 1, 1) := by decide +kernel
theorem dX3_behind_1 : decode cX3_behind 1 = .ok (.invokestatic 34, 3) := by decide +kernel
theorem dX3_behind_4 : decode cX3_behind 4 = .ok (.ifCond .ne 6, 3) := by decide +kernel
theorem dX3_behind_7 : decode cX3_behind 7 = .ok (.ldc 38, 2) := by decide +kernel
theorem dX3_behind_9 : decode cX3_behind 9 = .ok (.ireturn, 1) := by decide +kernel
theorem dX3_behind_10 : decode cX3_behind 10 = .ok (.iload_n 1, 1) := by decide +kernel
theorem dX3_behind_11 : decode cX3_behind 11 = .ok (.invokestatic 120, 3) := by decide +kernel
theorem dX3_behind_14 : decode cX3_behind 14 = .ok (.istore_n 2, 1) := by decide +kernel
theorem dX3_behind_15 : decode cX3_behind 15 = .ok (.iconst 0, 1) := by decide +kernel
theorem dX3_behind_16 : decode cX3_behind 16 = .ok (.istore_n 3, 1) := by decide +kernel
theorem dX3_behind_17 : decode cX3_behind 17 = .ok (.iconst 0, 1) := by decide +kernel
theorem dX3_behind_18 : decode cX3_behind 18 = .ok (.istore 4, 2) := by decide +kernel
theorem dX3_behind_20 : decode cX3_behind 20 = .ok (.iload 4, 2) := by decide +kernel
theorem dX3_behind_22 : decode cX3_behind 22 = .ok (.bipush 40, 2) := by decide +kernel
theorem dX3_behind_24 : decode cX3_behind 24 = .ok (.if_icmp .ge 66, 3) := by decide +kernel
theorem dX3_behind_27 : decode cX3_behind 27 = .ok (.aload_n 0, 1) := by decide +kernel
theorem dX3_behind_28 : decode cX3_behind 28 = .ok (.getfield 10, 3) := by decide +kernel
theorem dX3_behind_31 : decode cX3_behind 31 = .ok (.getfield 70, 3) := by decide +kernel
theorem dX3_behind_34 : decode cX3_behind 34 = .ok (.iload 4, 2) := by decide +kernel
theorem dX3_behind_36 : decode cX3_behind 36 = .ok (.iaload, 1) := by decide +kernel
theorem dX3_behind_37 : decode cX3_behind 37 = .ok (.istore 5, 2) := by decide +kernel
theorem dX3_behind_39 : decode cX3_behind 39 = .ok (.iload 5, 2) := by decide +kernel
theorem dX3_behind_41 : decode cX3_behind 41 = .ok (.ifCond .eq 16, 3) := by decide +kernel
theorem dX3_behind_44 : decode cX3_behind 44 = .ok (.iload 5, 2) := by decide +kernel
theorem dX3_behind_46 : decode cX3_behind 46 = .ok (.invokestatic 120, 3) := by decide +kernel
theorem dX3_behind_49 : decode cX3_behind 49 = .ok (.iload_n 2, 1) := by decide +kernel
theorem dX3_behind_50 : decode cX3_behind 50 = .ok (.if_icmp .le 7, 3) := by decide +kernel
theorem dX3_behind_53 : decode cX3_behind 53 = .ok (.iconst 1, 1) := by decide +kernel
theorem dX3_behind_54 : decode cX3_behind 54 = .ok (.goto 4, 3) := by decide +kernel
theorem dX3_behind_57 : decode cX3_behind 57 = .ok (.iconst 0, 1) := by decide +kernel
theorem dX3_behind_58 : decode cX3_behind 58 = .ok (.istore 6, 2) := by decide +kernel
theorem dX3_behind_60 : decode cX3_behind 60 = .ok (.iload 6, 2) := by decide +kernel
theorem dX3_behind_62 : decode cX3_behind 62 = .ok (.ifCond .eq 22, 3) := by decide +kernel
theorem dX3_behind_65 : decode cX3_behind 65 = .ok (.iload_n 3, 1) := by decide +kernel
theorem dX3_behind_66 : decode cX3_behind 66 = .ok (.ifCond .eq 15, 3) := by decide +kernel
theorem dX3_behind_69 : decode cX3_behind 69 = .ok (.iload 5, 2) := by decide +kernel
theorem dX3_behind_71 : decode cX3_behind 71 = .ok (.invokestatic 120, 3) := by decide +kernel
theorem dX3_behind_74 : decode cX3_behind 74 = .ok (.iload_n 3, 1) := by decide +kernel
theorem dX3_behind_75 : decode cX3_behind 75 = .ok (.invokestatic 120, 3) := by decide +kernel
theorem dX3_behind_78 : decode cX3_behind 78 = .ok (.if_icmp .ge 6, 3) := by decide +kernel
theorem dX3_behind_81 : decode cX3_behind 81 = .ok (.iload 5, 2) := by decide +kernel
theorem dX3_behind_83 : decode cX3_behind 83 = .ok (.istore_n 3, 1) := by decide +kernel
theorem dX3_behind_84 : decode cX3_behind 84 = .ok (.iinc 4 1, 3) := by decide +kernel
theorem dX3_behind_87 : decode cX3_behind 87 = .ok (.goto (-67), 3) := by decide +kernel
theorem dX3_behind_90 : decode cX3_behind 90 = .ok (.iload_n 3, 1) := by decide +kernel
theorem dX3_behind_91 : decode cX3_behind 91 = .ok (.ifCond .ne 8, 3) := by decide +kernel
theorem dX3_behind_94 : decode cX3_behind 94 = .ok (.ldc 91, 2) := by decide +kernel
theorem dX3_behind_96 : decode cX3_behind 96 = .ok (.goto 4, 3) := by decide +kernel
theorem dX3_behind_99 : decode cX3_behind 99 = .ok (.iload_n 3, 1) := by decide +kernel
theorem dX3_behind_100 : decode cX3_behind 100 = .ok (.ireturn, 1) := by decide +kernel
set_option maxRecDepth 20000 in
theorem ggX3_wouldBe_X3_isBelow : GoodIn wsX3_wouldBe wsX3_isBelow := goodIn_r _ [8] (by decide +kernel) (by decide +kernel)
set_option maxRecDepth 20000 in
theorem gX3_wouldBe_X3_isBelow : GoodIn wsX3_wouldBe (va_wsS RX3 92 yX3_isBelow wsX3_isBelow) := goodIn_app (goodIn_of _ (by decide +kernel)) ggX3_wouldBe_X3_isBelow
set_option maxRecDepth 20000 in
theorem ggX3_wouldBe_X1_placeOf : GoodIn wsX3_wouldBe wsX1_placeOf := goodIn_r _ [13, 14, 15, 16, 17, 12, 18, 19, 6, 7, 8, 20, 21, 22, 28, 29, 30, 31, 32, 33, 34, 35, 36, 37, 38, 39, 40, 41, 42] (by decide +kernel) (by decide +kernel)
set_option maxRecDepth 20000 in
theorem gX3_wouldBe_X1_placeOf : GoodIn wsX3_wouldBe (wsV RX3 114 RX1 yX1_placeOf wsX1_placeOf) := goodIn_app (goodIn_of _ (by decide +kernel)) ggX3_wouldBe_X1_placeOf
theorem dX3_wouldBe_0 : decode cX3_wouldBe 0 = .ok (.iload_n 1, 1) := by decide +kernel
theorem dX3_wouldBe_1 : decode cX3_wouldBe 1 = .ok (.bipush 40, 2) := by decide +kernel
theorem dX3_wouldBe_3 : decode cX3_wouldBe 3 = .ok (.invokestatic 92, 3) := by decide +kernel
theorem dX3_wouldBe_6 : decode cX3_wouldBe 6 = .ok (.ifCond .eq 11, 3) := by decide +kernel
theorem dX3_wouldBe_9 : decode cX3_wouldBe 9 = .ok (.iload_n 2, 1) := by decide +kernel
theorem dX3_wouldBe_10 : decode cX3_wouldBe 10 = .ok (.iconst 3, 1) := by decide +kernel
theorem dX3_wouldBe_11 : decode cX3_wouldBe 11 = .ok (.invokestatic 92, 3) := by decide +kernel
theorem dX3_wouldBe_14 : decode cX3_wouldBe 14 = .ok (.ifCond .ne 6, 3) := by decide +kernel
theorem dX3_wouldBe_17 : decode cX3_wouldBe 17 = .ok (.ldc 38, 2) := by decide +kernel
theorem dX3_wouldBe_19 : decode cX3_wouldBe 19 = .ok (.ireturn, 1) := by decide +kernel
theorem dX3_wouldBe_20 : decode cX3_wouldBe 20 = .ok (.aload_n 0, 1) := by decide +kernel
theorem dX3_wouldBe_21 : decode cX3_wouldBe 21 = .ok (.getfield 10, 3) := by decide +kernel
theorem dX3_wouldBe_24 : decode cX3_wouldBe 24 = .ok (.getfield 70, 3) := by decide +kernel
theorem dX3_wouldBe_27 : decode cX3_wouldBe 27 = .ok (.iload_n 1, 1) := by decide +kernel
theorem dX3_wouldBe_28 : decode cX3_wouldBe 28 = .ok (.iaload, 1) := by decide +kernel
theorem dX3_wouldBe_29 : decode cX3_wouldBe 29 = .ok (.ifCond .ne 8, 3) := by decide +kernel
theorem dX3_wouldBe_32 : decode cX3_wouldBe 32 = .ok (.ldc 91, 2) := by decide +kernel
theorem dX3_wouldBe_34 : decode cX3_wouldBe 34 = .ok (.goto 12, 3) := by decide +kernel
theorem dX3_wouldBe_37 : decode cX3_wouldBe 37 = .ok (.aload_n 0, 1) := by decide +kernel
theorem dX3_wouldBe_38 : decode cX3_wouldBe 38 = .ok (.getfield 10, 3) := by decide +kernel
theorem dX3_wouldBe_41 : decode cX3_wouldBe 41 = .ok (.iload_n 1, 1) := by decide +kernel
theorem dX3_wouldBe_42 : decode cX3_wouldBe 42 = .ok (.iload_n 2, 1) := by decide +kernel
theorem dX3_wouldBe_43 : decode cX3_wouldBe 43 = .ok (.invokevirtual 114, 3) := by decide +kernel
theorem dX3_wouldBe_46 : decode cX3_wouldBe 46 = .ok (.ireturn, 1) := by decide +kernel
set_option maxRecDepth 20000 in
theorem ggX3_compaction_X3_isBelow : GoodIn wsX3_compaction wsX3_isBelow := goodIn_r _ [11] (by decide +kernel) (by decide +kernel)
set_option maxRecDepth 20000 in
theorem gX3_compaction_X3_isBelow : GoodIn wsX3_compaction (va_wsS RX3 92 yX3_isBelow wsX3_isBelow) := goodIn_app (goodIn_of _ (by decide +kernel)) ggX3_compaction_X3_isBelow
set_option maxRecDepth 20000 in
theorem ggX3_compaction_X1_stillStanding : GoodIn wsX3_compaction wsX1_stillStanding := goodIn_r _ [16, 17, 18, 19, 20, 15, 21, 22, 23, 24, 25, 26, 27, 28, 29, 30, 9, 10, 11, 36, 37, 38, 39, 40, 41, 42, 43, 44, 45, 46, 47, 48, 49, 50] (by decide +kernel) (by decide +kernel)
set_option maxRecDepth 20000 in
theorem gX3_compaction_X1_stillStanding : GoodIn wsX3_compaction (wsV RX3 136 RX1 yX1_stillStanding wsX1_stillStanding) := goodIn_app (goodIn_of _ (by decide +kernel)) ggX3_compaction_X1_stillStanding
theorem dX3_compaction_0 : decode cX3_compaction 0 = .ok (.iload_n 1, 1) := by decide +kernel
theorem dX3_compaction_1 : decode cX3_compaction 1 = .ok (.iconst 3, 1) := by decide +kernel
theorem dX3_compaction_2 : decode cX3_compaction 2 = .ok (.invokestatic 92, 3) := by decide +kernel
theorem dX3_compaction_5 : decode cX3_compaction 5 = .ok (.ifCond .eq 11, 3) := by decide +kernel
theorem dX3_compaction_8 : decode cX3_compaction 8 = .ok (.iload_n 2, 1) := by decide +kernel
theorem dX3_compaction_9 : decode cX3_compaction 9 = .ok (.iconst 4, 1) := by decide +kernel
theorem dX3_compaction_10 : decode cX3_compaction 10 = .ok (.invokestatic 92, 3) := by decide +kernel
theorem dX3_compaction_13 : decode cX3_compaction 13 = .ok (.ifCond .ne 6, 3) := by decide +kernel
theorem dX3_compaction_16 : decode cX3_compaction 16 = .ok (.ldc 38, 2) := by decide +kernel
theorem dX3_compaction_18 : decode cX3_compaction 18 = .ok (.ireturn, 1) := by decide +kernel
theorem dX3_compaction_19 : decode cX3_compaction 19 = .ok (.iload_n 1, 1) := by decide +kernel
theorem dX3_compaction_20 : decode cX3_compaction 20 = .ok (.aload_n 0, 1) := by decide +kernel
theorem dX3_compaction_21 : decode cX3_compaction 21 = .ok (.getfield 10, 3) := by decide +kernel
theorem dX3_compaction_24 : decode cX3_compaction 24 = .ok (.getfield 123, 3) := by decide +kernel
theorem dX3_compaction_27 : decode cX3_compaction 27 = .ok (.if_icmp .lt 6, 3) := by decide +kernel
theorem dX3_compaction_30 : decode cX3_compaction 30 = .ok (.ldc 91, 2) := by decide +kernel
theorem dX3_compaction_32 : decode cX3_compaction 32 = .ok (.ireturn, 1) := by decide +kernel
theorem dX3_compaction_33 : decode cX3_compaction 33 = .ok (.aload_n 0, 1) := by decide +kernel
theorem dX3_compaction_34 : decode cX3_compaction 34 = .ok (.getfield 10, 3) := by decide +kernel
theorem dX3_compaction_37 : decode cX3_compaction 37 = .ok (.getfield 123, 3) := by decide +kernel
theorem dX3_compaction_40 : decode cX3_compaction 40 = .ok (.iconst 1, 1) := by decide +kernel
theorem dX3_compaction_41 : decode cX3_compaction 41 = .ok (.isub, 1) := by decide +kernel
theorem dX3_compaction_42 : decode cX3_compaction 42 = .ok (.iload_n 1, 1) := by decide +kernel
theorem dX3_compaction_43 : decode cX3_compaction 43 = .ok (.isub, 1) := by decide +kernel
theorem dX3_compaction_44 : decode cX3_compaction 44 = .ok (.istore_n 3, 1) := by decide +kernel
theorem dX3_compaction_45 : decode cX3_compaction 45 = .ok (.iload_n 2, 1) := by decide +kernel
theorem dX3_compaction_46 : decode cX3_compaction 46 = .ok (.tableswitch 62 0 2 #[26, 38, 50], 26) := by decide +kernel
theorem dX3_compaction_72 : decode cX3_compaction 72 = .ok (.aload_n 0, 1) := by decide +kernel
theorem dX3_compaction_73 : decode cX3_compaction 73 = .ok (.getfield 10, 3) := by decide +kernel
theorem dX3_compaction_76 : decode cX3_compaction 76 = .ok (.getfield 127, 3) := by decide +kernel
theorem dX3_compaction_79 : decode cX3_compaction 79 = .ok (.iload_n 3, 1) := by decide +kernel
theorem dX3_compaction_80 : decode cX3_compaction 80 = .ok (.iconst 3, 1) := by decide +kernel
theorem dX3_compaction_81 : decode cX3_compaction 81 = .ok (.irem, 1) := by decide +kernel
theorem dX3_compaction_82 : decode cX3_compaction 82 = .ok (.iaload, 1) := by decide +kernel
theorem dX3_compaction_83 : decode cX3_compaction 83 = .ok (.ireturn, 1) := by decide +kernel
theorem dX3_compaction_84 : decode cX3_compaction 84 = .ok (.aload_n 0, 1) := by decide +kernel
theorem dX3_compaction_85 : decode cX3_compaction 85 = .ok (.getfield 10, 3) := by decide +kernel
theorem dX3_compaction_88 : decode cX3_compaction 88 = .ok (.getfield 130, 3) := by decide +kernel
theorem dX3_compaction_91 : decode cX3_compaction 91 = .ok (.iload_n 3, 1) := by decide +kernel
theorem dX3_compaction_92 : decode cX3_compaction 92 = .ok (.iconst 3, 1) := by decide +kernel
theorem dX3_compaction_93 : decode cX3_compaction 93 = .ok (.irem, 1) := by decide +kernel
theorem dX3_compaction_94 : decode cX3_compaction 94 = .ok (.iaload, 1) := by decide +kernel
theorem dX3_compaction_95 : decode cX3_compaction 95 = .ok (.ireturn, 1) := by decide +kernel
theorem dX3_compaction_96 : decode cX3_compaction 96 = .ok (.aload_n 0, 1) := by decide +kernel
theorem dX3_compaction_97 : decode cX3_compaction 97 = .ok (.getfield 10, 3) := by decide +kernel
theorem dX3_compaction_100 : decode cX3_compaction 100 = .ok (.getfield 133, 3) := by decide +kernel
theorem dX3_compaction_103 : decode cX3_compaction 103 = .ok (.iload_n 3, 1) := by decide +kernel
theorem dX3_compaction_104 : decode cX3_compaction 104 = .ok (.iconst 3, 1) := by decide +kernel
theorem dX3_compaction_105 : decode cX3_compaction 105 = .ok (.irem, 1) := by decide +kernel
theorem dX3_compaction_106 : decode cX3_compaction 106 = .ok (.iaload, 1) := by decide +kernel
theorem dX3_compaction_107 : decode cX3_compaction 107 = .ok (.ireturn, 1) := by decide +kernel
theorem dX3_compaction_108 : decode cX3_compaction 108 = .ok (.aload_n 0, 1) := by decide +kernel
theorem dX3_compaction_109 : decode cX3_compaction 109 = .ok (.getfield 10, 3) := by decide +kernel
theorem dX3_compaction_112 : decode cX3_compaction 112 = .ok (.iload_n 3, 1) := by decide +kernel
theorem dX3_compaction_113 : decode cX3_compaction 113 = .ok (.invokevirtual 136, 3) := by decide +kernel
theorem dX3_compaction_116 : decode cX3_compaction 116 = .ok (.ireturn, 1) := by decide +kernel
set_option maxRecDepth 20000 in
theorem ggX3_count_X1_namesBelow : GoodIn wsX3_count wsX1_namesBelow := goodIn_r _ [18, 19, 39, 40, 41, 42, 43, 44, 45, 46, 47, 48, 49, 50, 51, 52, 53] (by decide +kernel) (by decide +kernel)
set_option maxRecDepth 20000 in
theorem gX3_count_X1_namesBelow : GoodIn wsX3_count (wsV RX3 139 RX1 yX1_namesBelow wsX1_namesBelow) := goodIn_app (goodIn_of _ (by decide +kernel)) ggX3_count_X1_namesBelow
set_option maxRecDepth 20000 in
theorem ggX3_count_X1_usersOfAll : GoodIn wsX3_count wsX1_usersOfAll := goodIn_r _ [23, 24, 39, 40, 41, 42, 43, 44, 45, 46, 47, 48, 49, 50, 51, 52, 53] (by decide +kernel) (by decide +kernel)
set_option maxRecDepth 20000 in
theorem gX3_count_X1_usersOfAll : GoodIn wsX3_count (wsV RX3 142 RX1 yX1_usersOfAll wsX1_usersOfAll) := goodIn_app (goodIn_of _ (by decide +kernel)) ggX3_count_X1_usersOfAll
set_option maxRecDepth 20000 in
theorem ggX3_count_X1_cellsWith : GoodIn wsX3_count wsX1_cellsWith := goodIn_r _ [28, 29, 39, 40, 41, 42, 43, 44, 45, 46, 47, 48, 49, 50, 51, 52, 53] (by decide +kernel) (by decide +kernel)
set_option maxRecDepth 20000 in
theorem gX3_count_X1_cellsWith : GoodIn wsX3_count (wsV RX3 105 RX1 yX1_cellsWith wsX1_cellsWith) := goodIn_app (goodIn_of _ (by decide +kernel)) ggX3_count_X1_cellsWith
set_option maxRecDepth 20000 in
theorem ggX3_count_X1_top : GoodIn wsX3_count wsX1_top := goodIn_r _ [33, 19, 39, 40, 41, 42, 43, 44, 45, 46, 47, 48, 49, 50, 51, 52, 53] (by decide +kernel) (by decide +kernel)
set_option maxRecDepth 20000 in
theorem gX3_count_X1_top : GoodIn wsX3_count (wsV RX3 146 RX1 yX1_top wsX1_top) := goodIn_app (goodIn_of _ (by decide +kernel)) ggX3_count_X1_top
theorem dX3_count_0 : decode cX3_count 0 = .ok (.iload_n 1, 1) := by decide +kernel
theorem dX3_count_1 : decode cX3_count 1 = .ok (.tableswitch 175 0 10 #[59, 69, 77, 95, 103, 111, 134, 142, 150, 162, 167], 59) := by decide +kernel
theorem dX3_count_60 : decode cX3_count 60 = .ok (.aload_n 0, 1) := by decide +kernel
theorem dX3_count_61 : decode cX3_count 61 = .ok (.getfield 10, 3) := by decide +kernel
theorem dX3_count_64 : decode cX3_count 64 = .ok (.bipush 40, 2) := by decide +kernel
theorem dX3_count_66 : decode cX3_count 66 = .ok (.invokevirtual 139, 3) := by decide +kernel
theorem dX3_count_69 : decode cX3_count 69 = .ok (.ireturn, 1) := by decide +kernel
theorem dX3_count_70 : decode cX3_count 70 = .ok (.aload_n 0, 1) := by decide +kernel
theorem dX3_count_71 : decode cX3_count 71 = .ok (.getfield 10, 3) := by decide +kernel
theorem dX3_count_74 : decode cX3_count 74 = .ok (.invokevirtual 142, 3) := by decide +kernel
theorem dX3_count_77 : decode cX3_count 77 = .ok (.ireturn, 1) := by decide +kernel
theorem dX3_count_78 : decode cX3_count 78 = .ok (.aload_n 0, 1) := by decide +kernel
theorem dX3_count_79 : decode cX3_count 79 = .ok (.getfield 10, 3) := by decide +kernel
theorem dX3_count_82 : decode cX3_count 82 = .ok (.getfield 85, 3) := by decide +kernel
theorem dX3_count_85 : decode cX3_count 85 = .ok (.arraylength, 1) := by decide +kernel
theorem dX3_count_86 : decode cX3_count 86 = .ok (.aload_n 0, 1) := by decide +kernel
theorem dX3_count_87 : decode cX3_count 87 = .ok (.getfield 10, 3) := by decide +kernel
theorem dX3_count_90 : decode cX3_count 90 = .ok (.iconst (-1), 1) := by decide +kernel
theorem dX3_count_91 : decode cX3_count 91 = .ok (.invokevirtual 105, 3) := by decide +kernel
theorem dX3_count_94 : decode cX3_count 94 = .ok (.isub, 1) := by decide +kernel
theorem dX3_count_95 : decode cX3_count 95 = .ok (.ireturn, 1) := by decide +kernel
theorem dX3_count_96 : decode cX3_count 96 = .ok (.aload_n 0, 1) := by decide +kernel
theorem dX3_count_97 : decode cX3_count 97 = .ok (.getfield 10, 3) := by decide +kernel
theorem dX3_count_100 : decode cX3_count 100 = .ok (.getfield 123, 3) := by decide +kernel
theorem dX3_count_103 : decode cX3_count 103 = .ok (.ireturn, 1) := by decide +kernel
theorem dX3_count_104 : decode cX3_count 104 = .ok (.aload_n 0, 1) := by decide +kernel
theorem dX3_count_105 : decode cX3_count 105 = .ok (.getfield 10, 3) := by decide +kernel
theorem dX3_count_108 : decode cX3_count 108 = .ok (.invokevirtual 146, 3) := by decide +kernel
theorem dX3_count_111 : decode cX3_count 111 = .ok (.ireturn, 1) := by decide +kernel
theorem dX3_count_112 : decode cX3_count 112 = .ok (.aload_n 0, 1) := by decide +kernel
theorem dX3_count_113 : decode cX3_count 113 = .ok (.getfield 10, 3) := by decide +kernel
theorem dX3_count_116 : decode cX3_count 116 = .ok (.invokevirtual 146, 3) := by decide +kernel
theorem dX3_count_119 : decode cX3_count 119 = .ok (.aload_n 0, 1) := by decide +kernel
theorem dX3_count_120 : decode cX3_count 120 = .ok (.getfield 10, 3) := by decide +kernel
theorem dX3_count_123 : decode cX3_count 123 = .ok (.aload_n 0, 1) := by decide +kernel
theorem dX3_count_124 : decode cX3_count 124 = .ok (.getfield 10, 3) := by decide +kernel
theorem dX3_count_127 : decode cX3_count 127 = .ok (.invokevirtual 146, 3) := by decide +kernel
theorem dX3_count_130 : decode cX3_count 130 = .ok (.invokevirtual 139, 3) := by decide +kernel
theorem dX3_count_133 : decode cX3_count 133 = .ok (.isub, 1) := by decide +kernel
theorem dX3_count_134 : decode cX3_count 134 = .ok (.ireturn, 1) := by decide +kernel
theorem dX3_count_135 : decode cX3_count 135 = .ok (.aload_n 0, 1) := by decide +kernel
theorem dX3_count_136 : decode cX3_count 136 = .ok (.getfield 10, 3) := by decide +kernel
theorem dX3_count_139 : decode cX3_count 139 = .ok (.getfield 149, 3) := by decide +kernel
theorem dX3_count_142 : decode cX3_count 142 = .ok (.ireturn, 1) := by decide +kernel
theorem dX3_count_143 : decode cX3_count 143 = .ok (.aload_n 0, 1) := by decide +kernel
theorem dX3_count_144 : decode cX3_count 144 = .ok (.getfield 10, 3) := by decide +kernel
theorem dX3_count_147 : decode cX3_count 147 = .ok (.getfield 152, 3) := by decide +kernel
theorem dX3_count_150 : decode cX3_count 150 = .ok (.ireturn, 1) := by decide +kernel
theorem dX3_count_151 : decode cX3_count 151 = .ok (.aload_n 0, 1) := by decide +kernel
theorem dX3_count_152 : decode cX3_count 152 = .ok (.getfield 10, 3) := by decide +kernel
theorem dX3_count_155 : decode cX3_count 155 = .ok (.getfield 123, 3) := by decide +kernel
theorem dX3_count_158 : decode cX3_count 158 = .ok (.iconst 3, 1) := by decide +kernel
theorem dX3_count_159 : decode cX3_count 159 = .ok (.invokestatic 155, 3) := by decide +kernel
theorem dX3_count_162 : decode cX3_count 162 = .ok (.ireturn, 1) := by decide +kernel
theorem dX3_count_163 : decode cX3_count 163 = .ok (.aload_n 0, 1) := by decide +kernel
theorem dX3_count_164 : decode cX3_count 164 = .ok (.getfield 160, 3) := by decide +kernel
theorem dX3_count_167 : decode cX3_count 167 = .ok (.ireturn, 1) := by decide +kernel
theorem dX3_count_168 : decode cX3_count 168 = .ok (.aload_n 0, 1) := by decide +kernel
theorem dX3_count_169 : decode cX3_count 169 = .ok (.getfield 23, 3) := by decide +kernel
theorem dX3_count_172 : decode cX3_count 172 = .ok (.getfield 163, 3) := by decide +kernel
theorem dX3_count_175 : decode cX3_count 175 = .ok (.ireturn, 1) := by decide +kernel
theorem dX3_count_176 : decode cX3_count 176 = .ok (.ldc 38, 2) := by decide +kernel
theorem dX3_count_178 : decode cX3_count 178 = .ok (.ireturn, 1) := by decide +kernel
set_option maxRecDepth 20000 in
theorem ggX3_undo_X1_copyFrom : GoodIn wsX3_undo wsX1_copyFrom := goodIn_r _ [9, 10, 11, 12, 13, 14, 15, 16, 17, 18, 19, 20, 21, 22, 23, 24, 25, 26, 32, 33, 34, 35, 36, 37, 38, 39, 40, 41, 42, 43, 44, 45, 46] (by decide +kernel) (by decide +kernel)
set_option maxRecDepth 20000 in
theorem gX3_undo_X1_copyFrom : GoodIn wsX3_undo (wsV RX3 166 RX1 yX1_copyFrom wsX1_copyFrom) := goodIn_app (goodIn_of _ (by decide +kernel)) ggX3_undo_X1_copyFrom
theorem dX3_undo_0 : decode cX3_undo 0 = .ok (.aload_n 0, 1) := by decide +kernel
theorem dX3_undo_1 : decode cX3_undo 1 = .ok (.getfield 160, 3) := by decide +kernel
theorem dX3_undo_4 : decode cX3_undo 4 = .ok (.ifCond .le 11, 3) := by decide +kernel
theorem dX3_undo_7 : decode cX3_undo 7 = .ok (.aload_n 0, 1) := by decide +kernel
theorem dX3_undo_8 : decode cX3_undo 8 = .ok (.getfield 160, 3) := by decide +kernel
theorem dX3_undo_11 : decode cX3_undo 11 = .ok (.iconst 4, 1) := by decide +kernel
theorem dX3_undo_12 : decode cX3_undo 12 = .ok (.if_icmp .le 6, 3) := by decide +kernel
theorem dX3_undo_15 : decode cX3_undo 15 = .ok (.ldc 66, 2) := by decide +kernel
theorem dX3_undo_17 : decode cX3_undo 17 = .ok (.ireturn, 1) := by decide +kernel
theorem dX3_undo_18 : decode cX3_undo 18 = .ok (.aload_n 0, 1) := by decide +kernel
theorem dX3_undo_19 : decode cX3_undo 19 = .ok (.dup, 1) := by decide +kernel
theorem dX3_undo_20 : decode cX3_undo 20 = .ok (.getfield 160, 3) := by decide +kernel
theorem dX3_undo_23 : decode cX3_undo 23 = .ok (.iconst 1, 1) := by decide +kernel
theorem dX3_undo_24 : decode cX3_undo 24 = .ok (.isub, 1) := by decide +kernel
theorem dX3_undo_25 : decode cX3_undo 25 = .ok (.putfield 160, 3) := by decide +kernel
theorem dX3_undo_28 : decode cX3_undo 28 = .ok (.aload_n 0, 1) := by decide +kernel
theorem dX3_undo_29 : decode cX3_undo 29 = .ok (.getfield 10, 3) := by decide +kernel
theorem dX3_undo_32 : decode cX3_undo 32 = .ok (.aload_n 0, 1) := by decide +kernel
theorem dX3_undo_33 : decode cX3_undo 33 = .ok (.getfield 16, 3) := by decide +kernel
theorem dX3_undo_36 : decode cX3_undo 36 = .ok (.aload_n 0, 1) := by decide +kernel
theorem dX3_undo_37 : decode cX3_undo 37 = .ok (.getfield 160, 3) := by decide +kernel
theorem dX3_undo_40 : decode cX3_undo 40 = .ok (.aaload, 1) := by decide +kernel
theorem dX3_undo_41 : decode cX3_undo 41 = .ok (.invokevirtual 166, 3) := by decide +kernel
theorem dX3_undo_44 : decode cX3_undo 44 = .ok (.aload_n 0, 1) := by decide +kernel
theorem dX3_undo_45 : decode cX3_undo 45 = .ok (.getfield 160, 3) := by decide +kernel
theorem dX3_undo_48 : decode cX3_undo 48 = .ok (.ireturn, 1) := by decide +kernel
set_option maxRecDepth 20000 in
theorem ggX3_type_X2_append : GoodIn wsX3_type wsX2_append := goodIn_r _ [9, 10, 11, 12, 13, 14, 20, 21] (by decide +kernel) (by decide +kernel)
set_option maxRecDepth 20000 in
theorem gX3_type_X2_append : GoodIn wsX3_type (wsV RX3 170 RX2 yX2_append wsX2_append) := goodIn_app (goodIn_of _ (by decide +kernel)) ggX3_type_X2_append
theorem dX3_type_0 : decode cX3_type 0 = .ok (.iload_n 1, 1) := by decide +kernel
theorem dX3_type_1 : decode cX3_type 1 = .ok (.bipush 32, 2) := by decide +kernel
theorem dX3_type_3 : decode cX3_type 3 = .ok (.if_icmp .lt 9, 3) := by decide +kernel
theorem dX3_type_6 : decode cX3_type 6 = .ok (.iload_n 1, 1) := by decide +kernel
theorem dX3_type_7 : decode cX3_type 7 = .ok (.bipush 126, 2) := by decide +kernel
theorem dX3_type_9 : decode cX3_type 9 = .ok (.if_icmp .le 6, 3) := by decide +kernel
theorem dX3_type_12 : decode cX3_type 12 = .ok (.ldc 38, 2) := by decide +kernel
theorem dX3_type_14 : decode cX3_type 14 = .ok (.ireturn, 1) := by decide +kernel
theorem dX3_type_15 : decode cX3_type 15 = .ok (.aload_n 0, 1) := by decide +kernel
theorem dX3_type_16 : decode cX3_type 16 = .ok (.getfield 23, 3) := by decide +kernel
theorem dX3_type_19 : decode cX3_type 19 = .ok (.getfield 163, 3) := by decide +kernel
theorem dX3_type_22 : decode cX3_type 22 = .ok (.bipush 60, 2) := by decide +kernel
theorem dX3_type_24 : decode cX3_type 24 = .ok (.if_icmp .lt 6, 3) := by decide +kernel
theorem dX3_type_27 : decode cX3_type 27 = .ok (.ldc 42, 2) := by decide +kernel
theorem dX3_type_29 : decode cX3_type 29 = .ok (.ireturn, 1) := by decide +kernel
theorem dX3_type_30 : decode cX3_type 30 = .ok (.aload_n 0, 1) := by decide +kernel
theorem dX3_type_31 : decode cX3_type 31 = .ok (.getfield 23, 3) := by decide +kernel
theorem dX3_type_34 : decode cX3_type 34 = .ok (.iload_n 1, 1) := by decide +kernel
theorem dX3_type_35 : decode cX3_type 35 = .ok (.i2c, 1) := by decide +kernel
theorem dX3_type_36 : decode cX3_type 36 = .ok (.invokevirtual 170, 3) := by decide +kernel
theorem dX3_type_39 : decode cX3_type 39 = .ok (.ireturn, 1) := by decide +kernel
theorem dX3_clearText_0 : decode cX3_clearText 0 = .ok (.aload_n 0, 1) := by decide +kernel
theorem dX3_clearText_1 : decode cX3_clearText 1 = .ok (.getfield 23, 3) := by decide +kernel
theorem dX3_clearText_4 : decode cX3_clearText 4 = .ok (.getfield 163, 3) := by decide +kernel
theorem dX3_clearText_7 : decode cX3_clearText 7 = .ok (.istore_n 1, 1) := by decide +kernel
theorem dX3_clearText_8 : decode cX3_clearText 8 = .ok (.aload_n 0, 1) := by decide +kernel
theorem dX3_clearText_9 : decode cX3_clearText 9 = .ok (.getfield 23, 3) := by decide +kernel
theorem dX3_clearText_12 : decode cX3_clearText 12 = .ok (.iconst 0, 1) := by decide +kernel
theorem dX3_clearText_13 : decode cX3_clearText 13 = .ok (.putfield 163, 3) := by decide +kernel
theorem dX3_clearText_16 : decode cX3_clearText 16 = .ok (.iload_n 1, 1) := by decide +kernel
theorem dX3_clearText_17 : decode cX3_clearText 17 = .ok (.ireturn, 1) := by decide +kernel
set_option maxRecDepth 20000 in
theorem ggX3_fault_X3_isBelow : GoodIn wsX3_fault wsX3_isBelow := goodIn_r _ [12] (by decide +kernel) (by decide +kernel)
set_option maxRecDepth 20000 in
theorem gX3_fault_X3_isBelow : GoodIn wsX3_fault (va_wsS RX3 92 yX3_isBelow wsX3_isBelow) := goodIn_app (goodIn_of _ (by decide +kernel)) ggX3_fault_X3_isBelow
set_option maxRecDepth 20000 in
theorem ggX3_fault_X0_tryOn : GoodIn wsX3_fault wsX0_tryOn := goodIn_r _ [17, 18, 19, 20, 21, 22, 23, 24, 25, 26, 27, 28, 29, 30, 31, 32, 33, 34, 35, 36, 37, 38, 39, 40, 41, 42, 43, 44, 45, 46, 47, 48, 16, 49, 50, 51, 52, 53, 54, 55, 56, 57, 58, 59, 60, 61, 62, 10, 11, 12, 63, 64, 65, 66, 67, 68, 69, 70, 71, 72, 73, 74, 75, 76, 77, 78, 79, 80, 81, 82, 83, 84, 85, 86, 87, 88, 89, 90, 91, 92, 93, 94, 95, 96, 97, 98, 99, 100, 101, 102, 103, 104, 105, 106, 107, 108, 109, 110, 111, 112, 113, 114, 115, 116, 117, 118, 119, 120, 121, 122, 123, 124, 125, 126, 127, 128, 129, 130, 131, 132, 133, 134, 135, 136, 137, 138, 139, 140, 141, 142, 143, 144, 145, 146, 147, 148, 149, 150, 151, 152, 153, 154, 155, 156, 157, 158, 159, 160, 161, 162, 163, 164, 165, 166, 167, 168, 169, 175, 176, 177, 178, 179, 180, 181, 182, 183, 184, 185, 186, 187, 188, 189, 190, 191, 192, 193, 194, 195, 196, 197, 198, 199, 200, 201, 202, 203] (by decide +kernel) (by decide +kernel)
set_option maxRecDepth 20000 in
theorem gX3_fault_X0_tryOn : GoodIn wsX3_fault (wsV RX3 174 RX0 yX0_tryOn wsX0_tryOn) := goodIn_app (goodIn_of _ (by decide +kernel)) ggX3_fault_X0_tryOn
theorem dX3_fault_0 : decode cX3_fault 0 = .ok (.iload_n 1, 1) := by decide +kernel
theorem dX3_fault_1 : decode cX3_fault 1 = .ok (.iconst 3, 1) := by decide +kernel
theorem dX3_fault_2 : decode cX3_fault 2 = .ok (.invokestatic 92, 3) := by decide +kernel
theorem dX3_fault_5 : decode cX3_fault 5 = .ok (.ifCond .ne 6, 3) := by decide +kernel
theorem dX3_fault_8 : decode cX3_fault 8 = .ok (.ldc 38, 2) := by decide +kernel
theorem dX3_fault_10 : decode cX3_fault 10 = .ok (.ireturn, 1) := by decide +kernel
theorem dX3_fault_11 : decode cX3_fault 11 = .ok (.aload_n 0, 1) := by decide +kernel
theorem dX3_fault_12 : decode cX3_fault 12 = .ok (.getfield 30, 3) := by decide +kernel
theorem dX3_fault_15 : decode cX3_fault 15 = .ok (.aload_n 0, 1) := by decide +kernel
theorem dX3_fault_16 : decode cX3_fault 16 = .ok (.getfield 10, 3) := by decide +kernel
theorem dX3_fault_19 : decode cX3_fault 19 = .ok (.aload_n 0, 1) := by decide +kernel
theorem dX3_fault_20 : decode cX3_fault 20 = .ok (.getfield 23, 3) := by decide +kernel
theorem dX3_fault_23 : decode cX3_fault 23 = .ok (.invokevirtual 174, 3) := by decide +kernel
theorem dX3_fault_26 : decode cX3_fault 26 = .ok (.aload_n 0, 1) := by decide +kernel
theorem dX3_fault_27 : decode cX3_fault 27 = .ok (.getfield 30, 3) := by decide +kernel
theorem dX3_fault_30 : decode cX3_fault 30 = .ok (.getfield 178, 3) := by decide +kernel
theorem dX3_fault_33 : decode cX3_fault 33 = .ok (.ifCond .ne 6, 3) := by decide +kernel
theorem dX3_fault_36 : decode cX3_fault 36 = .ok (.ldc 91, 2) := by decide +kernel
theorem dX3_fault_38 : decode cX3_fault 38 = .ok (.ireturn, 1) := by decide +kernel
theorem dX3_fault_39 : decode cX3_fault 39 = .ok (.iload_n 1, 1) := by decide +kernel
theorem dX3_fault_40 : decode cX3_fault 40 = .ok (.lookupswitch 44 #[(0, 28), (1, 36)], 28) := by decide +kernel
theorem dX3_fault_68 : decode cX3_fault 68 = .ok (.aload_n 0, 1) := by decide +kernel
theorem dX3_fault_69 : decode cX3_fault 69 = .ok (.getfield 30, 3) := by decide +kernel
theorem dX3_fault_72 : decode cX3_fault 72 = .ok (.getfield 181, 3) := by decide +kernel
theorem dX3_fault_75 : decode cX3_fault 75 = .ok (.ireturn, 1) := by decide +kernel
theorem dX3_fault_76 : decode cX3_fault 76 = .ok (.aload_n 0, 1) := by decide +kernel
theorem dX3_fault_77 : decode cX3_fault 77 = .ok (.getfield 30, 3) := by decide +kernel
theorem dX3_fault_80 : decode cX3_fault 80 = .ok (.getfield 178, 3) := by decide +kernel
theorem dX3_fault_83 : decode cX3_fault 83 = .ok (.ireturn, 1) := by decide +kernel
theorem dX3_fault_84 : decode cX3_fault 84 = .ok (.aload_n 0, 1) := by decide +kernel
theorem dX3_fault_85 : decode cX3_fault 85 = .ok (.getfield 30, 3) := by decide +kernel
theorem dX3_fault_88 : decode cX3_fault 88 = .ok (.getfield 178, 3) := by decide +kernel
theorem dX3_fault_91 : decode cX3_fault 91 = .ok (.iconst 3, 1) := by decide +kernel
theorem dX3_fault_92 : decode cX3_fault 92 = .ok (.if_icmp .ne 8, 3) := by decide +kernel
theorem dX3_fault_95 : decode cX3_fault 95 = .ok (.ldc 91, 2) := by decide +kernel
theorem dX3_fault_97 : decode cX3_fault 97 = .ok (.goto 10, 3) := by decide +kernel
theorem dX3_fault_100 : decode cX3_fault 100 = .ok (.aload_n 0, 1) := by decide +kernel
theorem dX3_fault_101 : decode cX3_fault 101 = .ok (.getfield 30, 3) := by decide +kernel
theorem dX3_fault_104 : decode cX3_fault 104 = .ok (.getfield 184, 3) := by decide +kernel
theorem dX3_fault_107 : decode cX3_fault 107 = .ok (.ireturn, 1) := by decide +kernel
set_option maxRecDepth 20000 in
theorem ggX3_play_X0_tryOn : GoodIn wsX3_play wsX0_tryOn := goodIn_r _ [12, 13, 14, 15, 16, 17, 18, 19, 20, 21, 22, 23, 24, 25, 26, 27, 28, 29, 30, 31, 32, 33, 34, 35, 36, 37, 38, 39, 40, 41, 42, 43, 11, 44, 45, 46, 47, 48, 49, 50, 51, 52, 53, 54, 55, 56, 57, 58, 59, 60, 61, 62, 63, 64, 65, 66, 67, 68, 69, 70, 71, 72, 73, 74, 75, 76, 77, 78, 79, 80, 81, 82, 83, 84, 85, 86, 87, 88, 89, 90, 91, 92, 93, 94, 95, 96, 97, 98, 99, 100, 101, 102, 103, 104, 105, 106, 107, 108, 109, 110, 111, 112, 113, 114, 115, 116, 117, 118, 119, 120, 121, 122, 123, 124, 125, 126, 127, 128, 129, 130, 131, 132, 133, 134, 135, 136, 137, 138, 139, 140, 141, 142, 143, 144, 145, 146, 147, 148, 149, 150, 151, 152, 153, 154, 155, 156, 157, 158, 159, 160, 161, 162, 163, 164, 165, 166, 167, 180, 181, 182, 183, 184, 185, 186, 187, 188, 189, 190, 191, 192, 193, 194, 195, 196, 197, 198, 199, 200, 201, 202, 203, 204, 205, 206, 207, 208] (by decide +kernel) (by decide +kernel)
set_option maxRecDepth 20000 in
theorem gX3_play_X0_tryOn : GoodIn wsX3_play (wsV RX3 174 RX0 yX0_tryOn wsX0_tryOn) := goodIn_app (goodIn_of _ (by decide +kernel)) ggX3_play_X0_tryOn
set_option maxRecDepth 20000 in
theorem ggX3_play_X3_recordState : GoodIn wsX3_play wsX3_recordState := goodIn_r _ [171, 172, 173, 2, 174, 20, 21, 22, 23, 24, 25, 26, 27, 28, 29, 30, 31, 32, 33, 34, 35, 36, 37, 38, 39, 40, 175, 176, 177, 178, 179, 194, 195, 196, 197, 198, 199, 200, 201, 202, 203, 204, 205, 206, 207, 208] (by decide +kernel) (by decide +kernel)
set_option maxRecDepth 20000 in
theorem gX3_play_X3_recordState : GoodIn wsX3_play (wsV RX3 43 RX3 yX3_recordState wsX3_recordState) := goodIn_app (goodIn_of _ (by decide +kernel)) ggX3_play_X3_recordState
set_option maxRecDepth 20000 in
theorem ggX3_play_X1_copyFrom : GoodIn wsX3_play wsX1_copyFrom := goodIn_r _ [23, 24, 25, 26, 27, 28, 29, 30, 31, 32, 33, 34, 35, 36, 37, 38, 39, 40, 194, 195, 196, 197, 198, 199, 200, 201, 202, 203, 204, 205, 206, 207, 208] (by decide +kernel) (by decide +kernel)
set_option maxRecDepth 20000 in
theorem gX3_play_X1_copyFrom : GoodIn wsX3_play (wsV RX3 166 RX1 yX1_copyFrom wsX1_copyFrom) := goodIn_app (goodIn_of _ (by decide +kernel)) ggX3_play_X1_copyFrom
theorem dX3_play_0 : decode cX3_play 0 = .ok (.aload_n 0, 1) := by decide +kernel
theorem dX3_play_1 : decode cX3_play 1 = .ok (.getfield 30, 3) := by decide +kernel
theorem dX3_play_4 : decode cX3_play 4 = .ok (.aload_n 0, 1) := by decide +kernel
theorem dX3_play_5 : decode cX3_play 5 = .ok (.getfield 10, 3) := by decide +kernel
theorem dX3_play_8 : decode cX3_play 8 = .ok (.aload_n 0, 1) := by decide +kernel
theorem dX3_play_9 : decode cX3_play 9 = .ok (.getfield 23, 3) := by decide +kernel
theorem dX3_play_12 : decode cX3_play 12 = .ok (.invokevirtual 174, 3) := by decide +kernel
theorem dX3_play_15 : decode cX3_play 15 = .ok (.aload_n 0, 1) := by decide +kernel
theorem dX3_play_16 : decode cX3_play 16 = .ok (.getfield 30, 3) := by decide +kernel
theorem dX3_play_19 : decode cX3_play 19 = .ok (.getfield 178, 3) := by decide +kernel
theorem dX3_play_22 : decode cX3_play 22 = .ok (.ifCond .eq 6, 3) := by decide +kernel
theorem dX3_play_25 : decode cX3_play 25 = .ok (.ldc 66, 2) := by decide +kernel
theorem dX3_play_27 : decode cX3_play 27 = .ok (.ireturn, 1) := by decide +kernel
theorem dX3_play_28 : decode cX3_play 28 = .ok (.aload_n 0, 1) := by decide +kernel
theorem dX3_play_29 : decode cX3_play 29 = .ok (.invokevirtual 43, 3) := by decide +kernel
theorem dX3_play_32 : decode cX3_play 32 = .ok (.aload_n 0, 1) := by decide +kernel
theorem dX3_play_33 : decode cX3_play 33 = .ok (.getfield 10, 3) := by decide +kernel
theorem dX3_play_36 : decode cX3_play 36 = .ok (.aload_n 0, 1) := by decide +kernel
theorem dX3_play_37 : decode cX3_play 37 = .ok (.getfield 30, 3) := by decide +kernel
theorem dX3_play_40 : decode cX3_play 40 = .ok (.getfield 187, 3) := by decide +kernel
theorem dX3_play_43 : decode cX3_play 43 = .ok (.invokevirtual 166, 3) := by decide +kernel
theorem dX3_play_46 : decode cX3_play 46 = .ok (.aload_n 0, 1) := by decide +kernel
theorem dX3_play_47 : decode cX3_play 47 = .ok (.getfield 30, 3) := by decide +kernel
theorem dX3_play_50 : decode cX3_play 50 = .ok (.getfield 190, 3) := by decide +kernel
theorem dX3_play_53 : decode cX3_play 53 = .ok (.ireturn, 1) := by decide +kernel
set_option maxRecDepth 20000 in
theorem ggX3_recordState_X1_copyFrom : GoodIn wsX3_recordState wsX1_copyFrom := goodIn_r _ [8, 9, 10, 11, 12, 13, 14, 15, 16, 17, 18, 19, 20, 21, 22, 23, 24, 25, 31, 32, 33, 34, 35, 36, 37, 38, 39, 40, 41, 42, 43, 44, 45] (by decide +kernel) (by decide +kernel)
set_option maxRecDepth 20000 in
theorem gX3_recordState_X1_copyFrom : GoodIn wsX3_recordState (wsV RX3 166 RX1 yX1_copyFrom wsX1_copyFrom) := goodIn_app (goodIn_of _ (by decide +kernel)) ggX3_recordState_X1_copyFrom
theorem dX3_recordState_0 : decode cX3_recordState 0 = .ok (.aload_n 0, 1) := by decide +kernel
theorem dX3_recordState_1 : decode cX3_recordState 1 = .ok (.getfield 160, 3) := by decide +kernel
theorem dX3_recordState_4 : decode cX3_recordState 4 = .ok (.iconst 4, 1) := by decide +kernel
theorem dX3_recordState_5 : decode cX3_recordState 5 = .ok (.if_icmp .lt 49, 3) := by decide +kernel
theorem dX3_recordState_8 : decode cX3_recordState 8 = .ok (.aload_n 0, 1) := by decide +kernel
theorem dX3_recordState_9 : decode cX3_recordState 9 = .ok (.getfield 16, 3) := by decide +kernel
theorem dX3_recordState_12 : decode cX3_recordState 12 = .ok (.iconst 0, 1) := by decide +kernel
theorem dX3_recordState_13 : decode cX3_recordState 13 = .ok (.aaload, 1) := by decide +kernel
theorem dX3_recordState_14 : decode cX3_recordState 14 = .ok (.astore_n 1, 1) := by decide +kernel
theorem dX3_recordState_15 : decode cX3_recordState 15 = .ok (.iconst 1, 1) := by decide +kernel
theorem dX3_recordState_16 : decode cX3_recordState 16 = .ok (.istore_n 2, 1) := by decide +kernel
theorem dX3_recordState_17 : decode cX3_recordState 17 = .ok (.iload_n 2, 1) := by decide +kernel
theorem dX3_recordState_18 : decode cX3_recordState 18 = .ok (.iconst 4, 1) := by decide +kernel
theorem dX3_recordState_19 : decode cX3_recordState 19 = .ok (.if_icmp .ge 23, 3) := by decide +kernel
theorem dX3_recordState_22 : decode cX3_recordState 22 = .ok (.aload_n 0, 1) := by decide +kernel
theorem dX3_recordState_23 : decode cX3_recordState 23 = .ok (.getfield 16, 3) := by decide +kernel
theorem dX3_recordState_26 : decode cX3_recordState 26 = .ok (.iload_n 2, 1) := by decide +kernel
theorem dX3_recordState_27 : decode cX3_recordState 27 = .ok (.iconst 1, 1) := by decide +kernel
theorem dX3_recordState_28 : decode cX3_recordState 28 = .ok (.isub, 1) := by decide +kernel
theorem dX3_recordState_29 : decode cX3_recordState 29 = .ok (.aload_n 0, 1) := by decide +kernel
theorem dX3_recordState_30 : decode cX3_recordState 30 = .ok (.getfield 16, 3) := by decide +kernel
theorem dX3_recordState_33 : decode cX3_recordState 33 = .ok (.iload_n 2, 1) := by decide +kernel
theorem dX3_recordState_34 : decode cX3_recordState 34 = .ok (.aaload, 1) := by decide +kernel
theorem dX3_recordState_35 : decode cX3_recordState 35 = .ok (.aastore, 1) := by decide +kernel
theorem dX3_recordState_36 : decode cX3_recordState 36 = .ok (.iinc 2 1, 3) := by decide +kernel
theorem dX3_recordState_39 : decode cX3_recordState 39 = .ok (.goto (-22), 3) := by decide +kernel
theorem dX3_recordState_42 : decode cX3_recordState 42 = .ok (.aload_n 0, 1) := by decide +kernel
theorem dX3_recordState_43 : decode cX3_recordState 43 = .ok (.getfield 16, 3) := by decide +kernel
theorem dX3_recordState_46 : decode cX3_recordState 46 = .ok (.iconst 3, 1) := by decide +kernel
theorem dX3_recordState_47 : decode cX3_recordState 47 = .ok (.aload_n 1, 1) := by decide +kernel
theorem dX3_recordState_48 : decode cX3_recordState 48 = .ok (.aastore, 1) := by decide +kernel
theorem dX3_recordState_49 : decode cX3_recordState 49 = .ok (.aload_n 0, 1) := by decide +kernel
theorem dX3_recordState_50 : decode cX3_recordState 50 = .ok (.iconst 3, 1) := by decide +kernel
theorem dX3_recordState_51 : decode cX3_recordState 51 = .ok (.putfield 160, 3) := by decide +kernel
theorem dX3_recordState_54 : decode cX3_recordState 54 = .ok (.aload_n 0, 1) := by decide +kernel
theorem dX3_recordState_55 : decode cX3_recordState 55 = .ok (.getfield 16, 3) := by decide +kernel
theorem dX3_recordState_58 : decode cX3_recordState 58 = .ok (.aload_n 0, 1) := by decide +kernel
theorem dX3_recordState_59 : decode cX3_recordState 59 = .ok (.getfield 160, 3) := by decide +kernel
theorem dX3_recordState_62 : decode cX3_recordState 62 = .ok (.aaload, 1) := by decide +kernel
theorem dX3_recordState_63 : decode cX3_recordState 63 = .ok (.aload_n 0, 1) := by decide +kernel
theorem dX3_recordState_64 : decode cX3_recordState 64 = .ok (.getfield 10, 3) := by decide +kernel
theorem dX3_recordState_67 : decode cX3_recordState 67 = .ok (.invokevirtual 166, 3) := by decide +kernel
theorem dX3_recordState_70 : decode cX3_recordState 70 = .ok (.aload_n 0, 1) := by decide +kernel
theorem dX3_recordState_71 : decode cX3_recordState 71 = .ok (.dup, 1) := by decide +kernel
theorem dX3_recordState_72 : decode cX3_recordState 72 = .ok (.getfield 160, 3) := by decide +kernel
theorem dX3_recordState_75 : decode cX3_recordState 75 = .ok (.iconst 1, 1) := by decide +kernel
theorem dX3_recordState_76 : decode cX3_recordState 76 = .ok (.iadd, 1) := by decide +kernel
theorem dX3_recordState_77 : decode cX3_recordState 77 = .ok (.putfield 160, 3) := by decide +kernel
theorem dX3_recordState_80 : decode cX3_recordState 80 = .ok (.return_, 1) := by decide +kernel
theorem dX3_isBelow_0 : decode cX3_isBelow 0 = .ok (.iload_n 0, 1) := by decide +kernel
theorem dX3_isBelow_1 : decode cX3_isBelow 1 = .ok (.ifCond .lt 12, 3) := by decide +kernel
theorem dX3_isBelow_4 : decode cX3_isBelow 4 = .ok (.iload_n 0, 1) := by decide +kernel
theorem dX3_isBelow_5 : decode cX3_isBelow 5 = .ok (.iload_n 1, 1) := by decide +kernel
theorem dX3_isBelow_6 : decode cX3_isBelow 6 = .ok (.if_icmp .ge 7, 3) := by decide +kernel
theorem dX3_isBelow_9 : decode cX3_isBelow 9 = .ok (.iconst 1, 1) := by decide +kernel
theorem dX3_isBelow_10 : decode cX3_isBelow 10 = .ok (.goto 4, 3) := by decide +kernel
theorem dX3_isBelow_13 : decode cX3_isBelow 13 = .ok (.iconst 0, 1) := by decide +kernel
theorem dX3_isBelow_14 : decode cX3_isBelow 14 = .ok (.ireturn, 1) := by decide +kernel
set_option maxRecDepth 20000 in
theorem ggX3_isCell_X3_isBelow : GoodIn wsX3_isCell wsX3_isBelow := goodIn_r _ [4] (by decide +kernel) (by decide +kernel)
set_option maxRecDepth 20000 in
theorem gX3_isCell_X3_isBelow : GoodIn wsX3_isCell (va_wsS RX3 92 yX3_isBelow wsX3_isBelow) := goodIn_app (goodIn_of _ (by decide +kernel)) ggX3_isCell_X3_isBelow
theorem dX3_isCell_0 : decode cX3_isCell 0 = .ok (.iload_n 0, 1) := by decide +kernel
theorem dX3_isCell_1 : decode cX3_isCell 1 = .ok (.iconst 3, 1) := by decide +kernel
theorem dX3_isCell_2 : decode cX3_isCell 2 = .ok (.invokestatic 92, 3) := by decide +kernel
theorem dX3_isCell_5 : decode cX3_isCell 5 = .ok (.ifCond .eq 16, 3) := by decide +kernel
theorem dX3_isCell_8 : decode cX3_isCell 8 = .ok (.iload_n 1, 1) := by decide +kernel
theorem dX3_isCell_9 : decode cX3_isCell 9 = .ok (.bipush 6, 2) := by decide +kernel
theorem dX3_isCell_11 : decode cX3_isCell 11 = .ok (.invokestatic 92, 3) := by decide +kernel
theorem dX3_isCell_14 : decode cX3_isCell 14 = .ok (.ifCond .eq 7, 3) := by decide +kernel
theorem dX3_isCell_17 : decode cX3_isCell 17 = .ok (.iconst 1, 1) := by decide +kernel
theorem dX3_isCell_18 : decode cX3_isCell 18 = .ok (.goto 4, 3) := by decide +kernel
theorem dX3_isCell_21 : decode cX3_isCell 21 = .ok (.iconst 0, 1) := by decide +kernel
theorem dX3_isCell_22 : decode cX3_isCell 22 = .ok (.ireturn, 1) := by decide +kernel
theorem dX3_cellIndex_0 : decode cX3_cellIndex 0 = .ok (.iload_n 0, 1) := by decide +kernel
theorem dX3_cellIndex_1 : decode cX3_cellIndex 1 = .ok (.bipush 6, 2) := by decide +kernel
theorem dX3_cellIndex_3 : decode cX3_cellIndex 3 = .ok (.imul, 1) := by decide +kernel
theorem dX3_cellIndex_4 : decode cX3_cellIndex 4 = .ok (.iload_n 1, 1) := by decide +kernel
theorem dX3_cellIndex_5 : decode cX3_cellIndex 5 = .ok (.iadd, 1) := by decide +kernel
theorem dX3_cellIndex_6 : decode cX3_cellIndex 6 = .ok (.ireturn, 1) := by decide +kernel
theorem dX3_isName_0 : decode cX3_isName 0 = .ok (.iload_n 0, 1) := by decide +kernel
theorem dX3_isName_1 : decode cX3_isName 1 = .ok (.iconst 1, 1) := by decide +kernel
theorem dX3_isName_2 : decode cX3_isName 2 = .ok (.if_icmp .lt 9, 3) := by decide +kernel
theorem dX3_isName_5 : decode cX3_isName 5 = .ok (.iload_n 0, 1) := by decide +kernel
theorem dX3_isName_6 : decode cX3_isName 6 = .ok (.ldc 193, 2) := by decide +kernel
theorem dX3_isName_8 : decode cX3_isName 8 = .ok (.if_icmp .le 5, 3) := by decide +kernel
theorem dX3_isName_11 : decode cX3_isName 11 = .ok (.iconst 0, 1) := by decide +kernel
theorem dX3_isName_12 : decode cX3_isName 12 = .ok (.ireturn, 1) := by decide +kernel
theorem dX3_isName_13 : decode cX3_isName 13 = .ok (.iload_n 0, 1) := by decide +kernel
theorem dX3_isName_14 : decode cX3_isName 14 = .ok (.istore_n 1, 1) := by decide +kernel
theorem dX3_isName_15 : decode cX3_isName 15 = .ok (.iconst 0, 1) := by decide +kernel
theorem dX3_isName_16 : decode cX3_isName 16 = .ok (.istore_n 2, 1) := by decide +kernel
theorem dX3_isName_17 : decode cX3_isName 17 = .ok (.iload_n 2, 1) := by decide +kernel
theorem dX3_isName_18 : decode cX3_isName 18 = .ok (.bipush 6, 2) := by decide +kernel
theorem dX3_isName_20 : decode cX3_isName 20 = .ok (.if_icmp .ge 27, 3) := by decide +kernel
theorem dX3_isName_23 : decode cX3_isName 23 = .ok (.iload_n 1, 1) := by decide +kernel
theorem dX3_isName_24 : decode cX3_isName 24 = .ok (.ifCond .le 23, 3) := by decide +kernel
theorem dX3_isName_27 : decode cX3_isName 27 = .ok (.iload_n 1, 1) := by decide +kernel
theorem dX3_isName_28 : decode cX3_isName 28 = .ok (.bipush 27, 2) := by decide +kernel
theorem dX3_isName_30 : decode cX3_isName 30 = .ok (.irem, 1) := by decide +kernel
theorem dX3_isName_31 : decode cX3_isName 31 = .ok (.ifCond .ne 5, 3) := by decide +kernel
theorem dX3_isName_34 : decode cX3_isName 34 = .ok (.iconst 0, 1) := by decide +kernel
theorem dX3_isName_35 : decode cX3_isName 35 = .ok (.ireturn, 1) := by decide +kernel
theorem dX3_isName_36 : decode cX3_isName 36 = .ok (.iload_n 1, 1) := by decide +kernel
theorem dX3_isName_37 : decode cX3_isName 37 = .ok (.bipush 27, 2) := by decide +kernel
theorem dX3_isName_39 : decode cX3_isName 39 = .ok (.idiv, 1) := by decide +kernel
theorem dX3_isName_40 : decode cX3_isName 40 = .ok (.istore_n 1, 1) := by decide +kernel
theorem dX3_isName_41 : decode cX3_isName 41 = .ok (.iinc 2 1, 3) := by decide +kernel
theorem dX3_isName_44 : decode cX3_isName 44 = .ok (.goto (-27), 3) := by decide +kernel
theorem dX3_isName_47 : decode cX3_isName 47 = .ok (.iconst 1, 1) := by decide +kernel
theorem dX3_isName_48 : decode cX3_isName 48 = .ok (.ireturn, 1) := by decide +kernel
theorem dX3_orderKey_0 : decode cX3_orderKey 0 = .ok (.iload_n 0, 1) := by decide +kernel
theorem dX3_orderKey_1 : decode cX3_orderKey 1 = .ok (.istore_n 1, 1) := by decide +kernel
theorem dX3_orderKey_2 : decode cX3_orderKey 2 = .ok (.iconst 1, 1) := by decide +kernel
theorem dX3_orderKey_3 : decode cX3_orderKey 3 = .ok (.istore_n 2, 1) := by decide +kernel
theorem dX3_orderKey_4 : decode cX3_orderKey 4 = .ok (.iload_n 2, 1) := by decide +kernel
theorem dX3_orderKey_5 : decode cX3_orderKey 5 = .ok (.bipush 6, 2) := by decide +kernel
theorem dX3_orderKey_7 : decode cX3_orderKey 7 = .ok (.if_icmp .ge 20, 3) := by decide +kernel
theorem dX3_orderKey_10 : decode cX3_orderKey 10 = .ok (.iload_n 1, 1) := by decide +kernel
theorem dX3_orderKey_11 : decode cX3_orderKey 11 = .ok (.ldc 194, 2) := by decide +kernel
theorem dX3_orderKey_13 : decode cX3_orderKey 13 = .ok (.if_icmp .ge 14, 3) := by decide +kernel
theorem dX3_orderKey_16 : decode cX3_orderKey 16 = .ok (.iload_n 1, 1) := by decide +kernel
theorem dX3_orderKey_17 : decode cX3_orderKey 17 = .ok (.bipush 27, 2) := by decide +kernel
theorem dX3_orderKey_19 : decode cX3_orderKey 19 = .ok (.imul, 1) := by decide +kernel
theorem dX3_orderKey_20 : decode cX3_orderKey 20 = .ok (.istore_n 1, 1) := by decide +kernel
theorem dX3_orderKey_21 : decode cX3_orderKey 21 = .ok (.iinc 2 1, 3) := by decide +kernel
theorem dX3_orderKey_24 : decode cX3_orderKey 24 = .ok (.goto (-20), 3) := by decide +kernel
theorem dX3_orderKey_27 : decode cX3_orderKey 27 = .ok (.iload_n 1, 1) := by decide +kernel
theorem dX3_orderKey_28 : decode cX3_orderKey 28 = .ok (.ireturn, 1) := by decide +kernel
theorem dX3_beginsWith_0 : decode cX3_beginsWith 0 = .ok (.iload_n 0, 1) := by decide +kernel
theorem dX3_beginsWith_1 : decode cX3_beginsWith 1 = .ok (.istore_n 2, 1) := by decide +kernel
theorem dX3_beginsWith_2 : decode cX3_beginsWith 2 = .ok (.iconst 1, 1) := by decide +kernel
theorem dX3_beginsWith_3 : decode cX3_beginsWith 3 = .ok (.istore_n 3, 1) := by decide +kernel
theorem dX3_beginsWith_4 : decode cX3_beginsWith 4 = .ok (.iload_n 3, 1) := by decide +kernel
theorem dX3_beginsWith_5 : decode cX3_beginsWith 5 = .ok (.bipush 6, 2) := by decide +kernel
theorem dX3_beginsWith_7 : decode cX3_beginsWith 7 = .ok (.if_icmp .ge 19, 3) := by decide +kernel
theorem dX3_beginsWith_10 : decode cX3_beginsWith 10 = .ok (.iload_n 2, 1) := by decide +kernel
theorem dX3_beginsWith_11 : decode cX3_beginsWith 11 = .ok (.iload_n 1, 1) := by decide +kernel
theorem dX3_beginsWith_12 : decode cX3_beginsWith 12 = .ok (.if_icmp .le 14, 3) := by decide +kernel
theorem dX3_beginsWith_15 : decode cX3_beginsWith 15 = .ok (.iload_n 2, 1) := by decide +kernel
theorem dX3_beginsWith_16 : decode cX3_beginsWith 16 = .ok (.bipush 27, 2) := by decide +kernel
theorem dX3_beginsWith_18 : decode cX3_beginsWith 18 = .ok (.idiv, 1) := by decide +kernel
theorem dX3_beginsWith_19 : decode cX3_beginsWith 19 = .ok (.istore_n 2, 1) := by decide +kernel
theorem dX3_beginsWith_20 : decode cX3_beginsWith 20 = .ok (.iinc 3 1, 3) := by decide +kernel
theorem dX3_beginsWith_23 : decode cX3_beginsWith 23 = .ok (.goto (-19), 3) := by decide +kernel
theorem dX3_beginsWith_26 : decode cX3_beginsWith 26 = .ok (.iload_n 2, 1) := by decide +kernel
theorem dX3_beginsWith_27 : decode cX3_beginsWith 27 = .ok (.iload_n 1, 1) := by decide +kernel
theorem dX3_beginsWith_28 : decode cX3_beginsWith 28 = .ok (.if_icmp .ne 7, 3) := by decide +kernel
theorem dX3_beginsWith_31 : decode cX3_beginsWith 31 = .ok (.iconst 1, 1) := by decide +kernel
theorem dX3_beginsWith_32 : decode cX3_beginsWith 32 = .ok (.goto 4, 3) := by decide +kernel
theorem dX3_beginsWith_35 : decode cX3_beginsWith 35 = .ok (.iconst 0, 1) := by decide +kernel
theorem dX3_beginsWith_36 : decode cX3_beginsWith 36 = .ok (.ireturn, 1) := by decide +kernel
theorem dX4_init_0 : decode cX4_init 0 = .ok (.aload_n 0, 1) := by decide +kernel
theorem dX4_init_1 : decode cX4_init 1 = .ok (.invokespecial 1, 3) := by decide +kernel
theorem dX4_init_4 : decode cX4_init 4 = .ok (.aload_n 0, 1) := by decide +kernel
theorem dX4_init_5 : decode cX4_init 5 = .ok (.sipush 511, 3) := by decide +kernel
theorem dX4_init_8 : decode cX4_init 8 = .ok (.newarray .int, 2) := by decide +kernel
theorem dX4_init_10 : decode cX4_init 10 = .ok (.putfield 7, 3) := by decide +kernel
theorem dX4_init_13 : decode cX4_init 13 = .ok (.aload_n 0, 1) := by decide +kernel
theorem dX4_init_14 : decode cX4_init 14 = .ok (.sipush 2044, 3) := by decide +kernel
theorem dX4_init_17 : decode cX4_init 17 = .ok (.newarray .int, 2) := by decide +kernel
theorem dX4_init_19 : decode cX4_init 19 = .ok (.putfield 13, 3) := by decide +kernel
theorem dX4_init_22 : decode cX4_init 22 = .ok (.aload_n 0, 1) := by decide +kernel
theorem dX4_init_23 : decode cX4_init 23 = .ok (.sipush 511, 3) := by decide +kernel
theorem dX4_init_26 : decode cX4_init 26 = .ok (.newarray .int, 2) := by decide +kernel
theorem dX4_init_28 : decode cX4_init 28 = .ok (.putfield 16, 3) := by decide +kernel
theorem dX4_init_31 : decode cX4_init 31 = .ok (.aload_n 0, 1) := by decide +kernel
theorem dX4_init_32 : decode cX4_init 32 = .ok (.bipush 60, 2) := by decide +kernel
theorem dX4_init_34 : decode cX4_init 34 = .ok (.newarray .int, 2) := by decide +kernel
theorem dX4_init_36 : decode cX4_init 36 = .ok (.putfield 19, 3) := by decide +kernel
theorem dX4_init_39 : decode cX4_init 39 = .ok (.aload_n 0, 1) := by decide +kernel
theorem dX4_init_40 : decode cX4_init 40 = .ok (.bipush 40, 2) := by decide +kernel
theorem dX4_init_42 : decode cX4_init 42 = .ok (.newarray .int, 2) := by decide +kernel
theorem dX4_init_44 : decode cX4_init 44 = .ok (.putfield 22, 3) := by decide +kernel
theorem dX4_init_47 : decode cX4_init 47 = .ok (.aload_n 0, 1) := by decide +kernel
theorem dX4_init_48 : decode cX4_init 48 = .ok (.bipush 80, 2) := by decide +kernel
theorem dX4_init_50 : decode cX4_init 50 = .ok (.newarray .int, 2) := by decide +kernel
theorem dX4_init_52 : decode cX4_init 52 = .ok (.putfield 25, 3) := by decide +kernel
theorem dX4_init_55 : decode cX4_init 55 = .ok (.aload_n 0, 1) := by decide +kernel
theorem dX4_init_56 : decode cX4_init 56 = .ok (.iconst 2, 1) := by decide +kernel
theorem dX4_init_57 : decode cX4_init 57 = .ok (.newarray .int, 2) := by decide +kernel
theorem dX4_init_59 : decode cX4_init 59 = .ok (.putfield 28, 3) := by decide +kernel
theorem dX4_init_62 : decode cX4_init 62 = .ok (.iconst 0, 1) := by decide +kernel
theorem dX4_init_63 : decode cX4_init 63 = .ok (.istore_n 1, 1) := by decide +kernel
theorem dX4_init_64 : decode cX4_init 64 = .ok (.iload_n 1, 1) := by decide +kernel
theorem dX4_init_65 : decode cX4_init 65 = .ok (.bipush 18, 2) := by decide +kernel
theorem dX4_init_67 : decode cX4_init 67 = .ok (.if_icmp .ge 19, 3) := by decide +kernel
theorem dX4_init_70 : decode cX4_init 70 = .ok (.aload_n 0, 1) := by decide +kernel
theorem dX4_init_71 : decode cX4_init 71 = .ok (.getfield 7, 3) := by decide +kernel
theorem dX4_init_74 : decode cX4_init 74 = .ok (.bipush 124, 2) := by decide +kernel
theorem dX4_init_76 : decode cX4_init 76 = .ok (.iload_n 1, 1) := by decide +kernel
theorem dX4_init_77 : decode cX4_init 77 = .ok (.iadd, 1) := by decide +kernel
theorem dX4_init_78 : decode cX4_init 78 = .ok (.iconst (-1), 1) := by decide +kernel
theorem dX4_init_79 : decode cX4_init 79 = .ok (.iastore, 1) := by decide +kernel
theorem dX4_init_80 : decode cX4_init 80 = .ok (.iinc 1 1, 3) := by decide +kernel
theorem dX4_init_83 : decode cX4_init 83 = .ok (.goto (-19), 3) := by decide +kernel
theorem dX4_init_86 : decode cX4_init 86 = .ok (.return_, 1) := by decide +kernel
theorem dX4_within_0 : decode cX4_within 0 = .ok (.iload_n 0, 1) := by decide +kernel
theorem dX4_within_1 : decode cX4_within 1 = .ok (.iload_n 1, 1) := by decide +kernel
theorem dX4_within_2 : decode cX4_within 2 = .ok (.if_icmp .lt 12, 3) := by decide +kernel
theorem dX4_within_5 : decode cX4_within 5 = .ok (.iload_n 0, 1) := by decide +kernel
theorem dX4_within_6 : decode cX4_within 6 = .ok (.iload_n 2, 1) := by decide +kernel
theorem dX4_within_7 : decode cX4_within 7 = .ok (.if_icmp .gt 7, 3) := by decide +kernel
theorem dX4_within_10 : decode cX4_within 10 = .ok (.iconst 1, 1) := by decide +kernel
theorem dX4_within_11 : decode cX4_within 11 = .ok (.goto 4, 3) := by decide +kernel
theorem dX4_within_14 : decode cX4_within 14 = .ok (.iconst 0, 1) := by decide +kernel
theorem dX4_within_15 : decode cX4_within 15 = .ok (.ireturn, 1) := by decide +kernel
theorem dX4_saves_0 : decode cX4_saves 0 = .ok (.aload_n 0, 1) := by decide +kernel
theorem dX4_saves_1 : decode cX4_saves 1 = .ok (.getfield 31, 3) := by decide +kernel
theorem dX4_saves_4 : decode cX4_saves 4 = .ok (.iconst 4, 1) := by decide +kernel
theorem dX4_saves_5 : decode cX4_saves 5 = .ok (.if_icmp .ne 44, 3) := by decide +kernel
theorem dX4_saves_8 : decode cX4_saves 8 = .ok (.iconst 0, 1) := by decide +kernel
theorem dX4_saves_9 : decode cX4_saves 9 = .ok (.istore_n 1, 1) := by decide +kernel
theorem dX4_saves_10 : decode cX4_saves 10 = .ok (.iload_n 1, 1) := by decide +kernel
theorem dX4_saves_11 : decode cX4_saves 11 = .ok (.sipush 1533, 3) := by decide +kernel
theorem dX4_saves_14 : decode cX4_saves 14 = .ok (.if_icmp .ge 25, 3) := by decide +kernel
theorem dX4_saves_17 : decode cX4_saves 17 = .ok (.aload_n 0, 1) := by decide +kernel
theorem dX4_saves_18 : decode cX4_saves 18 = .ok (.getfield 13, 3) := by decide +kernel
theorem dX4_saves_21 : decode cX4_saves 21 = .ok (.iload_n 1, 1) := by decide +kernel
theorem dX4_saves_22 : decode cX4_saves 22 = .ok (.aload_n 0, 1) := by decide +kernel
theorem dX4_saves_23 : decode cX4_saves 23 = .ok (.getfield 13, 3) := by decide +kernel
theorem dX4_saves_26 : decode cX4_saves 26 = .ok (.iload_n 1, 1) := by decide +kernel
theorem dX4_saves_27 : decode cX4_saves 27 = .ok (.sipush 511, 3) := by decide +kernel
theorem dX4_saves_30 : decode cX4_saves 30 = .ok (.iadd, 1) := by decide +kernel
theorem dX4_saves_31 : decode cX4_saves 31 = .ok (.iaload, 1) := by decide +kernel
theorem dX4_saves_32 : decode cX4_saves 32 = .ok (.iastore, 1) := by decide +kernel
theorem dX4_saves_33 : decode cX4_saves 33 = .ok (.iinc 1 1, 3) := by decide +kernel
theorem dX4_saves_36 : decode cX4_saves 36 = .ok (.goto (-26), 3) := by decide +kernel
theorem dX4_saves_39 : decode cX4_saves 39 = .ok (.aload_n 0, 1) := by decide +kernel
theorem dX4_saves_40 : decode cX4_saves 40 = .ok (.dup, 1) := by decide +kernel
theorem dX4_saves_41 : decode cX4_saves 41 = .ok (.getfield 31, 3) := by decide +kernel
theorem dX4_saves_44 : decode cX4_saves 44 = .ok (.iconst 1, 1) := by decide +kernel
theorem dX4_saves_45 : decode cX4_saves 45 = .ok (.isub, 1) := by decide +kernel
theorem dX4_saves_46 : decode cX4_saves 46 = .ok (.putfield 31, 3) := by decide +kernel
theorem dX4_saves_49 : decode cX4_saves 49 = .ok (.iconst 0, 1) := by decide +kernel
theorem dX4_saves_50 : decode cX4_saves 50 = .ok (.istore_n 1, 1) := by decide +kernel
theorem dX4_saves_51 : decode cX4_saves 51 = .ok (.iload_n 1, 1) := by decide +kernel
theorem dX4_saves_52 : decode cX4_saves 52 = .ok (.sipush 511, 3) := by decide +kernel
theorem dX4_saves_55 : decode cX4_saves 55 = .ok (.if_icmp .ge 30, 3) := by decide +kernel
theorem dX4_saves_58 : decode cX4_saves 58 = .ok (.aload_n 0, 1) := by decide +kernel
theorem dX4_saves_59 : decode cX4_saves 59 = .ok (.getfield 13, 3) := by decide +kernel
theorem dX4_saves_62 : decode cX4_saves 62 = .ok (.sipush 511, 3) := by decide +kernel
theorem dX4_saves_65 : decode cX4_saves 65 = .ok (.aload_n 0, 1) := by decide +kernel
theorem dX4_saves_66 : decode cX4_saves 66 = .ok (.getfield 31, 3) := by decide +kernel
theorem dX4_saves_69 : decode cX4_saves 69 = .ok (.imul, 1) := by decide +kernel
theorem dX4_saves_70 : decode cX4_saves 70 = .ok (.iload_n 1, 1) := by decide +kernel
theorem dX4_saves_71 : decode cX4_saves 71 = .ok (.iadd, 1) := by decide +kernel
theorem dX4_saves_72 : decode cX4_saves 72 = .ok (.aload_n 0, 1) := by decide +kernel
theorem dX4_saves_73 : decode cX4_saves 73 = .ok (.getfield 7, 3) := by decide +kernel
theorem dX4_saves_76 : decode cX4_saves 76 = .ok (.iload_n 1, 1) := by decide +kernel
theorem dX4_saves_77 : decode cX4_saves 77 = .ok (.iaload, 1) := by decide +kernel
theorem dX4_saves_78 : decode cX4_saves 78 = .ok (.iastore, 1) := by decide +kernel
theorem dX4_saves_79 : decode cX4_saves 79 = .ok (.iinc 1 1, 3) := by decide +kernel
theorem dX4_saves_82 : decode cX4_saves 82 = .ok (.goto (-31), 3) := by decide +kernel
theorem dX4_saves_85 : decode cX4_saves 85 = .ok (.aload_n 0, 1) := by decide +kernel
theorem dX4_saves_86 : decode cX4_saves 86 = .ok (.dup, 1) := by decide +kernel
theorem dX4_saves_87 : decode cX4_saves 87 = .ok (.getfield 31, 3) := by decide +kernel
theorem dX4_saves_90 : decode cX4_saves 90 = .ok (.iconst 1, 1) := by decide +kernel
theorem dX4_saves_91 : decode cX4_saves 91 = .ok (.iadd, 1) := by decide +kernel
theorem dX4_saves_92 : decode cX4_saves 92 = .ok (.putfield 31, 3) := by decide +kernel
theorem dX4_saves_95 : decode cX4_saves 95 = .ok (.return_, 1) := by decide +kernel
theorem dX4_undo_0 : decode cX4_undo 0 = .ok (.aload_n 0, 1) := by decide +kernel
theorem dX4_undo_1 : decode cX4_undo 1 = .ok (.getfield 31, 3) := by decide +kernel
theorem dX4_undo_4 : decode cX4_undo 4 = .ok (.ifCond .ne 6, 3) := by decide +kernel
theorem dX4_undo_7 : decode cX4_undo 7 = .ok (.ldc 35, 2) := by decide +kernel
theorem dX4_undo_9 : decode cX4_undo 9 = .ok (.ireturn, 1) := by decide +kernel
theorem dX4_undo_10 : decode cX4_undo 10 = .ok (.aload_n 0, 1) := by decide +kernel
theorem dX4_undo_11 : decode cX4_undo 11 = .ok (.dup, 1) := by decide +kernel
theorem dX4_undo_12 : decode cX4_undo 12 = .ok (.getfield 31, 3) := by decide +kernel
theorem dX4_undo_15 : decode cX4_undo 15 = .ok (.iconst 1, 1) := by decide +kernel
theorem dX4_undo_16 : decode cX4_undo 16 = .ok (.isub, 1) := by decide +kernel
theorem dX4_undo_17 : decode cX4_undo 17 = .ok (.putfield 31, 3) := by decide +kernel
theorem dX4_undo_20 : decode cX4_undo 20 = .ok (.iconst 0, 1) := by decide +kernel
theorem dX4_undo_21 : decode cX4_undo 21 = .ok (.istore_n 1, 1) := by decide +kernel
theorem dX4_undo_22 : decode cX4_undo 22 = .ok (.iload_n 1, 1) := by decide +kernel
theorem dX4_undo_23 : decode cX4_undo 23 = .ok (.sipush 511, 3) := by decide +kernel
theorem dX4_undo_26 : decode cX4_undo 26 = .ok (.if_icmp .ge 30, 3) := by decide +kernel
theorem dX4_undo_29 : decode cX4_undo 29 = .ok (.aload_n 0, 1) := by decide +kernel
theorem dX4_undo_30 : decode cX4_undo 30 = .ok (.getfield 7, 3) := by decide +kernel
theorem dX4_undo_33 : decode cX4_undo 33 = .ok (.iload_n 1, 1) := by decide +kernel
theorem dX4_undo_34 : decode cX4_undo 34 = .ok (.aload_n 0, 1) := by decide +kernel
theorem dX4_undo_35 : decode cX4_undo 35 = .ok (.getfield 13, 3) := by decide +kernel
theorem dX4_undo_38 : decode cX4_undo 38 = .ok (.sipush 511, 3) := by decide +kernel
theorem dX4_undo_41 : decode cX4_undo 41 = .ok (.aload_n 0, 1) := by decide +kernel
theorem dX4_undo_42 : decode cX4_undo 42 = .ok (.getfield 31, 3) := by decide +kernel
theorem dX4_undo_45 : decode cX4_undo 45 = .ok (.imul, 1) := by decide +kernel
theorem dX4_undo_46 : decode cX4_undo 46 = .ok (.iload_n 1, 1) := by decide +kernel
theorem dX4_undo_47 : decode cX4_undo 47 = .ok (.iadd, 1) := by decide +kernel
theorem dX4_undo_48 : decode cX4_undo 48 = .ok (.iaload, 1) := by decide +kernel
theorem dX4_undo_49 : decode cX4_undo 49 = .ok (.iastore, 1) := by decide +kernel
theorem dX4_undo_50 : decode cX4_undo 50 = .ok (.iinc 1 1, 3) := by decide +kernel
theorem dX4_undo_53 : decode cX4_undo 53 = .ok (.goto (-31), 3) := by decide +kernel
theorem dX4_undo_56 : decode cX4_undo 56 = .ok (.aload_n 0, 1) := by decide +kernel
theorem dX4_undo_57 : decode cX4_undo 57 = .ok (.getfield 31, 3) := by decide +kernel
theorem dX4_undo_60 : decode cX4_undo 60 = .ok (.ireturn, 1) := by decide +kernel
set_option maxRecDepth 20000 in
theorem ggX4_isName_X4_within : GoodIn wsX4_isName wsX4_within := goodIn_r _ [5] (by decide +kernel) (by decide +kernel)
set_option maxRecDepth 20000 in
theorem gX4_isName_X4_within : GoodIn wsX4_isName (va_wsS RX4 37 yX4_within wsX4_within) := goodIn_app (goodIn_of _ (by decide +kernel)) ggX4_isName_X4_within
theorem dX4_isName_0 : decode cX4_isName 0 = .ok (.iload_n 0, 1) := by decide +kernel
theorem dX4_isName_1 : decode cX4_isName 1 = .ok (.iconst 1, 1) := by decide +kernel
theorem dX4_isName_2 : decode cX4_isName 2 = .ok (.ldc 36, 2) := by decide +kernel
theorem dX4_isName_4 : decode cX4_isName 4 = .ok (.invokestatic 37, 3) := by decide +kernel
theorem dX4_isName_7 : decode cX4_isName 7 = .ok (.istore_n 1, 1) := by decide +kernel
theorem dX4_isName_8 : decode cX4_isName 8 = .ok (.iload_n 0, 1) := by decide +kernel
theorem dX4_isName_9 : decode cX4_isName 9 = .ok (.istore_n 2, 1) := by decide +kernel
theorem dX4_isName_10 : decode cX4_isName 10 = .ok (.iload_n 2, 1) := by decide +kernel
theorem dX4_isName_11 : decode cX4_isName 11 = .ok (.ifCond .le 28, 3) := by decide +kernel
theorem dX4_isName_14 : decode cX4_isName 14 = .ok (.iload_n 1, 1) := by decide +kernel
theorem dX4_isName_15 : decode cX4_isName 15 = .ok (.ifCond .eq 24, 3) := by decide +kernel
theorem dX4_isName_18 : decode cX4_isName 18 = .ok (.iload_n 2, 1) := by decide +kernel
theorem dX4_isName_19 : decode cX4_isName 19 = .ok (.bipush 27, 2) := by decide +kernel
theorem dX4_isName_21 : decode cX4_isName 21 = .ok (.irem, 1) := by decide +kernel
theorem dX4_isName_22 : decode cX4_isName 22 = .ok (.ifCond .le 7, 3) := by decide +kernel
theorem dX4_isName_25 : decode cX4_isName 25 = .ok (.iconst 1, 1) := by decide +kernel
theorem dX4_isName_26 : decode cX4_isName 26 = .ok (.goto 4, 3) := by decide +kernel
theorem dX4_isName_29 : decode cX4_isName 29 = .ok (.iconst 0, 1) := by decide +kernel
theorem dX4_isName_30 : decode cX4_isName 30 = .ok (.istore_n 1, 1) := by decide +kernel
theorem dX4_isName_31 : decode cX4_isName 31 = .ok (.iload_n 2, 1) := by decide +kernel
theorem dX4_isName_32 : decode cX4_isName 32 = .ok (.bipush 27, 2) := by decide +kernel
theorem dX4_isName_34 : decode cX4_isName 34 = .ok (.idiv, 1) := by decide +kernel
theorem dX4_isName_35 : decode cX4_isName 35 = .ok (.istore_n 2, 1) := by decide +kernel
theorem dX4_isName_36 : decode cX4_isName 36 = .ok (.goto (-26), 3) := by decide +kernel
theorem dX4_isName_39 : decode cX4_isName 39 = .ok (.iload_n 1, 1) := by decide +kernel
theorem dX4_isName_40 : decode cX4_isName 40 = .ok (.ireturn, 1) := by decide +kernel
theorem dX4_padded_0 : decode cX4_padded 0 = .ok (.iload_n 0, 1) := by decide +kernel
theorem dX4_padded_1 : decode cX4_padded 1 = .ok (.istore_n 1, 1) := by decide +kernel
theorem dX4_padded_2 : decode cX4_padded 2 = .ok (.iload_n 1, 1) := by decide +kernel
theorem dX4_padded_3 : decode cX4_padded 3 = .ok (.ifCond .le 17, 3) := by decide +kernel
theorem dX4_padded_6 : decode cX4_padded 6 = .ok (.iload_n 1, 1) := by decide +kernel
theorem dX4_padded_7 : decode cX4_padded 7 = .ok (.ldc 41, 2) := by decide +kernel
theorem dX4_padded_9 : decode cX4_padded 9 = .ok (.if_icmp .ge 11, 3) := by decide +kernel
theorem dX4_padded_12 : decode cX4_padded 12 = .ok (.iload_n 1, 1) := by decide +kernel
theorem dX4_padded_13 : decode cX4_padded 13 = .ok (.bipush 27, 2) := by decide +kernel
theorem dX4_padded_15 : decode cX4_padded 15 = .ok (.imul, 1) := by decide +kernel
theorem dX4_padded_16 : decode cX4_padded 16 = .ok (.istore_n 1, 1) := by decide +kernel
theorem dX4_padded_17 : decode cX4_padded 17 = .ok (.goto (-15), 3) := by decide +kernel
theorem dX4_padded_20 : decode cX4_padded 20 = .ok (.iload_n 1, 1) := by decide +kernel
theorem dX4_padded_21 : decode cX4_padded 21 = .ok (.ireturn, 1) := by decide +kernel
theorem dX4_isNamed_0 : decode cX4_isNamed 0 = .ok (.aload_n 0, 1) := by decide +kernel
theorem dX4_isNamed_1 : decode cX4_isNamed 1 = .ok (.getfield 7, 3) := by decide +kernel
theorem dX4_isNamed_4 : decode cX4_isNamed 4 = .ok (.iconst 4, 1) := by decide +kernel
theorem dX4_isNamed_5 : decode cX4_isNamed 5 = .ok (.iload_n 1, 1) := by decide +kernel
theorem dX4_isNamed_6 : decode cX4_isNamed 6 = .ok (.iadd, 1) := by decide +kernel
theorem dX4_isNamed_7 : decode cX4_isNamed 7 = .ok (.iaload, 1) := by decide +kernel
theorem dX4_isNamed_8 : decode cX4_isNamed 8 = .ok (.ifCond .eq 7, 3) := by decide +kernel
theorem dX4_isNamed_11 : decode cX4_isNamed 11 = .ok (.iconst 1, 1) := by decide +kernel
theorem dX4_isNamed_12 : decode cX4_isNamed 12 = .ok (.goto 4, 3) := by decide +kernel
theorem dX4_isNamed_15 : decode cX4_isNamed 15 = .ok (.iconst 0, 1) := by decide +kernel
theorem dX4_isNamed_16 : decode cX4_isNamed 16 = .ok (.ireturn, 1) := by decide +kernel
theorem dX4_numberWith_0 : decode cX4_numberWith 0 = .ok (.iconst 0, 1) := by decide +kernel
theorem dX4_numberWith_1 : decode cX4_numberWith 1 = .ok (.istore_n 2, 1) := by decide +kernel
theorem dX4_numberWith_2 : decode cX4_numberWith 2 = .ok (.iload_n 2, 1) := by decide +kernel
theorem dX4_numberWith_3 : decode cX4_numberWith 3 = .ok (.bipush 40, 2) := by decide +kernel
theorem dX4_numberWith_5 : decode cX4_numberWith 5 = .ok (.if_icmp .ge 23, 3) := by decide +kernel
theorem dX4_numberWith_8 : decode cX4_numberWith 8 = .ok (.aload_n 0, 1) := by decide +kernel
theorem dX4_numberWith_9 : decode cX4_numberWith 9 = .ok (.getfield 7, 3) := by decide +kernel
theorem dX4_numberWith_12 : decode cX4_numberWith 12 = .ok (.iconst 4, 1) := by decide +kernel
theorem dX4_numberWith_13 : decode cX4_numberWith 13 = .ok (.iload_n 2, 1) := by decide +kernel
theorem dX4_numberWith_14 : decode cX4_numberWith 14 = .ok (.iadd, 1) := by decide +kernel
theorem dX4_numberWith_15 : decode cX4_numberWith 15 = .ok (.iaload, 1) := by decide +kernel
theorem dX4_numberWith_16 : decode cX4_numberWith 16 = .ok (.iload_n 1, 1) := by decide +kernel
theorem dX4_numberWith_17 : decode cX4_numberWith 17 = .ok (.if_icmp .ne 5, 3) := by decide +kernel
theorem dX4_numberWith_20 : decode cX4_numberWith 20 = .ok (.iload_n 2, 1) := by decide +kernel
theorem dX4_numberWith_21 : decode cX4_numberWith 21 = .ok (.ireturn, 1) := by decide +kernel
theorem dX4_numberWith_22 : decode cX4_numberWith 22 = .ok (.iinc 2 1, 3) := by decide +kernel
theorem dX4_numberWith_25 : decode cX4_numberWith 25 = .ok (.goto (-23), 3) := by decide +kernel
theorem dX4_numberWith_28 : decode cX4_numberWith 28 = .ok (.iconst (-1), 1) := by decide +kernel
theorem dX4_numberWith_29 : decode cX4_numberWith 29 = .ok (.ireturn, 1) := by decide +kernel
set_option maxRecDepth 20000 in
theorem ggX4_freeNumber_X4_isNamed : GoodIn wsX4_freeNumber wsX4_isNamed := goodIn_r _ [5, 6, 7, 8, 9, 10, 11, 12, 13, 14, 15, 16, 17, 18, 19, 20, 21, 22, 23] (by decide +kernel) (by decide +kernel)
set_option maxRecDepth 20000 in
theorem gX4_freeNumber_X4_isNamed : GoodIn wsX4_freeNumber (wsV RX4 42 RX4 yX4_isNamed wsX4_isNamed) := goodIn_app (goodIn_of _ (by decide +kernel)) ggX4_freeNumber_X4_isNamed
theorem dX4_freeNumber_0 : decode cX4_freeNumber 0 = .ok (.iconst 0, 1) := by decide +kernel
theorem dX4_freeNumber_1 : decode cX4_freeNumber 1 = .ok (.istore_n 1, 1) := by decide +kernel
theorem dX4_freeNumber_2 : decode cX4_freeNumber 2 = .ok (.iload_n 1, 1) := by decide +kernel
theorem dX4_freeNumber_3 : decode cX4_freeNumber 3 = .ok (.bipush 40, 2) := by decide +kernel
theorem dX4_freeNumber_5 : decode cX4_freeNumber 5 = .ok (.if_icmp .ge 19, 3) := by decide +kernel
theorem dX4_freeNumber_8 : decode cX4_freeNumber 8 = .ok (.aload_n 0, 1) := by decide +kernel
theorem dX4_freeNumber_9 : decode cX4_freeNumber 9 = .ok (.iload_n 1, 1) := by decide +kernel
theorem dX4_freeNumber_10 : decode cX4_freeNumber 10 = .ok (.invokevirtual 42, 3) := by decide +kernel
theorem dX4_freeNumber_13 : decode cX4_freeNumber 13 = .ok (.ifCond .ne 5, 3) := by decide +kernel
theorem dX4_freeNumber_16 : decode cX4_freeNumber 16 = .ok (.iload_n 1, 1) := by decide +kernel
theorem dX4_freeNumber_17 : decode cX4_freeNumber 17 = .ok (.ireturn, 1) := by decide +kernel
theorem dX4_freeNumber_18 : decode cX4_freeNumber 18 = .ok (.iinc 1 1, 3) := by decide +kernel
theorem dX4_freeNumber_21 : decode cX4_freeNumber 21 = .ok (.goto (-19), 3) := by decide +kernel
theorem dX4_freeNumber_24 : decode cX4_freeNumber 24 = .ok (.iconst (-1), 1) := by decide +kernel
theorem dX4_freeNumber_25 : decode cX4_freeNumber 25 = .ok (.ireturn, 1) := by decide +kernel
theorem dX4_tagOf_0 : decode cX4_tagOf 0 = .ok (.ldc 46, 2) := by decide +kernel
theorem dX4_tagOf_2 : decode cX4_tagOf 2 = .ok (.aload_n 0, 1) := by decide +kernel
theorem dX4_tagOf_3 : decode cX4_tagOf 3 = .ok (.getfield 7, 3) := by decide +kernel
theorem dX4_tagOf_6 : decode cX4_tagOf 6 = .ok (.iconst 0, 1) := by decide +kernel
theorem dX4_tagOf_7 : decode cX4_tagOf 7 = .ok (.iaload, 1) := by decide +kernel
theorem dX4_tagOf_8 : decode cX4_tagOf 8 = .ok (.imul, 1) := by decide +kernel
theorem dX4_tagOf_9 : decode cX4_tagOf 9 = .ok (.bipush 100, 2) := by decide +kernel
theorem dX4_tagOf_11 : decode cX4_tagOf 11 = .ok (.aload_n 0, 1) := by decide +kernel
theorem dX4_tagOf_12 : decode cX4_tagOf 12 = .ok (.getfield 7, 3) := by decide +kernel
theorem dX4_tagOf_15 : decode cX4_tagOf 15 = .ok (.bipush 84, 2) := by decide +kernel
theorem dX4_tagOf_17 : decode cX4_tagOf 17 = .ok (.iload_n 1, 1) := by decide +kernel
theorem dX4_tagOf_18 : decode cX4_tagOf 18 = .ok (.iadd, 1) := by decide +kernel
theorem dX4_tagOf_19 : decode cX4_tagOf 19 = .ok (.iaload, 1) := by decide +kernel
theorem dX4_tagOf_20 : decode cX4_tagOf 20 = .ok (.imul, 1) := by decide +kernel
theorem dX4_tagOf_21 : decode cX4_tagOf 21 = .ok (.iadd, 1) := by decide +kernel
theorem dX4_tagOf_22 : decode cX4_tagOf 22 = .ok (.iload_n 1, 1) := by decide +kernel
theorem dX4_tagOf_23 : decode cX4_tagOf 23 = .ok (.iadd, 1) := by decide +kernel
theorem dX4_tagOf_24 : decode cX4_tagOf 24 = .ok (.ireturn, 1) := by decide +kernel
theorem dX4_cellsWith_0 : decode cX4_cellsWith 0 = .ok (.iconst 0, 1) := by decide +kernel
theorem dX4_cellsWith_1 : decode cX4_cellsWith 1 = .ok (.istore_n 2, 1) := by decide +kernel
theorem dX4_cellsWith_2 : decode cX4_cellsWith 2 = .ok (.iconst 0, 1) := by decide +kernel
theorem dX4_cellsWith_3 : decode cX4_cellsWith 3 = .ok (.istore_n 3, 1) := by decide +kernel
theorem dX4_cellsWith_4 : decode cX4_cellsWith 4 = .ok (.iload_n 3, 1) := by decide +kernel
theorem dX4_cellsWith_5 : decode cX4_cellsWith 5 = .ok (.bipush 18, 2) := by decide +kernel
theorem dX4_cellsWith_7 : decode cX4_cellsWith 7 = .ok (.if_icmp .ge 30, 3) := by decide +kernel
theorem dX4_cellsWith_10 : decode cX4_cellsWith 10 = .ok (.iload_n 2, 1) := by decide +kernel
theorem dX4_cellsWith_11 : decode cX4_cellsWith 11 = .ok (.aload_n 0, 1) := by decide +kernel
theorem dX4_cellsWith_12 : decode cX4_cellsWith 12 = .ok (.getfield 7, 3) := by decide +kernel
theorem dX4_cellsWith_15 : decode cX4_cellsWith 15 = .ok (.bipush 124, 2) := by decide +kernel
theorem dX4_cellsWith_17 : decode cX4_cellsWith 17 = .ok (.iload_n 3, 1) := by decide +kernel
theorem dX4_cellsWith_18 : decode cX4_cellsWith 18 = .ok (.iadd, 1) := by decide +kernel
theorem dX4_cellsWith_19 : decode cX4_cellsWith 19 = .ok (.iaload, 1) := by decide +kernel
theorem dX4_cellsWith_20 : decode cX4_cellsWith 20 = .ok (.iload_n 1, 1) := by decide +kernel
theorem dX4_cellsWith_21 : decode cX4_cellsWith 21 = .ok (.if_icmp .ne 7, 3) := by decide +kernel
theorem dX4_cellsWith_24 : decode cX4_cellsWith 24 = .ok (.iconst 1, 1) := by decide +kernel
theorem dX4_cellsWith_25 : decode cX4_cellsWith 25 = .ok (.goto 4, 3) := by decide +kernel
theorem dX4_cellsWith_28 : decode cX4_cellsWith 28 = .ok (.iconst 0, 1) := by decide +kernel
theorem dX4_cellsWith_29 : decode cX4_cellsWith 29 = .ok (.iadd, 1) := by decide +kernel
theorem dX4_cellsWith_30 : decode cX4_cellsWith 30 = .ok (.istore_n 2, 1) := by decide +kernel
theorem dX4_cellsWith_31 : decode cX4_cellsWith 31 = .ok (.iinc 3 1, 3) := by decide +kernel
theorem dX4_cellsWith_34 : decode cX4_cellsWith 34 = .ok (.goto (-30), 3) := by decide +kernel
theorem dX4_cellsWith_37 : decode cX4_cellsWith 37 = .ok (.iload_n 2, 1) := by decide +kernel
theorem dX4_cellsWith_38 : decode cX4_cellsWith 38 = .ok (.ireturn, 1) := by decide +kernel
theorem dX4_givesBack_0 : decode cX4_givesBack 0 = .ok (.aload_n 0, 1) := by decide +kernel
theorem dX4_givesBack_1 : decode cX4_givesBack 1 = .ok (.getfield 7, 3) := by decide +kernel
theorem dX4_givesBack_4 : decode cX4_givesBack 4 = .ok (.bipush 44, 2) := by decide +kernel
theorem dX4_givesBack_6 : decode cX4_givesBack 6 = .ok (.iload_n 1, 1) := by decide +kernel
theorem dX4_givesBack_7 : decode cX4_givesBack 7 = .ok (.iadd, 1) := by decide +kernel
theorem dX4_givesBack_8 : decode cX4_givesBack 8 = .ok (.dup2, 1) := by decide +kernel
theorem dX4_givesBack_9 : decode cX4_givesBack 9 = .ok (.iaload, 1) := by decide +kernel
theorem dX4_givesBack_10 : decode cX4_givesBack 10 = .ok (.iconst 1, 1) := by decide +kernel
theorem dX4_givesBack_11 : decode cX4_givesBack 11 = .ok (.isub, 1) := by decide +kernel
theorem dX4_givesBack_12 : decode cX4_givesBack 12 = .ok (.iastore, 1) := by decide +kernel
theorem dX4_givesBack_13 : decode cX4_givesBack 13 = .ok (.aload_n 0, 1) := by decide +kernel
theorem dX4_givesBack_14 : decode cX4_givesBack 14 = .ok (.getfield 7, 3) := by decide +kernel
theorem dX4_givesBack_17 : decode cX4_givesBack 17 = .ok (.bipush 44, 2) := by decide +kernel
theorem dX4_givesBack_19 : decode cX4_givesBack 19 = .ok (.iload_n 1, 1) := by decide +kernel
theorem dX4_givesBack_20 : decode cX4_givesBack 20 = .ok (.iadd, 1) := by decide +kernel
theorem dX4_givesBack_21 : decode cX4_givesBack 21 = .ok (.iaload, 1) := by decide +kernel
theorem dX4_givesBack_22 : decode cX4_givesBack 22 = .ok (.ifCond .ne 35, 3) := by decide +kernel
theorem dX4_givesBack_25 : decode cX4_givesBack 25 = .ok (.aload_n 0, 1) := by decide +kernel
theorem dX4_givesBack_26 : decode cX4_givesBack 26 = .ok (.getfield 7, 3) := by decide +kernel
theorem dX4_givesBack_29 : decode cX4_givesBack 29 = .ok (.iconst 4, 1) := by decide +kernel
theorem dX4_givesBack_30 : decode cX4_givesBack 30 = .ok (.iload_n 1, 1) := by decide +kernel
theorem dX4_givesBack_31 : decode cX4_givesBack 31 = .ok (.iadd, 1) := by decide +kernel
theorem dX4_givesBack_32 : decode cX4_givesBack 32 = .ok (.iconst 0, 1) := by decide +kernel
theorem dX4_givesBack_33 : decode cX4_givesBack 33 = .ok (.iastore, 1) := by decide +kernel
theorem dX4_givesBack_34 : decode cX4_givesBack 34 = .ok (.aload_n 0, 1) := by decide +kernel
theorem dX4_givesBack_35 : decode cX4_givesBack 35 = .ok (.getfield 7, 3) := by decide +kernel
theorem dX4_givesBack_38 : decode cX4_givesBack 38 = .ok (.bipush 84, 2) := by decide +kernel
theorem dX4_givesBack_40 : decode cX4_givesBack 40 = .ok (.iload_n 1, 1) := by decide +kernel
theorem dX4_givesBack_41 : decode cX4_givesBack 41 = .ok (.iadd, 1) := by decide +kernel
theorem dX4_givesBack_42 : decode cX4_givesBack 42 = .ok (.dup2, 1) := by decide +kernel
theorem dX4_givesBack_43 : decode cX4_givesBack 43 = .ok (.iaload, 1) := by decide +kernel
theorem dX4_givesBack_44 : decode cX4_givesBack 44 = .ok (.iconst 1, 1) := by decide +kernel
theorem dX4_givesBack_45 : decode cX4_givesBack 45 = .ok (.iadd, 1) := by decide +kernel
theorem dX4_givesBack_46 : decode cX4_givesBack 46 = .ok (.iastore, 1) := by decide +kernel
theorem dX4_givesBack_47 : decode cX4_givesBack 47 = .ok (.aload_n 0, 1) := by decide +kernel
theorem dX4_givesBack_48 : decode cX4_givesBack 48 = .ok (.getfield 7, 3) := by decide +kernel
theorem dX4_givesBack_51 : decode cX4_givesBack 51 = .ok (.iconst 2, 1) := by decide +kernel
theorem dX4_givesBack_52 : decode cX4_givesBack 52 = .ok (.dup2, 1) := by decide +kernel
theorem dX4_givesBack_53 : decode cX4_givesBack 53 = .ok (.iaload, 1) := by decide +kernel
theorem dX4_givesBack_54 : decode cX4_givesBack 54 = .ok (.iconst 1, 1) := by decide +kernel
theorem dX4_givesBack_55 : decode cX4_givesBack 55 = .ok (.iadd, 1) := by decide +kernel
theorem dX4_givesBack_56 : decode cX4_givesBack 56 = .ok (.iastore, 1) := by decide +kernel
theorem dX4_givesBack_57 : decode cX4_givesBack 57 = .ok (.aload_n 0, 1) := by decide +kernel
theorem dX4_givesBack_58 : decode cX4_givesBack 58 = .ok (.getfield 7, 3) := by decide +kernel
theorem dX4_givesBack_61 : decode cX4_givesBack 61 = .ok (.bipush 44, 2) := by decide +kernel
theorem dX4_givesBack_63 : decode cX4_givesBack 63 = .ok (.iload_n 1, 1) := by decide +kernel
theorem dX4_givesBack_64 : decode cX4_givesBack 64 = .ok (.iadd, 1) := by decide +kernel
theorem dX4_givesBack_65 : decode cX4_givesBack 65 = .ok (.iaload, 1) := by decide +kernel
end
section
theorem dX4_givesBack_66 : decode cX4_givesBack 66 = .ok (.ireturn, 1) := by decide +kernel
set_option maxRecDepth 20000 in
theorem ggX4_canAcquire_X4_numberWith : GoodIn wsX4_canAcquire wsX4_numberWith := goodIn_r _ [6, 1, 15, 16, 17, 18, 19, 20, 21, 22, 23, 24, 25, 26, 27, 28, 29, 30, 31] (by decide +kernel) (by decide +kernel)
set_option maxRecDepth 20000 in
theorem gX4_canAcquire_X4_numberWith : GoodIn wsX4_canAcquire (wsV RX4 47 RX4 yX4_numberWith wsX4_numberWith) := goodIn_app (goodIn_of _ (by decide +kernel)) ggX4_canAcquire_X4_numberWith
set_option maxRecDepth 20000 in
theorem ggX4_canAcquire_X4_freeNumber : GoodIn wsX4_canAcquire wsX4_freeNumber := goodIn_r _ [10, 11, 12, 13, 5, 14, 1, 15, 16, 17, 18, 19, 20, 21, 22, 23, 24, 25, 26, 27, 28, 29, 30, 31] (by decide +kernel) (by decide +kernel)
set_option maxRecDepth 20000 in
theorem gX4_canAcquire_X4_freeNumber : GoodIn wsX4_canAcquire (wsV RX4 51 RX4 yX4_freeNumber wsX4_freeNumber) := goodIn_app (goodIn_of _ (by decide +kernel)) ggX4_canAcquire_X4_freeNumber
theorem dX4_canAcquire_0 : decode cX4_canAcquire 0 = .ok (.aload_n 0, 1) := by decide +kernel
theorem dX4_canAcquire_1 : decode cX4_canAcquire 1 = .ok (.iload_n 1, 1) := by decide +kernel
theorem dX4_canAcquire_2 : decode cX4_canAcquire 2 = .ok (.invokevirtual 47, 3) := by decide +kernel
theorem dX4_canAcquire_5 : decode cX4_canAcquire 5 = .ok (.istore_n 2, 1) := by decide +kernel
theorem dX4_canAcquire_6 : decode cX4_canAcquire 6 = .ok (.iload_n 2, 1) := by decide +kernel
theorem dX4_canAcquire_7 : decode cX4_canAcquire 7 = .ok (.ifCond .lt 26, 3) := by decide +kernel
theorem dX4_canAcquire_10 : decode cX4_canAcquire 10 = .ok (.aload_n 0, 1) := by decide +kernel
theorem dX4_canAcquire_11 : decode cX4_canAcquire 11 = .ok (.getfield 7, 3) := by decide +kernel
theorem dX4_canAcquire_14 : decode cX4_canAcquire 14 = .ok (.bipush 44, 2) := by decide +kernel
theorem dX4_canAcquire_16 : decode cX4_canAcquire 16 = .ok (.iload_n 2, 1) := by decide +kernel
theorem dX4_canAcquire_17 : decode cX4_canAcquire 17 = .ok (.iadd, 1) := by decide +kernel
theorem dX4_canAcquire_18 : decode cX4_canAcquire 18 = .ok (.iaload, 1) := by decide +kernel
theorem dX4_canAcquire_19 : decode cX4_canAcquire 19 = .ok (.sipush 999, 3) := by decide +kernel
theorem dX4_canAcquire_22 : decode cX4_canAcquire 22 = .ok (.if_icmp .ge 7, 3) := by decide +kernel
theorem dX4_canAcquire_25 : decode cX4_canAcquire 25 = .ok (.iconst 1, 1) := by decide +kernel
theorem dX4_canAcquire_26 : decode cX4_canAcquire 26 = .ok (.goto 19, 3) := by decide +kernel
theorem dX4_canAcquire_29 : decode cX4_canAcquire 29 = .ok (.iconst 0, 1) := by decide +kernel
theorem dX4_canAcquire_30 : decode cX4_canAcquire 30 = .ok (.goto 15, 3) := by decide +kernel
theorem dX4_canAcquire_33 : decode cX4_canAcquire 33 = .ok (.aload_n 0, 1) := by decide +kernel
theorem dX4_canAcquire_34 : decode cX4_canAcquire 34 = .ok (.invokevirtual 51, 3) := by decide +kernel
theorem dX4_canAcquire_37 : decode cX4_canAcquire 37 = .ok (.ifCond .lt 7, 3) := by decide +kernel
theorem dX4_canAcquire_40 : decode cX4_canAcquire 40 = .ok (.iconst 1, 1) := by decide +kernel
theorem dX4_canAcquire_41 : decode cX4_canAcquire 41 = .ok (.goto 4, 3) := by decide +kernel
theorem dX4_canAcquire_44 : decode cX4_canAcquire 44 = .ok (.iconst 0, 1) := by decide +kernel
theorem dX4_canAcquire_45 : decode cX4_canAcquire 45 = .ok (.ireturn, 1) := by decide +kernel
set_option maxRecDepth 20000 in
theorem ggX4_acquires_X4_numberWith : GoodIn wsX4_acquires wsX4_numberWith := goodIn_r _ [6, 1, 20, 21, 22, 23, 24, 25, 26, 27, 28, 29, 30, 31, 32, 33, 34, 35, 36] (by decide +kernel) (by decide +kernel)
set_option maxRecDepth 20000 in
theorem gX4_acquires_X4_numberWith : GoodIn wsX4_acquires (wsV RX4 47 RX4 yX4_numberWith wsX4_numberWith) := goodIn_app (goodIn_of _ (by decide +kernel)) ggX4_acquires_X4_numberWith
set_option maxRecDepth 20000 in
theorem ggX4_acquires_X4_freeNumber : GoodIn wsX4_acquires wsX4_freeNumber := goodIn_r _ [10, 11, 12, 13, 5, 14, 1, 20, 21, 22, 23, 24, 25, 26, 27, 28, 29, 30, 31, 32, 33, 34, 35, 36] (by decide +kernel) (by decide +kernel)
set_option maxRecDepth 20000 in
theorem gX4_acquires_X4_freeNumber : GoodIn wsX4_acquires (wsV RX4 51 RX4 yX4_freeNumber wsX4_freeNumber) := goodIn_app (goodIn_of _ (by decide +kernel)) ggX4_acquires_X4_freeNumber
set_option maxRecDepth 20000 in
theorem ggX4_acquires_X4_tagOf : GoodIn wsX4_acquires wsX4_tagOf := goodIn_r _ [18, 19, 1, 20, 21, 22, 23, 24, 25, 26, 27, 28, 29, 30, 31, 32, 33, 34, 35, 36] (by decide +kernel) (by decide +kernel)
set_option maxRecDepth 20000 in
theorem gX4_acquires_X4_tagOf : GoodIn wsX4_acquires (wsV RX4 55 RX4 yX4_tagOf wsX4_tagOf) := goodIn_app (goodIn_of _ (by decide +kernel)) ggX4_acquires_X4_tagOf
theorem dX4_acquires_0 : decode cX4_acquires 0 = .ok (.aload_n 0, 1) := by decide +kernel
theorem dX4_acquires_1 : decode cX4_acquires 1 = .ok (.iload_n 1, 1) := by decide +kernel
theorem dX4_acquires_2 : decode cX4_acquires 2 = .ok (.invokevirtual 47, 3) := by decide +kernel
theorem dX4_acquires_5 : decode cX4_acquires 5 = .ok (.istore_n 2, 1) := by decide +kernel
theorem dX4_acquires_6 : decode cX4_acquires 6 = .ok (.iload_n 2, 1) := by decide +kernel
theorem dX4_acquires_7 : decode cX4_acquires 7 = .ok (.ifCond .ge 37, 3) := by decide +kernel
theorem dX4_acquires_10 : decode cX4_acquires 10 = .ok (.aload_n 0, 1) := by decide +kernel
theorem dX4_acquires_11 : decode cX4_acquires 11 = .ok (.invokevirtual 51, 3) := by decide +kernel
theorem dX4_acquires_14 : decode cX4_acquires 14 = .ok (.istore_n 2, 1) := by decide +kernel
theorem dX4_acquires_15 : decode cX4_acquires 15 = .ok (.aload_n 0, 1) := by decide +kernel
theorem dX4_acquires_16 : decode cX4_acquires 16 = .ok (.getfield 7, 3) := by decide +kernel
theorem dX4_acquires_19 : decode cX4_acquires 19 = .ok (.iconst 4, 1) := by decide +kernel
theorem dX4_acquires_20 : decode cX4_acquires 20 = .ok (.iload_n 2, 1) := by decide +kernel
theorem dX4_acquires_21 : decode cX4_acquires 21 = .ok (.iadd, 1) := by decide +kernel
theorem dX4_acquires_22 : decode cX4_acquires 22 = .ok (.iload_n 1, 1) := by decide +kernel
theorem dX4_acquires_23 : decode cX4_acquires 23 = .ok (.iastore, 1) := by decide +kernel
theorem dX4_acquires_24 : decode cX4_acquires 24 = .ok (.aload_n 0, 1) := by decide +kernel
theorem dX4_acquires_25 : decode cX4_acquires 25 = .ok (.getfield 7, 3) := by decide +kernel
theorem dX4_acquires_28 : decode cX4_acquires 28 = .ok (.bipush 44, 2) := by decide +kernel
theorem dX4_acquires_30 : decode cX4_acquires 30 = .ok (.iload_n 2, 1) := by decide +kernel
theorem dX4_acquires_31 : decode cX4_acquires 31 = .ok (.iadd, 1) := by decide +kernel
theorem dX4_acquires_32 : decode cX4_acquires 32 = .ok (.iconst 0, 1) := by decide +kernel
theorem dX4_acquires_33 : decode cX4_acquires 33 = .ok (.iastore, 1) := by decide +kernel
theorem dX4_acquires_34 : decode cX4_acquires 34 = .ok (.aload_n 0, 1) := by decide +kernel
theorem dX4_acquires_35 : decode cX4_acquires 35 = .ok (.getfield 7, 3) := by decide +kernel
theorem dX4_acquires_38 : decode cX4_acquires 38 = .ok (.iconst 1, 1) := by decide +kernel
theorem dX4_acquires_39 : decode cX4_acquires 39 = .ok (.dup2, 1) := by decide +kernel
theorem dX4_acquires_40 : decode cX4_acquires 40 = .ok (.iaload, 1) := by decide +kernel
theorem dX4_acquires_41 : decode cX4_acquires 41 = .ok (.iconst 1, 1) := by decide +kernel
theorem dX4_acquires_42 : decode cX4_acquires 42 = .ok (.iadd, 1) := by decide +kernel
theorem dX4_acquires_43 : decode cX4_acquires 43 = .ok (.iastore, 1) := by decide +kernel
theorem dX4_acquires_44 : decode cX4_acquires 44 = .ok (.aload_n 0, 1) := by decide +kernel
theorem dX4_acquires_45 : decode cX4_acquires 45 = .ok (.getfield 7, 3) := by decide +kernel
theorem dX4_acquires_48 : decode cX4_acquires 48 = .ok (.bipush 44, 2) := by decide +kernel
theorem dX4_acquires_50 : decode cX4_acquires 50 = .ok (.iload_n 2, 1) := by decide +kernel
theorem dX4_acquires_51 : decode cX4_acquires 51 = .ok (.iadd, 1) := by decide +kernel
theorem dX4_acquires_52 : decode cX4_acquires 52 = .ok (.dup2, 1) := by decide +kernel
theorem dX4_acquires_53 : decode cX4_acquires 53 = .ok (.iaload, 1) := by decide +kernel
theorem dX4_acquires_54 : decode cX4_acquires 54 = .ok (.iconst 1, 1) := by decide +kernel
theorem dX4_acquires_55 : decode cX4_acquires 55 = .ok (.iadd, 1) := by decide +kernel
theorem dX4_acquires_56 : decode cX4_acquires 56 = .ok (.iastore, 1) := by decide +kernel
theorem dX4_acquires_57 : decode cX4_acquires 57 = .ok (.aload_n 0, 1) := by decide +kernel
theorem dX4_acquires_58 : decode cX4_acquires 58 = .ok (.iload_n 2, 1) := by decide +kernel
theorem dX4_acquires_59 : decode cX4_acquires 59 = .ok (.invokevirtual 55, 3) := by decide +kernel
theorem dX4_acquires_62 : decode cX4_acquires 62 = .ok (.ireturn, 1) := by decide +kernel
set_option maxRecDepth 20000 in
theorem ggX4_acquire_X4_isName : GoodIn wsX4_acquire wsX4_isName := goodIn_r _ [6, 7, 8, 9, 5, 10] (by decide +kernel) (by decide +kernel)
set_option maxRecDepth 20000 in
theorem gX4_acquire_X4_isName : GoodIn wsX4_acquire (va_wsS RX4 58 yX4_isName wsX4_isName) := goodIn_app (goodIn_of _ (by decide +kernel)) ggX4_acquire_X4_isName
set_option maxRecDepth 20000 in
theorem ggX4_acquire_X4_canAcquire : GoodIn wsX4_acquire wsX4_canAcquire := goodIn_r _ [14, 15, 16, 17, 18, 5, 19, 20, 21, 22, 23, 24, 25, 26, 27, 43, 44, 45, 46, 47, 48, 49, 50, 51, 52, 53, 54, 55, 56, 57, 58, 59] (by decide +kernel) (by decide +kernel)
set_option maxRecDepth 20000 in
theorem gX4_acquire_X4_canAcquire : GoodIn wsX4_acquire (wsV RX4 62 RX4 yX4_canAcquire wsX4_canAcquire) := goodIn_app (goodIn_of _ (by decide +kernel)) ggX4_acquire_X4_canAcquire
set_option maxRecDepth 20000 in
theorem ggX4_acquire_X4_saves : GoodIn wsX4_acquire wsX4_saves := goodIn_r _ [31, 32, 33, 15, 43, 44, 45, 46, 47, 48, 49, 50, 51, 52, 53, 54, 55, 56, 57, 58, 59] (by decide +kernel) (by decide +kernel)
set_option maxRecDepth 20000 in
theorem gX4_acquire_X4_saves : GoodIn wsX4_acquire (wsV RX4 66 RX4 yX4_saves wsX4_saves) := goodIn_app (goodIn_of _ (by decide +kernel)) ggX4_acquire_X4_saves
set_option maxRecDepth 20000 in
theorem ggX4_acquire_X4_acquires : GoodIn wsX4_acquire wsX4_acquires := goodIn_r _ [37, 15, 16, 17, 18, 5, 19, 20, 21, 22, 23, 24, 25, 26, 27, 38, 39, 40, 41, 42, 43, 44, 45, 46, 47, 48, 49, 50, 51, 52, 53, 54, 55, 56, 57, 58, 59] (by decide +kernel) (by decide +kernel)
set_option maxRecDepth 20000 in
theorem gX4_acquire_X4_acquires : GoodIn wsX4_acquire (wsV RX4 69 RX4 yX4_acquires wsX4_acquires) := goodIn_app (goodIn_of _ (by decide +kernel)) ggX4_acquire_X4_acquires
theorem dX4_acquire_0 : decode cX4_acquire 0 = .ok (.iload_n 1, 1) := by decide +kernel
theorem dX4_acquire_1 : decode cX4_acquire 1 = .ok (.invokestatic 58, 3) := by decide +kernel
theorem dX4_acquire_4 : decode cX4_acquire 4 = .ok (.ifCond .ne 6, 3) := by decide +kernel
theorem dX4_acquire_7 : decode cX4_acquire 7 = .ok (.ldc 61, 2) := by decide +kernel
theorem dX4_acquire_9 : decode cX4_acquire 9 = .ok (.ireturn, 1) := by decide +kernel
theorem dX4_acquire_10 : decode cX4_acquire 10 = .ok (.aload_n 0, 1) := by decide +kernel
theorem dX4_acquire_11 : decode cX4_acquire 11 = .ok (.iload_n 1, 1) := by decide +kernel
theorem dX4_acquire_12 : decode cX4_acquire 12 = .ok (.invokevirtual 62, 3) := by decide +kernel
theorem dX4_acquire_15 : decode cX4_acquire 15 = .ok (.ifCond .ne 6, 3) := by decide +kernel
theorem dX4_acquire_18 : decode cX4_acquire 18 = .ok (.ldc 65, 2) := by decide +kernel
theorem dX4_acquire_20 : decode cX4_acquire 20 = .ok (.ireturn, 1) := by decide +kernel
theorem dX4_acquire_21 : decode cX4_acquire 21 = .ok (.aload_n 0, 1) := by decide +kernel
theorem dX4_acquire_22 : decode cX4_acquire 22 = .ok (.invokevirtual 66, 3) := by decide +kernel
theorem dX4_acquire_25 : decode cX4_acquire 25 = .ok (.aload_n 0, 1) := by decide +kernel
theorem dX4_acquire_26 : decode cX4_acquire 26 = .ok (.iload_n 1, 1) := by decide +kernel
theorem dX4_acquire_27 : decode cX4_acquire 27 = .ok (.invokevirtual 69, 3) := by decide +kernel
theorem dX4_acquire_30 : decode cX4_acquire 30 = .ok (.ireturn, 1) := by decide +kernel
theorem dX4_kept_0 : decode cX4_kept 0 = .ok (.aload_n 0, 1) := by decide +kernel
theorem dX4_kept_1 : decode cX4_kept 1 = .ok (.getfield 7, 3) := by decide +kernel
theorem dX4_kept_4 : decode cX4_kept 4 = .ok (.iconst 3, 1) := by decide +kernel
theorem dX4_kept_5 : decode cX4_kept 5 = .ok (.iaload, 1) := by decide +kernel
theorem dX4_kept_6 : decode cX4_kept 6 = .ok (.iconst 3, 1) := by decide +kernel
theorem dX4_kept_7 : decode cX4_kept 7 = .ok (.if_icmp .ge 12, 3) := by decide +kernel
theorem dX4_kept_10 : decode cX4_kept 10 = .ok (.aload_n 0, 1) := by decide +kernel
theorem dX4_kept_11 : decode cX4_kept 11 = .ok (.getfield 7, 3) := by decide +kernel
theorem dX4_kept_14 : decode cX4_kept 14 = .ok (.iconst 3, 1) := by decide +kernel
theorem dX4_kept_15 : decode cX4_kept 15 = .ok (.iaload, 1) := by decide +kernel
theorem dX4_kept_16 : decode cX4_kept 16 = .ok (.goto 4, 3) := by decide +kernel
theorem dX4_kept_19 : decode cX4_kept 19 = .ok (.iconst 3, 1) := by decide +kernel
theorem dX4_kept_20 : decode cX4_kept 20 = .ok (.ireturn, 1) := by decide +kernel
theorem dX4_ofCompaction_0 : decode cX4_ofCompaction 0 = .ok (.aload_n 0, 1) := by decide +kernel
theorem dX4_ofCompaction_1 : decode cX4_ofCompaction 1 = .ok (.getfield 7, 3) := by decide +kernel
theorem dX4_ofCompaction_4 : decode cX4_ofCompaction 4 = .ok (.sipush 142, 3) := by decide +kernel
theorem dX4_ofCompaction_7 : decode cX4_ofCompaction 7 = .ok (.bipush 123, 2) := by decide +kernel
theorem dX4_ofCompaction_9 : decode cX4_ofCompaction 9 = .ok (.iload_n 1, 1) := by decide +kernel
theorem dX4_ofCompaction_10 : decode cX4_ofCompaction 10 = .ok (.imul, 1) := by decide +kernel
theorem dX4_ofCompaction_11 : decode cX4_ofCompaction 11 = .ok (.iadd, 1) := by decide +kernel
theorem dX4_ofCompaction_12 : decode cX4_ofCompaction 12 = .ok (.iload_n 2, 1) := by decide +kernel
theorem dX4_ofCompaction_13 : decode cX4_ofCompaction 13 = .ok (.iadd, 1) := by decide +kernel
theorem dX4_ofCompaction_14 : decode cX4_ofCompaction 14 = .ok (.iaload, 1) := by decide +kernel
theorem dX4_ofCompaction_15 : decode cX4_ofCompaction 15 = .ok (.ireturn, 1) := by decide +kernel
set_option maxRecDepth 20000 in
theorem ggX4_reasonOf_X4_kept : GoodIn wsX4_reasonOf wsX4_kept := goodIn_r _ [8, 2, 17, 18, 19, 20, 21, 22, 23, 24, 25, 26, 27, 28, 29, 30, 31, 32, 33] (by decide +kernel) (by decide +kernel)
set_option maxRecDepth 20000 in
theorem gX4_reasonOf_X4_kept : GoodIn wsX4_reasonOf (wsV RX4 72 RX4 yX4_kept wsX4_kept) := goodIn_app (goodIn_of _ (by decide +kernel)) ggX4_reasonOf_X4_kept
set_option maxRecDepth 20000 in
theorem ggX4_reasonOf_X4_ofCompaction : GoodIn wsX4_reasonOf wsX4_ofCompaction := goodIn_r _ [12, 2, 17, 18, 19, 20, 21, 22, 23, 24, 25, 26, 27, 28, 29, 30, 31, 32, 33] (by decide +kernel) (by decide +kernel)
set_option maxRecDepth 20000 in
theorem gX4_reasonOf_X4_ofCompaction : GoodIn wsX4_reasonOf (wsV RX4 75 RX4 yX4_ofCompaction wsX4_ofCompaction) := goodIn_app (goodIn_of _ (by decide +kernel)) ggX4_reasonOf_X4_ofCompaction
set_option maxRecDepth 20000 in
theorem ggX4_reasonOf_X4_isNamed : GoodIn wsX4_reasonOf wsX4_isNamed := goodIn_r _ [16, 2, 17, 18, 19, 20, 21, 22, 23, 24, 25, 26, 27, 28, 29, 30, 31, 32, 33] (by decide +kernel) (by decide +kernel)
set_option maxRecDepth 20000 in
theorem gX4_reasonOf_X4_isNamed : GoodIn wsX4_reasonOf (wsV RX4 42 RX4 yX4_isNamed wsX4_isNamed) := goodIn_app (goodIn_of _ (by decide +kernel)) ggX4_reasonOf_X4_isNamed
theorem dX4_reasonOf_0 : decode cX4_reasonOf 0 = .ok (.iload_n 1, 1) := by decide +kernel
theorem dX4_reasonOf_1 : decode cX4_reasonOf 1 = .ok (.bipush 100, 2) := by decide +kernel
theorem dX4_reasonOf_3 : decode cX4_reasonOf 3 = .ok (.irem, 1) := by decide +kernel
theorem dX4_reasonOf_4 : decode cX4_reasonOf 4 = .ok (.istore_n 2, 1) := by decide +kernel
theorem dX4_reasonOf_5 : decode cX4_reasonOf 5 = .ok (.iload_n 1, 1) := by decide +kernel
theorem dX4_reasonOf_6 : decode cX4_reasonOf 6 = .ok (.ifCond .lt 22, 3) := by decide +kernel
theorem dX4_reasonOf_9 : decode cX4_reasonOf 9 = .ok (.iload_n 2, 1) := by decide +kernel
theorem dX4_reasonOf_10 : decode cX4_reasonOf 10 = .ok (.bipush 40, 2) := by decide +kernel
theorem dX4_reasonOf_12 : decode cX4_reasonOf 12 = .ok (.if_icmp .ge 16, 3) := by decide +kernel
theorem dX4_reasonOf_15 : decode cX4_reasonOf 15 = .ok (.iload_n 1, 1) := by decide +kernel
theorem dX4_reasonOf_16 : decode cX4_reasonOf 16 = .ok (.ldc 46, 2) := by decide +kernel
theorem dX4_reasonOf_18 : decode cX4_reasonOf 18 = .ok (.idiv, 1) := by decide +kernel
theorem dX4_reasonOf_19 : decode cX4_reasonOf 19 = .ok (.aload_n 0, 1) := by decide +kernel
theorem dX4_reasonOf_20 : decode cX4_reasonOf 20 = .ok (.getfield 7, 3) := by decide +kernel
theorem dX4_reasonOf_23 : decode cX4_reasonOf 23 = .ok (.iconst 0, 1) := by decide +kernel
theorem dX4_reasonOf_24 : decode cX4_reasonOf 24 = .ok (.iaload, 1) := by decide +kernel
theorem dX4_reasonOf_25 : decode cX4_reasonOf 25 = .ok (.if_icmp .le 5, 3) := by decide +kernel
theorem dX4_reasonOf_28 : decode cX4_reasonOf 28 = .ok (.iconst 1, 1) := by decide +kernel
theorem dX4_reasonOf_29 : decode cX4_reasonOf 29 = .ok (.ireturn, 1) := by decide +kernel
theorem dX4_reasonOf_30 : decode cX4_reasonOf 30 = .ok (.iload_n 1, 1) := by decide +kernel
theorem dX4_reasonOf_31 : decode cX4_reasonOf 31 = .ok (.ldc 46, 2) := by decide +kernel
theorem dX4_reasonOf_33 : decode cX4_reasonOf 33 = .ok (.idiv, 1) := by decide +kernel
theorem dX4_reasonOf_34 : decode cX4_reasonOf 34 = .ok (.istore_n 3, 1) := by decide +kernel
theorem dX4_reasonOf_35 : decode cX4_reasonOf 35 = .ok (.iload_n 1, 1) := by decide +kernel
theorem dX4_reasonOf_36 : decode cX4_reasonOf 36 = .ok (.bipush 100, 2) := by decide +kernel
theorem dX4_reasonOf_38 : decode cX4_reasonOf 38 = .ok (.idiv, 1) := by decide +kernel
theorem dX4_reasonOf_39 : decode cX4_reasonOf 39 = .ok (.sipush 10000, 3) := by decide +kernel
theorem dX4_reasonOf_42 : decode cX4_reasonOf 42 = .ok (.irem, 1) := by decide +kernel
theorem dX4_reasonOf_43 : decode cX4_reasonOf 43 = .ok (.istore 4, 2) := by decide +kernel
theorem dX4_reasonOf_45 : decode cX4_reasonOf 45 = .ok (.iload_n 3, 1) := by decide +kernel
theorem dX4_reasonOf_46 : decode cX4_reasonOf 46 = .ok (.aload_n 0, 1) := by decide +kernel
theorem dX4_reasonOf_47 : decode cX4_reasonOf 47 = .ok (.getfield 7, 3) := by decide +kernel
theorem dX4_reasonOf_50 : decode cX4_reasonOf 50 = .ok (.iconst 0, 1) := by decide +kernel
theorem dX4_reasonOf_51 : decode cX4_reasonOf 51 = .ok (.iaload, 1) := by decide +kernel
theorem dX4_reasonOf_52 : decode cX4_reasonOf 52 = .ok (.aload_n 0, 1) := by decide +kernel
theorem dX4_reasonOf_53 : decode cX4_reasonOf 53 = .ok (.invokevirtual 72, 3) := by decide +kernel
theorem dX4_reasonOf_56 : decode cX4_reasonOf 56 = .ok (.isub, 1) := by decide +kernel
theorem dX4_reasonOf_57 : decode cX4_reasonOf 57 = .ok (.if_icmp .ge 5, 3) := by decide +kernel
theorem dX4_reasonOf_60 : decode cX4_reasonOf 60 = .ok (.iconst 2, 1) := by decide +kernel
theorem dX4_reasonOf_61 : decode cX4_reasonOf 61 = .ok (.ireturn, 1) := by decide +kernel
theorem dX4_reasonOf_62 : decode cX4_reasonOf 62 = .ok (.iload_n 3, 1) := by decide +kernel
theorem dX4_reasonOf_63 : decode cX4_reasonOf 63 = .ok (.istore 5, 2) := by decide +kernel
theorem dX4_reasonOf_65 : decode cX4_reasonOf 65 = .ok (.iload 5, 2) := by decide +kernel
theorem dX4_reasonOf_67 : decode cX4_reasonOf 67 = .ok (.aload_n 0, 1) := by decide +kernel
theorem dX4_reasonOf_68 : decode cX4_reasonOf 68 = .ok (.getfield 7, 3) := by decide +kernel
theorem dX4_reasonOf_71 : decode cX4_reasonOf 71 = .ok (.iconst 0, 1) := by decide +kernel
theorem dX4_reasonOf_72 : decode cX4_reasonOf 72 = .ok (.iaload, 1) := by decide +kernel
theorem dX4_reasonOf_73 : decode cX4_reasonOf 73 = .ok (.if_icmp .ge 61, 3) := by decide +kernel
theorem dX4_reasonOf_76 : decode cX4_reasonOf 76 = .ok (.aload_n 0, 1) := by decide +kernel
theorem dX4_reasonOf_77 : decode cX4_reasonOf 77 = .ok (.getfield 7, 3) := by decide +kernel
theorem dX4_reasonOf_80 : decode cX4_reasonOf 80 = .ok (.iconst 0, 1) := by decide +kernel
theorem dX4_reasonOf_81 : decode cX4_reasonOf 81 = .ok (.iaload, 1) := by decide +kernel
theorem dX4_reasonOf_82 : decode cX4_reasonOf 82 = .ok (.iconst 1, 1) := by decide +kernel
theorem dX4_reasonOf_83 : decode cX4_reasonOf 83 = .ok (.isub, 1) := by decide +kernel
theorem dX4_reasonOf_84 : decode cX4_reasonOf 84 = .ok (.iload 5, 2) := by decide +kernel
theorem dX4_reasonOf_86 : decode cX4_reasonOf 86 = .ok (.isub, 1) := by decide +kernel
theorem dX4_reasonOf_87 : decode cX4_reasonOf 87 = .ok (.istore 6, 2) := by decide +kernel
theorem dX4_reasonOf_89 : decode cX4_reasonOf 89 = .ok (.aload_n 0, 1) := by decide +kernel
theorem dX4_reasonOf_90 : decode cX4_reasonOf 90 = .ok (.iload 6, 2) := by decide +kernel
theorem dX4_reasonOf_92 : decode cX4_reasonOf 92 = .ok (.iconst 3, 1) := by decide +kernel
theorem dX4_reasonOf_93 : decode cX4_reasonOf 93 = .ok (.iload_n 2, 1) := by decide +kernel
theorem dX4_reasonOf_94 : decode cX4_reasonOf 94 = .ok (.iadd, 1) := by decide +kernel
theorem dX4_reasonOf_95 : decode cX4_reasonOf 95 = .ok (.invokevirtual 75, 3) := by decide +kernel
theorem dX4_reasonOf_98 : decode cX4_reasonOf 98 = .ok (.iload 4, 2) := by decide +kernel
theorem dX4_reasonOf_100 : decode cX4_reasonOf 100 = .ok (.if_icmp .eq 5, 3) := by decide +kernel
theorem dX4_reasonOf_103 : decode cX4_reasonOf 103 = .ok (.iconst 3, 1) := by decide +kernel
theorem dX4_reasonOf_104 : decode cX4_reasonOf 104 = .ok (.ireturn, 1) := by decide +kernel
theorem dX4_reasonOf_105 : decode cX4_reasonOf 105 = .ok (.aload_n 0, 1) := by decide +kernel
theorem dX4_reasonOf_106 : decode cX4_reasonOf 106 = .ok (.iload 6, 2) := by decide +kernel
theorem dX4_reasonOf_108 : decode cX4_reasonOf 108 = .ok (.bipush 83, 2) := by decide +kernel
theorem dX4_reasonOf_110 : decode cX4_reasonOf 110 = .ok (.iload_n 2, 1) := by decide +kernel
theorem dX4_reasonOf_111 : decode cX4_reasonOf 111 = .ok (.iadd, 1) := by decide +kernel
theorem dX4_reasonOf_112 : decode cX4_reasonOf 112 = .ok (.invokevirtual 75, 3) := by decide +kernel
theorem dX4_reasonOf_115 : decode cX4_reasonOf 115 = .ok (.istore 4, 2) := by decide +kernel
theorem dX4_reasonOf_117 : decode cX4_reasonOf 117 = .ok (.aload_n 0, 1) := by decide +kernel
theorem dX4_reasonOf_118 : decode cX4_reasonOf 118 = .ok (.iload 6, 2) := by decide +kernel
theorem dX4_reasonOf_120 : decode cX4_reasonOf 120 = .ok (.bipush 43, 2) := by decide +kernel
theorem dX4_reasonOf_122 : decode cX4_reasonOf 122 = .ok (.iload_n 2, 1) := by decide +kernel
theorem dX4_reasonOf_123 : decode cX4_reasonOf 123 = .ok (.iadd, 1) := by decide +kernel
theorem dX4_reasonOf_124 : decode cX4_reasonOf 124 = .ok (.invokevirtual 75, 3) := by decide +kernel
theorem dX4_reasonOf_127 : decode cX4_reasonOf 127 = .ok (.istore_n 2, 1) := by decide +kernel
theorem dX4_reasonOf_128 : decode cX4_reasonOf 128 = .ok (.iinc 5 1, 3) := by decide +kernel
theorem dX4_reasonOf_131 : decode cX4_reasonOf 131 = .ok (.goto (-66), 3) := by decide +kernel
theorem dX4_reasonOf_134 : decode cX4_reasonOf 134 = .ok (.aload_n 0, 1) := by decide +kernel
theorem dX4_reasonOf_135 : decode cX4_reasonOf 135 = .ok (.iload_n 2, 1) := by decide +kernel
theorem dX4_reasonOf_136 : decode cX4_reasonOf 136 = .ok (.putfield 79, 3) := by decide +kernel
theorem dX4_reasonOf_139 : decode cX4_reasonOf 139 = .ok (.aload_n 0, 1) := by decide +kernel
theorem dX4_reasonOf_140 : decode cX4_reasonOf 140 = .ok (.iload_n 2, 1) := by decide +kernel
theorem dX4_reasonOf_141 : decode cX4_reasonOf 141 = .ok (.invokevirtual 42, 3) := by decide +kernel
theorem dX4_reasonOf_144 : decode cX4_reasonOf 144 = .ok (.ifCond .eq 21, 3) := by decide +kernel
theorem dX4_reasonOf_147 : decode cX4_reasonOf 147 = .ok (.aload_n 0, 1) := by decide +kernel
theorem dX4_reasonOf_148 : decode cX4_reasonOf 148 = .ok (.getfield 7, 3) := by decide +kernel
theorem dX4_reasonOf_151 : decode cX4_reasonOf 151 = .ok (.bipush 84, 2) := by decide +kernel
theorem dX4_reasonOf_153 : decode cX4_reasonOf 153 = .ok (.iload_n 2, 1) := by decide +kernel
theorem dX4_reasonOf_154 : decode cX4_reasonOf 154 = .ok (.iadd, 1) := by decide +kernel
theorem dX4_reasonOf_155 : decode cX4_reasonOf 155 = .ok (.iaload, 1) := by decide +kernel
theorem dX4_reasonOf_156 : decode cX4_reasonOf 156 = .ok (.iload 4, 2) := by decide +kernel
theorem dX4_reasonOf_158 : decode cX4_reasonOf 158 = .ok (.if_icmp .ne 7, 3) := by decide +kernel
theorem dX4_reasonOf_161 : decode cX4_reasonOf 161 = .ok (.iconst 0, 1) := by decide +kernel
theorem dX4_reasonOf_162 : decode cX4_reasonOf 162 = .ok (.goto 4, 3) := by decide +kernel
theorem dX4_reasonOf_165 : decode cX4_reasonOf 165 = .ok (.iconst 4, 1) := by decide +kernel
theorem dX4_reasonOf_166 : decode cX4_reasonOf 166 = .ok (.ireturn, 1) := by decide +kernel
set_option maxRecDepth 20000 in
theorem ggX4_why_X4_reasonOf : GoodIn wsX4_why wsX4_reasonOf := goodIn_r _ [5, 6, 7, 8, 9, 10, 11, 4, 12, 13, 14, 15, 16, 17, 18, 19, 20, 21, 22, 23, 24, 25, 26, 27, 28, 29, 30, 31, 32, 33, 34, 35, 36, 37] (by decide +kernel) (by decide +kernel)
set_option maxRecDepth 20000 in
theorem gX4_why_X4_reasonOf : GoodIn wsX4_why (wsV RX4 82 RX4 yX4_reasonOf wsX4_reasonOf) := goodIn_app (goodIn_of _ (by decide +kernel)) ggX4_why_X4_reasonOf
theorem dX4_why_0 : decode cX4_why 0 = .ok (.aload_n 0, 1) := by decide +kernel
theorem dX4_why_1 : decode cX4_why 1 = .ok (.iload_n 1, 1) := by decide +kernel
theorem dX4_why_2 : decode cX4_why 2 = .ok (.invokevirtual 82, 3) := by decide +kernel
theorem dX4_why_5 : decode cX4_why 5 = .ok (.ireturn, 1) := by decide +kernel
set_option maxRecDepth 20000 in
theorem ggX4_follow_X4_reasonOf : GoodIn wsX4_follow wsX4_reasonOf := goodIn_r _ [7, 8, 9, 2, 10, 11, 12, 6, 13, 14, 15, 16, 17, 18, 19, 20, 21, 26, 27, 28, 29, 30, 31, 32, 33, 34, 35, 36, 37, 38, 39, 40, 41, 42] (by decide +kernel) (by decide +kernel)
set_option maxRecDepth 20000 in
theorem gX4_follow_X4_reasonOf : GoodIn wsX4_follow (wsV RX4 82 RX4 yX4_reasonOf wsX4_reasonOf) := goodIn_app (goodIn_of _ (by decide +kernel)) ggX4_follow_X4_reasonOf
set_option maxRecDepth 20000 in
theorem ggX4_follow_X4_tagOf : GoodIn wsX4_follow wsX4_tagOf := goodIn_r _ [25, 8, 9, 26, 27, 28, 29, 30, 31, 32, 33, 34, 35, 36, 37, 38, 39, 40, 41, 42] (by decide +kernel) (by decide +kernel)
set_option maxRecDepth 20000 in
theorem gX4_follow_X4_tagOf : GoodIn wsX4_follow (wsV RX4 55 RX4 yX4_tagOf wsX4_tagOf) := goodIn_app (goodIn_of _ (by decide +kernel)) ggX4_follow_X4_tagOf
theorem dX4_follow_0 : decode cX4_follow 0 = .ok (.aload_n 0, 1) := by decide +kernel
theorem dX4_follow_1 : decode cX4_follow 1 = .ok (.iload_n 1, 1) := by decide +kernel
theorem dX4_follow_2 : decode cX4_follow 2 = .ok (.invokevirtual 82, 3) := by decide +kernel
theorem dX4_follow_5 : decode cX4_follow 5 = .ok (.ifCond .eq 8, 3) := by decide +kernel
theorem dX4_follow_8 : decode cX4_follow 8 = .ok (.ldc 85, 2) := by decide +kernel
theorem dX4_follow_10 : decode cX4_follow 10 = .ok (.goto 11, 3) := by decide +kernel
theorem dX4_follow_13 : decode cX4_follow 13 = .ok (.aload_n 0, 1) := by decide +kernel
theorem dX4_follow_14 : decode cX4_follow 14 = .ok (.aload_n 0, 1) := by decide +kernel
theorem dX4_follow_15 : decode cX4_follow 15 = .ok (.getfield 79, 3) := by decide +kernel
theorem dX4_follow_18 : decode cX4_follow 18 = .ok (.invokevirtual 55, 3) := by decide +kernel
theorem dX4_follow_21 : decode cX4_follow 21 = .ok (.ireturn, 1) := by decide +kernel
set_option maxRecDepth 20000 in
theorem ggX4_nameOf_X4_reasonOf : GoodIn wsX4_nameOf wsX4_reasonOf := goodIn_r _ [8, 9, 2, 3, 10, 11, 12, 7, 13, 14, 15, 16, 17, 18, 19, 20, 21, 22, 23, 24, 25, 26, 27, 28, 29, 30, 31, 32, 33, 34, 35, 36, 37, 38] (by decide +kernel) (by decide +kernel)
set_option maxRecDepth 20000 in
theorem gX4_nameOf_X4_reasonOf : GoodIn wsX4_nameOf (wsV RX4 82 RX4 yX4_reasonOf wsX4_reasonOf) := goodIn_app (goodIn_of _ (by decide +kernel)) ggX4_nameOf_X4_reasonOf
theorem dX4_nameOf_0 : decode cX4_nameOf 0 = .ok (.aload_n 0, 1) := by decide +kernel
theorem dX4_nameOf_1 : decode cX4_nameOf 1 = .ok (.iload_n 1, 1) := by decide +kernel
theorem dX4_nameOf_2 : decode cX4_nameOf 2 = .ok (.invokevirtual 82, 3) := by decide +kernel
theorem dX4_nameOf_5 : decode cX4_nameOf 5 = .ok (.ifCond .eq 8, 3) := by decide +kernel
theorem dX4_nameOf_8 : decode cX4_nameOf 8 = .ok (.ldc 85, 2) := by decide +kernel
theorem dX4_nameOf_10 : decode cX4_nameOf 10 = .ok (.goto 14, 3) := by decide +kernel
theorem dX4_nameOf_13 : decode cX4_nameOf 13 = .ok (.aload_n 0, 1) := by decide +kernel
theorem dX4_nameOf_14 : decode cX4_nameOf 14 = .ok (.getfield 7, 3) := by decide +kernel
theorem dX4_nameOf_17 : decode cX4_nameOf 17 = .ok (.iconst 4, 1) := by decide +kernel
theorem dX4_nameOf_18 : decode cX4_nameOf 18 = .ok (.aload_n 0, 1) := by decide +kernel
theorem dX4_nameOf_19 : decode cX4_nameOf 19 = .ok (.getfield 79, 3) := by decide +kernel
theorem dX4_nameOf_22 : decode cX4_nameOf 22 = .ok (.iadd, 1) := by decide +kernel
theorem dX4_nameOf_23 : decode cX4_nameOf 23 = .ok (.iaload, 1) := by decide +kernel
theorem dX4_nameOf_24 : decode cX4_nameOf 24 = .ok (.ireturn, 1) := by decide +kernel
set_option maxRecDepth 20000 in
theorem ggX4_use_X4_reasonOf : GoodIn wsX4_use wsX4_reasonOf := goodIn_r _ [9, 10, 2, 3, 11, 12, 13, 8, 14, 15, 16, 17, 18, 19, 20, 21, 22, 29, 30, 31, 32, 33, 34, 35, 36, 37, 38, 39, 40, 41, 42, 43, 44, 45] (by decide +kernel) (by decide +kernel)
set_option maxRecDepth 20000 in
theorem gX4_use_X4_reasonOf : GoodIn wsX4_use (wsV RX4 82 RX4 yX4_reasonOf wsX4_reasonOf) := goodIn_app (goodIn_of _ (by decide +kernel)) ggX4_use_X4_reasonOf
set_option maxRecDepth 20000 in
theorem ggX4_use_X4_saves : GoodIn wsX4_use wsX4_saves := goodIn_r _ [26, 27, 28, 2, 29, 30, 31, 32, 33, 34, 35, 36, 37, 38, 39, 40, 41, 42, 43, 44, 45] (by decide +kernel) (by decide +kernel)
set_option maxRecDepth 20000 in
theorem gX4_use_X4_saves : GoodIn wsX4_use (wsV RX4 66 RX4 yX4_saves wsX4_saves) := goodIn_app (goodIn_of _ (by decide +kernel)) ggX4_use_X4_saves
theorem dX4_use_0 : decode cX4_use 0 = .ok (.aload_n 0, 1) := by decide +kernel
theorem dX4_use_1 : decode cX4_use 1 = .ok (.iload_n 1, 1) := by decide +kernel
theorem dX4_use_2 : decode cX4_use 2 = .ok (.invokevirtual 82, 3) := by decide +kernel
theorem dX4_use_5 : decode cX4_use 5 = .ok (.ifCond .eq 6, 3) := by decide +kernel
theorem dX4_use_8 : decode cX4_use 8 = .ok (.ldc 85, 2) := by decide +kernel
theorem dX4_use_10 : decode cX4_use 10 = .ok (.ireturn, 1) := by decide +kernel
theorem dX4_use_11 : decode cX4_use 11 = .ok (.aload_n 0, 1) := by decide +kernel
theorem dX4_use_12 : decode cX4_use 12 = .ok (.getfield 7, 3) := by decide +kernel
theorem dX4_use_15 : decode cX4_use 15 = .ok (.bipush 44, 2) := by decide +kernel
theorem dX4_use_17 : decode cX4_use 17 = .ok (.aload_n 0, 1) := by decide +kernel
theorem dX4_use_18 : decode cX4_use 18 = .ok (.getfield 79, 3) := by decide +kernel
theorem dX4_use_21 : decode cX4_use 21 = .ok (.iadd, 1) := by decide +kernel
theorem dX4_use_22 : decode cX4_use 22 = .ok (.iaload, 1) := by decide +kernel
theorem dX4_use_23 : decode cX4_use 23 = .ok (.sipush 999, 3) := by decide +kernel
theorem dX4_use_26 : decode cX4_use 26 = .ok (.if_icmp .ne 6, 3) := by decide +kernel
theorem dX4_use_29 : decode cX4_use 29 = .ok (.ldc 65, 2) := by decide +kernel
theorem dX4_use_31 : decode cX4_use 31 = .ok (.ireturn, 1) := by decide +kernel
theorem dX4_use_32 : decode cX4_use 32 = .ok (.aload_n 0, 1) := by decide +kernel
theorem dX4_use_33 : decode cX4_use 33 = .ok (.invokevirtual 66, 3) := by decide +kernel
theorem dX4_use_36 : decode cX4_use 36 = .ok (.aload_n 0, 1) := by decide +kernel
theorem dX4_use_37 : decode cX4_use 37 = .ok (.getfield 7, 3) := by decide +kernel
theorem dX4_use_40 : decode cX4_use 40 = .ok (.bipush 44, 2) := by decide +kernel
theorem dX4_use_42 : decode cX4_use 42 = .ok (.aload_n 0, 1) := by decide +kernel
theorem dX4_use_43 : decode cX4_use 43 = .ok (.getfield 79, 3) := by decide +kernel
theorem dX4_use_46 : decode cX4_use 46 = .ok (.iadd, 1) := by decide +kernel
theorem dX4_use_47 : decode cX4_use 47 = .ok (.dup2, 1) := by decide +kernel
theorem dX4_use_48 : decode cX4_use 48 = .ok (.iaload, 1) := by decide +kernel
theorem dX4_use_49 : decode cX4_use 49 = .ok (.iconst 1, 1) := by decide +kernel
theorem dX4_use_50 : decode cX4_use 50 = .ok (.iadd, 1) := by decide +kernel
theorem dX4_use_51 : decode cX4_use 51 = .ok (.iastore, 1) := by decide +kernel
theorem dX4_use_52 : decode cX4_use 52 = .ok (.aload_n 0, 1) := by decide +kernel
theorem dX4_use_53 : decode cX4_use 53 = .ok (.getfield 7, 3) := by decide +kernel
theorem dX4_use_56 : decode cX4_use 56 = .ok (.bipush 44, 2) := by decide +kernel
theorem dX4_use_58 : decode cX4_use 58 = .ok (.aload_n 0, 1) := by decide +kernel
theorem dX4_use_59 : decode cX4_use 59 = .ok (.getfield 79, 3) := by decide +kernel
theorem dX4_use_62 : decode cX4_use 62 = .ok (.iadd, 1) := by decide +kernel
theorem dX4_use_63 : decode cX4_use 63 = .ok (.iaload, 1) := by decide +kernel
theorem dX4_use_64 : decode cX4_use 64 = .ok (.ireturn, 1) := by decide +kernel
set_option maxRecDepth 20000 in
theorem ggX4_release_X4_reasonOf : GoodIn wsX4_release wsX4_reasonOf := goodIn_r _ [9, 10, 2, 3, 11, 12, 13, 8, 14, 15, 16, 17, 18, 19, 20, 21, 22, 37, 38, 39, 40, 41, 42, 43, 44, 45, 46, 47, 48, 49, 50, 51, 52, 53] (by decide +kernel) (by decide +kernel)
set_option maxRecDepth 20000 in
theorem gX4_release_X4_reasonOf : GoodIn wsX4_release (wsV RX4 82 RX4 yX4_reasonOf wsX4_reasonOf) := goodIn_app (goodIn_of _ (by decide +kernel)) ggX4_release_X4_reasonOf
set_option maxRecDepth 20000 in
theorem ggX4_release_X4_cellsWith : GoodIn wsX4_release wsX4_cellsWith := goodIn_r _ [26, 2, 37, 38, 39, 40, 41, 42, 43, 44, 45, 46, 47, 48, 49, 50, 51, 52, 53] (by decide +kernel) (by decide +kernel)
set_option maxRecDepth 20000 in
theorem gX4_release_X4_cellsWith : GoodIn wsX4_release (wsV RX4 86 RX4 yX4_cellsWith wsX4_cellsWith) := goodIn_app (goodIn_of _ (by decide +kernel)) ggX4_release_X4_cellsWith
set_option maxRecDepth 20000 in
theorem ggX4_release_X4_saves : GoodIn wsX4_release wsX4_saves := goodIn_r _ [30, 31, 32, 2, 37, 38, 39, 40, 41, 42, 43, 44, 45, 46, 47, 48, 49, 50, 51, 52, 53] (by decide +kernel) (by decide +kernel)
set_option maxRecDepth 20000 in
theorem gX4_release_X4_saves : GoodIn wsX4_release (wsV RX4 66 RX4 yX4_saves wsX4_saves) := goodIn_app (goodIn_of _ (by decide +kernel)) ggX4_release_X4_saves
set_option maxRecDepth 20000 in
theorem ggX4_release_X4_givesBack : GoodIn wsX4_release wsX4_givesBack := goodIn_r _ [36, 2, 37, 38, 39, 40, 41, 42, 43, 44, 45, 46, 47, 48, 49, 50, 51, 52, 53] (by decide +kernel) (by decide +kernel)
set_option maxRecDepth 20000 in
theorem gX4_release_X4_givesBack : GoodIn wsX4_release (wsV RX4 89 RX4 yX4_givesBack wsX4_givesBack) := goodIn_app (goodIn_of _ (by decide +kernel)) ggX4_release_X4_givesBack
theorem dX4_release_0 : decode cX4_release 0 = .ok (.aload_n 0, 1) := by decide +kernel
theorem dX4_release_1 : decode cX4_release 1 = .ok (.iload_n 1, 1) := by decide +kernel
theorem dX4_release_2 : decode cX4_release 2 = .ok (.invokevirtual 82, 3) := by decide +kernel
theorem dX4_release_5 : decode cX4_release 5 = .ok (.ifCond .eq 6, 3) := by decide +kernel
theorem dX4_release_8 : decode cX4_release 8 = .ok (.ldc 85, 2) := by decide +kernel
theorem dX4_release_10 : decode cX4_release 10 = .ok (.ireturn, 1) := by decide +kernel
theorem dX4_release_11 : decode cX4_release 11 = .ok (.aload_n 0, 1) := by decide +kernel
theorem dX4_release_12 : decode cX4_release 12 = .ok (.getfield 7, 3) := by decide +kernel
theorem dX4_release_15 : decode cX4_release 15 = .ok (.bipush 44, 2) := by decide +kernel
theorem dX4_release_17 : decode cX4_release 17 = .ok (.aload_n 0, 1) := by decide +kernel
theorem dX4_release_18 : decode cX4_release 18 = .ok (.getfield 79, 3) := by decide +kernel
theorem dX4_release_21 : decode cX4_release 21 = .ok (.iadd, 1) := by decide +kernel
theorem dX4_release_22 : decode cX4_release 22 = .ok (.iaload, 1) := by decide +kernel
theorem dX4_release_23 : decode cX4_release 23 = .ok (.aload_n 0, 1) := by decide +kernel
theorem dX4_release_24 : decode cX4_release 24 = .ok (.aload_n 0, 1) := by decide +kernel
theorem dX4_release_25 : decode cX4_release 25 = .ok (.getfield 79, 3) := by decide +kernel
theorem dX4_release_28 : decode cX4_release 28 = .ok (.invokevirtual 86, 3) := by decide +kernel
theorem dX4_release_31 : decode cX4_release 31 = .ok (.if_icmp .ne 6, 3) := by decide +kernel
theorem dX4_release_34 : decode cX4_release 34 = .ok (.ldc 35, 2) := by decide +kernel
theorem dX4_release_36 : decode cX4_release 36 = .ok (.ireturn, 1) := by decide +kernel
theorem dX4_release_37 : decode cX4_release 37 = .ok (.aload_n 0, 1) := by decide +kernel
theorem dX4_release_38 : decode cX4_release 38 = .ok (.invokevirtual 66, 3) := by decide +kernel
theorem dX4_release_41 : decode cX4_release 41 = .ok (.aload_n 0, 1) := by decide +kernel
theorem dX4_release_42 : decode cX4_release 42 = .ok (.aload_n 0, 1) := by decide +kernel
theorem dX4_release_43 : decode cX4_release 43 = .ok (.getfield 79, 3) := by decide +kernel
theorem dX4_release_46 : decode cX4_release 46 = .ok (.invokevirtual 89, 3) := by decide +kernel
theorem dX4_release_49 : decode cX4_release 49 = .ok (.ireturn, 1) := by decide +kernel
set_option maxRecDepth 20000 in
theorem ggX4_isCell_X4_within : GoodIn wsX4_isCell wsX4_within := goodIn_r _ [4] (by decide +kernel) (by decide +kernel)
set_option maxRecDepth 20000 in
theorem gX4_isCell_X4_within : GoodIn wsX4_isCell (va_wsS RX4 37 yX4_within wsX4_within) := goodIn_app (goodIn_of _ (by decide +kernel)) ggX4_isCell_X4_within
theorem dX4_isCell_0 : decode cX4_isCell 0 = .ok (.iload_n 0, 1) := by decide +kernel
theorem dX4_isCell_1 : decode cX4_isCell 1 = .ok (.iconst 0, 1) := by decide +kernel
theorem dX4_isCell_2 : decode cX4_isCell 2 = .ok (.iconst 2, 1) := by decide +kernel
theorem dX4_isCell_3 : decode cX4_isCell 3 = .ok (.invokestatic 37, 3) := by decide +kernel
theorem dX4_isCell_6 : decode cX4_isCell 6 = .ok (.ifCond .eq 16, 3) := by decide +kernel
theorem dX4_isCell_9 : decode cX4_isCell 9 = .ok (.iload_n 1, 1) := by decide +kernel
theorem dX4_isCell_10 : decode cX4_isCell 10 = .ok (.iconst 0, 1) := by decide +kernel
theorem dX4_isCell_11 : decode cX4_isCell 11 = .ok (.iconst 5, 1) := by decide +kernel
theorem dX4_isCell_12 : decode cX4_isCell 12 = .ok (.invokestatic 37, 3) := by decide +kernel
theorem dX4_isCell_15 : decode cX4_isCell 15 = .ok (.ifCond .eq 7, 3) := by decide +kernel
theorem dX4_isCell_18 : decode cX4_isCell 18 = .ok (.iconst 1, 1) := by decide +kernel
theorem dX4_isCell_19 : decode cX4_isCell 19 = .ok (.goto 4, 3) := by decide +kernel
theorem dX4_isCell_22 : decode cX4_isCell 22 = .ok (.iconst 0, 1) := by decide +kernel
theorem dX4_isCell_23 : decode cX4_isCell 23 = .ok (.ireturn, 1) := by decide +kernel
set_option maxRecDepth 20000 in
theorem ggX4_puts_X4_givesBack : GoodIn wsX4_puts wsX4_givesBack := goodIn_r _ [6, 1, 7, 8, 9, 10, 11, 12, 13, 14, 15, 16, 17, 18, 19, 20, 21, 22, 23] (by decide +kernel) (by decide +kernel)
set_option maxRecDepth 20000 in
theorem gX4_puts_X4_givesBack : GoodIn wsX4_puts (wsV RX4 89 RX4 yX4_givesBack wsX4_givesBack) := goodIn_app (goodIn_of _ (by decide +kernel)) ggX4_puts_X4_givesBack
theorem dX4_puts_0 : decode cX4_puts 0 = .ok (.aload_n 0, 1) := by decide +kernel
theorem dX4_puts_1 : decode cX4_puts 1 = .ok (.getfield 7, 3) := by decide +kernel
theorem dX4_puts_4 : decode cX4_puts 4 = .ok (.bipush 124, 2) := by decide +kernel
theorem dX4_puts_6 : decode cX4_puts 6 = .ok (.iload_n 1, 1) := by decide +kernel
theorem dX4_puts_7 : decode cX4_puts 7 = .ok (.iadd, 1) := by decide +kernel
theorem dX4_puts_8 : decode cX4_puts 8 = .ok (.iaload, 1) := by decide +kernel
theorem dX4_puts_9 : decode cX4_puts 9 = .ok (.istore_n 3, 1) := by decide +kernel
theorem dX4_puts_10 : decode cX4_puts 10 = .ok (.aload_n 0, 1) := by decide +kernel
theorem dX4_puts_11 : decode cX4_puts 11 = .ok (.getfield 7, 3) := by decide +kernel
theorem dX4_puts_14 : decode cX4_puts 14 = .ok (.bipush 44, 2) := by decide +kernel
theorem dX4_puts_16 : decode cX4_puts 16 = .ok (.iload_n 2, 1) := by decide +kernel
theorem dX4_puts_17 : decode cX4_puts 17 = .ok (.iadd, 1) := by decide +kernel
theorem dX4_puts_18 : decode cX4_puts 18 = .ok (.dup2, 1) := by decide +kernel
theorem dX4_puts_19 : decode cX4_puts 19 = .ok (.iaload, 1) := by decide +kernel
theorem dX4_puts_20 : decode cX4_puts 20 = .ok (.iconst 1, 1) := by decide +kernel
theorem dX4_puts_21 : decode cX4_puts 21 = .ok (.iadd, 1) := by decide +kernel
theorem dX4_puts_22 : decode cX4_puts 22 = .ok (.iastore, 1) := by decide +kernel
theorem dX4_puts_23 : decode cX4_puts 23 = .ok (.aload_n 0, 1) := by decide +kernel
theorem dX4_puts_24 : decode cX4_puts 24 = .ok (.getfield 7, 3) := by decide +kernel
theorem dX4_puts_27 : decode cX4_puts 27 = .ok (.bipush 124, 2) := by decide +kernel
theorem dX4_puts_29 : decode cX4_puts 29 = .ok (.iload_n 1, 1) := by decide +kernel
theorem dX4_puts_30 : decode cX4_puts 30 = .ok (.iadd, 1) := by decide +kernel
theorem dX4_puts_31 : decode cX4_puts 31 = .ok (.iload_n 2, 1) := by decide +kernel
theorem dX4_puts_32 : decode cX4_puts 32 = .ok (.iastore, 1) := by decide +kernel
theorem dX4_puts_33 : decode cX4_puts 33 = .ok (.iload_n 3, 1) := by decide +kernel
theorem dX4_puts_34 : decode cX4_puts 34 = .ok (.ifCond .lt 9, 3) := by decide +kernel
theorem dX4_puts_37 : decode cX4_puts 37 = .ok (.aload_n 0, 1) := by decide +kernel
theorem dX4_puts_38 : decode cX4_puts 38 = .ok (.iload_n 3, 1) := by decide +kernel
theorem dX4_puts_39 : decode cX4_puts 39 = .ok (.invokevirtual 89, 3) := by decide +kernel
theorem dX4_puts_42 : decode cX4_puts 42 = .ok (.pop, 1) := by decide +kernel
theorem dX4_puts_43 : decode cX4_puts 43 = .ok (.aload_n 0, 1) := by decide +kernel
theorem dX4_puts_44 : decode cX4_puts 44 = .ok (.getfield 7, 3) := by decide +kernel
theorem dX4_puts_47 : decode cX4_puts 47 = .ok (.bipush 44, 2) := by decide +kernel
theorem dX4_puts_49 : decode cX4_puts 49 = .ok (.iload_n 2, 1) := by decide +kernel
theorem dX4_puts_50 : decode cX4_puts 50 = .ok (.iadd, 1) := by decide +kernel
theorem dX4_puts_51 : decode cX4_puts 51 = .ok (.iaload, 1) := by decide +kernel
theorem dX4_puts_52 : decode cX4_puts 52 = .ok (.ireturn, 1) := by decide +kernel
set_option maxRecDepth 20000 in
theorem ggX4_put_X4_isCell : GoodIn wsX4_put wsX4_isCell := goodIn_r _ [9, 10, 11, 8, 12] (by decide +kernel) (by decide +kernel)
set_option maxRecDepth 20000 in
theorem gX4_put_X4_isCell : GoodIn wsX4_put (va_wsS RX4 92 yX4_isCell wsX4_isCell) := goodIn_app (goodIn_of _ (by decide +kernel)) ggX4_put_X4_isCell
set_option maxRecDepth 20000 in
theorem ggX4_put_X4_reasonOf : GoodIn wsX4_put wsX4_reasonOf := goodIn_r _ [16, 17, 3, 4, 18, 19, 20, 8, 21, 22, 23, 24, 25, 26, 27, 28, 29, 44, 45, 46, 47, 48, 49, 50, 51, 52, 53, 54, 55, 56, 57, 58, 59, 60] (by decide +kernel) (by decide +kernel)
set_option maxRecDepth 20000 in
theorem gX4_put_X4_reasonOf : GoodIn wsX4_put (wsV RX4 82 RX4 yX4_reasonOf wsX4_reasonOf) := goodIn_app (goodIn_of _ (by decide +kernel)) ggX4_put_X4_reasonOf
set_option maxRecDepth 20000 in
theorem ggX4_put_X4_saves : GoodIn wsX4_put wsX4_saves := goodIn_r _ [33, 34, 35, 3, 44, 45, 46, 47, 48, 49, 50, 51, 52, 53, 54, 55, 56, 57, 58, 59, 60] (by decide +kernel) (by decide +kernel)
set_option maxRecDepth 20000 in
theorem gX4_put_X4_saves : GoodIn wsX4_put (wsV RX4 66 RX4 yX4_saves wsX4_saves) := goodIn_app (goodIn_of _ (by decide +kernel)) ggX4_put_X4_saves
set_option maxRecDepth 20000 in
theorem ggX4_put_X4_puts : GoodIn wsX4_put wsX4_puts := goodIn_r _ [39, 3, 40, 41, 42, 8, 43, 44, 45, 46, 47, 48, 49, 50, 51, 52, 53, 54, 55, 56, 57, 58, 59, 60] (by decide +kernel) (by decide +kernel)
set_option maxRecDepth 20000 in
theorem gX4_put_X4_puts : GoodIn wsX4_put (wsV RX4 96 RX4 yX4_puts wsX4_puts) := goodIn_app (goodIn_of _ (by decide +kernel)) ggX4_put_X4_puts
theorem dX4_put_0 : decode cX4_put 0 = .ok (.iload_n 1, 1) := by decide +kernel
theorem dX4_put_1 : decode cX4_put 1 = .ok (.iload_n 2, 1) := by decide +kernel
theorem dX4_put_2 : decode cX4_put 2 = .ok (.invokestatic 92, 3) := by decide +kernel
theorem dX4_put_5 : decode cX4_put 5 = .ok (.ifCond .ne 6, 3) := by decide +kernel
theorem dX4_put_8 : decode cX4_put 8 = .ok (.ldc 61, 2) := by decide +kernel
theorem dX4_put_10 : decode cX4_put 10 = .ok (.ireturn, 1) := by decide +kernel
theorem dX4_put_11 : decode cX4_put 11 = .ok (.aload_n 0, 1) := by decide +kernel
theorem dX4_put_12 : decode cX4_put 12 = .ok (.iload_n 3, 1) := by decide +kernel
theorem dX4_put_13 : decode cX4_put 13 = .ok (.invokevirtual 82, 3) := by decide +kernel
theorem dX4_put_16 : decode cX4_put 16 = .ok (.ifCond .eq 6, 3) := by decide +kernel
theorem dX4_put_19 : decode cX4_put 19 = .ok (.ldc 85, 2) := by decide +kernel
theorem dX4_put_21 : decode cX4_put 21 = .ok (.ireturn, 1) := by decide +kernel
theorem dX4_put_22 : decode cX4_put 22 = .ok (.aload_n 0, 1) := by decide +kernel
theorem dX4_put_23 : decode cX4_put 23 = .ok (.getfield 7, 3) := by decide +kernel
theorem dX4_put_26 : decode cX4_put 26 = .ok (.bipush 44, 2) := by decide +kernel
theorem dX4_put_28 : decode cX4_put 28 = .ok (.aload_n 0, 1) := by decide +kernel
theorem dX4_put_29 : decode cX4_put 29 = .ok (.getfield 79, 3) := by decide +kernel
theorem dX4_put_32 : decode cX4_put 32 = .ok (.iadd, 1) := by decide +kernel
theorem dX4_put_33 : decode cX4_put 33 = .ok (.iaload, 1) := by decide +kernel
theorem dX4_put_34 : decode cX4_put 34 = .ok (.sipush 999, 3) := by decide +kernel
theorem dX4_put_37 : decode cX4_put 37 = .ok (.if_icmp .ne 6, 3) := by decide +kernel
theorem dX4_put_40 : decode cX4_put 40 = .ok (.ldc 65, 2) := by decide +kernel
theorem dX4_put_42 : decode cX4_put 42 = .ok (.ireturn, 1) := by decide +kernel
theorem dX4_put_43 : decode cX4_put 43 = .ok (.aload_n 0, 1) := by decide +kernel
theorem dX4_put_44 : decode cX4_put 44 = .ok (.invokevirtual 66, 3) := by decide +kernel
theorem dX4_put_47 : decode cX4_put 47 = .ok (.aload_n 0, 1) := by decide +kernel
theorem dX4_put_48 : decode cX4_put 48 = .ok (.bipush 6, 2) := by decide +kernel
theorem dX4_put_50 : decode cX4_put 50 = .ok (.iload_n 1, 1) := by decide +kernel
theorem dX4_put_51 : decode cX4_put 51 = .ok (.imul, 1) := by decide +kernel
theorem dX4_put_52 : decode cX4_put 52 = .ok (.iload_n 2, 1) := by decide +kernel
theorem dX4_put_53 : decode cX4_put 53 = .ok (.iadd, 1) := by decide +kernel
theorem dX4_put_54 : decode cX4_put 54 = .ok (.aload_n 0, 1) := by decide +kernel
theorem dX4_put_55 : decode cX4_put 55 = .ok (.getfield 79, 3) := by decide +kernel
theorem dX4_put_58 : decode cX4_put 58 = .ok (.invokevirtual 96, 3) := by decide +kernel
theorem dX4_put_61 : decode cX4_put 61 = .ok (.ireturn, 1) := by decide +kernel
set_option maxRecDepth 20000 in
theorem ggX4_clear_X4_isCell : GoodIn wsX4_clear wsX4_isCell := goodIn_r _ [7, 8, 9, 6, 10] (by decide +kernel) (by decide +kernel)
set_option maxRecDepth 20000 in
theorem gX4_clear_X4_isCell : GoodIn wsX4_clear (va_wsS RX4 92 yX4_isCell wsX4_isCell) := goodIn_app (goodIn_of _ (by decide +kernel)) ggX4_clear_X4_isCell
set_option maxRecDepth 20000 in
theorem ggX4_clear_X4_saves : GoodIn wsX4_clear wsX4_saves := goodIn_r _ [14, 15, 16, 2, 21, 22, 23, 24, 25, 26, 27, 28, 29, 30, 31, 32, 33, 34, 35, 36, 37] (by decide +kernel) (by decide +kernel)
set_option maxRecDepth 20000 in
theorem gX4_clear_X4_saves : GoodIn wsX4_clear (wsV RX4 66 RX4 yX4_saves wsX4_saves) := goodIn_app (goodIn_of _ (by decide +kernel)) ggX4_clear_X4_saves
set_option maxRecDepth 20000 in
theorem ggX4_clear_X4_givesBack : GoodIn wsX4_clear wsX4_givesBack := goodIn_r _ [20, 2, 21, 22, 23, 24, 25, 26, 27, 28, 29, 30, 31, 32, 33, 34, 35, 36, 37] (by decide +kernel) (by decide +kernel)
set_option maxRecDepth 20000 in
theorem gX4_clear_X4_givesBack : GoodIn wsX4_clear (wsV RX4 89 RX4 yX4_givesBack wsX4_givesBack) := goodIn_app (goodIn_of _ (by decide +kernel)) ggX4_clear_X4_givesBack
theorem dX4_clear_0 : decode cX4_clear 0 = .ok (.iload_n 1, 1) := by decide +kernel
theorem dX4_clear_1 : decode cX4_clear 1 = .ok (.iload_n 2, 1) := by decide +kernel
theorem dX4_clear_2 : decode cX4_clear 2 = .ok (.invokestatic 92, 3) := by decide +kernel
theorem dX4_clear_5 : decode cX4_clear 5 = .ok (.ifCond .ne 6, 3) := by decide +kernel
theorem dX4_clear_8 : decode cX4_clear 8 = .ok (.ldc 61, 2) := by decide +kernel
theorem dX4_clear_10 : decode cX4_clear 10 = .ok (.ireturn, 1) := by decide +kernel
theorem dX4_clear_11 : decode cX4_clear 11 = .ok (.bipush 6, 2) := by decide +kernel
theorem dX4_clear_13 : decode cX4_clear 13 = .ok (.iload_n 1, 1) := by decide +kernel
theorem dX4_clear_14 : decode cX4_clear 14 = .ok (.imul, 1) := by decide +kernel
theorem dX4_clear_15 : decode cX4_clear 15 = .ok (.iload_n 2, 1) := by decide +kernel
theorem dX4_clear_16 : decode cX4_clear 16 = .ok (.iadd, 1) := by decide +kernel
theorem dX4_clear_17 : decode cX4_clear 17 = .ok (.istore_n 3, 1) := by decide +kernel
theorem dX4_clear_18 : decode cX4_clear 18 = .ok (.aload_n 0, 1) := by decide +kernel
theorem dX4_clear_19 : decode cX4_clear 19 = .ok (.getfield 7, 3) := by decide +kernel
theorem dX4_clear_22 : decode cX4_clear 22 = .ok (.bipush 124, 2) := by decide +kernel
theorem dX4_clear_24 : decode cX4_clear 24 = .ok (.iload_n 3, 1) := by decide +kernel
theorem dX4_clear_25 : decode cX4_clear 25 = .ok (.iadd, 1) := by decide +kernel
theorem dX4_clear_26 : decode cX4_clear 26 = .ok (.iaload, 1) := by decide +kernel
theorem dX4_clear_27 : decode cX4_clear 27 = .ok (.istore 4, 2) := by decide +kernel
theorem dX4_clear_29 : decode cX4_clear 29 = .ok (.iload 4, 2) := by decide +kernel
theorem dX4_clear_31 : decode cX4_clear 31 = .ok (.ifCond .ge 6, 3) := by decide +kernel
theorem dX4_clear_34 : decode cX4_clear 34 = .ok (.ldc 35, 2) := by decide +kernel
theorem dX4_clear_36 : decode cX4_clear 36 = .ok (.ireturn, 1) := by decide +kernel
theorem dX4_clear_37 : decode cX4_clear 37 = .ok (.aload_n 0, 1) := by decide +kernel
theorem dX4_clear_38 : decode cX4_clear 38 = .ok (.invokevirtual 66, 3) := by decide +kernel
theorem dX4_clear_41 : decode cX4_clear 41 = .ok (.aload_n 0, 1) := by decide +kernel
theorem dX4_clear_42 : decode cX4_clear 42 = .ok (.getfield 7, 3) := by decide +kernel
theorem dX4_clear_45 : decode cX4_clear 45 = .ok (.bipush 124, 2) := by decide +kernel
theorem dX4_clear_47 : decode cX4_clear 47 = .ok (.iload_n 3, 1) := by decide +kernel
theorem dX4_clear_48 : decode cX4_clear 48 = .ok (.iadd, 1) := by decide +kernel
theorem dX4_clear_49 : decode cX4_clear 49 = .ok (.iconst (-1), 1) := by decide +kernel
theorem dX4_clear_50 : decode cX4_clear 50 = .ok (.iastore, 1) := by decide +kernel
theorem dX4_clear_51 : decode cX4_clear 51 = .ok (.aload_n 0, 1) := by decide +kernel
theorem dX4_clear_52 : decode cX4_clear 52 = .ok (.iload 4, 2) := by decide +kernel
theorem dX4_clear_54 : decode cX4_clear 54 = .ok (.invokevirtual 89, 3) := by decide +kernel
theorem dX4_clear_57 : decode cX4_clear 57 = .ok (.ireturn, 1) := by decide +kernel
set_option maxRecDepth 20000 in
theorem ggX4_cellOf_X4_isCell : GoodIn wsX4_cellOf wsX4_isCell := goodIn_r _ [7, 8, 9, 6, 10] (by decide +kernel) (by decide +kernel)
set_option maxRecDepth 20000 in
theorem gX4_cellOf_X4_isCell : GoodIn wsX4_cellOf (va_wsS RX4 92 yX4_isCell wsX4_isCell) := goodIn_app (goodIn_of _ (by decide +kernel)) ggX4_cellOf_X4_isCell
set_option maxRecDepth 20000 in
theorem ggX4_cellOf_X4_tagOf : GoodIn wsX4_cellOf wsX4_tagOf := goodIn_r _ [14, 15, 2, 16, 17, 18, 19, 20, 21, 22, 23, 24, 25, 26, 27, 28, 29, 30, 31, 32] (by decide +kernel) (by decide +kernel)
set_option maxRecDepth 20000 in
theorem gX4_cellOf_X4_tagOf : GoodIn wsX4_cellOf (wsV RX4 55 RX4 yX4_tagOf wsX4_tagOf) := goodIn_app (goodIn_of _ (by decide +kernel)) ggX4_cellOf_X4_tagOf
theorem dX4_cellOf_0 : decode cX4_cellOf 0 = .ok (.iload_n 1, 1) := by decide +kernel
theorem dX4_cellOf_1 : decode cX4_cellOf 1 = .ok (.iload_n 2, 1) := by decide +kernel
theorem dX4_cellOf_2 : decode cX4_cellOf 2 = .ok (.invokestatic 92, 3) := by decide +kernel
theorem dX4_cellOf_5 : decode cX4_cellOf 5 = .ok (.ifCond .ne 6, 3) := by decide +kernel
theorem dX4_cellOf_8 : decode cX4_cellOf 8 = .ok (.ldc 61, 2) := by decide +kernel
theorem dX4_cellOf_10 : decode cX4_cellOf 10 = .ok (.ireturn, 1) := by decide +kernel
theorem dX4_cellOf_11 : decode cX4_cellOf 11 = .ok (.aload_n 0, 1) := by decide +kernel
theorem dX4_cellOf_12 : decode cX4_cellOf 12 = .ok (.getfield 7, 3) := by decide +kernel
theorem dX4_cellOf_15 : decode cX4_cellOf 15 = .ok (.bipush 124, 2) := by decide +kernel
theorem dX4_cellOf_17 : decode cX4_cellOf 17 = .ok (.bipush 6, 2) := by decide +kernel
theorem dX4_cellOf_19 : decode cX4_cellOf 19 = .ok (.iload_n 1, 1) := by decide +kernel
theorem dX4_cellOf_20 : decode cX4_cellOf 20 = .ok (.imul, 1) := by decide +kernel
theorem dX4_cellOf_21 : decode cX4_cellOf 21 = .ok (.iadd, 1) := by decide +kernel
theorem dX4_cellOf_22 : decode cX4_cellOf 22 = .ok (.iload_n 2, 1) := by decide +kernel
theorem dX4_cellOf_23 : decode cX4_cellOf 23 = .ok (.iadd, 1) := by decide +kernel
theorem dX4_cellOf_24 : decode cX4_cellOf 24 = .ok (.iaload, 1) := by decide +kernel
theorem dX4_cellOf_25 : decode cX4_cellOf 25 = .ok (.istore_n 3, 1) := by decide +kernel
theorem dX4_cellOf_26 : decode cX4_cellOf 26 = .ok (.iload_n 3, 1) := by decide +kernel
theorem dX4_cellOf_27 : decode cX4_cellOf 27 = .ok (.ifCond .ge 8, 3) := by decide +kernel
theorem dX4_cellOf_30 : decode cX4_cellOf 30 = .ok (.ldc 99, 2) := by decide +kernel
theorem dX4_cellOf_32 : decode cX4_cellOf 32 = .ok (.goto 8, 3) := by decide +kernel
theorem dX4_cellOf_35 : decode cX4_cellOf 35 = .ok (.aload_n 0, 1) := by decide +kernel
theorem dX4_cellOf_36 : decode cX4_cellOf 36 = .ok (.iload_n 3, 1) := by decide +kernel
theorem dX4_cellOf_37 : decode cX4_cellOf 37 = .ok (.invokevirtual 55, 3) := by decide +kernel
theorem dX4_cellOf_40 : decode cX4_cellOf 40 = .ok (.ireturn, 1) := by decide +kernel
set_option maxRecDepth 20000 in
theorem ggX4_isAhead_X4_padded : GoodIn wsX4_isAhead wsX4_padded := goodIn_r _ [5, 6] (by decide +kernel) (by decide +kernel)
set_option maxRecDepth 20000 in
theorem gX4_isAhead_X4_padded : GoodIn wsX4_isAhead (va_wsS RX4 100 yX4_padded wsX4_padded) := goodIn_app (goodIn_of _ (by decide +kernel)) ggX4_isAhead_X4_padded
theorem dX4_isAhead_0 : decode cX4_isAhead 0 = .ok (.iload_n 1, 1) := by decide +kernel
theorem dX4_isAhead_1 : decode cX4_isAhead 1 = .ok (.iconst 1, 1) := by decide +kernel
theorem dX4_isAhead_2 : decode cX4_isAhead 2 = .ok (.if_icmp .ne 34, 3) := by decide +kernel
theorem dX4_isAhead_5 : decode cX4_isAhead 5 = .ok (.aload_n 0, 1) := by decide +kernel
theorem dX4_isAhead_6 : decode cX4_isAhead 6 = .ok (.getfield 7, 3) := by decide +kernel
theorem dX4_isAhead_9 : decode cX4_isAhead 9 = .ok (.iconst 4, 1) := by decide +kernel
theorem dX4_isAhead_10 : decode cX4_isAhead 10 = .ok (.iload_n 2, 1) := by decide +kernel
theorem dX4_isAhead_11 : decode cX4_isAhead 11 = .ok (.iadd, 1) := by decide +kernel
theorem dX4_isAhead_12 : decode cX4_isAhead 12 = .ok (.iaload, 1) := by decide +kernel
theorem dX4_isAhead_13 : decode cX4_isAhead 13 = .ok (.invokestatic 100, 3) := by decide +kernel
theorem dX4_isAhead_16 : decode cX4_isAhead 16 = .ok (.aload_n 0, 1) := by decide +kernel
theorem dX4_isAhead_17 : decode cX4_isAhead 17 = .ok (.getfield 7, 3) := by decide +kernel
theorem dX4_isAhead_20 : decode cX4_isAhead 20 = .ok (.iconst 4, 1) := by decide +kernel
theorem dX4_isAhead_21 : decode cX4_isAhead 21 = .ok (.iload_n 3, 1) := by decide +kernel
theorem dX4_isAhead_22 : decode cX4_isAhead 22 = .ok (.iadd, 1) := by decide +kernel
theorem dX4_isAhead_23 : decode cX4_isAhead 23 = .ok (.iaload, 1) := by decide +kernel
theorem dX4_isAhead_24 : decode cX4_isAhead 24 = .ok (.invokestatic 100, 3) := by decide +kernel
theorem dX4_isAhead_27 : decode cX4_isAhead 27 = .ok (.if_icmp .ge 7, 3) := by decide +kernel
theorem dX4_isAhead_30 : decode cX4_isAhead 30 = .ok (.iconst 1, 1) := by decide +kernel
theorem dX4_isAhead_31 : decode cX4_isAhead 31 = .ok (.goto 4, 3) := by decide +kernel
theorem dX4_isAhead_34 : decode cX4_isAhead 34 = .ok (.iconst 0, 1) := by decide +kernel
theorem dX4_isAhead_35 : decode cX4_isAhead 35 = .ok (.ireturn, 1) := by decide +kernel
theorem dX4_isAhead_36 : decode cX4_isAhead 36 = .ok (.iload_n 1, 1) := by decide +kernel
theorem dX4_isAhead_37 : decode cX4_isAhead 37 = .ok (.iconst 2, 1) := by decide +kernel
theorem dX4_isAhead_38 : decode cX4_isAhead 38 = .ok (.if_icmp .ne 53, 3) := by decide +kernel
theorem dX4_isAhead_41 : decode cX4_isAhead 41 = .ok (.aload_n 0, 1) := by decide +kernel
theorem dX4_isAhead_42 : decode cX4_isAhead 42 = .ok (.getfield 7, 3) := by decide +kernel
theorem dX4_isAhead_45 : decode cX4_isAhead 45 = .ok (.bipush 44, 2) := by decide +kernel
theorem dX4_isAhead_47 : decode cX4_isAhead 47 = .ok (.iload_n 2, 1) := by decide +kernel
theorem dX4_isAhead_48 : decode cX4_isAhead 48 = .ok (.iadd, 1) := by decide +kernel
theorem dX4_isAhead_49 : decode cX4_isAhead 49 = .ok (.iaload, 1) := by decide +kernel
theorem dX4_isAhead_50 : decode cX4_isAhead 50 = .ok (.aload_n 0, 1) := by decide +kernel
theorem dX4_isAhead_51 : decode cX4_isAhead 51 = .ok (.getfield 7, 3) := by decide +kernel
theorem dX4_isAhead_54 : decode cX4_isAhead 54 = .ok (.bipush 44, 2) := by decide +kernel
theorem dX4_isAhead_56 : decode cX4_isAhead 56 = .ok (.iload_n 3, 1) := by decide +kernel
theorem dX4_isAhead_57 : decode cX4_isAhead 57 = .ok (.iadd, 1) := by decide +kernel
theorem dX4_isAhead_58 : decode cX4_isAhead 58 = .ok (.iaload, 1) := by decide +kernel
theorem dX4_isAhead_59 : decode cX4_isAhead 59 = .ok (.if_icmp .eq 32, 3) := by decide +kernel
theorem dX4_isAhead_62 : decode cX4_isAhead 62 = .ok (.aload_n 0, 1) := by decide +kernel
theorem dX4_isAhead_63 : decode cX4_isAhead 63 = .ok (.getfield 7, 3) := by decide +kernel
theorem dX4_isAhead_66 : decode cX4_isAhead 66 = .ok (.bipush 44, 2) := by decide +kernel
theorem dX4_isAhead_68 : decode cX4_isAhead 68 = .ok (.iload_n 2, 1) := by decide +kernel
theorem dX4_isAhead_69 : decode cX4_isAhead 69 = .ok (.iadd, 1) := by decide +kernel
theorem dX4_isAhead_70 : decode cX4_isAhead 70 = .ok (.iaload, 1) := by decide +kernel
theorem dX4_isAhead_71 : decode cX4_isAhead 71 = .ok (.aload_n 0, 1) := by decide +kernel
theorem dX4_isAhead_72 : decode cX4_isAhead 72 = .ok (.getfield 7, 3) := by decide +kernel
theorem dX4_isAhead_75 : decode cX4_isAhead 75 = .ok (.bipush 44, 2) := by decide +kernel
theorem dX4_isAhead_77 : decode cX4_isAhead 77 = .ok (.iload_n 3, 1) := by decide +kernel
theorem dX4_isAhead_78 : decode cX4_isAhead 78 = .ok (.iadd, 1) := by decide +kernel
theorem dX4_isAhead_79 : decode cX4_isAhead 79 = .ok (.iaload, 1) := by decide +kernel
theorem dX4_isAhead_80 : decode cX4_isAhead 80 = .ok (.if_icmp .le 7, 3) := by decide +kernel
theorem dX4_isAhead_83 : decode cX4_isAhead 83 = .ok (.iconst 1, 1) := by decide +kernel
theorem dX4_isAhead_84 : decode cX4_isAhead 84 = .ok (.goto 17, 3) := by decide +kernel
theorem dX4_isAhead_87 : decode cX4_isAhead 87 = .ok (.iconst 0, 1) := by decide +kernel
theorem dX4_isAhead_88 : decode cX4_isAhead 88 = .ok (.goto 13, 3) := by decide +kernel
theorem dX4_isAhead_91 : decode cX4_isAhead 91 = .ok (.iload_n 2, 1) := by decide +kernel
theorem dX4_isAhead_92 : decode cX4_isAhead 92 = .ok (.iload_n 3, 1) := by decide +kernel
theorem dX4_isAhead_93 : decode cX4_isAhead 93 = .ok (.if_icmp .ge 7, 3) := by decide +kernel
theorem dX4_isAhead_96 : decode cX4_isAhead 96 = .ok (.iconst 1, 1) := by decide +kernel
theorem dX4_isAhead_97 : decode cX4_isAhead 97 = .ok (.goto 4, 3) := by decide +kernel
theorem dX4_isAhead_100 : decode cX4_isAhead 100 = .ok (.iconst 0, 1) := by decide +kernel
theorem dX4_isAhead_101 : decode cX4_isAhead 101 = .ok (.ireturn, 1) := by decide +kernel
set_option maxRecDepth 20000 in
theorem ggX4_ranks_X4_isNamed : GoodIn wsX4_ranks wsX4_isNamed := goodIn_r _ [7, 8, 17, 18, 19, 20, 21, 22, 23, 24, 25, 26, 27, 28, 29, 30, 31, 32, 33] (by decide +kernel) (by decide +kernel)
set_option maxRecDepth 20000 in
theorem gX4_ranks_X4_isNamed : GoodIn wsX4_ranks (wsV RX4 42 RX4 yX4_isNamed wsX4_isNamed) := goodIn_app (goodIn_of _ (by decide +kernel)) ggX4_ranks_X4_isNamed
set_option maxRecDepth 20000 in
theorem ggX4_ranks_X4_isAhead : GoodIn wsX4_ranks wsX4_isAhead := goodIn_r _ [12, 8, 13, 14, 6, 15, 16, 17, 18, 19, 20, 21, 22, 23, 24, 25, 26, 27, 28, 29, 30, 31, 32, 33] (by decide +kernel) (by decide +kernel)
set_option maxRecDepth 20000 in
theorem gX4_ranks_X4_isAhead : GoodIn wsX4_ranks (wsV RX4 106 RX4 yX4_isAhead wsX4_isAhead) := goodIn_app (goodIn_of _ (by decide +kernel)) ggX4_ranks_X4_isAhead
theorem dX4_ranks_0 : decode cX4_ranks 0 = .ok (.aload_n 0, 1) := by decide +kernel
theorem dX4_ranks_1 : decode cX4_ranks 1 = .ok (.iconst 0, 1) := by decide +kernel
theorem dX4_ranks_2 : decode cX4_ranks 2 = .ok (.putfield 103, 3) := by decide +kernel
theorem dX4_ranks_5 : decode cX4_ranks 5 = .ok (.iconst 0, 1) := by decide +kernel
theorem dX4_ranks_6 : decode cX4_ranks 6 = .ok (.istore_n 2, 1) := by decide +kernel
theorem dX4_ranks_7 : decode cX4_ranks 7 = .ok (.iload_n 2, 1) := by decide +kernel
theorem dX4_ranks_8 : decode cX4_ranks 8 = .ok (.bipush 40, 2) := by decide +kernel
theorem dX4_ranks_10 : decode cX4_ranks 10 = .ok (.if_icmp .ge 80, 3) := by decide +kernel
theorem dX4_ranks_13 : decode cX4_ranks 13 = .ok (.aload_n 0, 1) := by decide +kernel
theorem dX4_ranks_14 : decode cX4_ranks 14 = .ok (.iload_n 2, 1) := by decide +kernel
theorem dX4_ranks_15 : decode cX4_ranks 15 = .ok (.invokevirtual 42, 3) := by decide +kernel
theorem dX4_ranks_18 : decode cX4_ranks 18 = .ok (.ifCond .eq 66, 3) := by decide +kernel
theorem dX4_ranks_21 : decode cX4_ranks 21 = .ok (.aload_n 0, 1) := by decide +kernel
theorem dX4_ranks_22 : decode cX4_ranks 22 = .ok (.getfield 103, 3) := by decide +kernel
theorem dX4_ranks_25 : decode cX4_ranks 25 = .ok (.istore_n 3, 1) := by decide +kernel
theorem dX4_ranks_26 : decode cX4_ranks 26 = .ok (.iload_n 3, 1) := by decide +kernel
theorem dX4_ranks_27 : decode cX4_ranks 27 = .ok (.ifCond .le 40, 3) := by decide +kernel
theorem dX4_ranks_30 : decode cX4_ranks 30 = .ok (.aload_n 0, 1) := by decide +kernel
theorem dX4_ranks_31 : decode cX4_ranks 31 = .ok (.iload_n 1, 1) := by decide +kernel
theorem dX4_ranks_32 : decode cX4_ranks 32 = .ok (.iload_n 2, 1) := by decide +kernel
theorem dX4_ranks_33 : decode cX4_ranks 33 = .ok (.aload_n 0, 1) := by decide +kernel
theorem dX4_ranks_34 : decode cX4_ranks 34 = .ok (.getfield 22, 3) := by decide +kernel
theorem dX4_ranks_37 : decode cX4_ranks 37 = .ok (.iload_n 3, 1) := by decide +kernel
theorem dX4_ranks_38 : decode cX4_ranks 38 = .ok (.iconst 1, 1) := by decide +kernel
theorem dX4_ranks_39 : decode cX4_ranks 39 = .ok (.isub, 1) := by decide +kernel
theorem dX4_ranks_40 : decode cX4_ranks 40 = .ok (.iaload, 1) := by decide +kernel
theorem dX4_ranks_41 : decode cX4_ranks 41 = .ok (.invokevirtual 106, 3) := by decide +kernel
theorem dX4_ranks_44 : decode cX4_ranks 44 = .ok (.ifCond .eq 23, 3) := by decide +kernel
theorem dX4_ranks_47 : decode cX4_ranks 47 = .ok (.aload_n 0, 1) := by decide +kernel
theorem dX4_ranks_48 : decode cX4_ranks 48 = .ok (.getfield 22, 3) := by decide +kernel
theorem dX4_ranks_51 : decode cX4_ranks 51 = .ok (.iload_n 3, 1) := by decide +kernel
theorem dX4_ranks_52 : decode cX4_ranks 52 = .ok (.aload_n 0, 1) := by decide +kernel
theorem dX4_ranks_53 : decode cX4_ranks 53 = .ok (.getfield 22, 3) := by decide +kernel
theorem dX4_ranks_56 : decode cX4_ranks 56 = .ok (.iload_n 3, 1) := by decide +kernel
theorem dX4_ranks_57 : decode cX4_ranks 57 = .ok (.iconst 1, 1) := by decide +kernel
theorem dX4_ranks_58 : decode cX4_ranks 58 = .ok (.isub, 1) := by decide +kernel
theorem dX4_ranks_59 : decode cX4_ranks 59 = .ok (.iaload, 1) := by decide +kernel
theorem dX4_ranks_60 : decode cX4_ranks 60 = .ok (.iastore, 1) := by decide +kernel
theorem dX4_ranks_61 : decode cX4_ranks 61 = .ok (.iinc 3 (-1), 3) := by decide +kernel
theorem dX4_ranks_64 : decode cX4_ranks 64 = .ok (.goto (-38), 3) := by decide +kernel
theorem dX4_ranks_67 : decode cX4_ranks 67 = .ok (.aload_n 0, 1) := by decide +kernel
theorem dX4_ranks_68 : decode cX4_ranks 68 = .ok (.getfield 22, 3) := by decide +kernel
theorem dX4_ranks_71 : decode cX4_ranks 71 = .ok (.iload_n 3, 1) := by decide +kernel
theorem dX4_ranks_72 : decode cX4_ranks 72 = .ok (.iload_n 2, 1) := by decide +kernel
theorem dX4_ranks_73 : decode cX4_ranks 73 = .ok (.iastore, 1) := by decide +kernel
theorem dX4_ranks_74 : decode cX4_ranks 74 = .ok (.aload_n 0, 1) := by decide +kernel
theorem dX4_ranks_75 : decode cX4_ranks 75 = .ok (.dup, 1) := by decide +kernel
theorem dX4_ranks_76 : decode cX4_ranks 76 = .ok (.getfield 103, 3) := by decide +kernel
theorem dX4_ranks_79 : decode cX4_ranks 79 = .ok (.iconst 1, 1) := by decide +kernel
theorem dX4_ranks_80 : decode cX4_ranks 80 = .ok (.iadd, 1) := by decide +kernel
theorem dX4_ranks_81 : decode cX4_ranks 81 = .ok (.putfield 103, 3) := by decide +kernel
theorem dX4_ranks_84 : decode cX4_ranks 84 = .ok (.iinc 2 1, 3) := by decide +kernel
theorem dX4_ranks_87 : decode cX4_ranks 87 = .ok (.goto (-80), 3) := by decide +kernel
theorem dX4_ranks_90 : decode cX4_ranks 90 = .ok (.return_, 1) := by decide +kernel
set_option maxRecDepth 20000 in
theorem ggX4_compacts_X4_ranks : GoodIn wsX4_compacts wsX4_ranks := goodIn_r _ [9, 3, 4, 10, 11, 12, 8, 13, 1, 14, 15, 16, 17, 18, 19, 20, 21, 22, 23, 24, 25, 26, 27, 28, 29, 30, 31, 32, 33, 34, 35, 36, 37, 38] (by decide +kernel) (by decide +kernel)
set_option maxRecDepth 20000 in
theorem gX4_compacts_X4_ranks : GoodIn wsX4_compacts (wsV RX4 109 RX4 yX4_ranks wsX4_ranks) := goodIn_app (goodIn_of _ (by decide +kernel)) ggX4_compacts_X4_ranks
set_option maxRecDepth 20000 in
theorem ggX4_compacts_X4_isNamed : GoodIn wsX4_compacts wsX4_isNamed := goodIn_r _ [13, 1, 22, 23, 24, 25, 26, 27, 28, 29, 30, 31, 32, 33, 34, 35, 36, 37, 38] (by decide +kernel) (by decide +kernel)
set_option maxRecDepth 20000 in
theorem gX4_compacts_X4_isNamed : GoodIn wsX4_compacts (wsV RX4 42 RX4 yX4_isNamed wsX4_isNamed) := goodIn_app (goodIn_of _ (by decide +kernel)) ggX4_compacts_X4_isNamed
theorem dX4_compacts_0 : decode cX4_compacts 0 = .ok (.aload_n 0, 1) := by decide +kernel
theorem dX4_compacts_1 : decode cX4_compacts 1 = .ok (.iload_n 1, 1) := by decide +kernel
theorem dX4_compacts_2 : decode cX4_compacts 2 = .ok (.invokevirtual 109, 3) := by decide +kernel
theorem dX4_compacts_5 : decode cX4_compacts 5 = .ok (.sipush 142, 3) := by decide +kernel
theorem dX4_compacts_8 : decode cX4_compacts 8 = .ok (.istore_n 2, 1) := by decide +kernel
theorem dX4_compacts_9 : decode cX4_compacts 9 = .ok (.sipush 368, 3) := by decide +kernel
theorem dX4_compacts_12 : decode cX4_compacts 12 = .ok (.istore_n 3, 1) := by decide +kernel
theorem dX4_compacts_13 : decode cX4_compacts 13 = .ok (.iload_n 3, 1) := by decide +kernel
theorem dX4_compacts_14 : decode cX4_compacts 14 = .ok (.bipush 123, 2) := by decide +kernel
theorem dX4_compacts_16 : decode cX4_compacts 16 = .ok (.if_icmp .lt 28, 3) := by decide +kernel
theorem dX4_compacts_19 : decode cX4_compacts 19 = .ok (.aload_n 0, 1) := by decide +kernel
theorem dX4_compacts_20 : decode cX4_compacts 20 = .ok (.getfield 7, 3) := by decide +kernel
theorem dX4_compacts_23 : decode cX4_compacts 23 = .ok (.iload_n 2, 1) := by decide +kernel
theorem dX4_compacts_24 : decode cX4_compacts 24 = .ok (.iload_n 3, 1) := by decide +kernel
theorem dX4_compacts_25 : decode cX4_compacts 25 = .ok (.iadd, 1) := by decide +kernel
theorem dX4_compacts_26 : decode cX4_compacts 26 = .ok (.aload_n 0, 1) := by decide +kernel
theorem dX4_compacts_27 : decode cX4_compacts 27 = .ok (.getfield 7, 3) := by decide +kernel
theorem dX4_compacts_30 : decode cX4_compacts 30 = .ok (.iload_n 2, 1) := by decide +kernel
theorem dX4_compacts_31 : decode cX4_compacts 31 = .ok (.iload_n 3, 1) := by decide +kernel
theorem dX4_compacts_32 : decode cX4_compacts 32 = .ok (.iadd, 1) := by decide +kernel
theorem dX4_compacts_33 : decode cX4_compacts 33 = .ok (.bipush 123, 2) := by decide +kernel
theorem dX4_compacts_35 : decode cX4_compacts 35 = .ok (.isub, 1) := by decide +kernel
theorem dX4_compacts_36 : decode cX4_compacts 36 = .ok (.iaload, 1) := by decide +kernel
theorem dX4_compacts_37 : decode cX4_compacts 37 = .ok (.iastore, 1) := by decide +kernel
theorem dX4_compacts_38 : decode cX4_compacts 38 = .ok (.iinc 3 (-1), 3) := by decide +kernel
theorem dX4_compacts_41 : decode cX4_compacts 41 = .ok (.goto (-28), 3) := by decide +kernel
theorem dX4_compacts_44 : decode cX4_compacts 44 = .ok (.iconst 0, 1) := by decide +kernel
theorem dX4_compacts_45 : decode cX4_compacts 45 = .ok (.istore_n 3, 1) := by decide +kernel
theorem dX4_compacts_46 : decode cX4_compacts 46 = .ok (.iload_n 3, 1) := by decide +kernel
theorem dX4_compacts_47 : decode cX4_compacts 47 = .ok (.bipush 40, 2) := by decide +kernel
theorem dX4_compacts_49 : decode cX4_compacts 49 = .ok (.if_icmp .ge 84, 3) := by decide +kernel
theorem dX4_compacts_52 : decode cX4_compacts 52 = .ok (.aload_n 0, 1) := by decide +kernel
theorem dX4_compacts_53 : decode cX4_compacts 53 = .ok (.getfield 25, 3) := by decide +kernel
theorem dX4_compacts_56 : decode cX4_compacts 56 = .ok (.iload_n 3, 1) := by decide +kernel
theorem dX4_compacts_57 : decode cX4_compacts 57 = .ok (.aload_n 0, 1) := by decide +kernel
theorem dX4_compacts_58 : decode cX4_compacts 58 = .ok (.getfield 7, 3) := by decide +kernel
theorem dX4_compacts_61 : decode cX4_compacts 61 = .ok (.iconst 4, 1) := by decide +kernel
theorem dX4_compacts_62 : decode cX4_compacts 62 = .ok (.iload_n 3, 1) := by decide +kernel
theorem dX4_compacts_63 : decode cX4_compacts 63 = .ok (.iadd, 1) := by decide +kernel
theorem dX4_compacts_64 : decode cX4_compacts 64 = .ok (.iaload, 1) := by decide +kernel
theorem dX4_compacts_65 : decode cX4_compacts 65 = .ok (.iastore, 1) := by decide +kernel
theorem dX4_compacts_66 : decode cX4_compacts 66 = .ok (.aload_n 0, 1) := by decide +kernel
theorem dX4_compacts_67 : decode cX4_compacts 67 = .ok (.getfield 25, 3) := by decide +kernel
theorem dX4_compacts_70 : decode cX4_compacts 70 = .ok (.bipush 40, 2) := by decide +kernel
theorem dX4_compacts_72 : decode cX4_compacts 72 = .ok (.iload_n 3, 1) := by decide +kernel
theorem dX4_compacts_73 : decode cX4_compacts 73 = .ok (.iadd, 1) := by decide +kernel
theorem dX4_compacts_74 : decode cX4_compacts 74 = .ok (.aload_n 0, 1) := by decide +kernel
theorem dX4_compacts_75 : decode cX4_compacts 75 = .ok (.getfield 7, 3) := by decide +kernel
theorem dX4_compacts_78 : decode cX4_compacts 78 = .ok (.bipush 44, 2) := by decide +kernel
theorem dX4_compacts_80 : decode cX4_compacts 80 = .ok (.iload_n 3, 1) := by decide +kernel
theorem dX4_compacts_81 : decode cX4_compacts 81 = .ok (.iadd, 1) := by decide +kernel
theorem dX4_compacts_82 : decode cX4_compacts 82 = .ok (.iaload, 1) := by decide +kernel
theorem dX4_compacts_83 : decode cX4_compacts 83 = .ok (.iastore, 1) := by decide +kernel
theorem dX4_compacts_84 : decode cX4_compacts 84 = .ok (.aload_n 0, 1) := by decide +kernel
theorem dX4_compacts_85 : decode cX4_compacts 85 = .ok (.getfield 7, 3) := by decide +kernel
theorem dX4_compacts_88 : decode cX4_compacts 88 = .ok (.iload_n 2, 1) := by decide +kernel
theorem dX4_compacts_89 : decode cX4_compacts 89 = .ok (.iconst 3, 1) := by decide +kernel
theorem dX4_compacts_90 : decode cX4_compacts 90 = .ok (.iadd, 1) := by decide +kernel
theorem dX4_compacts_91 : decode cX4_compacts 91 = .ok (.iload_n 3, 1) := by decide +kernel
theorem dX4_compacts_92 : decode cX4_compacts 92 = .ok (.iadd, 1) := by decide +kernel
theorem dX4_compacts_93 : decode cX4_compacts 93 = .ok (.aload_n 0, 1) := by decide +kernel
theorem dX4_compacts_94 : decode cX4_compacts 94 = .ok (.iload_n 3, 1) := by decide +kernel
theorem dX4_compacts_95 : decode cX4_compacts 95 = .ok (.invokevirtual 42, 3) := by decide +kernel
theorem dX4_compacts_98 : decode cX4_compacts 98 = .ok (.ifCond .eq 15, 3) := by decide +kernel
theorem dX4_compacts_101 : decode cX4_compacts 101 = .ok (.aload_n 0, 1) := by decide +kernel
theorem dX4_compacts_102 : decode cX4_compacts 102 = .ok (.getfield 7, 3) := by decide +kernel
theorem dX4_compacts_105 : decode cX4_compacts 105 = .ok (.bipush 84, 2) := by decide +kernel
theorem dX4_compacts_107 : decode cX4_compacts 107 = .ok (.iload_n 3, 1) := by decide +kernel
theorem dX4_compacts_108 : decode cX4_compacts 108 = .ok (.iadd, 1) := by decide +kernel
theorem dX4_compacts_109 : decode cX4_compacts 109 = .ok (.iaload, 1) := by decide +kernel
theorem dX4_compacts_110 : decode cX4_compacts 110 = .ok (.goto 4, 3) := by decide +kernel
theorem dX4_compacts_113 : decode cX4_compacts 113 = .ok (.iconst (-1), 1) := by decide +kernel
theorem dX4_compacts_114 : decode cX4_compacts 114 = .ok (.iastore, 1) := by decide +kernel
theorem dX4_compacts_115 : decode cX4_compacts 115 = .ok (.aload_n 0, 1) := by decide +kernel
theorem dX4_compacts_116 : decode cX4_compacts 116 = .ok (.getfield 7, 3) := by decide +kernel
theorem dX4_compacts_119 : decode cX4_compacts 119 = .ok (.iload_n 2, 1) := by decide +kernel
theorem dX4_compacts_120 : decode cX4_compacts 120 = .ok (.bipush 43, 2) := by decide +kernel
theorem dX4_compacts_122 : decode cX4_compacts 122 = .ok (.iadd, 1) := by decide +kernel
theorem dX4_compacts_123 : decode cX4_compacts 123 = .ok (.iload_n 3, 1) := by decide +kernel
theorem dX4_compacts_124 : decode cX4_compacts 124 = .ok (.iadd, 1) := by decide +kernel
theorem dX4_compacts_125 : decode cX4_compacts 125 = .ok (.iconst (-1), 1) := by decide +kernel
theorem dX4_compacts_126 : decode cX4_compacts 126 = .ok (.iastore, 1) := by decide +kernel
theorem dX4_compacts_127 : decode cX4_compacts 127 = .ok (.iinc 3 1, 3) := by decide +kernel
theorem dX4_compacts_130 : decode cX4_compacts 130 = .ok (.goto (-84), 3) := by decide +kernel
theorem dX4_compacts_133 : decode cX4_compacts 133 = .ok (.iconst 0, 1) := by decide +kernel
theorem dX4_compacts_134 : decode cX4_compacts 134 = .ok (.istore_n 3, 1) := by decide +kernel
theorem dX4_compacts_135 : decode cX4_compacts 135 = .ok (.iconst 0, 1) := by decide +kernel
theorem dX4_compacts_136 : decode cX4_compacts 136 = .ok (.istore 4, 2) := by decide +kernel
theorem dX4_compacts_138 : decode cX4_compacts 138 = .ok (.iload 4, 2) := by decide +kernel
theorem dX4_compacts_140 : decode cX4_compacts 140 = .ok (.aload_n 0, 1) := by decide +kernel
theorem dX4_compacts_141 : decode cX4_compacts 141 = .ok (.getfield 103, 3) := by decide +kernel
theorem dX4_compacts_144 : decode cX4_compacts 144 = .ok (.if_icmp .ge 48, 3) := by decide +kernel
theorem dX4_compacts_147 : decode cX4_compacts 147 = .ok (.aload_n 0, 1) := by decide +kernel
theorem dX4_compacts_148 : decode cX4_compacts 148 = .ok (.getfield 7, 3) := by decide +kernel
theorem dX4_compacts_151 : decode cX4_compacts 151 = .ok (.iload_n 2, 1) := by decide +kernel
theorem dX4_compacts_152 : decode cX4_compacts 152 = .ok (.bipush 43, 2) := by decide +kernel
theorem dX4_compacts_154 : decode cX4_compacts 154 = .ok (.iadd, 1) := by decide +kernel
theorem dX4_compacts_155 : decode cX4_compacts 155 = .ok (.aload_n 0, 1) := by decide +kernel
theorem dX4_compacts_156 : decode cX4_compacts 156 = .ok (.getfield 22, 3) := by decide +kernel
theorem dX4_compacts_159 : decode cX4_compacts 159 = .ok (.iload 4, 2) := by decide +kernel
theorem dX4_compacts_161 : decode cX4_compacts 161 = .ok (.iaload, 1) := by decide +kernel
theorem dX4_compacts_162 : decode cX4_compacts 162 = .ok (.iadd, 1) := by decide +kernel
theorem dX4_compacts_163 : decode cX4_compacts 163 = .ok (.iload 4, 2) := by decide +kernel
theorem dX4_compacts_165 : decode cX4_compacts 165 = .ok (.iastore, 1) := by decide +kernel
theorem dX4_compacts_166 : decode cX4_compacts 166 = .ok (.iload_n 3, 1) := by decide +kernel
theorem dX4_compacts_167 : decode cX4_compacts 167 = .ok (.aload_n 0, 1) := by decide +kernel
theorem dX4_compacts_168 : decode cX4_compacts 168 = .ok (.getfield 22, 3) := by decide +kernel
theorem dX4_compacts_171 : decode cX4_compacts 171 = .ok (.iload 4, 2) := by decide +kernel
theorem dX4_compacts_173 : decode cX4_compacts 173 = .ok (.iaload, 1) := by decide +kernel
theorem dX4_compacts_174 : decode cX4_compacts 174 = .ok (.iload 4, 2) := by decide +kernel
theorem dX4_compacts_176 : decode cX4_compacts 176 = .ok (.if_icmp .eq 7, 3) := by decide +kernel
theorem dX4_compacts_179 : decode cX4_compacts 179 = .ok (.iconst 1, 1) := by decide +kernel
theorem dX4_compacts_180 : decode cX4_compacts 180 = .ok (.goto 4, 3) := by decide +kernel
theorem dX4_compacts_183 : decode cX4_compacts 183 = .ok (.iconst 0, 1) := by decide +kernel
theorem dX4_compacts_184 : decode cX4_compacts 184 = .ok (.iadd, 1) := by decide +kernel
theorem dX4_compacts_185 : decode cX4_compacts 185 = .ok (.istore_n 3, 1) := by decide +kernel
theorem dX4_compacts_186 : decode cX4_compacts 186 = .ok (.iinc 4 1, 3) := by decide +kernel
theorem dX4_compacts_189 : decode cX4_compacts 189 = .ok (.goto (-51), 3) := by decide +kernel
theorem dX4_compacts_192 : decode cX4_compacts 192 = .ok (.iconst 0, 1) := by decide +kernel
theorem dX4_compacts_193 : decode cX4_compacts 193 = .ok (.istore 4, 2) := by decide +kernel
theorem dX4_compacts_195 : decode cX4_compacts 195 = .ok (.iload 4, 2) := by decide +kernel
theorem dX4_compacts_197 : decode cX4_compacts 197 = .ok (.bipush 40, 2) := by decide +kernel
theorem dX4_compacts_199 : decode cX4_compacts 199 = .ok (.if_icmp .ge 118, 3) := by decide +kernel
theorem dX4_compacts_202 : decode cX4_compacts 202 = .ok (.aload_n 0, 1) := by decide +kernel
theorem dX4_compacts_203 : decode cX4_compacts 203 = .ok (.getfield 7, 3) := by decide +kernel
theorem dX4_compacts_206 : decode cX4_compacts 206 = .ok (.iconst 4, 1) := by decide +kernel
theorem dX4_compacts_207 : decode cX4_compacts 207 = .ok (.iload 4, 2) := by decide +kernel
theorem dX4_compacts_209 : decode cX4_compacts 209 = .ok (.iadd, 1) := by decide +kernel
theorem dX4_compacts_210 : decode cX4_compacts 210 = .ok (.iload 4, 2) := by decide +kernel
theorem dX4_compacts_212 : decode cX4_compacts 212 = .ok (.aload_n 0, 1) := by decide +kernel
theorem dX4_compacts_213 : decode cX4_compacts 213 = .ok (.getfield 103, 3) := by decide +kernel
theorem dX4_compacts_216 : decode cX4_compacts 216 = .ok (.if_icmp .ge 18, 3) := by decide +kernel
theorem dX4_compacts_219 : decode cX4_compacts 219 = .ok (.aload_n 0, 1) := by decide +kernel
theorem dX4_compacts_220 : decode cX4_compacts 220 = .ok (.getfield 25, 3) := by decide +kernel
theorem dX4_compacts_223 : decode cX4_compacts 223 = .ok (.aload_n 0, 1) := by decide +kernel
theorem dX4_compacts_224 : decode cX4_compacts 224 = .ok (.getfield 22, 3) := by decide +kernel
theorem dX4_compacts_227 : decode cX4_compacts 227 = .ok (.iload 4, 2) := by decide +kernel
theorem dX4_compacts_229 : decode cX4_compacts 229 = .ok (.iaload, 1) := by decide +kernel
theorem dX4_compacts_230 : decode cX4_compacts 230 = .ok (.iaload, 1) := by decide +kernel
theorem dX4_compacts_231 : decode cX4_compacts 231 = .ok (.goto 4, 3) := by decide +kernel
theorem dX4_compacts_234 : decode cX4_compacts 234 = .ok (.iconst 0, 1) := by decide +kernel
theorem dX4_compacts_235 : decode cX4_compacts 235 = .ok (.iastore, 1) := by decide +kernel
theorem dX4_compacts_236 : decode cX4_compacts 236 = .ok (.aload_n 0, 1) := by decide +kernel
theorem dX4_compacts_237 : decode cX4_compacts 237 = .ok (.getfield 7, 3) := by decide +kernel
theorem dX4_compacts_240 : decode cX4_compacts 240 = .ok (.bipush 44, 2) := by decide +kernel
theorem dX4_compacts_242 : decode cX4_compacts 242 = .ok (.iload 4, 2) := by decide +kernel
theorem dX4_compacts_244 : decode cX4_compacts 244 = .ok (.iadd, 1) := by decide +kernel
theorem dX4_compacts_245 : decode cX4_compacts 245 = .ok (.iload 4, 2) := by decide +kernel
theorem dX4_compacts_247 : decode cX4_compacts 247 = .ok (.aload_n 0, 1) := by decide +kernel
theorem dX4_compacts_248 : decode cX4_compacts 248 = .ok (.getfield 103, 3) := by decide +kernel
theorem dX4_compacts_251 : decode cX4_compacts 251 = .ok (.if_icmp .ge 21, 3) := by decide +kernel
theorem dX4_compacts_254 : decode cX4_compacts 254 = .ok (.aload_n 0, 1) := by decide +kernel
theorem dX4_compacts_255 : decode cX4_compacts 255 = .ok (.getfield 25, 3) := by decide +kernel
theorem dX4_compacts_258 : decode cX4_compacts 258 = .ok (.bipush 40, 2) := by decide +kernel
theorem dX4_compacts_260 : decode cX4_compacts 260 = .ok (.aload_n 0, 1) := by decide +kernel
theorem dX4_compacts_261 : decode cX4_compacts 261 = .ok (.getfield 22, 3) := by decide +kernel
theorem dX4_compacts_264 : decode cX4_compacts 264 = .ok (.iload 4, 2) := by decide +kernel
theorem dX4_compacts_266 : decode cX4_compacts 266 = .ok (.iaload, 1) := by decide +kernel
theorem dX4_compacts_267 : decode cX4_compacts 267 = .ok (.iadd, 1) := by decide +kernel
theorem dX4_compacts_268 : decode cX4_compacts 268 = .ok (.iaload, 1) := by decide +kernel
theorem dX4_compacts_269 : decode cX4_compacts 269 = .ok (.goto 4, 3) := by decide +kernel
theorem dX4_compacts_272 : decode cX4_compacts 272 = .ok (.iconst 0, 1) := by decide +kernel
theorem dX4_compacts_273 : decode cX4_compacts 273 = .ok (.iastore, 1) := by decide +kernel
theorem dX4_compacts_274 : decode cX4_compacts 274 = .ok (.aload_n 0, 1) := by decide +kernel
theorem dX4_compacts_275 : decode cX4_compacts 275 = .ok (.getfield 7, 3) := by decide +kernel
theorem dX4_compacts_278 : decode cX4_compacts 278 = .ok (.bipush 84, 2) := by decide +kernel
theorem dX4_compacts_280 : decode cX4_compacts 280 = .ok (.iload 4, 2) := by decide +kernel
theorem dX4_compacts_282 : decode cX4_compacts 282 = .ok (.iadd, 1) := by decide +kernel
theorem dX4_compacts_283 : decode cX4_compacts 283 = .ok (.dup2, 1) := by decide +kernel
theorem dX4_compacts_284 : decode cX4_compacts 284 = .ok (.iaload, 1) := by decide +kernel
theorem dX4_compacts_285 : decode cX4_compacts 285 = .ok (.aload_n 0, 1) := by decide +kernel
theorem dX4_compacts_286 : decode cX4_compacts 286 = .ok (.getfield 7, 3) := by decide +kernel
theorem dX4_compacts_289 : decode cX4_compacts 289 = .ok (.iconst 4, 1) := by decide +kernel
theorem dX4_compacts_290 : decode cX4_compacts 290 = .ok (.iload 4, 2) := by decide +kernel
theorem dX4_compacts_292 : decode cX4_compacts 292 = .ok (.iadd, 1) := by decide +kernel
theorem dX4_compacts_293 : decode cX4_compacts 293 = .ok (.iaload, 1) := by decide +kernel
theorem dX4_compacts_294 : decode cX4_compacts 294 = .ok (.aload_n 0, 1) := by decide +kernel
theorem dX4_compacts_295 : decode cX4_compacts 295 = .ok (.getfield 25, 3) := by decide +kernel
theorem dX4_compacts_298 : decode cX4_compacts 298 = .ok (.iload 4, 2) := by decide +kernel
theorem dX4_compacts_300 : decode cX4_compacts 300 = .ok (.iaload, 1) := by decide +kernel
theorem dX4_compacts_301 : decode cX4_compacts 301 = .ok (.if_icmp .eq 7, 3) := by decide +kernel
theorem dX4_compacts_304 : decode cX4_compacts 304 = .ok (.iconst 1, 1) := by decide +kernel
theorem dX4_compacts_305 : decode cX4_compacts 305 = .ok (.goto 4, 3) := by decide +kernel
theorem dX4_compacts_308 : decode cX4_compacts 308 = .ok (.iconst 0, 1) := by decide +kernel
theorem dX4_compacts_309 : decode cX4_compacts 309 = .ok (.iadd, 1) := by decide +kernel
theorem dX4_compacts_310 : decode cX4_compacts 310 = .ok (.iastore, 1) := by decide +kernel
theorem dX4_compacts_311 : decode cX4_compacts 311 = .ok (.iinc 4 1, 3) := by decide +kernel
theorem dX4_compacts_314 : decode cX4_compacts 314 = .ok (.goto (-119), 3) := by decide +kernel
theorem dX4_compacts_317 : decode cX4_compacts 317 = .ok (.iconst 0, 1) := by decide +kernel
theorem dX4_compacts_318 : decode cX4_compacts 318 = .ok (.istore 4, 2) := by decide +kernel
theorem dX4_compacts_320 : decode cX4_compacts 320 = .ok (.iload 4, 2) := by decide +kernel
theorem dX4_compacts_322 : decode cX4_compacts 322 = .ok (.bipush 40, 2) := by decide +kernel
theorem dX4_compacts_324 : decode cX4_compacts 324 = .ok (.if_icmp .ge 54, 3) := by decide +kernel
theorem dX4_compacts_327 : decode cX4_compacts 327 = .ok (.aload_n 0, 1) := by decide +kernel
theorem dX4_compacts_328 : decode cX4_compacts 328 = .ok (.getfield 7, 3) := by decide +kernel
theorem dX4_compacts_331 : decode cX4_compacts 331 = .ok (.iload_n 2, 1) := by decide +kernel
theorem dX4_compacts_332 : decode cX4_compacts 332 = .ok (.bipush 43, 2) := by decide +kernel
theorem dX4_compacts_334 : decode cX4_compacts 334 = .ok (.iadd, 1) := by decide +kernel
theorem dX4_compacts_335 : decode cX4_compacts 335 = .ok (.iload 4, 2) := by decide +kernel
theorem dX4_compacts_337 : decode cX4_compacts 337 = .ok (.iadd, 1) := by decide +kernel
theorem dX4_compacts_338 : decode cX4_compacts 338 = .ok (.iaload, 1) := by decide +kernel
theorem dX4_compacts_339 : decode cX4_compacts 339 = .ok (.istore 5, 2) := by decide +kernel
theorem dX4_compacts_341 : decode cX4_compacts 341 = .ok (.aload_n 0, 1) := by decide +kernel
theorem dX4_compacts_342 : decode cX4_compacts 342 = .ok (.getfield 7, 3) := by decide +kernel
theorem dX4_compacts_345 : decode cX4_compacts 345 = .ok (.iload_n 2, 1) := by decide +kernel
theorem dX4_compacts_346 : decode cX4_compacts 346 = .ok (.bipush 83, 2) := by decide +kernel
theorem dX4_compacts_348 : decode cX4_compacts 348 = .ok (.iadd, 1) := by decide +kernel
theorem dX4_compacts_349 : decode cX4_compacts 349 = .ok (.iload 4, 2) := by decide +kernel
theorem dX4_compacts_351 : decode cX4_compacts 351 = .ok (.iadd, 1) := by decide +kernel
theorem dX4_compacts_352 : decode cX4_compacts 352 = .ok (.iload 5, 2) := by decide +kernel
theorem dX4_compacts_354 : decode cX4_compacts 354 = .ok (.ifCond .ge 7, 3) := by decide +kernel
theorem dX4_compacts_357 : decode cX4_compacts 357 = .ok (.iconst (-1), 1) := by decide +kernel
theorem dX4_compacts_358 : decode cX4_compacts 358 = .ok (.goto 13, 3) := by decide +kernel
theorem dX4_compacts_361 : decode cX4_compacts 361 = .ok (.aload_n 0, 1) := by decide +kernel
theorem dX4_compacts_362 : decode cX4_compacts 362 = .ok (.getfield 7, 3) := by decide +kernel
theorem dX4_compacts_365 : decode cX4_compacts 365 = .ok (.bipush 84, 2) := by decide +kernel
theorem dX4_compacts_367 : decode cX4_compacts 367 = .ok (.iload 5, 2) := by decide +kernel
theorem dX4_compacts_369 : decode cX4_compacts 369 = .ok (.iadd, 1) := by decide +kernel
theorem dX4_compacts_370 : decode cX4_compacts 370 = .ok (.iaload, 1) := by decide +kernel
theorem dX4_compacts_371 : decode cX4_compacts 371 = .ok (.iastore, 1) := by decide +kernel
theorem dX4_compacts_372 : decode cX4_compacts 372 = .ok (.iinc 4 1, 3) := by decide +kernel
theorem dX4_compacts_375 : decode cX4_compacts 375 = .ok (.goto (-55), 3) := by decide +kernel
theorem dX4_compacts_378 : decode cX4_compacts 378 = .ok (.iconst 0, 1) := by decide +kernel
theorem dX4_compacts_379 : decode cX4_compacts 379 = .ok (.istore 4, 2) := by decide +kernel
theorem dX4_compacts_381 : decode cX4_compacts 381 = .ok (.iload 4, 2) := by decide +kernel
theorem dX4_compacts_383 : decode cX4_compacts 383 = .ok (.bipush 18, 2) := by decide +kernel
theorem dX4_compacts_385 : decode cX4_compacts 385 = .ok (.if_icmp .ge 56, 3) := by decide +kernel
theorem dX4_compacts_388 : decode cX4_compacts 388 = .ok (.aload_n 0, 1) := by decide +kernel
theorem dX4_compacts_389 : decode cX4_compacts 389 = .ok (.getfield 7, 3) := by decide +kernel
theorem dX4_compacts_392 : decode cX4_compacts 392 = .ok (.bipush 124, 2) := by decide +kernel
theorem dX4_compacts_394 : decode cX4_compacts 394 = .ok (.iload 4, 2) := by decide +kernel
theorem dX4_compacts_396 : decode cX4_compacts 396 = .ok (.iadd, 1) := by decide +kernel
theorem dX4_compacts_397 : decode cX4_compacts 397 = .ok (.aload_n 0, 1) := by decide +kernel
theorem dX4_compacts_398 : decode cX4_compacts 398 = .ok (.getfield 7, 3) := by decide +kernel
theorem dX4_compacts_401 : decode cX4_compacts 401 = .ok (.bipush 124, 2) := by decide +kernel
theorem dX4_compacts_403 : decode cX4_compacts 403 = .ok (.iload 4, 2) := by decide +kernel
theorem dX4_compacts_405 : decode cX4_compacts 405 = .ok (.iadd, 1) := by decide +kernel
theorem dX4_compacts_406 : decode cX4_compacts 406 = .ok (.iaload, 1) := by decide +kernel
theorem dX4_compacts_407 : decode cX4_compacts 407 = .ok (.ifCond .ge 7, 3) := by decide +kernel
theorem dX4_compacts_410 : decode cX4_compacts 410 = .ok (.iconst (-1), 1) := by decide +kernel
theorem dX4_compacts_411 : decode cX4_compacts 411 = .ok (.goto 23, 3) := by decide +kernel
theorem dX4_compacts_414 : decode cX4_compacts 414 = .ok (.aload_n 0, 1) := by decide +kernel
theorem dX4_compacts_415 : decode cX4_compacts 415 = .ok (.getfield 7, 3) := by decide +kernel
theorem dX4_compacts_418 : decode cX4_compacts 418 = .ok (.iload_n 2, 1) := by decide +kernel
theorem dX4_compacts_419 : decode cX4_compacts 419 = .ok (.bipush 43, 2) := by decide +kernel
theorem dX4_compacts_421 : decode cX4_compacts 421 = .ok (.iadd, 1) := by decide +kernel
theorem dX4_compacts_422 : decode cX4_compacts 422 = .ok (.aload_n 0, 1) := by decide +kernel
theorem dX4_compacts_423 : decode cX4_compacts 423 = .ok (.getfield 7, 3) := by decide +kernel
theorem dX4_compacts_426 : decode cX4_compacts 426 = .ok (.bipush 124, 2) := by decide +kernel
theorem dX4_compacts_428 : decode cX4_compacts 428 = .ok (.iload 4, 2) := by decide +kernel
theorem dX4_compacts_430 : decode cX4_compacts 430 = .ok (.iadd, 1) := by decide +kernel
theorem dX4_compacts_431 : decode cX4_compacts 431 = .ok (.iaload, 1) := by decide +kernel
theorem dX4_compacts_432 : decode cX4_compacts 432 = .ok (.iadd, 1) := by decide +kernel
theorem dX4_compacts_433 : decode cX4_compacts 433 = .ok (.iaload, 1) := by decide +kernel
theorem dX4_compacts_434 : decode cX4_compacts 434 = .ok (.iastore, 1) := by decide +kernel
theorem dX4_compacts_435 : decode cX4_compacts 435 = .ok (.iinc 4 1, 3) := by decide +kernel
theorem dX4_compacts_438 : decode cX4_compacts 438 = .ok (.goto (-57), 3) := by decide +kernel
theorem dX4_compacts_441 : decode cX4_compacts 441 = .ok (.aload_n 0, 1) := by decide +kernel
theorem dX4_compacts_442 : decode cX4_compacts 442 = .ok (.getfield 7, 3) := by decide +kernel
theorem dX4_compacts_445 : decode cX4_compacts 445 = .ok (.iload_n 2, 1) := by decide +kernel
theorem dX4_compacts_446 : decode cX4_compacts 446 = .ok (.iload_n 1, 1) := by decide +kernel
theorem dX4_compacts_447 : decode cX4_compacts 447 = .ok (.iastore, 1) := by decide +kernel
theorem dX4_compacts_448 : decode cX4_compacts 448 = .ok (.aload_n 0, 1) := by decide +kernel
theorem dX4_compacts_449 : decode cX4_compacts 449 = .ok (.getfield 7, 3) := by decide +kernel
theorem dX4_compacts_452 : decode cX4_compacts 452 = .ok (.iload_n 2, 1) := by decide +kernel
theorem dX4_compacts_453 : decode cX4_compacts 453 = .ok (.iconst 1, 1) := by decide +kernel
theorem dX4_compacts_454 : decode cX4_compacts 454 = .ok (.iadd, 1) := by decide +kernel
theorem dX4_compacts_455 : decode cX4_compacts 455 = .ok (.aload_n 0, 1) := by decide +kernel
theorem dX4_compacts_456 : decode cX4_compacts 456 = .ok (.getfield 103, 3) := by decide +kernel
theorem dX4_compacts_459 : decode cX4_compacts 459 = .ok (.iastore, 1) := by decide +kernel
theorem dX4_compacts_460 : decode cX4_compacts 460 = .ok (.aload_n 0, 1) := by decide +kernel
theorem dX4_compacts_461 : decode cX4_compacts 461 = .ok (.getfield 7, 3) := by decide +kernel
theorem dX4_compacts_464 : decode cX4_compacts 464 = .ok (.iload_n 2, 1) := by decide +kernel
theorem dX4_compacts_465 : decode cX4_compacts 465 = .ok (.iconst 2, 1) := by decide +kernel
theorem dX4_compacts_466 : decode cX4_compacts 466 = .ok (.iadd, 1) := by decide +kernel
theorem dX4_compacts_467 : decode cX4_compacts 467 = .ok (.iload_n 3, 1) := by decide +kernel
theorem dX4_compacts_468 : decode cX4_compacts 468 = .ok (.iastore, 1) := by decide +kernel
theorem dX4_compacts_469 : decode cX4_compacts 469 = .ok (.aload_n 0, 1) := by decide +kernel
theorem dX4_compacts_470 : decode cX4_compacts 470 = .ok (.getfield 7, 3) := by decide +kernel
theorem dX4_compacts_473 : decode cX4_compacts 473 = .ok (.iconst 0, 1) := by decide +kernel
theorem dX4_compacts_474 : decode cX4_compacts 474 = .ok (.dup2, 1) := by decide +kernel
theorem dX4_compacts_475 : decode cX4_compacts 475 = .ok (.iaload, 1) := by decide +kernel
theorem dX4_compacts_476 : decode cX4_compacts 476 = .ok (.iconst 1, 1) := by decide +kernel
theorem dX4_compacts_477 : decode cX4_compacts 477 = .ok (.iadd, 1) := by decide +kernel
theorem dX4_compacts_478 : decode cX4_compacts 478 = .ok (.iastore, 1) := by decide +kernel
theorem dX4_compacts_479 : decode cX4_compacts 479 = .ok (.aload_n 0, 1) := by decide +kernel
theorem dX4_compacts_480 : decode cX4_compacts 480 = .ok (.getfield 7, 3) := by decide +kernel
theorem dX4_compacts_483 : decode cX4_compacts 483 = .ok (.iconst 3, 1) := by decide +kernel
theorem dX4_compacts_484 : decode cX4_compacts 484 = .ok (.dup2, 1) := by decide +kernel
theorem dX4_compacts_485 : decode cX4_compacts 485 = .ok (.iaload, 1) := by decide +kernel
theorem dX4_compacts_486 : decode cX4_compacts 486 = .ok (.iconst 1, 1) := by decide +kernel
theorem dX4_compacts_487 : decode cX4_compacts 487 = .ok (.iadd, 1) := by decide +kernel
theorem dX4_compacts_488 : decode cX4_compacts 488 = .ok (.iastore, 1) := by decide +kernel
theorem dX4_compacts_489 : decode cX4_compacts 489 = .ok (.iload_n 3, 1) := by decide +kernel
theorem dX4_compacts_490 : decode cX4_compacts 490 = .ok (.ireturn, 1) := by decide +kernel
set_option maxRecDepth 20000 in
theorem ggX4_compact_X4_within : GoodIn wsX4_compact wsX4_within := goodIn_r _ [7] (by decide +kernel) (by decide +kernel)
set_option maxRecDepth 20000 in
theorem gX4_compact_X4_within : GoodIn wsX4_compact (va_wsS RX4 37 yX4_within wsX4_within) := goodIn_app (goodIn_of _ (by decide +kernel)) ggX4_compact_X4_within
set_option maxRecDepth 20000 in
theorem ggX4_compact_X4_saves : GoodIn wsX4_compact wsX4_saves := goodIn_r _ [11, 12, 13, 2, 37, 38, 39, 40, 41, 42, 43, 44, 45, 46, 47, 48, 49, 50, 51, 52, 53] (by decide +kernel) (by decide +kernel)
set_option maxRecDepth 20000 in
theorem gX4_compact_X4_saves : GoodIn wsX4_compact (wsV RX4 66 RX4 yX4_saves wsX4_saves) := goodIn_app (goodIn_of _ (by decide +kernel)) ggX4_compact_X4_saves
set_option maxRecDepth 20000 in
theorem ggX4_compact_X4_compacts : GoodIn wsX4_compact wsX4_compacts := goodIn_r _ [17, 2, 18, 19, 20, 21, 22, 23, 6, 24, 25, 26, 27, 28, 29, 30, 31, 32, 33, 34, 35, 36, 37, 38, 39, 40, 41, 42, 43, 44, 45, 46, 47, 48, 49, 50, 51, 52, 53] (by decide +kernel) (by decide +kernel)
set_option maxRecDepth 20000 in
theorem gX4_compact_X4_compacts : GoodIn wsX4_compact (wsV RX4 113 RX4 yX4_compacts wsX4_compacts) := goodIn_app (goodIn_of _ (by decide +kernel)) ggX4_compact_X4_compacts
theorem dX4_compact_0 : decode cX4_compact 0 = .ok (.iload_n 1, 1) := by decide +kernel
theorem dX4_compact_1 : decode cX4_compact 1 = .ok (.iconst 0, 1) := by decide +kernel
theorem dX4_compact_2 : decode cX4_compact 2 = .ok (.iconst 2, 1) := by decide +kernel
theorem dX4_compact_3 : decode cX4_compact 3 = .ok (.invokestatic 37, 3) := by decide +kernel
theorem dX4_compact_6 : decode cX4_compact 6 = .ok (.ifCond .ne 6, 3) := by decide +kernel
theorem dX4_compact_9 : decode cX4_compact 9 = .ok (.ldc 61, 2) := by decide +kernel
theorem dX4_compact_11 : decode cX4_compact 11 = .ok (.ireturn, 1) := by decide +kernel
theorem dX4_compact_12 : decode cX4_compact 12 = .ok (.aload_n 0, 1) := by decide +kernel
theorem dX4_compact_13 : decode cX4_compact 13 = .ok (.getfield 7, 3) := by decide +kernel
theorem dX4_compact_16 : decode cX4_compact 16 = .ok (.iconst 0, 1) := by decide +kernel
theorem dX4_compact_17 : decode cX4_compact 17 = .ok (.iaload, 1) := by decide +kernel
theorem dX4_compact_18 : decode cX4_compact 18 = .ok (.sipush 999, 3) := by decide +kernel
theorem dX4_compact_21 : decode cX4_compact 21 = .ok (.if_icmp .ne 6, 3) := by decide +kernel
theorem dX4_compact_24 : decode cX4_compact 24 = .ok (.ldc 65, 2) := by decide +kernel
theorem dX4_compact_26 : decode cX4_compact 26 = .ok (.ireturn, 1) := by decide +kernel
theorem dX4_compact_27 : decode cX4_compact 27 = .ok (.aload_n 0, 1) := by decide +kernel
theorem dX4_compact_28 : decode cX4_compact 28 = .ok (.invokevirtual 66, 3) := by decide +kernel
theorem dX4_compact_31 : decode cX4_compact 31 = .ok (.aload_n 0, 1) := by decide +kernel
theorem dX4_compact_32 : decode cX4_compact 32 = .ok (.iload_n 1, 1) := by decide +kernel
theorem dX4_compact_33 : decode cX4_compact 33 = .ok (.invokevirtual 113, 3) := by decide +kernel
theorem dX4_compact_36 : decode cX4_compact 36 = .ok (.ireturn, 1) := by decide +kernel
set_option maxRecDepth 20000 in
theorem ggX4_numberOf_X4_within : GoodIn wsX4_numberOf wsX4_within := goodIn_r _ [7] (by decide +kernel) (by decide +kernel)
set_option maxRecDepth 20000 in
theorem gX4_numberOf_X4_within : GoodIn wsX4_numberOf (va_wsS RX4 37 yX4_within wsX4_within) := goodIn_app (goodIn_of _ (by decide +kernel)) ggX4_numberOf_X4_within
set_option maxRecDepth 20000 in
theorem ggX4_numberOf_X4_isNamed : GoodIn wsX4_numberOf wsX4_isNamed := goodIn_r _ [11, 2, 21, 22, 23, 24, 25, 26, 27, 28, 29, 30, 31, 32, 33, 34, 35, 36, 37] (by decide +kernel) (by decide +kernel)
set_option maxRecDepth 20000 in
theorem gX4_numberOf_X4_isNamed : GoodIn wsX4_numberOf (wsV RX4 42 RX4 yX4_isNamed wsX4_isNamed) := goodIn_app (goodIn_of _ (by decide +kernel)) ggX4_numberOf_X4_isNamed
set_option maxRecDepth 20000 in
theorem ggX4_numberOf_X4_cellsWith : GoodIn wsX4_numberOf wsX4_cellsWith := goodIn_r _ [15, 2, 21, 22, 23, 24, 25, 26, 27, 28, 29, 30, 31, 32, 33, 34, 35, 36, 37] (by decide +kernel) (by decide +kernel)
set_option maxRecDepth 20000 in
theorem gX4_numberOf_X4_cellsWith : GoodIn wsX4_numberOf (wsV RX4 86 RX4 yX4_cellsWith wsX4_cellsWith) := goodIn_app (goodIn_of _ (by decide +kernel)) ggX4_numberOf_X4_cellsWith
set_option maxRecDepth 20000 in
theorem ggX4_numberOf_X4_tagOf : GoodIn wsX4_numberOf wsX4_tagOf := goodIn_r _ [19, 20, 2, 21, 22, 23, 24, 25, 26, 27, 28, 29, 30, 31, 32, 33, 34, 35, 36, 37] (by decide +kernel) (by decide +kernel)
set_option maxRecDepth 20000 in
theorem gX4_numberOf_X4_tagOf : GoodIn wsX4_numberOf (wsV RX4 55 RX4 yX4_tagOf wsX4_tagOf) := goodIn_app (goodIn_of _ (by decide +kernel)) ggX4_numberOf_X4_tagOf
theorem dX4_numberOf_0 : decode cX4_numberOf 0 = .ok (.iload_n 1, 1) := by decide +kernel
theorem dX4_numberOf_1 : decode cX4_numberOf 1 = .ok (.iconst 0, 1) := by decide +kernel
theorem dX4_numberOf_2 : decode cX4_numberOf 2 = .ok (.bipush 39, 2) := by decide +kernel
theorem dX4_numberOf_4 : decode cX4_numberOf 4 = .ok (.invokestatic 37, 3) := by decide +kernel
theorem dX4_numberOf_7 : decode cX4_numberOf 7 = .ok (.ifCond .eq 12, 3) := by decide +kernel
theorem dX4_numberOf_10 : decode cX4_numberOf 10 = .ok (.iload_n 2, 1) := by decide +kernel
theorem dX4_numberOf_11 : decode cX4_numberOf 11 = .ok (.iconst 0, 1) := by decide +kernel
theorem dX4_numberOf_12 : decode cX4_numberOf 12 = .ok (.iconst 4, 1) := by decide +kernel
theorem dX4_numberOf_13 : decode cX4_numberOf 13 = .ok (.invokestatic 37, 3) := by decide +kernel
theorem dX4_numberOf_16 : decode cX4_numberOf 16 = .ok (.ifCond .ne 6, 3) := by decide +kernel
theorem dX4_numberOf_19 : decode cX4_numberOf 19 = .ok (.ldc 61, 2) := by decide +kernel
theorem dX4_numberOf_21 : decode cX4_numberOf 21 = .ok (.ireturn, 1) := by decide +kernel
theorem dX4_numberOf_22 : decode cX4_numberOf 22 = .ok (.iload_n 2, 1) := by decide +kernel
theorem dX4_numberOf_23 : decode cX4_numberOf 23 = .ok (.tableswitch 77 0 3 #[29, 51, 61, 67], 29) := by decide +kernel
theorem dX4_numberOf_52 : decode cX4_numberOf 52 = .ok (.aload_n 0, 1) := by decide +kernel
theorem dX4_numberOf_53 : decode cX4_numberOf 53 = .ok (.iload_n 1, 1) := by decide +kernel
theorem dX4_numberOf_54 : decode cX4_numberOf 54 = .ok (.invokevirtual 42, 3) := by decide +kernel
theorem dX4_numberOf_57 : decode cX4_numberOf 57 = .ok (.ifCond .eq 14, 3) := by decide +kernel
theorem dX4_numberOf_60 : decode cX4_numberOf 60 = .ok (.aload_n 0, 1) := by decide +kernel
theorem dX4_numberOf_61 : decode cX4_numberOf 61 = .ok (.getfield 7, 3) := by decide +kernel
theorem dX4_numberOf_64 : decode cX4_numberOf 64 = .ok (.iconst 4, 1) := by decide +kernel
theorem dX4_numberOf_65 : decode cX4_numberOf 65 = .ok (.iload_n 1, 1) := by decide +kernel
theorem dX4_numberOf_66 : decode cX4_numberOf 66 = .ok (.iadd, 1) := by decide +kernel
theorem dX4_numberOf_67 : decode cX4_numberOf 67 = .ok (.iaload, 1) := by decide +kernel
theorem dX4_numberOf_68 : decode cX4_numberOf 68 = .ok (.goto 5, 3) := by decide +kernel
theorem dX4_numberOf_71 : decode cX4_numberOf 71 = .ok (.ldc 99, 2) := by decide +kernel
theorem dX4_numberOf_73 : decode cX4_numberOf 73 = .ok (.ireturn, 1) := by decide +kernel
theorem dX4_numberOf_74 : decode cX4_numberOf 74 = .ok (.aload_n 0, 1) := by decide +kernel
theorem dX4_numberOf_75 : decode cX4_numberOf 75 = .ok (.getfield 7, 3) := by decide +kernel
theorem dX4_numberOf_78 : decode cX4_numberOf 78 = .ok (.bipush 44, 2) := by decide +kernel
theorem dX4_numberOf_80 : decode cX4_numberOf 80 = .ok (.iload_n 1, 1) := by decide +kernel
theorem dX4_numberOf_81 : decode cX4_numberOf 81 = .ok (.iadd, 1) := by decide +kernel
theorem dX4_numberOf_82 : decode cX4_numberOf 82 = .ok (.iaload, 1) := by decide +kernel
theorem dX4_numberOf_83 : decode cX4_numberOf 83 = .ok (.ireturn, 1) := by decide +kernel
theorem dX4_numberOf_84 : decode cX4_numberOf 84 = .ok (.aload_n 0, 1) := by decide +kernel
theorem dX4_numberOf_85 : decode cX4_numberOf 85 = .ok (.iload_n 1, 1) := by decide +kernel
theorem dX4_numberOf_86 : decode cX4_numberOf 86 = .ok (.invokevirtual 86, 3) := by decide +kernel
theorem dX4_numberOf_89 : decode cX4_numberOf 89 = .ok (.ireturn, 1) := by decide +kernel
theorem dX4_numberOf_90 : decode cX4_numberOf 90 = .ok (.aload_n 0, 1) := by decide +kernel
theorem dX4_numberOf_91 : decode cX4_numberOf 91 = .ok (.getfield 7, 3) := by decide +kernel
theorem dX4_numberOf_94 : decode cX4_numberOf 94 = .ok (.bipush 84, 2) := by decide +kernel
theorem dX4_numberOf_96 : decode cX4_numberOf 96 = .ok (.iload_n 1, 1) := by decide +kernel
theorem dX4_numberOf_97 : decode cX4_numberOf 97 = .ok (.iadd, 1) := by decide +kernel
theorem dX4_numberOf_98 : decode cX4_numberOf 98 = .ok (.iaload, 1) := by decide +kernel
theorem dX4_numberOf_99 : decode cX4_numberOf 99 = .ok (.ireturn, 1) := by decide +kernel
theorem dX4_numberOf_100 : decode cX4_numberOf 100 = .ok (.aload_n 0, 1) := by decide +kernel
theorem dX4_numberOf_101 : decode cX4_numberOf 101 = .ok (.iload_n 1, 1) := by decide +kernel
theorem dX4_numberOf_102 : decode cX4_numberOf 102 = .ok (.invokevirtual 42, 3) := by decide +kernel
theorem dX4_numberOf_105 : decode cX4_numberOf 105 = .ok (.ifCond .eq 11, 3) := by decide +kernel
theorem dX4_numberOf_108 : decode cX4_numberOf 108 = .ok (.aload_n 0, 1) := by decide +kernel
theorem dX4_numberOf_109 : decode cX4_numberOf 109 = .ok (.iload_n 1, 1) := by decide +kernel
theorem dX4_numberOf_110 : decode cX4_numberOf 110 = .ok (.invokevirtual 55, 3) := by decide +kernel
theorem dX4_numberOf_113 : decode cX4_numberOf 113 = .ok (.goto 5, 3) := by decide +kernel
theorem dX4_numberOf_116 : decode cX4_numberOf 116 = .ok (.ldc 99, 2) := by decide +kernel
theorem dX4_numberOf_118 : decode cX4_numberOf 118 = .ok (.ireturn, 1) := by decide +kernel
set_option maxRecDepth 20000 in
theorem ggX4_find_X4_isName : GoodIn wsX4_find wsX4_isName := goodIn_r _ [6, 7, 8, 9, 5, 10] (by decide +kernel) (by decide +kernel)
set_option maxRecDepth 20000 in
theorem gX4_find_X4_isName : GoodIn wsX4_find (va_wsS RX4 58 yX4_isName wsX4_isName) := goodIn_app (goodIn_of _ (by decide +kernel)) ggX4_find_X4_isName
set_option maxRecDepth 20000 in
theorem ggX4_find_X4_numberWith : GoodIn wsX4_find wsX4_numberWith := goodIn_r _ [14, 15, 16, 17, 18, 19, 20, 21, 22, 23, 24, 25, 26, 27, 28, 29, 30, 31, 32] (by decide +kernel) (by decide +kernel)
set_option maxRecDepth 20000 in
theorem gX4_find_X4_numberWith : GoodIn wsX4_find (wsV RX4 47 RX4 yX4_numberWith wsX4_numberWith) := goodIn_app (goodIn_of _ (by decide +kernel)) ggX4_find_X4_numberWith
theorem dX4_find_0 : decode cX4_find 0 = .ok (.iload_n 1, 1) := by decide +kernel
theorem dX4_find_1 : decode cX4_find 1 = .ok (.invokestatic 58, 3) := by decide +kernel
theorem dX4_find_4 : decode cX4_find 4 = .ok (.ifCond .ne 6, 3) := by decide +kernel
theorem dX4_find_7 : decode cX4_find 7 = .ok (.ldc 61, 2) := by decide +kernel
theorem dX4_find_9 : decode cX4_find 9 = .ok (.ireturn, 1) := by decide +kernel
theorem dX4_find_10 : decode cX4_find 10 = .ok (.aload_n 0, 1) := by decide +kernel
theorem dX4_find_11 : decode cX4_find 11 = .ok (.iload_n 1, 1) := by decide +kernel
theorem dX4_find_12 : decode cX4_find 12 = .ok (.invokevirtual 47, 3) := by decide +kernel
theorem dX4_find_15 : decode cX4_find 15 = .ok (.istore_n 2, 1) := by decide +kernel
theorem dX4_find_16 : decode cX4_find 16 = .ok (.iload_n 2, 1) := by decide +kernel
theorem dX4_find_17 : decode cX4_find 17 = .ok (.ifCond .ge 8, 3) := by decide +kernel
theorem dX4_find_20 : decode cX4_find 20 = .ok (.ldc 99, 2) := by decide +kernel
theorem dX4_find_22 : decode cX4_find 22 = .ok (.goto 4, 3) := by decide +kernel
theorem dX4_find_25 : decode cX4_find 25 = .ok (.iload_n 2, 1) := by decide +kernel
theorem dX4_find_26 : decode cX4_find 26 = .ok (.ireturn, 1) := by decide +kernel
set_option maxRecDepth 20000 in
theorem ggX4_nameAt_X4_within : GoodIn wsX4_nameAt wsX4_within := goodIn_r _ [9] (by decide +kernel) (by decide +kernel)
set_option maxRecDepth 20000 in
theorem gX4_nameAt_X4_within : GoodIn wsX4_nameAt (va_wsS RX4 37 yX4_within wsX4_within) := goodIn_app (goodIn_of _ (by decide +kernel)) ggX4_nameAt_X4_within
set_option maxRecDepth 20000 in
theorem ggX4_nameAt_X4_ranks : GoodIn wsX4_nameAt wsX4_ranks := goodIn_r _ [13, 2, 4, 14, 15, 16, 8, 17, 3, 18, 19, 20, 21, 22, 23, 24, 25, 26, 27, 28, 29, 30, 31, 32, 33, 34, 35, 36, 37, 38, 39, 40, 41, 42] (by decide +kernel) (by decide +kernel)
set_option maxRecDepth 20000 in
theorem gX4_nameAt_X4_ranks : GoodIn wsX4_nameAt (wsV RX4 109 RX4 yX4_ranks wsX4_ranks) := goodIn_app (goodIn_of _ (by decide +kernel)) ggX4_nameAt_X4_ranks
theorem dX4_nameAt_0 : decode cX4_nameAt 0 = .ok (.iload_n 1, 1) := by decide +kernel
theorem dX4_nameAt_1 : decode cX4_nameAt 1 = .ok (.iconst 0, 1) := by decide +kernel
theorem dX4_nameAt_2 : decode cX4_nameAt 2 = .ok (.iconst 2, 1) := by decide +kernel
theorem dX4_nameAt_3 : decode cX4_nameAt 3 = .ok (.invokestatic 37, 3) := by decide +kernel
theorem dX4_nameAt_6 : decode cX4_nameAt 6 = .ok (.ifCond .eq 7, 3) := by decide +kernel
theorem dX4_nameAt_9 : decode cX4_nameAt 9 = .ok (.iload_n 2, 1) := by decide +kernel
theorem dX4_nameAt_10 : decode cX4_nameAt 10 = .ok (.ifCond .ge 6, 3) := by decide +kernel
theorem dX4_nameAt_13 : decode cX4_nameAt 13 = .ok (.ldc 61, 2) := by decide +kernel
theorem dX4_nameAt_15 : decode cX4_nameAt 15 = .ok (.ireturn, 1) := by decide +kernel
theorem dX4_nameAt_16 : decode cX4_nameAt 16 = .ok (.aload_n 0, 1) := by decide +kernel
theorem dX4_nameAt_17 : decode cX4_nameAt 17 = .ok (.iload_n 1, 1) := by decide +kernel
theorem dX4_nameAt_18 : decode cX4_nameAt 18 = .ok (.invokevirtual 109, 3) := by decide +kernel
theorem dX4_nameAt_21 : decode cX4_nameAt 21 = .ok (.iload_n 2, 1) := by decide +kernel
theorem dX4_nameAt_22 : decode cX4_nameAt 22 = .ok (.aload_n 0, 1) := by decide +kernel
theorem dX4_nameAt_23 : decode cX4_nameAt 23 = .ok (.getfield 103, 3) := by decide +kernel
theorem dX4_nameAt_26 : decode cX4_nameAt 26 = .ok (.if_icmp .ge 19, 3) := by decide +kernel
theorem dX4_nameAt_29 : decode cX4_nameAt 29 = .ok (.aload_n 0, 1) := by decide +kernel
theorem dX4_nameAt_30 : decode cX4_nameAt 30 = .ok (.getfield 7, 3) := by decide +kernel
theorem dX4_nameAt_33 : decode cX4_nameAt 33 = .ok (.iconst 4, 1) := by decide +kernel
theorem dX4_nameAt_34 : decode cX4_nameAt 34 = .ok (.aload_n 0, 1) := by decide +kernel
theorem dX4_nameAt_35 : decode cX4_nameAt 35 = .ok (.getfield 22, 3) := by decide +kernel
theorem dX4_nameAt_38 : decode cX4_nameAt 38 = .ok (.iload_n 2, 1) := by decide +kernel
theorem dX4_nameAt_39 : decode cX4_nameAt 39 = .ok (.iaload, 1) := by decide +kernel
theorem dX4_nameAt_40 : decode cX4_nameAt 40 = .ok (.iadd, 1) := by decide +kernel
theorem dX4_nameAt_41 : decode cX4_nameAt 41 = .ok (.iaload, 1) := by decide +kernel
theorem dX4_nameAt_42 : decode cX4_nameAt 42 = .ok (.goto 5, 3) := by decide +kernel
theorem dX4_nameAt_45 : decode cX4_nameAt 45 = .ok (.ldc 99, 2) := by decide +kernel
theorem dX4_nameAt_47 : decode cX4_nameAt 47 = .ok (.ireturn, 1) := by decide +kernel
theorem dX4_begins_0 : decode cX4_begins 0 = .ok (.iload_n 0, 1) := by decide +kernel
theorem dX4_begins_1 : decode cX4_begins 1 = .ok (.istore_n 2, 1) := by decide +kernel
theorem dX4_begins_2 : decode cX4_begins 2 = .ok (.iload_n 2, 1) := by decide +kernel
theorem dX4_begins_3 : decode cX4_begins 3 = .ok (.iload_n 1, 1) := by decide +kernel
theorem dX4_begins_4 : decode cX4_begins 4 = .ok (.if_icmp .le 11, 3) := by decide +kernel
theorem dX4_begins_7 : decode cX4_begins 7 = .ok (.iload_n 2, 1) := by decide +kernel
theorem dX4_begins_8 : decode cX4_begins 8 = .ok (.bipush 27, 2) := by decide +kernel
theorem dX4_begins_10 : decode cX4_begins 10 = .ok (.idiv, 1) := by decide +kernel
theorem dX4_begins_11 : decode cX4_begins 11 = .ok (.istore_n 2, 1) := by decide +kernel
theorem dX4_begins_12 : decode cX4_begins 12 = .ok (.goto (-10), 3) := by decide +kernel
theorem dX4_begins_15 : decode cX4_begins 15 = .ok (.iload_n 2, 1) := by decide +kernel
theorem dX4_begins_16 : decode cX4_begins 16 = .ok (.iload_n 1, 1) := by decide +kernel
theorem dX4_begins_17 : decode cX4_begins 17 = .ok (.if_icmp .ne 7, 3) := by decide +kernel
theorem dX4_begins_20 : decode cX4_begins 20 = .ok (.iconst 1, 1) := by decide +kernel
theorem dX4_begins_21 : decode cX4_begins 21 = .ok (.goto 4, 3) := by decide +kernel
theorem dX4_begins_24 : decode cX4_begins 24 = .ok (.iconst 0, 1) := by decide +kernel
theorem dX4_begins_25 : decode cX4_begins 25 = .ok (.ireturn, 1) := by decide +kernel
set_option maxRecDepth 20000 in
theorem ggX4_beginning_X4_isName : GoodIn wsX4_beginning wsX4_isName := goodIn_r _ [6, 7, 8, 9, 5, 10] (by decide +kernel) (by decide +kernel)
set_option maxRecDepth 20000 in
theorem gX4_beginning_X4_isName : GoodIn wsX4_beginning (va_wsS RX4 58 yX4_isName wsX4_isName) := goodIn_app (goodIn_of _ (by decide +kernel)) ggX4_beginning_X4_isName
set_option maxRecDepth 20000 in
theorem ggX4_beginning_X4_isNamed : GoodIn wsX4_beginning wsX4_isNamed := goodIn_r _ [14, 2, 18, 19, 20, 21, 22, 23, 24, 25, 26, 27, 28, 29, 30, 31, 32, 33, 34] (by decide +kernel) (by decide +kernel)
set_option maxRecDepth 20000 in
theorem gX4_beginning_X4_isNamed : GoodIn wsX4_beginning (wsV RX4 42 RX4 yX4_isNamed wsX4_isNamed) := goodIn_app (goodIn_of _ (by decide +kernel)) ggX4_beginning_X4_isNamed
set_option maxRecDepth 20000 in
theorem ggX4_beginning_X4_begins : GoodIn wsX4_beginning wsX4_begins := goodIn_r _ [17] (by decide +kernel) (by decide +kernel)
set_option maxRecDepth 20000 in
theorem gX4_beginning_X4_begins : GoodIn wsX4_beginning (va_wsS RX4 116 yX4_begins wsX4_begins) := goodIn_app (goodIn_of _ (by decide +kernel)) ggX4_beginning_X4_begins
theorem dX4_beginning_0 : decode cX4_beginning 0 = .ok (.iload_n 1, 1) := by decide +kernel
theorem dX4_beginning_1 : decode cX4_beginning 1 = .ok (.invokestatic 58, 3) := by decide +kernel
theorem dX4_beginning_4 : decode cX4_beginning 4 = .ok (.ifCond .ne 6, 3) := by decide +kernel
theorem dX4_beginning_7 : decode cX4_beginning 7 = .ok (.ldc 61, 2) := by decide +kernel
theorem dX4_beginning_9 : decode cX4_beginning 9 = .ok (.ireturn, 1) := by decide +kernel
theorem dX4_beginning_10 : decode cX4_beginning 10 = .ok (.iconst 0, 1) := by decide +kernel
theorem dX4_beginning_11 : decode cX4_beginning 11 = .ok (.istore_n 2, 1) := by decide +kernel
theorem dX4_beginning_12 : decode cX4_beginning 12 = .ok (.iconst 0, 1) := by decide +kernel
theorem dX4_beginning_13 : decode cX4_beginning 13 = .ok (.istore_n 3, 1) := by decide +kernel
theorem dX4_beginning_14 : decode cX4_beginning 14 = .ok (.iload_n 3, 1) := by decide +kernel
theorem dX4_beginning_15 : decode cX4_beginning 15 = .ok (.bipush 40, 2) := by decide +kernel
theorem dX4_beginning_17 : decode cX4_beginning 17 = .ok (.if_icmp .ge 40, 3) := by decide +kernel
theorem dX4_beginning_20 : decode cX4_beginning 20 = .ok (.iload_n 2, 1) := by decide +kernel
theorem dX4_beginning_21 : decode cX4_beginning 21 = .ok (.aload_n 0, 1) := by decide +kernel
theorem dX4_beginning_22 : decode cX4_beginning 22 = .ok (.iload_n 3, 1) := by decide +kernel
theorem dX4_beginning_23 : decode cX4_beginning 23 = .ok (.invokevirtual 42, 3) := by decide +kernel
theorem dX4_beginning_26 : decode cX4_beginning 26 = .ok (.ifCond .eq 22, 3) := by decide +kernel
theorem dX4_beginning_29 : decode cX4_beginning 29 = .ok (.aload_n 0, 1) := by decide +kernel
theorem dX4_beginning_30 : decode cX4_beginning 30 = .ok (.getfield 7, 3) := by decide +kernel
theorem dX4_beginning_33 : decode cX4_beginning 33 = .ok (.iconst 4, 1) := by decide +kernel
theorem dX4_beginning_34 : decode cX4_beginning 34 = .ok (.iload_n 3, 1) := by decide +kernel
theorem dX4_beginning_35 : decode cX4_beginning 35 = .ok (.iadd, 1) := by decide +kernel
theorem dX4_beginning_36 : decode cX4_beginning 36 = .ok (.iaload, 1) := by decide +kernel
theorem dX4_beginning_37 : decode cX4_beginning 37 = .ok (.iload_n 1, 1) := by decide +kernel
theorem dX4_beginning_38 : decode cX4_beginning 38 = .ok (.invokestatic 116, 3) := by decide +kernel
theorem dX4_beginning_41 : decode cX4_beginning 41 = .ok (.ifCond .eq 7, 3) := by decide +kernel
theorem dX4_beginning_44 : decode cX4_beginning 44 = .ok (.iconst 1, 1) := by decide +kernel
theorem dX4_beginning_45 : decode cX4_beginning 45 = .ok (.goto 4, 3) := by decide +kernel
theorem dX4_beginning_48 : decode cX4_beginning 48 = .ok (.iconst 0, 1) := by decide +kernel
theorem dX4_beginning_49 : decode cX4_beginning 49 = .ok (.iadd, 1) := by decide +kernel
theorem dX4_beginning_50 : decode cX4_beginning 50 = .ok (.istore_n 2, 1) := by decide +kernel
theorem dX4_beginning_51 : decode cX4_beginning 51 = .ok (.iinc 3 1, 3) := by decide +kernel
theorem dX4_beginning_54 : decode cX4_beginning 54 = .ok (.goto (-40), 3) := by decide +kernel
theorem dX4_beginning_57 : decode cX4_beginning 57 = .ok (.iload_n 2, 1) := by decide +kernel
theorem dX4_beginning_58 : decode cX4_beginning 58 = .ok (.ireturn, 1) := by decide +kernel
set_option maxRecDepth 20000 in
theorem ggX4_behind_X4_isName : GoodIn wsX4_behind wsX4_isName := goodIn_r _ [9, 10, 11, 12, 8, 13] (by decide +kernel) (by decide +kernel)
set_option maxRecDepth 20000 in
theorem gX4_behind_X4_isName : GoodIn wsX4_behind (va_wsS RX4 58 yX4_isName wsX4_isName) := goodIn_app (goodIn_of _ (by decide +kernel)) ggX4_behind_X4_isName
set_option maxRecDepth 20000 in
theorem ggX4_behind_X4_ranks : GoodIn wsX4_behind wsX4_ranks := goodIn_r _ [17, 2, 4, 18, 19, 20, 8, 21, 3, 22, 23, 24, 25, 26, 27, 28, 29, 30, 31, 32, 33, 34, 35, 36, 37, 38, 39, 40, 41, 42, 43, 44, 45, 46] (by decide +kernel) (by decide +kernel)
set_option maxRecDepth 20000 in
theorem gX4_behind_X4_ranks : GoodIn wsX4_behind (wsV RX4 109 RX4 yX4_ranks wsX4_ranks) := goodIn_app (goodIn_of _ (by decide +kernel)) ggX4_behind_X4_ranks
set_option maxRecDepth 20000 in
theorem ggX4_behind_X4_padded : GoodIn wsX4_behind wsX4_padded := goodIn_r _ [28, 29] (by decide +kernel) (by decide +kernel)
set_option maxRecDepth 20000 in
theorem gX4_behind_X4_padded : GoodIn wsX4_behind (va_wsS RX4 100 yX4_padded wsX4_padded) := goodIn_app (goodIn_of _ (by decide +kernel)) ggX4_behind_X4_padded
theorem dX4_behind_0 : decode cX4_behind 0 = .ok (.iload_n 1, 1) := by decide +kernel
theorem dX4_behind_1 : decode cX4_behind 1 = .ok (.invokestatic 58, 3) := by decide +kernel
theorem dX4_behind_4 : decode cX4_behind 4 = .ok (.ifCond .ne 6, 3) := by decide +kernel
theorem dX4_behind_7 : decode cX4_behind 7 = .ok (.ldc 61, 2) := by decide +kernel
theorem dX4_behind_9 : decode cX4_behind 9 = .ok (.ireturn, 1) := by decide +kernel
theorem dX4_behind_10 : decode cX4_behind 10 = .ok (.aload_n 0, 1) := by decide +kernel
theorem dX4_behind_11 : decode cX4_behind 11 = .ok (.iconst 1, 1) := by decide +kernel
theorem dX4_behind_12 : decode cX4_behind 12 = .ok (.invokevirtual 109, 3) := by decide +kernel
theorem dX4_behind_15 : decode cX4_behind 15 = .ok (.iconst 0, 1) := by decide +kernel
theorem dX4_behind_16 : decode cX4_behind 16 = .ok (.istore_n 2, 1) := by decide +kernel
theorem dX4_behind_17 : decode cX4_behind 17 = .ok (.iload_n 2, 1) := by decide +kernel
theorem dX4_behind_18 : decode cX4_behind 18 = .ok (.aload_n 0, 1) := by decide +kernel
theorem dX4_behind_19 : decode cX4_behind 19 = .ok (.getfield 103, 3) := by decide +kernel
theorem dX4_behind_22 : decode cX4_behind 22 = .ok (.if_icmp .ge 46, 3) := by decide +kernel
theorem dX4_behind_25 : decode cX4_behind 25 = .ok (.aload_n 0, 1) := by decide +kernel
theorem dX4_behind_26 : decode cX4_behind 26 = .ok (.getfield 7, 3) := by decide +kernel
theorem dX4_behind_29 : decode cX4_behind 29 = .ok (.iconst 4, 1) := by decide +kernel
theorem dX4_behind_30 : decode cX4_behind 30 = .ok (.aload_n 0, 1) := by decide +kernel
theorem dX4_behind_31 : decode cX4_behind 31 = .ok (.getfield 22, 3) := by decide +kernel
theorem dX4_behind_34 : decode cX4_behind 34 = .ok (.iload_n 2, 1) := by decide +kernel
theorem dX4_behind_35 : decode cX4_behind 35 = .ok (.iaload, 1) := by decide +kernel
theorem dX4_behind_36 : decode cX4_behind 36 = .ok (.iadd, 1) := by decide +kernel
theorem dX4_behind_37 : decode cX4_behind 37 = .ok (.iaload, 1) := by decide +kernel
theorem dX4_behind_38 : decode cX4_behind 38 = .ok (.invokestatic 100, 3) := by decide +kernel
theorem dX4_behind_41 : decode cX4_behind 41 = .ok (.iload_n 1, 1) := by decide +kernel
theorem dX4_behind_42 : decode cX4_behind 42 = .ok (.invokestatic 100, 3) := by decide +kernel
theorem dX4_behind_45 : decode cX4_behind 45 = .ok (.if_icmp .le 17, 3) := by decide +kernel
theorem dX4_behind_48 : decode cX4_behind 48 = .ok (.aload_n 0, 1) := by decide +kernel
theorem dX4_behind_49 : decode cX4_behind 49 = .ok (.getfield 7, 3) := by decide +kernel
theorem dX4_behind_52 : decode cX4_behind 52 = .ok (.iconst 4, 1) := by decide +kernel
theorem dX4_behind_53 : decode cX4_behind 53 = .ok (.aload_n 0, 1) := by decide +kernel
theorem dX4_behind_54 : decode cX4_behind 54 = .ok (.getfield 22, 3) := by decide +kernel
theorem dX4_behind_57 : decode cX4_behind 57 = .ok (.iload_n 2, 1) := by decide +kernel
theorem dX4_behind_58 : decode cX4_behind 58 = .ok (.iaload, 1) := by decide +kernel
theorem dX4_behind_59 : decode cX4_behind 59 = .ok (.iadd, 1) := by decide +kernel
theorem dX4_behind_60 : decode cX4_behind 60 = .ok (.iaload, 1) := by decide +kernel
theorem dX4_behind_61 : decode cX4_behind 61 = .ok (.ireturn, 1) := by decide +kernel
theorem dX4_behind_62 : decode cX4_behind 62 = .ok (.iinc 2 1, 3) := by decide +kernel
theorem dX4_behind_65 : decode cX4_behind 65 = .ok (.goto (-48), 3) := by decide +kernel
theorem dX4_behind_68 : decode cX4_behind 68 = .ok (.ldc 99, 2) := by decide +kernel
theorem dX4_behind_70 : decode cX4_behind 70 = .ok (.ireturn, 1) := by decide +kernel
set_option maxRecDepth 20000 in
theorem ggX4_wouldBe_X4_within : GoodIn wsX4_wouldBe wsX4_within := goodIn_r _ [8] (by decide +kernel) (by decide +kernel)
set_option maxRecDepth 20000 in
theorem gX4_wouldBe_X4_within : GoodIn wsX4_wouldBe (va_wsS RX4 37 yX4_within wsX4_within) := goodIn_app (goodIn_of _ (by decide +kernel)) ggX4_wouldBe_X4_within
set_option maxRecDepth 20000 in
theorem ggX4_wouldBe_X4_ranks : GoodIn wsX4_wouldBe wsX4_ranks := goodIn_r _ [12, 2, 3, 13, 14, 15, 7, 16, 17, 18, 19, 20, 21, 22, 23, 24, 25, 26, 27, 28, 29, 30, 31, 32, 33, 34, 35, 36, 37, 38, 39, 40, 41, 42] (by decide +kernel) (by decide +kernel)
set_option maxRecDepth 20000 in
theorem gX4_wouldBe_X4_ranks : GoodIn wsX4_wouldBe (wsV RX4 109 RX4 yX4_ranks wsX4_ranks) := goodIn_app (goodIn_of _ (by decide +kernel)) ggX4_wouldBe_X4_ranks
theorem dX4_wouldBe_0 : decode cX4_wouldBe 0 = .ok (.iload_n 1, 1) := by decide +kernel
theorem dX4_wouldBe_1 : decode cX4_wouldBe 1 = .ok (.iconst 0, 1) := by decide +kernel
theorem dX4_wouldBe_2 : decode cX4_wouldBe 2 = .ok (.bipush 39, 2) := by decide +kernel
theorem dX4_wouldBe_4 : decode cX4_wouldBe 4 = .ok (.invokestatic 37, 3) := by decide +kernel
theorem dX4_wouldBe_7 : decode cX4_wouldBe 7 = .ok (.ifCond .eq 12, 3) := by decide +kernel
theorem dX4_wouldBe_10 : decode cX4_wouldBe 10 = .ok (.iload_n 2, 1) := by decide +kernel
theorem dX4_wouldBe_11 : decode cX4_wouldBe 11 = .ok (.iconst 0, 1) := by decide +kernel
theorem dX4_wouldBe_12 : decode cX4_wouldBe 12 = .ok (.iconst 2, 1) := by decide +kernel
theorem dX4_wouldBe_13 : decode cX4_wouldBe 13 = .ok (.invokestatic 37, 3) := by decide +kernel
theorem dX4_wouldBe_16 : decode cX4_wouldBe 16 = .ok (.ifCond .ne 6, 3) := by decide +kernel
theorem dX4_wouldBe_19 : decode cX4_wouldBe 19 = .ok (.ldc 61, 2) := by decide +kernel
theorem dX4_wouldBe_21 : decode cX4_wouldBe 21 = .ok (.ireturn, 1) := by decide +kernel
theorem dX4_wouldBe_22 : decode cX4_wouldBe 22 = .ok (.aload_n 0, 1) := by decide +kernel
theorem dX4_wouldBe_23 : decode cX4_wouldBe 23 = .ok (.iload_n 2, 1) := by decide +kernel
theorem dX4_wouldBe_24 : decode cX4_wouldBe 24 = .ok (.invokevirtual 109, 3) := by decide +kernel
theorem dX4_wouldBe_27 : decode cX4_wouldBe 27 = .ok (.iconst 0, 1) := by decide +kernel
theorem dX4_wouldBe_28 : decode cX4_wouldBe 28 = .ok (.istore_n 3, 1) := by decide +kernel
theorem dX4_wouldBe_29 : decode cX4_wouldBe 29 = .ok (.iload_n 3, 1) := by decide +kernel
theorem dX4_wouldBe_30 : decode cX4_wouldBe 30 = .ok (.aload_n 0, 1) := by decide +kernel
theorem dX4_wouldBe_31 : decode cX4_wouldBe 31 = .ok (.getfield 103, 3) := by decide +kernel
theorem dX4_wouldBe_34 : decode cX4_wouldBe 34 = .ok (.if_icmp .ge 21, 3) := by decide +kernel
theorem dX4_wouldBe_37 : decode cX4_wouldBe 37 = .ok (.aload_n 0, 1) := by decide +kernel
theorem dX4_wouldBe_38 : decode cX4_wouldBe 38 = .ok (.getfield 22, 3) := by decide +kernel
theorem dX4_wouldBe_41 : decode cX4_wouldBe 41 = .ok (.iload_n 3, 1) := by decide +kernel
theorem dX4_wouldBe_42 : decode cX4_wouldBe 42 = .ok (.iaload, 1) := by decide +kernel
theorem dX4_wouldBe_43 : decode cX4_wouldBe 43 = .ok (.iload_n 1, 1) := by decide +kernel
theorem dX4_wouldBe_44 : decode cX4_wouldBe 44 = .ok (.if_icmp .ne 5, 3) := by decide +kernel
theorem dX4_wouldBe_47 : decode cX4_wouldBe 47 = .ok (.iload_n 3, 1) := by decide +kernel
theorem dX4_wouldBe_48 : decode cX4_wouldBe 48 = .ok (.ireturn, 1) := by decide +kernel
theorem dX4_wouldBe_49 : decode cX4_wouldBe 49 = .ok (.iinc 3 1, 3) := by decide +kernel
theorem dX4_wouldBe_52 : decode cX4_wouldBe 52 = .ok (.goto (-23), 3) := by decide +kernel
theorem dX4_wouldBe_55 : decode cX4_wouldBe 55 = .ok (.ldc 99, 2) := by decide +kernel
theorem dX4_wouldBe_57 : decode cX4_wouldBe 57 = .ok (.ireturn, 1) := by decide +kernel
set_option maxRecDepth 20000 in
theorem ggX4_standing_X4_ofCompaction : GoodIn wsX4_standing wsX4_ofCompaction := goodIn_r _ [7, 1, 21, 22, 23, 24, 25, 26, 27, 28, 29, 30, 31, 32, 33, 34, 35, 36, 37] (by decide +kernel) (by decide +kernel)
set_option maxRecDepth 20000 in
theorem gX4_standing_X4_ofCompaction : GoodIn wsX4_standing (wsV RX4 75 RX4 yX4_ofCompaction wsX4_ofCompaction) := goodIn_app (goodIn_of _ (by decide +kernel)) ggX4_standing_X4_ofCompaction
set_option maxRecDepth 20000 in
theorem ggX4_standing_X4_reasonOf : GoodIn wsX4_standing wsX4_reasonOf := goodIn_r _ [11, 2, 1, 12, 13, 14, 15, 6, 16, 3, 4, 5, 7, 17, 18, 19, 20, 21, 22, 23, 24, 25, 26, 27, 28, 29, 30, 31, 32, 33, 34, 35, 36, 37] (by decide +kernel) (by decide +kernel)
set_option maxRecDepth 20000 in
theorem gX4_standing_X4_reasonOf : GoodIn wsX4_standing (wsV RX4 82 RX4 yX4_reasonOf wsX4_reasonOf) := goodIn_app (goodIn_of _ (by decide +kernel)) ggX4_standing_X4_reasonOf
theorem dX4_standing_0 : decode cX4_standing 0 = .ok (.iconst 0, 1) := by decide +kernel
theorem dX4_standing_1 : decode cX4_standing 1 = .ok (.istore_n 2, 1) := by decide +kernel
theorem dX4_standing_2 : decode cX4_standing 2 = .ok (.aload_n 0, 1) := by decide +kernel
theorem dX4_standing_3 : decode cX4_standing 3 = .ok (.getfield 7, 3) := by decide +kernel
theorem dX4_standing_6 : decode cX4_standing 6 = .ok (.iconst 0, 1) := by decide +kernel
theorem dX4_standing_7 : decode cX4_standing 7 = .ok (.iaload, 1) := by decide +kernel
theorem dX4_standing_8 : decode cX4_standing 8 = .ok (.iconst 1, 1) := by decide +kernel
theorem dX4_standing_9 : decode cX4_standing 9 = .ok (.isub, 1) := by decide +kernel
theorem dX4_standing_10 : decode cX4_standing 10 = .ok (.iload_n 1, 1) := by decide +kernel
theorem dX4_standing_11 : decode cX4_standing 11 = .ok (.isub, 1) := by decide +kernel
theorem dX4_standing_12 : decode cX4_standing 12 = .ok (.istore_n 3, 1) := by decide +kernel
theorem dX4_standing_13 : decode cX4_standing 13 = .ok (.iconst 0, 1) := by decide +kernel
theorem dX4_standing_14 : decode cX4_standing 14 = .ok (.istore 4, 2) := by decide +kernel
theorem dX4_standing_16 : decode cX4_standing 16 = .ok (.iload 4, 2) := by decide +kernel
theorem dX4_standing_18 : decode cX4_standing 18 = .ok (.bipush 40, 2) := by decide +kernel
theorem dX4_standing_20 : decode cX4_standing 20 = .ok (.if_icmp .ge 53, 3) := by decide +kernel
theorem dX4_standing_23 : decode cX4_standing 23 = .ok (.aload_n 0, 1) := by decide +kernel
theorem dX4_standing_24 : decode cX4_standing 24 = .ok (.iload_n 1, 1) := by decide +kernel
theorem dX4_standing_25 : decode cX4_standing 25 = .ok (.iconst 3, 1) := by decide +kernel
theorem dX4_standing_26 : decode cX4_standing 26 = .ok (.iload 4, 2) := by decide +kernel
theorem dX4_standing_28 : decode cX4_standing 28 = .ok (.iadd, 1) := by decide +kernel
theorem dX4_standing_29 : decode cX4_standing 29 = .ok (.invokevirtual 75, 3) := by decide +kernel
theorem dX4_standing_32 : decode cX4_standing 32 = .ok (.istore 5, 2) := by decide +kernel
theorem dX4_standing_34 : decode cX4_standing 34 = .ok (.iload_n 2, 1) := by decide +kernel
theorem dX4_standing_35 : decode cX4_standing 35 = .ok (.iload 5, 2) := by decide +kernel
theorem dX4_standing_37 : decode cX4_standing 37 = .ok (.ifCond .lt 27, 3) := by decide +kernel
theorem dX4_standing_40 : decode cX4_standing 40 = .ok (.aload_n 0, 1) := by decide +kernel
theorem dX4_standing_41 : decode cX4_standing 41 = .ok (.ldc 46, 2) := by decide +kernel
theorem dX4_standing_43 : decode cX4_standing 43 = .ok (.iload_n 3, 1) := by decide +kernel
theorem dX4_standing_44 : decode cX4_standing 44 = .ok (.imul, 1) := by decide +kernel
theorem dX4_standing_45 : decode cX4_standing 45 = .ok (.bipush 100, 2) := by decide +kernel
theorem dX4_standing_47 : decode cX4_standing 47 = .ok (.iload 5, 2) := by decide +kernel
theorem dX4_standing_49 : decode cX4_standing 49 = .ok (.imul, 1) := by decide +kernel
theorem dX4_standing_50 : decode cX4_standing 50 = .ok (.iadd, 1) := by decide +kernel
theorem dX4_standing_51 : decode cX4_standing 51 = .ok (.iload 4, 2) := by decide +kernel
theorem dX4_standing_53 : decode cX4_standing 53 = .ok (.iadd, 1) := by decide +kernel
theorem dX4_standing_54 : decode cX4_standing 54 = .ok (.invokevirtual 82, 3) := by decide +kernel
theorem dX4_standing_57 : decode cX4_standing 57 = .ok (.ifCond .ne 7, 3) := by decide +kernel
theorem dX4_standing_60 : decode cX4_standing 60 = .ok (.iconst 1, 1) := by decide +kernel
theorem dX4_standing_61 : decode cX4_standing 61 = .ok (.goto 4, 3) := by decide +kernel
theorem dX4_standing_64 : decode cX4_standing 64 = .ok (.iconst 0, 1) := by decide +kernel
theorem dX4_standing_65 : decode cX4_standing 65 = .ok (.iadd, 1) := by decide +kernel
theorem dX4_standing_66 : decode cX4_standing 66 = .ok (.istore_n 2, 1) := by decide +kernel
theorem dX4_standing_67 : decode cX4_standing 67 = .ok (.iinc 4 1, 3) := by decide +kernel
theorem dX4_standing_70 : decode cX4_standing 70 = .ok (.goto (-54), 3) := by decide +kernel
theorem dX4_standing_73 : decode cX4_standing 73 = .ok (.iload_n 2, 1) := by decide +kernel
theorem dX4_standing_74 : decode cX4_standing 74 = .ok (.ireturn, 1) := by decide +kernel
set_option maxRecDepth 20000 in
theorem ggX4_compaction_X4_within : GoodIn wsX4_compaction wsX4_within := goodIn_r _ [6] (by decide +kernel) (by decide +kernel)
set_option maxRecDepth 20000 in
theorem gX4_compaction_X4_within : GoodIn wsX4_compaction (va_wsS RX4 37 yX4_within wsX4_within) := goodIn_app (goodIn_of _ (by decide +kernel)) ggX4_compaction_X4_within
set_option maxRecDepth 20000 in
theorem ggX4_compaction_X4_kept : GoodIn wsX4_compaction wsX4_kept := goodIn_r _ [10, 11, 30, 31, 32, 33, 34, 35, 36, 37, 38, 39, 40, 41, 42, 43, 44, 45, 46] (by decide +kernel) (by decide +kernel)
set_option maxRecDepth 20000 in
theorem gX4_compaction_X4_kept : GoodIn wsX4_compaction (wsV RX4 72 RX4 yX4_kept wsX4_kept) := goodIn_app (goodIn_of _ (by decide +kernel)) ggX4_compaction_X4_kept
set_option maxRecDepth 20000 in
theorem ggX4_compaction_X4_ofCompaction : GoodIn wsX4_compaction wsX4_ofCompaction := goodIn_r _ [15, 11, 30, 31, 32, 33, 34, 35, 36, 37, 38, 39, 40, 41, 42, 43, 44, 45, 46] (by decide +kernel) (by decide +kernel)
set_option maxRecDepth 20000 in
theorem gX4_compaction_X4_ofCompaction : GoodIn wsX4_compaction (wsV RX4 75 RX4 yX4_ofCompaction wsX4_ofCompaction) := goodIn_app (goodIn_of _ (by decide +kernel)) ggX4_compaction_X4_ofCompaction
set_option maxRecDepth 20000 in
theorem ggX4_compaction_X4_standing : GoodIn wsX4_compaction wsX4_standing := goodIn_r _ [19, 11, 20, 12, 13, 14, 5, 15, 21, 22, 23, 24, 25, 7, 8, 9, 10, 26, 27, 28, 29, 30, 31, 32, 33, 34, 35, 36, 37, 38, 39, 40, 41, 42, 43, 44, 45, 46] (by decide +kernel) (by decide +kernel)
set_option maxRecDepth 20000 in
theorem gX4_compaction_X4_standing : GoodIn wsX4_compaction (wsV RX4 119 RX4 yX4_standing wsX4_standing) := goodIn_app (goodIn_of _ (by decide +kernel)) ggX4_compaction_X4_standing
end
section
theorem dX4_compaction_0 : decode cX4_compaction 0 = .ok (.iload_n 1, 1) := by decide +kernel
theorem dX4_compaction_1 : decode cX4_compaction 1 = .ok (.iconst 0, 1) := by decide +kernel
theorem dX4_compaction_2 : decode cX4_compaction 2 = .ok (.iconst 2, 1) := by decide +kernel
theorem dX4_compaction_3 : decode cX4_compaction 3 = .ok (.invokestatic 37, 3) := by decide +kernel
theorem dX4_compaction_6 : decode cX4_compaction 6 = .ok (.ifCond .eq 12, 3) := by decide +kernel
theorem dX4_compaction_9 : decode cX4_compaction 9 = .ok (.iload_n 2, 1) := by decide +kernel
theorem dX4_compaction_10 : decode cX4_compaction 10 = .ok (.iconst 0, 1) := by decide +kernel
theorem dX4_compaction_11 : decode cX4_compaction 11 = .ok (.iconst 3, 1) := by decide +kernel
theorem dX4_compaction_12 : decode cX4_compaction 12 = .ok (.invokestatic 37, 3) := by decide +kernel
theorem dX4_compaction_15 : decode cX4_compaction 15 = .ok (.ifCond .ne 6, 3) := by decide +kernel
theorem dX4_compaction_18 : decode cX4_compaction 18 = .ok (.ldc 61, 2) := by decide +kernel
theorem dX4_compaction_20 : decode cX4_compaction 20 = .ok (.ireturn, 1) := by decide +kernel
theorem dX4_compaction_21 : decode cX4_compaction 21 = .ok (.iload_n 1, 1) := by decide +kernel
theorem dX4_compaction_22 : decode cX4_compaction 22 = .ok (.aload_n 0, 1) := by decide +kernel
theorem dX4_compaction_23 : decode cX4_compaction 23 = .ok (.invokevirtual 72, 3) := by decide +kernel
theorem dX4_compaction_26 : decode cX4_compaction 26 = .ok (.if_icmp .lt 6, 3) := by decide +kernel
theorem dX4_compaction_29 : decode cX4_compaction 29 = .ok (.ldc 99, 2) := by decide +kernel
theorem dX4_compaction_31 : decode cX4_compaction 31 = .ok (.ireturn, 1) := by decide +kernel
theorem dX4_compaction_32 : decode cX4_compaction 32 = .ok (.iload_n 2, 1) := by decide +kernel
theorem dX4_compaction_33 : decode cX4_compaction 33 = .ok (.iconst 3, 1) := by decide +kernel
theorem dX4_compaction_34 : decode cX4_compaction 34 = .ok (.if_icmp .ge 12, 3) := by decide +kernel
theorem dX4_compaction_37 : decode cX4_compaction 37 = .ok (.aload_n 0, 1) := by decide +kernel
theorem dX4_compaction_38 : decode cX4_compaction 38 = .ok (.iload_n 1, 1) := by decide +kernel
theorem dX4_compaction_39 : decode cX4_compaction 39 = .ok (.iload_n 2, 1) := by decide +kernel
theorem dX4_compaction_40 : decode cX4_compaction 40 = .ok (.invokevirtual 75, 3) := by decide +kernel
theorem dX4_compaction_43 : decode cX4_compaction 43 = .ok (.goto 8, 3) := by decide +kernel
theorem dX4_compaction_46 : decode cX4_compaction 46 = .ok (.aload_n 0, 1) := by decide +kernel
theorem dX4_compaction_47 : decode cX4_compaction 47 = .ok (.iload_n 1, 1) := by decide +kernel
theorem dX4_compaction_48 : decode cX4_compaction 48 = .ok (.invokevirtual 119, 3) := by decide +kernel
theorem dX4_compaction_51 : decode cX4_compaction 51 = .ok (.ireturn, 1) := by decide +kernel
set_option maxRecDepth 20000 in
theorem ggX4_namesAll_X4_isNamed : GoodIn wsX4_namesAll wsX4_isNamed := goodIn_r _ [5, 6, 7, 8, 9, 10, 11, 12, 13, 14, 15, 16, 17, 18, 19, 20, 21, 22, 23] (by decide +kernel) (by decide +kernel)
set_option maxRecDepth 20000 in
theorem gX4_namesAll_X4_isNamed : GoodIn wsX4_namesAll (wsV RX4 42 RX4 yX4_isNamed wsX4_isNamed) := goodIn_app (goodIn_of _ (by decide +kernel)) ggX4_namesAll_X4_isNamed
theorem dX4_namesAll_0 : decode cX4_namesAll 0 = .ok (.iconst 0, 1) := by decide +kernel
theorem dX4_namesAll_1 : decode cX4_namesAll 1 = .ok (.istore_n 1, 1) := by decide +kernel
theorem dX4_namesAll_2 : decode cX4_namesAll 2 = .ok (.iconst 0, 1) := by decide +kernel
theorem dX4_namesAll_3 : decode cX4_namesAll 3 = .ok (.istore_n 2, 1) := by decide +kernel
theorem dX4_namesAll_4 : decode cX4_namesAll 4 = .ok (.iload_n 2, 1) := by decide +kernel
theorem dX4_namesAll_5 : decode cX4_namesAll 5 = .ok (.bipush 40, 2) := by decide +kernel
theorem dX4_namesAll_7 : decode cX4_namesAll 7 = .ok (.if_icmp .ge 25, 3) := by decide +kernel
theorem dX4_namesAll_10 : decode cX4_namesAll 10 = .ok (.iload_n 1, 1) := by decide +kernel
theorem dX4_namesAll_11 : decode cX4_namesAll 11 = .ok (.aload_n 0, 1) := by decide +kernel
theorem dX4_namesAll_12 : decode cX4_namesAll 12 = .ok (.iload_n 2, 1) := by decide +kernel
theorem dX4_namesAll_13 : decode cX4_namesAll 13 = .ok (.invokevirtual 42, 3) := by decide +kernel
theorem dX4_namesAll_16 : decode cX4_namesAll 16 = .ok (.ifCond .eq 7, 3) := by decide +kernel
theorem dX4_namesAll_19 : decode cX4_namesAll 19 = .ok (.iconst 1, 1) := by decide +kernel
theorem dX4_namesAll_20 : decode cX4_namesAll 20 = .ok (.goto 4, 3) := by decide +kernel
theorem dX4_namesAll_23 : decode cX4_namesAll 23 = .ok (.iconst 0, 1) := by decide +kernel
theorem dX4_namesAll_24 : decode cX4_namesAll 24 = .ok (.iadd, 1) := by decide +kernel
theorem dX4_namesAll_25 : decode cX4_namesAll 25 = .ok (.istore_n 1, 1) := by decide +kernel
theorem dX4_namesAll_26 : decode cX4_namesAll 26 = .ok (.iinc 2 1, 3) := by decide +kernel
theorem dX4_namesAll_29 : decode cX4_namesAll 29 = .ok (.goto (-25), 3) := by decide +kernel
theorem dX4_namesAll_32 : decode cX4_namesAll 32 = .ok (.iload_n 1, 1) := by decide +kernel
theorem dX4_namesAll_33 : decode cX4_namesAll 33 = .ok (.ireturn, 1) := by decide +kernel
theorem dX4_usersAll_0 : decode cX4_usersAll 0 = .ok (.iconst 0, 1) := by decide +kernel
theorem dX4_usersAll_1 : decode cX4_usersAll 1 = .ok (.istore_n 1, 1) := by decide +kernel
theorem dX4_usersAll_2 : decode cX4_usersAll 2 = .ok (.iconst 0, 1) := by decide +kernel
theorem dX4_usersAll_3 : decode cX4_usersAll 3 = .ok (.istore_n 2, 1) := by decide +kernel
theorem dX4_usersAll_4 : decode cX4_usersAll 4 = .ok (.iload_n 2, 1) := by decide +kernel
theorem dX4_usersAll_5 : decode cX4_usersAll 5 = .ok (.bipush 40, 2) := by decide +kernel
theorem dX4_usersAll_7 : decode cX4_usersAll 7 = .ok (.if_icmp .ge 21, 3) := by decide +kernel
theorem dX4_usersAll_10 : decode cX4_usersAll 10 = .ok (.iload_n 1, 1) := by decide +kernel
theorem dX4_usersAll_11 : decode cX4_usersAll 11 = .ok (.aload_n 0, 1) := by decide +kernel
theorem dX4_usersAll_12 : decode cX4_usersAll 12 = .ok (.getfield 7, 3) := by decide +kernel
theorem dX4_usersAll_15 : decode cX4_usersAll 15 = .ok (.bipush 44, 2) := by decide +kernel
theorem dX4_usersAll_17 : decode cX4_usersAll 17 = .ok (.iload_n 2, 1) := by decide +kernel
theorem dX4_usersAll_18 : decode cX4_usersAll 18 = .ok (.iadd, 1) := by decide +kernel
theorem dX4_usersAll_19 : decode cX4_usersAll 19 = .ok (.iaload, 1) := by decide +kernel
theorem dX4_usersAll_20 : decode cX4_usersAll 20 = .ok (.iadd, 1) := by decide +kernel
theorem dX4_usersAll_21 : decode cX4_usersAll 21 = .ok (.istore_n 1, 1) := by decide +kernel
theorem dX4_usersAll_22 : decode cX4_usersAll 22 = .ok (.iinc 2 1, 3) := by decide +kernel
theorem dX4_usersAll_25 : decode cX4_usersAll 25 = .ok (.goto (-21), 3) := by decide +kernel
theorem dX4_usersAll_28 : decode cX4_usersAll 28 = .ok (.iload_n 1, 1) := by decide +kernel
theorem dX4_usersAll_29 : decode cX4_usersAll 29 = .ok (.ireturn, 1) := by decide +kernel
set_option maxRecDepth 20000 in
theorem ggX4_highest_X4_isNamed : GoodIn wsX4_highest wsX4_isNamed := goodIn_r _ [5, 6, 7, 8, 9, 10, 11, 12, 13, 14, 15, 16, 17, 18, 19, 20, 21, 22, 23] (by decide +kernel) (by decide +kernel)
set_option maxRecDepth 20000 in
theorem gX4_highest_X4_isNamed : GoodIn wsX4_highest (wsV RX4 42 RX4 yX4_isNamed wsX4_isNamed) := goodIn_app (goodIn_of _ (by decide +kernel)) ggX4_highest_X4_isNamed
theorem dX4_highest_0 : decode cX4_highest 0 = .ok (.iconst 0, 1) := by decide +kernel
theorem dX4_highest_1 : decode cX4_highest 1 = .ok (.istore_n 1, 1) := by decide +kernel
theorem dX4_highest_2 : decode cX4_highest 2 = .ok (.iconst 0, 1) := by decide +kernel
theorem dX4_highest_3 : decode cX4_highest 3 = .ok (.istore_n 2, 1) := by decide +kernel
theorem dX4_highest_4 : decode cX4_highest 4 = .ok (.iload_n 2, 1) := by decide +kernel
theorem dX4_highest_5 : decode cX4_highest 5 = .ok (.bipush 40, 2) := by decide +kernel
theorem dX4_highest_7 : decode cX4_highest 7 = .ok (.if_icmp .ge 25, 3) := by decide +kernel
theorem dX4_highest_10 : decode cX4_highest 10 = .ok (.aload_n 0, 1) := by decide +kernel
theorem dX4_highest_11 : decode cX4_highest 11 = .ok (.iload_n 2, 1) := by decide +kernel
theorem dX4_highest_12 : decode cX4_highest 12 = .ok (.invokevirtual 42, 3) := by decide +kernel
theorem dX4_highest_15 : decode cX4_highest 15 = .ok (.ifCond .eq 9, 3) := by decide +kernel
theorem dX4_highest_18 : decode cX4_highest 18 = .ok (.iload_n 2, 1) := by decide +kernel
theorem dX4_highest_19 : decode cX4_highest 19 = .ok (.iconst 1, 1) := by decide +kernel
theorem dX4_highest_20 : decode cX4_highest 20 = .ok (.iadd, 1) := by decide +kernel
theorem dX4_highest_21 : decode cX4_highest 21 = .ok (.goto 4, 3) := by decide +kernel
theorem dX4_highest_24 : decode cX4_highest 24 = .ok (.iload_n 1, 1) := by decide +kernel
theorem dX4_highest_25 : decode cX4_highest 25 = .ok (.istore_n 1, 1) := by decide +kernel
theorem dX4_highest_26 : decode cX4_highest 26 = .ok (.iinc 2 1, 3) := by decide +kernel
theorem dX4_highest_29 : decode cX4_highest 29 = .ok (.goto (-25), 3) := by decide +kernel
theorem dX4_highest_32 : decode cX4_highest 32 = .ok (.iload_n 1, 1) := by decide +kernel
theorem dX4_highest_33 : decode cX4_highest 33 = .ok (.ireturn, 1) := by decide +kernel
set_option maxRecDepth 20000 in
theorem ggX4_count_X4_namesAll : GoodIn wsX4_count wsX4_namesAll := goodIn_r _ [9, 10, 11, 12, 8, 13, 1, 30, 31, 32, 33, 34, 35, 36, 37, 38, 39, 40, 41, 42, 43, 44, 45, 46] (by decide +kernel) (by decide +kernel)
set_option maxRecDepth 20000 in
theorem gX4_count_X4_namesAll : GoodIn wsX4_count (wsV RX4 122 RX4 yX4_namesAll wsX4_namesAll) := goodIn_app (goodIn_of _ (by decide +kernel)) ggX4_count_X4_namesAll
set_option maxRecDepth 20000 in
theorem ggX4_count_X4_usersAll : GoodIn wsX4_count wsX4_usersAll := goodIn_r _ [17, 1, 30, 31, 32, 33, 34, 35, 36, 37, 38, 39, 40, 41, 42, 43, 44, 45, 46] (by decide +kernel) (by decide +kernel)
set_option maxRecDepth 20000 in
theorem gX4_count_X4_usersAll : GoodIn wsX4_count (wsV RX4 125 RX4 yX4_usersAll wsX4_usersAll) := goodIn_app (goodIn_of _ (by decide +kernel)) ggX4_count_X4_usersAll
set_option maxRecDepth 20000 in
theorem ggX4_count_X4_cellsWith : GoodIn wsX4_count wsX4_cellsWith := goodIn_r _ [21, 1, 30, 31, 32, 33, 34, 35, 36, 37, 38, 39, 40, 41, 42, 43, 44, 45, 46] (by decide +kernel) (by decide +kernel)
set_option maxRecDepth 20000 in
theorem gX4_count_X4_cellsWith : GoodIn wsX4_count (wsV RX4 86 RX4 yX4_cellsWith wsX4_cellsWith) := goodIn_app (goodIn_of _ (by decide +kernel)) ggX4_count_X4_cellsWith
set_option maxRecDepth 20000 in
theorem ggX4_count_X4_highest : GoodIn wsX4_count wsX4_highest := goodIn_r _ [25, 10, 11, 12, 8, 13, 1, 30, 31, 32, 33, 34, 35, 36, 37, 38, 39, 40, 41, 42, 43, 44, 45, 46] (by decide +kernel) (by decide +kernel)
set_option maxRecDepth 20000 in
theorem gX4_count_X4_highest : GoodIn wsX4_count (wsV RX4 128 RX4 yX4_highest wsX4_highest) := goodIn_app (goodIn_of _ (by decide +kernel)) ggX4_count_X4_highest
set_option maxRecDepth 20000 in
theorem ggX4_count_X4_kept : GoodIn wsX4_count wsX4_kept := goodIn_r _ [29, 1, 30, 31, 32, 33, 34, 35, 36, 37, 38, 39, 40, 41, 42, 43, 44, 45, 46] (by decide +kernel) (by decide +kernel)
set_option maxRecDepth 20000 in
theorem gX4_count_X4_kept : GoodIn wsX4_count (wsV RX4 72 RX4 yX4_kept wsX4_kept) := goodIn_app (goodIn_of _ (by decide +kernel)) ggX4_count_X4_kept
theorem dX4_count_0 : decode cX4_count 0 = .ok (.iload_n 1, 1) := by decide +kernel
theorem dX4_count_1 : decode cX4_count 1 = .ok (.tableswitch 129 0 10 #[59, 64, 69, 78, 85, 90, 100, 107, 114, 119, 124], 59) := by decide +kernel
theorem dX4_count_60 : decode cX4_count 60 = .ok (.aload_n 0, 1) := by decide +kernel
theorem dX4_count_61 : decode cX4_count 61 = .ok (.invokevirtual 122, 3) := by decide +kernel
theorem dX4_count_64 : decode cX4_count 64 = .ok (.ireturn, 1) := by decide +kernel
theorem dX4_count_65 : decode cX4_count 65 = .ok (.aload_n 0, 1) := by decide +kernel
theorem dX4_count_66 : decode cX4_count 66 = .ok (.invokevirtual 125, 3) := by decide +kernel
theorem dX4_count_69 : decode cX4_count 69 = .ok (.ireturn, 1) := by decide +kernel
theorem dX4_count_70 : decode cX4_count 70 = .ok (.bipush 18, 2) := by decide +kernel
theorem dX4_count_72 : decode cX4_count 72 = .ok (.aload_n 0, 1) := by decide +kernel
theorem dX4_count_73 : decode cX4_count 73 = .ok (.iconst (-1), 1) := by decide +kernel
theorem dX4_count_74 : decode cX4_count 74 = .ok (.invokevirtual 86, 3) := by decide +kernel
theorem dX4_count_77 : decode cX4_count 77 = .ok (.isub, 1) := by decide +kernel
theorem dX4_count_78 : decode cX4_count 78 = .ok (.ireturn, 1) := by decide +kernel
theorem dX4_count_79 : decode cX4_count 79 = .ok (.aload_n 0, 1) := by decide +kernel
theorem dX4_count_80 : decode cX4_count 80 = .ok (.getfield 7, 3) := by decide +kernel
theorem dX4_count_83 : decode cX4_count 83 = .ok (.iconst 0, 1) := by decide +kernel
theorem dX4_count_84 : decode cX4_count 84 = .ok (.iaload, 1) := by decide +kernel
theorem dX4_count_85 : decode cX4_count 85 = .ok (.ireturn, 1) := by decide +kernel
theorem dX4_count_86 : decode cX4_count 86 = .ok (.aload_n 0, 1) := by decide +kernel
theorem dX4_count_87 : decode cX4_count 87 = .ok (.invokevirtual 128, 3) := by decide +kernel
theorem dX4_count_90 : decode cX4_count 90 = .ok (.ireturn, 1) := by decide +kernel
theorem dX4_count_91 : decode cX4_count 91 = .ok (.aload_n 0, 1) := by decide +kernel
theorem dX4_count_92 : decode cX4_count 92 = .ok (.invokevirtual 128, 3) := by decide +kernel
theorem dX4_count_95 : decode cX4_count 95 = .ok (.aload_n 0, 1) := by decide +kernel
theorem dX4_count_96 : decode cX4_count 96 = .ok (.invokevirtual 122, 3) := by decide +kernel
theorem dX4_count_99 : decode cX4_count 99 = .ok (.isub, 1) := by decide +kernel
theorem dX4_count_100 : decode cX4_count 100 = .ok (.ireturn, 1) := by decide +kernel
theorem dX4_count_101 : decode cX4_count 101 = .ok (.aload_n 0, 1) := by decide +kernel
theorem dX4_count_102 : decode cX4_count 102 = .ok (.getfield 7, 3) := by decide +kernel
theorem dX4_count_105 : decode cX4_count 105 = .ok (.iconst 1, 1) := by decide +kernel
theorem dX4_count_106 : decode cX4_count 106 = .ok (.iaload, 1) := by decide +kernel
theorem dX4_count_107 : decode cX4_count 107 = .ok (.ireturn, 1) := by decide +kernel
theorem dX4_count_108 : decode cX4_count 108 = .ok (.aload_n 0, 1) := by decide +kernel
theorem dX4_count_109 : decode cX4_count 109 = .ok (.getfield 7, 3) := by decide +kernel
theorem dX4_count_112 : decode cX4_count 112 = .ok (.iconst 2, 1) := by decide +kernel
theorem dX4_count_113 : decode cX4_count 113 = .ok (.iaload, 1) := by decide +kernel
theorem dX4_count_114 : decode cX4_count 114 = .ok (.ireturn, 1) := by decide +kernel
theorem dX4_count_115 : decode cX4_count 115 = .ok (.aload_n 0, 1) := by decide +kernel
theorem dX4_count_116 : decode cX4_count 116 = .ok (.invokevirtual 72, 3) := by decide +kernel
theorem dX4_count_119 : decode cX4_count 119 = .ok (.ireturn, 1) := by decide +kernel
theorem dX4_count_120 : decode cX4_count 120 = .ok (.aload_n 0, 1) := by decide +kernel
theorem dX4_count_121 : decode cX4_count 121 = .ok (.getfield 31, 3) := by decide +kernel
theorem dX4_count_124 : decode cX4_count 124 = .ok (.ireturn, 1) := by decide +kernel
theorem dX4_count_125 : decode cX4_count 125 = .ok (.aload_n 0, 1) := by decide +kernel
theorem dX4_count_126 : decode cX4_count 126 = .ok (.getfield 131, 3) := by decide +kernel
theorem dX4_count_129 : decode cX4_count 129 = .ok (.ireturn, 1) := by decide +kernel
theorem dX4_count_130 : decode cX4_count 130 = .ok (.ldc 61, 2) := by decide +kernel
theorem dX4_count_132 : decode cX4_count 132 = .ok (.ireturn, 1) := by decide +kernel
set_option maxRecDepth 20000 in
theorem ggX4_type_X4_within : GoodIn wsX4_type wsX4_within := goodIn_r _ [8] (by decide +kernel) (by decide +kernel)
set_option maxRecDepth 20000 in
theorem gX4_type_X4_within : GoodIn wsX4_type (va_wsS RX4 37 yX4_within wsX4_within) := goodIn_app (goodIn_of _ (by decide +kernel)) ggX4_type_X4_within
theorem dX4_type_0 : decode cX4_type 0 = .ok (.iload_n 1, 1) := by decide +kernel
theorem dX4_type_1 : decode cX4_type 1 = .ok (.bipush 32, 2) := by decide +kernel
theorem dX4_type_3 : decode cX4_type 3 = .ok (.bipush 126, 2) := by decide +kernel
theorem dX4_type_5 : decode cX4_type 5 = .ok (.invokestatic 37, 3) := by decide +kernel
theorem dX4_type_8 : decode cX4_type 8 = .ok (.ifCond .ne 6, 3) := by decide +kernel
theorem dX4_type_11 : decode cX4_type 11 = .ok (.ldc 61, 2) := by decide +kernel
theorem dX4_type_13 : decode cX4_type 13 = .ok (.ireturn, 1) := by decide +kernel
theorem dX4_type_14 : decode cX4_type 14 = .ok (.aload_n 0, 1) := by decide +kernel
theorem dX4_type_15 : decode cX4_type 15 = .ok (.getfield 131, 3) := by decide +kernel
theorem dX4_type_18 : decode cX4_type 18 = .ok (.bipush 60, 2) := by decide +kernel
theorem dX4_type_20 : decode cX4_type 20 = .ok (.if_icmp .ne 6, 3) := by decide +kernel
theorem dX4_type_23 : decode cX4_type 23 = .ok (.ldc 65, 2) := by decide +kernel
theorem dX4_type_25 : decode cX4_type 25 = .ok (.ireturn, 1) := by decide +kernel
theorem dX4_type_26 : decode cX4_type 26 = .ok (.aload_n 0, 1) := by decide +kernel
theorem dX4_type_27 : decode cX4_type 27 = .ok (.getfield 19, 3) := by decide +kernel
theorem dX4_type_30 : decode cX4_type 30 = .ok (.aload_n 0, 1) := by decide +kernel
theorem dX4_type_31 : decode cX4_type 31 = .ok (.getfield 131, 3) := by decide +kernel
theorem dX4_type_34 : decode cX4_type 34 = .ok (.iload_n 1, 1) := by decide +kernel
theorem dX4_type_35 : decode cX4_type 35 = .ok (.iastore, 1) := by decide +kernel
theorem dX4_type_36 : decode cX4_type 36 = .ok (.aload_n 0, 1) := by decide +kernel
theorem dX4_type_37 : decode cX4_type 37 = .ok (.dup, 1) := by decide +kernel
theorem dX4_type_38 : decode cX4_type 38 = .ok (.getfield 131, 3) := by decide +kernel
theorem dX4_type_41 : decode cX4_type 41 = .ok (.iconst 1, 1) := by decide +kernel
theorem dX4_type_42 : decode cX4_type 42 = .ok (.iadd, 1) := by decide +kernel
theorem dX4_type_43 : decode cX4_type 43 = .ok (.putfield 131, 3) := by decide +kernel
theorem dX4_type_46 : decode cX4_type 46 = .ok (.aload_n 0, 1) := by decide +kernel
theorem dX4_type_47 : decode cX4_type 47 = .ok (.getfield 131, 3) := by decide +kernel
theorem dX4_type_50 : decode cX4_type 50 = .ok (.ireturn, 1) := by decide +kernel
theorem dX4_clearText_0 : decode cX4_clearText 0 = .ok (.aload_n 0, 1) := by decide +kernel
theorem dX4_clearText_1 : decode cX4_clearText 1 = .ok (.getfield 131, 3) := by decide +kernel
theorem dX4_clearText_4 : decode cX4_clearText 4 = .ok (.istore_n 1, 1) := by decide +kernel
theorem dX4_clearText_5 : decode cX4_clearText 5 = .ok (.aload_n 0, 1) := by decide +kernel
theorem dX4_clearText_6 : decode cX4_clearText 6 = .ok (.iconst 0, 1) := by decide +kernel
theorem dX4_clearText_7 : decode cX4_clearText 7 = .ok (.putfield 131, 3) := by decide +kernel
theorem dX4_clearText_10 : decode cX4_clearText 10 = .ok (.iload_n 1, 1) := by decide +kernel
theorem dX4_clearText_11 : decode cX4_clearText 11 = .ok (.ireturn, 1) := by decide +kernel
theorem dX4_letter_0 : decode cX4_letter 0 = .ok (.iload_n 1, 1) := by decide +kernel
theorem dX4_letter_1 : decode cX4_letter 1 = .ok (.aload_n 0, 1) := by decide +kernel
theorem dX4_letter_2 : decode cX4_letter 2 = .ok (.getfield 131, 3) := by decide +kernel
theorem dX4_letter_5 : decode cX4_letter 5 = .ok (.if_icmp .ge 12, 3) := by decide +kernel
theorem dX4_letter_8 : decode cX4_letter 8 = .ok (.aload_n 0, 1) := by decide +kernel
theorem dX4_letter_9 : decode cX4_letter 9 = .ok (.getfield 19, 3) := by decide +kernel
theorem dX4_letter_12 : decode cX4_letter 12 = .ok (.iload_n 1, 1) := by decide +kernel
theorem dX4_letter_13 : decode cX4_letter 13 = .ok (.iaload, 1) := by decide +kernel
theorem dX4_letter_14 : decode cX4_letter 14 = .ok (.goto 4, 3) := by decide +kernel
theorem dX4_letter_17 : decode cX4_letter 17 = .ok (.iconst 0, 1) := by decide +kernel
theorem dX4_letter_18 : decode cX4_letter 18 = .ok (.ireturn, 1) := by decide +kernel
set_option maxRecDepth 20000 in
theorem ggX4_passes_X4_letter : GoodIn wsX4_passes wsX4_letter := goodIn_r _ [6, 7, 8, 9, 10, 11, 12, 13, 14, 15, 16, 17, 18, 19, 20, 21, 22, 23, 24, 25] (by decide +kernel) (by decide +kernel)
set_option maxRecDepth 20000 in
theorem gX4_passes_X4_letter : GoodIn wsX4_passes (wsV RX4 137 RX4 yX4_letter wsX4_letter) := goodIn_app (goodIn_of _ (by decide +kernel)) ggX4_passes_X4_letter
theorem dX4_passes_0 : decode cX4_passes 0 = .ok (.aload_n 0, 1) := by decide +kernel
theorem dX4_passes_1 : decode cX4_passes 1 = .ok (.aload_n 0, 1) := by decide +kernel
theorem dX4_passes_2 : decode cX4_passes 2 = .ok (.getfield 134, 3) := by decide +kernel
theorem dX4_passes_5 : decode cX4_passes 5 = .ok (.invokevirtual 137, 3) := by decide +kernel
theorem dX4_passes_8 : decode cX4_passes 8 = .ok (.iload_n 1, 1) := by decide +kernel
theorem dX4_passes_9 : decode cX4_passes 9 = .ok (.if_icmp .ne 7, 3) := by decide +kernel
theorem dX4_passes_12 : decode cX4_passes 12 = .ok (.iconst 1, 1) := by decide +kernel
theorem dX4_passes_13 : decode cX4_passes 13 = .ok (.goto 4, 3) := by decide +kernel
theorem dX4_passes_16 : decode cX4_passes 16 = .ok (.iconst 0, 1) := by decide +kernel
theorem dX4_passes_17 : decode cX4_passes 17 = .ok (.istore_n 2, 1) := by decide +kernel
theorem dX4_passes_18 : decode cX4_passes 18 = .ok (.aload_n 0, 1) := by decide +kernel
theorem dX4_passes_19 : decode cX4_passes 19 = .ok (.dup, 1) := by decide +kernel
theorem dX4_passes_20 : decode cX4_passes 20 = .ok (.getfield 134, 3) := by decide +kernel
theorem dX4_passes_23 : decode cX4_passes 23 = .ok (.iload_n 2, 1) := by decide +kernel
theorem dX4_passes_24 : decode cX4_passes 24 = .ok (.ifCond .eq 7, 3) := by decide +kernel
theorem dX4_passes_27 : decode cX4_passes 27 = .ok (.iconst 1, 1) := by decide +kernel
theorem dX4_passes_28 : decode cX4_passes 28 = .ok (.goto 4, 3) := by decide +kernel
theorem dX4_passes_31 : decode cX4_passes 31 = .ok (.iconst 0, 1) := by decide +kernel
theorem dX4_passes_32 : decode cX4_passes 32 = .ok (.iadd, 1) := by decide +kernel
theorem dX4_passes_33 : decode cX4_passes 33 = .ok (.putfield 134, 3) := by decide +kernel
theorem dX4_passes_36 : decode cX4_passes 36 = .ok (.iload_n 2, 1) := by decide +kernel
theorem dX4_passes_37 : decode cX4_passes 37 = .ok (.ireturn, 1) := by decide +kernel
set_option maxRecDepth 20000 in
theorem ggX4_digit_X4_letter : GoodIn wsX4_digit wsX4_letter := goodIn_r _ [7, 8, 9, 13, 14, 15, 16, 17, 18, 19, 20, 21, 22, 23, 24, 25, 26, 27, 28, 29] (by decide +kernel) (by decide +kernel)
set_option maxRecDepth 20000 in
theorem gX4_digit_X4_letter : GoodIn wsX4_digit (wsV RX4 137 RX4 yX4_letter wsX4_letter) := goodIn_app (goodIn_of _ (by decide +kernel)) ggX4_digit_X4_letter
set_option maxRecDepth 20000 in
theorem ggX4_digit_X4_within : GoodIn wsX4_digit wsX4_within := goodIn_r _ [12] (by decide +kernel) (by decide +kernel)
set_option maxRecDepth 20000 in
theorem gX4_digit_X4_within : GoodIn wsX4_digit (va_wsS RX4 37 yX4_within wsX4_within) := goodIn_app (goodIn_of _ (by decide +kernel)) ggX4_digit_X4_within
theorem dX4_digit_0 : decode cX4_digit 0 = .ok (.aload_n 0, 1) := by decide +kernel
theorem dX4_digit_1 : decode cX4_digit 1 = .ok (.aload_n 0, 1) := by decide +kernel
theorem dX4_digit_2 : decode cX4_digit 2 = .ok (.getfield 134, 3) := by decide +kernel
theorem dX4_digit_5 : decode cX4_digit 5 = .ok (.invokevirtual 137, 3) := by decide +kernel
theorem dX4_digit_8 : decode cX4_digit 8 = .ok (.bipush 48, 2) := by decide +kernel
theorem dX4_digit_10 : decode cX4_digit 10 = .ok (.bipush 57, 2) := by decide +kernel
theorem dX4_digit_12 : decode cX4_digit 12 = .ok (.invokestatic 37, 3) := by decide +kernel
theorem dX4_digit_15 : decode cX4_digit 15 = .ok (.istore_n 2, 1) := by decide +kernel
theorem dX4_digit_16 : decode cX4_digit 16 = .ok (.aload_n 0, 1) := by decide +kernel
theorem dX4_digit_17 : decode cX4_digit 17 = .ok (.getfield 28, 3) := by decide +kernel
theorem dX4_digit_20 : decode cX4_digit 20 = .ok (.iload_n 1, 1) := by decide +kernel
theorem dX4_digit_21 : decode cX4_digit 21 = .ok (.iload_n 2, 1) := by decide +kernel
theorem dX4_digit_22 : decode cX4_digit 22 = .ok (.ifCond .eq 17, 3) := by decide +kernel
theorem dX4_digit_25 : decode cX4_digit 25 = .ok (.aload_n 0, 1) := by decide +kernel
theorem dX4_digit_26 : decode cX4_digit 26 = .ok (.aload_n 0, 1) := by decide +kernel
theorem dX4_digit_27 : decode cX4_digit 27 = .ok (.getfield 134, 3) := by decide +kernel
theorem dX4_digit_30 : decode cX4_digit 30 = .ok (.invokevirtual 137, 3) := by decide +kernel
theorem dX4_digit_33 : decode cX4_digit 33 = .ok (.bipush 48, 2) := by decide +kernel
theorem dX4_digit_35 : decode cX4_digit 35 = .ok (.isub, 1) := by decide +kernel
theorem dX4_digit_36 : decode cX4_digit 36 = .ok (.goto 4, 3) := by decide +kernel
theorem dX4_digit_39 : decode cX4_digit 39 = .ok (.iconst 0, 1) := by decide +kernel
theorem dX4_digit_40 : decode cX4_digit 40 = .ok (.iastore, 1) := by decide +kernel
theorem dX4_digit_41 : decode cX4_digit 41 = .ok (.aload_n 0, 1) := by decide +kernel
theorem dX4_digit_42 : decode cX4_digit 42 = .ok (.dup, 1) := by decide +kernel
theorem dX4_digit_43 : decode cX4_digit 43 = .ok (.getfield 134, 3) := by decide +kernel
theorem dX4_digit_46 : decode cX4_digit 46 = .ok (.iload_n 2, 1) := by decide +kernel
theorem dX4_digit_47 : decode cX4_digit 47 = .ok (.ifCond .eq 7, 3) := by decide +kernel
theorem dX4_digit_50 : decode cX4_digit 50 = .ok (.iconst 1, 1) := by decide +kernel
theorem dX4_digit_51 : decode cX4_digit 51 = .ok (.goto 4, 3) := by decide +kernel
theorem dX4_digit_54 : decode cX4_digit 54 = .ok (.iconst 0, 1) := by decide +kernel
theorem dX4_digit_55 : decode cX4_digit 55 = .ok (.iadd, 1) := by decide +kernel
theorem dX4_digit_56 : decode cX4_digit 56 = .ok (.putfield 134, 3) := by decide +kernel
theorem dX4_digit_59 : decode cX4_digit 59 = .ok (.iload_n 2, 1) := by decide +kernel
theorem dX4_digit_60 : decode cX4_digit 60 = .ok (.ireturn, 1) := by decide +kernel
set_option maxRecDepth 20000 in
theorem ggX4_name_X4_letter : GoodIn wsX4_name wsX4_letter := goodIn_r _ [8, 9, 10, 14, 15, 16, 17, 18, 19, 20, 21, 22, 23, 24, 25, 26, 27, 28, 29, 30] (by decide +kernel) (by decide +kernel)
set_option maxRecDepth 20000 in
theorem gX4_name_X4_letter : GoodIn wsX4_name (wsV RX4 137 RX4 yX4_letter wsX4_letter) := goodIn_app (goodIn_of _ (by decide +kernel)) ggX4_name_X4_letter
set_option maxRecDepth 20000 in
theorem ggX4_name_X4_within : GoodIn wsX4_name wsX4_within := goodIn_r _ [13] (by decide +kernel) (by decide +kernel)
set_option maxRecDepth 20000 in
theorem gX4_name_X4_within : GoodIn wsX4_name (va_wsS RX4 37 yX4_within wsX4_within) := goodIn_app (goodIn_of _ (by decide +kernel)) ggX4_name_X4_within
theorem dX4_name_0 : decode cX4_name 0 = .ok (.aload_n 0, 1) := by decide +kernel
theorem dX4_name_1 : decode cX4_name 1 = .ok (.iconst 0, 1) := by decide +kernel
theorem dX4_name_2 : decode cX4_name 2 = .ok (.putfield 140, 3) := by decide +kernel
theorem dX4_name_5 : decode cX4_name 5 = .ok (.aload_n 0, 1) := by decide +kernel
theorem dX4_name_6 : decode cX4_name 6 = .ok (.iconst 0, 1) := by decide +kernel
theorem dX4_name_7 : decode cX4_name 7 = .ok (.putfield 143, 3) := by decide +kernel
theorem dX4_name_10 : decode cX4_name 10 = .ok (.aload_n 0, 1) := by decide +kernel
theorem dX4_name_11 : decode cX4_name 11 = .ok (.aload_n 0, 1) := by decide +kernel
theorem dX4_name_12 : decode cX4_name 12 = .ok (.getfield 134, 3) := by decide +kernel
theorem dX4_name_15 : decode cX4_name 15 = .ok (.invokevirtual 137, 3) := by decide +kernel
theorem dX4_name_18 : decode cX4_name 18 = .ok (.bipush 97, 2) := by decide +kernel
theorem dX4_name_20 : decode cX4_name 20 = .ok (.bipush 122, 2) := by decide +kernel
theorem dX4_name_22 : decode cX4_name 22 = .ok (.invokestatic 37, 3) := by decide +kernel
theorem dX4_name_25 : decode cX4_name 25 = .ok (.ifCond .eq 67, 3) := by decide +kernel
theorem dX4_name_28 : decode cX4_name 28 = .ok (.aload_n 0, 1) := by decide +kernel
theorem dX4_name_29 : decode cX4_name 29 = .ok (.aload_n 0, 1) := by decide +kernel
theorem dX4_name_30 : decode cX4_name 30 = .ok (.getfield 140, 3) := by decide +kernel
theorem dX4_name_33 : decode cX4_name 33 = .ok (.bipush 6, 2) := by decide +kernel
theorem dX4_name_35 : decode cX4_name 35 = .ok (.if_icmp .ge 27, 3) := by decide +kernel
theorem dX4_name_38 : decode cX4_name 38 = .ok (.bipush 27, 2) := by decide +kernel
theorem dX4_name_40 : decode cX4_name 40 = .ok (.aload_n 0, 1) := by decide +kernel
theorem dX4_name_41 : decode cX4_name 41 = .ok (.getfield 143, 3) := by decide +kernel
theorem dX4_name_44 : decode cX4_name 44 = .ok (.imul, 1) := by decide +kernel
theorem dX4_name_45 : decode cX4_name 45 = .ok (.aload_n 0, 1) := by decide +kernel
theorem dX4_name_46 : decode cX4_name 46 = .ok (.aload_n 0, 1) := by decide +kernel
theorem dX4_name_47 : decode cX4_name 47 = .ok (.getfield 134, 3) := by decide +kernel
theorem dX4_name_50 : decode cX4_name 50 = .ok (.invokevirtual 137, 3) := by decide +kernel
theorem dX4_name_53 : decode cX4_name 53 = .ok (.iadd, 1) := by decide +kernel
theorem dX4_name_54 : decode cX4_name 54 = .ok (.bipush 97, 2) := by decide +kernel
theorem dX4_name_56 : decode cX4_name 56 = .ok (.isub, 1) := by decide +kernel
theorem dX4_name_57 : decode cX4_name 57 = .ok (.iconst 1, 1) := by decide +kernel
theorem dX4_name_58 : decode cX4_name 58 = .ok (.iadd, 1) := by decide +kernel
theorem dX4_name_59 : decode cX4_name 59 = .ok (.goto 7, 3) := by decide +kernel
theorem dX4_name_62 : decode cX4_name 62 = .ok (.aload_n 0, 1) := by decide +kernel
theorem dX4_name_63 : decode cX4_name 63 = .ok (.getfield 143, 3) := by decide +kernel
theorem dX4_name_66 : decode cX4_name 66 = .ok (.putfield 143, 3) := by decide +kernel
theorem dX4_name_69 : decode cX4_name 69 = .ok (.aload_n 0, 1) := by decide +kernel
theorem dX4_name_70 : decode cX4_name 70 = .ok (.dup, 1) := by decide +kernel
theorem dX4_name_71 : decode cX4_name 71 = .ok (.getfield 140, 3) := by decide +kernel
theorem dX4_name_74 : decode cX4_name 74 = .ok (.iconst 1, 1) := by decide +kernel
theorem dX4_name_75 : decode cX4_name 75 = .ok (.iadd, 1) := by decide +kernel
theorem dX4_name_76 : decode cX4_name 76 = .ok (.putfield 140, 3) := by decide +kernel
theorem dX4_name_79 : decode cX4_name 79 = .ok (.aload_n 0, 1) := by decide +kernel
theorem dX4_name_80 : decode cX4_name 80 = .ok (.dup, 1) := by decide +kernel
theorem dX4_name_81 : decode cX4_name 81 = .ok (.getfield 134, 3) := by decide +kernel
theorem dX4_name_84 : decode cX4_name 84 = .ok (.iconst 1, 1) := by decide +kernel
theorem dX4_name_85 : decode cX4_name 85 = .ok (.iadd, 1) := by decide +kernel
theorem dX4_name_86 : decode cX4_name 86 = .ok (.putfield 134, 3) := by decide +kernel
theorem dX4_name_89 : decode cX4_name 89 = .ok (.goto (-79), 3) := by decide +kernel
theorem dX4_name_92 : decode cX4_name 92 = .ok (.aload_n 0, 1) := by decide +kernel
theorem dX4_name_93 : decode cX4_name 93 = .ok (.getfield 140, 3) := by decide +kernel
theorem dX4_name_96 : decode cX4_name 96 = .ok (.ifCond .le 7, 3) := by decide +kernel
theorem dX4_name_99 : decode cX4_name 99 = .ok (.iconst 1, 1) := by decide +kernel
theorem dX4_name_100 : decode cX4_name 100 = .ok (.goto 4, 3) := by decide +kernel
theorem dX4_name_103 : decode cX4_name 103 = .ok (.iconst 0, 1) := by decide +kernel
theorem dX4_name_104 : decode cX4_name 104 = .ok (.ireturn, 1) := by decide +kernel
set_option maxRecDepth 20000 in
theorem ggX4_reads_X4_letter : GoodIn wsX4_reads wsX4_letter := goodIn_r _ [6, 7, 8, 27, 28, 29, 30, 31, 32, 33, 34, 35, 36, 37, 38, 39, 40, 41, 42, 43] (by decide +kernel) (by decide +kernel)
set_option maxRecDepth 20000 in
theorem gX4_reads_X4_letter : GoodIn wsX4_reads (wsV RX4 137 RX4 yX4_letter wsX4_letter) := goodIn_app (goodIn_of _ (by decide +kernel)) ggX4_reads_X4_letter
set_option maxRecDepth 20000 in
theorem ggX4_reads_X4_digit : GoodIn wsX4_reads wsX4_digit := goodIn_r _ [12, 1, 13, 2, 3, 4, 5, 6, 7, 8, 14, 15, 16, 27, 28, 29, 30, 31, 32, 33, 34, 35, 36, 37, 38, 39, 40, 41, 42, 43] (by decide +kernel) (by decide +kernel)
set_option maxRecDepth 20000 in
theorem gX4_reads_X4_digit : GoodIn wsX4_reads (wsV RX4 146 RX4 yX4_digit wsX4_digit) := goodIn_app (goodIn_of _ (by decide +kernel)) ggX4_reads_X4_digit
set_option maxRecDepth 20000 in
theorem ggX4_reads_X4_passes : GoodIn wsX4_reads wsX4_passes := goodIn_r _ [20, 1, 2, 3, 4, 5, 6, 7, 8, 27, 28, 29, 30, 31, 32, 33, 34, 35, 36, 37, 38, 39, 40, 41, 42, 43] (by decide +kernel) (by decide +kernel)
set_option maxRecDepth 20000 in
theorem gX4_reads_X4_passes : GoodIn wsX4_reads (wsV RX4 149 RX4 yX4_passes wsX4_passes) := goodIn_app (goodIn_of _ (by decide +kernel)) ggX4_reads_X4_passes
set_option maxRecDepth 20000 in
theorem ggX4_reads_X4_name : GoodIn wsX4_reads wsX4_name := goodIn_r _ [24, 25, 26, 1, 2, 3, 4, 5, 6, 7, 8, 14, 15, 16, 27, 28, 29, 30, 31, 32, 33, 34, 35, 36, 37, 38, 39, 40, 41, 42, 43] (by decide +kernel) (by decide +kernel)
set_option maxRecDepth 20000 in
theorem gX4_reads_X4_name : GoodIn wsX4_reads (wsV RX4 152 RX4 yX4_name wsX4_name) := goodIn_app (goodIn_of _ (by decide +kernel)) ggX4_reads_X4_name
theorem dX4_reads_0 : decode cX4_reads 0 = .ok (.aload_n 0, 1) := by decide +kernel
theorem dX4_reads_1 : decode cX4_reads 1 = .ok (.aload_n 0, 1) := by decide +kernel
theorem dX4_reads_2 : decode cX4_reads 2 = .ok (.getfield 134, 3) := by decide +kernel
theorem dX4_reads_5 : decode cX4_reads 5 = .ok (.invokevirtual 137, 3) := by decide +kernel
theorem dX4_reads_8 : decode cX4_reads 8 = .ok (.istore_n 1, 1) := by decide +kernel
theorem dX4_reads_9 : decode cX4_reads 9 = .ok (.iload_n 1, 1) := by decide +kernel
theorem dX4_reads_10 : decode cX4_reads 10 = .ok (.bipush 43, 2) := by decide +kernel
theorem dX4_reads_12 : decode cX4_reads 12 = .ok (.if_icmp .eq 23, 3) := by decide +kernel
theorem dX4_reads_15 : decode cX4_reads 15 = .ok (.iload_n 1, 1) := by decide +kernel
theorem dX4_reads_16 : decode cX4_reads 16 = .ok (.bipush 45, 2) := by decide +kernel
theorem dX4_reads_18 : decode cX4_reads 18 = .ok (.if_icmp .eq 17, 3) := by decide +kernel
theorem dX4_reads_21 : decode cX4_reads 21 = .ok (.iload_n 1, 1) := by decide +kernel
theorem dX4_reads_22 : decode cX4_reads 22 = .ok (.bipush 61, 2) := by decide +kernel
theorem dX4_reads_24 : decode cX4_reads 24 = .ok (.if_icmp .eq 11, 3) := by decide +kernel
theorem dX4_reads_27 : decode cX4_reads 27 = .ok (.iload_n 1, 1) := by decide +kernel
theorem dX4_reads_28 : decode cX4_reads 28 = .ok (.bipush 33, 2) := by decide +kernel
theorem dX4_reads_30 : decode cX4_reads 30 = .ok (.if_icmp .eq 5, 3) := by decide +kernel
theorem dX4_reads_33 : decode cX4_reads 33 = .ok (.iconst 0, 1) := by decide +kernel
theorem dX4_reads_34 : decode cX4_reads 34 = .ok (.ireturn, 1) := by decide +kernel
theorem dX4_reads_35 : decode cX4_reads 35 = .ok (.aload_n 0, 1) := by decide +kernel
theorem dX4_reads_36 : decode cX4_reads 36 = .ok (.dup, 1) := by decide +kernel
theorem dX4_reads_37 : decode cX4_reads 37 = .ok (.getfield 134, 3) := by decide +kernel
theorem dX4_reads_40 : decode cX4_reads 40 = .ok (.iconst 1, 1) := by decide +kernel
theorem dX4_reads_41 : decode cX4_reads 41 = .ok (.iadd, 1) := by decide +kernel
theorem dX4_reads_42 : decode cX4_reads 42 = .ok (.putfield 134, 3) := by decide +kernel
theorem dX4_reads_45 : decode cX4_reads 45 = .ok (.iload_n 1, 1) := by decide +kernel
theorem dX4_reads_46 : decode cX4_reads 46 = .ok (.bipush 33, 2) := by decide +kernel
theorem dX4_reads_48 : decode cX4_reads 48 = .ok (.if_icmp .ne 26, 3) := by decide +kernel
theorem dX4_reads_51 : decode cX4_reads 51 = .ok (.aload_n 0, 1) := by decide +kernel
theorem dX4_reads_52 : decode cX4_reads 52 = .ok (.iconst 0, 1) := by decide +kernel
theorem dX4_reads_53 : decode cX4_reads 53 = .ok (.invokevirtual 146, 3) := by decide +kernel
theorem dX4_reads_56 : decode cX4_reads 56 = .ok (.ifCond .eq 16, 3) := by decide +kernel
end
section
theorem dX4_reads_59 : decode cX4_reads 59 = .ok (.aload_n 0, 1) := by decide +kernel
theorem dX4_reads_60 : decode cX4_reads 60 = .ok (.bipush 59, 2) := by decide +kernel
theorem dX4_reads_62 : decode cX4_reads 62 = .ok (.invokevirtual 149, 3) := by decide +kernel
theorem dX4_reads_65 : decode cX4_reads 65 = .ok (.ifCond .eq 7, 3) := by decide +kernel
theorem dX4_reads_68 : decode cX4_reads 68 = .ok (.iconst 1, 1) := by decide +kernel
theorem dX4_reads_69 : decode cX4_reads 69 = .ok (.goto 4, 3) := by decide +kernel
theorem dX4_reads_72 : decode cX4_reads 72 = .ok (.iconst 0, 1) := by decide +kernel
theorem dX4_reads_73 : decode cX4_reads 73 = .ok (.ireturn, 1) := by decide +kernel
theorem dX4_reads_74 : decode cX4_reads 74 = .ok (.iload_n 1, 1) := by decide +kernel
theorem dX4_reads_75 : decode cX4_reads 75 = .ok (.bipush 61, 2) := by decide +kernel
theorem dX4_reads_77 : decode cX4_reads 77 = .ok (.if_icmp .ne 39, 3) := by decide +kernel
theorem dX4_reads_80 : decode cX4_reads 80 = .ok (.aload_n 0, 1) := by decide +kernel
theorem dX4_reads_81 : decode cX4_reads 81 = .ok (.iconst 0, 1) := by decide +kernel
theorem dX4_reads_82 : decode cX4_reads 82 = .ok (.invokevirtual 146, 3) := by decide +kernel
theorem dX4_reads_85 : decode cX4_reads 85 = .ok (.ifCond .eq 29, 3) := by decide +kernel
theorem dX4_reads_88 : decode cX4_reads 88 = .ok (.aload_n 0, 1) := by decide +kernel
theorem dX4_reads_89 : decode cX4_reads 89 = .ok (.bipush 44, 2) := by decide +kernel
theorem dX4_reads_91 : decode cX4_reads 91 = .ok (.invokevirtual 149, 3) := by decide +kernel
theorem dX4_reads_94 : decode cX4_reads 94 = .ok (.ifCond .eq 20, 3) := by decide +kernel
theorem dX4_reads_97 : decode cX4_reads 97 = .ok (.aload_n 0, 1) := by decide +kernel
theorem dX4_reads_98 : decode cX4_reads 98 = .ok (.iconst 1, 1) := by decide +kernel
theorem dX4_reads_99 : decode cX4_reads 99 = .ok (.invokevirtual 146, 3) := by decide +kernel
theorem dX4_reads_102 : decode cX4_reads 102 = .ok (.ifCond .eq 12, 3) := by decide +kernel
theorem dX4_reads_105 : decode cX4_reads 105 = .ok (.aload_n 0, 1) := by decide +kernel
theorem dX4_reads_106 : decode cX4_reads 106 = .ok (.bipush 44, 2) := by decide +kernel
theorem dX4_reads_108 : decode cX4_reads 108 = .ok (.invokevirtual 149, 3) := by decide +kernel
theorem dX4_reads_111 : decode cX4_reads 111 = .ok (.ifCond .ne 5, 3) := by decide +kernel
theorem dX4_reads_114 : decode cX4_reads 114 = .ok (.iconst 0, 1) := by decide +kernel
theorem dX4_reads_115 : decode cX4_reads 115 = .ok (.ireturn, 1) := by decide +kernel
theorem dX4_reads_116 : decode cX4_reads 116 = .ok (.aload_n 0, 1) := by decide +kernel
theorem dX4_reads_117 : decode cX4_reads 117 = .ok (.invokevirtual 152, 3) := by decide +kernel
theorem dX4_reads_120 : decode cX4_reads 120 = .ok (.ifCond .eq 16, 3) := by decide +kernel
theorem dX4_reads_123 : decode cX4_reads 123 = .ok (.aload_n 0, 1) := by decide +kernel
theorem dX4_reads_124 : decode cX4_reads 124 = .ok (.bipush 59, 2) := by decide +kernel
theorem dX4_reads_126 : decode cX4_reads 126 = .ok (.invokevirtual 149, 3) := by decide +kernel
theorem dX4_reads_129 : decode cX4_reads 129 = .ok (.ifCond .eq 7, 3) := by decide +kernel
theorem dX4_reads_132 : decode cX4_reads 132 = .ok (.iconst 1, 1) := by decide +kernel
theorem dX4_reads_133 : decode cX4_reads 133 = .ok (.goto 4, 3) := by decide +kernel
theorem dX4_reads_136 : decode cX4_reads 136 = .ok (.iconst 0, 1) := by decide +kernel
theorem dX4_reads_137 : decode cX4_reads 137 = .ok (.ireturn, 1) := by decide +kernel
theorem dX4_wrong_0 : decode cX4_wrong 0 = .ok (.iload_n 1, 1) := by decide +kernel
theorem dX4_wrong_1 : decode cX4_wrong 1 = .ok (.bipush 33, 2) := by decide +kernel
theorem dX4_wrong_3 : decode cX4_wrong 3 = .ok (.if_icmp .ne 19, 3) := by decide +kernel
theorem dX4_wrong_6 : decode cX4_wrong 6 = .ok (.aload_n 0, 1) := by decide +kernel
theorem dX4_wrong_7 : decode cX4_wrong 7 = .ok (.getfield 28, 3) := by decide +kernel
theorem dX4_wrong_10 : decode cX4_wrong 10 = .ok (.iconst 0, 1) := by decide +kernel
theorem dX4_wrong_11 : decode cX4_wrong 11 = .ok (.iaload, 1) := by decide +kernel
theorem dX4_wrong_12 : decode cX4_wrong 12 = .ok (.iconst 2, 1) := by decide +kernel
theorem dX4_wrong_13 : decode cX4_wrong 13 = .ok (.if_icmp .le 7, 3) := by decide +kernel
theorem dX4_wrong_16 : decode cX4_wrong 16 = .ok (.iconst 2, 1) := by decide +kernel
theorem dX4_wrong_17 : decode cX4_wrong 17 = .ok (.goto 4, 3) := by decide +kernel
theorem dX4_wrong_20 : decode cX4_wrong 20 = .ok (.iconst (-1), 1) := by decide +kernel
theorem dX4_wrong_21 : decode cX4_wrong 21 = .ok (.ireturn, 1) := by decide +kernel
theorem dX4_wrong_22 : decode cX4_wrong 22 = .ok (.iload_n 1, 1) := by decide +kernel
theorem dX4_wrong_23 : decode cX4_wrong 23 = .ok (.bipush 61, 2) := by decide +kernel
theorem dX4_wrong_25 : decode cX4_wrong 25 = .ok (.if_icmp .ne 15, 3) := by decide +kernel
theorem dX4_wrong_28 : decode cX4_wrong 28 = .ok (.aload_n 0, 1) := by decide +kernel
theorem dX4_wrong_29 : decode cX4_wrong 29 = .ok (.getfield 28, 3) := by decide +kernel
theorem dX4_wrong_32 : decode cX4_wrong 32 = .ok (.iconst 0, 1) := by decide +kernel
theorem dX4_wrong_33 : decode cX4_wrong 33 = .ok (.iaload, 1) := by decide +kernel
theorem dX4_wrong_34 : decode cX4_wrong 34 = .ok (.iconst 2, 1) := by decide +kernel
theorem dX4_wrong_35 : decode cX4_wrong 35 = .ok (.if_icmp .le 5, 3) := by decide +kernel
theorem dX4_wrong_38 : decode cX4_wrong 38 = .ok (.iconst 0, 1) := by decide +kernel
theorem dX4_wrong_39 : decode cX4_wrong 39 = .ok (.ireturn, 1) := by decide +kernel
theorem dX4_wrong_40 : decode cX4_wrong 40 = .ok (.iload_n 1, 1) := by decide +kernel
theorem dX4_wrong_41 : decode cX4_wrong 41 = .ok (.bipush 61, 2) := by decide +kernel
theorem dX4_wrong_43 : decode cX4_wrong 43 = .ok (.if_icmp .ne 15, 3) := by decide +kernel
theorem dX4_wrong_46 : decode cX4_wrong 46 = .ok (.aload_n 0, 1) := by decide +kernel
theorem dX4_wrong_47 : decode cX4_wrong 47 = .ok (.getfield 28, 3) := by decide +kernel
theorem dX4_wrong_50 : decode cX4_wrong 50 = .ok (.iconst 1, 1) := by decide +kernel
theorem dX4_wrong_51 : decode cX4_wrong 51 = .ok (.iaload, 1) := by decide +kernel
theorem dX4_wrong_52 : decode cX4_wrong 52 = .ok (.iconst 5, 1) := by decide +kernel
theorem dX4_wrong_53 : decode cX4_wrong 53 = .ok (.if_icmp .le 5, 3) := by decide +kernel
theorem dX4_wrong_56 : decode cX4_wrong 56 = .ok (.iconst 1, 1) := by decide +kernel
theorem dX4_wrong_57 : decode cX4_wrong 57 = .ok (.ireturn, 1) := by decide +kernel
theorem dX4_wrong_58 : decode cX4_wrong 58 = .ok (.aload_n 0, 1) := by decide +kernel
theorem dX4_wrong_59 : decode cX4_wrong 59 = .ok (.getfield 140, 3) := by decide +kernel
theorem dX4_wrong_62 : decode cX4_wrong 62 = .ok (.bipush 6, 2) := by decide +kernel
theorem dX4_wrong_64 : decode cX4_wrong 64 = .ok (.if_icmp .le 7, 3) := by decide +kernel
theorem dX4_wrong_67 : decode cX4_wrong 67 = .ok (.iconst 3, 1) := by decide +kernel
theorem dX4_wrong_68 : decode cX4_wrong 68 = .ok (.goto 4, 3) := by decide +kernel
theorem dX4_wrong_71 : decode cX4_wrong 71 = .ok (.iconst (-1), 1) := by decide +kernel
theorem dX4_wrong_72 : decode cX4_wrong 72 = .ok (.ireturn, 1) := by decide +kernel
set_option maxRecDepth 20000 in
theorem ggX4_does_X4_numberWith : GoodIn wsX4_does wsX4_numberWith := goodIn_r _ [8, 2, 61, 62, 63, 64, 65, 66, 67, 68, 69, 70, 71, 72, 73, 74, 75, 76, 77] (by decide +kernel) (by decide +kernel)
set_option maxRecDepth 20000 in
theorem gX4_does_X4_numberWith : GoodIn wsX4_does (wsV RX4 47 RX4 yX4_numberWith wsX4_numberWith) := goodIn_app (goodIn_of _ (by decide +kernel)) ggX4_does_X4_numberWith
set_option maxRecDepth 20000 in
theorem ggX4_does_X4_compacts : GoodIn wsX4_does wsX4_compacts := goodIn_r _ [12, 2, 13, 14, 15, 16, 17, 18, 7, 19, 20, 21, 22, 23, 24, 25, 26, 27, 28, 29, 30, 31, 61, 62, 63, 64, 65, 66, 67, 68, 69, 70, 71, 72, 73, 74, 75, 76, 77] (by decide +kernel) (by decide +kernel)
set_option maxRecDepth 20000 in
theorem gX4_does_X4_compacts : GoodIn wsX4_does (wsV RX4 113 RX4 yX4_compacts wsX4_compacts) := goodIn_app (goodIn_of _ (by decide +kernel)) ggX4_does_X4_compacts
set_option maxRecDepth 20000 in
theorem ggX4_does_X4_canAcquire : GoodIn wsX4_does wsX4_canAcquire := goodIn_r _ [35, 2, 4, 5, 6, 7, 8, 36, 37, 38, 39, 20, 21, 22, 23, 61, 62, 63, 64, 65, 66, 67, 68, 69, 70, 71, 72, 73, 74, 75, 76, 77] (by decide +kernel) (by decide +kernel)
set_option maxRecDepth 20000 in
theorem gX4_does_X4_canAcquire : GoodIn wsX4_does (wsV RX4 62 RX4 yX4_canAcquire wsX4_canAcquire) := goodIn_app (goodIn_of _ (by decide +kernel)) ggX4_does_X4_canAcquire
set_option maxRecDepth 20000 in
theorem ggX4_does_X4_acquires : GoodIn wsX4_does wsX4_acquires := goodIn_r _ [43, 2, 4, 5, 6, 7, 8, 36, 37, 38, 39, 20, 21, 22, 23, 44, 45, 46, 47, 48, 61, 62, 63, 64, 65, 66, 67, 68, 69, 70, 71, 72, 73, 74, 75, 76, 77] (by decide +kernel) (by decide +kernel)
set_option maxRecDepth 20000 in
theorem gX4_does_X4_acquires : GoodIn wsX4_does (wsV RX4 69 RX4 yX4_acquires wsX4_acquires) := goodIn_app (goodIn_of _ (by decide +kernel)) ggX4_does_X4_acquires
set_option maxRecDepth 20000 in
theorem ggX4_does_X4_cellsWith : GoodIn wsX4_does wsX4_cellsWith := goodIn_r _ [52, 2, 61, 62, 63, 64, 65, 66, 67, 68, 69, 70, 71, 72, 73, 74, 75, 76, 77] (by decide +kernel) (by decide +kernel)
set_option maxRecDepth 20000 in
theorem gX4_does_X4_cellsWith : GoodIn wsX4_does (wsV RX4 86 RX4 yX4_cellsWith wsX4_cellsWith) := goodIn_app (goodIn_of _ (by decide +kernel)) ggX4_does_X4_cellsWith
set_option maxRecDepth 20000 in
theorem ggX4_does_X4_givesBack : GoodIn wsX4_does wsX4_givesBack := goodIn_r _ [56, 2, 61, 62, 63, 64, 65, 66, 67, 68, 69, 70, 71, 72, 73, 74, 75, 76, 77] (by decide +kernel) (by decide +kernel)
set_option maxRecDepth 20000 in
theorem gX4_does_X4_givesBack : GoodIn wsX4_does (wsV RX4 89 RX4 yX4_givesBack wsX4_givesBack) := goodIn_app (goodIn_of _ (by decide +kernel)) ggX4_does_X4_givesBack
set_option maxRecDepth 20000 in
theorem ggX4_does_X4_puts : GoodIn wsX4_does wsX4_puts := goodIn_r _ [60, 2, 53, 54, 55, 7, 56, 61, 62, 63, 64, 65, 66, 67, 68, 69, 70, 71, 72, 73, 74, 75, 76, 77] (by decide +kernel) (by decide +kernel)
set_option maxRecDepth 20000 in
theorem gX4_does_X4_puts : GoodIn wsX4_does (wsV RX4 96 RX4 yX4_puts wsX4_puts) := goodIn_app (goodIn_of _ (by decide +kernel)) ggX4_does_X4_puts
theorem dX4_does_0 : decode cX4_does 0 = .ok (.aload_n 0, 1) := by decide +kernel
theorem dX4_does_1 : decode cX4_does 1 = .ok (.aload_n 0, 1) := by decide +kernel
theorem dX4_does_2 : decode cX4_does 2 = .ok (.getfield 143, 3) := by decide +kernel
theorem dX4_does_5 : decode cX4_does 5 = .ok (.invokevirtual 47, 3) := by decide +kernel
theorem dX4_does_8 : decode cX4_does 8 = .ok (.istore_n 2, 1) := by decide +kernel
theorem dX4_does_9 : decode cX4_does 9 = .ok (.iload_n 1, 1) := by decide +kernel
theorem dX4_does_10 : decode cX4_does 10 = .ok (.bipush 33, 2) := by decide +kernel
theorem dX4_does_12 : decode cX4_does 12 = .ok (.if_icmp .ne 38, 3) := by decide +kernel
theorem dX4_does_15 : decode cX4_does 15 = .ok (.aload_n 0, 1) := by decide +kernel
theorem dX4_does_16 : decode cX4_does 16 = .ok (.getfield 7, 3) := by decide +kernel
theorem dX4_does_19 : decode cX4_does 19 = .ok (.iconst 0, 1) := by decide +kernel
theorem dX4_does_20 : decode cX4_does 20 = .ok (.iaload, 1) := by decide +kernel
theorem dX4_does_21 : decode cX4_does 21 = .ok (.sipush 999, 3) := by decide +kernel
theorem dX4_does_24 : decode cX4_does 24 = .ok (.if_icmp .ge 7, 3) := by decide +kernel
theorem dX4_does_27 : decode cX4_does 27 = .ok (.iconst 1, 1) := by decide +kernel
theorem dX4_does_28 : decode cX4_does 28 = .ok (.goto 4, 3) := by decide +kernel
theorem dX4_does_31 : decode cX4_does 31 = .ok (.iconst 0, 1) := by decide +kernel
theorem dX4_does_32 : decode cX4_does 32 = .ok (.istore_n 3, 1) := by decide +kernel
theorem dX4_does_33 : decode cX4_does 33 = .ok (.iload_n 3, 1) := by decide +kernel
theorem dX4_does_34 : decode cX4_does 34 = .ok (.ifCond .eq 14, 3) := by decide +kernel
theorem dX4_does_37 : decode cX4_does 37 = .ok (.aload_n 0, 1) := by decide +kernel
theorem dX4_does_38 : decode cX4_does 38 = .ok (.aload_n 0, 1) := by decide +kernel
theorem dX4_does_39 : decode cX4_does 39 = .ok (.getfield 28, 3) := by decide +kernel
theorem dX4_does_42 : decode cX4_does 42 = .ok (.iconst 0, 1) := by decide +kernel
theorem dX4_does_43 : decode cX4_does 43 = .ok (.iaload, 1) := by decide +kernel
theorem dX4_does_44 : decode cX4_does 44 = .ok (.invokevirtual 113, 3) := by decide +kernel
theorem dX4_does_47 : decode cX4_does 47 = .ok (.pop, 1) := by decide +kernel
theorem dX4_does_48 : decode cX4_does 48 = .ok (.iload_n 3, 1) := by decide +kernel
theorem dX4_does_49 : decode cX4_does 49 = .ok (.ireturn, 1) := by decide +kernel
theorem dX4_does_50 : decode cX4_does 50 = .ok (.iload_n 1, 1) := by decide +kernel
theorem dX4_does_51 : decode cX4_does 51 = .ok (.bipush 43, 2) := by decide +kernel
theorem dX4_does_53 : decode cX4_does 53 = .ok (.if_icmp .ne 27, 3) := by decide +kernel
theorem dX4_does_56 : decode cX4_does 56 = .ok (.aload_n 0, 1) := by decide +kernel
theorem dX4_does_57 : decode cX4_does 57 = .ok (.aload_n 0, 1) := by decide +kernel
theorem dX4_does_58 : decode cX4_does 58 = .ok (.getfield 143, 3) := by decide +kernel
theorem dX4_does_61 : decode cX4_does 61 = .ok (.invokevirtual 62, 3) := by decide +kernel
theorem dX4_does_64 : decode cX4_does 64 = .ok (.istore_n 3, 1) := by decide +kernel
theorem dX4_does_65 : decode cX4_does 65 = .ok (.iload_n 3, 1) := by decide +kernel
theorem dX4_does_66 : decode cX4_does 66 = .ok (.ifCond .eq 12, 3) := by decide +kernel
theorem dX4_does_69 : decode cX4_does 69 = .ok (.aload_n 0, 1) := by decide +kernel
theorem dX4_does_70 : decode cX4_does 70 = .ok (.aload_n 0, 1) := by decide +kernel
theorem dX4_does_71 : decode cX4_does 71 = .ok (.getfield 143, 3) := by decide +kernel
theorem dX4_does_74 : decode cX4_does 74 = .ok (.invokevirtual 69, 3) := by decide +kernel
theorem dX4_does_77 : decode cX4_does 77 = .ok (.pop, 1) := by decide +kernel
theorem dX4_does_78 : decode cX4_does 78 = .ok (.iload_n 3, 1) := by decide +kernel
theorem dX4_does_79 : decode cX4_does 79 = .ok (.ireturn, 1) := by decide +kernel
theorem dX4_does_80 : decode cX4_does 80 = .ok (.iload_n 2, 1) := by decide +kernel
theorem dX4_does_81 : decode cX4_does 81 = .ok (.ifCond .ge 5, 3) := by decide +kernel
theorem dX4_does_84 : decode cX4_does 84 = .ok (.iconst 0, 1) := by decide +kernel
theorem dX4_does_85 : decode cX4_does 85 = .ok (.ireturn, 1) := by decide +kernel
theorem dX4_does_86 : decode cX4_does 86 = .ok (.iload_n 1, 1) := by decide +kernel
theorem dX4_does_87 : decode cX4_does 87 = .ok (.bipush 45, 2) := by decide +kernel
theorem dX4_does_89 : decode cX4_does 89 = .ok (.if_icmp .ne 28, 3) := by decide +kernel
theorem dX4_does_92 : decode cX4_does 92 = .ok (.aload_n 0, 1) := by decide +kernel
theorem dX4_does_93 : decode cX4_does 93 = .ok (.getfield 7, 3) := by decide +kernel
theorem dX4_does_96 : decode cX4_does 96 = .ok (.bipush 44, 2) := by decide +kernel
theorem dX4_does_98 : decode cX4_does 98 = .ok (.iload_n 2, 1) := by decide +kernel
theorem dX4_does_99 : decode cX4_does 99 = .ok (.iadd, 1) := by decide +kernel
theorem dX4_does_100 : decode cX4_does 100 = .ok (.iaload, 1) := by decide +kernel
theorem dX4_does_101 : decode cX4_does 101 = .ok (.aload_n 0, 1) := by decide +kernel
theorem dX4_does_102 : decode cX4_does 102 = .ok (.iload_n 2, 1) := by decide +kernel
theorem dX4_does_103 : decode cX4_does 103 = .ok (.invokevirtual 86, 3) := by decide +kernel
theorem dX4_does_106 : decode cX4_does 106 = .ok (.if_icmp .le 7, 3) := by decide +kernel
theorem dX4_does_109 : decode cX4_does 109 = .ok (.iconst 1, 1) := by decide +kernel
theorem dX4_does_110 : decode cX4_does 110 = .ok (.goto 27, 3) := by decide +kernel
theorem dX4_does_113 : decode cX4_does 113 = .ok (.iconst 0, 1) := by decide +kernel
theorem dX4_does_114 : decode cX4_does 114 = .ok (.goto 23, 3) := by decide +kernel
theorem dX4_does_117 : decode cX4_does 117 = .ok (.aload_n 0, 1) := by decide +kernel
theorem dX4_does_118 : decode cX4_does 118 = .ok (.getfield 7, 3) := by decide +kernel
theorem dX4_does_121 : decode cX4_does 121 = .ok (.bipush 44, 2) := by decide +kernel
theorem dX4_does_123 : decode cX4_does 123 = .ok (.iload_n 2, 1) := by decide +kernel
theorem dX4_does_124 : decode cX4_does 124 = .ok (.iadd, 1) := by decide +kernel
theorem dX4_does_125 : decode cX4_does 125 = .ok (.iaload, 1) := by decide +kernel
theorem dX4_does_126 : decode cX4_does 126 = .ok (.sipush 999, 3) := by decide +kernel
theorem dX4_does_129 : decode cX4_does 129 = .ok (.if_icmp .ge 7, 3) := by decide +kernel
theorem dX4_does_132 : decode cX4_does 132 = .ok (.iconst 1, 1) := by decide +kernel
theorem dX4_does_133 : decode cX4_does 133 = .ok (.goto 4, 3) := by decide +kernel
theorem dX4_does_136 : decode cX4_does 136 = .ok (.iconst 0, 1) := by decide +kernel
theorem dX4_does_137 : decode cX4_does 137 = .ok (.istore_n 3, 1) := by decide +kernel
theorem dX4_does_138 : decode cX4_does 138 = .ok (.iload_n 3, 1) := by decide +kernel
theorem dX4_does_139 : decode cX4_does 139 = .ok (.ifCond .eq 18, 3) := by decide +kernel
theorem dX4_does_142 : decode cX4_does 142 = .ok (.iload_n 1, 1) := by decide +kernel
theorem dX4_does_143 : decode cX4_does 143 = .ok (.bipush 45, 2) := by decide +kernel
theorem dX4_does_145 : decode cX4_does 145 = .ok (.if_icmp .ne 12, 3) := by decide +kernel
theorem dX4_does_148 : decode cX4_does 148 = .ok (.aload_n 0, 1) := by decide +kernel
theorem dX4_does_149 : decode cX4_does 149 = .ok (.iload_n 2, 1) := by decide +kernel
theorem dX4_does_150 : decode cX4_does 150 = .ok (.invokevirtual 89, 3) := by decide +kernel
theorem dX4_does_153 : decode cX4_does 153 = .ok (.pop, 1) := by decide +kernel
theorem dX4_does_154 : decode cX4_does 154 = .ok (.goto 29, 3) := by decide +kernel
end
section
theorem dX4_does_157 : decode cX4_does 157 = .ok (.iload_n 3, 1) := by decide +kernel
theorem dX4_does_158 : decode cX4_does 158 = .ok (.ifCond .eq 25, 3) := by decide +kernel
theorem dX4_does_161 : decode cX4_does 161 = .ok (.aload_n 0, 1) := by decide +kernel
theorem dX4_does_162 : decode cX4_does 162 = .ok (.bipush 6, 2) := by decide +kernel
theorem dX4_does_164 : decode cX4_does 164 = .ok (.aload_n 0, 1) := by decide +kernel
theorem dX4_does_165 : decode cX4_does 165 = .ok (.getfield 28, 3) := by decide +kernel
theorem dX4_does_168 : decode cX4_does 168 = .ok (.iconst 0, 1) := by decide +kernel
theorem dX4_does_169 : decode cX4_does 169 = .ok (.iaload, 1) := by decide +kernel
theorem dX4_does_170 : decode cX4_does 170 = .ok (.imul, 1) := by decide +kernel
theorem dX4_does_171 : decode cX4_does 171 = .ok (.aload_n 0, 1) := by decide +kernel
theorem dX4_does_172 : decode cX4_does 172 = .ok (.getfield 28, 3) := by decide +kernel
theorem dX4_does_175 : decode cX4_does 175 = .ok (.iconst 1, 1) := by decide +kernel
theorem dX4_does_176 : decode cX4_does 176 = .ok (.iaload, 1) := by decide +kernel
theorem dX4_does_177 : decode cX4_does 177 = .ok (.iadd, 1) := by decide +kernel
theorem dX4_does_178 : decode cX4_does 178 = .ok (.iload_n 2, 1) := by decide +kernel
theorem dX4_does_179 : decode cX4_does 179 = .ok (.invokevirtual 96, 3) := by decide +kernel
theorem dX4_does_182 : decode cX4_does 182 = .ok (.pop, 1) := by decide +kernel
theorem dX4_does_183 : decode cX4_does 183 = .ok (.iload_n 3, 1) := by decide +kernel
theorem dX4_does_184 : decode cX4_does 184 = .ok (.ireturn, 1) := by decide +kernel
set_option maxRecDepth 20000 in
theorem ggX4_doesAll_X4_letter : GoodIn wsX4_doesAll wsX4_letter := goodIn_r _ [10, 3, 11, 99, 100, 101, 102, 103, 104, 105, 106, 107, 108, 109, 110, 111, 112, 113, 114, 115] (by decide +kernel) (by decide +kernel)
set_option maxRecDepth 20000 in
theorem gX4_doesAll_X4_letter : GoodIn wsX4_doesAll (wsV RX4 137 RX4 yX4_letter wsX4_letter) := goodIn_app (goodIn_of _ (by decide +kernel)) ggX4_doesAll_X4_letter
set_option maxRecDepth 20000 in
theorem ggX4_doesAll_X4_reads : GoodIn wsX4_doesAll wsX4_reads := goodIn_r _ [15, 2, 6, 7, 8, 9, 10, 3, 11, 16, 17, 18, 19, 20, 21, 22, 23, 24, 25, 26, 27, 28, 29, 30, 31, 32, 33, 99, 100, 101, 102, 103, 104, 105, 106, 107, 108, 109, 110, 111, 112, 113, 114, 115] (by decide +kernel) (by decide +kernel)
set_option maxRecDepth 20000 in
theorem gX4_doesAll_X4_reads : GoodIn wsX4_doesAll (wsV RX4 162 RX4 yX4_reads wsX4_reads) := goodIn_app (goodIn_of _ (by decide +kernel)) ggX4_doesAll_X4_reads
set_option maxRecDepth 20000 in
theorem ggX4_doesAll_X4_wrong : GoodIn wsX4_doesAll wsX4_wrong := goodIn_r _ [37, 20, 32, 99, 100, 101, 102, 103, 104, 105, 106, 107, 108, 109, 110, 111, 112, 113, 114, 115] (by decide +kernel) (by decide +kernel)
set_option maxRecDepth 20000 in
theorem gX4_doesAll_X4_wrong : GoodIn wsX4_doesAll (wsV RX4 168 RX4 yX4_wrong wsX4_wrong) := goodIn_app (goodIn_of _ (by decide +kernel)) ggX4_doesAll_X4_wrong
set_option maxRecDepth 20000 in
theorem ggX4_doesAll_X4_does : GoodIn wsX4_doesAll wsX4_does := goodIn_r _ [41, 33, 42, 20, 43, 44, 45, 9, 46, 47, 48, 49, 50, 51, 52, 53, 54, 55, 56, 57, 58, 59, 60, 61, 62, 63, 64, 65, 66, 67, 68, 69, 70, 71, 72, 73, 74, 75, 76, 77, 78, 79, 80, 81, 82, 83, 84, 85, 86, 87, 88, 89, 90, 91, 92, 93, 94, 95, 96, 97, 98, 99, 100, 101, 102, 103, 104, 105, 106, 107, 108, 109, 110, 111, 112, 113, 114, 115] (by decide +kernel) (by decide +kernel)
set_option maxRecDepth 20000 in
theorem gX4_doesAll_X4_does : GoodIn wsX4_doesAll (wsV RX4 171 RX4 yX4_does wsX4_does) := goodIn_app (goodIn_of _ (by decide +kernel)) ggX4_doesAll_X4_does
theorem dX4_doesAll_0 : decode cX4_doesAll 0 = .ok (.iconst 0, 1) := by decide +kernel
theorem dX4_doesAll_1 : decode cX4_doesAll 1 = .ok (.istore_n 1, 1) := by decide +kernel
theorem dX4_doesAll_2 : decode cX4_doesAll 2 = .ok (.aload_n 0, 1) := by decide +kernel
theorem dX4_doesAll_3 : decode cX4_doesAll 3 = .ok (.iconst 0, 1) := by decide +kernel
theorem dX4_doesAll_4 : decode cX4_doesAll 4 = .ok (.putfield 156, 3) := by decide +kernel
theorem dX4_doesAll_7 : decode cX4_doesAll 7 = .ok (.aload_n 0, 1) := by decide +kernel
theorem dX4_doesAll_8 : decode cX4_doesAll 8 = .ok (.iconst 0, 1) := by decide +kernel
theorem dX4_doesAll_9 : decode cX4_doesAll 9 = .ok (.putfield 134, 3) := by decide +kernel
theorem dX4_doesAll_12 : decode cX4_doesAll 12 = .ok (.aload_n 0, 1) := by decide +kernel
theorem dX4_doesAll_13 : decode cX4_doesAll 13 = .ok (.getfield 134, 3) := by decide +kernel
theorem dX4_doesAll_16 : decode cX4_doesAll 16 = .ok (.aload_n 0, 1) := by decide +kernel
theorem dX4_doesAll_17 : decode cX4_doesAll 17 = .ok (.getfield 131, 3) := by decide +kernel
theorem dX4_doesAll_20 : decode cX4_doesAll 20 = .ok (.if_icmp .ge 102, 3) := by decide +kernel
theorem dX4_doesAll_23 : decode cX4_doesAll 23 = .ok (.aload_n 0, 1) := by decide +kernel
theorem dX4_doesAll_24 : decode cX4_doesAll 24 = .ok (.getfield 156, 3) := by decide +kernel
theorem dX4_doesAll_27 : decode cX4_doesAll 27 = .ok (.ifCond .ne 95, 3) := by decide +kernel
theorem dX4_doesAll_30 : decode cX4_doesAll 30 = .ok (.aload_n 0, 1) := by decide +kernel
theorem dX4_doesAll_31 : decode cX4_doesAll 31 = .ok (.aload_n 0, 1) := by decide +kernel
theorem dX4_doesAll_32 : decode cX4_doesAll 32 = .ok (.getfield 134, 3) := by decide +kernel
theorem dX4_doesAll_35 : decode cX4_doesAll 35 = .ok (.putfield 159, 3) := by decide +kernel
theorem dX4_doesAll_38 : decode cX4_doesAll 38 = .ok (.aload_n 0, 1) := by decide +kernel
theorem dX4_doesAll_39 : decode cX4_doesAll 39 = .ok (.aload_n 0, 1) := by decide +kernel
theorem dX4_doesAll_40 : decode cX4_doesAll 40 = .ok (.getfield 159, 3) := by decide +kernel
theorem dX4_doesAll_43 : decode cX4_doesAll 43 = .ok (.invokevirtual 137, 3) := by decide +kernel
theorem dX4_doesAll_46 : decode cX4_doesAll 46 = .ok (.istore_n 2, 1) := by decide +kernel
theorem dX4_doesAll_47 : decode cX4_doesAll 47 = .ok (.aload_n 0, 1) := by decide +kernel
theorem dX4_doesAll_48 : decode cX4_doesAll 48 = .ok (.invokevirtual 162, 3) := by decide +kernel
theorem dX4_doesAll_51 : decode cX4_doesAll 51 = .ok (.ifCond .ne 24, 3) := by decide +kernel
theorem dX4_doesAll_54 : decode cX4_doesAll 54 = .ok (.aload_n 0, 1) := by decide +kernel
theorem dX4_doesAll_55 : decode cX4_doesAll 55 = .ok (.iconst 1, 1) := by decide +kernel
theorem dX4_doesAll_56 : decode cX4_doesAll 56 = .ok (.putfield 156, 3) := by decide +kernel
theorem dX4_doesAll_59 : decode cX4_doesAll 59 = .ok (.aload_n 0, 1) := by decide +kernel
theorem dX4_doesAll_60 : decode cX4_doesAll 60 = .ok (.aload_n 0, 1) := by decide +kernel
theorem dX4_doesAll_61 : decode cX4_doesAll 61 = .ok (.getfield 134, 3) := by decide +kernel
theorem dX4_doesAll_64 : decode cX4_doesAll 64 = .ok (.aload_n 0, 1) := by decide +kernel
theorem dX4_doesAll_65 : decode cX4_doesAll 65 = .ok (.getfield 159, 3) := by decide +kernel
theorem dX4_doesAll_68 : decode cX4_doesAll 68 = .ok (.isub, 1) := by decide +kernel
theorem dX4_doesAll_69 : decode cX4_doesAll 69 = .ok (.putfield 165, 3) := by decide +kernel
theorem dX4_doesAll_72 : decode cX4_doesAll 72 = .ok (.goto 47, 3) := by decide +kernel
theorem dX4_doesAll_75 : decode cX4_doesAll 75 = .ok (.aload_n 0, 1) := by decide +kernel
theorem dX4_doesAll_76 : decode cX4_doesAll 76 = .ok (.iload_n 2, 1) := by decide +kernel
theorem dX4_doesAll_77 : decode cX4_doesAll 77 = .ok (.invokevirtual 168, 3) := by decide +kernel
theorem dX4_doesAll_80 : decode cX4_doesAll 80 = .ok (.ifCond .lt 20, 3) := by decide +kernel
theorem dX4_doesAll_83 : decode cX4_doesAll 83 = .ok (.aload_n 0, 1) := by decide +kernel
theorem dX4_doesAll_84 : decode cX4_doesAll 84 = .ok (.iconst 2, 1) := by decide +kernel
theorem dX4_doesAll_85 : decode cX4_doesAll 85 = .ok (.putfield 156, 3) := by decide +kernel
theorem dX4_doesAll_88 : decode cX4_doesAll 88 = .ok (.aload_n 0, 1) := by decide +kernel
theorem dX4_doesAll_89 : decode cX4_doesAll 89 = .ok (.aload_n 0, 1) := by decide +kernel
theorem dX4_doesAll_90 : decode cX4_doesAll 90 = .ok (.iload_n 2, 1) := by decide +kernel
theorem dX4_doesAll_91 : decode cX4_doesAll 91 = .ok (.invokevirtual 168, 3) := by decide +kernel
theorem dX4_doesAll_94 : decode cX4_doesAll 94 = .ok (.putfield 165, 3) := by decide +kernel
theorem dX4_doesAll_97 : decode cX4_doesAll 97 = .ok (.goto 22, 3) := by decide +kernel
theorem dX4_doesAll_100 : decode cX4_doesAll 100 = .ok (.aload_n 0, 1) := by decide +kernel
theorem dX4_doesAll_101 : decode cX4_doesAll 101 = .ok (.iload_n 2, 1) := by decide +kernel
theorem dX4_doesAll_102 : decode cX4_doesAll 102 = .ok (.invokevirtual 171, 3) := by decide +kernel
theorem dX4_doesAll_105 : decode cX4_doesAll 105 = .ok (.ifCond .ne 11, 3) := by decide +kernel
theorem dX4_doesAll_108 : decode cX4_doesAll 108 = .ok (.aload_n 0, 1) := by decide +kernel
theorem dX4_doesAll_109 : decode cX4_doesAll 109 = .ok (.iconst 3, 1) := by decide +kernel
theorem dX4_doesAll_110 : decode cX4_doesAll 110 = .ok (.putfield 156, 3) := by decide +kernel
theorem dX4_doesAll_113 : decode cX4_doesAll 113 = .ok (.goto 6, 3) := by decide +kernel
theorem dX4_doesAll_116 : decode cX4_doesAll 116 = .ok (.iinc 1 1, 3) := by decide +kernel
theorem dX4_doesAll_119 : decode cX4_doesAll 119 = .ok (.goto (-107), 3) := by decide +kernel
theorem dX4_doesAll_122 : decode cX4_doesAll 122 = .ok (.iload_n 1, 1) := by decide +kernel
theorem dX4_doesAll_123 : decode cX4_doesAll 123 = .ok (.ireturn, 1) := by decide +kernel
theorem dX4_lays_0 : decode cX4_lays 0 = .ok (.iconst 0, 1) := by decide +kernel
theorem dX4_lays_1 : decode cX4_lays 1 = .ok (.istore_n 1, 1) := by decide +kernel
theorem dX4_lays_2 : decode cX4_lays 2 = .ok (.iload_n 1, 1) := by decide +kernel
theorem dX4_lays_3 : decode cX4_lays 3 = .ok (.sipush 511, 3) := by decide +kernel
theorem dX4_lays_6 : decode cX4_lays 6 = .ok (.if_icmp .ge 21, 3) := by decide +kernel
theorem dX4_lays_9 : decode cX4_lays 9 = .ok (.aload_n 0, 1) := by decide +kernel
theorem dX4_lays_10 : decode cX4_lays 10 = .ok (.getfield 16, 3) := by decide +kernel
theorem dX4_lays_13 : decode cX4_lays 13 = .ok (.iload_n 1, 1) := by decide +kernel
theorem dX4_lays_14 : decode cX4_lays 14 = .ok (.aload_n 0, 1) := by decide +kernel
theorem dX4_lays_15 : decode cX4_lays 15 = .ok (.getfield 7, 3) := by decide +kernel
theorem dX4_lays_18 : decode cX4_lays 18 = .ok (.iload_n 1, 1) := by decide +kernel
theorem dX4_lays_19 : decode cX4_lays 19 = .ok (.iaload, 1) := by decide +kernel
theorem dX4_lays_20 : decode cX4_lays 20 = .ok (.iastore, 1) := by decide +kernel
theorem dX4_lays_21 : decode cX4_lays 21 = .ok (.iinc 1 1, 3) := by decide +kernel
theorem dX4_lays_24 : decode cX4_lays 24 = .ok (.goto (-22), 3) := by decide +kernel
theorem dX4_lays_27 : decode cX4_lays 27 = .ok (.return_, 1) := by decide +kernel
theorem dX4_back_0 : decode cX4_back 0 = .ok (.iconst 0, 1) := by decide +kernel
theorem dX4_back_1 : decode cX4_back 1 = .ok (.istore_n 1, 1) := by decide +kernel
theorem dX4_back_2 : decode cX4_back 2 = .ok (.iload_n 1, 1) := by decide +kernel
theorem dX4_back_3 : decode cX4_back 3 = .ok (.sipush 511, 3) := by decide +kernel
theorem dX4_back_6 : decode cX4_back 6 = .ok (.if_icmp .ge 21, 3) := by decide +kernel
theorem dX4_back_9 : decode cX4_back 9 = .ok (.aload_n 0, 1) := by decide +kernel
theorem dX4_back_10 : decode cX4_back 10 = .ok (.getfield 7, 3) := by decide +kernel
theorem dX4_back_13 : decode cX4_back 13 = .ok (.iload_n 1, 1) := by decide +kernel
theorem dX4_back_14 : decode cX4_back 14 = .ok (.aload_n 0, 1) := by decide +kernel
theorem dX4_back_15 : decode cX4_back 15 = .ok (.getfield 16, 3) := by decide +kernel
theorem dX4_back_18 : decode cX4_back 18 = .ok (.iload_n 1, 1) := by decide +kernel
theorem dX4_back_19 : decode cX4_back 19 = .ok (.iaload, 1) := by decide +kernel
theorem dX4_back_20 : decode cX4_back 20 = .ok (.iastore, 1) := by decide +kernel
theorem dX4_back_21 : decode cX4_back 21 = .ok (.iinc 1 1, 3) := by decide +kernel
theorem dX4_back_24 : decode cX4_back 24 = .ok (.goto (-22), 3) := by decide +kernel
theorem dX4_back_27 : decode cX4_back 27 = .ok (.return_, 1) := by decide +kernel
set_option maxRecDepth 20000 in
theorem ggX4_fault_X4_within : GoodIn wsX4_fault wsX4_within := goodIn_r _ [9] (by decide +kernel) (by decide +kernel)
set_option maxRecDepth 20000 in
theorem gX4_fault_X4_within : GoodIn wsX4_fault (va_wsS RX4 37 yX4_within wsX4_within) := goodIn_app (goodIn_of _ (by decide +kernel)) ggX4_fault_X4_within
set_option maxRecDepth 20000 in
theorem ggX4_fault_X4_lays : GoodIn wsX4_fault wsX4_lays := goodIn_r _ [13, 14, 15, 114, 115, 116, 117, 118, 119, 120, 121, 122, 123, 124, 125, 126, 127, 128, 129, 130] (by decide +kernel) (by decide +kernel)
set_option maxRecDepth 20000 in
theorem gX4_fault_X4_lays : GoodIn wsX4_fault (wsV RX4 174 RX4 yX4_lays wsX4_lays) := goodIn_app (goodIn_of _ (by decide +kernel)) ggX4_fault_X4_lays
set_option maxRecDepth 20000 in
theorem ggX4_fault_X4_doesAll : GoodIn wsX4_fault wsX4_doesAll := goodIn_r _ [19, 2, 20, 21, 4, 5, 22, 23, 24, 8, 25, 26, 27, 28, 29, 30, 31, 32, 33, 34, 35, 6, 7, 9, 36, 37, 38, 39, 40, 41, 42, 43, 44, 45, 46, 47, 48, 49, 50, 51, 52, 53, 15, 54, 55, 56, 57, 58, 59, 60, 61, 62, 63, 64, 65, 66, 67, 68, 69, 70, 71, 72, 73, 74, 75, 76, 77, 78, 79, 80, 81, 82, 83, 84, 85, 86, 87, 88, 89, 90, 91, 92, 93, 94, 95, 96, 97, 98, 99, 100, 101, 102, 103, 104, 105, 106, 107, 108, 109, 114, 115, 116, 117, 118, 119, 120, 121, 122, 123, 124, 125, 126, 127, 128, 129, 130] rfl (by decide +kernel)
set_option maxRecDepth 20000 in
theorem gX4_fault_X4_doesAll : GoodIn wsX4_fault (wsV RX4 177 RX4 yX4_doesAll wsX4_doesAll) := goodIn_app (goodIn_of _ (by decide +kernel)) ggX4_fault_X4_doesAll
set_option maxRecDepth 20000 in
theorem ggX4_fault_X4_back : GoodIn wsX4_fault wsX4_back := goodIn_r _ [113, 15, 14, 114, 115, 116, 117, 118, 119, 120, 121, 122, 123, 124, 125, 126, 127, 128, 129, 130] (by decide +kernel) (by decide +kernel)
set_option maxRecDepth 20000 in
theorem gX4_fault_X4_back : GoodIn wsX4_fault (wsV RX4 180 RX4 yX4_back wsX4_back) := goodIn_app (goodIn_of _ (by decide +kernel)) ggX4_fault_X4_back
theorem dX4_fault_0 : decode cX4_fault 0 = .ok (.iload_n 1, 1) := by decide +kernel
theorem dX4_fault_1 : decode cX4_fault 1 = .ok (.iconst 0, 1) := by decide +kernel
theorem dX4_fault_2 : decode cX4_fault 2 = .ok (.iconst 2, 1) := by decide +kernel
theorem dX4_fault_3 : decode cX4_fault 3 = .ok (.invokestatic 37, 3) := by decide +kernel
theorem dX4_fault_6 : decode cX4_fault 6 = .ok (.ifCond .ne 6, 3) := by decide +kernel
theorem dX4_fault_9 : decode cX4_fault 9 = .ok (.ldc 61, 2) := by decide +kernel
theorem dX4_fault_11 : decode cX4_fault 11 = .ok (.ireturn, 1) := by decide +kernel
theorem dX4_fault_12 : decode cX4_fault 12 = .ok (.aload_n 0, 1) := by decide +kernel
theorem dX4_fault_13 : decode cX4_fault 13 = .ok (.invokevirtual 174, 3) := by decide +kernel
theorem dX4_fault_16 : decode cX4_fault 16 = .ok (.aload_n 0, 1) := by decide +kernel
theorem dX4_fault_17 : decode cX4_fault 17 = .ok (.invokevirtual 177, 3) := by decide +kernel
theorem dX4_fault_20 : decode cX4_fault 20 = .ok (.pop, 1) := by decide +kernel
theorem dX4_fault_21 : decode cX4_fault 21 = .ok (.aload_n 0, 1) := by decide +kernel
end
section
theorem dX4_fault_22 : decode cX4_fault 22 = .ok (.invokevirtual 180, 3) := by decide +kernel
theorem dX4_fault_25 : decode cX4_fault 25 = .ok (.aload_n 0, 1) := by decide +kernel
theorem dX4_fault_26 : decode cX4_fault 26 = .ok (.getfield 156, 3) := by decide +kernel
theorem dX4_fault_29 : decode cX4_fault 29 = .ok (.ifCond .eq 16, 3) := by decide +kernel
theorem dX4_fault_32 : decode cX4_fault 32 = .ok (.iload_n 1, 1) := by decide +kernel
theorem dX4_fault_33 : decode cX4_fault 33 = .ok (.iconst 2, 1) := by decide +kernel
theorem dX4_fault_34 : decode cX4_fault 34 = .ok (.if_icmp .ne 14, 3) := by decide +kernel
theorem dX4_fault_37 : decode cX4_fault 37 = .ok (.aload_n 0, 1) := by decide +kernel
theorem dX4_fault_38 : decode cX4_fault 38 = .ok (.getfield 156, 3) := by decide +kernel
theorem dX4_fault_41 : decode cX4_fault 41 = .ok (.iconst 3, 1) := by decide +kernel
theorem dX4_fault_42 : decode cX4_fault 42 = .ok (.if_icmp .ne 6, 3) := by decide +kernel
theorem dX4_fault_45 : decode cX4_fault 45 = .ok (.ldc 99, 2) := by decide +kernel
theorem dX4_fault_47 : decode cX4_fault 47 = .ok (.ireturn, 1) := by decide +kernel
theorem dX4_fault_48 : decode cX4_fault 48 = .ok (.iload_n 1, 1) := by decide +kernel
theorem dX4_fault_49 : decode cX4_fault 49 = .ok (.ifCond .ne 10, 3) := by decide +kernel
theorem dX4_fault_52 : decode cX4_fault 52 = .ok (.aload_n 0, 1) := by decide +kernel
theorem dX4_fault_53 : decode cX4_fault 53 = .ok (.getfield 159, 3) := by decide +kernel
theorem dX4_fault_56 : decode cX4_fault 56 = .ok (.goto 19, 3) := by decide +kernel
theorem dX4_fault_59 : decode cX4_fault 59 = .ok (.iload_n 1, 1) := by decide +kernel
theorem dX4_fault_60 : decode cX4_fault 60 = .ok (.iconst 1, 1) := by decide +kernel
theorem dX4_fault_61 : decode cX4_fault 61 = .ok (.if_icmp .ne 10, 3) := by decide +kernel
theorem dX4_fault_64 : decode cX4_fault 64 = .ok (.aload_n 0, 1) := by decide +kernel
theorem dX4_fault_65 : decode cX4_fault 65 = .ok (.getfield 156, 3) := by decide +kernel
theorem dX4_fault_68 : decode cX4_fault 68 = .ok (.goto 7, 3) := by decide +kernel
theorem dX4_fault_71 : decode cX4_fault 71 = .ok (.aload_n 0, 1) := by decide +kernel
theorem dX4_fault_72 : decode cX4_fault 72 = .ok (.getfield 165, 3) := by decide +kernel
theorem dX4_fault_75 : decode cX4_fault 75 = .ok (.ireturn, 1) := by decide +kernel
set_option maxRecDepth 20000 in
theorem ggX4_play_X4_lays : GoodIn wsX4_play wsX4_lays := goodIn_r _ [7, 8, 9, 119, 120, 121, 122, 123, 124, 125, 126, 127, 128, 129, 130, 131, 132, 133, 134, 135] (by decide +kernel) (by decide +kernel)
set_option maxRecDepth 20000 in
theorem gX4_play_X4_lays : GoodIn wsX4_play (wsV RX4 174 RX4 yX4_lays wsX4_lays) := goodIn_app (goodIn_of _ (by decide +kernel)) ggX4_play_X4_lays
set_option maxRecDepth 20000 in
theorem ggX4_play_X4_doesAll : GoodIn wsX4_play wsX4_doesAll := goodIn_r _ [13, 1, 14, 15, 16, 17, 18, 19, 20, 6, 21, 22, 23, 24, 25, 26, 27, 28, 29, 30, 31, 32, 33, 34, 35, 36, 37, 38, 39, 40, 41, 42, 43, 44, 45, 46, 47, 48, 49, 50, 51, 52, 9, 53, 54, 55, 56, 57, 58, 59, 60, 61, 62, 63, 64, 65, 66, 67, 68, 69, 70, 71, 72, 73, 74, 75, 76, 77, 78, 79, 80, 81, 82, 83, 84, 85, 86, 87, 88, 89, 90, 91, 92, 93, 94, 95, 96, 97, 98, 99, 100, 101, 102, 103, 104, 105, 106, 107, 108, 119, 120, 121, 122, 123, 124, 125, 126, 127, 128, 129, 130, 131, 132, 133, 134, 135] rfl (by decide +kernel)
set_option maxRecDepth 20000 in
theorem gX4_play_X4_doesAll : GoodIn wsX4_play (wsV RX4 177 RX4 yX4_doesAll wsX4_doesAll) := goodIn_app (goodIn_of _ (by decide +kernel)) ggX4_play_X4_doesAll
set_option maxRecDepth 20000 in
theorem ggX4_play_X4_back : GoodIn wsX4_play wsX4_back := goodIn_r _ [112, 9, 8, 119, 120, 121, 122, 123, 124, 125, 126, 127, 128, 129, 130, 131, 132, 133, 134, 135] (by decide +kernel) (by decide +kernel)
set_option maxRecDepth 20000 in
theorem gX4_play_X4_back : GoodIn wsX4_play (wsV RX4 180 RX4 yX4_back wsX4_back) := goodIn_app (goodIn_of _ (by decide +kernel)) ggX4_play_X4_back
set_option maxRecDepth 20000 in
theorem ggX4_play_X4_saves : GoodIn wsX4_play wsX4_saves := goodIn_r _ [116, 117, 118, 9, 119, 120, 121, 122, 123, 124, 125, 126, 127, 128, 129, 130, 131, 132, 133, 134, 135] (by decide +kernel) (by decide +kernel)
set_option maxRecDepth 20000 in
theorem gX4_play_X4_saves : GoodIn wsX4_play (wsV RX4 66 RX4 yX4_saves wsX4_saves) := goodIn_app (goodIn_of _ (by decide +kernel)) ggX4_play_X4_saves
theorem dX4_play_0 : decode cX4_play 0 = .ok (.aload_n 0, 1) := by decide +kernel
theorem dX4_play_1 : decode cX4_play 1 = .ok (.invokevirtual 174, 3) := by decide +kernel
theorem dX4_play_4 : decode cX4_play 4 = .ok (.aload_n 0, 1) := by decide +kernel
theorem dX4_play_5 : decode cX4_play 5 = .ok (.invokevirtual 177, 3) := by decide +kernel
theorem dX4_play_8 : decode cX4_play 8 = .ok (.pop, 1) := by decide +kernel
theorem dX4_play_9 : decode cX4_play 9 = .ok (.aload_n 0, 1) := by decide +kernel
theorem dX4_play_10 : decode cX4_play 10 = .ok (.invokevirtual 180, 3) := by decide +kernel
theorem dX4_play_13 : decode cX4_play 13 = .ok (.aload_n 0, 1) := by decide +kernel
theorem dX4_play_14 : decode cX4_play 14 = .ok (.getfield 156, 3) := by decide +kernel
theorem dX4_play_17 : decode cX4_play 17 = .ok (.ifCond .eq 6, 3) := by decide +kernel
theorem dX4_play_20 : decode cX4_play 20 = .ok (.ldc 35, 2) := by decide +kernel
theorem dX4_play_22 : decode cX4_play 22 = .ok (.ireturn, 1) := by decide +kernel
theorem dX4_play_23 : decode cX4_play 23 = .ok (.aload_n 0, 1) := by decide +kernel
theorem dX4_play_24 : decode cX4_play 24 = .ok (.invokevirtual 66, 3) := by decide +kernel
theorem dX4_play_27 : decode cX4_play 27 = .ok (.aload_n 0, 1) := by decide +kernel
theorem dX4_play_28 : decode cX4_play 28 = .ok (.invokevirtual 177, 3) := by decide +kernel
theorem dX4_play_31 : decode cX4_play 31 = .ok (.ireturn, 1) := by decide +kernel
theorem dJ9_min_7cf53_0 : decode cJ9_min_7cf53 0 = .ok (.iload_n 0, 1) := by decide +kernel
theorem dJ9_min_7cf53_1 : decode cJ9_min_7cf53 1 = .ok (.iload_n 1, 1) := by decide +kernel
theorem dJ9_min_7cf53_2 : decode cJ9_min_7cf53 2 = .ok (.if_icmp .gt 7, 3) := by decide +kernel
theorem dJ9_min_7cf53_5 : decode cJ9_min_7cf53 5 = .ok (.iload_n 0, 1) := by decide +kernel
theorem dJ9_min_7cf53_6 : decode cJ9_min_7cf53 6 = .ok (.goto 4, 3) := by decide +kernel
theorem dJ9_min_7cf53_9 : decode cJ9_min_7cf53 9 = .ok (.iload_n 1, 1) := by decide +kernel
theorem dJ9_min_7cf53_10 : decode cJ9_min_7cf53 10 = .ok (.ireturn, 1) := by decide +kernel
theorem dJ7_fill_53178_0 : decode cJ7_fill_53178 0 = .ok (.iconst 0, 1) := by decide +kernel
theorem dJ7_fill_53178_1 : decode cJ7_fill_53178 1 = .ok (.istore_n 2, 1) := by decide +kernel
theorem dJ7_fill_53178_2 : decode cJ7_fill_53178 2 = .ok (.aload_n 0, 1) := by decide +kernel
theorem dJ7_fill_53178_3 : decode cJ7_fill_53178 3 = .ok (.arraylength, 1) := by decide +kernel
theorem dJ7_fill_53178_4 : decode cJ7_fill_53178 4 = .ok (.istore_n 3, 1) := by decide +kernel
theorem dJ7_fill_53178_5 : decode cJ7_fill_53178 5 = .ok (.iload_n 2, 1) := by decide +kernel
theorem dJ7_fill_53178_6 : decode cJ7_fill_53178 6 = .ok (.iload_n 3, 1) := by decide +kernel
theorem dJ7_fill_53178_7 : decode cJ7_fill_53178 7 = .ok (.if_icmp .ge 13, 3) := by decide +kernel
theorem dJ7_fill_53178_10 : decode cJ7_fill_53178 10 = .ok (.aload_n 0, 1) := by decide +kernel
theorem dJ7_fill_53178_11 : decode cJ7_fill_53178 11 = .ok (.iload_n 2, 1) := by decide +kernel
theorem dJ7_fill_53178_12 : decode cJ7_fill_53178 12 = .ok (.iload_n 1, 1) := by decide +kernel
theorem dJ7_fill_53178_13 : decode cJ7_fill_53178 13 = .ok (.iastore, 1) := by decide +kernel
theorem dJ7_fill_53178_14 : decode cJ7_fill_53178 14 = .ok (.iinc 2 1, 3) := by decide +kernel
theorem dJ7_fill_53178_17 : decode cJ7_fill_53178 17 = .ok (.goto (-12), 3) := by decide +kernel
theorem dJ7_fill_53178_20 : decode cJ7_fill_53178 20 = .ok (.return_, 1) := by decide +kernel
abbrev vwCl : List vw_C := [(RX0, TX0, 12), (RX1, TX1, 15), (RX2, TX2, 2), (RX3, TX3, 5), (RX4, TX4, 17)]
end
section
/-! plain facts on numbers and arrays, to paste: each family by itself; over the kit's rows on nI and upd -/
/-! ===== order of ints, in all its forms, and through longs ===== -/
theorem fa_lt (a b : Int32) : a < b ↔ a.toInt < b.toInt := Int32.lt_iff_toInt_lt
theorem fa_le (a b : Int32) : a ≤ b ↔ a.toInt ≤ b.toInt := Int32.le_iff_toInt_le
theorem fa_eq (a b : Int32) : a = b ↔ a.toInt = b.toInt := Int32.toInt_inj.symm
theorem fa_lt64 (a b : Int64) : a < b ↔ a.toInt < b.toInt := Int64.lt_iff_toInt_lt
theorem fa_le64 (a b : Int64) : a ≤ b ↔ a.toInt ≤ b.toInt := Int64.le_iff_toInt_le
theorem fa_eq64 (a b : Int64) : a = b ↔ a.toInt = b.toInt := Int64.toInt_inj.symm
/-- a comparison of two ints taken as longs -/
theorem fa_wide_lt (a b : Int32) : a.toInt64 < b.toInt64 ↔ a < b := by rw [fa_lt64, fa_lt, Int32.toInt_toInt64, Int32.toInt_toInt64]
theorem fa_wide_le (a b : Int32) : a.toInt64 ≤ b.toInt64 ↔ a ≤ b := by rw [fa_le64, fa_le, Int32.toInt_toInt64, Int32.toInt_toInt64]
theorem fa_wide_eq (a b : Int32) : a.toInt64 = b.toInt64 ↔ a = b := by rw [fa_eq64, fa_eq, Int32.toInt_toInt64, Int32.toInt_toInt64]
/-- one strict comparison gives all the others -/
theorem fa_of_lt {a b : Int32} (h : a < b) : a ≤ b ∧ ¬ b ≤ a ∧ ¬ b < a ∧ a ≠ b ∧ b ≠ a := by
  rw [fa_lt] at h
  refine ⟨?_, ?_, ?_, ?_, ?_⟩
  · rw [fa_le]; omega
  · rw [fa_le]; omega
  · rw [fa_lt]; omega
  · intro e; rw [fa_eq] at e; omega
  · intro e; rw [fa_eq] at e; omega
theorem fa_of_nlt {a b : Int32} (h : ¬ a < b) : b ≤ a := by
  rw [fa_lt] at h
  rw [fa_le]
  omega
theorem fa_of_nle {a b : Int32} (h : ¬ a ≤ b) : b < a := by
  rw [fa_le] at h
  rw [fa_lt]
  omega
theorem fa_le_ne {a b : Int32} (h : a ≤ b) (h2 : a ≠ b) : a < b := by
  rw [fa_le] at h
  rw [fa_lt]
  have h3 : a.toInt ≠ b.toInt := fun e => h2 ((fa_eq a b).mpr e)
  omega
theorem fa_three (a b : Int32) : a < b ∨ a = b ∨ b < a := by
  rw [fa_lt, fa_lt, fa_eq]
  omega
theorem fa_trans {a b c : Int32} (h : a < b) (h2 : b ≤ c) : a < c := by
  rw [fa_lt] at *
  rw [fa_le] at h2
  omega
/-! ===== small literals as numbers ===== -/
theorem fa_lit (n : Nat) : (OfNat.ofNat n : Int32) = nI n := rfl
theorem fa_litL (n : Nat) : (OfNat.ofNat n : Int64) = lN n := rfl
/-! ===== bits of a number: 'or', masks, one bit ===== -/
theorem fa_and (a b : Nat) : nI a &&& nI b = nI (a &&& b) := by
  apply Int32.toBitVec_inj.1
  show BitVec.ofNat 32 a &&& BitVec.ofNat 32 b = BitVec.ofNat 32 (a &&& b)
  apply BitVec.eq_of_getLsbD_eq
  intro i hi
  simp [hi]
theorem fa_or (a b : Nat) : nI a ||| nI b = nI (a ||| b) := by
  apply Int32.toBitVec_inj.1
  show BitVec.ofNat 32 a ||| BitVec.ofNat 32 b = BitVec.ofNat 32 (a ||| b)
  apply BitVec.eq_of_getLsbD_eq
  intro i hi
  simp [hi]
/-- a remainder by a power of two, as a mask -/
theorem fa_mask (n k : Nat) : nI n &&& nI (2 ^ k - 1) = nI (n % 2 ^ k) := by rw [fa_and, Nat.and_two_pow_sub_one_eq_mod]
/-- 'or' of a high part and a low one that don't meet is their sum -/
theorem fa_or_sum {a k : Nat} (b : Nat) (h : a < 2 ^ k) : nI (2 ^ k * b) ||| nI a = nI (2 ^ k * b + a) := by rw [fa_or, Nat.two_pow_add_eq_or_of_lt h]
/-- one bit, by 'and' with a power of two -/
theorem fa_bit {n j : Nat} (hj : j < 31) : nI n &&& nI (2 ^ j) = 0 ↔ n.testBit j = false := by
  have h2 : (2 : Nat) ^ j < 2 ^ 31 := Nat.pow_lt_pow_right (by decide) hj
  have hle : n &&& 2 ^ j ≤ 2 ^ j := Nat.and_le_right
  have e : n &&& 2 ^ j = 0 ↔ n.testBit j = false := by
    constructor
    · intro h
      have h1 : (n &&& 2 ^ j).testBit j = false := by rw [h]; simp
      rw [Nat.testBit_and] at h1
      first | simpa using h1 | simpa [Nat.testBit_two_pow_self] using h1 | simpa [Nat.testBit_two_pow] using h1
    · intro h
      apply Nat.eq_of_testBit_eq
      intro i
      rw [Nat.testBit_and]
      by_cases hi : j = i
      · subst hi; simp [h]
      · first | (simp [Nat.testBit_two_pow, hi]; done) | (simp [Nat.testBit_two_pow_of_ne hi]; done)
  rw [fa_and]
  constructor
  · intro h
    apply e.mp
    rcases Nat.eq_zero_or_pos (n &&& 2 ^ j) with z | z
    · exact z
    · exact absurd h (nI_ne0 z (Nat.lt_of_le_of_lt hle h2))
  · intro h
    rw [e.mpr h]; exact nI_0
/-- a remainder by a power of two of a number that isn't negative, as Java divides -/
theorem fa_rem {a k : Nat} (ha : a < 2 ^ 31) (hk : k < 31) : nI a - nI a / nI (2 ^ k) * nI (2 ^ k) = nI (a % 2 ^ k) := pk_rem ha (Nat.two_pow_pos k) (Nat.pow_lt_pow_right (by decide) hk)
/-! ===== cuts to a byte, a short ===== -/
theorem fa_byte_xor (x y : Int32) : (x ^^^ y).toInt8 = x.toInt8 ^^^ y.toInt8 := by
  apply Int8.toBitVec_inj.1
  apply BitVec.eq_of_getLsbD_eq
  intro i hi
  first | (simp [hi]; done) | (simp [hi, BitVec.getLsbD_setWidth, BitVec.getLsbD_signExtend]; done)
theorem fa_short_xor (x y : Int32) : (x ^^^ y).toInt16 = x.toInt16 ^^^ y.toInt16 := by
  apply Int16.toBitVec_inj.1
  apply BitVec.eq_of_getLsbD_eq
  intro i hi
  first | (simp [hi]; done) | (simp [hi, BitVec.getLsbD_setWidth, BitVec.getLsbD_signExtend]; done)
/-- the cut to a byte sees the low byte alone -/
theorem fa_byte_low (x : Int32) : (x &&& 255).toInt8 = x.toInt8 := by
  apply Int8.toBitVec_inj.1
  apply BitVec.eq_of_getLsbD_eq
  intro i hi
  have h2 : (255 : Int32).toBitVec.getLsbD i = true := by
    have : ∀ j : Fin 8, (255 : Int32).toBitVec.getLsbD j.val = true := by decide +kernel
    exact this ⟨i, hi⟩
  have h4 : (x &&& 255).toBitVec.getLsbD i = x.toBitVec.getLsbD i := by
    show (x.toBitVec &&& (255 : Int32).toBitVec).getLsbD i = _
    rw [BitVec.getLsbD_and, h2, Bool.and_true]
  have h3 : i < 32 := by omega
  first
    | (show (((x &&& 255).toBitVec).signExtend 8).getLsbD i = (x.toBitVec.signExtend 8).getLsbD i; rw [BitVec.getLsbD_signExtend, BitVec.getLsbD_signExtend, if_pos h3, if_pos h3, h4])
    | (show (((x &&& 255).toBitVec).setWidth 8).getLsbD i = (x.toBitVec.setWidth 8).getLsbD i; rw [BitVec.getLsbD_setWidth, BitVec.getLsbD_setWidth, h4])
    | (simp [hi, h3, h4]; done)
theorem fa_short_low (x : Int32) : (x &&& 65535).toInt16 = x.toInt16 := by
  apply Int16.toBitVec_inj.1
  apply BitVec.eq_of_getLsbD_eq
  intro i hi
  have h2 : (65535 : Int32).toBitVec.getLsbD i = true := by
    have : ∀ j : Fin 16, (65535 : Int32).toBitVec.getLsbD j.val = true := by decide +kernel
    exact this ⟨i, hi⟩
  have h4 : (x &&& 65535).toBitVec.getLsbD i = x.toBitVec.getLsbD i := by
    show (x.toBitVec &&& (65535 : Int32).toBitVec).getLsbD i = _
    rw [BitVec.getLsbD_and, h2, Bool.and_true]
  have h3 : i < 32 := by omega
  first
    | (show (((x &&& 65535).toBitVec).signExtend 16).getLsbD i = (x.toBitVec.signExtend 16).getLsbD i; rw [BitVec.getLsbD_signExtend, BitVec.getLsbD_signExtend, if_pos h3, if_pos h3, h4])
    | (show (((x &&& 65535).toBitVec).setWidth 16).getLsbD i = (x.toBitVec.setWidth 16).getLsbD i; rw [BitVec.getLsbD_setWidth, BitVec.getLsbD_setWidth, h4])
    | (simp [hi, h3, h4]; done)
/-- a small number is its own byte, its own short -/
theorem fa_byte_small {n : Nat} (h : n < 128) : (nI n).toInt8.toInt32 = nI n := by
  have : ∀ j : Fin 128, (nI j.val).toInt8.toInt32 = nI j.val := by decide +kernel
  exact this ⟨n, h⟩
/-! ===== absolute difference ===== -/
theorem fa_absdiff {a b : Nat} (ha : a < 2 ^ 31) (hb : b < 2 ^ 31) : (if nI a < nI b then nI b - nI a else nI a - nI b) = nI (if a < b then b - a else a - b) := by
  by_cases h : a < b
  · rw [if_pos (nI_lt h hb), if_pos h]
    exact pk_sub (Nat.le_of_lt h)
  · rw [if_neg (nI_nlt (Nat.le_of_not_lt h) ha), if_neg h]
    exact pk_sub (Nat.le_of_not_lt h)
/-! ===== an array behind i stores, a conditional store, a row copied ===== -/
/-- f where k < i, what stood there else -/
def fa_fill {α : Type} (f g : Nat → α) (i : Nat) : Nat → α := fun k => if k < i then f k else g k
theorem fa_fill_0 {α : Type} (f g : Nat → α) : fa_fill f g 0 = g := funext fun k => if_neg (Nat.not_lt_zero k)
theorem fa_fill_in {α : Type} {f g : Nat → α} {i k : Nat} (h : k < i) : fa_fill f g i k = f k := if_pos h
theorem fa_fill_out {α : Type} {f g : Nat → α} {i k : Nat} (h : i ≤ k) : fa_fill f g i k = g k := if_neg (Nat.not_lt.mpr h)
theorem fa_fill_succ (f g : Nat → Int32) (i : Nat) : upd (fa_fill f g i) i (f i) = fa_fill f g (i + 1) := by
  funext k
  by_cases e : k = i
  · subst e
    rw [pk_us]
    exact (if_pos (Nat.lt_succ_self k)).symm
  · rw [pk_un e]
    by_cases h : k < i
    · rw [fa_fill_in h, fa_fill_in (Nat.lt_succ_of_lt h)]
    · rw [fa_fill_out (Nat.le_of_not_lt h), fa_fill_out (by omega)]
/-- a store that changes nothing -/
theorem fa_upd_same {f : Nat → Int32} {i : Nat} {x : Int32} (h : f i = x) : upd f i x = f := by
  funext k
  by_cases e : k = i
  · subst e
    rw [pk_us, h]
  · rw [pk_un e]
/-- a store under a condition, told as one -/
theorem fa_upd_if (c : Prop) [Decidable c] (f : Nat → Int32) (i : Nat) (x : Int32) : (if c then upd f i x else f) = upd f i (if c then x else f i) := by
  by_cases h : c
  · rw [if_pos h, if_pos h]
  · rw [if_neg h, if_neg h, fa_upd_same rfl]
/-- two stores at one place, at two -/
theorem fa_upd_twice (f : Nat → Int32) (i : Nat) (x y : Int32) : upd (upd f i x) i y = upd f i y := by
  funext k
  by_cases e : k = i
  · subst e
    rw [pk_us, pk_us]
  · rw [pk_un e, pk_un e, pk_un e]
theorem fa_upd_swap (f : Nat → Int32) {i j : Nat} (h : i ≠ j) (x y : Int32) : upd (upd f i x) j y = upd (upd f j y) i x := by
  funext k
  by_cases e : k = i
  · subst e
    rw [pk_un h, pk_us, pk_us]
  · by_cases e2 : k = j
    · subst e2
      rw [pk_us, pk_un e, pk_us]
    · rw [pk_un e2, pk_un e, pk_un e, pk_un e2]
/-! ===== the first index with a property; a count ===== -/
/-- the first k < n with p k, n if there is none -/
def fa_first (p : Nat → Bool) : Nat → Nat
  | 0 => 0
  | n + 1 => if fa_first p n < n then fa_first p n else if p n then n else n + 1
theorem fa_first_le (p : Nat → Bool) : ∀ n, fa_first p n ≤ n
  | 0 => Nat.le_refl 0
  | n + 1 => by
    have ih := fa_first_le p n
    unfold fa_first
    split
    · omega
    · split
      · omega
      · omega
theorem fa_first_no (p : Nat → Bool) : ∀ n k, k < fa_first p n → p k = false
  | 0, k, h => absurd h (Nat.not_lt_zero k)
  | n + 1, k, h => by
    have ih := fa_first_no p n
    have hl := fa_first_le p n
    unfold fa_first at h
    split at h
    · exact ih k h
    · rename_i h1
      split at h
      · exact ih k (by omega)
      · rename_i h2
        by_cases e : k = n
        · subst e
          exact Bool.eq_false_iff.mpr h2
        · exact ih k (by omega)
theorem fa_first_yes (p : Nat → Bool) : ∀ n, fa_first p n < n → p (fa_first p n) = true
  | 0, h => absurd h (Nat.not_lt_zero _)
  | n + 1, h => by
    have ih := fa_first_yes p n
    have hl := fa_first_le p n
    unfold fa_first at h ⊢
    split at h
    · rename_i h1
      rw [if_pos h1]
      exact ih h1
    · rename_i h1
      rw [if_neg h1]
      split at h
      · rename_i h2
        rw [if_pos h2]
        exact h2
      · omega
/-- how many k < n have p k -/
def fa_cnt (p : Nat → Bool) : Nat → Nat
  | 0 => 0
  | n + 1 => fa_cnt p n + if p n then 1 else 0
theorem fa_cnt_le (p : Nat → Bool) : ∀ n, fa_cnt p n ≤ n
  | 0 => Nat.le_refl 0
  | n + 1 => by
    have ih := fa_cnt_le p n
    unfold fa_cnt
    split
    · omega
    · omega
theorem fa_cnt_yes {p : Nat → Bool} {n : Nat} (h : p n = true) : fa_cnt p (n + 1) = fa_cnt p n + 1 := by rw [fa_cnt, if_pos h]
theorem fa_cnt_no {p : Nat → Bool} {n : Nat} (h : p n = false) : fa_cnt p (n + 1) = fa_cnt p n := by rw [fa_cnt, if_neg (by rw [h]; decide)]; rfl
theorem fa_cnt_cong {p q : Nat → Bool} : ∀ {n : Nat}, (∀ k, k < n → p k = q k) → fa_cnt p n = fa_cnt q n
  | 0, _ => rfl
  | n + 1, h => by rw [fa_cnt, fa_cnt, fa_cnt_cong (fun k hk => h k (Nat.lt_succ_of_lt hk)), h n (Nat.lt_succ_self n)]
/-! ===== an answer carried into a post; a branch on a boolean answer ===== -/
theorem fa_post {α : Type} {P : α → Prop} {x y : α} (h : x = y) (hp : P y) : P x := h ▸ hp
theorem fa_post2 {α β : Type} {P : α → β → Prop} {x y : α} {u v : β} (h : x = y) (h2 : u = v) (hp : P y v) : P x u := h ▸ h2 ▸ hp
theorem fa_bool {r : Int32} {b : Bool} (h : r = if b then 1 else 0) : (r = 0 ↔ b = false) ∧ (¬ r = 0 ↔ b = true) := by
  subst h
  cases b
  · exact ⟨⟨fun _ => rfl, fun _ => rfl⟩, ⟨fun h => absurd rfl h, fun h => absurd h (by decide)⟩⟩
  · exact ⟨⟨fun h => absurd h (by decide), fun h => absurd h (by decide)⟩, ⟨fun _ => rfl, fun _ => by decide⟩⟩
/-- a boolean's narrowing changes nothing -/
theorem fa_bool_and {r : Int32} (h : r = 0 ∨ r = 1) : r &&& 1 = r := by
  rcases h with rfl | rfl
  · decide
  · decide
theorem fa_bool_prop {c : Prop} [Decidable c] {r : Int32} (h : r = if c then 1 else 0) : (r = 0 ↔ ¬ c) ∧ (¬ r = 0 ↔ c) := by
  subst h
  by_cases hc : c
  · rw [if_pos hc]
    exact ⟨⟨fun h => absurd h (by decide), fun h => absurd hc h⟩, ⟨fun _ => hc, fun _ => by decide⟩⟩
  · rw [if_neg hc]
    exact ⟨⟨fun _ => hc, fun _ => rfl⟩, ⟨fun h => absurd rfl h, fun h => absurd h hc⟩⟩
end
section
/-! plain facts to paste, each family by itself; over the kit's nI, lN and upd -/
/-! ===== drawers: more things than places ===== -/
theorem fb_holes : ∀ (m n : Nat) (f : Nat → Nat), (∀ i, i < n → f i < m) → (∀ i j, i < j → j < n → f i ≠ f j) → n ≤ m := by
  intro m
  induction m with
  | zero =>
    intro n f h1 _
    rcases Nat.eq_zero_or_pos n with h | h
    · omega
    · exact absurd (h1 0 h) (Nat.not_lt_zero _)
  | succ m ih =>
    intro n f h1 h2
    by_cases hx : ∃ i, i < n ∧ f i = m
    · obtain ⟨a, ha, hfa⟩ := hx
      have hg := ih (n - 1) (fun i => if i < a then f i else f (i + 1)) (by
        intro i hi
        by_cases q : i < a
        · simp only [if_pos q]
          have b1 := h1 i (by omega)
          have b2 := h2 i a q ha
          omega
        · simp only [if_neg q]
          have b1 := h1 (i + 1) (by omega)
          have b2 := h2 a (i + 1) (by omega) (by omega)
          omega) (by
        intro i j hij hj
        by_cases q : i < a
        · by_cases r : j < a
          · simp only [if_pos q, if_pos r]
            exact h2 i j hij (by omega)
          · simp only [if_pos q, if_neg r]
            exact h2 i (j + 1) (by omega) (by omega)
        · have r : ¬ j < a := by omega
          simp only [if_neg q, if_neg r]
          exact h2 (i + 1) (j + 1) (by omega) (by omega))
      omega
    · have hg := ih n f (fun i hi => by
        have b1 := h1 i hi
        have b2 : f i ≠ m := fun e => hx ⟨i, hi, e⟩
        omega) h2
      omega
/-- two of them in one place -/
theorem fb_twice {m n : Nat} {f : Nat → Nat} (h : ∀ i, i < n → f i < m) (hm : m < n) : ∃ i j, i < j ∧ j < n ∧ f i = f j := by
  refine Classical.byContradiction fun hx => ?_
  have := fb_holes m n f h (fun i j hij hj e => hx ⟨i, j, hij, hj, e⟩)
  omega
/-- as many as places, none twice: each place is taken -/
theorem fb_onto {n : Nat} {f : Nat → Nat} (h : ∀ i, i < n → f i < n) (h2 : ∀ i j, i < j → j < n → f i ≠ f j) {y : Nat} (hy : y < n) : ∃ i, i < n ∧ f i = y := by
  refine Classical.byContradiction fun hx => ?_
  have hne : ∀ i, i < n → f i ≠ y := fun i hi e => hx ⟨i, hi, e⟩
  have := fb_holes (n - 1) n (fun i => if f i < y then f i else f i - 1) (by
    intro i hi
    have b1 := h i hi
    have b2 := hne i hi
    by_cases q : f i < y
    · simp only [if_pos q]; omega
    · simp only [if_neg q]; omega) (by
    intro i j hij hj
    have b1 := hne i (by omega)
    have b2 := hne j hj
    have b3 := h2 i j hij hj
    by_cases q : f i < y
    · by_cases r : f j < y
      · simp only [if_pos q, if_pos r]; exact b3
      · simp only [if_pos q, if_neg r]; omega
    · by_cases r : f j < y
      · simp only [if_neg q, if_pos r]; omega
      · simp only [if_neg q, if_neg r]; omega)
  omega
/-! ===== how many places have a property ===== -/
def fb_ct (p : Nat → Bool) : Nat → Nat
  | 0 => 0
  | n + 1 => fb_ct p n + (if p n then 1 else 0)
theorem fb_ct_succ (p : Nat → Bool) (n : Nat) : fb_ct p (n + 1) = fb_ct p n + (if p n then 1 else 0) := rfl
theorem fb_ct_le (p : Nat → Bool) : ∀ n, fb_ct p n ≤ n
  | 0 => Nat.le_refl _
  | n + 1 => by
    have h := fb_ct_le p n
    rw [fb_ct_succ]
    split <;> omega
theorem fb_ct_step (p : Nat → Bool) (m : Nat) : ∀ n, fb_ct p m ≤ fb_ct p (m + n)
  | 0 => Nat.le_refl _
  | n + 1 => by
    have h := fb_ct_step p m n
    show fb_ct p m ≤ fb_ct p (m + n + 1)
    rw [fb_ct_succ]
    omega
theorem fb_ct_mono (p : Nat → Bool) {m n : Nat} (h : m ≤ n) : fb_ct p m ≤ fb_ct p n := by
  have := fb_ct_step p m (n - m)
  rwa [Nat.add_sub_cancel' h] at this
theorem fb_ct_cong {p q : Nat → Bool} : ∀ {n : Nat}, (∀ k, k < n → p k = q k) → fb_ct p n = fb_ct q n
  | 0, _ => rfl
  | n + 1, h => by
    rw [fb_ct_succ, fb_ct_succ, fb_ct_cong (fun k hk => h k (by omega)), h n (by omega)]
/-- one place changed -/
theorem fb_ct_out (p : Nat → Bool) (b : Bool) {i n : Nat} (h : n ≤ i) : fb_ct (fun k => if k = i then b else p k) n = fb_ct p n :=
  fb_ct_cong fun k hk => if_neg (by omega)
theorem fb_ct_upd (p : Nat → Bool) (b : Bool) {i : Nat} : ∀ {n : Nat}, i < n → fb_ct (fun k => if k = i then b else p k) n + (if p i then 1 else 0) = fb_ct p n + (if b then 1 else 0)
  | 0, h => absurd h (Nat.not_lt_zero i)
  | n + 1, h => by
    rw [fb_ct_succ, fb_ct_succ]
    rcases Nat.lt_or_ge i n with q | q
    · have := fb_ct_upd p b q
      have e : (if n = i then b else p n) = p n := if_neg (by omega)
      rw [e]
      omega
    · have e : i = n := by omega
      subst e
      rw [fb_ct_out p b (Nat.le_refl _)]
      simp only [if_true]
      omega
theorem fb_ct_sub {p q : Nat → Bool} : ∀ {n : Nat}, (∀ k, k < n → p k = true → q k = true) → fb_ct p n ≤ fb_ct q n
  | 0, _ => Nat.le_refl _
  | n + 1, h => by
    have h1 := fb_ct_sub (n := n) (p := p) (q := q) (fun k hk => h k (by omega))
    have h2 := h n (by omega)
    rw [fb_ct_succ, fb_ct_succ]
    cases hp : p n <;> cases hq : q n <;> simp_all <;> omega
theorem fb_ct_or {p q : Nat → Bool} : ∀ {n : Nat}, (∀ k, k < n → ¬ (p k = true ∧ q k = true)) → fb_ct (fun k => p k || q k) n = fb_ct p n + fb_ct q n
  | 0, _ => rfl
  | n + 1, h => by
    have h1 := fb_ct_or (n := n) (p := p) (q := q) (fun k hk => h k (by omega))
    have h2 := h n (by omega)
    rw [fb_ct_succ, fb_ct_succ, fb_ct_succ, h1]
    cases hp : p n <;> cases hq : q n <;> simp_all <;> omega
theorem fb_ct_not (p : Nat → Bool) : ∀ n, fb_ct p n + fb_ct (fun k => !p k) n = n
  | 0 => rfl
  | n + 1 => by
    have h := fb_ct_not p n
    rw [fb_ct_succ, fb_ct_succ]
    cases p n <;> simp <;> omega
theorem fb_ct_split (p : Nat → Bool) (m : Nat) : ∀ n, fb_ct p (m + n) = fb_ct p m + fb_ct (fun k => p (m + k)) n
  | 0 => rfl
  | n + 1 => by
    have h := fb_ct_split p m n
    show fb_ct p (m + n + 1) = _
    rw [fb_ct_succ, fb_ct_succ, h, Nat.add_assoc]
theorem fb_ct_zero {p : Nat → Bool} : ∀ {n : Nat}, fb_ct p n = 0 ↔ ∀ k, k < n → p k = false
  | 0 => ⟨fun _ k hk => absurd hk (Nat.not_lt_zero k), fun _ => rfl⟩
  | n + 1 => by
    have h := fb_ct_zero (p := p) (n := n)
    rw [fb_ct_succ]
    constructor
    · intro e k hk
      have e1 : fb_ct p n = 0 := by omega
      rcases Nat.lt_or_ge k n with q | q
      · exact h.mp e1 k q
      · have ek : k = n := by omega
        subst ek
        cases hp : p k
        · rfl
        · simp [hp] at e
    · intro a
      rw [h.mpr (fun k hk => a k (by omega)), a n (by omega)]
      rfl
theorem fb_ct_pos {p : Nat → Bool} {n : Nat} : 0 < fb_ct p n ↔ ∃ k, k < n ∧ p k = true := by
  constructor
  · intro h
    refine Classical.byContradiction fun hx => ?_
    have := fb_ct_zero.mpr (fun k hk => by
      cases hp : p k
      · rfl
      · exact absurd ⟨k, hk, hp⟩ hx : ∀ k, k < n → p k = false)
    omega
  · rintro ⟨k, hk, hp⟩
    rcases Nat.eq_zero_or_pos (fb_ct p n) with e | e
    · have := fb_ct_zero.mp e k hk
      rw [this] at hp
      cases hp
    · exact e
theorem fb_ct_all {p : Nat → Bool} {n : Nat} : fb_ct p n = n ↔ ∀ k, k < n → p k = true := by
  have h := fb_ct_not p n
  constructor
  · intro e k hk
    have z : fb_ct (fun k => !p k) n = 0 := by omega
    have := fb_ct_zero.mp z k hk
    cases hp : p k
    · simp [hp] at this
    · rfl
  · intro a
    have z : fb_ct (fun k => !p k) n = 0 := fb_ct_zero.mpr (fun k hk => by simp [a k hk])
    omega
/-- the k-th place with the property -/
theorem fb_ct_kth {p : Nat → Bool} {k : Nat} : ∀ {n : Nat}, k < fb_ct p n → ∃ i, i < n ∧ p i = true ∧ fb_ct p i = k
  | 0, h => absurd h (Nat.not_lt_zero k)
  | n + 1, h => by
    rcases Nat.lt_or_ge k (fb_ct p n) with q | q
    · obtain ⟨i, h1, h2⟩ := fb_ct_kth q
      exact ⟨i, by omega, h2⟩
    · rw [fb_ct_succ] at h
      cases hp : p n
      · simp [hp] at h; omega
      · simp [hp] at h
        exact ⟨n, by omega, hp, by omega⟩
theorem fb_ct_kth_one {p : Nat → Bool} {i j : Nat} (hi : p i = true) (hj : p j = true) (e : fb_ct p i = fb_ct p j) : i = j := by
  have key : ∀ a b : Nat, a < b → p a = true → fb_ct p a < fb_ct p b := by
    intro a b hab ha
    have h := fb_ct_mono p (show a + 1 ≤ b from hab)
    rw [fb_ct_succ, ha] at h
    simp at h
    omega
  rcases Nat.lt_trichotomy i j with q | q | q
  · have := key i j q hi; omega
  · exact q
  · have := key j i q hj; omega
/-! ===== sums over a range: one place changed, parts, bounds ===== -/
def fb_sm (f : Nat → Nat) : Nat → Nat
  | 0 => 0
  | n + 1 => fb_sm f n + f n
theorem fb_sm_succ (f : Nat → Nat) (n : Nat) : fb_sm f (n + 1) = fb_sm f n + f n := rfl
theorem fb_sm_cong {f g : Nat → Nat} : ∀ {n : Nat}, (∀ k, k < n → f k = g k) → fb_sm f n = fb_sm g n
  | 0, _ => rfl
  | n + 1, h => by rw [fb_sm_succ, fb_sm_succ, fb_sm_cong (fun k hk => h k (by omega)), h n (by omega)]
theorem fb_sm_out (f : Nat → Nat) (v : Nat) {i n : Nat} (h : n ≤ i) : fb_sm (fun k => if k = i then v else f k) n = fb_sm f n :=
  fb_sm_cong fun k hk => if_neg (by omega)
theorem fb_sm_upd (f : Nat → Nat) (v : Nat) {i : Nat} : ∀ {n : Nat}, i < n → fb_sm (fun k => if k = i then v else f k) n + f i = fb_sm f n + v
  | 0, h => absurd h (Nat.not_lt_zero i)
  | n + 1, h => by
    rw [fb_sm_succ, fb_sm_succ]
    rcases Nat.lt_or_ge i n with q | q
    · have := fb_sm_upd f v q
      have e : (if n = i then v else f n) = f n := if_neg (by omega)
      rw [e]
      omega
    · have e : i = n := by omega
      subst e
      rw [fb_sm_out f v (Nat.le_refl _)]
      simp only [if_true]
      omega
theorem fb_sm_add (f g : Nat → Nat) : ∀ n, fb_sm (fun k => f k + g k) n = fb_sm f n + fb_sm g n
  | 0 => rfl
  | n + 1 => by
    have h := fb_sm_add f g n
    rw [fb_sm_succ, fb_sm_succ, fb_sm_succ, h]
    omega
theorem fb_sm_le {f g : Nat → Nat} : ∀ {n : Nat}, (∀ k, k < n → f k ≤ g k) → fb_sm f n ≤ fb_sm g n
  | 0, _ => Nat.le_refl _
  | n + 1, h => by
    have h1 := fb_sm_le (n := n) (f := f) (g := g) (fun k hk => h k (by omega))
    have h2 := h n (by omega)
    rw [fb_sm_succ, fb_sm_succ]
    omega
theorem fb_sm_const (c : Nat) : ∀ n, fb_sm (fun _ => c) n = n * c
  | 0 => by rw [Nat.zero_mul]; rfl
  | n + 1 => by rw [fb_sm_succ, fb_sm_const c n, Nat.succ_mul]
theorem fb_sm_bound {f : Nat → Nat} {c n : Nat} (h : ∀ k, k < n → f k ≤ c) : fb_sm f n ≤ n * c := by
  rw [← fb_sm_const c n]
  exact fb_sm_le h
theorem fb_sm_mono (f : Nat → Nat) (m : Nat) : ∀ n, fb_sm f m ≤ fb_sm f (m + n)
  | 0 => Nat.le_refl _
  | n + 1 => by
    have h := fb_sm_mono f m n
    show fb_sm f m ≤ fb_sm f (m + n + 1)
    rw [fb_sm_succ]
    omega
theorem fb_sm_part (f : Nat → Nat) {i n : Nat} (h : i < n) : fb_sm f i + f i ≤ fb_sm f n := by
  have := fb_sm_mono f (i + 1) (n - (i + 1))
  rw [fb_sm_succ, show i + 1 + (n - (i + 1)) = n by omega] at this
  exact this
theorem fb_sm_split (f : Nat → Nat) (m : Nat) : ∀ n, fb_sm f (m + n) = fb_sm f m + fb_sm (fun k => f (m + k)) n
  | 0 => rfl
  | n + 1 => by
    have h := fb_sm_split f m n
    show fb_sm f (m + n + 1) = _
    rw [fb_sm_succ, fb_sm_succ, h, Nat.add_assoc]
theorem fb_sm_zero {f : Nat → Nat} {n : Nat} (h : fb_sm f n = 0) : ∀ k, k < n → f k = 0 := fun k hk => by
  have := fb_sm_part f hk
  omega
/-- the same over whole numbers -/
def fb_si (f : Nat → Int) : Nat → Int
  | 0 => 0
  | n + 1 => fb_si f n + f n
theorem fb_si_succ (f : Nat → Int) (n : Nat) : fb_si f (n + 1) = fb_si f n + f n := rfl
theorem fb_si_cong {f g : Nat → Int} : ∀ {n : Nat}, (∀ k, k < n → f k = g k) → fb_si f n = fb_si g n
  | 0, _ => rfl
  | n + 1, h => by rw [fb_si_succ, fb_si_succ, fb_si_cong (fun k hk => h k (by omega)), h n (by omega)]
theorem fb_si_out (f : Nat → Int) (v : Int) {i n : Nat} (h : n ≤ i) : fb_si (fun k => if k = i then v else f k) n = fb_si f n :=
  fb_si_cong fun k hk => if_neg (by omega)
theorem fb_si_upd (f : Nat → Int) (v : Int) {i : Nat} : ∀ {n : Nat}, i < n → fb_si (fun k => if k = i then v else f k) n = fb_si f n - f i + v
  | 0, h => absurd h (Nat.not_lt_zero i)
  | n + 1, h => by
    rw [fb_si_succ, fb_si_succ]
    rcases Nat.lt_or_ge i n with q | q
    · have := fb_si_upd f v q
      have e : (if n = i then v else f n) = f n := if_neg (by omega)
      rw [e]
      omega
    · have e : i = n := by omega
      subst e
      rw [fb_si_out f v (Nat.le_refl _)]
      simp only [if_true]
      omega
theorem fb_si_add (f g : Nat → Int) : ∀ n, fb_si (fun k => f k + g k) n = fb_si f n + fb_si g n
  | 0 => rfl
  | n + 1 => by
    have h := fb_si_add f g n
    rw [fb_si_succ, fb_si_succ, fb_si_succ, h]
    omega
theorem fb_si_sub (f g : Nat → Int) : ∀ n, fb_si (fun k => f k - g k) n = fb_si f n - fb_si g n
  | 0 => rfl
  | n + 1 => by
    have h := fb_si_sub f g n
    rw [fb_si_succ, fb_si_succ, fb_si_succ, h]
    omega
theorem fb_si_mul (c : Int) (f : Nat → Int) : ∀ n, fb_si (fun k => c * f k) n = c * fb_si f n
  | 0 => (Int.mul_zero c).symm
  | n + 1 => by
    have h := fb_si_mul c f n
    rw [fb_si_succ, fb_si_succ, h, Int.mul_add]
theorem fb_si_split (f : Nat → Int) (m : Nat) : ∀ n, fb_si f (m + n) = fb_si f m + fb_si (fun k => f (m + k)) n
  | 0 => (Int.add_zero _).symm
  | n + 1 => by
    have h := fb_si_split f m n
    show fb_si f (m + n + 1) = _
    rw [fb_si_succ, fb_si_succ, h, Int.add_assoc]
theorem fb_si_nat (f : Nat → Nat) : ∀ n, fb_si (fun k => (f k : Int)) n = (fb_sm f n : Int)
  | 0 => rfl
  | n + 1 => by
    have h := fb_si_nat f n
    rw [fb_si_succ, fb_sm_succ, h]
    omega
theorem fb_si_bound {f : Nat → Int} {c : Int} (hc : 0 ≤ c) : ∀ {n : Nat}, (∀ k, k < n → -c ≤ f k ∧ f k ≤ c) → -(n * c) ≤ fb_si f n ∧ fb_si f n ≤ n * c
  | 0, _ => by simp [fb_si]
  | n + 1, h => by
    have h1 := fb_si_bound (n := n) (f := f) hc (fun k hk => h k (by omega))
    have h2 := h n (by omega)
    have e : ((n + 1 : Nat) : Int) * c = n * c + c := by rw [Int.natCast_add, Int.add_mul]; simp
    rw [fb_si_succ, e]
    omega
/-! ===== bits of a long that isn't negative ===== -/
theorem fb_andL (a b : Nat) : lN a &&& lN b = lN (a &&& b) := by
  apply Int64.toBitVec_inj.1
  show BitVec.ofNat 64 a &&& BitVec.ofNat 64 b = BitVec.ofNat 64 (a &&& b)
  apply BitVec.eq_of_getLsbD_eq
  intro i hi
  simp [hi]
theorem fb_orL (a b : Nat) : lN a ||| lN b = lN (a ||| b) := by
  apply Int64.toBitVec_inj.1
  show BitVec.ofNat 64 a ||| BitVec.ofNat 64 b = BitVec.ofNat 64 (a ||| b)
  apply BitVec.eq_of_getLsbD_eq
  intro i hi
  simp [hi]
theorem fb_xorL (a b : Nat) : lN a ^^^ lN b = lN (a ^^^ b) := by
  apply Int64.toBitVec_inj.1
  show BitVec.ofNat 64 a ^^^ BitVec.ofNat 64 b = BitVec.ofNat 64 (a ^^^ b)
  apply BitVec.eq_of_getLsbD_eq
  intro i hi
  simp [hi]
theorem fb_xorI (a b : Nat) : nI a ^^^ nI b = nI (a ^^^ b) := by
  apply Int32.toBitVec_inj.1
  show BitVec.ofNat 32 a ^^^ BitVec.ofNat 32 b = BitVec.ofNat 32 (a ^^^ b)
  apply BitVec.eq_of_getLsbD_eq
  intro i hi
  simp [hi]
theorem fb_maskL (n k : Nat) : lN n &&& lN (2 ^ k - 1) = lN (n % 2 ^ k) := by rw [fb_andL, Nat.and_two_pow_sub_one_eq_mod]
theorem fb_or_sumL {a k : Nat} (b : Nat) (h : a < 2 ^ k) : lN (2 ^ k * b) ||| lN a = lN (2 ^ k * b + a) := by rw [fb_orL, Nat.two_pow_add_eq_or_of_lt h]
theorem fb_lN_inj {a b : Nat} (ha : a < 2 ^ 63) (hb : b < 2 ^ 63) : lN a = lN b ↔ a = b := by
  constructor
  · intro h
    have h1 : (BitVec.ofNat 64 a).toNat = (BitVec.ofNat 64 b).toNat := congrArg (fun x : Int64 => x.toBitVec.toNat) h
    rw [BitVec.toNat_ofNat, BitVec.toNat_ofNat, Nat.mod_eq_of_lt (by omega), Nat.mod_eq_of_lt (by omega)] at h1
    exact h1
  · rintro rfl; rfl
theorem fb_bit_nat (n j : Nat) : n &&& 2 ^ j = 0 ↔ n.testBit j = false := by
  constructor
  · intro h
    have h1 : (n &&& 2 ^ j).testBit j = false := by rw [h]; simp
    rw [Nat.testBit_and] at h1
    simpa using h1
  · intro h
    apply Nat.eq_of_testBit_eq
    intro i
    rw [Nat.testBit_and]
    by_cases hi : j = i
    · subst hi; simp [h]
    · first | (simp [Nat.testBit_two_pow, hi]; done) | (simp [Nat.testBit_two_pow_of_ne hi]; done)
/-- one bit of a long -/
theorem fb_bitL {n j : Nat} (hj : j < 63) : lN n &&& lN (2 ^ j) = 0 ↔ n.testBit j = false := by
  have h2 : (2 : Nat) ^ j < 2 ^ 63 := Nat.pow_lt_pow_right (by decide) hj
  have hle : n &&& 2 ^ j ≤ 2 ^ j := Nat.and_le_right
  rw [fb_andL, ← fb_bit_nat, show (0 : Int64) = lN 0 from rfl]
  exact fb_lN_inj (by omega) (by decide)
/-- a bit set, a bit taken off -/
theorem fb_bit_set (n j i : Nat) : (n ||| 2 ^ j).testBit i = (n.testBit i || decide (i = j)) := by
  rw [Nat.testBit_or]
  by_cases h : j = i
  · subst h; simp
  · have h2 : ¬ i = j := fun e => h e.symm
    first | (simp [Nat.testBit_two_pow, h, h2]; done) | (simp [Nat.testBit_two_pow_of_ne h, h2]; done)
theorem fb_bit_flip (n j i : Nat) : (n ^^^ 2 ^ j).testBit i = (n.testBit i ^^ decide (i = j)) := by
  rw [Nat.testBit_xor]
  by_cases h : j = i
  · subst h; simp
  · have h2 : ¬ i = j := fun e => h e.symm
    first | (simp [Nat.testBit_two_pow, h, h2]; done) | (simp [Nat.testBit_two_pow_of_ne h, h2]; done)
/-! ===== a stretch of an array written over by a function ===== -/
def fb_put {α : Type} (f g : Nat → α) (a n : Nat) : Nat → α := fun k => if a ≤ k ∧ k < a + n then g (k - a) else f k
theorem fb_put_0 {α : Type} (f g : Nat → α) (a : Nat) : fb_put f g a 0 = f := funext fun k => if_neg (by omega)
theorem fb_put_in {α : Type} {f g : Nat → α} {a n k : Nat} (h1 : a ≤ k) (h2 : k < a + n) : fb_put f g a n k = g (k - a) := if_pos ⟨h1, h2⟩
theorem fb_put_out {α : Type} {f g : Nat → α} {a n k : Nat} (h : k < a ∨ a + n ≤ k) : fb_put f g a n k = f k := if_neg (by omega)
theorem fb_put_succ (f g : Nat → Int32) (a n : Nat) : upd (fb_put f g a n) (a + n) (g n) = fb_put f g a (n + 1) := by
  funext k
  by_cases h : k = a + n
  · subst h
    simp [upd, fb_put]
  · by_cases h1 : a ≤ k ∧ k < a + n
    · have h2 : a ≤ k ∧ k < a + (n + 1) := by omega
      simp only [upd, fb_put, if_neg h, if_pos h1, if_pos h2]
    · have h2 : ¬ (a ≤ k ∧ k < a + (n + 1)) := by omega
      simp only [upd, fb_put, if_neg h, if_neg h1, if_neg h2]
/-- .. from the far end down -/
theorem fb_put_down (f g : Nat → Int32) {a n m : Nat} (h : m < n) : upd (fb_put f (fun k => g (k + (m + 1))) (a + (m + 1)) (n - (m + 1))) (a + m) (g m) = fb_put f (fun k => g (k + m)) (a + m) (n - m) := by
  funext k
  by_cases h0 : k = a + m
  · subst h0
    simp only [upd, if_true]
    rw [fb_put_in (by omega) (by omega)]
    exact congrArg g (by omega)
  · simp only [upd, if_neg h0]
    by_cases h1 : a + (m + 1) ≤ k ∧ k < a + (m + 1) + (n - (m + 1))
    · rw [fb_put_in h1.1 h1.2, fb_put_in (by omega) (by omega)]
      exact congrArg g (by omega)
    · rw [fb_put_out (by omega), fb_put_out (by omega)]
theorem fb_put_cong {α : Type} {f f2 g g2 : Nat → α} {a n : Nat} (hf : ∀ k, (k < a ∨ a + n ≤ k) → f k = f2 k) (hg : ∀ k, k < n → g k = g2 k) : fb_put f g a n = fb_put f2 g2 a n := by
  funext k
  by_cases h : a ≤ k ∧ k < a + n
  · rw [fb_put_in h.1 h.2, fb_put_in h.1 h.2, hg _ (by omega)]
  · rw [fb_put_out (by omega), fb_put_out (by omega), hf _ (by omega)]
/-! ===== the least, the first, the best so far; that there is one alone ===== -/
theorem fb_first {p : Nat → Prop} [DecidablePred p] : ∀ {n : Nat}, (∃ i, i < n ∧ p i) → ∃ i, i < n ∧ p i ∧ ∀ j, j < i → ¬ p j
  | 0, h => by obtain ⟨i, hi, -⟩ := h; exact absurd hi (Nat.not_lt_zero i)
  | n + 1, h => by
    by_cases q : ∃ i, i < n ∧ p i
    · obtain ⟨i, h1, h2⟩ := fb_first q
      exact ⟨i, by omega, h2⟩
    · obtain ⟨i, h1, h2⟩ := h
      have e : i = n := by
        rcases Nat.lt_or_ge i n with r | r
        · exact absurd ⟨i, r, h2⟩ q
        · omega
      subst e
      exact ⟨i, by omega, h2, fun j hj hp => q ⟨j, hj, hp⟩⟩
theorem fb_first_one {p : Nat → Prop} {i j : Nat} (hi : p i) (hi2 : ∀ k, k < i → ¬ p k) (hj : p j) (hj2 : ∀ k, k < j → ¬ p k) : i = j := by
  rcases Nat.lt_trichotomy i j with q | q | q
  · exact absurd hi (hj2 i q)
  · exact q
  · exact absurd hj (hi2 j q)
theorem fb_last {p : Nat → Prop} [DecidablePred p] : ∀ {n : Nat}, (∃ i, i < n ∧ p i) → ∃ i, i < n ∧ p i ∧ ∀ j, i < j → j < n → ¬ p j
  | 0, h => by obtain ⟨i, hi, -⟩ := h; exact absurd hi (Nat.not_lt_zero i)
  | n + 1, h => by
    by_cases q : p n
    · exact ⟨n, by omega, q, fun j h1 h2 => by omega⟩
    · obtain ⟨i, h1, h2⟩ := h
      have hi : i < n := by
        rcases Nat.lt_or_ge i n with r | r
        · exact r
        · have e : i = n := by omega
          subst e
          exact absurd h2 q
      obtain ⟨i2, a1, a2, a3⟩ := fb_last (n := n) ⟨i, hi, h2⟩
      refine ⟨i2, by omega, a2, fun j b1 b2 => ?_⟩
      rcases Nat.lt_or_ge j n with r | r
      · exact a3 j b1 r
      · have e : j = n := by omega
        subst e
        exact q
/-- the first greatest -/
theorem fb_best (f : Nat → Int) : ∀ {n : Nat}, 0 < n → ∃ i, i < n ∧ (∀ j, j < n → f j ≤ f i) ∧ ∀ j, j < i → f j < f i
  | 0, h => absurd h (Nat.lt_irrefl 0)
  | 1, _ => ⟨0, by omega, fun j hj => by have e : j = 0 := by omega
                                         subst e; exact Int.le_refl _, fun j hj => absurd hj (Nat.not_lt_zero j)⟩
  | n + 2, _ => by
    obtain ⟨i, h1, h2, h3⟩ := fb_best f (n := n + 1) (by omega)
    by_cases q : f i < f (n + 1)
    · refine ⟨n + 1, by omega, fun j hj => ?_, fun j hj => ?_⟩
      · rcases Nat.lt_or_ge j (n + 1) with r | r
        · have := h2 j r; omega
        · have e : j = n + 1 := by omega
          subst e; exact Int.le_refl _
      · have := h2 j hj; omega
    · refine ⟨i, by omega, fun j hj => ?_, h3⟩
      rcases Nat.lt_or_ge j (n + 1) with r | r
      · exact h2 j r
      · have e : j = n + 1 := by omega
        subst e; omega
theorem fb_best_one {f : Nat → Int} {n i j : Nat} (hi : i < n) (hi2 : ∀ k, k < n → f k ≤ f i) (hi3 : ∀ k, k < i → f k < f i) (hj : j < n) (hj2 : ∀ k, k < n → f k ≤ f j) (hj3 : ∀ k, k < j → f k < f j) : i = j := by
  rcases Nat.lt_trichotomy i j with q | q | q
  · have a := hj3 i q
    have b := hi2 j hj
    omega
  · exact q
  · have a := hi3 j q
    have b := hj2 i hi
    omega
/-- the first least -/
theorem fb_low (f : Nat → Int) {n : Nat} (h : 0 < n) : ∃ i, i < n ∧ (∀ j, j < n → f i ≤ f j) ∧ ∀ j, j < i → f i < f j := by
  obtain ⟨i, h1, h2, h3⟩ := fb_best (fun k => -f k) h
  exact ⟨i, h1, fun j hj => by have := h2 j hj; omega, fun j hj => by have := h3 j hj; omega⟩
/-! ===== signed ints as whole numbers, within bounds ===== -/
theorem fb_rng (x : Int32) : -2147483648 ≤ x.toInt ∧ x.toInt < 2147483648 := by
  have h1 := Int32.le_toInt x
  have h2 := Int32.toInt_lt x
  omega
theorem fb_bmod {z : Int} (h1 : -2147483648 ≤ z) (h2 : z < 2147483648) : z.bmod (2 ^ 32) = z := by
  rw [Int.bmod_eq_of_le (by omega) (by omega)]
theorem fb_addI {x y : Int32} (h1 : -2147483648 ≤ x.toInt + y.toInt) (h2 : x.toInt + y.toInt < 2147483648) : (x + y).toInt = x.toInt + y.toInt := by
  rw [Int32.toInt_add, fb_bmod h1 h2]
theorem fb_subI {x y : Int32} (h1 : -2147483648 ≤ x.toInt - y.toInt) (h2 : x.toInt - y.toInt < 2147483648) : (x - y).toInt = x.toInt - y.toInt := by
  rw [Int32.toInt_sub, fb_bmod h1 h2]
theorem fb_mulI {x y : Int32} (h1 : -2147483648 ≤ x.toInt * y.toInt) (h2 : x.toInt * y.toInt < 2147483648) : (x * y).toInt = x.toInt * y.toInt := by
  rw [Int32.toInt_mul, fb_bmod h1 h2]
theorem fb_negI {x : Int32} (h : x.toInt ≠ -2147483648) : (-x).toInt = -x.toInt := by
  have := fb_rng x
  rw [Int32.toInt_neg, fb_bmod (by omega) (by omega)]
theorem fb_ofI {z : Int} (h1 : -2147483648 ≤ z) (h2 : z < 2147483648) : (Int32.ofInt z).toInt = z := by
  rw [Int32.toInt_ofInt, fb_bmod h1 h2]
theorem fb_asI (x : Int32) : Int32.ofInt x.toInt = x := Int32.ofInt_toInt x
theorem fb_rngL (x : Int64) : -9223372036854775808 ≤ x.toInt ∧ x.toInt < 9223372036854775808 := by
  have h1 := Int64.le_toInt x
  have h2 := Int64.toInt_lt x
  omega
theorem fb_bmodL {z : Int} (h1 : -9223372036854775808 ≤ z) (h2 : z < 9223372036854775808) : z.bmod (2 ^ 64) = z := by
  rw [Int.bmod_eq_of_le (by omega) (by omega)]
theorem fb_addL {x y : Int64} (h1 : -9223372036854775808 ≤ x.toInt + y.toInt) (h2 : x.toInt + y.toInt < 9223372036854775808) : (x + y).toInt = x.toInt + y.toInt := by
  rw [Int64.toInt_add, fb_bmodL h1 h2]
theorem fb_subL {x y : Int64} (h1 : -9223372036854775808 ≤ x.toInt - y.toInt) (h2 : x.toInt - y.toInt < 9223372036854775808) : (x - y).toInt = x.toInt - y.toInt := by
  rw [Int64.toInt_sub, fb_bmodL h1 h2]
theorem fb_mulL {x y : Int64} (h1 : -9223372036854775808 ≤ x.toInt * y.toInt) (h2 : x.toInt * y.toInt < 9223372036854775808) : (x * y).toInt = x.toInt * y.toInt := by
  rw [Int64.toInt_mul, fb_bmodL h1 h2]
/-! ===== cuts of what is narrow already ===== -/
theorem fb_byte {x : Int32} (h1 : -128 ≤ x.toInt) (h2 : x.toInt < 128) : x.toInt8.toInt32 = x := by
  apply Int32.toInt_inj.1
  rw [Int8.toInt_toInt32, Int32.toInt_toInt8, Int.bmod_eq_of_le (by omega) (by omega)]
theorem fb_short {x : Int32} (h1 : -32768 ≤ x.toInt) (h2 : x.toInt < 32768) : x.toInt16.toInt32 = x := by
  apply Int32.toInt_inj.1
  rw [Int16.toInt_toInt32, Int32.toInt_toInt16, Int.bmod_eq_of_le (by omega) (by omega)]
theorem fb_byte_rng (x : Int32) : -128 ≤ x.toInt8.toInt32.toInt ∧ x.toInt8.toInt32.toInt < 128 := by
  rw [Int8.toInt_toInt32]
  have h1 := Int8.le_toInt x.toInt8
  have h2 := Int8.toInt_lt x.toInt8
  omega
theorem fb_short_rng (x : Int32) : -32768 ≤ x.toInt16.toInt32.toInt ∧ x.toInt16.toInt32.toInt < 32768 := by
  rw [Int16.toInt_toInt32]
  have h1 := Int16.le_toInt x.toInt16
  have h2 := Int16.toInt_lt x.toInt16
  omega
theorem fb_byte_twice (x : Int32) : x.toInt8.toInt32.toInt8.toInt32 = x.toInt8.toInt32 := fb_byte (fb_byte_rng x).1 (fb_byte_rng x).2
theorem fb_short_twice (x : Int32) : x.toInt16.toInt32.toInt16.toInt32 = x.toInt16.toInt32 := fb_short (fb_short_rng x).1 (fb_short_rng x).2
theorem fb_char {n : Nat} (h : n < 65536) : (nI n).toUInt32.toUInt16.toUInt32.toInt32 = nI n := by
  apply Int32.toBitVec_inj.1
  apply BitVec.eq_of_toNat_eq
  have e1 : (nI n).toBitVec.toNat = n := by
    show (BitVec.ofNat 32 n).toNat = n
    rw [BitVec.toNat_ofNat, Nat.mod_eq_of_lt (by omega)]
  have e2 : ((nI n).toUInt32.toUInt16.toUInt32).toNat = n := by
    rw [UInt16.toNat_toUInt32, UInt32.toNat_toUInt16]
    show (nI n).toBitVec.toNat % 2 ^ 16 = n
    rw [e1, Nat.mod_eq_of_lt (by omega)]
  rw [e1]
  exact e2
end
section
/-! ZB: one contract form for methods that make nothing: from the world w0 to the world w1, with the answer r -/
abbrev ZG : Type := va_G × ClassId × ClassId × ClassId
abbrev zTys (G : ZG) : List (ClassId × FieldType) := [(G.2.1, .int), (G.2.2.1, .char), (G.2.2.2, .object RX1)]
def KK (G : ZG) (U : State) : Prop :=
  va_K G.1 vwCl (zTys G) U ∧ va_Nw (.methodLinkNest RX1 70 yX3_isBelow RX3) U ∧ va_Nw (.methodLinkNest RX2 19 yX3_isBelow RX3) U ∧ va_Nw (.methodLinkNest RX1 101 yX3_orderKey RX3) U ∧ va_Nw (.methodLinkNest RX0 102 yX3_cellIndex RX3) U ∧ va_Nw (.methodLinkNest RX3 22 yX2_init RX3) U ∧ va_Nw (.methodLinkNest RX3 29 yX0_init RX3) U
theorem KK.warm {G : ZG} {s U : State} (hW : s.WarmedH U.vm) (h : KK G s) : KK G U := by
  obtain ⟨h0, h1, h2, h3, h4, h5, h6⟩ := h
  exact ⟨h0.moved hW.alike, h1.warmM hW, h2.warmM hW, h3.warmM hW, h4.warmM hW, h5.warmM hW, h6.warmM hW⟩
theorem KK.calling {G : ZG} {U : State} {g : JFrame} {mk : MethodId} {a : Array Value} (h : KK G U) : KK G (U.calling g mk a) := by
  obtain ⟨h0, h1, h2, h3, h4, h5, h6⟩ := h
  exact ⟨va_K.moved (u := U) (U := U.calling g mk a) (Vm.Alike.refl U.vm) h0, va_Nw.same (u := U) rfl rfl h1, va_Nw.same (u := U) rfl rfl h2, va_Nw.same (u := U) rfl rfl h3, va_Nw.same (u := U) rfl rfl h4, va_Nw.same (u := U) rfl rfl h5, va_Nw.same (u := U) rfl rfl h6⟩
/-- where a method starts -/
abbrev ZPre (G : ZG) (w0 : va_W) (sz : Nat) : State → Prop := fun U => U.heap.size = sz ∧ va_P G.1 vwCl w0 U.heap ∧ KK G U ∧ va_D (fun _ => True) w0
theorem ZPre.blind {G : ZG} {w0 : va_W} {sz : Nat} {av : List Value} : FrameBlind (va_Pc av (ZPre G w0 sz)) := by
  intro a U g mk h
  obtain ⟨h1, h2, h3, h4, h5⟩ := h
  exact ⟨h1, h2, h3, h4.calling, h5⟩
abbrev ZEnd (G : ZG) (A : Nat → Prop) (w1 : va_W) : Unit → State → Prop := fun _ t => va_P G.1 vwCl w1 t.heap ∧ va_D A w1
abbrev ZQi (G : ZG) (A : Nat → Prop) (w1 : va_W) (r : Int32) : Array Value → State → Outcome → State → Prop := va_Qi (fun (r' : Int32) (_ : Unit) => r' = r) (ZEnd G A w1) A
abbrev ZQv (G : ZG) (A : Nat → Prop) (w1 : va_W) : Array Value → State → Outcome → State → Prop := va_Qv (fun _ : Unit => True) (ZEnd G A w1) A
def CI (l : Launch) (G : ZG) (y : MethodName) (ws : List Cond) (rm : Room) (av : List Value) (w0 : va_W) (r : Int32) (w1 : va_W) : Prop :=
  ∀ sz : Nat, Met l y ws rm (va_Pc av (ZPre G w0 sz)) (ZQi G (va_A w0 sz) w1 r) 0 0 (va_A w0 sz)
def CV (l : Launch) (G : ZG) (y : MethodName) (ws : List Cond) (rm : Room) (av : List Value) (w0 : va_W) (w1 : va_W) : Prop :=
  ∀ sz : Nat, Met l y ws rm (va_Pc av (ZPre G w0 sz)) (ZQv G (va_A w0 sz) w1) 0 0 (va_A w0 sz)
abbrev zRm (f k : Nat) : Room := { frames := f, cells := 0, slots := 0, locals := k }
theorem CI.ent {l : Launch} {G : ZG} {y : MethodName} {ws ws' : List Cond} {rm : Room} {av : List Value} {w0 w1 : va_W} {r : Int32} {cc : ByteArray} {maxL : Nat} {ty : FieldType} {own : String}
    (hy : plainName y.cls = true) (hw : ws = Cond.code y cc maxL (some ty) :: ws') (ho : y.cls = own) (hlen : (lg_sl av).length ≤ maxL)
    (body : ∀ (p : Program) (e : Env) (s : State) (m : MethodId) (args : Array Value) (below : List Frame) (meth : Method) (c : Code) (A : Nat → Prop) (ls : Array Slot), CallFix p m c cc maxL s args ws own → meth.sig.returnType = some ty → meth.locks = false → KK G s → va_P G.1 vwCl w0 s.heap → va_D A w0 → (∀ q : Nat, s.heap.size ≤ q → A q) → va_S A s.heap s.heap [] → lv_has ls maxL (lv_args 0 av) →
      W p l e rm s m args below meth c s.heap [] 0 0 (MQ below (ZQi G A w1 r) args s 0 0 A) (F0 m 0 ls [])) : CI l G y ws rm av w0 r w1 := by
  intro sz
  refine Met.ofW (cc := cc) (maxL := maxL) (ret := some ty) hy hw ?_
  intro p e s m args below meth c s₁ B hml hv
  obtain ⟨rfl, rfl, hP, hK, hD0⟩ := hv
  have hts := atoms_spec (ws := ws) B.pre
  have hown : s.vm.findClass own = some m.cls := by rw [← ho]; exact findClass_of_methodNamed B.named
  rw [lg_entry_eq]
  exact body p e s m _ below meth c _ _ ⟨B.exec, B.bytes, hml, hown, hts⟩ B.returns B.notSynchronized hK hP hD0.self (fun q h => Or.inr h) va_S.rf (lv_entry av hlen)
theorem CV.ent {l : Launch} {G : ZG} {y : MethodName} {ws ws' : List Cond} {rm : Room} {av : List Value} {w0 w1 : va_W} {cc : ByteArray} {maxL : Nat} {own : String}
    (hy : plainName y.cls = true) (hw : ws = Cond.code y cc maxL none :: ws') (ho : y.cls = own) (hlen : (lg_sl av).length ≤ maxL)
    (body : ∀ (p : Program) (e : Env) (s : State) (m : MethodId) (args : Array Value) (below : List Frame) (meth : Method) (c : Code) (A : Nat → Prop) (ls : Array Slot), CallFix p m c cc maxL s args ws own → meth.sig.returnType = none → meth.locks = false → KK G s → va_P G.1 vwCl w0 s.heap → va_D A w0 → (∀ q : Nat, s.heap.size ≤ q → A q) → va_S A s.heap s.heap [] → lv_has ls maxL (lv_args 0 av) →
      W p l e rm s m args below meth c s.heap [] 0 0 (MQ below (ZQv G A w1) args s 0 0 A) (F0 m 0 ls [])) : CV l G y ws rm av w0 w1 := by
  intro sz
  refine Met.ofW (cc := cc) (maxL := maxL) (ret := none) hy hw ?_
  intro p e s m args below meth c s₁ B hml hv
  obtain ⟨rfl, rfl, hP, hK, hD0⟩ := hv
  have hts := atoms_spec (ws := ws) B.pre
  have hown : s.vm.findClass own = some m.cls := by rw [← ho]; exact findClass_of_methodNamed B.named
  rw [lg_entry_eq]
  exact body p e s m _ below meth c _ _ ⟨B.exec, B.bytes, hml, hown, hts⟩ B.returns B.notSynchronized hK hP hD0.self (fun q h => Or.inr h) va_S.rf (lv_entry av hlen)
/-- behind a call: what the callee could not reach, and its world -/
theorem z_join {A0 : Nat → Prop} {D : va_G} {cl : List vw_C} {wr wc w1 : va_W} {H H1 : Heap} (hP : va_P D cl (wr ++ wc) H) (hD : va_D A0 (wr ++ wc)) (hk : ∀ q : Nat, q < H.size → ¬ va_A wc H.size q → H1[q]? = H[q]?) (hF : ∀ q, va_A wc H.size q → A0 q) (hP1 : va_P D cl w1 H1) (hD1 : va_D (va_A wc H.size) w1) : va_P D cl (wr ++ w1) H1 ∧ va_D A0 (wr ++ w1) := by
  have lift : ∀ (k : Nat) (q : Nat × va_E), wr[k]? = some q → (wr ++ wc)[k]? = some q := fun k q hq => by
    rw [List.getElem?_append_left (List.getElem?_eq_some_iff.mp hq).1]; exact hq
  have apart : ∀ (k : Nat) (q : Nat × va_E), wr[k]? = some q → q.1 < H.size ∧ ¬ va_A wc H.size q.1 := by
    intro k q hq
    have hl := (hP k q (lift k q hq)).lt
    refine ⟨hl, fun h => ?_⟩
    rcases h with ⟨k2, e, h⟩ | h
    · have h2 : (wr ++ wc)[wr.length + k2]? = some (q.1, e) := by
        rw [List.getElem?_append_right (by omega), Nat.add_sub_cancel_left]; exact h
      have h3 := hD.1 k (wr.length + k2) q (q.1, e) (lift k q hq) h2 rfl
      have h4 := (List.getElem?_eq_some_iff.mp hq).1
      omega
    · omega
  refine ⟨va_P.app (fun k q hq => ?_) hP1, va_D.app ⟨fun i j x y hi hj hxy => hD.1 i j x y (lift i x hi) (lift j y hj) hxy, fun k q h => hD.2 k q (lift k q h)⟩ (hD1.weaken (fun k q _ h => hF q.1 h)) (fun i j x y hx hy hxy => ?_)⟩
  · obtain ⟨g1, g2⟩ := apart k q hq
    exact (hP k q (lift k q hq)).kept (hk q.1 g1 g2)
  · exact (apart i x hx).2 (by rw [hxy]; exact hD1.2 j y hy)
/-- the cells that the callee may write are the caller's -/
theorem z_free {A0 : Nat → Prop} {wr wc : va_W} {H0 H : Heap} {locs : List Loc} (hD : va_D A0 (wr ++ wc)) (hS : va_S A0 H0 H locs) (hA : ∀ q, H0.size ≤ q → A0 q) : ∀ q, va_A wc H.size q → A0 q := by
  intro q h
  rcases h with ⟨k, e, h⟩ | h
  · refine hD.2 (wr.length + k) (q, e) ?_
    rw [List.getElem?_append_right (by omega), Nat.add_sub_cancel_left]; exact h
  · exact hA q (Nat.le_trans hS.1 h)
theorem z_right {D : va_G} {cl : List vw_C} {wr wc : va_W} {H : Heap} (hP : va_P D cl (wr ++ wc) H) : va_P D cl wc H := by
  intro k q hq
  refine hP (wr.length + k) q ?_
  rw [List.getElem?_append_right (by omega), Nat.add_sub_cancel_left]; exact hq
theorem z_rightD {A : Nat → Prop} {wr wc : va_W} (hD : va_D A (wr ++ wc)) : va_D (fun _ => True) wc := by
  have up : ∀ (k : Nat) (q : Nat × va_E), wc[k]? = some q → (wr ++ wc)[wr.length + k]? = some q := fun k q hq => by
    rw [List.getElem?_append_right (by omega), Nat.add_sub_cancel_left]; exact hq
  exact ⟨fun i j x y hi hj hxy => by have := hD.1 _ _ x y (up i x hi) (up j y hj) hxy; omega, fun _ _ _ => trivial⟩
theorem z_perm {D : va_G} {cl : List vw_C} {w w' : va_W} {H : Heap} (h : w.Perm w') (hP : va_P D cl w H) : va_P D cl w' H := by
  intro k q hq
  obtain ⟨i, hi⟩ := List.getElem?_of_mem (h.mem_iff.mpr (List.mem_of_getElem? hq))
  exact hP i q hi
theorem z_nodup {A : Nat → Prop} {w : va_W} : va_D A w ↔ (w.map Prod.fst).Nodup ∧ ∀ q ∈ w, A q.1 := by
  constructor
  · intro h
    refine ⟨?_, fun q hq => ?_⟩
    · unfold List.Nodup
      rw [List.pairwise_iff_getElem]
      intro i j hi hj hij he
      have hi2 : i < w.length := by simpa using hi
      have hj2 : j < w.length := by simpa using hj
      have := h.1 i j w[i] w[j] (List.getElem?_eq_getElem hi2) (List.getElem?_eq_getElem hj2) (by simpa using he)
      omega
    · obtain ⟨i, hi⟩ := List.getElem?_of_mem hq
      exact h.2 i q hi
  · intro h
    refine ⟨fun i j x y hi hj hxy => ?_, fun k q hq => h.2 q (List.mem_of_getElem? hq)⟩
    have h1 := h.1
    unfold List.Nodup at h1
    rw [List.pairwise_iff_getElem] at h1
    obtain ⟨hi2, rfl⟩ := List.getElem?_eq_some_iff.mp hi
    obtain ⟨hj2, rfl⟩ := List.getElem?_eq_some_iff.mp hj
    rcases Nat.lt_trichotomy i j with hl | hl | hl
    · exact absurd (by rw [List.getElem_map, List.getElem_map]; exact hxy) (h1 i j (by simpa using hi2) (by simpa using hj2) hl)
    · exact hl
    · exact absurd (by rw [List.getElem_map, List.getElem_map]; exact hxy.symm) (h1 j i (by simpa using hj2) (by simpa using hi2) hl)
theorem z_permD {A : Nat → Prop} {w w' : va_W} (h : w.Perm w') (hD : va_D A w) : va_D A w' := by
  rw [z_nodup] at hD ⊢
  exact ⟨(h.map _).nodup_iff.mp hD.1, fun q hq => hD.2 q (h.mem_iff.mpr hq)⟩
section ZR
variable {p : Program} {l : Launch} {e : Env} {R : Room} {s : State} {m : MethodId} {args : Array Value} {below : List Frame} {meth : Method} {c : Code} {H : Heap} {locs : List Loc} {cells slots : Nat} {Q : State → Prop}
variable {cc : ByteArray} {pc : Nat} {ls : Array Slot} {rest st : List Value} {G : ZG} {A : Nat → Prop} {H0 : Heap} {nL : Nat} {Ts : List Cond} {own : String}
theorem z_iret {v r : Int32} {w w1 : va_W} (hx : p.tables.exec = Jvm.exec) (hb : c.code = cc) (hr : meth.sig.returnType = some .int) (hlk : meth.locks = false) (hP : va_P G.1 vwCl w H) (hD : va_D A w) (hS : va_S A s.heap H locs) (hdg : decode cc pc = .ok (.ireturn, 1)) (e1 : v = r) (e2 : w = w1) : W p l e R s m args below meth c H locs 0 0 (MQ below (ZQi G A w1 r) args s 0 0 A) (F0 m pc ls [.int v]) := by
  subst e1; subst e2
  exact W.iret hx hb hr (fun t ht hW => ⟨⟨v, (), rfl, rfl, by rw [ht]; exact hP, hD⟩, hS.F ht⟩) hS.2.2 hdg hlk
theorem z_zret {v r : Int32} {w w1 : va_W} {ty : FieldType} (hx : p.tables.exec = Jvm.exec) (hb : c.code = cc) (hr : meth.sig.returnType = some ty) (hlk : meth.locks = false) (hP : va_P G.1 vwCl w H) (hD : va_D A w) (hS : va_S A s.heap H locs) (hdg : decode cc pc = .ok (.ireturn, 1)) (hn : narrow ty (.int v) = .int v) (e1 : v = r) (e2 : w = w1) : W p l e R s m args below meth c H locs 0 0 (MQ below (ZQi G A w1 r) args s 0 0 A) (F0 m pc ls [.int v]) := by
  subst e1; subst e2
  exact W.zret hx hb hr hn (fun t ht hW => ⟨⟨v, (), rfl, rfl, by rw [ht]; exact hP, hD⟩, hS.F ht⟩) hS.2.2 hdg hlk
theorem z_vret {w w1 : va_W} (hx : p.tables.exec = Jvm.exec) (hb : c.code = cc) (hr : meth.sig.returnType = none) (hlk : meth.locks = false) (hP : va_P G.1 vwCl w H) (hD : va_D A w) (hS : va_S A s.heap H locs) (hdg : decode cc pc = .ok (.return_, 1)) (e2 : w = w1) : W p l e R s m args below meth c H locs 0 0 (MQ below (ZQv G A w1) args s 0 0 A) (F0 m pc ls []) := by
  subst e2
  exact W.vret hx hb hr (fun t ht hW => ⟨⟨(), rfl, trivial, by rw [ht]; exact hP, hD⟩, hS.F ht⟩) hS.2.2 hdg hlk
-- calls
theorem z_backI {y : MethodName} {ws : List Cond} {rm : Room} {av : List Value} {wr wc w1 : va_W} {r : Int32} (hrun : va_Run p l e R s m args below meth c H locs cells slots 0 0 (F0 m pc ls st) rest (ZQi G (va_A wc H.size) w1 r av.toArray) (va_A wc H.size)) (hP : va_P G.1 vwCl (wr ++ wc) H) (hD : va_D A (wr ++ wc)) (hS : va_S A H0 H locs) (hA : ∀ q, H0.size ≤ q → A q)
    (kk : ∀ (H1 : Heap) (locs1 : List Loc), va_P G.1 vwCl (wr ++ w1) H1 → va_D A (wr ++ w1) → va_S A H0 H1 locs1 → W p l e R s m args below meth c H1 locs1 cells slots Q (F0 m (pc + 3) ls (.int r :: rest))) : W p l e R s m args below meth c H locs cells slots Q (F0 m pc ls st) := by
  have hF := z_free hD hS hA
  refine va_calli hrun hS (fun q _ h => hF q h) hF (fun r' u t H1 locs1 ht hvm hpost hB hz hk hS1 => ?_)
  subst hpost
  obtain ⟨hP1, hD1⟩ := hB
  rw [ht] at hP1
  obtain ⟨hP2, hD2⟩ := z_join hP hD hk hF hP1 hD1
  exact kk H1 locs1 hP2 hD2 hS1
theorem z_backV {wr wc w1 : va_W} {av : List Value} (hrun : va_Run p l e R s m args below meth c H locs cells slots 0 0 (F0 m pc ls st) rest (ZQv G (va_A wc H.size) w1 av.toArray) (va_A wc H.size)) (hP : va_P G.1 vwCl (wr ++ wc) H) (hD : va_D A (wr ++ wc)) (hS : va_S A H0 H locs) (hA : ∀ q, H0.size ≤ q → A q)
    (kk : ∀ (H1 : Heap) (locs1 : List Loc), va_P G.1 vwCl (wr ++ w1) H1 → va_D A (wr ++ w1) → va_S A H0 H1 locs1 → W p l e R s m args below meth c H1 locs1 cells slots Q (F0 m (pc + 3) ls rest)) : W p l e R s m args below meth c H locs cells slots Q (F0 m pc ls st) := by
  have hF := z_free hD hS hA
  refine va_callv hrun hS (fun q _ h => hF q h) hF (fun u t H1 locs1 ht hvm hpost hB hz hk hS1 => ?_)
  obtain ⟨hP1, hD1⟩ := hB
  rw [ht] at hP1
  obtain ⟨hP2, hD2⟩ := z_join hP hD hk hF hP1 hD1
  exact kk H1 locs1 hP2 hD2 hS1
theorem z_pre {av : List Value} {wr wc : va_W} (hKK : KK G s) (hP : va_P G.1 vwCl (wr ++ wc) H) (hD : va_D A (wr ++ wc)) : ∀ U : State, U.heap = H → s.WarmedH U.vm → va_Pc av (ZPre G wc H.size) av.toArray U := by
  intro U hU hW
  exact ⟨rfl, by rw [hU], by rw [hU]; exact z_right hP, hKK.warm hW, z_rightD hD⟩
theorem z_recv {w : va_W} {b q0 ci N : Nat} {T : u_T} {C : String} {fs : List Value} (hKK : KK G s) (hP : va_P G.1 vwCl w H) (he : w[q0]? = some (b, .inr (ci, fs))) (hc : vwCl[ci]? = some (C, T, N)) : ∃ cellB : Cell, H[b]? = some cellB ∧ cellB.vm.isStatics = false ∧ s.vm.findClass C = some cellB.cls := va_recv hKK.1 hP hc he
/-- invokevirtual, the callee's world being wc -/
theorem z_callVI {y : MethodName} {bytes : ByteArray} {maxL n index b : Nat} {ty : FieldType} {ws : List Cond} {rm : Room} {As : List Value} {wr wc w1 : va_W} {r : Int32} {C : String} (F : CallFix p m c cc nL s args Ts own) (hM : CI l G y ws rm (.ref b :: As) wc r w1) (cw : CallW R s args own C index y bytes maxL (some ty) ws rm 0 0 n) (hKK : KK G s) (hrc : ∃ cellB : Cell, H[b]? = some cellB ∧ cellB.vm.isStatics = false ∧ s.vm.findClass C = some cellB.cls) (hP : va_P G.1 vwCl (wr ++ wc) H) (hD : va_D A (wr ++ wc)) (hS : va_S A H0 H locs) (hA : ∀ q, H0.size ≤ q → A q) (hn : As.length = n) (hsz : ls.size = nL) (hst : st = As.reverse ++ .ref b :: rest) (hW : (rest.map fun v => v.category).sum ≤ 8) (hR : cells ≤ R.cells ∧ slots ≤ R.slots) (hdg : decode cc pc = .ok (.invokevirtual index, 3))
    (kk : ∀ (H1 : Heap) (locs1 : List Loc), va_P G.1 vwCl (wr ++ w1) H1 → va_D A (wr ++ w1) → va_S A H0 H1 locs1 → W p l e R s m args below meth c H1 locs1 cells slots Q (F0 m (pc + 3) ls (.int r :: rest))) : W p l e R s m args below meth c H locs cells slots Q (F0 m pc ls st) :=
  z_backI (y := y) (ws := ws) (rm := rm) (va_runV F (hM H.size) cw ⟨ZPre.blind, hrc, z_pre hKK hP hD⟩ rfl hn hsz hst (lv_room (rest := st) (ls := ls) (pc := pc) hW) hdg hR) hP hD hS hA kk
theorem z_callVV {y : MethodName} {bytes : ByteArray} {maxL n index b : Nat} {ws : List Cond} {rm : Room} {As : List Value} {wr wc w1 : va_W} {C : String} (F : CallFix p m c cc nL s args Ts own) (hM : CV l G y ws rm (.ref b :: As) wc w1) (cw : CallW R s args own C index y bytes maxL none ws rm 0 0 n) (hKK : KK G s) (hrc : ∃ cellB : Cell, H[b]? = some cellB ∧ cellB.vm.isStatics = false ∧ s.vm.findClass C = some cellB.cls) (hP : va_P G.1 vwCl (wr ++ wc) H) (hD : va_D A (wr ++ wc)) (hS : va_S A H0 H locs) (hA : ∀ q, H0.size ≤ q → A q) (hn : As.length = n) (hsz : ls.size = nL) (hst : st = As.reverse ++ .ref b :: rest) (hW : (rest.map fun v => v.category).sum ≤ 8) (hR : cells ≤ R.cells ∧ slots ≤ R.slots) (hdg : decode cc pc = .ok (.invokevirtual index, 3))
    (kk : ∀ (H1 : Heap) (locs1 : List Loc), va_P G.1 vwCl (wr ++ w1) H1 → va_D A (wr ++ w1) → va_S A H0 H1 locs1 → W p l e R s m args below meth c H1 locs1 cells slots Q (F0 m (pc + 3) ls rest)) : W p l e R s m args below meth c H locs cells slots Q (F0 m pc ls st) :=
  z_backV (va_runV F (hM H.size) cw ⟨ZPre.blind, hrc, z_pre hKK hP hD⟩ rfl hn hsz hst (lv_room (rest := st) (ls := ls) (pc := pc) hW) hdg hR) hP hD hS hA kk
theorem z_nil {D : va_G} {cl : List vw_C} {w : va_W} {H : Heap} (hP : va_P D cl w H) : va_P D cl (w ++ []) H := by rw [List.append_nil]; exact hP
theorem z_nilD {w : va_W} (hD : va_D A w) : va_D A (w ++ []) := by rw [List.append_nil]; exact hD
/-- invokestatic of the same class, a callee without a world -/
theorem z_callSI {y : MethodName} {bytes : ByteArray} {maxL n index : Nat} {ty : FieldType} {ws : List Cond} {rm : Room} {As : List Value} {w : va_W} {r : Int32} (F : CallFix p m c cc nL s args Ts own) (hM : CI l G y ws rm As [] r []) (cw : CallB R s args own index y bytes maxL (some ty) ws rm 0 0 n ∧ (Cond.static y).before args s = true) (hKK : KK G s) (hP : va_P G.1 vwCl w H) (hD : va_D A w) (hS : va_S A H0 H locs) (hA : ∀ q, H0.size ≤ q → A q) (hn : As.length = n) (hsz : ls.size = nL) (hst : st = As.reverse ++ rest) (hW : (rest.map fun v => v.category).sum ≤ 8) (hR : cells ≤ R.cells ∧ slots ≤ R.slots) (hdg : decode cc pc = .ok (.invokestatic index, 3))
    (kk : ∀ (H1 : Heap) (locs1 : List Loc), va_P G.1 vwCl w H1 → va_D A w → va_S A H0 H1 locs1 → W p l e R s m args below meth c H1 locs1 cells slots Q (F0 m (pc + 3) ls (.int r :: rest))) : W p l e R s m args below meth c H locs cells slots Q (F0 m pc ls st) :=
  z_backI (y := y) (ws := ws) (rm := rm) (va_runS F (hM H.size) cw ⟨ZPre.blind, z_pre hKK (z_nil hP) (z_nilD hD)⟩ rfl hn hsz hst (lv_room (rest := st) (ls := ls) (pc := pc) hW) hdg hR) (z_nil hP) (z_nilD hD) hS hA (fun H1 l1 h1 h2 h3 => kk H1 l1 (by rw [List.append_nil] at h1; exact h1) hD h3)
/-- the same, of a nest mate's private method -/
theorem z_callNI {y : MethodName} {bytes : ByteArray} {maxL n index : Nat} {host : String} {ty : FieldType} {ws : List Cond} {rm : Room} {As : List Value} {w : va_W} {r : Int32} (F : CallFix p m c cc nL s args Ts own) (hM : CI l G y ws rm As [] r []) (cw : va_CN R s args own index y host bytes maxL (some ty) ws rm 0 0 n ∧ (Cond.static y).before args s = true ∧ True) (hKK : KK G s) (hP : va_P G.1 vwCl w H) (hD : va_D A w) (hS : va_S A H0 H locs) (hA : ∀ q, H0.size ≤ q → A q) (hn : As.length = n) (hsz : ls.size = nL) (hst : st = As.reverse ++ rest) (hW : (rest.map fun v => v.category).sum ≤ 8) (hR : cells ≤ R.cells ∧ slots ≤ R.slots) (hdg : decode cc pc = .ok (.invokestatic index, 3))
    (kk : ∀ (H1 : Heap) (locs1 : List Loc), va_P G.1 vwCl w H1 → va_D A w → va_S A H0 H1 locs1 → W p l e R s m args below meth c H1 locs1 cells slots Q (F0 m (pc + 3) ls (.int r :: rest))) : W p l e R s m args below meth c H locs cells slots Q (F0 m pc ls st) :=
  z_backI (y := y) (ws := ws) (rm := rm) (va_runSN F (hM H.size) cw ⟨ZPre.blind, z_pre hKK (z_nil hP) (z_nilD hD)⟩ rfl hn hsz hst (lv_room (rest := st) (ls := ls) (pc := pc) hW) hdg hR) (z_nil hP) (z_nilD hD) hS hA (fun H1 l1 h1 h2 h3 => kk H1 l1 (by rw [List.append_nil] at h1; exact h1) hD h3)
-- numbers
theorem z_top {x v : Int32} (h : x = v) (k : W p l e R s m args below meth c H locs cells slots Q (F0 m pc ls (.int v :: rest))) : W p l e R s m args below meth c H locs cells slots Q (F0 m pc ls (.int x :: rest)) := by subst h; exact k
theorem z_add (hx : p.tables.exec = Jvm.exec) (hb : c.code = cc) {x y v : Int32} (hdg : decode cc pc = .ok (.iadd, 1)) (hv : x + y = v) (k : W p l e R s m args below meth c H locs cells slots Q (F0 m (pc + 1) ls (.int v :: rest))) : W p l e R s m args below meth c H locs cells slots Q (F0 m pc ls (.int y :: .int x :: rest)) := by subst hv; exact lv_iadd hx hb hdg k
theorem z_sub (hx : p.tables.exec = Jvm.exec) (hb : c.code = cc) {x y v : Int32} (hdg : decode cc pc = .ok (.isub, 1)) (hv : x - y = v) (k : W p l e R s m args below meth c H locs cells slots Q (F0 m (pc + 1) ls (.int v :: rest))) : W p l e R s m args below meth c H locs cells slots Q (F0 m pc ls (.int y :: .int x :: rest)) := by subst hv; exact lv_isub hx hb hdg k
theorem z_mul (hx : p.tables.exec = Jvm.exec) (hb : c.code = cc) {x y v : Int32} (hdg : decode cc pc = .ok (.imul, 1)) (hv : x * y = v) (k : W p l e R s m args below meth c H locs cells slots Q (F0 m (pc + 1) ls (.int v :: rest))) : W p l e R s m args below meth c H locs cells slots Q (F0 m pc ls (.int y :: .int x :: rest)) := by subst hv; exact lv_imul hx hb hdg k
theorem z_div (hx : p.tables.exec = Jvm.exec) (hb : c.code = cc) {x y v : Int32} (hdg : decode cc pc = .ok (.idiv, 1)) (hne : ¬ y = 0) (hv : x / y = v) (k : W p l e R s m args below meth c H locs cells slots Q (F0 m (pc + 1) ls (.int v :: rest))) : W p l e R s m args below meth c H locs cells slots Q (F0 m pc ls (.int y :: .int x :: rest)) := by subst hv; exact lv_idiv hx hb hdg hne k
theorem z_rem (hx : p.tables.exec = Jvm.exec) (hb : c.code = cc) {x y v : Int32} (hdg : decode cc pc = .ok (.irem, 1)) (hne : ¬ y = 0) (hv : x - x / y * y = v) (k : W p l e R s m args below meth c H locs cells slots Q (F0 m (pc + 1) ls (.int v :: rest))) : W p l e R s m args below meth c H locs cells slots Q (F0 m pc ls (.int y :: .int x :: rest)) := by subst hv; exact lv_irem hx hb hdg hne k
theorem z_ldc (hx : p.tables.exec = Jvm.exec) (hb : c.code = cc) {index : Nat} {v v' : Int32} (hown : s.vm.findClass own = some m.cls) (hconst : (Jvm.Cond.constant own index v).before args s = true) (hdg : decode cc pc = .ok (.ldc index, 2)) (hv : v = v') (k : W p l e R s m args below meth c H locs cells slots Q (F0 m (pc + 2) ls (.int v' :: rest))) : W p l e R s m args below meth c H locs cells slots Q (F0 m pc ls rest) := by subst hv; exact lv_ldc hx hb hown hconst hdg k
-- arrays at a number
theorem z_iald {w : va_W} {a : Nat} (hx : p.tables.exec = Jvm.exec) (hb : c.code = cc) (hKK : KK G s) (hP : va_P G.1 vwCl w H) (q0 : Nat) {n : Nat} {f : Nat → Int32} {i : Nat} {v : Int32} (ha : w[q0]? = some (a, .inl (G.2.1, n, .inl f))) (hi : i < n) (hn : n < 2 ^ 31) (hv : f i = v) (hdg : decode cc pc = .ok (.iaload, 1))
    (kk : W p l e R s m args below meth c H locs cells slots Q (F0 m (pc + 1) ls (.int v :: rest))) : W p l e R s m args below meth c H locs cells slots Q (F0 m pc ls (.int (nI i) :: .ref a :: rest)) := by
  refine va_iald hx hb hKK.1 hP q0 0 ha rfl (vp_in_nI hi hn) hdg ?_
  rw [nI_clamp (by omega), hv]
  exact kk
theorem z_cald {w : va_W} {a : Nat} (hx : p.tables.exec = Jvm.exec) (hb : c.code = cc) (hKK : KK G s) (hP : va_P G.1 vwCl w H) (q0 : Nat) {n : Nat} {f : Nat → Int32} {i : Nat} {v : Int32} (ha : w[q0]? = some (a, .inl (G.2.2.1, n, .inl f))) (hi : i < n) (hn : n < 2 ^ 31) (hv : f i = v) (hdg : decode cc pc = .ok (.caload, 1))
    (kk : W p l e R s m args below meth c H locs cells slots Q (F0 m (pc + 1) ls (.int v :: rest))) : W p l e R s m args below meth c H locs cells slots Q (F0 m pc ls (.int (nI i) :: .ref a :: rest)) := by
  refine va_cald hx hb hKK.1 hP q0 1 ha rfl (vp_in_nI hi hn) hdg ?_
  rw [nI_clamp (by omega), hv]
  exact kk
theorem z_iast {w w2 : va_W} {a : Nat} (hx : p.tables.exec = Jvm.exec) (hb : c.code = cc) (hKK : KK G s) (hP : va_P G.1 vwCl w H) (hD : va_D A w) (hS : va_S A H0 H locs) (q0 : Nat) {n : Nat} {f : Nat → Int32} {i : Nat} {x : Int32} (ha : w[q0]? = some (a, .inl (G.2.1, n, .inl f))) (hi : i < n) (hn : n < 2 ^ 31) (hw : w.set q0 (a, .inl (G.2.1, n, .inl (upd f i x))) = w2) (hdg : decode cc pc = .ok (.iastore, 1))
    (kk : ∀ (H1 : Heap) (locs1 : List Loc), va_P G.1 vwCl w2 H1 → va_D A w2 → va_S A H0 H1 locs1 → W p l e R s m args below meth c H1 locs1 cells slots Q (F0 m (pc + 1) ls rest)) : W p l e R s m args below meth c H locs cells slots Q (F0 m pc ls (.int x :: .int (nI i) :: .ref a :: rest)) := by
  subst hw
  refine va_iast hx hb hKK.1 hP hD hS q0 0 ha rfl (vp_in_nI hi hn) hdg (fun H1 l1 h1 h2 h3 => ?_)
  rw [nI_clamp (by omega)] at h1 h2
  exact kk H1 l1 h1 h2 h3
theorem z_cast {w w2 : va_W} {a : Nat} (hx : p.tables.exec = Jvm.exec) (hb : c.code = cc) (hKK : KK G s) (hP : va_P G.1 vwCl w H) (hD : va_D A w) (hS : va_S A H0 H locs) (q0 : Nat) {n : Nat} {f : Nat → Int32} {i : Nat} {x : Int32} (ha : w[q0]? = some (a, .inl (G.2.2.1, n, .inl f))) (hi : i < n) (hn : n < 2 ^ 31) (hnr : vp_nar .char x = x) (hw : w.set q0 (a, .inl (G.2.2.1, n, .inl (upd f i x))) = w2) (hdg : decode cc pc = .ok (.castore, 1))
    (kk : ∀ (H1 : Heap) (locs1 : List Loc), va_P G.1 vwCl w2 H1 → va_D A w2 → va_S A H0 H1 locs1 → W p l e R s m args below meth c H1 locs1 cells slots Q (F0 m (pc + 1) ls rest)) : W p l e R s m args below meth c H locs cells slots Q (F0 m pc ls (.int x :: .int (nI i) :: .ref a :: rest)) := by
  subst hw
  refine va_cast hx hb hKK.1 hP hD hS q0 1 ha rfl (vp_in_nI hi hn) hdg (fun H1 l1 h1 h2 h3 => ?_)
  rw [nI_clamp (by omega), hnr] at h1 h2
  exact kk H1 l1 h1 h2 h3
-- branches on numbers
theorem z_ge (hx : p.tables.exec = Jvm.exec) (hb : c.code = cc) {a b tgt : Nat} {off : Int} (hdg : decode cc pc = .ok (.if_icmp .ge off, 3)) (ht : (pc : Int) + off = (tgt : Int)) (ha : a < 2 ^ 31) (hb2 : b < 2 ^ 31) (kt : b ≤ a → W p l e R s m args below meth c H locs cells slots Q (F0 m tgt ls rest)) (kf : a < b → W p l e R s m args below meth c H locs cells slots Q (F0 m (pc + 3) ls rest)) : W p l e R s m args below meth c H locs cells slots Q (F0 m pc ls (.int (nI b) :: .int (nI a) :: rest)) :=
  lv_icmp_ge hx hb hdg ht (fun h => kt ((nI_leI hb2 ha).mp h)) (fun h => kf (Nat.not_le.mp (fun q => h ((nI_leI hb2 ha).mpr q))))
theorem z_gt (hx : p.tables.exec = Jvm.exec) (hb : c.code = cc) {a b tgt : Nat} {off : Int} (hdg : decode cc pc = .ok (.if_icmp .gt off, 3)) (ht : (pc : Int) + off = (tgt : Int)) (ha : a < 2 ^ 31) (hb2 : b < 2 ^ 31) (kt : b < a → W p l e R s m args below meth c H locs cells slots Q (F0 m tgt ls rest)) (kf : a ≤ b → W p l e R s m args below meth c H locs cells slots Q (F0 m (pc + 3) ls rest)) : W p l e R s m args below meth c H locs cells slots Q (F0 m pc ls (.int (nI b) :: .int (nI a) :: rest)) :=
  lv_icmp_gt hx hb hdg ht (fun h => kt ((nI_ltI hb2 ha).mp h)) (fun h => kf (Nat.not_lt.mp (fun q => h ((nI_ltI hb2 ha).mpr q))))
theorem z_le (hx : p.tables.exec = Jvm.exec) (hb : c.code = cc) {a b tgt : Nat} {off : Int} (hdg : decode cc pc = .ok (.if_icmp .le off, 3)) (ht : (pc : Int) + off = (tgt : Int)) (ha : a < 2 ^ 31) (hb2 : b < 2 ^ 31) (kt : a ≤ b → W p l e R s m args below meth c H locs cells slots Q (F0 m tgt ls rest)) (kf : b < a → W p l e R s m args below meth c H locs cells slots Q (F0 m (pc + 3) ls rest)) : W p l e R s m args below meth c H locs cells slots Q (F0 m pc ls (.int (nI b) :: .int (nI a) :: rest)) :=
  lv_icmp_le hx hb hdg ht (fun h => kt ((nI_leI ha hb2).mp h)) (fun h => kf (Nat.not_le.mp (fun q => h ((nI_leI ha hb2).mpr q))))
theorem z_lt (hx : p.tables.exec = Jvm.exec) (hb : c.code = cc) {a b tgt : Nat} {off : Int} (hdg : decode cc pc = .ok (.if_icmp .lt off, 3)) (ht : (pc : Int) + off = (tgt : Int)) (ha : a < 2 ^ 31) (hb2 : b < 2 ^ 31) (kt : a < b → W p l e R s m args below meth c H locs cells slots Q (F0 m tgt ls rest)) (kf : b ≤ a → W p l e R s m args below meth c H locs cells slots Q (F0 m (pc + 3) ls rest)) : W p l e R s m args below meth c H locs cells slots Q (F0 m pc ls (.int (nI b) :: .int (nI a) :: rest)) :=
  lv_icmp_lt hx hb hdg ht (fun h => kt ((nI_ltI ha hb2).mp h)) (fun h => kf (Nat.not_lt.mp (fun q => h ((nI_ltI ha hb2).mpr q))))
theorem z_eq (hx : p.tables.exec = Jvm.exec) (hb : c.code = cc) {a b tgt : Nat} {off : Int} (hdg : decode cc pc = .ok (.if_icmp .eq off, 3)) (ht : (pc : Int) + off = (tgt : Int)) (ha : a < 2 ^ 31) (hb2 : b < 2 ^ 31) (kt : a = b → W p l e R s m args below meth c H locs cells slots Q (F0 m tgt ls rest)) (kf : a ≠ b → W p l e R s m args below meth c H locs cells slots Q (F0 m (pc + 3) ls rest)) : W p l e R s m args below meth c H locs cells slots Q (F0 m pc ls (.int (nI b) :: .int (nI a) :: rest)) :=
  lv_icmp_eq hx hb hdg ht (fun h => kt ((nI_eq ha hb2).mp h)) (fun h => kf (fun q => h (by rw [q])))
theorem z_ne (hx : p.tables.exec = Jvm.exec) (hb : c.code = cc) {a b tgt : Nat} {off : Int} (hdg : decode cc pc = .ok (.if_icmp .ne off, 3)) (ht : (pc : Int) + off = (tgt : Int)) (ha : a < 2 ^ 31) (hb2 : b < 2 ^ 31) (kt : a ≠ b → W p l e R s m args below meth c H locs cells slots Q (F0 m tgt ls rest)) (kf : a = b → W p l e R s m args below meth c H locs cells slots Q (F0 m (pc + 3) ls rest)) : W p l e R s m args below meth c H locs cells slots Q (F0 m pc ls (.int (nI b) :: .int (nI a) :: rest)) :=
  lv_icmp_ne hx hb hdg ht (fun h => kt (fun q => h (by rw [q]))) (fun h => kf ((nI_eq ha hb2).mp h))
end ZR
/-- a truth as an int -/
def bI (b : Bool) : Int32 := if b then 1 else 0
theorem bI_nar (b : Bool) : narrow .boolean (.int (bI b)) = .int (bI b) := by cases b <;> rfl
theorem bI_0 (b : Bool) : bI b = 0 ↔ b = false := by cases b <;> simp [bI]
theorem bI_n0 (b : Bool) : ¬ bI b = 0 ↔ b = true := by cases b <;> simp [bI]
section ZR2
variable {p : Program} {l : Launch} {e : Env} {R : Room} {s : State} {m : MethodId} {args : Array Value} {below : List Frame} {meth : Method} {c : Code} {H : Heap} {locs : List Loc} {cells slots : Nat} {Q : State → Prop}
variable {cc : ByteArray} {pc : Nat} {ls : Array Slot} {rest st : List Value} {G : ZG} {A : Nat → Prop} {H0 : Heap} {nL : Nat} {Ts : List Cond} {own : String}
theorem z_ifBeq (hx : p.tables.exec = Jvm.exec) (hb : c.code = cc) {b : Bool} {tgt : Nat} {off : Int} (hdg : decode cc pc = .ok (.ifCond .eq off, 3)) (ht : (pc : Int) + off = (tgt : Int)) (kt : b = false → W p l e R s m args below meth c H locs cells slots Q (F0 m tgt ls rest)) (kf : b = true → W p l e R s m args below meth c H locs cells slots Q (F0 m (pc + 3) ls rest)) : W p l e R s m args below meth c H locs cells slots Q (F0 m pc ls (.int (bI b) :: rest)) :=
  lv_if_eq hx hb hdg ht (fun h => kt ((bI_0 b).mp h)) (fun h => kf ((bI_n0 b).mp h))
theorem z_ifBne (hx : p.tables.exec = Jvm.exec) (hb : c.code = cc) {b : Bool} {tgt : Nat} {off : Int} (hdg : decode cc pc = .ok (.ifCond .ne off, 3)) (ht : (pc : Int) + off = (tgt : Int)) (kt : b = true → W p l e R s m args below meth c H locs cells slots Q (F0 m tgt ls rest)) (kf : b = false → W p l e R s m args below meth c H locs cells slots Q (F0 m (pc + 3) ls rest)) : W p l e R s m args below meth c H locs cells slots Q (F0 m pc ls (.int (bI b) :: rest)) :=
  lv_if_ne hx hb hdg ht (fun h => kt ((bI_n0 b).mp h)) (fun h => kf ((bI_0 b).mp h))
end ZR2
/-- rows of memory: a row's number, a place in it -/
abbrev Mem : Type := Nat → Nat → Int32
def mst (v : Mem) (k i : Nat) (x : Int32) : Mem := fun k' => if k' = k then upd (v k) i x else v k'
def mrow (v : Mem) (k : Nat) (f : Nat → Int32) : Mem := fun k' => if k' = k then f else v k'
end
section
theorem z_at_perm : ∀ (w : va_W) (k : Nat) (q : Nat × va_E), w[k]? = some q → w.Perm (w.eraseIdx k ++ [q])
  | [], k, q, h => by simp at h
  | a :: w, 0, q, h => by
    rw [List.getElem?_cons_zero] at h
    cases h
    rw [List.eraseIdx_cons_zero]
    exact List.perm_append_comm (l₁ := [a]) (l₂ := w)
  | a :: w, k + 1, q, h => by
    rw [List.getElem?_cons_succ] at h
    rw [List.eraseIdx_cons_succ, List.cons_append]
    exact List.Perm.cons a (z_at_perm w k q h)
theorem z_set_perm : ∀ (w : va_W) (k : Nat) (q q' : Nat × va_E), w[k]? = some q → (w.eraseIdx k ++ [q']).Perm (w.set k q')
  | [], k, q, q', h => by simp at h
  | a :: w, 0, q, q', h => by
    rw [List.eraseIdx_cons_zero, List.set_cons_zero]
    exact List.perm_append_comm (l₁ := w) (l₂ := [q'])
  | a :: w, k + 1, q, q', h => by
    rw [List.getElem?_cons_succ] at h
    rw [List.eraseIdx_cons_succ, List.cons_append, List.set_cons_succ]
    exact List.Perm.cons a (z_set_perm w k q q' h)
theorem z_0add (a : Nat) : nI 0 + nI a = nI a := by rw [nI_add, Nat.zero_add]
section ZR3
variable {p : Program} {l : Launch} {e : Env} {R : Room} {s : State} {m : MethodId} {args : Array Value} {below : List Frame} {meth : Method} {c : Code} {H : Heap} {locs : List Loc} {cells slots : Nat} {Q : State → Prop}
variable {cc : ByteArray} {pc : Nat} {ls : Array Slot} {rest st : List Value} {G : ZG} {A : Nat → Prop} {H0 : Heap} {nL : Nat} {Ts : List Cond} {own : String}
theorem z_put {w w2 : va_W} {a ci N index : Nat} {C ref : String} {T : u_T} {fs : List Value} {x : Int32} (hx : p.tables.exec = Jvm.exec) (hb : c.code = cc) (hts : ∀ w ∈ Ts, w.before args s = true) (hin : ∀ w ∈ u_ws C T N, w ∈ Ts) (ty0 : Nat → FieldType) (hty : ∀ k, k < N → parseFieldDescriptor (T k).2.2.1 = some (ty0 k)) (hnm : ∀ a, a < N → ∀ b, b < N → a ≠ b → (T a).2.1 ≠ (T b).2.1) (hown : s.vm.findClass own = some m.cls) (hKK : KK G s) (hP : va_P G.1 vwCl w H) (hD : va_D A w) (hS : va_S A H0 H locs) (q0 : Nat) (he : w[q0]? = some (a, .inr (ci, fs))) (hc : vwCl[ci]? = some (C, T, N)) (k : Nat) (hk : k < N) (hlink : (Cond.fieldLink own index ref (T k).2.1 (T k).2.2.1).before args s = true) (href : (T k).1 = ref) (hfin : (T k).2.2.2 = false) (hti : ty0 k = .int) (hl : k < fs.length) (hw : w.set q0 (a, .inr (ci, fs.set k (.int x))) = w2) (hdg : decode cc pc = .ok (.putfield index, 3))
    (kk : ∀ (H1 : Heap) (locs1 : List Loc), va_P G.1 vwCl w2 H1 → va_D A w2 → va_S A H0 H1 locs1 → W p l e R s m args below meth c H1 locs1 cells slots Q (F0 m (pc + 3) ls rest)) : W p l e R s m args below meth c H locs cells slots Q (F0 m pc ls (.int x :: .ref a :: rest)) := by
  subst hw; subst href
  exact va_put hx hb hts hin ty0 hty hnm hown hKK.1 hP hD hS q0 he hc k hk hlink (fun _ h => h) hfin ((hty k hk).trans (congrArg some hti)) rfl rfl hl hdg kk
theorem z_putC {w w2 : va_W} {a ci N index : Nat} {C ref : String} {T : u_T} {fs : List Value} {x : Int32} (hx : p.tables.exec = Jvm.exec) (hb : c.code = cc) (hts : ∀ w ∈ Ts, w.before args s = true) (hin : ∀ w ∈ u_ws C T N, w ∈ Ts) (ty0 : Nat → FieldType) (hty : ∀ k, k < N → parseFieldDescriptor (T k).2.2.1 = some (ty0 k)) (hnm : ∀ a, a < N → ∀ b, b < N → a ≠ b → (T a).2.1 ≠ (T b).2.1) (hown : s.vm.findClass own = some m.cls) (hKK : KK G s) (hP : va_P G.1 vwCl w H) (hD : va_D A w) (hS : va_S A H0 H locs) (q0 : Nat) (he : w[q0]? = some (a, .inr (ci, fs))) (hc : vwCl[ci]? = some (C, T, N)) (k : Nat) (hk : k < N) (hlink : (Cond.fieldLink own index ref (T k).2.1 (T k).2.2.1).before args s = true) (href : (T k).1 = ref) (hfin : (T k).2.2.2 = false) (hti : ty0 k = .char ∧ ∃ q : Nat, q < 65536 ∧ x = nI q) (hl : k < fs.length) (hw : w.set q0 (a, .inr (ci, fs.set k (.int x))) = w2) (hdg : decode cc pc = .ok (.putfield index, 3))
    (kk : ∀ (H1 : Heap) (locs1 : List Loc), va_P G.1 vwCl w2 H1 → va_D A w2 → va_S A H0 H1 locs1 → W p l e R s m args below meth c H1 locs1 cells slots Q (F0 m (pc + 3) ls rest)) : W p l e R s m args below meth c H locs cells slots Q (F0 m pc ls (.int x :: .ref a :: rest)) := by
  subst hw; subst href
  obtain ⟨hti, q, hq, rfl⟩ := hti
  exact va_put hx hb hts hin ty0 hty hnm hown hKK.1 hP hD hS q0 he hc k hk hlink (fun _ h => h) hfin ((hty k hk).trans (congrArg some hti)) (pk_charN hq).1 (pk_charN hq).2 hl hdg kk
theorem z_copy {w w2 : va_W} {a a0 index : Nat} (hx : p.tables.exec = Jvm.exec) (hb : c.code = cc) (hml : c.maxLocals = ls.size) (hown : s.vm.findClass own = some m.cls) (hlink : (Cond.methodLink own index arraycopyName).before args s = true) (hnat : (Cond.native arraycopyName).before args s = true) (hstat : (Cond.static arraycopyName).before args s = true) (hini : (Cond.initialized "java/lang/System").before args s = true) (hKK : KK G s) (hP : va_P G.1 vwCl w H) (hD : va_D A w) (hS : va_S A H0 H locs) (q0 q1 : Nat) {n0 n1 : Nat} {f g : Nat → Int32} {sp dp n : Nat} (ha0 : w[q0]? = some (a0, .inl (G.2.1, n0, .inl f))) (ha1 : w[q1]? = some (a, .inl (G.2.1, n1, .inl g))) (h1 : sp + n ≤ n0) (h2 : dp + n ≤ n1) (h3 : n0 < 2 ^ 31) (h4 : n1 < 2 ^ 31) (hw : w.set q1 (a, .inl (G.2.1, n1, .inl (va_cpy f g sp dp n))) = w2) (hfr : 1 ≤ R.frames) (hlo : (rest.map fun v => v.category).sum + (nativeFrameWords "java/lang/System" "arraycopy" 5 + 11) ≤ R.locals) (hdg : decode cc pc = .ok (.invokestatic index, 3))
    (kk : ∀ (H1 : Heap) (locs1 : List Loc), va_P G.1 vwCl w2 H1 → va_D A w2 → va_S A H0 H1 locs1 → W p l e R s m args below meth c H1 locs1 cells slots Q (F0 m (pc + 3) ls rest)) : W p l e R s m args below meth c H locs cells slots Q (F0 m pc ls (.int (nI n) :: .int (nI dp) :: .ref a :: .int (nI sp) :: .ref a0 :: rest)) := by
  subst hw
  refine va_copyi hx hb hml hown hlink hnat hstat hini hKK.1 hP hD hS q0 q1 0 0 ha0 ha1 rfl rfl rfl (nI_pos (by omega)) (nI_pos (by omega)) (nI_pos (by omega)) (by rw [nI_clamp (by omega), nI_clamp (by omega)]; exact h1) (by rw [nI_clamp (by omega), nI_clamp (by omega)]; exact h2) (fun i _ => rfl) hfr hlo hdg (fun H1 l1 g1 g2 g3 => ?_)
  rw [nI_clamp (by omega), nI_clamp (by omega), nI_clamp (by omega)] at g1 g2
  exact kk H1 l1 g1 g2 g3
theorem z_alen {w : va_W} {a n : Nat} (hx : p.tables.exec = Jvm.exec) (hb : c.code = cc) (hKK : KK G s) (hP : va_P G.1 vwCl w H) (q0 : Nat) {f : Nat → Int32} (ha : w[q0]? = some (a, .inl (G.2.1, n, .inl f))) (hdg : decode cc pc = .ok (.arraylength, 1)) (kk : W p l e R s m args below meth c H locs cells slots Q (F0 m (pc + 1) ls (.int (nI n) :: rest))) : W p l e R s m args below meth c H locs cells slots Q (F0 m pc ls (.ref a :: rest)) :=
  va_alen hx hb hKK.1 hP q0 0 ha rfl rfl hdg kk
/-- a static method over one array of the world -/
theorem z_callSV_at {y : MethodName} {bytes : ByteArray} {maxL n index : Nat} {ws : List Cond} {rm : Room} {As : List Value} {w w2 : va_W} (q0 : Nat) {q q' : Nat × va_E} (F : CallFix p m c cc nL s args Ts own) (hM : CV l G y ws rm As [q] [q']) (cw : CallB R s args own index y bytes maxL none ws rm 0 0 n ∧ (Cond.static y).before args s = true) (hKK : KK G s) (hP : va_P G.1 vwCl w H) (hD : va_D A w) (hS : va_S A H0 H locs) (hA : ∀ q, H0.size ≤ q → A q) (hq : w[q0]? = some q) (hw : w.set q0 q' = w2) (hn : As.length = n) (hsz : ls.size = nL) (hst : st = As.reverse ++ rest) (hW : (rest.map fun v => v.category).sum ≤ 8) (hR : cells ≤ R.cells ∧ slots ≤ R.slots) (hdg : decode cc pc = .ok (.invokestatic index, 3))
    (kk : ∀ (H1 : Heap) (locs1 : List Loc), va_P G.1 vwCl w2 H1 → va_D A w2 → va_S A H0 H1 locs1 → W p l e R s m args below meth c H1 locs1 cells slots Q (F0 m (pc + 3) ls rest)) : W p l e R s m args below meth c H locs cells slots Q (F0 m pc ls st) := by
  subst hw
  have hp := z_at_perm w q0 q hq
  exact z_backV (va_runS F (hM H.size) cw ⟨ZPre.blind, z_pre hKK (z_perm hp hP) (z_permD hp hD)⟩ rfl hn hsz hst (lv_room (rest := st) (ls := ls) (pc := pc) hW) hdg hR) (z_perm hp hP) (z_permD hp hD) hS hA (fun H1 l1 h1 h2 h3 => kk H1 l1 (z_perm (z_set_perm w q0 q q' hq) h1) (z_permD (z_set_perm w q0 q q' hq) h2) h3)
theorem z_ifNeq (hx : p.tables.exec = Jvm.exec) (hb : c.code = cc) {a tgt : Nat} {off : Int} (hdg : decode cc pc = .ok (.ifCond .eq off, 3)) (ht : (pc : Int) + off = (tgt : Int)) (ha : a < 2 ^ 31) (kt : a = 0 → W p l e R s m args below meth c H locs cells slots Q (F0 m tgt ls rest)) (kf : a ≠ 0 → W p l e R s m args below meth c H locs cells slots Q (F0 m (pc + 3) ls rest)) : W p l e R s m args below meth c H locs cells slots Q (F0 m pc ls (.int (nI a) :: rest)) :=
  lv_if_eq hx hb hdg ht (fun h => kt (Classical.byContradiction fun z => nI_ne0 (by omega) ha h)) (fun h => kf (fun z => h (by rw [z]; rfl)))
theorem z_ifNne (hx : p.tables.exec = Jvm.exec) (hb : c.code = cc) {a tgt : Nat} {off : Int} (hdg : decode cc pc = .ok (.ifCond .ne off, 3)) (ht : (pc : Int) + off = (tgt : Int)) (ha : a < 2 ^ 31) (kt : a ≠ 0 → W p l e R s m args below meth c H locs cells slots Q (F0 m tgt ls rest)) (kf : a = 0 → W p l e R s m args below meth c H locs cells slots Q (F0 m (pc + 3) ls rest)) : W p l e R s m args below meth c H locs cells slots Q (F0 m pc ls (.int (nI a) :: rest)) :=
  lv_if_ne hx hb hdg ht (fun h => kt (fun z => h (by rw [z]; rfl))) (fun h => kf (Classical.byContradiction fun z => nI_ne0 (by omega) ha h))
theorem z_ifNlt (hx : p.tables.exec = Jvm.exec) (hb : c.code = cc) {a tgt : Nat} {off : Int} (hdg : decode cc pc = .ok (.ifCond .lt off, 3)) (ht : (pc : Int) + off = (tgt : Int)) (ha : a < 2 ^ 31) (kt : a < 0 → W p l e R s m args below meth c H locs cells slots Q (F0 m tgt ls rest)) (kf : 0 ≤ a → W p l e R s m args below meth c H locs cells slots Q (F0 m (pc + 3) ls rest)) : W p l e R s m args below meth c H locs cells slots Q (F0 m pc ls (.int (nI a) :: rest)) :=
  lv_if_lt hx hb hdg ht (fun h => absurd h (nI_pos ha)) (fun _ => kf (Nat.zero_le a))
theorem z_ifNge (hx : p.tables.exec = Jvm.exec) (hb : c.code = cc) {a tgt : Nat} {off : Int} (hdg : decode cc pc = .ok (.ifCond .ge off, 3)) (ht : (pc : Int) + off = (tgt : Int)) (ha : a < 2 ^ 31) (kt : 0 ≤ a → W p l e R s m args below meth c H locs cells slots Q (F0 m tgt ls rest)) (kf : a < 0 → W p l e R s m args below meth c H locs cells slots Q (F0 m (pc + 3) ls rest)) : W p l e R s m args below meth c H locs cells slots Q (F0 m pc ls (.int (nI a) :: rest)) :=
  lv_if_ge hx hb hdg ht (fun _ => kt (Nat.zero_le a)) (fun h => absurd (nI_pos' ha) h)
theorem z_ifNgt (hx : p.tables.exec = Jvm.exec) (hb : c.code = cc) {a tgt : Nat} {off : Int} (hdg : decode cc pc = .ok (.ifCond .gt off, 3)) (ht : (pc : Int) + off = (tgt : Int)) (ha : a < 2 ^ 31) (kt : 0 < a → W p l e R s m args below meth c H locs cells slots Q (F0 m tgt ls rest)) (kf : a = 0 → W p l e R s m args below meth c H locs cells slots Q (F0 m (pc + 3) ls rest)) : W p l e R s m args below meth c H locs cells slots Q (F0 m pc ls (.int (nI a) :: rest)) :=
  lv_if_gt hx hb hdg ht (fun h => kt (Nat.pos_of_ne_zero fun z => by subst z; exact absurd h (by decide))) (fun h => kf (Classical.byContradiction fun z => h (nI_lt (a := 0) (by omega) ha)))
theorem z_ifNle (hx : p.tables.exec = Jvm.exec) (hb : c.code = cc) {a tgt : Nat} {off : Int} (hdg : decode cc pc = .ok (.ifCond .le off, 3)) (ht : (pc : Int) + off = (tgt : Int)) (ha : a < 2 ^ 31) (kt : a = 0 → W p l e R s m args below meth c H locs cells slots Q (F0 m tgt ls rest)) (kf : 0 < a → W p l e R s m args below meth c H locs cells slots Q (F0 m (pc + 3) ls rest)) : W p l e R s m args below meth c H locs cells slots Q (F0 m pc ls (.int (nI a) :: rest)) :=
  lv_if_le hx hb hdg ht (fun h => kt (Classical.byContradiction fun z => nI_nle (by omega) ha h)) (fun h => kf (Nat.pos_of_ne_zero fun z => by subst z; exact h (by decide)))
end ZR3
/-- between 0 and a bound -/
def zBel (x : Int32) (b : Nat) : Bool := decide (¬ x < 0) && decide (x < nI b)
theorem zBel_N {a b : Nat} (ha : a < 2 ^ 31) (hb : b < 2 ^ 31) : zBel (nI a) b = decide (a < b) := by
  unfold zBel
  rw [decide_eq_true (nI_pos ha), Bool.true_and]
  exact decide_eq_decide.mpr (nI_ltI ha hb)
theorem zBel_of {x : Int32} {b : Nat} (hb : b < 2 ^ 31) (h : zBel x b = true) : ∃ n : Nat, n < b ∧ x = nI n := by
  unfold zBel at h
  rw [Bool.and_eq_true, decide_eq_true_eq, decide_eq_true_eq] at h
  obtain ⟨j, hj, rfl⟩ := nI_of h.1
  exact ⟨j, (nI_ltI hj hb).mp h.2, rfl⟩
theorem zBel_neg {x : Int32} {b : Nat} (h : x < 0) : zBel x b = false := by simp [zBel, h]
theorem zBel_m1 (b : Nat) : zBel (-1) b = false := zBel_neg (by decide)
/-- the cells of a roll -/
def rollW (G : ZG) (a : Nat → Nat) (v : Mem) : va_W :=
  [(a 0, .inr (1, [.ref (a 1), .ref (a 2), .ref (a 3), .ref (a 4), .int (v 12 0), .int (v 12 1), .int (v 12 2), .ref (a 5), .ref (a 6), .ref (a 7), .ref (a 8), .ref (a 9), .ref (a 10), .ref (a 11), .ref (a 12)])),
   (a 1, .inl (G.2.1, 40, .inl (v 0))), (a 2, .inl (G.2.1, 40, .inl (v 1))), (a 3, .inl (G.2.1, 40, .inl (v 2))), (a 4, .inl (G.2.1, 18, .inl (v 3))),
   (a 5, .inl (G.2.1, 3, .inl (v 4))), (a 6, .inl (G.2.1, 3, .inl (v 5))), (a 7, .inl (G.2.1, 3, .inl (v 6))), (a 8, .inl (G.2.1, 120, .inl (v 7))), (a 9, .inl (G.2.1, 120, .inl (v 8))), (a 10, .inl (G.2.1, 120, .inl (v 9))),
   (a 11, .inl (G.2.1, 40, .inl (v 10))), (a 12, .inl (G.2.1, 40, .inl (v 11)))]
def nup (P : Nat → Nat) (k n : Nat) : Nat → Nat := fun j => if j = k then n else P j
/-- the cells of the reference: rows of ints v, single numbers y -/
def modW (G : ZG) (a : Nat → Nat) (v : Mem) (y : Nat → Nat) : va_W :=
  [(a 0, .inr (4, [.ref (a 1), .ref (a 2), .int (nI (y 0)), .ref (a 3), .ref (a 4), .int (nI (y 1)), .ref (a 5), .ref (a 6), .int (nI (y 2)), .int (nI (y 3)), .int (nI (y 4)), .int (nI (y 5)), .int (nI (y 6)), .ref (a 7), .int (nI (y 7)), .int (nI (y 8)), .int (nI (y 9))])),
   (a 1, .inl (G.2.1, 511, .inl (v 0))), (a 2, .inl (G.2.1, 2044, .inl (v 1))), (a 3, .inl (G.2.1, 511, .inl (v 2))), (a 4, .inl (G.2.1, 60, .inl (v 3))), (a 5, .inl (G.2.1, 40, .inl (v 4))), (a 6, .inl (G.2.1, 80, .inl (v 5))), (a 7, .inl (G.2.1, 2, .inl (v 6)))]
end
section
theorem zBel_ge {x : Int32} {b : Nat} (h : nI b ≤ x) : zBel x b = false := by
  have h2 : ¬ x < nI b := by
    rw [Int32.lt_iff_toInt_lt]
    rw [Int32.le_iff_toInt_le] at h
    omega
  simp [zBel, h2]
theorem zBel_t {x : Int32} {b : Nat} (h1 : ¬ x < 0) (h : ¬ nI b ≤ x) : zBel x b = true := by
  have h2 : x < nI b := by
    rw [Int32.lt_iff_toInt_lt]
    rw [Int32.le_iff_toInt_le] at h
    omega
  simp [zBel, h1, h2]
theorem z_ext {p : Nat → Prop} {i : Nat} (h : ∀ j, j < i → ¬ p j) (hp : ¬ p i) : ∀ j, j < i + 1 → ¬ p j := by
  intro j hj
  rcases Nat.lt_or_ge j i with q | q
  · exact h j q
  · rw [show j = i by omega]; exact hp
def digOk : Nat → Nat → Bool
  | 0, _ => true
  | f + 1, k => if k = 0 then true else if k % 27 = 0 then false else digOk f (k / 27)
theorem digOk_end {i r : Nat} (h : 6 ≤ i ∨ r = 0) : digOk (6 - i) r = true := by
  rcases h with h | h
  · rw [show 6 - i = 0 by omega]; rfl
  · subst h
    cases 6 - i <;> simp [digOk]
theorem digOk_bad {i r : Nat} (hi : i < 6) (h0 : r ≠ 0) (h : r % 27 = 0) : digOk (6 - i) r = false := by
  rw [show 6 - i = (5 - i) + 1 by omega, digOk, if_neg h0, if_pos h]
theorem digOk_go {i r : Nat} (hi : i < 6) (h0 : r ≠ 0) (h : r % 27 ≠ 0) : digOk (6 - i) r = digOk (6 - (i + 1)) (r / 27) := by
  rw [show 6 - i = (5 - i) + 1 by omega, digOk, if_neg h0, if_neg h, show 6 - (i + 1) = 5 - i by omega]
/-- whether an int is a name -/
def zName (x : Int32) : Bool := !decide (x < nI 1) && (decide (x ≤ nI 387420488) && digOk 6 x.toNatClampNeg)
theorem zName_N {k : Nat} (h1 : 1 ≤ k) (h2 : k ≤ 387420488) : zName (nI k) = digOk 6 k := by
  unfold zName
  rw [decide_eq_false (nI_nlt h1 (by omega)), decide_eq_true (nI_le h2 (by omega)), nI_clamp (by omega)]
  simp
theorem zName_lo {x : Int32} (h : x < nI 1) : zName x = false := by simp [zName, h]
theorem zName_hi {x : Int32} (h : ¬ x ≤ nI 387420488) : zName x = false := by simp [zName, h]
theorem zName_ex {x : Int32} (h1 : ¬ x < nI 1) (h2 : x ≤ nI 387420488) : ∃ k : Nat, 1 ≤ k ∧ k ≤ 387420488 ∧ x = nI k := by
  rw [Int32.lt_iff_toInt_lt, nI_toInt (by omega)] at h1
  rw [Int32.le_iff_toInt_le, nI_toInt (by omega)] at h2
  obtain ⟨j, hj, rfl⟩ := nI_of (x := x) (by rw [Int32.lt_iff_toInt_lt]; show ¬ x.toInt < 0; omega)
  rw [nI_toInt hj] at h1 h2
  exact ⟨j, by omega, by omega, rfl⟩
theorem zName_of {x : Int32} (h : zName x = true) : ∃ k : Nat, 1 ≤ k ∧ k ≤ 387420488 ∧ x = nI k ∧ digOk 6 k = true := by
  have h1 : ¬ x < nI 1 := fun q => by rw [zName_lo q] at h; cases h
  have h2 : x ≤ nI 387420488 := Classical.byContradiction fun q => by rw [zName_hi q] at h; cases h
  obtain ⟨k, a, b, rfl⟩ := zName_ex h1 h2
  rw [zName_N a b] at h
  exact ⟨k, a, b, rfl, h⟩
/-- a name with empty places behind it -/
def padK : Nat → Nat → Nat
  | 0, k => k
  | f + 1, k => if k < 14348907 then padK f (k * 27) else k
theorem padK_end {i k : Nat} (h : 6 ≤ i ∨ 14348907 ≤ k) : padK (6 - i) k = k := by
  rcases h with h | h
  · rw [show 6 - i = 0 by omega]; rfl
  · cases 6 - i with
    | zero => rfl
    | succ f => rw [padK, if_neg (by omega)]
theorem padK_go {i k : Nat} (hi : i < 6) (h : k < 14348907) : padK (6 - i) k = padK (6 - (i + 1)) (k * 27) := by
  rw [show 6 - i = (5 - i) + 1 by omega, padK, if_pos h, show 6 - (i + 1) = 5 - i by omega]
theorem padK_lt : ∀ (f k : Nat), k < 387420489 → padK f k < 387420489
  | 0, k, h => h
  | f + 1, k, h => by
    rw [padK]
    split
    · exact padK_lt f (k * 27) (by omega)
    · exact h
def begK : Nat → Nat → Nat → Nat
  | 0, r, _ => r
  | f + 1, r, w => if w < r then begK f (r / 27) w else r
theorem begK_end {i r w : Nat} (h : 6 ≤ i ∨ r ≤ w) : begK (6 - i) r w = r := by
  rcases h with h | h
  · rw [show 6 - i = 0 by omega]; rfl
  · cases 6 - i with
    | zero => rfl
    | succ f => rw [begK, if_neg (by omega)]
theorem begK_go {i r w : Nat} (hi : i < 6) (h : w < r) : begK (6 - i) r w = begK (6 - (i + 1)) (r / 27) w := by
  rw [show 6 - i = (5 - i) + 1 by omega, begK, if_pos h, show 6 - (i + 1) = 5 - i by omega]
/-- an array filled -/
def zFillA (n : Nat) (x : Int32) (f : Nat → Int32) : Nat → Int32 := fun j => if j < n then x else f j
def zFillTo (i : Nat) (x : Int32) (f : Nat → Int32) : Nat → Int32 := fun j => if j < i then x else f j
theorem zFillTo_0 (x : Int32) (f : Nat → Int32) : zFillTo 0 x f = f := by funext j; simp [zFillTo]
theorem zFillTo_s (i : Nat) (x : Int32) (f : Nat → Int32) : upd (zFillTo i x f) i x = zFillTo (i + 1) x f := by
  funext j
  unfold upd zFillTo
  by_cases h : j = i
  · rw [if_pos h, if_pos (by omega)]
  · rw [if_neg h]
    by_cases h2 : j < i
    · rw [if_pos h2, if_pos (by omega)]
    · rw [if_neg h2, if_neg (by omega)]
/-- the first place of x in a row of 40, or 40 -/
def zfn (f : Nat → Int32) (x : Int32) : Nat := fa_first (fun i => decide (f i = x)) 40
theorem fa_first_at (p : Nat → Bool) {i : Nat} (hp : p i = true) (hno : ∀ j, j < i → p j = false) : ∀ n, i < n → fa_first p n = i
  | 0, h => absurd h (Nat.not_lt_zero i)
  | n + 1, h => by
    rw [fa_first]
    rcases Nat.lt_or_ge i n with q | q
    · rw [fa_first_at p hp hno n q, if_pos q]
    · have hin : i = n := by omega
      subst hin
      have hge : ¬ fa_first p i < i := fun z => by
        have h1 := fa_first_yes p i z
        rw [hno _ z] at h1
        cases h1
      rw [if_neg hge, if_pos hp]
theorem fa_first_none (p : Nat → Bool) : ∀ n, (∀ j, j < n → p j = false) → fa_first p n = n
  | 0, _ => rfl
  | n + 1, h => by
    rw [fa_first, fa_first_none p n (fun j hj => h j (by omega)), if_neg (Nat.lt_irrefl n), if_neg (by rw [h n (by omega)]; decide)]
def zNum (f : Nat → Int32) (x : Int32) : Int32 := if zfn f x < 40 then nI (zfn f x) else -1
theorem zNum_at {f : Nat → Int32} {x : Int32} {i : Nat} (hi : i < 40) (hx : f i = x) (hno : ∀ j, j < i → ¬ f j = x) : nI i = zNum f x := by
  have h : zfn f x = i := fa_first_at _ (decide_eq_true hx) (fun j hj => decide_eq_false (hno j hj)) 40 hi
  rw [zNum, h, if_pos hi]
theorem zNum_no {f : Nat → Int32} {x : Int32} {i : Nat} (hi : 40 ≤ i) (hno : ∀ j, j < i → ¬ f j = x) : -1 = zNum f x := by
  have h : zfn f x = 40 := fa_first_none _ 40 (fun j hj => decide_eq_false (hno j (by omega)))
  rw [zNum, h, if_neg (by decide)]
theorem zNum_lt {f : Nat → Int32} {x : Int32} (h : zfn f x < 40) : zNum f x = nI (zfn f x) := if_pos h
theorem zNum_ge {f : Nat → Int32} {x : Int32} (h : ¬ zfn f x < 40) : zNum f x = -1 := if_neg h
theorem zfn_is {f : Nat → Int32} {x : Int32} (h : zfn f x < 40) : f (zfn f x) = x := of_decide_eq_true (fa_first_yes (fun i => decide (f i = x)) 40 h)
theorem zfn_no {f : Nat → Int32} {x : Int32} {j : Nat} (h : j < zfn f x) : ¬ f j = x := of_decide_eq_false (fa_first_no (fun i => decide (f i = x)) 40 j h)
/-- how many of the cells have a number -/
def zCells (f : Nat → Int32) (x : Int32) : Nat := fb_ct (fun i => decide (f i = x)) 18
theorem fb_ct_t {p : Nat → Bool} {n : Nat} (h : p n = true) : fb_ct p (n + 1) = fb_ct p n + 1 := by rw [fb_ct_succ, if_pos h]
theorem fb_ct_f {p : Nat → Bool} {n : Nat} (h : p n = false) : fb_ct p (n + 1) = fb_ct p n := by rw [fb_ct_succ, if_neg (by rw [h]; decide)]; rfl
theorem nI_nm1 {k : Nat} (h : k < 2 ^ 31) : ¬ nI k = -1 := by
  intro q
  have h1 := congrArg Int32.toInt q
  rw [nI_toInt h] at h1
  have h2 : (-1 : Int32).toInt = -1 := by decide
  omega
theorem bI_t : nI 1 = bI true := rfl
theorem bI_f : nI 0 = bI false := rfl
theorem bI_dt {P : Prop} [Decidable P] (h : P) : nI 1 = bI (decide P) := by rw [decide_eq_true h]; rfl
theorem bI_df {P : Prop} [Decidable P] (h : ¬ P) : nI 0 = bI (decide P) := by rw [decide_eq_false h]; rfl
/-- a user gives a number back -/
def zGive (v : Mem) (n : Nat) : Mem :=
  if v 1 n - nI 1 = 0 then mst (mst (mst (mst v 1 n (v 1 n - nI 1)) 0 n (nI 0)) 2 n (v 2 n + nI 1)) 12 2 (v 12 2 + nI 1)
  else mst v 1 n (v 1 n - nI 1)
def nmK (v : Mem) (i : Nat) : Nat := (v 0 i).toNatClampNeg
def okN (v : Mem) : Prop := ∀ i, i < 40 → v 0 i = nI (nmK v i) ∧ nmK v i < 387420489
def zAhead (v : Mem) (ρ i j : Nat) : Bool :=
  if ρ = 1 then decide (padK 5 (nmK v i) < padK 5 (nmK v j)) else if ρ = 2 ∧ ¬ v 1 i = v 1 j then decide (¬ v 1 i ≤ v 1 j) else decide (i < j)
def pPl (v : Mem) (ρ n : Nat) : Nat → Bool := fun i => decide (¬ v 0 i = 0) && zAhead v ρ i n
def zPl (v : Mem) (ρ n : Nat) : Nat := fb_ct (pPl v ρ n) 40
def pNm (v : Mem) : Nat → Bool := fun i => decide (¬ v 0 i = 0)
def zSm (f : Nat → Int32) : Nat → Int32
  | 0 => nI 0
  | n + 1 => zSm f n + f n
def zTp (v : Mem) : Nat → Nat
  | 0 => 0
  | n + 1 => if v 0 n = 0 then zTp v n else n + 1
/-- a tag followed: k epochs to go, the epoch d, the number n, the year y; the number that it comes to, or the reason, negative -/
def zFol (v : Mem) : Nat → Nat → Nat → Int32 → Int32
  | 0, _, n, y => if v 0 n = 0 then -4 else if v 2 n = y then nI n else -4
  | k + 1, d, n, y => if zBel (v 8 (d % 3 * 40 + n)) 40 = true then (if v 7 (d % 3 * 40 + n) = y then zFol v k (d + 1) (v 8 (d % 3 * 40 + n)).toNatClampNeg (v 9 (d % 3 * 40 + (v 8 (d % 3 * 40 + n)).toNatClampNeg)) else -3) else -3
def zStaN (v : Mem) (e t : Nat) : Int32 :=
  if 40 ≤ t % 100 then -1 else if e < t / 1000000 then -1 else if t / 1000000 + 3 < e then -2 else zFol v (e - t / 1000000) (t / 1000000) (t % 100) (nI (t / 100 % 10000))
def zSta (v : Mem) (e : Nat) (x : Int32) : Int32 := if x < 0 then -1 else zStaN v e x.toNatClampNeg
theorem z_m3 {a e : Nat} (ha : a < 2 ^ 30) (he : e < 2 ^ 30) : nI a < nI e - nI 3 ↔ a + 3 < e := by
  rw [Int32.lt_iff_toInt_lt, pk_sub_toInt he (by omega), nI_toInt (by omega)]
  omega
def pSt (v : Mem) (e d : Nat) : Nat → Bool := fun i => decide (¬ v 8 (d % 3 * 40 + i) = -1) && decide (¬ zSta v e (nI 1000000 * nI d + nI 100 * v 7 (d % 3 * 40 + i) + nI i) < 0)
theorem zTp_go {v : Mem} {i : Nat} (hi : 0 < i) (h : v 0 (i - 1) = 0) : zTp v i = zTp v (i - 1) := by
  obtain ⟨j, rfl⟩ : ∃ j, i = j + 1 := ⟨i - 1, by omega⟩
  rw [Nat.add_sub_cancel] at h ⊢
  rw [zTp, if_pos h]
theorem zTp_at {v : Mem} {i : Nat} (hi : 0 < i) (h : ¬ v 0 (i - 1) = 0) : zTp v i = i := by
  obtain ⟨j, rfl⟩ : ∃ j, i = j + 1 := ⟨i - 1, by omega⟩
  rw [Nat.add_sub_cancel] at h
  rw [zTp, if_neg h]
theorem zFol_go {v : Mem} {e d n q : Nat} {y : Int32} (hd : d < e) (hq : v 8 (d % 3 * 40 + n) = nI q) (hq2 : q < 40) (hy : v 7 (d % 3 * 40 + n) = y) : zFol v (e - d) d n y = zFol v (e - (d + 1)) (d + 1) q (v 9 (d % 3 * 40 + q)) := by
  rw [show e - d = (e - (d + 1)) + 1 by omega, zFol, hq, if_pos (by rw [zBel_N (by omega) (by decide)]; exact decide_eq_true hq2), if_pos hy, nI_clamp (by omega)]
theorem zFol_bad {v : Mem} {e d n : Nat} {y : Int32} (hd : d < e) (h : zBel (v 8 (d % 3 * 40 + n)) 40 = false ∨ ¬ v 7 (d % 3 * 40 + n) = y) : zFol v (e - d) d n y = -3 := by
  rw [show e - d = (e - (d + 1)) + 1 by omega, zFol]
  rcases h with h | h
  · rw [if_neg (by rw [h]; decide)]
  · rw [if_neg h]; split <;> rfl
/-- the first i places from g, the rest from f -/
def zMap (f g : Nat → Int32) (i : Nat) : Nat → Int32 := fun j => if j < i then g j else f j
theorem zMap_0 (f g : Nat → Int32) : zMap f g 0 = f := by funext j; simp [zMap]
theorem zMap_at (f g : Nat → Int32) (i : Nat) : zMap f g i i = f i := by simp [zMap]
theorem zMap_lo {f g : Nat → Int32} {i j : Nat} (h : j < i) : zMap f g i j = g j := by simp [zMap, h]
theorem zMap_hi {f g : Nat → Int32} {i j : Nat} (h : i ≤ j) : zMap f g i j = f j := if_neg (by omega)
theorem zMap_s {f g : Nat → Int32} {i : Nat} {x : Int32} (h : g i = x) : upd (zMap f g i) i x = zMap f g (i + 1) := by
  subst h
  funext j
  unfold upd zMap
  by_cases h : j = i
  · subst h; rw [if_pos rfl, if_pos (by omega)]
  · rw [if_neg h]
    by_cases h2 : j < i
    · rw [if_pos h2, if_pos (by omega)]
    · rw [if_neg h2, if_neg (by omega)]
theorem zMap_k {f g : Nat → Int32} {i : Nat} (h : g i = f i) : zMap f g i = zMap f g (i + 1) := by
  rw [← zMap_s h]
  funext j
  unfold upd zMap
  by_cases h : j = i
  · subst h; rw [if_pos rfl, if_neg (by omega)]
  · rw [if_neg h]
theorem mst_mrow (v : Mem) (k : Nat) (f : Nat → Int32) (i : Nat) (x : Int32) : mst (mrow v k f) k i x = mrow v k (upd f i x) := by
  funext k' j
  unfold mst mrow
  by_cases h : k' = k
  · subst h; simp
  · simp [h]
theorem mrow_self (v : Mem) (k : Nat) : mrow v k (v k) = v := by
  funext k' j
  unfold mrow
  by_cases h : k' = k
  · subst h; simp
  · simp [h]
theorem mrow_mrow (v : Mem) (k : Nat) (f g : Nat → Int32) : mrow (mrow v k f) k g = mrow v k g := by
  funext k' j
  unfold mrow
  by_cases h : k' = k
  · subst h; simp
  · simp [h]
theorem mrow_swap (v : Mem) {k k2 : Nat} (h : k ≠ k2) (f g : Nat → Int32) : mrow (mrow v k f) k2 g = mrow (mrow v k2 g) k f := by
  funext k' j
  unfold mrow
  by_cases h1 : k' = k
  · subst h1; simp [h]
  · by_cases h2 : k' = k2
    · subst h2; simp [h1]
    · simp [h1, h2]
theorem mst_row (v : Mem) (k i : Nat) (x : Int32) : mst v k i x = mrow v k (upd (v k) i x) := rfl
/-- cells of tables, renumbered -/
def mvC (v : Mem) (r : Nat) : Nat → Int32 := fun j => if zBel (v 3 j) 40 = true then v 8 (r + (v 3 j).toNatClampNeg) else v 3 j
def zMvC (v : Mem) (r : Nat) : Mem := mrow v 3 (zMap (v 3) (mvC v r) 18)
theorem mvC_in {v : Mem} {r j q : Nat} (h : zBel (v 3 j) 40 = true) (hq : q < 40) (he : v 3 j = nI q) : mvC v r j = v 8 (r + q) := by
  rw [mvC, if_pos h, he, nI_clamp (by omega)]
theorem mvC_out {v : Mem} {r j : Nat} (h : zBel (v 3 j) 40 = false) : mvC v r j = v 3 j := if_neg (by rw [h]; decide)
/-- a row whose places go to new places -/
def mvTo (nb old base : Nat → Int32) : Nat → Nat → Int32
  | 0 => base
  | i + 1 => if zBel (nb i) 40 = true then upd (mvTo nb old base i) (nb i).toNatClampNeg (old i) else mvTo nb old base i
theorem mvTo_in {nb old base : Nat → Int32} {i q : Nat} {x : Int32} (h : zBel (nb i) 40 = true) (hq : q < 40) (he : nb i = nI q) (hx : old i = x) : upd (mvTo nb old base i) q x = mvTo nb old base (i + 1) := by
  rw [mvTo, if_pos h, he, nI_clamp (by omega), hx]
theorem mvTo_out {nb old base : Nat → Int32} {i : Nat} (h : zBel (nb i) 40 = false) : mvTo nb old base i = mvTo nb old base (i + 1) := by
  rw [mvTo, if_neg (by rw [h]; decide)]
def nbR (v : Mem) (r : Nat) : Nat → Int32 := fun i => v 8 (r + i)
def mvN (v : Mem) (r k : Nat) (i : Nat) : Nat → Int32 := mvTo (nbR v r) (v k) (zFillA 40 (nI 0) (v k)) i
def zMv1 (v : Mem) (r i : Nat) : Mem := mrow (mrow (mrow (mrow v 10 (va_cpy (v 0) (v 10) 0 0 40)) 11 (va_cpy (v 1) (v 11) 0 0 40)) 0 (mvN v r 0 i)) 1 (mvN v r 1 i)
def yrN (v : Mem) (r : Nat) : Nat → Int32 := fun j => if mvN v r 0 40 j = v 0 j then v 2 j else v 2 j + nI 1
def zMvN (v : Mem) (r : Nat) : Mem := mrow (zMv1 v r 40) 2 (zMap (v 2) (yrN v r) 40)
/-- a compaction -/
def nxN (v : Mem) (ρ : Nat) : Nat → Int32 := fun j => if v 0 j = 0 then -1 else nI (zPl v ρ j)
def pMv (v : Mem) (ρ : Nat) : Nat → Bool := fun j => decide (¬ nxN v ρ j = -1) && decide (¬ nxN v ρ j = nI j)
def zAn1 (v : Mem) (ρ e : Nat) : Mem := mst (mst (mst (mrow v 8 (fb_put (v 8) (nxN v ρ) (e % 3 * 40) 40)) 4 (e % 3) (nI ρ)) 5 (e % 3) (nI (fb_ct (pNm v) 40))) 6 (e % 3) (nI (fb_ct (pMv v ρ) 40))
def zAn2 (v : Mem) (ρ e : Nat) : Mem := zMvC (zMvN (mrow (zAn1 v ρ e) 7 (va_cpy (v 2) (v 7) 0 (e % 3 * 40) 40)) (e % 3 * 40)) (e % 3 * 40)
def zAnew (v : Mem) (ρ e : Nat) : Mem := mst (mrow (zAn2 v ρ e) 9 (va_cpy (zAn2 v ρ e 2) (v 9) 0 (e % 3 * 40) 40)) 12 0 (nI (e + 1))
def zCopy (v w : Mem) : Mem :=
  mrow (mrow (mrow (mrow (mrow (mrow (mst (mst (mst (mrow (mrow (mrow (mrow v 0 (va_cpy (w 0) (v 0) 0 0 40)) 1 (va_cpy (w 1) (v 1) 0 0 40)) 2 (va_cpy (w 2) (v 2) 0 0 40)) 3 (va_cpy (w 3) (v 3) 0 0 18)) 12 0 (w 12 0)) 12 1 (w 12 1)) 12 2 (w 12 2)) 4 (va_cpy (w 4) (v 4) 0 0 3)) 5 (va_cpy (w 5) (v 5) 0 0 3)) 6 (va_cpy (w 6) (v 6) 0 0 3)) 7 (va_cpy (w 7) (v 7) 0 0 120)) 8 (va_cpy (w 8) (v 8) 0 0 120)) 9 (va_cpy (w 9) (v 9) 0 0 120)
theorem zMv1_out {v : Mem} {r i : Nat} (h : zBel (v 8 (r + i)) 40 = false) : zMv1 v r i = zMv1 v r (i + 1) := by
  have h0 : mvN v r 0 i = mvN v r 0 (i + 1) := mvTo_out h
  have h1 : mvN v r 1 i = mvN v r 1 (i + 1) := mvTo_out h
  rw [zMv1, zMv1, h0, h1]
theorem zMv1_in {v : Mem} {r i q : Nat} (h : zBel (v 8 (r + i)) 40 = true) (hq : q < 40) (he : v 8 (r + i) = nI q) : mst (mst (zMv1 v r i) 0 q (v 0 i)) 1 q (v 1 i) = zMv1 v r (i + 1) := by
  have h0 : upd (mvN v r 0 i) q (v 0 i) = mvN v r 0 (i + 1) := mvTo_in h hq he rfl
  have h1 : upd (mvN v r 1 i) q (v 1 i) = mvN v r 1 (i + 1) := mvTo_in h hq he rfl
  rw [zMv1, zMv1, ← h0, ← h1, mrow_swap _ (by decide : (0 : Nat) ≠ 1), mst_mrow, mrow_swap _ (by decide : (1 : Nat) ≠ 0), mst_mrow]
theorem pMv_eq {v : Mem} {ρ i : Nat} : pMv v ρ i = (decide (¬ nxN v ρ i = -1) && decide (¬ nxN v ρ i = nI i)) := rfl
theorem nxN_n {v : Mem} {ρ i : Nat} (h : ¬ v 0 i = 0) : nxN v ρ i = nI (zPl v ρ i) := if_neg h
/-- between two numbers -/
def zWi (x : Int32) (lo hi : Nat) : Bool := decide (¬ x < nI lo) && decide (¬ nI hi < x)
theorem zWi_lo {x : Int32} {lo hi : Nat} (h : x < nI lo) : zWi x lo hi = false := by simp [zWi, h]
theorem zWi_hi {x : Int32} {lo hi : Nat} (h : nI hi < x) : zWi x lo hi = false := by simp [zWi, h]
theorem zWi_t {x : Int32} {lo hi : Nat} (h1 : ¬ x < nI lo) (h2 : ¬ nI hi < x) : zWi x lo hi = true := by simp [zWi, h1, h2]
theorem zWi_N {a lo hi : Nat} (ha : a < 2 ^ 31) (hl : lo < 2 ^ 31) (hh : hi < 2 ^ 31) : zWi (nI a) lo hi = (decide (lo ≤ a) && decide (a ≤ hi)) := by
  unfold zWi
  have h1 : (¬ nI a < nI lo) ↔ lo ≤ a := by rw [nI_ltI ha hl]; exact Nat.not_lt
  have h2 : (¬ nI hi < nI a) ↔ a ≤ hi := by rw [nI_ltI hh ha]; exact Nat.not_lt
  rw [decide_eq_decide.mpr h1, decide_eq_decide.mpr h2]
theorem zWi_of {x : Int32} {lo hi : Nat} (hl : lo < 2 ^ 31) (hh : hi < 2 ^ 31) (h : zWi x lo hi = true) : ∃ n : Nat, lo ≤ n ∧ n ≤ hi ∧ x = nI n := by
  unfold zWi at h
  rw [Bool.and_eq_true, decide_eq_true_eq, decide_eq_true_eq] at h
  obtain ⟨h1, h2⟩ := h
  rw [Int32.lt_iff_toInt_lt, nI_toInt hl] at h1
  rw [Int32.lt_iff_toInt_lt, nI_toInt hh] at h2
  obtain ⟨j, hj, rfl⟩ := nI_of (x := x) (by rw [Int32.lt_iff_toInt_lt]; show ¬ x.toInt < 0; omega)
  rw [nI_toInt hj] at h1 h2
  exact ⟨j, by omega, by omega, rfl⟩
theorem digOk_m {f r : Nat} {b : Bool} (h : r < 27 ^ f) (h0 : 0 < r) : ∃ g, f = g + 1 ∧ r / 27 < 27 ^ g ∧ digOk f r = (decide (0 < r % 27) && digOk g (r / 27)) := by
  cases f with
  | zero => rw [Nat.pow_zero] at h; omega
  | succ g =>
    refine ⟨g, rfl, ?_, ?_⟩
    · rw [Nat.pow_succ] at h
      omega
    · rw [digOk, if_neg (by omega)]
      by_cases h1 : r % 27 = 0
      · rw [if_pos h1, decide_eq_false (by omega)]; rfl
      · rw [if_neg h1, decide_eq_true (by omega)]; rfl
theorem digOk_0 (f : Nat) : digOk f 0 = true := by cases f <;> simp [digOk]
theorem padK_m {f r : Nat} (h : 14348907 ≤ r * 27 ^ f) (h0 : r < 14348907) : ∃ g, f = g + 1 ∧ 14348907 ≤ r * 27 * 27 ^ g ∧ padK f r = padK g (r * 27) := by
  cases f with
  | zero => rw [Nat.pow_zero] at h; omega
  | succ g =>
    refine ⟨g, rfl, ?_, ?_⟩
    · rw [Nat.pow_succ] at h
      rw [Nat.mul_assoc, Nat.mul_comm 27]
      exact h
    · rw [padK, if_pos h0]
theorem padK_x {f r : Nat} (h0 : 14348907 ≤ r) : padK f r = r := by
  cases f with
  | zero => rfl
  | succ g => rw [padK, if_neg (by omega)]
/-- the reference's row, in parts -/
def rN (f : Nat → Int32) : Nat → Int32 := fun i => f (4 + i)
def rC (f : Nat → Int32) : Nat → Int32 := fun i => f (124 + i)
def mGive (f : Nat → Int32) (n : Nat) : Nat → Int32 :=
  if f (44 + n) - nI 1 = 0 then upd (upd (upd (upd f (44 + n) (f (44 + n) - nI 1)) (4 + n) (nI 0)) (84 + n) (f (84 + n) + nI 1)) 2 (f 2 + nI 1)
  else upd f (44 + n) (f (44 + n) - nI 1)
def mEnt (f : Nat → Int32) (x : Int32) : Nat → Int32 :=
  if zfn (rN f) x < 40 then upd f (44 + zfn (rN f) x) (f (44 + zfn (rN f) x) + nI 1)
  else upd (upd (upd (upd f (4 + zfn (rN f) (nI 0)) x) (44 + zfn (rN f) (nI 0)) (nI 0)) 1 (f 1 + nI 1)) (44 + zfn (rN f) (nI 0)) (nI 0 + nI 1)
def mTag (f : Nat → Int32) (n : Nat) : Int32 := nI 1000000 * f 0 + nI 100 * f (84 + n) + nI n
/-- letters taken off a name until it is no longer than another, that one is left -/
def begX (r w : Nat) : Prop := ∃ f, begK f r w = w
theorem begK_le : ∀ (f : Nat) {r w : Nat}, r ≤ w → begK f r w = r
  | 0, _, _, _ => rfl
  | f + 1, r, w, h => by rw [begK, if_neg (by omega)]
theorem begX_y {r w : Nat} (h : r = w) : begX r w := ⟨0, h⟩
theorem begX_n {r w : Nat} (h : r ≤ w) : begX r w → r = w := fun ⟨f, q⟩ => by rw [begK_le f h] at q; exact q
theorem begX_go {r w : Nat} (hw : 1 ≤ w) (h : w < r) : begX r w ↔ begX (r / 27) w := by
  constructor
  · rintro ⟨f, q⟩
    cases f with
    | zero => rw [begK] at q; omega
    | succ g => rw [begK, if_pos h] at q; exact ⟨g, q⟩
  · rintro ⟨f, q⟩
    exact ⟨f + 1, by rw [begK, if_pos h]; exact q⟩
theorem begX_f : ∀ (f g : Nat) {r w : Nat}, r < 27 ^ (f + 1) → 1 ≤ w → begK g r w = w → begK f r w = w
  | 0, g, r, w, h, hw, q => by
    rw [begK]
    rw [Nat.zero_add, Nat.pow_one] at h
    cases g with
    | zero => exact q
    | succ g =>
      rw [begK] at q
      by_cases h1 : w < r
      · rw [if_pos h1, begK_le g (by omega)] at q
        omega
      · rw [if_neg h1] at q; exact q
  | f + 1, g, r, w, h, hw, q => by
    rw [begK]
    cases g with
    | zero =>
      rw [begK] at q
      rw [if_neg (by omega)]; exact q
    | succ g =>
      rw [begK] at q
      by_cases h1 : w < r
      · rw [if_pos h1] at q ⊢
        rw [Nat.pow_succ] at h
        exact begX_f f g (by omega) hw q
      · rw [if_neg h1] at q ⊢; exact q
theorem begX_5 {k w : Nat} (hk : k < 387420489) (hw : 1 ≤ w) : begK 5 k w = w ↔ begX k w := by
  constructor
  · exact fun h => ⟨5, h⟩
  · rintro ⟨g, q⟩
    refine begX_f 5 g ?_ hw q
    have : 27 ^ (5 + 1) = 387420489 := by decide
    omega
end
section
set_option maxHeartbeats 4000000 in
set_option maxRecDepth 100000 in
theorem c_X3_isBelow (l : Launch) (G : ZG) (x : Int32) (b : Nat) (hb1 : b < 2 ^ 31) : CI l G yX3_isBelow wsX3_isBelow (zRm 0 0) [.int x, .int (nI b)] ([]) (bI (zBel x b)) ([]) := by
  refine CI.ent (cc := cX3_isBelow) (maxL := 2) (ty := .boolean) (own := RX3) (by decide) rfl rfl (Nat.le_of_ble_eq_true rfl) ?_
  intro p ee s m args below meth c A ls F hr hlk hKK hP hD hA hS hl
  obtain ⟨hx, hb, hml, hown, hts⟩ := id F
  have hl : lv_has ls 2 [(0, .int x), (1, .int (nI b))] := hl
  refine lv_iload_n hx hb dX3_isBelow_0 rfl (lv_at hl 0 rfl) ?_
  refine lv_if_lt (tgt := 13) hx hb dX3_isBelow_1 (by decide) (fun c_1 => ?_) (fun c_1 => ?_)
  · skip
    refine lv_iconst (v := nI 0) hx hb dX3_isBelow_13 (by decide) ?_
    exact z_zret hx hb hr hlk hP hD hS dX3_isBelow_14 (by decide) (by rw [zBel_neg c_1]; rfl) rfl
  · skip
    refine lv_iload_n hx hb dX3_isBelow_4 rfl (lv_at hl 0 rfl) ?_
    refine lv_iload_n hx hb dX3_isBelow_5 rfl (lv_at hl 1 rfl) ?_
    refine lv_icmp_ge (tgt := 13) hx hb dX3_isBelow_6 (by decide) (fun c_2 => ?_) (fun c_2 => ?_)
    · skip
      refine lv_iconst (v := nI 0) hx hb dX3_isBelow_13 (by decide) ?_
      exact z_zret hx hb hr hlk hP hD hS dX3_isBelow_14 (by decide) (by rw [zBel_ge c_2]; rfl) rfl
    · skip
      refine lv_iconst (v := nI 1) hx hb dX3_isBelow_9 (by decide) ?_
      refine lv_goto (tgt := 14) hx hb dX3_isBelow_10 (by decide) ?_
      exact z_zret hx hb hr hlk hP hD hS dX3_isBelow_14 (by decide) (by rw [zBel_t c_1 c_2]; rfl) rfl

theorem c_X3_isBelow_N (l : Launch) (G : ZG) (x b : Nat) (ha : x < 2 ^ 31) (hb : b < 2 ^ 31) : CI l G yX3_isBelow wsX3_isBelow (zRm 0 0) [.int (nI x), .int (nI b)] ([]) (bI (decide (x < b))) ([]) := by
  have h := c_X3_isBelow l G (nI x) b hb
  rw [zBel_N ha hb] at h
  exact h

set_option maxHeartbeats 4000000 in
set_option maxRecDepth 100000 in
theorem c_X3_cellIndex (l : Launch) (G : ZG) (x y : Nat)  : CI l G yX3_cellIndex wsX3_cellIndex (zRm 0 0) [.int (nI x), .int (nI y)] ([]) (nI (x * 6 + y)) ([]) := by
  refine CI.ent (cc := cX3_cellIndex) (maxL := 2) (ty := .int) (own := RX3) (by decide) rfl rfl (Nat.le_of_ble_eq_true rfl) ?_
  intro p ee s m args below meth c A ls F hr hlk hKK hP hD hA hS hl
  obtain ⟨hx, hb, hml, hown, hts⟩ := id F
  have hl : lv_has ls 2 [(0, .int (nI x)), (1, .int (nI y))] := hl
  refine lv_iload_n hx hb dX3_cellIndex_0 rfl (lv_at hl 0 rfl) ?_
  refine lv_bipush (v := nI 6) hx hb dX3_cellIndex_1 (by decide) ?_
  refine z_mul (v := nI (x * 6)) hx hb dX3_cellIndex_3 (pk_mul _ _) ?_
  refine lv_iload_n hx hb dX3_cellIndex_4 rfl (lv_at hl 1 rfl) ?_
  refine z_add (v := nI ((x * 6) + y)) hx hb dX3_cellIndex_5 (nI_add _ _) ?_
  exact z_iret hx hb hr hlk hP hD hS dX3_cellIndex_6 rfl rfl

set_option maxHeartbeats 4000000 in
set_option maxRecDepth 100000 in
theorem c_X3_isCell (l : Launch) (G : ZG) (x y : Int32)  : CI l G yX3_isCell wsX3_isCell (zRm 1 21) [.int x, .int y] ([]) (bI ((zBel x 3 && zBel y 6))) ([]) := by
  refine CI.ent (cc := cX3_isCell) (maxL := 2) (ty := .boolean) (own := RX3) (by decide) rfl rfl (Nat.le_of_ble_eq_true rfl) ?_
  intro p ee s m args below meth c A ls F hr hlk hKK hP hD hA hS hl
  obtain ⟨hx, hb, hml, hown, hts⟩ := id F
  have hl : lv_has ls 2 [(0, .int x), (1, .int y)] := hl
  refine lv_iload_n hx hb dX3_isCell_0 rfl (lv_at hl 0 rfl) ?_
  refine lv_iconst (v := nI 3) hx hb dX3_isCell_1 (by decide) ?_
  refine z_callSI (As := [.int x, .int (nI 3)]) (rest := []) F (c_X3_isBelow l G x (3) (by omega)) (va_cwS 2 hts gX3_isCell_X3_isBelow rfl rfl rfl (by decide +kernel) ⟨Nat.le_of_ble_eq_true rfl, Nat.le_of_ble_eq_true rfl⟩) hKK hP hD hS hA rfl hl.1 rfl (Nat.le_of_ble_eq_true rfl) ⟨Nat.zero_le _, Nat.zero_le _⟩ dX3_isCell_2 (fun H locs hP hD hS => ?_)
  refine z_ifBeq (tgt := 21) hx hb dX3_isCell_5 (by decide) (fun c_1 => ?_) (fun c_1 => ?_)
  · skip
    refine lv_iconst (v := nI 0) hx hb dX3_isCell_21 (by decide) ?_
    exact z_zret hx hb hr hlk hP hD hS dX3_isCell_22 (by decide) (by simp [c_1]; rfl) rfl
  · skip
    refine lv_iload_n hx hb dX3_isCell_8 rfl (lv_at hl 1 rfl) ?_
    refine lv_bipush (v := nI 6) hx hb dX3_isCell_9 (by decide) ?_
    refine z_callSI (As := [.int y, .int (nI 6)]) (rest := []) F (c_X3_isBelow l G y (6) (by omega)) (va_cwS 2 hts gX3_isCell_X3_isBelow rfl rfl rfl (by decide +kernel) ⟨Nat.le_of_ble_eq_true rfl, Nat.le_of_ble_eq_true rfl⟩) hKK hP hD hS hA rfl hl.1 rfl (Nat.le_of_ble_eq_true rfl) ⟨Nat.zero_le _, Nat.zero_le _⟩ dX3_isCell_11 (fun H locs hP hD hS => ?_)
    refine z_ifBeq (tgt := 21) hx hb dX3_isCell_14 (by decide) (fun c_2 => ?_) (fun c_2 => ?_)
    · skip
      refine lv_iconst (v := nI 0) hx hb dX3_isCell_21 (by decide) ?_
      exact z_zret hx hb hr hlk hP hD hS dX3_isCell_22 (by decide) (by simp [c_1, c_2]; rfl) rfl
    · skip
      refine lv_iconst (v := nI 1) hx hb dX3_isCell_17 (by decide) ?_
      refine lv_goto (tgt := 22) hx hb dX3_isCell_18 (by decide) ?_
      exact z_zret hx hb hr hlk hP hD hS dX3_isCell_22 (by decide) (by simp [c_1, c_2]; rfl) rfl

set_option maxHeartbeats 4000000 in
set_option maxRecDepth 100000 in
theorem c_X3_isName (l : Launch) (G : ZG) (x : Int32)  : CI l G yX3_isName wsX3_isName (zRm 0 0) [.int x] ([]) (bI (zName x)) ([]) := by
  refine CI.ent (cc := cX3_isName) (maxL := 3) (ty := .boolean) (own := RX3) (by decide) rfl rfl (Nat.le_of_ble_eq_true rfl) ?_
  intro p ee s m args below meth c A ls F hr hlk hKK hP hD hA hS hl
  obtain ⟨hx, hb, hml, hown, hts⟩ := id F
  have hl : lv_has ls 3 [(0, .int x)] := hl
  have ct_193 := hts (.constant RX3 193 (387420488)) (by decide +kernel)
  refine lv_iload_n hx hb dX3_isName_0 rfl (lv_at hl 0 rfl) ?_
  refine lv_iconst (v := nI 1) hx hb dX3_isName_1 (by decide) ?_
  refine lv_icmp_lt (tgt := 11) hx hb dX3_isName_2 (by decide) (fun c_1 => ?_) (fun c_1 => ?_)
  · skip
    refine lv_iconst (v := nI 0) hx hb dX3_isName_11 (by decide) ?_
    exact z_zret hx hb hr hlk hP hD hS dX3_isName_12 (by decide) (by rw [zName_lo c_1]; rfl) rfl
  · skip
    refine lv_iload_n hx hb dX3_isName_5 rfl (lv_at hl 0 rfl) ?_
    refine z_ldc (v' := nI 387420488) hx hb hown ct_193 dX3_isName_6 rfl ?_
    refine lv_icmp_le (tgt := 13) hx hb dX3_isName_8 (by decide) (fun c_2 => ?_) (fun c_2 => ?_)
    · skip
      obtain ⟨k, hk1, hk2, hxk⟩ := zName_ex c_1 c_2
      rw [hxk] at hl
      refine lv_iload_n hx hb dX3_isName_13 rfl (lv_at hl 0 rfl) ?_
      refine lv_istore_n (lv' := [(1, .int (nI k)), (0, .int (nI k))]) hx hb dX3_isName_14 rfl hl (by decide) rfl (fun ls hl => ?_)
      refine lv_iconst (v := nI 0) hx hb dX3_isName_15 (by decide) ?_
      refine lv_istore_n (lv' := [(2, .int (nI 0)), (1, .int (nI k)), (0, .int (nI k))]) hx hb dX3_isName_16 rfl hl (by decide) rfl (fun ls hl => ?_)
      have key_3 : ∀ (nn : Nat) (i r : Nat), i ≤ 6 → r ≤ 387420488 → digOk 6 k = digOk (6 - i) r → 6 - i < nn → ∀ (H : Heap) (locs : List Loc) (ls : Array Slot), va_P G.1 vwCl ([]) H → va_D A ([]) → va_S A s.heap H locs → lv_has ls 3 [(0, .int (nI k)), (1, .int (nI r)), (2, .int (nI i))] → W p l ee (zRm 0 0) s m args below meth c H locs 0 0 (MQ below (ZQi G A ([]) (bI (zName x))) args s 0 0 A) (F0 m 17 ls []) := by
        intro nn
        induction nn with
        | zero => intro i r _ _ _ hm; exact absurd hm (Nat.not_lt_zero _)
        | succ nn ih_3 =>
          intro i r hi hr1 hd hm H locs ls hP hD hS hl
          refine lv_iload_n hx hb dX3_isName_17 rfl (lv_at hl 2 rfl) ?_
          refine lv_bipush (v := nI 6) hx hb dX3_isName_18 (by decide) ?_
          refine z_ge (tgt := 47) hx hb dX3_isName_20 (by decide) (by omega) (by omega) (fun c_4 => ?_) (fun c_4 => ?_)
          · skip
            refine lv_iconst (v := nI 1) hx hb dX3_isName_47 (by decide) ?_
            exact z_zret hx hb hr hlk hP hD hS dX3_isName_48 (by decide) (by rw [hxk, zName_N hk1 hk2, hd, digOk_end (by omega)]; rfl) rfl
          · skip
            refine lv_iload_n hx hb dX3_isName_23 rfl (lv_at hl 1 rfl) ?_
            refine z_ifNle (tgt := 47) hx hb dX3_isName_24 (by decide) (by omega) (fun c_5 => ?_) (fun c_5 => ?_)
            · skip
              refine lv_iconst (v := nI 1) hx hb dX3_isName_47 (by decide) ?_
              exact z_zret hx hb hr hlk hP hD hS dX3_isName_48 (by decide) (by rw [hxk, zName_N hk1 hk2, hd, digOk_end (by omega)]; rfl) rfl
            · skip
              refine lv_iload_n hx hb dX3_isName_27 rfl (lv_at hl 1 rfl) ?_
              refine lv_bipush (v := nI 27) hx hb dX3_isName_28 (by decide) ?_
              refine z_rem (v := nI (r % 27)) hx hb dX3_isName_30 (by decide) (pk_rem (by omega) (by decide) (by decide)) ?_
              refine z_ifNne (tgt := 36) hx hb dX3_isName_31 (by decide) (by omega) (fun c_6 => ?_) (fun c_6 => ?_)
              · skip
                refine lv_iload_n hx hb dX3_isName_36 rfl (lv_at hl 1 rfl) ?_
                refine lv_bipush (v := nI 27) hx hb dX3_isName_37 (by decide) ?_
                refine z_div (v := nI (r / 27)) hx hb dX3_isName_39 (by decide) (pk_div (by omega) (by decide) (by decide)) ?_
                refine lv_istore_n (lv' := [(1, .int (nI (r / 27))), (0, .int (nI k)), (2, .int (nI i))]) hx hb dX3_isName_40 rfl hl (by decide) rfl (fun ls hl => ?_)
                refine lv_iinc (v := nI (i + 1)) (lv' := [(2, .int (nI (i + 1))), (1, .int (nI (r / 27))), (0, .int (nI k))]) hx hb dX3_isName_41 hl (k := 2) rfl (nI_1 _) (by decide) rfl (fun ls hl => ?_)
                refine lv_goto (tgt := 17) hx hb dX3_isName_44 (by decide) ?_
                exact ih_3 (i + 1) (r / 27) (by omega) (by omega) (hd.trans (digOk_go (by omega) (by omega) (by omega))) (by omega) _ _ _ hP hD hS (lv_sub hl [2, 1, 0] rfl)
              · skip
                refine lv_iconst (v := nI 0) hx hb dX3_isName_34 (by decide) ?_
                exact z_zret hx hb hr hlk hP hD hS dX3_isName_35 (by decide) (by rw [hxk, zName_N hk1 hk2, hd, digOk_bad (by omega) (by omega) (by omega)]; rfl) rfl
      exact key_3 _ 0 k (by omega) (by omega) rfl (Nat.lt_succ_self _) _ _ _ hP hD hS (lv_sub hl [2, 1, 0] rfl)
    · skip
      refine lv_iconst (v := nI 0) hx hb dX3_isName_11 (by decide) ?_
      exact z_zret hx hb hr hlk hP hD hS dX3_isName_12 (by decide) (by rw [zName_hi c_2]; rfl) rfl

set_option maxHeartbeats 4000000 in
set_option maxRecDepth 100000 in
theorem c_X3_orderKey (l : Launch) (G : ZG) (k : Nat) (hk : k < 387420489) : CI l G yX3_orderKey wsX3_orderKey (zRm 0 0) [.int (nI k)] ([]) (nI (padK 5 k)) ([]) := by
  refine CI.ent (cc := cX3_orderKey) (maxL := 3) (ty := .int) (own := RX3) (by decide) rfl rfl (Nat.le_of_ble_eq_true rfl) ?_
  intro p ee s m args below meth c A ls F hr hlk hKK hP hD hA hS hl
  obtain ⟨hx, hb, hml, hown, hts⟩ := id F
  have hl : lv_has ls 3 [(0, .int (nI k))] := hl
  have ct_194 := hts (.constant RX3 194 (14348907)) (by decide +kernel)
  refine lv_iload_n hx hb dX3_orderKey_0 rfl (lv_at hl 0 rfl) ?_
  refine lv_istore_n (lv' := [(1, .int (nI k)), (0, .int (nI k))]) hx hb dX3_orderKey_1 rfl hl (by decide) rfl (fun ls hl => ?_)
  refine lv_iconst (v := nI 1) hx hb dX3_orderKey_2 (by decide) ?_
  refine lv_istore_n (lv' := [(2, .int (nI 1)), (1, .int (nI k)), (0, .int (nI k))]) hx hb dX3_orderKey_3 rfl hl (by decide) rfl (fun ls hl => ?_)
  have key_1 : ∀ (nn : Nat) (i r : Nat), 1 ≤ i → i ≤ 6 → r < 387420489 → padK 5 k = padK (6 - i) r → 6 - i < nn → ∀ (H : Heap) (locs : List Loc) (ls : Array Slot), va_P G.1 vwCl ([]) H → va_D A ([]) → va_S A s.heap H locs → lv_has ls 3 [(0, .int (nI k)), (1, .int (nI r)), (2, .int (nI i))] → W p l ee (zRm 0 0) s m args below meth c H locs 0 0 (MQ below (ZQi G A ([]) (nI (padK 5 k))) args s 0 0 A) (F0 m 4 ls []) := by
    intro nn
    induction nn with
    | zero => intro i r _ _ _ _ hm; exact absurd hm (Nat.not_lt_zero _)
    | succ nn ih_1 =>
      intro i r hi1 hi hr1 hd hm H locs ls hP hD hS hl
      refine lv_iload_n hx hb dX3_orderKey_4 rfl (lv_at hl 2 rfl) ?_
      refine lv_bipush (v := nI 6) hx hb dX3_orderKey_5 (by decide) ?_
      refine z_ge (tgt := 27) hx hb dX3_orderKey_7 (by decide) (by omega) (by omega) (fun c_2 => ?_) (fun c_2 => ?_)
      · skip
        refine lv_iload_n hx hb dX3_orderKey_27 rfl (lv_at hl 1 rfl) ?_
        exact z_iret hx hb hr hlk hP hD hS dX3_orderKey_28 (by rw [hd, padK_end (by omega)]) rfl
      · skip
        refine lv_iload_n hx hb dX3_orderKey_10 rfl (lv_at hl 1 rfl) ?_
        refine z_ldc (v' := nI 14348907) hx hb hown ct_194 dX3_orderKey_11 rfl ?_
        refine z_ge (tgt := 27) hx hb dX3_orderKey_13 (by decide) (by omega) (by omega) (fun c_3 => ?_) (fun c_3 => ?_)
        · skip
          refine lv_iload_n hx hb dX3_orderKey_27 rfl (lv_at hl 1 rfl) ?_
          exact z_iret hx hb hr hlk hP hD hS dX3_orderKey_28 (by rw [hd, padK_end (by omega)]) rfl
        · skip
          refine lv_iload_n hx hb dX3_orderKey_16 rfl (lv_at hl 1 rfl) ?_
          refine lv_bipush (v := nI 27) hx hb dX3_orderKey_17 (by decide) ?_
          refine z_mul (v := nI (r * 27)) hx hb dX3_orderKey_19 (pk_mul _ _) ?_
          refine lv_istore_n (lv' := [(1, .int (nI (r * 27))), (0, .int (nI k)), (2, .int (nI i))]) hx hb dX3_orderKey_20 rfl hl (by decide) rfl (fun ls hl => ?_)
          refine lv_iinc (v := nI (i + 1)) (lv' := [(2, .int (nI (i + 1))), (1, .int (nI (r * 27))), (0, .int (nI k))]) hx hb dX3_orderKey_21 hl (k := 2) rfl (nI_1 _) (by decide) rfl (fun ls hl => ?_)
          refine lv_goto (tgt := 4) hx hb dX3_orderKey_24 (by decide) ?_
          exact ih_1 (i + 1) (r * 27) (by omega) (by omega) (by omega) (hd.trans (padK_go (by omega) (by omega))) (by omega) _ _ _ hP hD hS (lv_sub hl [2, 1, 0] rfl)
  exact key_1 _ 1 k (by omega) (by omega) (by omega) rfl (Nat.lt_succ_self _) _ _ _ hP hD hS (lv_sub hl [2, 1, 0] rfl)

set_option maxHeartbeats 4000000 in
set_option maxRecDepth 100000 in
theorem c_X3_beginsWith (l : Launch) (G : ZG) (k w : Nat) (hk : k < 387420489) (hw : w < 387420489) : CI l G yX3_beginsWith wsX3_beginsWith (zRm 0 0) [.int (nI k), .int (nI w)] ([]) (bI (decide (begK 5 k w = w))) ([]) := by
  refine CI.ent (cc := cX3_beginsWith) (maxL := 4) (ty := .boolean) (own := RX3) (by decide) rfl rfl (Nat.le_of_ble_eq_true rfl) ?_
  intro p ee s m args below meth c A ls F hr hlk hKK hP hD hA hS hl
  obtain ⟨hx, hb, hml, hown, hts⟩ := id F
  have hl : lv_has ls 4 [(0, .int (nI k)), (1, .int (nI w))] := hl
  refine lv_iload_n hx hb dX3_beginsWith_0 rfl (lv_at hl 0 rfl) ?_
  refine lv_istore_n (lv' := [(2, .int (nI k)), (0, .int (nI k)), (1, .int (nI w))]) hx hb dX3_beginsWith_1 rfl hl (by decide) rfl (fun ls hl => ?_)
  refine lv_iconst (v := nI 1) hx hb dX3_beginsWith_2 (by decide) ?_
  refine lv_istore_n (lv' := [(3, .int (nI 1)), (2, .int (nI k)), (0, .int (nI k)), (1, .int (nI w))]) hx hb dX3_beginsWith_3 rfl hl (by decide) rfl (fun ls hl => ?_)
  have key_1 : ∀ (nn : Nat) (i r : Nat), 1 ≤ i → i ≤ 6 → r < 387420489 → begK 5 k w = begK (6 - i) r w → 6 - i < nn → ∀ (H : Heap) (locs : List Loc) (ls : Array Slot), va_P G.1 vwCl ([]) H → va_D A ([]) → va_S A s.heap H locs → lv_has ls 4 [(0, .int (nI k)), (1, .int (nI w)), (2, .int (nI r)), (3, .int (nI i))] → W p l ee (zRm 0 0) s m args below meth c H locs 0 0 (MQ below (ZQi G A ([]) (bI (decide (begK 5 k w = w)))) args s 0 0 A) (F0 m 4 ls []) := by
    intro nn
    induction nn with
    | zero => intro i r _ _ _ _ hm; exact absurd hm (Nat.not_lt_zero _)
    | succ nn ih_1 =>
      intro i r hi1 hi hr1 hd hm H locs ls hP hD hS hl
      refine lv_iload_n hx hb dX3_beginsWith_4 rfl (lv_at hl 3 rfl) ?_
      refine lv_bipush (v := nI 6) hx hb dX3_beginsWith_5 (by decide) ?_
      refine z_ge (tgt := 26) hx hb dX3_beginsWith_7 (by decide) (by omega) (by omega) (fun c_2 => ?_) (fun c_2 => ?_)
      · skip
        refine lv_iload_n hx hb dX3_beginsWith_26 rfl (lv_at hl 2 rfl) ?_
        refine lv_iload_n hx hb dX3_beginsWith_27 rfl (lv_at hl 1 rfl) ?_
        refine z_ne (tgt := 35) hx hb dX3_beginsWith_28 (by decide) (by omega) (by omega) (fun c_3 => ?_) (fun c_3 => ?_)
        · skip
          refine lv_iconst (v := nI 0) hx hb dX3_beginsWith_35 (by decide) ?_
          exact z_zret hx hb hr hlk hP hD hS dX3_beginsWith_36 (by decide) (by rw [hd, begK_end (by omega)]; first | (rw [decide_eq_true (by omega)]; rfl) | (rw [decide_eq_false (by omega)]; rfl)) rfl
        · skip
          refine lv_iconst (v := nI 1) hx hb dX3_beginsWith_31 (by decide) ?_
          refine lv_goto (tgt := 36) hx hb dX3_beginsWith_32 (by decide) ?_
          exact z_zret hx hb hr hlk hP hD hS dX3_beginsWith_36 (by decide) (by rw [hd, begK_end (by omega)]; first | (rw [decide_eq_true (by omega)]; rfl) | (rw [decide_eq_false (by omega)]; rfl)) rfl
      · skip
        refine lv_iload_n hx hb dX3_beginsWith_10 rfl (lv_at hl 2 rfl) ?_
        refine lv_iload_n hx hb dX3_beginsWith_11 rfl (lv_at hl 1 rfl) ?_
        refine z_le (tgt := 26) hx hb dX3_beginsWith_12 (by decide) (by omega) (by omega) (fun c_4 => ?_) (fun c_4 => ?_)
        · skip
          refine lv_iload_n hx hb dX3_beginsWith_26 rfl (lv_at hl 2 rfl) ?_
          refine lv_iload_n hx hb dX3_beginsWith_27 rfl (lv_at hl 1 rfl) ?_
          refine z_ne (tgt := 35) hx hb dX3_beginsWith_28 (by decide) (by omega) (by omega) (fun c_5 => ?_) (fun c_5 => ?_)
          · skip
            refine lv_iconst (v := nI 0) hx hb dX3_beginsWith_35 (by decide) ?_
            exact z_zret hx hb hr hlk hP hD hS dX3_beginsWith_36 (by decide) (by rw [hd, begK_end (by omega)]; first | (rw [decide_eq_true (by omega)]; rfl) | (rw [decide_eq_false (by omega)]; rfl)) rfl
          · skip
            refine lv_iconst (v := nI 1) hx hb dX3_beginsWith_31 (by decide) ?_
            refine lv_goto (tgt := 36) hx hb dX3_beginsWith_32 (by decide) ?_
            exact z_zret hx hb hr hlk hP hD hS dX3_beginsWith_36 (by decide) (by rw [hd, begK_end (by omega)]; first | (rw [decide_eq_true (by omega)]; rfl) | (rw [decide_eq_false (by omega)]; rfl)) rfl
        · skip
          refine lv_iload_n hx hb dX3_beginsWith_15 rfl (lv_at hl 2 rfl) ?_
          refine lv_bipush (v := nI 27) hx hb dX3_beginsWith_16 (by decide) ?_
          refine z_div (v := nI (r / 27)) hx hb dX3_beginsWith_18 (by decide) (pk_div (by omega) (by decide) (by decide)) ?_
          refine lv_istore_n (lv' := [(2, .int (nI (r / 27))), (0, .int (nI k)), (1, .int (nI w)), (3, .int (nI i))]) hx hb dX3_beginsWith_19 rfl hl (by decide) rfl (fun ls hl => ?_)
          refine lv_iinc (v := nI (i + 1)) (lv' := [(3, .int (nI (i + 1))), (2, .int (nI (r / 27))), (0, .int (nI k)), (1, .int (nI w))]) hx hb dX3_beginsWith_20 hl (k := 3) rfl (nI_1 _) (by decide) rfl (fun ls hl => ?_)
          refine lv_goto (tgt := 4) hx hb dX3_beginsWith_23 (by decide) ?_
          exact ih_1 (i + 1) (r / 27) (by omega) (by omega) (by omega) (hd.trans (begK_go (by omega) (by omega))) (by omega) _ _ _ hP hD hS (lv_sub hl [2, 3, 1, 0] rfl)
  exact key_1 _ 1 k (by omega) (by omega) (by omega) rfl (Nat.lt_succ_self _) _ _ _ hP hD hS (lv_sub hl [2, 3, 1, 0] rfl)

set_option maxHeartbeats 4000000 in
set_option maxRecDepth 100000 in
theorem c_J7_fill (l : Launch) (G : ZG) (q n : Nat) (hn : n < 2 ^ 31) (x : Int32) (f : Nat → Int32) : CV l G yJ7_fill_53178 wsJ7_fill_53178 (zRm 0 0) [.ref q, .int x] ([(q, .inl (G.2.1, n, .inl f))]) ([(q, .inl (G.2.1, n, .inl (zFillA n x f)))]) := by
  refine CV.ent (cc := cJ7_fill_53178) (maxL := 4) (own := RJ7) (by decide) rfl rfl (Nat.le_of_ble_eq_true rfl) ?_
  intro p ee s m args below meth c A ls F hr hlk hKK hP hD hA hS hl
  obtain ⟨hx, hb, hml, hown, hts⟩ := id F
  have hl : lv_has ls 4 [(0, .ref q), (1, .int x)] := hl
  refine lv_iconst (v := nI 0) hx hb dJ7_fill_53178_0 (by decide) ?_
  refine lv_istore_n (lv' := [(2, .int (nI 0)), (0, .ref q), (1, .int x)]) hx hb dJ7_fill_53178_1 rfl hl (by decide) rfl (fun ls hl => ?_)
  refine lv_aload_n hx hb dJ7_fill_53178_2 rfl (lv_at hl 1 rfl) ?_
  refine z_alen (n := n) hx hb hKK hP 0 rfl dJ7_fill_53178_3 ?_
  refine lv_istore_n (lv' := [(3, .int (nI n)), (2, .int (nI 0)), (0, .ref q), (1, .int x)]) hx hb dJ7_fill_53178_4 rfl hl (by decide) rfl (fun ls hl => ?_)
  have key_1 : ∀ (nn : Nat) (i : Nat), i ≤ n → n - i < nn → ∀ (H : Heap) (locs : List Loc) (ls : Array Slot), va_P G.1 vwCl ([(q, .inl (G.2.1, n, .inl (zFillTo i x f)))]) H → va_D A ([(q, .inl (G.2.1, n, .inl (zFillTo i x f)))]) → va_S A s.heap H locs → lv_has ls 4 [(0, .ref q), (1, .int x), (2, .int (nI i)), (3, .int (nI n))] → W p l ee (zRm 0 0) s m args below meth c H locs 0 0 (MQ below (ZQv G A ([(q, .inl (G.2.1, n, .inl (zFillA n x f)))])) args s 0 0 A) (F0 m 5 ls []) := by
    intro nn
    induction nn with
    | zero => intro i _ hm; exact absurd hm (Nat.not_lt_zero _)
    | succ nn ih_1 =>
      intro i hi hm H locs ls hP hD hS hl
      refine lv_iload_n hx hb dJ7_fill_53178_5 rfl (lv_at hl 2 rfl) ?_
      refine lv_iload_n hx hb dJ7_fill_53178_6 rfl (lv_at hl 3 rfl) ?_
      refine z_ge (tgt := 20) hx hb dJ7_fill_53178_7 (by decide) (by omega) (by omega) (fun c_2 => ?_) (fun c_2 => ?_)
      · skip
        exact z_vret hx hb hr hlk hP hD hS dJ7_fill_53178_20 (by rw [show i = n by omega]; rfl)
      · skip
        refine lv_aload_n hx hb dJ7_fill_53178_10 rfl (lv_at hl 0 rfl) ?_
        refine lv_iload_n hx hb dJ7_fill_53178_11 rfl (lv_at hl 2 rfl) ?_
        refine lv_iload_n hx hb dJ7_fill_53178_12 rfl (lv_at hl 1 rfl) ?_
        refine z_iast (n := n) (f := zFillTo i x f) (w2 := [(q, .inl (G.2.1, n, .inl (upd (zFillTo i x f) i x)))]) hx hb hKK hP hD hS 0 rfl (by omega) hn rfl dJ7_fill_53178_13 (fun H locs hP hD hS => ?_)
        refine lv_iinc (v := nI (i + 1)) (lv' := [(2, .int (nI (i + 1))), (0, .ref q), (1, .int x), (3, .int (nI n))]) hx hb dJ7_fill_53178_14 hl (k := 2) rfl (nI_1 _) (by decide) rfl (fun ls hl => ?_)
        refine lv_goto (tgt := 5) hx hb dJ7_fill_53178_17 (by decide) ?_
        rw [zFillTo_s] at hP hD
        exact ih_1 (i + 1) (by omega) (by omega) _ _ _ hP hD hS (lv_sub hl [1, 2, 0, 3] rfl)
  have e0 : f = zFillTo 0 x f := (zFillTo_0 x f).symm
  rw [e0] at hP hD
  exact key_1 _ 0 (by omega) (Nat.lt_succ_self _) _ _ _ hP hD hS (lv_sub hl [2, 3, 1, 0] rfl)

set_option maxHeartbeats 4000000 in
set_option maxRecDepth 100000 in
theorem c_X1_tagIn (l : Launch) (G : ZG) (e y n : Int32)  : CI l G yX1_tagIn wsX1_tagIn (zRm 0 0) [.int e, .int y, .int n] ([]) (nI 1000000 * e + nI 100 * y + n) ([]) := by
  refine CI.ent (cc := cX1_tagIn) (maxL := 3) (ty := .int) (own := RX1) (by decide) rfl rfl (Nat.le_of_ble_eq_true rfl) ?_
  intro p ee s m args below meth c A ls F hr hlk hKK hP hD hA hS hl
  obtain ⟨hx, hb, hml, hown, hts⟩ := id F
  have hl : lv_has ls 3 [(0, .int e), (1, .int y), (2, .int n)] := hl
  have ct_79 := hts (.constant RX1 79 (1000000)) (by decide +kernel)
  refine z_ldc (v' := nI 1000000) hx hb hown ct_79 dX1_tagIn_0 rfl ?_
  refine lv_iload_n hx hb dX1_tagIn_2 rfl (lv_at hl 0 rfl) ?_
  refine z_mul (v := (nI 1000000) * e) hx hb dX1_tagIn_3 rfl ?_
  refine lv_bipush (v := nI 100) hx hb dX1_tagIn_4 (by decide) ?_
  refine lv_iload_n hx hb dX1_tagIn_6 rfl (lv_at hl 1 rfl) ?_
  refine z_mul (v := (nI 100) * y) hx hb dX1_tagIn_7 rfl ?_
  refine z_add (v := ((nI 1000000) * e) + ((nI 100) * y)) hx hb dX1_tagIn_8 rfl ?_
  refine lv_iload_n hx hb dX1_tagIn_9 rfl (lv_at hl 2 rfl) ?_
  refine z_add (v := (((nI 1000000) * e) + ((nI 100) * y)) + n) hx hb dX1_tagIn_10 rfl ?_
  exact z_iret hx hb hr hlk hP hD hS dX1_tagIn_11 rfl rfl

set_option maxHeartbeats 4000000 in
set_option maxRecDepth 100000 in
theorem c_X1_tagOf (l : Launch) (G : ZG) (a : Nat → Nat) (v : Mem) (n : Nat) (hn : n < 40) : CI l G yX1_tagOf wsX1_tagOf (zRm 1 22) [.ref (a 0), .int (nI n)] (rollW G a v) (nI 1000000 * v 12 0 + nI 100 * v 2 n + nI n) (rollW G a v) := by
  refine CI.ent (cc := cX1_tagOf) (maxL := 2) (ty := .int) (own := RX1) (by decide) rfl rfl (Nat.le_of_ble_eq_true rfl) ?_
  intro p ee s m args below meth c A ls F hr hlk hKK hP hD hA hS hl
  obtain ⟨hx, hb, hml, hown, hts⟩ := id F
  have hl : lv_has ls 2 [(0, .ref (a 0)), (1, .int (nI n))] := hl
  have fl_18 := hts (.fieldLink RX1 18 "NameRolls$Roll" "years" "[I") (by decide +kernel)
  have fl_60 := hts (.fieldLink RX1 60 "NameRolls$Roll" "epoch" "I") (by decide +kernel)
  have hinX1 : ∀ w ∈ wsX10, w ∈ wsX1_tagOf := by decide +kernel
  have st_X3_isBelow := hts (.static yX3_isBelow) (by decide +kernel)
  have ini_X3 := hts (.initialized RX3) (by decide +kernel)
  refine lv_iload_n hx hb dX1_tagOf_0 rfl (lv_at hl 1 rfl) ?_
  refine lv_bipush (v := nI 40) hx hb dX1_tagOf_1 (by decide) ?_
  refine z_callNI (As := [.int (nI n), .int (nI 40)]) (rest := []) F (c_X3_isBelow_N l G (n) (40) (by omega) (by omega)) ⟨va_cnB 2 hts gX1_tagOf_X3_isBelow_n70 rfl rfl rfl hKK.2.1 ini_X3 (by decide +kernel) ⟨Nat.le_of_ble_eq_true rfl, Nat.le_of_ble_eq_true rfl⟩, st_X3_isBelow, trivial⟩ hKK hP hD hS hA rfl hl.1 rfl (Nat.le_of_ble_eq_true rfl) ⟨Nat.zero_le _, Nat.zero_le _⟩ dX1_tagOf_3 (fun H locs hP hD hS => ?_)
  refine z_ifBeq (tgt := 26) hx hb dX1_tagOf_6 (by decide) (fun c_1 => absurd c_1 (by simp; omega)) (fun c_1 => ?_)
  refine lv_aload_n hx hb dX1_tagOf_9 rfl (lv_at hl 0 rfl) ?_
  refine va_get (D := G.1) (ci := 1) (v := .int (v 12 0)) (C := RX1) (T := TX1) (N := 15) hx hb hts hinX1 hown hKK.1 hP 0 rfl rfl 4 (by decide) fl_60 (fun _ h9 => h9) rfl dX1_tagOf_10 ?_
  refine lv_aload_n hx hb dX1_tagOf_13 rfl (lv_at hl 0 rfl) ?_
  refine va_get (D := G.1) (ci := 1) (v := .ref (a 3)) (C := RX1) (T := TX1) (N := 15) hx hb hts hinX1 hown hKK.1 hP 0 rfl rfl 2 (by decide) fl_18 (fun _ h9 => h9) rfl dX1_tagOf_14 ?_
  refine lv_iload_n hx hb dX1_tagOf_17 rfl (lv_at hl 1 rfl) ?_
  refine z_iald (n := 40) (f := v 2) (v := v 2 n) hx hb hKK hP 3 rfl (by omega) (by decide) rfl dX1_tagOf_18 ?_
  refine lv_iload_n hx hb dX1_tagOf_19 rfl (lv_at hl 1 rfl) ?_
  refine z_callSI (As := [.int (v 12 0), .int (v 2 n), .int (nI n)]) (rest := []) F (c_X1_tagIn l G (v 12 0) (v 2 n) (nI n)) (va_cwS 3 hts gX1_tagOf_X1_tagIn rfl rfl rfl (by decide +kernel) ⟨Nat.le_of_ble_eq_true rfl, Nat.le_of_ble_eq_true rfl⟩) hKK hP hD hS hA rfl hl.1 rfl (Nat.le_of_ble_eq_true rfl) ⟨Nat.zero_le _, Nat.zero_le _⟩ dX1_tagOf_20 (fun H locs hP hD hS => ?_)
  refine lv_goto (tgt := 28) hx hb dX1_tagOf_23 (by decide) ?_
  exact z_iret hx hb hr hlk hP hD hS dX1_tagOf_28 rfl rfl

set_option maxHeartbeats 4000000 in
set_option maxRecDepth 100000 in
theorem c_X1_numberWith (l : Launch) (G : ZG) (a : Nat → Nat) (v : Mem) (x : Int32)  : CI l G yX1_numberWith wsX1_numberWith (zRm 0 0) [.ref (a 0), .int x] (rollW G a v) (zNum (v 0) x) (rollW G a v) := by
  refine CI.ent (cc := cX1_numberWith) (maxL := 3) (ty := .int) (own := RX1) (by decide) rfl rfl (Nat.le_of_ble_eq_true rfl) ?_
  intro p ee s m args below meth c A ls F hr hlk hKK hP hD hA hS hl
  obtain ⟨hx, hb, hml, hown, hts⟩ := id F
  have hl : lv_has ls 3 [(0, .ref (a 0)), (1, .int x)] := hl
  have fl_9 := hts (.fieldLink RX1 9 "NameRolls$Roll" "names" "[I") (by decide +kernel)
  have hinX1 : ∀ w ∈ wsX10, w ∈ wsX1_numberWith := by decide +kernel
  refine lv_iconst (v := nI 0) hx hb dX1_numberWith_0 (by decide) ?_
  refine lv_istore_n (lv' := [(2, .int (nI 0)), (0, .ref (a 0)), (1, .int x)]) hx hb dX1_numberWith_1 rfl hl (by decide) rfl (fun ls hl => ?_)
  have key_1 : ∀ (nn : Nat) (i : Nat), i ≤ 40 → (∀ j, j < i → ¬ v 0 j = x) → 40 - i < nn → ∀ (H : Heap) (locs : List Loc) (ls : Array Slot), va_P G.1 vwCl (rollW G a v) H → va_D A (rollW G a v) → va_S A s.heap H locs → lv_has ls 3 [(0, .ref (a 0)), (1, .int x), (2, .int (nI i))] → W p l ee (zRm 0 0) s m args below meth c H locs 0 0 (MQ below (ZQi G A (rollW G a v) (zNum (v 0) x)) args s 0 0 A) (F0 m 2 ls []) := by
    intro nn
    induction nn with
    | zero => intro i _ _ hm; exact absurd hm (Nat.not_lt_zero _)
    | succ nn ih_1 =>
      intro i hi hno hm H locs ls hP hD hS hl
      refine lv_iload_n hx hb dX1_numberWith_2 rfl (lv_at hl 2 rfl) ?_
      refine lv_bipush (v := nI 40) hx hb dX1_numberWith_3 (by decide) ?_
      refine z_ge (tgt := 26) hx hb dX1_numberWith_5 (by decide) (by omega) (by omega) (fun c_2 => ?_) (fun c_2 => ?_)
      · skip
        refine lv_iconst (v := (-1)) hx hb dX1_numberWith_26 (by decide) ?_
        exact z_iret hx hb hr hlk hP hD hS dX1_numberWith_27 (zNum_no (by omega) hno) rfl
      · skip
        refine lv_aload_n hx hb dX1_numberWith_8 rfl (lv_at hl 0 rfl) ?_
        refine va_get (D := G.1) (ci := 1) (v := .ref (a 1)) (C := RX1) (T := TX1) (N := 15) hx hb hts hinX1 hown hKK.1 hP 0 rfl rfl 0 (by decide) fl_9 (fun _ h9 => h9) rfl dX1_numberWith_9 ?_
        refine lv_iload_n hx hb dX1_numberWith_12 rfl (lv_at hl 2 rfl) ?_
        refine z_iald (n := 40) (f := v 0) (v := v 0 i) hx hb hKK hP 1 rfl (by omega) (by decide) rfl dX1_numberWith_13 ?_
        refine lv_iload_n hx hb dX1_numberWith_14 rfl (lv_at hl 1 rfl) ?_
        refine lv_icmp_ne (tgt := 20) hx hb dX1_numberWith_15 (by decide) (fun c_3 => ?_) (fun c_3 => ?_)
        · skip
          refine lv_iinc (v := nI (i + 1)) (lv' := [(2, .int (nI (i + 1))), (0, .ref (a 0)), (1, .int x)]) hx hb dX1_numberWith_20 hl (k := 2) rfl (nI_1 _) (by decide) rfl (fun ls hl => ?_)
          refine lv_goto (tgt := 2) hx hb dX1_numberWith_23 (by decide) ?_
          exact ih_1 (i + 1) (by omega) (z_ext hno c_3) (by omega) _ _ _ hP hD hS (lv_sub hl [1, 2, 0] rfl)
        · skip
          refine lv_iload_n hx hb dX1_numberWith_18 rfl (lv_at hl 2 rfl) ?_
          exact z_iret hx hb hr hlk hP hD hS dX1_numberWith_19 (zNum_at (by omega) c_3 hno) rfl
  exact key_1 _ 0 (by omega) (fun j hj => absurd hj (Nat.not_lt_zero j)) (Nat.lt_succ_self _) _ _ _ hP hD hS (lv_sub hl [1, 2, 0] rfl)

set_option maxHeartbeats 4000000 in
set_option maxRecDepth 100000 in
theorem c_X1_cellsWith (l : Launch) (G : ZG) (a : Nat → Nat) (v : Mem) (x : Int32)  : CI l G yX1_cellsWith wsX1_cellsWith (zRm 0 0) [.ref (a 0), .int x] (rollW G a v) (nI (zCells (v 3) x)) (rollW G a v) := by
  refine CI.ent (cc := cX1_cellsWith) (maxL := 4) (ty := .int) (own := RX1) (by decide) rfl rfl (Nat.le_of_ble_eq_true rfl) ?_
  intro p ee s m args below meth c A ls F hr hlk hKK hP hD hA hS hl
  obtain ⟨hx, hb, hml, hown, hts⟩ := id F
  have hl : lv_has ls 4 [(0, .ref (a 0)), (1, .int x)] := hl
  have fl_21 := hts (.fieldLink RX1 21 "NameRolls$Roll" "cells" "[I") (by decide +kernel)
  have hinX1 : ∀ w ∈ wsX10, w ∈ wsX1_cellsWith := by decide +kernel
  refine lv_iconst (v := nI 0) hx hb dX1_cellsWith_0 (by decide) ?_
  refine lv_istore_n (lv' := [(2, .int (nI 0)), (0, .ref (a 0)), (1, .int x)]) hx hb dX1_cellsWith_1 rfl hl (by decide) rfl (fun ls hl => ?_)
  refine lv_iconst (v := nI 0) hx hb dX1_cellsWith_2 (by decide) ?_
  refine lv_istore_n (lv' := [(3, .int (nI 0)), (2, .int (nI 0)), (0, .ref (a 0)), (1, .int x)]) hx hb dX1_cellsWith_3 rfl hl (by decide) rfl (fun ls hl => ?_)
  have key_1 : ∀ (nn : Nat) (i : Nat), i ≤ 18 → 18 - i < nn → ∀ (H : Heap) (locs : List Loc) (ls : Array Slot), va_P G.1 vwCl (rollW G a v) H → va_D A (rollW G a v) → va_S A s.heap H locs → lv_has ls 4 [(0, .ref (a 0)), (1, .int x), (2, .int (nI (fb_ct (fun i => decide (v 3 i = x)) i))), (3, .int (nI i))] → W p l ee (zRm 0 0) s m args below meth c H locs 0 0 (MQ below (ZQi G A (rollW G a v) (nI (zCells (v 3) x))) args s 0 0 A) (F0 m 4 ls []) := by
    intro nn
    induction nn with
    | zero => intro i _ hm; exact absurd hm (Nat.not_lt_zero _)
    | succ nn ih_1 =>
      intro i hi hm H locs ls hP hD hS hl
      refine lv_iload_n hx hb dX1_cellsWith_4 rfl (lv_at hl 3 rfl) ?_
      refine lv_aload_n hx hb dX1_cellsWith_5 rfl (lv_at hl 0 rfl) ?_
      refine va_get (D := G.1) (ci := 1) (v := .ref (a 4)) (C := RX1) (T := TX1) (N := 15) hx hb hts hinX1 hown hKK.1 hP 0 rfl rfl 3 (by decide) fl_21 (fun _ h9 => h9) rfl dX1_cellsWith_6 ?_
      refine z_alen (n := 18) hx hb hKK hP 4 rfl dX1_cellsWith_9 ?_
      refine z_ge (tgt := 32) hx hb dX1_cellsWith_10 (by decide) (by omega) (by omega) (fun c_2 => ?_) (fun c_2 => ?_)
      · skip
        refine lv_iload_n hx hb dX1_cellsWith_32 rfl (lv_at hl 2 rfl) ?_
        exact z_iret hx hb hr hlk hP hD hS dX1_cellsWith_33 (by rw [show i = 18 by omega]; rfl) rfl
      · skip
        refine lv_aload_n hx hb dX1_cellsWith_13 rfl (lv_at hl 0 rfl) ?_
        refine va_get (D := G.1) (ci := 1) (v := .ref (a 4)) (C := RX1) (T := TX1) (N := 15) hx hb hts hinX1 hown hKK.1 hP 0 rfl rfl 3 (by decide) fl_21 (fun _ h9 => h9) rfl dX1_cellsWith_14 ?_
        refine lv_iload_n hx hb dX1_cellsWith_17 rfl (lv_at hl 3 rfl) ?_
        refine z_iald (n := 18) (f := v 3) (v := v 3 i) hx hb hKK hP 4 rfl (by omega) (by decide) rfl dX1_cellsWith_18 ?_
        refine lv_iload_n hx hb dX1_cellsWith_19 rfl (lv_at hl 1 rfl) ?_
        refine lv_icmp_ne (tgt := 26) hx hb dX1_cellsWith_20 (by decide) (fun c_3 => ?_) (fun c_3 => ?_)
        · skip
          rw [← fb_ct_f (p := fun i => decide (v 3 i = x)) (n := i) (decide_eq_false c_3)] at hl
          refine lv_iinc (v := nI (i + 1)) (lv' := [(3, .int (nI (i + 1))), (0, .ref (a 0)), (1, .int x), (2, .int (nI (fb_ct (fun i => decide (v 3 i = x)) (i + 1))))]) hx hb dX1_cellsWith_26 hl (k := 3) rfl (nI_1 _) (by decide) rfl (fun ls hl => ?_)
          refine lv_goto (tgt := 4) hx hb dX1_cellsWith_29 (by decide) ?_
          exact ih_1 (i + 1) (by omega) (by omega) _ _ _ hP hD hS (lv_sub hl [1, 2, 3, 0] rfl)
        · skip
          refine lv_iinc (v := nI (fb_ct (fun i => decide (v 3 i = x)) (i + 1))) (lv' := [(2, .int (nI (fb_ct (fun i => decide (v 3 i = x)) (i + 1)))), (0, .ref (a 0)), (1, .int x), (3, .int (nI i))]) hx hb dX1_cellsWith_23 hl (k := 2) rfl (by rw [fb_ct_t (decide_eq_true c_3)]; exact nI_1 _) (by decide) rfl (fun ls hl => ?_)
          refine lv_iinc (v := nI (i + 1)) (lv' := [(3, .int (nI (i + 1))), (2, .int (nI (fb_ct (fun i => decide (v 3 i = x)) (i + 1)))), (0, .ref (a 0)), (1, .int x)]) hx hb dX1_cellsWith_26 hl (k := 3) rfl (nI_1 _) (by decide) rfl (fun ls hl => ?_)
          refine lv_goto (tgt := 4) hx hb dX1_cellsWith_29 (by decide) ?_
          exact ih_1 (i + 1) (by omega) (by omega) _ _ _ hP hD hS (lv_sub hl [2, 3, 1, 0] rfl)
  exact key_1 _ 0 (by omega) (Nat.lt_succ_self _) _ _ _ hP hD hS (lv_sub hl [2, 3, 1, 0] rfl)
end
