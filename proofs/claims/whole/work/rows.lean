section
-- ===== PART A: goes FIRST, ahead of the names: the tables' words, and 'selects' of the private methods out of them =====
/-- a private method of a class that the tables say can be made, by its rows of tables_1 -/
def lw_okq (q : MethodName × Nat) : Prop := (q.1.cls ≠ "java/lang/invoke/MethodHandle" ∧ q.1.cls ≠ "java/lang/invoke/VarHandle") ∧ Cond.instantiable q.1.cls q.2 ∈ tables_1 ∧ Cond.privateMethod q.1 ∈ tables_1 ∧ Cond.instanceMethod q.1 ∈ tables_1
theorem lw_p0 : lw_okq (⟨"SealLine", "addNote", "(III)I"⟩, 11) := ⟨⟨by decide +kernel, by decide +kernel⟩, List.mem_of_getElem? (i := 19) (by decide +kernel), List.mem_of_getElem? (i := 296) (by decide +kernel), List.mem_of_getElem? (i := 297) (by decide +kernel)⟩
theorem lw_p1 : lw_okq (⟨"SealLine$Table", "isCell", "(II)Z"⟩, 4) := ⟨⟨by decide +kernel, by decide +kernel⟩, List.mem_of_getElem? (i := 27) (by decide +kernel), List.mem_of_getElem? (i := 309) (by decide +kernel), List.mem_of_getElem? (i := 310) (by decide +kernel)⟩
theorem lw_p2 : lw_okq (⟨"SealLine$Shelf", "setHand", "([IIIZ)V"⟩, 8) := ⟨⟨by decide +kernel, by decide +kernel⟩, List.mem_of_getElem? (i := 53) (by decide +kernel), List.mem_of_getElem? (i := 317) (by decide +kernel), List.mem_of_getElem? (i := 318) (by decide +kernel)⟩
theorem lw_p3 : lw_okq (⟨"SealLine", "settle", "(I)V"⟩, 11) := ⟨⟨by decide +kernel, by decide +kernel⟩, List.mem_of_getElem? (i := 19) (by decide +kernel), List.mem_of_getElem? (i := 326) (by decide +kernel), List.mem_of_getElem? (i := 327) (by decide +kernel)⟩
theorem lw_p4 : lw_okq (⟨"SealLine$Shelf", "addClean", "(LSealLine$Table;I)Z"⟩, 8) := ⟨⟨by decide +kernel, by decide +kernel⟩, List.mem_of_getElem? (i := 53) (by decide +kernel), List.mem_of_getElem? (i := 334) (by decide +kernel), List.mem_of_getElem? (i := 335) (by decide +kernel)⟩
theorem lw_p5 : lw_okq (⟨"SealLine$Shelf", "isCleanInput", "(I)Z"⟩, 8) := ⟨⟨by decide +kernel, by decide +kernel⟩, List.mem_of_getElem? (i := 53) (by decide +kernel), List.mem_of_getElem? (i := 354) (by decide +kernel), List.mem_of_getElem? (i := 355) (by decide +kernel)⟩
theorem lw_p6 : lw_okq (⟨"SealLine", "areInputs", "(III)Z"⟩, 11) := ⟨⟨by decide +kernel, by decide +kernel⟩, List.mem_of_getElem? (i := 19) (by decide +kernel), List.mem_of_getElem? (i := 378) (by decide +kernel), List.mem_of_getElem? (i := 379) (by decide +kernel)⟩
theorem lw_p7 : lw_okq (⟨"SealLine", "isInRowOfOne", "(IIII)Z"⟩, 11) := ⟨⟨by decide +kernel, by decide +kernel⟩, List.mem_of_getElem? (i := 19) (by decide +kernel), List.mem_of_getElem? (i := 384) (by decide +kernel), List.mem_of_getElem? (i := 385) (by decide +kernel)⟩
theorem lw_p8 : lw_okq (⟨"SealLine", "mixed", "(IIII)J"⟩, 11) := ⟨⟨by decide +kernel, by decide +kernel⟩, List.mem_of_getElem? (i := 19) (by decide +kernel), List.mem_of_getElem? (i := 392) (by decide +kernel), List.mem_of_getElem? (i := 393) (by decide +kernel)⟩
theorem lw_p9 : lw_okq (⟨"SealLine", "stirred", "(JI)J"⟩, 11) := ⟨⟨by decide +kernel, by decide +kernel⟩, List.mem_of_getElem? (i := 19) (by decide +kernel), List.mem_of_getElem? (i := 396) (by decide +kernel), List.mem_of_getElem? (i := 397) (by decide +kernel)⟩
theorem lw_p10 : lw_okq (⟨"SealLine", "addSaying", "(IIIZ)I"⟩, 11) := ⟨⟨by decide +kernel, by decide +kernel⟩, List.mem_of_getElem? (i := 19) (by decide +kernel), List.mem_of_getElem? (i := 429) (by decide +kernel), List.mem_of_getElem? (i := 430) (by decide +kernel)⟩
theorem lw_p11 : lw_okq (⟨"SealLine$Tape", "take", "(I)Z"⟩, 8) := ⟨⟨by decide +kernel, by decide +kernel⟩, List.mem_of_getElem? (i := 142) (by decide +kernel), List.mem_of_getElem? (i := 470) (by decide +kernel), List.mem_of_getElem? (i := 471) (by decide +kernel)⟩
theorem lw_p12 : lw_okq (⟨"SealLine$Tape", "lengthenNumber", "(I)V"⟩, 8) := ⟨⟨by decide +kernel, by decide +kernel⟩, List.mem_of_getElem? (i := 142) (by decide +kernel), List.mem_of_getElem? (i := 477) (by decide +kernel), List.mem_of_getElem? (i := 478) (by decide +kernel)⟩
theorem lw_p13 : lw_okq (⟨"SealLine$Tape", "takeUnit", "(I)Z"⟩, 8) := ⟨⟨by decide +kernel, by decide +kernel⟩, List.mem_of_getElem? (i := 142) (by decide +kernel), List.mem_of_getElem? (i := 481) (by decide +kernel), List.mem_of_getElem? (i := 482) (by decide +kernel)⟩
theorem lw_p14 : lw_okq (⟨"SealLine$Tape", "addStep", "(I)V"⟩, 8) := ⟨⟨by decide +kernel, by decide +kernel⟩, List.mem_of_getElem? (i := 142) (by decide +kernel), List.mem_of_getElem? (i := 485) (by decide +kernel), List.mem_of_getElem? (i := 486) (by decide +kernel)⟩
theorem lw_p15 : lw_okq (⟨"SealLine$Tape", "takeSign", "(I)Z"⟩, 8) := ⟨⟨by decide +kernel, by decide +kernel⟩, List.mem_of_getElem? (i := 142) (by decide +kernel), List.mem_of_getElem? (i := 489) (by decide +kernel), List.mem_of_getElem? (i := 490) (by decide +kernel)⟩
def lw_privs_1 : List (MethodName × Nat) := [(⟨"SealLine", "addNote", "(III)I"⟩, 11), (⟨"SealLine$Table", "isCell", "(II)Z"⟩, 4), (⟨"SealLine$Shelf", "setHand", "([IIIZ)V"⟩, 8), (⟨"SealLine", "settle", "(I)V"⟩, 11), (⟨"SealLine$Shelf", "addClean", "(LSealLine$Table;I)Z"⟩, 8), (⟨"SealLine$Shelf", "isCleanInput", "(I)Z"⟩, 8), (⟨"SealLine", "areInputs", "(III)Z"⟩, 11), (⟨"SealLine", "isInRowOfOne", "(IIII)Z"⟩, 11), (⟨"SealLine", "mixed", "(IIII)J"⟩, 11), (⟨"SealLine", "stirred", "(JI)J"⟩, 11), (⟨"SealLine", "addSaying", "(IIIZ)I"⟩, 11), (⟨"SealLine$Tape", "take", "(I)Z"⟩, 8), (⟨"SealLine$Tape", "lengthenNumber", "(I)V"⟩, 8), (⟨"SealLine$Tape", "takeUnit", "(I)Z"⟩, 8), (⟨"SealLine$Tape", "addStep", "(I)V"⟩, 8), (⟨"SealLine$Tape", "takeSign", "(I)Z"⟩, 8)]
theorem lw_r1 : ∀ q ∈ lw_privs_1, lw_okq q := List.forall_mem_cons.mpr ⟨lw_p0, List.forall_mem_cons.mpr ⟨lw_p1, List.forall_mem_cons.mpr ⟨lw_p2, List.forall_mem_cons.mpr ⟨lw_p3, List.forall_mem_cons.mpr ⟨lw_p4, List.forall_mem_cons.mpr ⟨lw_p5, List.forall_mem_cons.mpr ⟨lw_p6, List.forall_mem_cons.mpr ⟨lw_p7, List.forall_mem_cons.mpr ⟨lw_p8, List.forall_mem_cons.mpr ⟨lw_p9, List.forall_mem_cons.mpr ⟨lw_p10, List.forall_mem_cons.mpr ⟨lw_p11, List.forall_mem_cons.mpr ⟨lw_p12, List.forall_mem_cons.mpr ⟨lw_p13, List.forall_mem_cons.mpr ⟨lw_p14, List.forall_mem_cons.mpr ⟨lw_p15, fun _ h => absurd h List.not_mem_nil⟩⟩⟩⟩⟩⟩⟩⟩⟩⟩⟩⟩⟩⟩⟩⟩
theorem lw_p16 : lw_okq (⟨"SealLine$Tape", "takeDigit", "(I)Z"⟩, 8) := ⟨⟨by decide +kernel, by decide +kernel⟩, List.mem_of_getElem? (i := 142) (by decide +kernel), List.mem_of_getElem? (i := 493) (by decide +kernel), List.mem_of_getElem? (i := 494) (by decide +kernel)⟩
theorem lw_p17 : lw_okq (⟨"SealLine$Tape", "takeJoin", "(I)Z"⟩, 8) := ⟨⟨by decide +kernel, by decide +kernel⟩, List.mem_of_getElem? (i := 142) (by decide +kernel), List.mem_of_getElem? (i := 500) (by decide +kernel), List.mem_of_getElem? (i := 501) (by decide +kernel)⟩
theorem lw_p18 : lw_okq (⟨"SealLine", "refusal", "(III)I"⟩, 11) := ⟨⟨by decide +kernel, by decide +kernel⟩, List.mem_of_getElem? (i := 19) (by decide +kernel), List.mem_of_getElem? (i := 561) (by decide +kernel), List.mem_of_getElem? (i := 562) (by decide +kernel)⟩
theorem lw_p19 : lw_okq (⟨"SealLine$Keys", "isLive", "(I)Z"⟩, 4) := ⟨⟨by decide +kernel, by decide +kernel⟩, List.mem_of_getElem? (i := 186) (by decide +kernel), List.mem_of_getElem? (i := 575) (by decide +kernel), List.mem_of_getElem? (i := 576) (by decide +kernel)⟩
theorem lw_p20 : lw_okq (⟨"SealLine", "ruleHolds", "(I)Z"⟩, 11) := ⟨⟨by decide +kernel, by decide +kernel⟩, List.mem_of_getElem? (i := 19) (by decide +kernel), List.mem_of_getElem? (i := 583) (by decide +kernel), List.mem_of_getElem? (i := 584) (by decide +kernel)⟩
theorem lw_p21 : lw_okq (⟨"SealLine$Rule", "begin", "(I)V"⟩, 3) := ⟨⟨by decide +kernel, by decide +kernel⟩, List.mem_of_getElem? (i := 223) (by decide +kernel), List.mem_of_getElem? (i := 606) (by decide +kernel), List.mem_of_getElem? (i := 607) (by decide +kernel)⟩
theorem lw_p22 : lw_okq (⟨"SealLine", "isCalledBack", "(I)Z"⟩, 11) := ⟨⟨by decide +kernel, by decide +kernel⟩, List.mem_of_getElem? (i := 19) (by decide +kernel), List.mem_of_getElem? (i := 620) (by decide +kernel), List.mem_of_getElem? (i := 621) (by decide +kernel)⟩
theorem lw_p23 : lw_okq (⟨"SealLine", "manyCalledBack", "()I"⟩, 11) := ⟨⟨by decide +kernel, by decide +kernel⟩, List.mem_of_getElem? (i := 19) (by decide +kernel), List.mem_of_getElem? (i := 689) (by decide +kernel), List.mem_of_getElem? (i := 690) (by decide +kernel)⟩
theorem lw_p24 : lw_okq (⟨"SealLine", "manyStanding", "(I)I"⟩, 11) := ⟨⟨by decide +kernel, by decide +kernel⟩, List.mem_of_getElem? (i := 19) (by decide +kernel), List.mem_of_getElem? (i := 716) (by decide +kernel), List.mem_of_getElem? (i := 717) (by decide +kernel)⟩
theorem lw_p25 : lw_okq (⟨"SealLine", "stands", "(I)Z"⟩, 11) := ⟨⟨by decide +kernel, by decide +kernel⟩, List.mem_of_getElem? (i := 19) (by decide +kernel), List.mem_of_getElem? (i := 720) (by decide +kernel), List.mem_of_getElem? (i := 721) (by decide +kernel)⟩
theorem lw_p26 : lw_okq (⟨"SealLine$Judging", "judge", "(LSealLine$Rule;)V"⟩, 3) := ⟨⟨by decide +kernel, by decide +kernel⟩, List.mem_of_getElem? (i := 207) (by decide +kernel), List.mem_of_getElem? (i := 752) (by decide +kernel), List.mem_of_getElem? (i := 753) (by decide +kernel)⟩
theorem lw_p27 : lw_okq (⟨"SealLine$Judging", "weigh", "(LSealLine$Rule;II)V"⟩, 3) := ⟨⟨by decide +kernel, by decide +kernel⟩, List.mem_of_getElem? (i := 207) (by decide +kernel), List.mem_of_getElem? (i := 756) (by decide +kernel), List.mem_of_getElem? (i := 757) (by decide +kernel)⟩
theorem lw_p28 : lw_okq (⟨"SealLine$Proof", "findGrounds", "(LSealLine$Table;LSealLine$Shelf;)V"⟩, 4) := ⟨⟨by decide +kernel, by decide +kernel⟩, List.mem_of_getElem? (i := 99) (by decide +kernel), List.mem_of_getElem? (i := 782) (by decide +kernel), List.mem_of_getElem? (i := 783) (by decide +kernel)⟩
theorem lw_p29 : lw_okq (⟨"SealLine$Proof", "gather", "(LSealLine$Table;I)V"⟩, 4) := ⟨⟨by decide +kernel, by decide +kernel⟩, List.mem_of_getElem? (i := 99) (by decide +kernel), List.mem_of_getElem? (i := 791) (by decide +kernel), List.mem_of_getElem? (i := 792) (by decide +kernel)⟩
theorem lw_p30 : lw_okq (⟨"SealLine$Proof", "want", "(I)V"⟩, 4) := ⟨⟨by decide +kernel, by decide +kernel⟩, List.mem_of_getElem? (i := 99) (by decide +kernel), List.mem_of_getElem? (i := 799) (by decide +kernel), List.mem_of_getElem? (i := 800) (by decide +kernel)⟩
theorem lw_p31 : lw_okq (⟨"SealLine$Proof", "isPart", "(LSealLine$Table;I)Z"⟩, 4) := ⟨⟨by decide +kernel, by decide +kernel⟩, List.mem_of_getElem? (i := 99) (by decide +kernel), List.mem_of_getElem? (i := 805) (by decide +kernel), List.mem_of_getElem? (i := 806) (by decide +kernel)⟩
def lw_privs_2 : List (MethodName × Nat) := [(⟨"SealLine$Tape", "takeDigit", "(I)Z"⟩, 8), (⟨"SealLine$Tape", "takeJoin", "(I)Z"⟩, 8), (⟨"SealLine", "refusal", "(III)I"⟩, 11), (⟨"SealLine$Keys", "isLive", "(I)Z"⟩, 4), (⟨"SealLine", "ruleHolds", "(I)Z"⟩, 11), (⟨"SealLine$Rule", "begin", "(I)V"⟩, 3), (⟨"SealLine", "isCalledBack", "(I)Z"⟩, 11), (⟨"SealLine", "manyCalledBack", "()I"⟩, 11), (⟨"SealLine", "manyStanding", "(I)I"⟩, 11), (⟨"SealLine", "stands", "(I)Z"⟩, 11), (⟨"SealLine$Judging", "judge", "(LSealLine$Rule;)V"⟩, 3), (⟨"SealLine$Judging", "weigh", "(LSealLine$Rule;II)V"⟩, 3), (⟨"SealLine$Proof", "findGrounds", "(LSealLine$Table;LSealLine$Shelf;)V"⟩, 4), (⟨"SealLine$Proof", "gather", "(LSealLine$Table;I)V"⟩, 4), (⟨"SealLine$Proof", "want", "(I)V"⟩, 4), (⟨"SealLine$Proof", "isPart", "(LSealLine$Table;I)Z"⟩, 4)]
theorem lw_r2 : ∀ q ∈ lw_privs_2, lw_okq q := List.forall_mem_cons.mpr ⟨lw_p16, List.forall_mem_cons.mpr ⟨lw_p17, List.forall_mem_cons.mpr ⟨lw_p18, List.forall_mem_cons.mpr ⟨lw_p19, List.forall_mem_cons.mpr ⟨lw_p20, List.forall_mem_cons.mpr ⟨lw_p21, List.forall_mem_cons.mpr ⟨lw_p22, List.forall_mem_cons.mpr ⟨lw_p23, List.forall_mem_cons.mpr ⟨lw_p24, List.forall_mem_cons.mpr ⟨lw_p25, List.forall_mem_cons.mpr ⟨lw_p26, List.forall_mem_cons.mpr ⟨lw_p27, List.forall_mem_cons.mpr ⟨lw_p28, List.forall_mem_cons.mpr ⟨lw_p29, List.forall_mem_cons.mpr ⟨lw_p30, List.forall_mem_cons.mpr ⟨lw_p31, fun _ h => absurd h List.not_mem_nil⟩⟩⟩⟩⟩⟩⟩⟩⟩⟩⟩⟩⟩⟩⟩⟩
theorem lw_p32 : lw_okq (⟨"SealLineModel", "fileFor", "(J)I"⟩, 39) := ⟨⟨by decide +kernel, by decide +kernel⟩, List.mem_of_getElem? (i := 834) (by decide +kernel), List.mem_of_getElem? (i := 973) (by decide +kernel), List.mem_of_getElem? (i := 974) (by decide +kernel)⟩
theorem lw_p33 : lw_okq (⟨"SealLineModel", "addNote", "(III)I"⟩, 39) := ⟨⟨by decide +kernel, by decide +kernel⟩, List.mem_of_getElem? (i := 834) (by decide +kernel), List.mem_of_getElem? (i := 977) (by decide +kernel), List.mem_of_getElem? (i := 978) (by decide +kernel)⟩
theorem lw_p34 : lw_okq (⟨"SealLineModel", "areFiles", "(III)Z"⟩, 39) := ⟨⟨by decide +kernel, by decide +kernel⟩, List.mem_of_getElem? (i := 834) (by decide +kernel), List.mem_of_getElem? (i := 985) (by decide +kernel), List.mem_of_getElem? (i := 986) (by decide +kernel)⟩
theorem lw_p35 : lw_okq (⟨"SealLineModel", "isFile", "(I)Z"⟩, 39) := ⟨⟨by decide +kernel, by decide +kernel⟩, List.mem_of_getElem? (i := 834) (by decide +kernel), List.mem_of_getElem? (i := 989) (by decide +kernel), List.mem_of_getElem? (i := 990) (by decide +kernel)⟩
theorem lw_p36 : lw_okq (⟨"SealLineModel", "mixOf", "(IIII)J"⟩, 39) := ⟨⟨by decide +kernel, by decide +kernel⟩, List.mem_of_getElem? (i := 834) (by decide +kernel), List.mem_of_getElem? (i := 993) (by decide +kernel), List.mem_of_getElem? (i := 994) (by decide +kernel)⟩
theorem lw_p37 : lw_okq (⟨"SealLineModel", "rowOf", "(I)V"⟩, 39) := ⟨⟨by decide +kernel, by decide +kernel⟩, List.mem_of_getElem? (i := 834) (by decide +kernel), List.mem_of_getElem? (i := 1003) (by decide +kernel), List.mem_of_getElem? (i := 1004) (by decide +kernel)⟩
theorem lw_p38 : lw_okq (⟨"SealLineModel", "addRow", "(I)V"⟩, 39) := ⟨⟨by decide +kernel, by decide +kernel⟩, List.mem_of_getElem? (i := 834) (by decide +kernel), List.mem_of_getElem? (i := 1007) (by decide +kernel), List.mem_of_getElem? (i := 1008) (by decide +kernel)⟩
theorem lw_p39 : lw_okq (⟨"SealLineModel", "went", "(II)I"⟩, 39) := ⟨⟨by decide +kernel, by decide +kernel⟩, List.mem_of_getElem? (i := 834) (by decide +kernel), List.mem_of_getElem? (i := 1011) (by decide +kernel), List.mem_of_getElem? (i := 1012) (by decide +kernel)⟩
theorem lw_p40 : lw_okq (⟨"SealLineModel", "says", "(IIIZ)I"⟩, 39) := ⟨⟨by decide +kernel, by decide +kernel⟩, List.mem_of_getElem? (i := 834) (by decide +kernel), List.mem_of_getElem? (i := 1019) (by decide +kernel), List.mem_of_getElem? (i := 1020) (by decide +kernel)⟩
theorem lw_p41 : lw_okq (⟨"SealLineModel", "tests", "()V"⟩, 39) := ⟨⟨by decide +kernel, by decide +kernel⟩, List.mem_of_getElem? (i := 834) (by decide +kernel), List.mem_of_getElem? (i := 1039) (by decide +kernel), List.mem_of_getElem? (i := 1040) (by decide +kernel)⟩
theorem lw_p42 : lw_okq (⟨"SealLineModel", "part", "()V"⟩, 39) := ⟨⟨by decide +kernel, by decide +kernel⟩, List.mem_of_getElem? (i := 834) (by decide +kernel), List.mem_of_getElem? (i := 1043) (by decide +kernel), List.mem_of_getElem? (i := 1044) (by decide +kernel)⟩
theorem lw_p43 : lw_okq (⟨"SealLineModel", "unit", "()V"⟩, 39) := ⟨⟨by decide +kernel, by decide +kernel⟩, List.mem_of_getElem? (i := 834) (by decide +kernel), List.mem_of_getElem? (i := 1047) (by decide +kernel), List.mem_of_getElem? (i := 1048) (by decide +kernel)⟩
theorem lw_p44 : lw_okq (⟨"SealLineModel", "look", "()I"⟩, 39) := ⟨⟨by decide +kernel, by decide +kernel⟩, List.mem_of_getElem? (i := 834) (by decide +kernel), List.mem_of_getElem? (i := 1051) (by decide +kernel), List.mem_of_getElem? (i := 1052) (by decide +kernel)⟩
theorem lw_p45 : lw_okq (⟨"SealLineModel", "fail", "()V"⟩, 39) := ⟨⟨by decide +kernel, by decide +kernel⟩, List.mem_of_getElem? (i := 834) (by decide +kernel), List.mem_of_getElem? (i := 1055) (by decide +kernel), List.mem_of_getElem? (i := 1056) (by decide +kernel)⟩
theorem lw_p46 : lw_okq (⟨"SealLineModel", "say", "(I)V"⟩, 39) := ⟨⟨by decide +kernel, by decide +kernel⟩, List.mem_of_getElem? (i := 834) (by decide +kernel), List.mem_of_getElem? (i := 1059) (by decide +kernel), List.mem_of_getElem? (i := 1060) (by decide +kernel)⟩
theorem lw_p47 : lw_okq (⟨"SealLineModel", "placeOf", "(I)I"⟩, 39) := ⟨⟨by decide +kernel, by decide +kernel⟩, List.mem_of_getElem? (i := 834) (by decide +kernel), List.mem_of_getElem? (i := 1072) (by decide +kernel), List.mem_of_getElem? (i := 1073) (by decide +kernel)⟩
def lw_privs_3 : List (MethodName × Nat) := [(⟨"SealLineModel", "fileFor", "(J)I"⟩, 39), (⟨"SealLineModel", "addNote", "(III)I"⟩, 39), (⟨"SealLineModel", "areFiles", "(III)Z"⟩, 39), (⟨"SealLineModel", "isFile", "(I)Z"⟩, 39), (⟨"SealLineModel", "mixOf", "(IIII)J"⟩, 39), (⟨"SealLineModel", "rowOf", "(I)V"⟩, 39), (⟨"SealLineModel", "addRow", "(I)V"⟩, 39), (⟨"SealLineModel", "went", "(II)I"⟩, 39), (⟨"SealLineModel", "says", "(IIIZ)I"⟩, 39), (⟨"SealLineModel", "tests", "()V"⟩, 39), (⟨"SealLineModel", "part", "()V"⟩, 39), (⟨"SealLineModel", "unit", "()V"⟩, 39), (⟨"SealLineModel", "look", "()I"⟩, 39), (⟨"SealLineModel", "fail", "()V"⟩, 39), (⟨"SealLineModel", "say", "(I)V"⟩, 39), (⟨"SealLineModel", "placeOf", "(I)I"⟩, 39)]
theorem lw_r3 : ∀ q ∈ lw_privs_3, lw_okq q := List.forall_mem_cons.mpr ⟨lw_p32, List.forall_mem_cons.mpr ⟨lw_p33, List.forall_mem_cons.mpr ⟨lw_p34, List.forall_mem_cons.mpr ⟨lw_p35, List.forall_mem_cons.mpr ⟨lw_p36, List.forall_mem_cons.mpr ⟨lw_p37, List.forall_mem_cons.mpr ⟨lw_p38, List.forall_mem_cons.mpr ⟨lw_p39, List.forall_mem_cons.mpr ⟨lw_p40, List.forall_mem_cons.mpr ⟨lw_p41, List.forall_mem_cons.mpr ⟨lw_p42, List.forall_mem_cons.mpr ⟨lw_p43, List.forall_mem_cons.mpr ⟨lw_p44, List.forall_mem_cons.mpr ⟨lw_p45, List.forall_mem_cons.mpr ⟨lw_p46, List.forall_mem_cons.mpr ⟨lw_p47, fun _ h => absurd h List.not_mem_nil⟩⟩⟩⟩⟩⟩⟩⟩⟩⟩⟩⟩⟩⟩⟩⟩
theorem lw_p48 : lw_okq (⟨"SealLineModel", "makersOf", "(I)I"⟩, 39) := ⟨⟨by decide +kernel, by decide +kernel⟩, List.mem_of_getElem? (i := 834) (by decide +kernel), List.mem_of_getElem? (i := 1084) (by decide +kernel), List.mem_of_getElem? (i := 1085) (by decide +kernel)⟩
theorem lw_p49 : lw_okq (⟨"SealLineModel", "isClean", "(I)Z"⟩, 39) := ⟨⟨by decide +kernel, by decide +kernel⟩, List.mem_of_getElem? (i := 834) (by decide +kernel), List.mem_of_getElem? (i := 1091) (by decide +kernel), List.mem_of_getElem? (i := 1092) (by decide +kernel)⟩
theorem lw_p50 : lw_okq (⟨"SealLineModel", "findClean", "()V"⟩, 39) := ⟨⟨by decide +kernel, by decide +kernel⟩, List.mem_of_getElem? (i := 834) (by decide +kernel), List.mem_of_getElem? (i := 1095) (by decide +kernel), List.mem_of_getElem? (i := 1096) (by decide +kernel)⟩
theorem lw_p51 : lw_okq (⟨"SealLineModel", "allClean", "(I)Z"⟩, 39) := ⟨⟨by decide +kernel, by decide +kernel⟩, List.mem_of_getElem? (i := 834) (by decide +kernel), List.mem_of_getElem? (i := 1099) (by decide +kernel), List.mem_of_getElem? (i := 1100) (by decide +kernel)⟩
theorem lw_p52 : lw_okq (⟨"SealLineModel", "handsWith", "(III)I"⟩, 39) := ⟨⟨by decide +kernel, by decide +kernel⟩, List.mem_of_getElem? (i := 834) (by decide +kernel), List.mem_of_getElem? (i := 1103) (by decide +kernel), List.mem_of_getElem? (i := 1104) (by decide +kernel)⟩
theorem lw_p53 : lw_okq (⟨"SealLineModel", "builders", "(I)I"⟩, 39) := ⟨⟨by decide +kernel, by decide +kernel⟩, List.mem_of_getElem? (i := 834) (by decide +kernel), List.mem_of_getElem? (i := 1107) (by decide +kernel), List.mem_of_getElem? (i := 1108) (by decide +kernel)⟩
theorem lw_p54 : lw_okq (⟨"SealLineModel", "holds", "(III)Z"⟩, 39) := ⟨⟨by decide +kernel, by decide +kernel⟩, List.mem_of_getElem? (i := 834) (by decide +kernel), List.mem_of_getElem? (i := 1112) (by decide +kernel), List.mem_of_getElem? (i := 1113) (by decide +kernel)⟩
theorem lw_p55 : lw_okq (⟨"SealLineModel", "isCalled", "(I)Z"⟩, 39) := ⟨⟨by decide +kernel, by decide +kernel⟩, List.mem_of_getElem? (i := 834) (by decide +kernel), List.mem_of_getElem? (i := 1116) (by decide +kernel), List.mem_of_getElem? (i := 1117) (by decide +kernel)⟩
theorem lw_p56 : lw_okq (⟨"SealLineModel", "isCalledNote", "(I)Z"⟩, 39) := ⟨⟨by decide +kernel, by decide +kernel⟩, List.mem_of_getElem? (i := 834) (by decide +kernel), List.mem_of_getElem? (i := 1120) (by decide +kernel), List.mem_of_getElem? (i := 1121) (by decide +kernel)⟩
theorem lw_p57 : lw_okq (⟨"SealLineModel", "calledMany", "()I"⟩, 39) := ⟨⟨by decide +kernel, by decide +kernel⟩, List.mem_of_getElem? (i := 834) (by decide +kernel), List.mem_of_getElem? (i := 1147) (by decide +kernel), List.mem_of_getElem? (i := 1148) (by decide +kernel)⟩
theorem lw_p58 : lw_okq (⟨"SealLineModel", "stands", "(I)Z"⟩, 39) := ⟨⟨by decide +kernel, by decide +kernel⟩, List.mem_of_getElem? (i := 834) (by decide +kernel), List.mem_of_getElem? (i := 1155) (by decide +kernel), List.mem_of_getElem? (i := 1156) (by decide +kernel)⟩
theorem lw_p59 : lw_okq (⟨"SealLineModel", "judged", "()I"⟩, 39) := ⟨⟨by decide +kernel, by decide +kernel⟩, List.mem_of_getElem? (i := 834) (by decide +kernel), List.mem_of_getElem? (i := 1175) (by decide +kernel), List.mem_of_getElem? (i := 1176) (by decide +kernel)⟩
theorem lw_p60 : lw_okq (⟨"SealLineModel", "canHold", "(II)Z"⟩, 39) := ⟨⟨by decide +kernel, by decide +kernel⟩, List.mem_of_getElem? (i := 834) (by decide +kernel), List.mem_of_getElem? (i := 1179) (by decide +kernel), List.mem_of_getElem? (i := 1180) (by decide +kernel)⟩
theorem lw_p61 : lw_okq (⟨"SealLineModel", "firstOf", "(I)I"⟩, 39) := ⟨⟨by decide +kernel, by decide +kernel⟩, List.mem_of_getElem? (i := 834) (by decide +kernel), List.mem_of_getElem? (i := 1191) (by decide +kernel), List.mem_of_getElem? (i := 1192) (by decide +kernel)⟩
def lw_privs_4 : List (MethodName × Nat) := [(⟨"SealLineModel", "makersOf", "(I)I"⟩, 39), (⟨"SealLineModel", "isClean", "(I)Z"⟩, 39), (⟨"SealLineModel", "findClean", "()V"⟩, 39), (⟨"SealLineModel", "allClean", "(I)Z"⟩, 39), (⟨"SealLineModel", "handsWith", "(III)I"⟩, 39), (⟨"SealLineModel", "builders", "(I)I"⟩, 39), (⟨"SealLineModel", "holds", "(III)Z"⟩, 39), (⟨"SealLineModel", "isCalled", "(I)Z"⟩, 39), (⟨"SealLineModel", "isCalledNote", "(I)Z"⟩, 39), (⟨"SealLineModel", "calledMany", "()I"⟩, 39), (⟨"SealLineModel", "stands", "(I)Z"⟩, 39), (⟨"SealLineModel", "judged", "()I"⟩, 39), (⟨"SealLineModel", "canHold", "(II)Z"⟩, 39), (⟨"SealLineModel", "firstOf", "(I)I"⟩, 39)]
theorem lw_r4 : ∀ q ∈ lw_privs_4, lw_okq q := List.forall_mem_cons.mpr ⟨lw_p48, List.forall_mem_cons.mpr ⟨lw_p49, List.forall_mem_cons.mpr ⟨lw_p50, List.forall_mem_cons.mpr ⟨lw_p51, List.forall_mem_cons.mpr ⟨lw_p52, List.forall_mem_cons.mpr ⟨lw_p53, List.forall_mem_cons.mpr ⟨lw_p54, List.forall_mem_cons.mpr ⟨lw_p55, List.forall_mem_cons.mpr ⟨lw_p56, List.forall_mem_cons.mpr ⟨lw_p57, List.forall_mem_cons.mpr ⟨lw_p58, List.forall_mem_cons.mpr ⟨lw_p59, List.forall_mem_cons.mpr ⟨lw_p60, List.forall_mem_cons.mpr ⟨lw_p61, fun _ h => absurd h List.not_mem_nil⟩⟩⟩⟩⟩⟩⟩⟩⟩⟩⟩⟩⟩⟩
def lw_privs : List (MethodName × Nat) := lw_privs_1 ++ (lw_privs_2 ++ (lw_privs_3 ++ (lw_privs_4)))
def lw_tbl : List Cond := k2_sels lw_privs ++ tables_1
theorem lw_privs_ok : ∀ q ∈ lw_privs, lw_okq q := by
  show ∀ q ∈ lw_privs_1 ++ (lw_privs_2 ++ (lw_privs_3 ++ (lw_privs_4))), lw_okq q
  exact List.forall_mem_append.mpr ⟨lw_r1, List.forall_mem_append.mpr ⟨lw_r2, List.forall_mem_append.mpr ⟨lw_r3, lw_r4⟩⟩⟩
end
section
/-! ===== BEGIN words of one list among another's, by their places ===== -/
theorem goodIn_r {big : List Cond} (ws : List Cond) (ps : List Nat) (hp : ws = ps.filterMap (fun i => big[i]?)) (h : ws.all goodWord = true) : GoodIn big ws := by
  intro w hw
  have h1 := List.all_eq_true.mp h w hw
  rw [hp] at hw
  obtain ⟨i, -, hi⟩ := List.mem_filterMap.mp hw
  have hm : w ∈ big := by first | exact List.mem_of_getElem? hi | exact List.getElem?_mem hi
  exact ⟨hm, good_of_word h1⟩
theorem goodIn_app {big a b : List Cond} (ha : GoodIn big a) (hb : GoodIn big b) : GoodIn big (a ++ b) := fun w h => (List.mem_append.mp h).elim (ha w) (hb w)
theorem goodIn_ca {big a b : List Cond} {c : Cond} (ha : GoodIn big (c :: a)) (hb : GoodIn big b) : GoodIn big (c :: (a ++ b)) := fun w h => (List.mem_cons.mp h).elim (fun e => ha w (List.mem_cons.mpr (Or.inl e))) (fun h => (List.mem_append.mp h).elim (fun h => ha w (List.mem_cons.mpr (Or.inr h))) (hb w))
theorem goodIn_sub {big ws : List Cond} (hm : ∀ w ∈ ws, w ∈ big) (h : ws.all goodWord = true) : GoodIn big ws := fun w hw => ⟨hm w hw, good_of_word (List.all_eq_true.mp h w hw)⟩
/-! ===== END ===== -/

/-! ===== BEGIN printed: names, fields, word lists, decode rows ===== -/
def RX0 : String := "SealLine$FileSet"
def TX0 : u_T := fun k => match k with
  | 0 => ("SealLine$FileSet", "low", "J", false)
  | _ => ("SealLine$FileSet", "high", "J", false)
def tyX0 : Nat → FieldType := fun k => match k with
  | 0 => .long
  | _ => .long
abbrev wsX00 : List Cond := u_ws RX0 TX0 2
theorem nmX0 : ∀ a, a < 2 → ∀ b, b < 2 → a ≠ b → (TX0 a).2.1 ≠ (TX0 b).2.1 := by decide +kernel
theorem tyX0_ok : ∀ k, k < 2 → parseFieldDescriptor (TX0 k).2.2.1 = some (tyX0 k) := by decide +kernel
abbrev cX0_init : ByteArray := prog_2_method_1_code
def yX0_init : MethodName := ⟨RX0, "<init>", "()V"⟩
abbrev cX0_empty : ByteArray := prog_2_method_2_code
def yX0_empty : MethodName := ⟨RX0, "empty", "()V"⟩
abbrev cX0_add : ByteArray := prog_2_method_3_code
def yX0_add : MethodName := ⟨RX0, "add", "(I)V"⟩
abbrev cX0_addAll : ByteArray := prog_2_method_4_code
def yX0_addAll : MethodName := ⟨RX0, "addAll", "(LSealLine$FileSet;)V"⟩
abbrev cX0_has : ByteArray := prog_2_method_5_code
def yX0_has : MethodName := ⟨RX0, "has", "(I)Z"⟩
abbrev cX0_meets : ByteArray := prog_2_method_6_code
def yX0_meets : MethodName := ⟨RX0, "meets", "(LSealLine$FileSet;)Z"⟩
abbrev cX0_size : ByteArray := prog_2_method_7_code
def yX0_size : MethodName := ⟨RX0, "size", "()I"⟩
def RX1 : String := "SealLine$Judging"
def TX1 : u_T := fun k => match k with
  | 0 => ("SealLine$Judging", "hands", "I", false)
  | 1 => ("SealLine$Judging", "makerHands", "I", false)
  | _ => ("SealLine$Judging", "known", "Z", false)
def tyX1 : Nat → FieldType := fun k => match k with
  | 0 => .int
  | 1 => .int
  | _ => .boolean
abbrev wsX10 : List Cond := u_ws RX1 TX1 3
theorem nmX1 : ∀ a, a < 3 → ∀ b, b < 3 → a ≠ b → (TX1 a).2.1 ≠ (TX1 b).2.1 := by decide +kernel
theorem tyX1_ok : ∀ k, k < 3 → parseFieldDescriptor (TX1 k).2.2.1 = some (tyX1 k) := by decide +kernel
abbrev cX1_init : ByteArray := prog_3_method_1_code
def yX1_init : MethodName := ⟨RX1, "<init>", "()V"⟩
abbrev cX1_forget : ByteArray := prog_3_method_2_code
def yX1_forget : MethodName := ⟨RX1, "forget", "()V"⟩
abbrev cX1_fewestHands : ByteArray := prog_3_method_3_code
def yX1_fewestHands : MethodName := ⟨RX1, "fewestHands", "(LSealLine$Rule;)I"⟩
abbrev cX1_fewestMakers : ByteArray := prog_3_method_4_code
def yX1_fewestMakers : MethodName := ⟨RX1, "fewestMakers", "(LSealLine$Rule;)I"⟩
abbrev cX1_judge : ByteArray := prog_3_method_5_code
def yX1_judge : MethodName := ⟨RX1, "judge", "(LSealLine$Rule;)V"⟩
abbrev cX1_weigh : ByteArray := prog_3_method_6_code
def yX1_weigh : MethodName := ⟨RX1, "weigh", "(LSealLine$Rule;II)V"⟩
def RX2 : String := "SealLine$Keys"
def TX2 : u_T := fun k => match k with
  | 0 => ("SealLine$Keys", "usesLeft", "[I", true)
  | 1 => ("SealLine$Keys", "ended", "[Z", true)
  | 2 => ("SealLine$Keys", "lost", "[I", true)
  | _ => ("SealLine$Keys", "manySeals", "[I", true)
def tyX2 : Nat → FieldType := fun k => match k with
  | 0 => .array .int
  | 1 => .array .boolean
  | 2 => .array .int
  | _ => .array .int
abbrev wsX20 : List Cond := u_ws RX2 TX2 4
theorem nmX2 : ∀ a, a < 4 → ∀ b, b < 4 → a ≠ b → (TX2 a).2.1 ≠ (TX2 b).2.1 := by decide +kernel
theorem tyX2_ok : ∀ k, k < 4 → parseFieldDescriptor (TX2 k).2.2.1 = some (tyX2 k) := by decide +kernel
abbrev cX2_init : ByteArray := prog_4_method_1_code
def yX2_init : MethodName := ⟨RX2, "<init>", "()V"⟩
abbrev cX2_isKey : ByteArray := prog_4_method_2_code
def yX2_isKey : MethodName := ⟨RX2, "isKey", "(I)Z"⟩
abbrev cX2_isLive : ByteArray := prog_4_method_3_code
def yX2_isLive : MethodName := ⟨RX2, "isLive", "(I)Z"⟩
abbrev cX2_canSeal : ByteArray := prog_4_method_4_code
def yX2_canSeal : MethodName := ⟨RX2, "canSeal", "(I)Z"⟩
abbrev cX2_useOnce : ByteArray := prog_4_method_5_code
def yX2_useOnce : MethodName := ⟨RX2, "useOnce", "(I)V"⟩
abbrev cX2_addUses : ByteArray := prog_4_method_6_code
def yX2_addUses : MethodName := ⟨RX2, "addUses", "(II)I"⟩
abbrev cX2_endOne : ByteArray := prog_4_method_7_code
def yX2_endOne : MethodName := ⟨RX2, "endOne", "(I)Z"⟩
abbrev cX2_loseOne : ByteArray := prog_4_method_8_code
def yX2_loseOne : MethodName := ⟨RX2, "loseOne", "(II)Z"⟩
abbrev cX2_lostSince : ByteArray := prog_4_method_9_code
def yX2_lostSince : MethodName := ⟨RX2, "lostSince", "(I)I"⟩
abbrev cX2_tell : ByteArray := prog_4_method_10_code
def yX2_tell : MethodName := ⟨RX2, "tell", "(II)I"⟩
def RX3 : String := "SealLine$Proof"
def TX3 : u_T := fun k => match k with
  | 0 => ("SealLine$Proof", "grounds", "[I", true)
  | 1 => ("SealLine$Proof", "waiting", "[I", true)
  | 2 => ("SealLine$Proof", "wanted", "LSealLine$FileSet;", true)
  | _ => ("SealLine$Proof", "manyWaiting", "I", false)
def tyX3 : Nat → FieldType := fun k => match k with
  | 0 => .array .int
  | 1 => .array .int
  | 2 => .object "SealLine$FileSet"
  | _ => .int
abbrev wsX30 : List Cond := u_ws RX3 TX3 4
theorem nmX3 : ∀ a, a < 4 → ∀ b, b < 4 → a ≠ b → (TX3 a).2.1 ≠ (TX3 b).2.1 := by decide +kernel
theorem tyX3_ok : ∀ k, k < 4 → parseFieldDescriptor (TX3 k).2.2.1 = some (tyX3 k) := by decide +kernel
abbrev cX3_init : ByteArray := prog_5_method_1_code
def yX3_init : MethodName := ⟨RX3, "<init>", "()V"⟩
abbrev cX3_noteAt : ByteArray := prog_5_method_2_code
def yX3_noteAt : MethodName := ⟨RX3, "noteAt", "(LSealLine$Table;LSealLine$Shelf;II)I"⟩
abbrev cX3_findGrounds : ByteArray := prog_5_method_3_code
def yX3_findGrounds : MethodName := ⟨RX3, "findGrounds", "(LSealLine$Table;LSealLine$Shelf;)V"⟩
abbrev cX3_gather : ByteArray := prog_5_method_4_code
def yX3_gather : MethodName := ⟨RX3, "gather", "(LSealLine$Table;I)V"⟩
abbrev cX3_want : ByteArray := prog_5_method_5_code
def yX3_want : MethodName := ⟨RX3, "want", "(I)V"⟩
abbrev cX3_isPart : ByteArray := prog_5_method_6_code
def yX3_isPart : MethodName := ⟨RX3, "isPart", "(LSealLine$Table;I)Z"⟩
def RX4 : String := "SealLine$Queue"
def TX4 : u_T := fun k => match k with
  | 0 => ("SealLine$Queue", "files", "[I", true)
  | _ => ("SealLine$Queue", "length", "I", false)
def tyX4 : Nat → FieldType := fun k => match k with
  | 0 => .array .int
  | _ => .int
abbrev wsX40 : List Cond := u_ws RX4 TX4 2
theorem nmX4 : ∀ a, a < 2 → ∀ b, b < 2 → a ≠ b → (TX4 a).2.1 ≠ (TX4 b).2.1 := by decide +kernel
theorem tyX4_ok : ∀ k, k < 2 → parseFieldDescriptor (TX4 k).2.2.1 = some (tyX4 k) := by decide +kernel
abbrev cX4_init : ByteArray := prog_6_method_1_code
def yX4_init : MethodName := ⟨RX4, "<init>", "()V"⟩
abbrev cX4_size : ByteArray := prog_6_method_2_code
def yX4_size : MethodName := ⟨RX4, "size", "()I"⟩
abbrev cX4_first : ByteArray := prog_6_method_3_code
def yX4_first : MethodName := ⟨RX4, "first", "()I"⟩
abbrev cX4_placeOf : ByteArray := prog_6_method_4_code
def yX4_placeOf : MethodName := ⟨RX4, "placeOf", "(I)I"⟩
abbrev cX4_add : ByteArray := prog_6_method_5_code
def yX4_add : MethodName := ⟨RX4, "add", "(I)I"⟩
abbrev cX4_removeFirst : ByteArray := prog_6_method_6_code
def yX4_removeFirst : MethodName := ⟨RX4, "removeFirst", "()I"⟩
def RX5 : String := "SealLine$Recalls"
def TX5 : u_T := fun k => match k with
  | 0 => ("SealLine$Recalls", "toolSince", "[I", true)
  | 1 => ("SealLine$Recalls", "handSince", "[I", true)
  | 2 => ("SealLine$Recalls", "marked", "LSealLine$FileSet;", true)
  | _ => ("SealLine$Recalls", "many", "I", false)
def tyX5 : Nat → FieldType := fun k => match k with
  | 0 => .array .int
  | 1 => .array .int
  | 2 => .object "SealLine$FileSet"
  | _ => .int
abbrev wsX50 : List Cond := u_ws RX5 TX5 4
theorem nmX5 : ∀ a, a < 4 → ∀ b, b < 4 → a ≠ b → (TX5 a).2.1 ≠ (TX5 b).2.1 := by decide +kernel
theorem tyX5_ok : ∀ k, k < 4 → parseFieldDescriptor (TX5 k).2.2.1 = some (tyX5 k) := by decide +kernel
abbrev cX5_init : ByteArray := prog_7_method_1_code
def yX5_init : MethodName := ⟨RX5, "<init>", "()V"⟩
abbrev cX5_marked : ByteArray := prog_7_method_2_code
def yX5_marked : MethodName := ⟨RX5, "marked", "()LSealLine$FileSet;"⟩
abbrev cX5_addFile : ByteArray := prog_7_method_3_code
def yX5_addFile : MethodName := ⟨RX5, "addFile", "(I)Z"⟩
abbrev cX5_addSince : ByteArray := prog_7_method_4_code
def yX5_addSince : MethodName := ⟨RX5, "addSince", "(IIILSealLine$Table;)Z"⟩
abbrev cX5_look : ByteArray := prog_7_method_5_code
def yX5_look : MethodName := ⟨RX5, "look", "(LSealLine$Table;I)V"⟩
abbrev cX5_sinceOf : ByteArray := prog_7_method_6_code
def yX5_sinceOf : MethodName := ⟨RX5, "sinceOf", "([II)I"⟩
def RX6 : String := "SealLine$Rule"
def TX6 : u_T := fun k => match k with
  | 0 => ("SealLine$Rule", "steps", "[I", true)
  | 1 => ("SealLine$Rule", "someParts", "[I", true)
  | _ => ("SealLine$Rule", "everyUnit", "[I", true)
def tyX6 : Nat → FieldType := fun k => match k with
  | 0 => .array .int
  | 1 => .array .int
  | _ => .array .int
abbrev wsX60 : List Cond := u_ws RX6 TX6 3
theorem nmX6 : ∀ a, a < 3 → ∀ b, b < 3 → a ≠ b → (TX6 a).2.1 ≠ (TX6 b).2.1 := by decide +kernel
theorem tyX6_ok : ∀ k, k < 3 → parseFieldDescriptor (TX6 k).2.2.1 = some (tyX6 k) := by decide +kernel
abbrev cX6_init : ByteArray := prog_8_method_1_code
def yX6_init : MethodName := ⟨RX6, "<init>", "([I)V"⟩
abbrev cX6_test : ByteArray := prog_8_method_2_code
def yX6_test : MethodName := ⟨RX6, "test", "(III)I"⟩
abbrev cX6_holdingTries : ByteArray := prog_8_method_3_code
def yX6_holdingTries : MethodName := ⟨RX6, "holdingTries", "(II)I"⟩
abbrev cX6_begin : ByteArray := prog_8_method_4_code
def yX6_begin : MethodName := ⟨RX6, "begin", "(I)V"⟩
abbrev cX6_triesOfTest : ByteArray := prog_8_method_5_code
def yX6_triesOfTest : MethodName := ⟨RX6, "triesOfTest", "(III)I"⟩
abbrev cX6_triesBelow : ByteArray := prog_8_method_6_code
def yX6_triesBelow : MethodName := ⟨RX6, "triesBelow", "(I)I"⟩
def RX7 : String := "SealLine$Shelf"
def TX7 : u_T := fun k => match k with
  | 0 => ("SealLine$Shelf", "hashes", "[J", true)
  | 1 => ("SealLine$Shelf", "rows", "[LSealLine$FileSet;", true)
  | 2 => ("SealLine$Shelf", "ownMakers", "[I", true)
  | 3 => ("SealLine$Shelf", "builders", "[I", true)
  | 4 => ("SealLine$Shelf", "tryers", "[I", true)
  | 5 => ("SealLine$Shelf", "reviewers", "[I", true)
  | 6 => ("SealLine$Shelf", "clean", "LSealLine$FileSet;", true)
  | _ => ("SealLine$Shelf", "many", "I", false)
def tyX7 : Nat → FieldType := fun k => match k with
  | 0 => .array .long
  | 1 => .array (.object "SealLine$FileSet")
  | 2 => .array .int
  | 3 => .array .int
  | 4 => .array .int
  | 5 => .array .int
  | 6 => .object "SealLine$FileSet"
  | _ => .int
abbrev wsX70 : List Cond := u_ws RX7 TX7 8
theorem nmX7 : ∀ a, a < 8 → ∀ b, b < 8 → a ≠ b → (TX7 a).2.1 ≠ (TX7 b).2.1 := by decide +kernel
theorem tyX7_ok : ∀ k, k < 8 → parseFieldDescriptor (TX7 k).2.2.1 = some (tyX7 k) := by decide +kernel
abbrev cX7_init : ByteArray := prog_9_method_1_code
def yX7_init : MethodName := ⟨RX7, "<init>", "()V"⟩
abbrev cX7_size : ByteArray := prog_9_method_2_code
def yX7_size : MethodName := ⟨RX7, "size", "()I"⟩
abbrev cX7_has : ByteArray := prog_9_method_3_code
def yX7_has : MethodName := ⟨RX7, "has", "(I)Z"⟩
abbrev cX7_hashOf : ByteArray := prog_9_method_4_code
def yX7_hashOf : MethodName := ⟨RX7, "hashOf", "(I)J"⟩
abbrev cX7_numberOf : ByteArray := prog_9_method_5_code
def yX7_numberOf : MethodName := ⟨RX7, "numberOf", "(J)I"⟩
abbrev cX7_numberOrNew : ByteArray := prog_9_method_6_code
def yX7_numberOrNew : MethodName := ⟨RX7, "numberOrNew", "(J)I"⟩
abbrev cX7_addMaker : ByteArray := prog_9_method_7_code
def yX7_addMaker : MethodName := ⟨RX7, "addMaker", "(II)V"⟩
abbrev cX7_addBuilder : ByteArray := prog_9_method_8_code
def yX7_addBuilder : MethodName := ⟨RX7, "addBuilder", "(II)V"⟩
abbrev cX7_setTry : ByteArray := prog_9_method_9_code
def yX7_setTry : MethodName := ⟨RX7, "setTry", "(IIZ)V"⟩
abbrev cX7_setReview : ByteArray := prog_9_method_10_code
def yX7_setReview : MethodName := ⟨RX7, "setReview", "(IIZ)V"⟩
abbrev cX7_setHand : ByteArray := prog_9_method_11_code
def yX7_setHand : MethodName := ⟨RX7, "setHand", "([IIIZ)V"⟩
abbrev cX7_addInput : ByteArray := prog_9_method_12_code
def yX7_addInput : MethodName := ⟨RX7, "addInput", "(II)V"⟩
abbrev cX7_rowHas : ByteArray := prog_9_method_13_code
def yX7_rowHas : MethodName := ⟨RX7, "rowHas", "(II)Z"⟩
abbrev cX7_rowMeets : ByteArray := prog_9_method_14_code
def yX7_rowMeets : MethodName := ⟨RX7, "rowMeets", "(ILSealLine$FileSet;)Z"⟩
abbrev cX7_rowSize : ByteArray := prog_9_method_15_code
def yX7_rowSize : MethodName := ⟨RX7, "rowSize", "(I)I"⟩
abbrev cX7_makersOf : ByteArray := prog_9_method_16_code
def yX7_makersOf : MethodName := ⟨RX7, "makersOf", "(I)I"⟩
abbrev cX7_goodTries : ByteArray := prog_9_method_17_code
def yX7_goodTries : MethodName := ⟨RX7, "goodTries", "(I)I"⟩
abbrev cX7_goodReviews : ByteArray := prog_9_method_18_code
def yX7_goodReviews : MethodName := ⟨RX7, "goodReviews", "(I)I"⟩
abbrev cX7_goodBuilders : ByteArray := prog_9_method_19_code
def yX7_goodBuilders : MethodName := ⟨RX7, "goodBuilders", "(I)I"⟩
abbrev cX7_isClean : ByteArray := prog_9_method_20_code
def yX7_isClean : MethodName := ⟨RX7, "isClean", "(I)Z"⟩
abbrev cX7_isGround : ByteArray := prog_9_method_21_code
def yX7_isGround : MethodName := ⟨RX7, "isGround", "(LSealLine$Table;I)Z"⟩
abbrev cX7_isCleanInput : ByteArray := prog_9_method_22_code
def yX7_isCleanInput : MethodName := ⟨RX7, "isCleanInput", "(I)Z"⟩
abbrev cX7_cleanBy : ByteArray := prog_9_method_23_code
def yX7_cleanBy : MethodName := ⟨RX7, "cleanBy", "(LSealLine$Table;I)V"⟩
abbrev cX7_addClean : ByteArray := prog_9_method_24_code
def yX7_addClean : MethodName := ⟨RX7, "addClean", "(LSealLine$Table;I)Z"⟩
def RX8 : String := "SealLine$Table"
def TX8 : u_T := fun k => match k with
  | 0 => ("SealLine$Table", "most", "I", true)
  | 1 => ("SealLine$Table", "width", "I", true)
  | 2 => ("SealLine$Table", "cells", "[I", true)
  | _ => ("SealLine$Table", "many", "I", false)
def tyX8 : Nat → FieldType := fun k => match k with
  | 0 => .int
  | 1 => .int
  | 2 => .array .int
  | _ => .int
abbrev wsX80 : List Cond := u_ws RX8 TX8 4
theorem nmX8 : ∀ a, a < 4 → ∀ b, b < 4 → a ≠ b → (TX8 a).2.1 ≠ (TX8 b).2.1 := by decide +kernel
theorem tyX8_ok : ∀ k, k < 4 → parseFieldDescriptor (TX8 k).2.2.1 = some (tyX8 k) := by decide +kernel
abbrev cX8_init : ByteArray := prog_10_method_1_code
def yX8_init : MethodName := ⟨RX8, "<init>", "(II)V"⟩
abbrev cX8_size : ByteArray := prog_10_method_2_code
def yX8_size : MethodName := ⟨RX8, "size", "()I"⟩
abbrev cX8_isFull : ByteArray := prog_10_method_3_code
def yX8_isFull : MethodName := ⟨RX8, "isFull", "()Z"⟩
abbrev cX8_addRow : ByteArray := prog_10_method_4_code
def yX8_addRow : MethodName := ⟨RX8, "addRow", "()I"⟩
abbrev cX8_cell : ByteArray := prog_10_method_5_code
def yX8_cell : MethodName := ⟨RX8, "cell", "(II)I"⟩
abbrev cX8_set : ByteArray := prog_10_method_6_code
def yX8_set : MethodName := ⟨RX8, "set", "(III)V"⟩
abbrev cX8_isCell : ByteArray := prog_10_method_7_code
def yX8_isCell : MethodName := ⟨RX8, "isCell", "(II)Z"⟩
def RX9 : String := "SealLine$Tape"
def TX9 : u_T := fun k => match k with
  | 0 => ("SealLine$Tape", "bytes", "[I", true)
  | 1 => ("SealLine$Tape", "length", "I", false)
  | 2 => ("SealLine$Tape", "steps", "[I", true)
  | 3 => ("SealLine$Tape", "manySteps", "I", false)
  | 4 => ("SealLine$Tape", "state", "I", false)
  | 5 => ("SealLine$Tape", "depth", "I", false)
  | 6 => ("SealLine$Tape", "letter", "I", false)
  | _ => ("SealLine$Tape", "sign", "I", false)
def tyX9 : Nat → FieldType := fun k => match k with
  | 0 => .array .int
  | 1 => .int
  | 2 => .array .int
  | 3 => .int
  | 4 => .int
  | 5 => .int
  | 6 => .int
  | _ => .int
abbrev wsX90 : List Cond := u_ws RX9 TX9 8
theorem nmX9 : ∀ a, a < 8 → ∀ b, b < 8 → a ≠ b → (TX9 a).2.1 ≠ (TX9 b).2.1 := by decide +kernel
theorem tyX9_ok : ∀ k, k < 8 → parseFieldDescriptor (TX9 k).2.2.1 = some (tyX9 k) := by decide +kernel
abbrev cX9_init : ByteArray := prog_11_method_1_code
def yX9_init : MethodName := ⟨RX9, "<init>", "()V"⟩
abbrev cX9_size : ByteArray := prog_11_method_2_code
def yX9_size : MethodName := ⟨RX9, "size", "()I"⟩
abbrev cX9_add : ByteArray := prog_11_method_3_code
def yX9_add : MethodName := ⟨RX9, "add", "(I)I"⟩
abbrev cX9_cut : ByteArray := prog_11_method_4_code
def yX9_cut : MethodName := ⟨RX9, "cut", "(I)Z"⟩
abbrev cX9_firstFault : ByteArray := prog_11_method_5_code
def yX9_firstFault : MethodName := ⟨RX9, "firstFault", "()I"⟩
abbrev cX9_readSteps : ByteArray := prog_11_method_6_code
def yX9_readSteps : MethodName := ⟨RX9, "readSteps", "()[I"⟩
abbrev cX9_take : ByteArray := prog_11_method_7_code
def yX9_take : MethodName := ⟨RX9, "take", "(I)Z"⟩
abbrev cX9_takeUnit : ByteArray := prog_11_method_8_code
def yX9_takeUnit : MethodName := ⟨RX9, "takeUnit", "(I)Z"⟩
abbrev cX9_takeSign : ByteArray := prog_11_method_9_code
def yX9_takeSign : MethodName := ⟨RX9, "takeSign", "(I)Z"⟩
abbrev cX9_takeDigit : ByteArray := prog_11_method_10_code
def yX9_takeDigit : MethodName := ⟨RX9, "takeDigit", "(I)Z"⟩
abbrev cX9_takeJoin : ByteArray := prog_11_method_11_code
def yX9_takeJoin : MethodName := ⟨RX9, "takeJoin", "(I)Z"⟩
abbrev cX9_addStep : ByteArray := prog_11_method_12_code
def yX9_addStep : MethodName := ⟨RX9, "addStep", "(I)V"⟩
abbrev cX9_lengthenNumber : ByteArray := prog_11_method_13_code
def yX9_lengthenNumber : MethodName := ⟨RX9, "lengthenNumber", "(I)V"⟩
abbrev cX9_isDigit : ByteArray := prog_11_method_14_code
def yX9_isDigit : MethodName := ⟨RX9, "isDigit", "(I)Z"⟩
def RX10 : String := "SealLine"
def TX10 : u_T := fun k => match k with
  | 0 => ("SealLine", "notes", "LSealLine$Table;", true)
  | 1 => ("SealLine", "seals", "LSealLine$Table;", true)
  | 2 => ("SealLine", "shelf", "LSealLine$Shelf;", true)
  | 3 => ("SealLine", "proofs", "LSealLine$Proof;", true)
  | 4 => ("SealLine", "recalls", "LSealLine$Recalls;", true)
  | 5 => ("SealLine", "tape", "LSealLine$Tape;", true)
  | 6 => ("SealLine", "queue", "LSealLine$Queue;", true)
  | 7 => ("SealLine", "keys", "LSealLine$Keys;", true)
  | 8 => ("SealLine", "judging", "LSealLine$Judging;", true)
  | 9 => ("SealLine", "inForce", "LSealLine$Rule;", false)
  | _ => ("SealLine", "rules", "I", false)
def tyX10 : Nat → FieldType := fun k => match k with
  | 0 => .object "SealLine$Table"
  | 1 => .object "SealLine$Table"
  | 2 => .object "SealLine$Shelf"
  | 3 => .object "SealLine$Proof"
  | 4 => .object "SealLine$Recalls"
  | 5 => .object "SealLine$Tape"
  | 6 => .object "SealLine$Queue"
  | 7 => .object "SealLine$Keys"
  | 8 => .object "SealLine$Judging"
  | 9 => .object "SealLine$Rule"
  | _ => .int
abbrev wsX100 : List Cond := u_ws RX10 TX10 11
theorem nmX10 : ∀ a, a < 11 → ∀ b, b < 11 → a ≠ b → (TX10 a).2.1 ≠ (TX10 b).2.1 := by decide +kernel
theorem tyX10_ok : ∀ k, k < 11 → parseFieldDescriptor (TX10 k).2.2.1 = some (tyX10 k) := by decide +kernel
abbrev cX10_init : ByteArray := prog_1_method_1_code
def yX10_init : MethodName := ⟨RX10, "<init>", "()V"⟩
abbrev cX10_source : ByteArray := prog_1_method_2_code
def yX10_source : MethodName := ⟨RX10, "source", "(IJ)I"⟩
abbrev cX10_build : ByteArray := prog_1_method_3_code
def yX10_build : MethodName := ⟨RX10, "build", "(IIIIIJ)I"⟩
abbrev cX10_mix : ByteArray := prog_1_method_4_code
def yX10_mix : MethodName := ⟨RX10, "mix", "(IIII)J"⟩
abbrev cX10_tries : ByteArray := prog_1_method_5_code
def yX10_tries : MethodName := ⟨RX10, "tries", "(IIZ)I"⟩
abbrev cX10_review : ByteArray := prog_1_method_6_code
def yX10_review : MethodName := ⟨RX10, "review", "(IIZ)I"⟩
abbrev cX10_feed : ByteArray := prog_1_method_7_code
def yX10_feed : MethodName := ⟨RX10, "feed", "(I)I"⟩
abbrev cX10_end : ByteArray := prog_1_method_8_code
def yX10_end : MethodName := ⟨RX10, "end", "(I)Z"⟩
abbrev cX10_fault : ByteArray := prog_1_method_9_code
def yX10_fault : MethodName := ⟨RX10, "fault", "()I"⟩
abbrev cX10_rule : ByteArray := prog_1_method_10_code
def yX10_rule : MethodName := ⟨RX10, "rule", "()I"⟩
abbrev cX10_ask : ByteArray := prog_1_method_11_code
def yX10_ask : MethodName := ⟨RX10, "ask", "(I)I"⟩
abbrev cX10_skip : ByteArray := prog_1_method_12_code
def yX10_skip : MethodName := ⟨RX10, "skip", "()I"⟩
abbrev cX10_seal : ByteArray := prog_1_method_13_code
def yX10_seal : MethodName := ⟨RX10, "seal", "(III)I"⟩
abbrev cX10_why : ByteArray := prog_1_method_14_code
def yX10_why : MethodName := ⟨RX10, "why", "(III)I"⟩
abbrev cX10_uses : ByteArray := prog_1_method_15_code
def yX10_uses : MethodName := ⟨RX10, "uses", "(II)I"⟩
abbrev cX10_finish : ByteArray := prog_1_method_16_code
def yX10_finish : MethodName := ⟨RX10, "finish", "(I)Z"⟩
abbrev cX10_lose : ByteArray := prog_1_method_17_code
def yX10_lose : MethodName := ⟨RX10, "lose", "(II)I"⟩
abbrev cX10_recall : ByteArray := prog_1_method_18_code
def yX10_recall : MethodName := ⟨RX10, "recall", "(III)I"⟩
abbrev cX10_file : ByteArray := prog_1_method_19_code
def yX10_file : MethodName := ⟨RX10, "file", "(II)I"⟩
abbrev cX10_hash : ByteArray := prog_1_method_20_code
def yX10_hash : MethodName := ⟨RX10, "hash", "(I)J"⟩
abbrev cX10_find : ByteArray := prog_1_method_21_code
def yX10_find : MethodName := ⟨RX10, "find", "(J)I"⟩
abbrev cX10_sealed : ByteArray := prog_1_method_22_code
def yX10_sealed : MethodName := ⟨RX10, "sealed", "(II)I"⟩
abbrev cX10_note : ByteArray := prog_1_method_23_code
def yX10_note : MethodName := ⟨RX10, "note", "(II)I"⟩
abbrev cX10_least : ByteArray := prog_1_method_24_code
def yX10_least : MethodName := ⟨RX10, "least", "()I"⟩
abbrev cX10_makers : ByteArray := prog_1_method_25_code
def yX10_makers : MethodName := ⟨RX10, "makers", "()I"⟩
abbrev cX10_proof : ByteArray := prog_1_method_26_code
def yX10_proof : MethodName := ⟨RX10, "proof", "(II)I"⟩
abbrev cX10_called : ByteArray := prog_1_method_27_code
def yX10_called : MethodName := ⟨RX10, "called", "(I)I"⟩
abbrev cX10_count : ByteArray := prog_1_method_28_code
def yX10_count : MethodName := ⟨RX10, "count", "(I)I"⟩
abbrev cX10_key : ByteArray := prog_1_method_29_code
def yX10_key : MethodName := ⟨RX10, "key", "(II)I"⟩
abbrev cX10_bit : ByteArray := prog_1_method_30_code
def yX10_bit : MethodName := ⟨RX10, "bit", "(Z)I"⟩
abbrev cX10_isHand : ByteArray := prog_1_method_31_code
def yX10_isHand : MethodName := ⟨RX10, "isHand", "(I)Z"⟩
abbrev cX10_isTool : ByteArray := prog_1_method_32_code
def yX10_isTool : MethodName := ⟨RX10, "isTool", "(I)Z"⟩
abbrev cX10_areInputs : ByteArray := prog_1_method_33_code
def yX10_areInputs : MethodName := ⟨RX10, "areInputs", "(III)Z"⟩
abbrev cX10_isInRowOfOne : ByteArray := prog_1_method_34_code
def yX10_isInRowOfOne : MethodName := ⟨RX10, "isInRowOfOne", "(IIII)Z"⟩
abbrev cX10_mixed : ByteArray := prog_1_method_35_code
def yX10_mixed : MethodName := ⟨RX10, "mixed", "(IIII)J"⟩
abbrev cX10_stirred : ByteArray := prog_1_method_36_code
def yX10_stirred : MethodName := ⟨RX10, "stirred", "(JI)J"⟩
abbrev cX10_addNote : ByteArray := prog_1_method_37_code
def yX10_addNote : MethodName := ⟨RX10, "addNote", "(III)I"⟩
abbrev cX10_addSaying : ByteArray := prog_1_method_38_code
def yX10_addSaying : MethodName := ⟨RX10, "addSaying", "(IIIZ)I"⟩
abbrev cX10_settle : ByteArray := prog_1_method_39_code
def yX10_settle : MethodName := ⟨RX10, "settle", "(I)V"⟩
abbrev cX10_refusal : ByteArray := prog_1_method_40_code
def yX10_refusal : MethodName := ⟨RX10, "refusal", "(III)I"⟩
abbrev cX10_ruleHolds : ByteArray := prog_1_method_41_code
def yX10_ruleHolds : MethodName := ⟨RX10, "ruleHolds", "(I)Z"⟩
abbrev cX10_isCalledBack : ByteArray := prog_1_method_42_code
def yX10_isCalledBack : MethodName := ⟨RX10, "isCalledBack", "(I)Z"⟩
abbrev cX10_manyCalledBack : ByteArray := prog_1_method_43_code
def yX10_manyCalledBack : MethodName := ⟨RX10, "manyCalledBack", "()I"⟩
abbrev cX10_stands : ByteArray := prog_1_method_44_code
def yX10_stands : MethodName := ⟨RX10, "stands", "(I)Z"⟩
abbrev cX10_manyStanding : ByteArray := prog_1_method_45_code
def yX10_manyStanding : MethodName := ⟨RX10, "manyStanding", "(I)I"⟩
def RX11 : String := "SealLineModel"
def TX11 : u_T := fun k => match k with
  | 0 => ("SealLineModel", "notes", "I", false)
  | 1 => ("SealLineModel", "files", "I", false)
  | 2 => ("SealLineModel", "rules", "I", false)
  | 3 => ("SealLineModel", "calls", "I", false)
  | 4 => ("SealLineModel", "queued", "I", false)
  | 5 => ("SealLineModel", "seals", "I", false)
  | 6 => ("SealLineModel", "hash", "[J", true)
  | 7 => ("SealLineModel", "sort", "[I", true)
  | 8 => ("SealLineModel", "of", "[I", true)
  | 9 => ("SealLineModel", "hand", "[I", true)
  | 10 => ("SealLineModel", "other", "[I", true)
  | 11 => ("SealLineModel", "tool", "[I", true)
  | 12 => ("SealLineModel", "first", "[I", true)
  | 13 => ("SealLineModel", "second", "[I", true)
  | 14 => ("SealLineModel", "third", "[I", true)
  | 15 => ("SealLineModel", "good", "[I", true)
  | 16 => ("SealLineModel", "keyOf", "[I", true)
  | 17 => ("SealLineModel", "ruleOf", "[I", true)
  | 18 => ("SealLineModel", "sealNote", "[I", true)
  | 19 => ("SealLineModel", "queue", "[I", true)
  | 20 => ("SealLineModel", "left", "[I", true)
  | 21 => ("SealLineModel", "ended", "[Z", true)
  | 22 => ("SealLineModel", "lost", "[I", true)
  | 23 => ("SealLineModel", "callSort", "[I", true)
  | 24 => ("SealLineModel", "callWhose", "[I", true)
  | 25 => ("SealLineModel", "callSince", "[I", true)
  | 26 => ("SealLineModel", "row", "[Z", true)
  | 27 => ("SealLineModel", "way", "[I", true)
  | 28 => ("SealLineModel", "clean", "[Z", true)
  | 29 => ("SealLineModel", "tape", "[I", true)
  | 30 => ("SealLineModel", "codes", "[I", true)
  | 31 => ("SealLineModel", "saying", "[I", true)
  | 32 => ("SealLineModel", "size", "I", false)
  | 33 => ("SealLineModel", "at", "I", false)
  | 34 => ("SealLineModel", "wrong", "I", false)
  | 35 => ("SealLineModel", "deep", "I", false)
  | 36 => ("SealLineModel", "said", "I", false)
  | 37 => ("SealLineModel", "pile", "[Z", true)
  | _ => ("SealLineModel", "proves", "[Z", true)
def tyX11 : Nat → FieldType := fun k => match k with
  | 0 => .int
  | 1 => .int
  | 2 => .int
  | 3 => .int
  | 4 => .int
  | 5 => .int
  | 6 => .array .long
  | 7 => .array .int
  | 8 => .array .int
  | 9 => .array .int
  | 10 => .array .int
  | 11 => .array .int
  | 12 => .array .int
  | 13 => .array .int
  | 14 => .array .int
  | 15 => .array .int
  | 16 => .array .int
  | 17 => .array .int
  | 18 => .array .int
  | 19 => .array .int
  | 20 => .array .int
  | 21 => .array .boolean
  | 22 => .array .int
  | 23 => .array .int
  | 24 => .array .int
  | 25 => .array .int
  | 26 => .array .boolean
  | 27 => .array .int
  | 28 => .array .boolean
  | 29 => .array .int
  | 30 => .array .int
  | 31 => .array .int
  | 32 => .int
  | 33 => .int
  | 34 => .int
  | 35 => .int
  | 36 => .int
  | 37 => .array .boolean
  | _ => .array .boolean
abbrev wsX110 : List Cond := u_ws RX11 TX11 39
theorem nmX11 : ∀ a, a < 39 → ∀ b, b < 39 → a ≠ b → (TX11 a).2.1 ≠ (TX11 b).2.1 := by decide +kernel
theorem tyX11_ok : ∀ k, k < 39 → parseFieldDescriptor (TX11 k).2.2.1 = some (tyX11 k) := by decide +kernel
abbrev cX11_init : ByteArray := prog_13_method_1_code
def yX11_init : MethodName := ⟨RX11, "<init>", "()V"⟩
abbrev cX11_in : ByteArray := prog_13_method_2_code
def yX11_in : MethodName := ⟨RX11, "in", "(III)Z"⟩
abbrev cX11_isFile : ByteArray := prog_13_method_3_code
def yX11_isFile : MethodName := ⟨RX11, "isFile", "(I)Z"⟩
abbrev cX11_isHand : ByteArray := prog_13_method_4_code
def yX11_isHand : MethodName := ⟨RX11, "isHand", "(I)Z"⟩
abbrev cX11_isKey : ByteArray := prog_13_method_5_code
def yX11_isKey : MethodName := ⟨RX11, "isKey", "(I)Z"⟩
abbrev cX11_find : ByteArray := prog_13_method_6_code
def yX11_find : MethodName := ⟨RX11, "find", "(J)I"⟩
abbrev cX11_addNote : ByteArray := prog_13_method_7_code
def yX11_addNote : MethodName := ⟨RX11, "addNote", "(III)I"⟩
abbrev cX11_fileFor : ByteArray := prog_13_method_8_code
def yX11_fileFor : MethodName := ⟨RX11, "fileFor", "(J)I"⟩
abbrev cX11_source : ByteArray := prog_13_method_9_code
def yX11_source : MethodName := ⟨RX11, "source", "(IJ)I"⟩
abbrev cX11_addRow : ByteArray := prog_13_method_10_code
def yX11_addRow : MethodName := ⟨RX11, "addRow", "(I)V"⟩
abbrev cX11_went : ByteArray := prog_13_method_11_code
def yX11_went : MethodName := ⟨RX11, "went", "(II)I"⟩
abbrev cX11_rowOf : ByteArray := prog_13_method_12_code
def yX11_rowOf : MethodName := ⟨RX11, "rowOf", "(I)V"⟩
abbrev cX11_areFiles : ByteArray := prog_13_method_13_code
def yX11_areFiles : MethodName := ⟨RX11, "areFiles", "(III)Z"⟩
abbrev cX11_mixOf : ByteArray := prog_13_method_14_code
def yX11_mixOf : MethodName := ⟨RX11, "mixOf", "(IIII)J"⟩
abbrev cX11_mix : ByteArray := prog_13_method_15_code
def yX11_mix : MethodName := ⟨RX11, "mix", "(IIII)J"⟩
abbrev cX11_build : ByteArray := prog_13_method_16_code
def yX11_build : MethodName := ⟨RX11, "build", "(IIIIIJ)I"⟩
abbrev cX11_says : ByteArray := prog_13_method_17_code
def yX11_says : MethodName := ⟨RX11, "says", "(IIIZ)I"⟩
abbrev cX11_tries : ByteArray := prog_13_method_18_code
def yX11_tries : MethodName := ⟨RX11, "tries", "(IIZ)I"⟩
abbrev cX11_review : ByteArray := prog_13_method_19_code
def yX11_review : MethodName := ⟨RX11, "review", "(IIZ)I"⟩
abbrev cX11_allClean : ByteArray := prog_13_method_20_code
def yX11_allClean : MethodName := ⟨RX11, "allClean", "(I)Z"⟩
abbrev cX11_findClean : ByteArray := prog_13_method_21_code
def yX11_findClean : MethodName := ⟨RX11, "findClean", "()V"⟩
abbrev cX11_isClean : ByteArray := prog_13_method_22_code
def yX11_isClean : MethodName := ⟨RX11, "isClean", "(I)Z"⟩
abbrev cX11_makersOf : ByteArray := prog_13_method_23_code
def yX11_makersOf : MethodName := ⟨RX11, "makersOf", "(I)I"⟩
abbrev cX11_isCalledNote : ByteArray := prog_13_method_24_code
def yX11_isCalledNote : MethodName := ⟨RX11, "isCalledNote", "(I)Z"⟩
abbrev cX11_isCalled : ByteArray := prog_13_method_25_code
def yX11_isCalled : MethodName := ⟨RX11, "isCalled", "(I)Z"⟩
abbrev cX11_handsWith : ByteArray := prog_13_method_26_code
def yX11_handsWith : MethodName := ⟨RX11, "handsWith", "(III)I"⟩
abbrev cX11_builders : ByteArray := prog_13_method_27_code
def yX11_builders : MethodName := ⟨RX11, "builders", "(I)I"⟩
abbrev cX11_feed : ByteArray := prog_13_method_28_code
def yX11_feed : MethodName := ⟨RX11, "feed", "(I)I"⟩
abbrev cX11_end : ByteArray := prog_13_method_29_code
def yX11_end : MethodName := ⟨RX11, "end", "(I)Z"⟩
abbrev cX11_look : ByteArray := prog_13_method_30_code
def yX11_look : MethodName := ⟨RX11, "look", "()I"⟩
abbrev cX11_fail : ByteArray := prog_13_method_31_code
def yX11_fail : MethodName := ⟨RX11, "fail", "()V"⟩
abbrev cX11_say : ByteArray := prog_13_method_32_code
def yX11_say : MethodName := ⟨RX11, "say", "(I)V"⟩
abbrev cX11_unit : ByteArray := prog_13_method_33_code
def yX11_unit : MethodName := ⟨RX11, "unit", "()V"⟩
abbrev cX11_part : ByteArray := prog_13_method_34_code
def yX11_part : MethodName := ⟨RX11, "part", "()V"⟩
abbrev cX11_tests : ByteArray := prog_13_method_35_code
def yX11_tests : MethodName := ⟨RX11, "tests", "()V"⟩
abbrev cX11_fault : ByteArray := prog_13_method_36_code
def yX11_fault : MethodName := ⟨RX11, "fault", "()I"⟩
abbrev cX11_rule : ByteArray := prog_13_method_37_code
def yX11_rule : MethodName := ⟨RX11, "rule", "()I"⟩
abbrev cX11_holds : ByteArray := prog_13_method_38_code
def yX11_holds : MethodName := ⟨RX11, "holds", "(III)Z"⟩
abbrev cX11_placeOf : ByteArray := prog_13_method_39_code
def yX11_placeOf : MethodName := ⟨RX11, "placeOf", "(I)I"⟩
abbrev cX11_ask : ByteArray := prog_13_method_40_code
def yX11_ask : MethodName := ⟨RX11, "ask", "(I)I"⟩
abbrev cX11_skip : ByteArray := prog_13_method_41_code
def yX11_skip : MethodName := ⟨RX11, "skip", "()I"⟩
abbrev cX11_why : ByteArray := prog_13_method_42_code
def yX11_why : MethodName := ⟨RX11, "why", "(III)I"⟩
abbrev cX11_seal : ByteArray := prog_13_method_43_code
def yX11_seal : MethodName := ⟨RX11, "seal", "(III)I"⟩
abbrev cX11_stands : ByteArray := prog_13_method_44_code
def yX11_stands : MethodName := ⟨RX11, "stands", "(I)Z"⟩
abbrev cX11_uses : ByteArray := prog_13_method_45_code
def yX11_uses : MethodName := ⟨RX11, "uses", "(II)I"⟩
abbrev cX11_finish : ByteArray := prog_13_method_46_code
def yX11_finish : MethodName := ⟨RX11, "finish", "(I)Z"⟩
abbrev cX11_lose : ByteArray := prog_13_method_47_code
def yX11_lose : MethodName := ⟨RX11, "lose", "(II)I"⟩
abbrev cX11_calledMany : ByteArray := prog_13_method_48_code
def yX11_calledMany : MethodName := ⟨RX11, "calledMany", "()I"⟩
abbrev cX11_recall : ByteArray := prog_13_method_49_code
def yX11_recall : MethodName := ⟨RX11, "recall", "(III)I"⟩
abbrev cX11_file : ByteArray := prog_13_method_50_code
def yX11_file : MethodName := ⟨RX11, "file", "(II)I"⟩
abbrev cX11_hash : ByteArray := prog_13_method_51_code
def yX11_hash : MethodName := ⟨RX11, "hash", "(I)J"⟩
abbrev cX11_sealed : ByteArray := prog_13_method_52_code
def yX11_sealed : MethodName := ⟨RX11, "sealed", "(II)I"⟩
abbrev cX11_note : ByteArray := prog_13_method_53_code
def yX11_note : MethodName := ⟨RX11, "note", "(II)I"⟩
abbrev cX11_canHold : ByteArray := prog_13_method_54_code
def yX11_canHold : MethodName := ⟨RX11, "canHold", "(II)Z"⟩
abbrev cX11_judged : ByteArray := prog_13_method_55_code
def yX11_judged : MethodName := ⟨RX11, "judged", "()I"⟩
abbrev cX11_least : ByteArray := prog_13_method_56_code
def yX11_least : MethodName := ⟨RX11, "least", "()I"⟩
abbrev cX11_makers : ByteArray := prog_13_method_57_code
def yX11_makers : MethodName := ⟨RX11, "makers", "()I"⟩
abbrev cX11_firstOf : ByteArray := prog_13_method_58_code
def yX11_firstOf : MethodName := ⟨RX11, "firstOf", "(I)I"⟩
abbrev cX11_proof : ByteArray := prog_13_method_59_code
def yX11_proof : MethodName := ⟨RX11, "proof", "(II)I"⟩
abbrev cX11_called : ByteArray := prog_13_method_60_code
def yX11_called : MethodName := ⟨RX11, "called", "(I)I"⟩
abbrev cX11_count : ByteArray := prog_13_method_61_code
def yX11_count : MethodName := ⟨RX11, "count", "(I)I"⟩
abbrev cX11_key : ByteArray := prog_13_method_62_code
def yX11_key : MethodName := ⟨RX11, "key", "(II)I"⟩
def RJx8e188 : String := "java/lang/Cloneable"
def TJx8e188 : u_T := fun k => match k with
  | _ => ("", "", "", false)
def tyJx8e188 : Nat → FieldType := fun k => match k with
  | _ => .int
abbrev wsJx8e1880 : List Cond := u_ws RJx8e188 TJx8e188 0
theorem nmJx8e188 : ∀ a, a < 0 → ∀ b, b < 0 → a ≠ b → (TJx8e188 a).2.1 ≠ (TJx8e188 b).2.1 := by decide +kernel
theorem tyJx8e188_ok : ∀ k, k < 0 → parseFieldDescriptor (TJx8e188 k).2.2.1 = some (tyJx8e188 k) := by decide +kernel
def RJ6 : String := "java/lang/Integer"
def TJ6 : u_T := fun k => match k with
  | _ => ("", "", "", false)
def tyJ6 : Nat → FieldType := fun k => match k with
  | _ => .int
abbrev wsJ60 : List Cond := u_ws RJ6 TJ6 0
theorem nmJ6 : ∀ a, a < 0 → ∀ b, b < 0 → a ≠ b → (TJ6 a).2.1 ≠ (TJ6 b).2.1 := by decide +kernel
theorem tyJ6_ok : ∀ k, k < 0 → parseFieldDescriptor (TJ6 k).2.2.1 = some (tyJ6 k) := by decide +kernel
abbrev cJ6_numberOfTrailingZeros_0f7a4 : ByteArray := prog_15_method_48_code
def yJ6_numberOfTrailingZeros_0f7a4 : MethodName := ⟨RJ6, "numberOfTrailingZeros", "(I)I"⟩
abbrev cJ6_bitCount_0f7a4 : ByteArray := prog_15_method_49_code
def yJ6_bitCount_0f7a4 : MethodName := ⟨RJ6, "bitCount", "(I)I"⟩
def RJ13 : String := "java/lang/Long"
def TJ13 : u_T := fun k => match k with
  | _ => ("", "", "", false)
def tyJ13 : Nat → FieldType := fun k => match k with
  | _ => .int
abbrev wsJ130 : List Cond := u_ws RJ13 TJ13 0
theorem nmJ13 : ∀ a, a < 0 → ∀ b, b < 0 → a ≠ b → (TJ13 a).2.1 ≠ (TJ13 b).2.1 := by decide +kernel
theorem tyJ13_ok : ∀ k, k < 0 → parseFieldDescriptor (TJ13 k).2.2.1 = some (tyJ13 k) := by decide +kernel
abbrev cJ13_bitCount_95d88 : ByteArray := prog_16_method_50_code
def yJ13_bitCount_95d88 : MethodName := ⟨RJ13, "bitCount", "(J)I"⟩
def RJ9 : String := "java/lang/Math"
def TJ9 : u_T := fun k => match k with
  | _ => ("", "", "", false)
def tyJ9 : Nat → FieldType := fun k => match k with
  | _ => .int
abbrev wsJ90 : List Cond := u_ws RJ9 TJ9 0
theorem nmJ9 : ∀ a, a < 0 → ∀ b, b < 0 → a ≠ b → (TJ9 a).2.1 ≠ (TJ9 b).2.1 := by decide +kernel
theorem tyJ9_ok : ∀ k, k < 0 → parseFieldDescriptor (TJ9 k).2.2.1 = some (tyJ9 k) := by decide +kernel
abbrev cJ9_max_7cf53 : ByteArray := prog_17_method_65_code
def yJ9_max_7cf53 : MethodName := ⟨RJ9, "max", "(II)I"⟩
abbrev cJ9_min_7cf53 : ByteArray := prog_17_method_69_code
def yJ9_min_7cf53 : MethodName := ⟨RJ9, "min", "(II)I"⟩
def RJ10 : String := "java/lang/System"
def TJ10 : u_T := fun k => match k with
  | _ => ("", "", "", false)
def tyJ10 : Nat → FieldType := fun k => match k with
  | _ => .int
abbrev wsJ100 : List Cond := u_ws RJ10 TJ10 0
theorem nmJ10 : ∀ a, a < 0 → ∀ b, b < 0 → a ≠ b → (TJ10 a).2.1 ≠ (TJ10 b).2.1 := by decide +kernel
theorem tyJ10_ok : ∀ k, k < 0 → parseFieldDescriptor (TJ10 k).2.2.1 = some (tyJ10 k) := by decide +kernel
def RJ7 : String := "java/util/Arrays"
def TJ7 : u_T := fun k => match k with
  | _ => ("", "", "", false)
def tyJ7 : Nat → FieldType := fun k => match k with
  | _ => .int
abbrev wsJ70 : List Cond := u_ws RJ7 TJ7 0
theorem nmJ7 : ∀ a, a < 0 → ∀ b, b < 0 → a ≠ b → (TJ7 a).2.1 ≠ (TJ7 b).2.1 := by decide +kernel
theorem tyJ7_ok : ∀ k, k < 0 → parseFieldDescriptor (TJ7 k).2.2.1 = some (tyJ7 k) := by decide +kernel
abbrev cJ7_fill_53178 : ByteArray := prog_19_method_103_code
def yJ7_fill_53178 : MethodName := ⟨RJ7, "fill", "([II)V"⟩
abbrev cJ7_copyOf_59c91 : ByteArray := prog_19_method_123_code
def yJ7_copyOf_59c91 : MethodName := ⟨RJ7, "copyOf", "([II)[I"⟩
def RL : String := "SealLineLaw"
abbrev cL_law : ByteArray := code
def yL_law : MethodName := ⟨RL, "law", "([I)Z"⟩
abbrev vwCl : List vw_C := [(RX0, TX0, 2), (RX1, TX1, 3), (RX2, TX2, 4), (RX3, TX3, 4), (RX4, TX4, 2), (RX5, TX5, 4), (RX6, TX6, 3), (RX7, TX7, 8), (RX8, TX8, 4), (RX9, TX9, 8), (RX10, TX10, 11), (RX11, TX11, 39)]
theorem inX0 : ∀ w ∈ u_ws RX0 TX0 2, w ∈ lw_tbl := by decide +kernel
theorem inX1 : ∀ w ∈ u_ws RX1 TX1 3, w ∈ lw_tbl := by decide +kernel
theorem inX2 : ∀ w ∈ u_ws RX2 TX2 4, w ∈ lw_tbl := by decide +kernel
theorem inX3 : ∀ w ∈ u_ws RX3 TX3 4, w ∈ lw_tbl := by decide +kernel
theorem inX4 : ∀ w ∈ u_ws RX4 TX4 2, w ∈ lw_tbl := by decide +kernel
theorem inX5 : ∀ w ∈ u_ws RX5 TX5 4, w ∈ lw_tbl := by decide +kernel
theorem inX6 : ∀ w ∈ u_ws RX6 TX6 3, w ∈ lw_tbl := by decide +kernel
theorem inX7 : ∀ w ∈ u_ws RX7 TX7 8, w ∈ lw_tbl := by decide +kernel
theorem inX8 : ∀ w ∈ u_ws RX8 TX8 4, w ∈ lw_tbl := by decide +kernel
theorem inX9 : ∀ w ∈ u_ws RX9 TX9 8, w ∈ lw_tbl := by decide +kernel
theorem inX10 : ∀ w ∈ u_ws RX10 TX10 11, w ∈ lw_tbl := by decide +kernel
theorem inX11 : ∀ w ∈ u_ws RX11 TX11 39, w ∈ lw_tbl := by decide +kernel
end
section
abbrev qW : Type := Nat × (Nat → Option va_E)
abbrev qL : Type := List (Option Value)
abbrev qM : Type := MethodName × ByteArray × Nat × Option FieldType
abbrev qZ : Type := Nat × Nat
/-- a place as an address; the script's reference is the one of z -/
def qv (z : qZ) (v : Value) : Value := match v with
  | .ref p => .ref (z.1 + p)
  | .retAddr _ => .ref z.2
  | v => v
def qe (cA : Nat → ClassId) (z : qZ) (e : va_E) : va_E := match e with
  | .inl (t, n, .inr (.inr (.inr (.inr f)))) => .inl (cA t, n, .inr (.inr (.inr (.inr (fun j => (f j).map (z.1 + ·))))))
  | .inl (t, x) => .inl (cA t, x)
  | .inr (ci, fs) => .inr (ci, fs.map (qv z))
def qT (cA : Nat → ClassId) : List (ClassId × FieldType) := [(cA 0, .int), (cA 1, .boolean), (cA 2, .long), (cA 3, .object "SealLine$FileSet")]
/-- the heap holds the world w, and ends with it -/
def qH (D : va_G) (cA : Nat → ClassId) (z : qZ) (w : qW) (H : Heap) : Prop := H.size = z.1 + w.1 ∧ ∀ p c, w.2 p = some c → va_at D vwCl (z.1 + p, qe cA z c) H
def qg : List Cond := lw_tbl.filter goodWord
theorem qg_mem {w : Cond} (h : w ∈ lw_tbl) (hg : goodWord w = true) : w ∈ qg := List.mem_filter.mpr ⟨h, hg⟩
theorem qg_good : GoodIn qg qg := fun w h => ⟨h, good_of_word (List.mem_filter.mp h).2⟩
def qnest : List (String × Nat × MethodName × String) := lw_tbl.filterMap (fun w => match w with | .methodLinkNest a i y h => some (a, i, y, h) | _ => none)
def qNx (U : State) : Prop := (∀ q ∈ qnest, va_Nw (.methodLinkNest q.1 q.2.1 q.2.2.1 q.2.2.2) U) ∧ va_AO "SealLine$FileSet" U
def qSc (sc : Option (Nat × (Nat → Int32))) (z : qZ) (s : State) : Prop := match sc with
  | none => True
  | some (n, xs) => va_X z.2 n xs s s.heap ∧ z.2 < s.heap.size ∧ z.2 < z.1
abbrev qG : Type := qM × Nat × Nat × Nat × Option (Nat × (Nat → Int32)) × (Option Value → qW → Prop)
def qA (z : qZ) : Nat → Prop := fun q => z.1 ≤ q
def qX (g : qG) (p : Program) (R : Room) (s : State) (m : MethodId) (args : Array Value) (meth : Method) (c : Code) (D : va_G) (cA : Nat → ClassId) (z : qZ) : Prop :=
  p.tables.exec = Jvm.exec ∧ c.code = g.1.2.1 ∧ c.maxLocals = g.1.2.2.1 ∧ s.vm.findClass g.1.1.cls = some m.cls ∧ (∀ w ∈ qg, w.before args s = true) ∧ va_K D vwCl (qT cA) s ∧ qNx s ∧ meth.sig.returnType = g.1.2.2.2 ∧ meth.locks = false ∧ meth.name = g.1.1.name ∧ z.1 ≤ s.heap.size ∧ (g.2.1 ≤ R.frames ∧ g.2.2.1 ≤ R.cells ∧ g.2.2.2.1 ≤ R.slots ∧ 50 * g.2.1 ≤ R.locals) ∧ qSc g.2.2.2.2.1 z s
def qQ (D : va_G) (cA : Nat → ClassId) (z : qZ) (Q : Option Value → qW → Prop) : Array Value → State → Outcome → State → Prop := fun _ st oc t => (∃ (r : Option Value) (w : qW), oc = .returned (r.map (qv z)) ∧ Q r w ∧ qH D cA z w t.heap) ∧ va_F (qA z) st t
def qP (z : qZ) (L : qL) : List (Nat × Value) := (List.range L.length).filterMap (fun i => match L[i]? with | some (some v) => some (i, qv z v) | _ => none)
theorem qP_mem {z : qZ} {L : qL} {q : Nat × Value} : q ∈ qP z L ↔ ∃ v, L[q.1]? = some (some v) ∧ q.2 = qv z v := by
  unfold qP
  rw [List.mem_filterMap]
  constructor
  · rintro ⟨i, -, hi⟩
    split at hi
    · rename_i v hv
      cases hi
      exact ⟨v, hv, rfl⟩
    · cases hi
  · rintro ⟨v, hv, e⟩
    have hl : q.1 < L.length := (List.getElem?_eq_some_iff.mp hv).1
    refine ⟨q.1, List.mem_range.mpr hl, ?_⟩
    rw [hv]
    obtain ⟨a, b⟩ := q
    simp only at e
    rw [e]
def qR (z : qZ) (ls : Array Slot) (nL : Nat) (L : qL) : Prop := lv_has ls nL (qP z L)
theorem qR.at {z : qZ} {ls : Array Slot} {nL : Nat} {L : qL} (h : qR z ls nL L) {i : Nat} {v : Value} (hv : L[i]? = some (some v)) : ls[i]? = some (.val (qv z v)) := h.2.2 (i, qv z v) (qP_mem.mpr ⟨v, hv, rfl⟩)
theorem qR.sub {z : qZ} {ls : Array Slot} {nL : Nat} {L : qL} {l : List (Nat × Value)} (h : lv_has ls nL l) (hs : ∀ i v, L[i]? = some (some v) → (i, qv z v) ∈ l) : qR z ls nL L := ⟨h.1, h.2.1, fun q hq => by
  obtain ⟨v, hv, e⟩ := qP_mem.mp hq
  obtain ⟨a, b⟩ := q
  simp only at e hv
  rw [e]
  exact h.2.2 _ (hs a v hv)⟩
abbrev qK : Type := qL → List Value → qW → Nat → Nat → Prop
/-- from here (pc, locals, stack, world; cells and slots made) the method comes to its end with its post -/
def AW (g : qG) (pc : Nat) : qK := fun L st w kc ks =>
  ∀ (p : Program) (l : Launch) (e : Env) (R : Room) (s : State) (m : MethodId) (args : Array Value) (below : List Frame) (meth : Method) (c : Code) (D : va_G) (cA : Nat → ClassId) (z : qZ) (H : Heap) (locs : List Loc) (ls : Array Slot),
    qX g p R s m args meth c D cA z → qH D cA z w H → va_S (qA z) s.heap H locs → qR z ls g.1.2.2.1 L →
    W p l e R s m args below meth c H locs kc ks (MQ below (qQ D cA z g.2.2.2.2.2) args s g.2.2.1 g.2.2.2.1 (qA z)) (F0 m pc ls (st.map (qv z)))
def qImp (K K' : qK) : Prop := ∀ L st w kc ks, K L st w kc ks → K' L st w kc ks
theorem qImp.rf {K : qK} : qImp K K := fun _ _ _ _ _ h => h
def qbr (c A B : Prop) : Prop := (c → A) ∧ (¬ c → B)
theorem qbr_i {c A B : Prop} (a : c → A) (b : ¬ c → B) : qbr c A B := ⟨a, b⟩
theorem qbr_t {c A B : Prop} (h : c) (a : A) : qbr c A B := ⟨fun _ => a, fun n => absurd h n⟩
theorem qbr_f {c A B : Prop} (h : ¬ c) (b : B) : qbr c A B := ⟨fun n => absurd n h, fun _ => b⟩
/-! the world's reads and writes -/
def qgF (w : qW) (p ci k : Nat) : Option Value := match w.2 p with
  | some (.inr (c, fs)) => if c = ci then fs[k]? else none
  | _ => none
def qsF (w : qW) (p k : Nat) (v : Value) : qW := (w.1, fun q => if q = p then (match w.2 p with | some (.inr (c, fs)) => some (.inr (c, fs.set k v)) | x => x) else w.2 q)
def qgI (w : qW) (p t : Nat) : Option (Nat × (Nat → Int32)) := match w.2 p with
  | some (.inl (t', n, .inl f)) => if t' = t then some (n, f) else none
  | _ => none
def qsI (w : qW) (p : Nat) (f : Nat → Int32) : qW := (w.1, fun q => if q = p then (match w.2 p with | some (.inl (t, n, .inl _)) => some (.inl (t, n, .inl f)) | x => x) else w.2 q)
def qgL (w : qW) (p : Nat) : Option (Nat × (Nat → Int64)) := match w.2 p with
  | some (.inl (t', n, .inr (.inl f))) => if t' = 2 then some (n, f) else none
  | _ => none
def qsL (w : qW) (p : Nat) (f : Nat → Int64) : qW := (w.1, fun q => if q = p then (match w.2 p with | some (.inl (t, n, .inr (.inl _))) => some (.inl (t, n, .inr (.inl f))) | x => x) else w.2 q)
def qgR (w : qW) (p : Nat) : Option (Nat × (Nat → Option Nat)) := match w.2 p with
  | some (.inl (t', n, .inr (.inr (.inr (.inr f))))) => if t' = 3 then some (n, f) else none
  | _ => none
def qsR (w : qW) (p : Nat) (f : Nat → Option Nat) : qW := (w.1, fun q => if q = p then (match w.2 p with | some (.inl (t, n, .inr (.inr (.inr (.inr _))))) => some (.inl (t, n, .inr (.inr (.inr (.inr f))))) | x => x) else w.2 q)
def qpu (w : qW) (c : va_E) : qW := (w.1 + 1, fun q => if q = w.1 then some c else w.2 q)
theorem qgF_s {w : qW} {p ci k : Nat} {v : Value} (h : qgF w p ci k = some v) : ∃ fs, w.2 p = some (.inr (ci, fs)) ∧ fs[k]? = some v := by
  unfold qgF at h
  split at h
  · rename_i c fs hw
    by_cases hc : c = ci
    · rw [if_pos hc] at h
      exact ⟨fs, by rw [hw, hc], h⟩
    · rw [if_neg hc] at h
      cases h
  · cases h
theorem qgI_s {w : qW} {p t n : Nat} {f : Nat → Int32} (h : qgI w p t = some (n, f)) : w.2 p = some (.inl (t, n, .inl f)) := by
  unfold qgI at h
  split at h
  · rename_i t' n' f' hw
    by_cases hc : t' = t
    · rw [if_pos hc] at h
      cases h
      rw [hw, hc]
    · rw [if_neg hc] at h
      cases h
  · cases h
theorem qgL_s {w : qW} {p n : Nat} {f : Nat → Int64} (h : qgL w p = some (n, f)) : w.2 p = some (.inl (2, n, .inr (.inl f))) := by
  unfold qgL at h
  split at h
  · rename_i t' n' f' hw
    by_cases hc : t' = 2
    · rw [if_pos hc] at h
      cases h
      rw [hw, hc]
    · rw [if_neg hc] at h
      cases h
  · cases h
theorem qgR_s {w : qW} {p n : Nat} {f : Nat → Option Nat} (h : qgR w p = some (n, f)) : w.2 p = some (.inl (3, n, .inr (.inr (.inr (.inr f))))) := by
  unfold qgR at h
  split at h
  · rename_i t' n' f' hw
    by_cases hc : t' = 3
    · rw [if_pos hc] at h
      cases h
      rw [hw, hc]
    · rw [if_neg hc] at h
      cases h
  · cases h
/-- one cell anew: the heap holds the world with it -/
theorem qH.up {D : va_G} {cA : Nat → ClassId} {z : qZ} {w w' : qW} {H H1 : Heap} {p : Nat} {c' : va_E} (h : qH D cA z w H) (h1 : w'.1 = w.1) (hp : w'.2 p = some c') (hq : ∀ q, q ≠ p → w'.2 q = w.2 q)
    (hz : H1.size = H.size) (ha : va_at D vwCl (z.1 + p, qe cA z c') H1) (ho : ∀ q : Nat, q ≠ z.1 + p → H1[q]? = H[q]?) : qH D cA z w' H1 := by
  refine ⟨by rw [hz, h.1, h1], fun q c hc => ?_⟩
  by_cases e : q = p
  · subst e
    rw [hp] at hc
    cases hc
    exact ha
  · rw [hq q e] at hc
    exact (h.2 q c hc).kept (ho _ (by show z.1 + q ≠ z.1 + p; omega))
theorem qH.push {D : va_G} {cA : Nat → ClassId} {z : qZ} {w : qW} {H H1 : Heap} {c' : va_E} (h : qH D cA z w H) (hz : H1.size = H.size + 1) (ha : va_at D vwCl (z.1 + w.1, qe cA z c') H1) (ho : ∀ q : Nat, q < H.size → H1[q]? = H[q]?) : qH D cA z (qpu w c') H1 := by
  refine ⟨by rw [hz, h.1]; rfl, fun q c hc => ?_⟩
  by_cases e : q = w.1
  · subst e
    simp only [qpu, if_true] at hc
    cases hc
    exact ha
  · simp only [qpu, if_neg e] at hc
    exact (h.2 q c hc).kept (ho _ (h.2 q c hc).lt)
theorem qA_in {z : qZ} (p : Nat) : qA z (z.1 + p) := Nat.le_add_right _ _
end
section
def s_iconst (v : Int32) (K : qK) : qK := fun L st w kc ks => K L (.int v :: st) w kc ks
def s_lconst (v : Int64) (K : qK) : qK := fun L st w kc ks => K L (.long v :: st) w kc ks
theorem r_iconst {g : qG} {pc : Nat} {K : qK} {n : Int} {v : Int32} (hd : decode g.1.2.1 pc = .ok (.iconst n, 1)) (hv : Int32.ofInt n = v) (h : qImp K (AW g (pc + 1))) : qImp (s_iconst v K) (AW g pc) := by
  intro L st w kc ks hK p l e R s m args below meth c D cA z H locs ls X hH hS hL
  exact lv_iconst X.1 X.2.1 hd hv (h L _ w kc ks hK p l e R s m args below meth c D cA z H locs ls X hH hS hL)
theorem r_bipush {g : qG} {pc : Nat} {K : qK} {n : Int} {v : Int32} (hd : decode g.1.2.1 pc = .ok (.bipush n, 2)) (hv : (Int8.ofInt n).toInt32 = v) (h : qImp K (AW g (pc + 2))) : qImp (s_iconst v K) (AW g pc) := by
  intro L st w kc ks hK p l e R s m args below meth c D cA z H locs ls X hH hS hL
  exact lv_bipush X.1 X.2.1 hd hv (h L _ w kc ks hK p l e R s m args below meth c D cA z H locs ls X hH hS hL)
theorem r_sipush {g : qG} {pc : Nat} {K : qK} {n : Int} {v : Int32} (hd : decode g.1.2.1 pc = .ok (.sipush n, 3)) (hv : (Int16.ofInt n).toInt32 = v) (h : qImp K (AW g (pc + 3))) : qImp (s_iconst v K) (AW g pc) := by
  intro L st w kc ks hK p l e R s m args below meth c D cA z H locs ls X hH hS hL
  exact lv_sipush X.1 X.2.1 hd hv (h L _ w kc ks hK p l e R s m args below meth c D cA z H locs ls X hH hS hL)
theorem r_lconst {g : qG} {pc : Nat} {K : qK} {n : Fin 2} {v : Int64} (hd : decode g.1.2.1 pc = .ok (.lconst n, 1)) (hv : Int64.ofNat (n : Nat) = v) (h : qImp K (AW g (pc + 1))) : qImp (s_lconst v K) (AW g pc) := by
  intro L st w kc ks hK p l e R s m args below meth c D cA z H locs ls X hH hS hL
  exact lv_lconst X.1 X.2.1 hd hv (h L _ w kc ks hK p l e R s m args below meth c D cA z H locs ls X hH hS hL)
theorem r_ldc {g : qG} {pc : Nat} {K : qK} {i : Nat} {v : Int32} (hd : decode g.1.2.1 pc = .ok (.ldc i, 2)) (hc : Cond.constant g.1.1.cls i v ∈ qg) (h : qImp K (AW g (pc + 2))) : qImp (s_iconst v K) (AW g pc) := by
  intro L st w kc ks hK p l e R s m args below meth c D cA z H locs ls X hH hS hL
  exact lv_ldc X.1 X.2.1 X.2.2.2.1 (X.2.2.2.2.1 _ hc) hd (h L _ w kc ks hK p l e R s m args below meth c D cA z H locs ls X hH hS hL)
theorem r_ldcw {g : qG} {pc : Nat} {K : qK} {i : Nat} {v : Int32} (hd : decode g.1.2.1 pc = .ok (.ldc_w i, 3)) (hc : Cond.constant g.1.1.cls i v ∈ qg) (h : qImp K (AW g (pc + 3))) : qImp (s_iconst v K) (AW g pc) := by
  intro L st w kc ks hK p l e R s m args below meth c D cA z H locs ls X hH hS hL
  exact lv_ldcw X.1 X.2.1 X.2.2.2.1 (X.2.2.2.2.1 _ hc) hd (h L _ w kc ks hK p l e R s m args below meth c D cA z H locs ls X hH hS hL)
theorem r_ldc2 {g : qG} {pc : Nat} {K : qK} {i : Nat} {v : Int64} (hd : decode g.1.2.1 pc = .ok (.ldc2_w i, 3)) (hc : Cond.constantLong g.1.1.cls i v ∈ qg) (h : qImp K (AW g (pc + 3))) : qImp (s_lconst v K) (AW g pc) := by
  intro L st w kc ks hK p l e R s m args below meth c D cA z H locs ls X hH hS hL
  exact lv_ldc2 X.1 X.2.1 X.2.2.2.1 (X.2.2.2.2.1 _ hc) hd (h L _ w kc ks hK p l e R s m args below meth c D cA z H locs ls X hH hS hL)
def s_iload (i : Nat) (K : qK) : qK := fun L st w kc ks => match L[i]? with
  | some (some (.int x)) => K L (.int x :: st) w kc ks
  | _ => False
theorem r_iload {g : qG} {pc : Nat} {K : qK} {i : Nat} (hd : decode g.1.2.1 pc = .ok (.iload i, 2)) (h : qImp K (AW g (pc + 2))) : qImp (s_iload i K) (AW g pc) := by
  intro L st w kc ks hK
  unfold s_iload at hK
  split at hK
  · rename_i x hx
    intro p l e R s m args below meth c D cA z H locs ls X hH hS hL
    exact lv_iload X.1 X.2.1 hd (hL.at hx) (h L _ w kc ks hK p l e R s m args below meth c D cA z H locs ls X hH hS hL)
  · exact hK.elim
theorem r_iload_n {g : qG} {pc : Nat} {K : qK} {k : Fin 4} {i : Nat} (hd : decode g.1.2.1 pc = .ok (.iload_n k, 1)) (hi : (k : Nat) = i) (h : qImp K (AW g (pc + 1))) : qImp (s_iload i K) (AW g pc) := by
  intro L st w kc ks hK
  unfold s_iload at hK
  split at hK
  · rename_i x hx
    intro p l e R s m args below meth c D cA z H locs ls X hH hS hL
    exact lv_iload_n X.1 X.2.1 hd hi (hL.at hx) (h L _ w kc ks hK p l e R s m args below meth c D cA z H locs ls X hH hS hL)
  · exact hK.elim
def s_lload (i : Nat) (K : qK) : qK := fun L st w kc ks => match L[i]? with
  | some (some (.long x)) => K L (.long x :: st) w kc ks
  | _ => False
theorem r_lload {g : qG} {pc : Nat} {K : qK} {i : Nat} (hd : decode g.1.2.1 pc = .ok (.lload i, 2)) (h : qImp K (AW g (pc + 2))) : qImp (s_lload i K) (AW g pc) := by
  intro L st w kc ks hK
  unfold s_lload at hK
  split at hK
  · rename_i x hx
    intro p l e R s m args below meth c D cA z H locs ls X hH hS hL
    exact lv_lload X.1 X.2.1 hd (hL.at hx) (h L _ w kc ks hK p l e R s m args below meth c D cA z H locs ls X hH hS hL)
  · exact hK.elim
theorem r_lload_n {g : qG} {pc : Nat} {K : qK} {k : Fin 4} {i : Nat} (hd : decode g.1.2.1 pc = .ok (.lload_n k, 1)) (hi : (k : Nat) = i) (h : qImp K (AW g (pc + 1))) : qImp (s_lload i K) (AW g pc) := by
  intro L st w kc ks hK
  unfold s_lload at hK
  split at hK
  · rename_i x hx
    intro p l e R s m args below meth c D cA z H locs ls X hH hS hL
    exact lv_lload_n X.1 X.2.1 hd hi (hL.at hx) (h L _ w kc ks hK p l e R s m args below meth c D cA z H locs ls X hH hS hL)
  · exact hK.elim
def s_aload (i : Nat) (K : qK) : qK := fun L st w kc ks => match L[i]? with
  | some (some (.ref x)) => K L (.ref x :: st) w kc ks
  | some (some (.retAddr x)) => K L (.retAddr x :: st) w kc ks
  | _ => False
theorem r_aload {g : qG} {pc : Nat} {K : qK} {i : Nat} (hd : decode g.1.2.1 pc = .ok (.aload i, 2)) (h : qImp K (AW g (pc + 2))) : qImp (s_aload i K) (AW g pc) := by
  intro L st w kc ks hK
  unfold s_aload at hK
  split at hK
  · rename_i x hx
    intro p l e R s m args below meth c D cA z H locs ls X hH hS hL
    exact lv_aload X.1 X.2.1 hd (hL.at hx) (h L _ w kc ks hK p l e R s m args below meth c D cA z H locs ls X hH hS hL)
  · rename_i x hx
    intro p l e R s m args below meth c D cA z H locs ls X hH hS hL
    exact lv_aload X.1 X.2.1 hd (hL.at hx) (h L _ w kc ks hK p l e R s m args below meth c D cA z H locs ls X hH hS hL)
  · exact hK.elim
theorem r_aload_n {g : qG} {pc : Nat} {K : qK} {k : Fin 4} {i : Nat} (hd : decode g.1.2.1 pc = .ok (.aload_n k, 1)) (hi : (k : Nat) = i) (h : qImp K (AW g (pc + 1))) : qImp (s_aload i K) (AW g pc) := by
  intro L st w kc ks hK
  unfold s_aload at hK
  split at hK
  · rename_i x hx
    intro p l e R s m args below meth c D cA z H locs ls X hH hS hL
    exact lv_aload_n X.1 X.2.1 hd hi (hL.at hx) (h L _ w kc ks hK p l e R s m args below meth c D cA z H locs ls X hH hS hL)
  · rename_i x hx
    intro p l e R s m args below meth c D cA z H locs ls X hH hS hL
    exact lv_aload_n X.1 X.2.1 hd hi (hL.at hx) (h L _ w kc ks hK p l e R s m args below meth c D cA z H locs ls X hH hS hL)
  · exact hK.elim
def qnl (L : qL) (i j : Nat) : Prop := ∀ v, j + 1 = i → L[j]? = some (some v) → v.category = 1
def qnb (L : qL) (j : Nat) : Bool := match L[j]? with
  | some (some (.long _)) => false
  | some (some (.double _)) => false
  | _ => true
theorem qv_cat (z : qZ) (v : Value) : (qv z v).category = v.category := by cases v <;> rfl
theorem qnb_s {L : qL} {j : Nat} (h : qnb L j = true) {v : Value} (hv : L[j]? = some (some v)) : v.category = 1 := by
  unfold qnb at h
  rw [hv] at h
  cases v <;> first | rfl | cases h
theorem qR.set1 {z : qZ} {ls' : Array Slot} {nL : Nat} {L : qL} {i j : Nat} {v : Value} (hj : i = 0 ∨ i = j + 1) (hn : qnb L j = true) (h : lv_has ls' nL ((i, qv z v) :: (qP z L).filter (fun q => !(q.1 == i) && !(q.1 + 1 == i && q.2.category == 2)))) : qR z ls' nL (L.set i (some v)) := by
  refine qR.sub h fun a u hu => ?_
  rw [List.getElem?_set] at hu
  by_cases e : i = a
  · subst e
    rw [if_pos rfl] at hu
    split at hu
    · cases hu
      exact List.mem_cons_self
    · cases hu
  · rw [if_neg e] at hu
    refine List.mem_cons_of_mem _ (List.mem_filter.mpr ⟨qP_mem.mpr ⟨u, hu, rfl⟩, ?_⟩)
    have h1 : (a == i) = false := by simpa using fun q => e q.symm
    have h2 : (a + 1 == i && (qv z u).category == 2) = false := by
      by_cases q : a + 1 = i
      · have : a = j := by omega
        subst this
        rw [qv_cat, qnb_s hn hu]
        simp
      · simp [q]
    simp only [h1, h2]
    rfl
theorem qR.set2 {z : qZ} {ls' : Array Slot} {nL : Nat} {L : qL} {i j : Nat} {v : Value} (hj : i = 0 ∨ i = j + 1) (hn : qnb L j = true) (h : lv_has ls' nL ((i, qv z v) :: (qP z L).filter (fun q => !(q.1 == i) && (!(q.1 == i + 1) && !(q.1 + 1 == i && q.2.category == 2))))) : qR z ls' nL ((L.set i (some v)).set (i + 1) none) := by
  refine qR.sub h fun a u hu => ?_
  rw [List.getElem?_set] at hu
  by_cases e1 : i + 1 = a
  · rw [if_pos e1] at hu
    split at hu <;> cases hu
  rw [if_neg e1, List.getElem?_set] at hu
  by_cases e : i = a
  · subst e
    rw [if_pos rfl] at hu
    split at hu
    · cases hu
      exact List.mem_cons_self
    · cases hu
  · rw [if_neg e] at hu
    refine List.mem_cons_of_mem _ (List.mem_filter.mpr ⟨qP_mem.mpr ⟨u, hu, rfl⟩, ?_⟩)
    have h1 : (a == i) = false := by simpa using fun q => e q.symm
    have h3 : (a == i + 1) = false := by simpa using fun q => e1 q.symm
    have h2 : (a + 1 == i && (qv z u).category == 2) = false := by
      by_cases q : a + 1 = i
      · have : a = j := by omega
        subst this
        rw [qv_cat, qnb_s hn hu]
        simp
      · simp [q]
    simp only [h1, h2, h3]
    rfl
def s_istore (i j : Nat) (K : qK) : qK := fun L st w kc ks => match st with
  | .int x :: st => qnb L j = true ∧ K (L.set i (some (.int x))) st w kc ks
  | _ => False
theorem r_istore {g : qG} {pc : Nat} {K : qK} {i j : Nat} (hd : decode g.1.2.1 pc = .ok (.istore i, 2)) (hj : i = 0 ∨ i = j + 1) (hn : i < g.1.2.2.1) (h : qImp K (AW g (pc + 2))) : qImp (s_istore i j K) (AW g pc) := by
  intro L st w kc ks hK
  unfold s_istore at hK
  split at hK
  · rename_i x st
    intro p l e R s m args below meth c D cA z H locs ls X hH hS hL
    exact lv_istore X.1 X.2.1 hd hL hn rfl (fun ls' hl' => h _ _ w kc ks hK.2 p l e R s m args below meth c D cA z H locs ls' X hH hS (qR.set1 hj hK.1 hl'))
  · exact hK.elim
theorem r_istore_n {g : qG} {pc : Nat} {K : qK} {k : Fin 4} {i j : Nat} (hd : decode g.1.2.1 pc = .ok (.istore_n k, 1)) (hi : (k : Nat) = i) (hj : i = 0 ∨ i = j + 1) (hn : i < g.1.2.2.1) (h : qImp K (AW g (pc + 1))) : qImp (s_istore i j K) (AW g pc) := by
  intro L st w kc ks hK
  unfold s_istore at hK
  split at hK
  · rename_i x st
    intro p l e R s m args below meth c D cA z H locs ls X hH hS hL
    exact lv_istore_n X.1 X.2.1 hd hi hL hn rfl (fun ls' hl' => h _ _ w kc ks hK.2 p l e R s m args below meth c D cA z H locs ls' X hH hS (qR.set1 hj hK.1 hl'))
  · exact hK.elim
def s_astore (i j : Nat) (K : qK) : qK := fun L st w kc ks => match st with
  | .ref x :: st => qnb L j = true ∧ K (L.set i (some (.ref x))) st w kc ks
  | _ => False
theorem r_astore {g : qG} {pc : Nat} {K : qK} {i j : Nat} (hd : decode g.1.2.1 pc = .ok (.astore i, 2)) (hj : i = 0 ∨ i = j + 1) (hn : i < g.1.2.2.1) (h : qImp K (AW g (pc + 2))) : qImp (s_astore i j K) (AW g pc) := by
  intro L st w kc ks hK
  unfold s_astore at hK
  split at hK
  · rename_i x st
    intro p l e R s m args below meth c D cA z H locs ls X hH hS hL
    exact lv_astore X.1 X.2.1 hd hL hn rfl (fun ls' hl' => h _ _ w kc ks hK.2 p l e R s m args below meth c D cA z H locs ls' X hH hS (qR.set1 hj hK.1 hl'))
  · exact hK.elim
theorem r_astore_n {g : qG} {pc : Nat} {K : qK} {k : Fin 4} {i j : Nat} (hd : decode g.1.2.1 pc = .ok (.astore_n k, 1)) (hi : (k : Nat) = i) (hj : i = 0 ∨ i = j + 1) (hn : i < g.1.2.2.1) (h : qImp K (AW g (pc + 1))) : qImp (s_astore i j K) (AW g pc) := by
  intro L st w kc ks hK
  unfold s_astore at hK
  split at hK
  · rename_i x st
    intro p l e R s m args below meth c D cA z H locs ls X hH hS hL
    exact lv_astore_n X.1 X.2.1 hd hi hL hn rfl (fun ls' hl' => h _ _ w kc ks hK.2 p l e R s m args below meth c D cA z H locs ls' X hH hS (qR.set1 hj hK.1 hl'))
  · exact hK.elim
def s_lstore (i j : Nat) (K : qK) : qK := fun L st w kc ks => match st with
  | .long x :: st => qnb L j = true ∧ K ((L.set i (some (.long x))).set (i + 1) none) st w kc ks
  | _ => False
theorem r_lstore {g : qG} {pc : Nat} {K : qK} {i j : Nat} (hd : decode g.1.2.1 pc = .ok (.lstore i, 2)) (hj : i = 0 ∨ i = j + 1) (hn : i + 1 < g.1.2.2.1) (h : qImp K (AW g (pc + 2))) : qImp (s_lstore i j K) (AW g pc) := by
  intro L st w kc ks hK
  unfold s_lstore at hK
  split at hK
  · rename_i x st
    intro p l e R s m args below meth c D cA z H locs ls X hH hS hL
    exact lv_lstore X.1 X.2.1 hd hL hn rfl (fun ls' hl' => h _ _ w kc ks hK.2 p l e R s m args below meth c D cA z H locs ls' X hH hS (qR.set2 hj hK.1 hl'))
  · exact hK.elim
theorem r_lstore_n {g : qG} {pc : Nat} {K : qK} {k : Fin 4} {i j : Nat} (hd : decode g.1.2.1 pc = .ok (.lstore_n k, 1)) (hi : (k : Nat) = i) (hj : i = 0 ∨ i = j + 1) (hn : i + 1 < g.1.2.2.1) (h : qImp K (AW g (pc + 1))) : qImp (s_lstore i j K) (AW g pc) := by
  intro L st w kc ks hK
  unfold s_lstore at hK
  split at hK
  · rename_i x st
    intro p l e R s m args below meth c D cA z H locs ls X hH hS hL
    exact lv_lstore_n X.1 X.2.1 hd hi hL hn rfl (fun ls' hl' => h _ _ w kc ks hK.2 p l e R s m args below meth c D cA z H locs ls' X hH hS (qR.set2 hj hK.1 hl'))
  · exact hK.elim
theorem qP_at {z : qZ} {L : qL} {i : Nat} {v : Value} (h : L[i]? = some (some v)) : ∃ k : Nat, (qP z L)[k]? = some (i, qv z v) := List.mem_iff_getElem?.mp (qP_mem.mpr ⟨v, h, rfl⟩)
def s_iinc (i j : Nat) (v : Int32) (K : qK) : qK := fun L st w kc ks => match L[i]? with
  | some (some (.int x)) => qnb L j = true ∧ K (L.set i (some (.int (x + v)))) st w kc ks
  | _ => False
theorem r_iinc {g : qG} {pc : Nat} {K : qK} {i j : Nat} {n : Int} {v : Int32} (hd : decode g.1.2.1 pc = .ok (.iinc i n, 3)) (hv : Int32.ofInt n = v) (hj : i = 0 ∨ i = j + 1) (hn : i < g.1.2.2.1) (h : qImp K (AW g (pc + 3))) : qImp (s_iinc i j v K) (AW g pc) := by
  intro L st w kc ks hK
  unfold s_iinc at hK
  split at hK
  · rename_i x hx
    intro p l e R s m args below meth c D cA z H locs ls X hH hS hL
    obtain ⟨k, hk⟩ := qP_at (z := z) hx
    exact lv_iinc (x := x) (v := x + v) X.1 X.2.1 hd hL hk (by rw [hv]) hn rfl (fun ls' hl' => h _ st w kc ks hK.2 p l e R s m args below meth c D cA z H locs ls' X hH hS (qR.set1 (v := .int (x + v)) hj hK.1 hl'))
  · exact hK.elim
def s_iadd (K : qK) : qK := fun L st w kc ks => match st with
  | .int y :: .int x :: st => K L (.int (x + y) :: st) w kc ks
  | _ => False
theorem r_iadd {g : qG} {pc : Nat} {K : qK}  (hd : decode g.1.2.1 pc = .ok (.iadd, 1)) (h : qImp K (AW g (pc + 1))) : qImp (s_iadd K) (AW g pc) := by
  intro L st w kc ks hK
  unfold s_iadd at hK
  split at hK
  · intro p l e R s m args below meth c D cA z H locs ls X hH hS hL
    exact lv_iadd X.1 X.2.1 hd (h L _ w kc ks hK p l e R s m args below meth c D cA z H locs ls X hH hS hL)
  · exact hK.elim
def s_isub (K : qK) : qK := fun L st w kc ks => match st with
  | .int y :: .int x :: st => K L (.int (x - y) :: st) w kc ks
  | _ => False
theorem r_isub {g : qG} {pc : Nat} {K : qK}  (hd : decode g.1.2.1 pc = .ok (.isub, 1)) (h : qImp K (AW g (pc + 1))) : qImp (s_isub K) (AW g pc) := by
  intro L st w kc ks hK
  unfold s_isub at hK
  split at hK
  · intro p l e R s m args below meth c D cA z H locs ls X hH hS hL
    exact lv_isub X.1 X.2.1 hd (h L _ w kc ks hK p l e R s m args below meth c D cA z H locs ls X hH hS hL)
  · exact hK.elim
def s_imul (K : qK) : qK := fun L st w kc ks => match st with
  | .int y :: .int x :: st => K L (.int (x * y) :: st) w kc ks
  | _ => False
theorem r_imul {g : qG} {pc : Nat} {K : qK}  (hd : decode g.1.2.1 pc = .ok (.imul, 1)) (h : qImp K (AW g (pc + 1))) : qImp (s_imul K) (AW g pc) := by
  intro L st w kc ks hK
  unfold s_imul at hK
  split at hK
  · intro p l e R s m args below meth c D cA z H locs ls X hH hS hL
    exact lv_imul X.1 X.2.1 hd (h L _ w kc ks hK p l e R s m args below meth c D cA z H locs ls X hH hS hL)
  · exact hK.elim
def s_iand (K : qK) : qK := fun L st w kc ks => match st with
  | .int y :: .int x :: st => K L (.int (x &&& y) :: st) w kc ks
  | _ => False
theorem r_iand {g : qG} {pc : Nat} {K : qK}  (hd : decode g.1.2.1 pc = .ok (.iand, 1)) (h : qImp K (AW g (pc + 1))) : qImp (s_iand K) (AW g pc) := by
  intro L st w kc ks hK
  unfold s_iand at hK
  split at hK
  · intro p l e R s m args below meth c D cA z H locs ls X hH hS hL
    exact lv_iand X.1 X.2.1 hd (h L _ w kc ks hK p l e R s m args below meth c D cA z H locs ls X hH hS hL)
  · exact hK.elim
def s_ior (K : qK) : qK := fun L st w kc ks => match st with
  | .int y :: .int x :: st => K L (.int (x ||| y) :: st) w kc ks
  | _ => False
theorem r_ior {g : qG} {pc : Nat} {K : qK}  (hd : decode g.1.2.1 pc = .ok (.ior, 1)) (h : qImp K (AW g (pc + 1))) : qImp (s_ior K) (AW g pc) := by
  intro L st w kc ks hK
  unfold s_ior at hK
  split at hK
  · intro p l e R s m args below meth c D cA z H locs ls X hH hS hL
    exact lv_ior X.1 X.2.1 hd (h L _ w kc ks hK p l e R s m args below meth c D cA z H locs ls X hH hS hL)
  · exact hK.elim
def s_ixor (K : qK) : qK := fun L st w kc ks => match st with
  | .int y :: .int x :: st => K L (.int (x ^^^ y) :: st) w kc ks
  | _ => False
theorem r_ixor {g : qG} {pc : Nat} {K : qK}  (hd : decode g.1.2.1 pc = .ok (.ixor, 1)) (h : qImp K (AW g (pc + 1))) : qImp (s_ixor K) (AW g pc) := by
  intro L st w kc ks hK
  unfold s_ixor at hK
  split at hK
  · intro p l e R s m args below meth c D cA z H locs ls X hH hS hL
    exact lv_ixor X.1 X.2.1 hd (h L _ w kc ks hK p l e R s m args below meth c D cA z H locs ls X hH hS hL)
  · exact hK.elim
def s_ishl (K : qK) : qK := fun L st w kc ks => match st with
  | .int y :: .int x :: st => K L (.int (x <<< (y &&& 31)) :: st) w kc ks
  | _ => False
theorem r_ishl {g : qG} {pc : Nat} {K : qK}  (hd : decode g.1.2.1 pc = .ok (.ishl, 1)) (h : qImp K (AW g (pc + 1))) : qImp (s_ishl K) (AW g pc) := by
  intro L st w kc ks hK
  unfold s_ishl at hK
  split at hK
  · intro p l e R s m args below meth c D cA z H locs ls X hH hS hL
    exact lv_ishl X.1 X.2.1 hd (h L _ w kc ks hK p l e R s m args below meth c D cA z H locs ls X hH hS hL)
  · exact hK.elim
def s_ishr (K : qK) : qK := fun L st w kc ks => match st with
  | .int y :: .int x :: st => K L (.int (x >>> (y &&& 31)) :: st) w kc ks
  | _ => False
theorem r_ishr {g : qG} {pc : Nat} {K : qK}  (hd : decode g.1.2.1 pc = .ok (.ishr, 1)) (h : qImp K (AW g (pc + 1))) : qImp (s_ishr K) (AW g pc) := by
  intro L st w kc ks hK
  unfold s_ishr at hK
  split at hK
  · intro p l e R s m args below meth c D cA z H locs ls X hH hS hL
    exact lv_ishr X.1 X.2.1 hd (h L _ w kc ks hK p l e R s m args below meth c D cA z H locs ls X hH hS hL)
  · exact hK.elim
def s_iushr (K : qK) : qK := fun L st w kc ks => match st with
  | .int y :: .int x :: st => K L (.int ((x.toUInt32 >>> (y.toUInt32 &&& Int32.toUInt32 31)).toInt32) :: st) w kc ks
  | _ => False
theorem r_iushr {g : qG} {pc : Nat} {K : qK}  (hd : decode g.1.2.1 pc = .ok (.iushr, 1)) (h : qImp K (AW g (pc + 1))) : qImp (s_iushr K) (AW g pc) := by
  intro L st w kc ks hK
  unfold s_iushr at hK
  split at hK
  · intro p l e R s m args below meth c D cA z H locs ls X hH hS hL
    exact lv_iushr X.1 X.2.1 hd rfl (h L _ w kc ks hK p l e R s m args below meth c D cA z H locs ls X hH hS hL)
  · exact hK.elim
def s_idiv (K : qK) : qK := fun L st w kc ks => match st with
  | .int y :: .int x :: st => ¬ y = 0 ∧ K L (.int (x / y) :: st) w kc ks
  | _ => False
theorem r_idiv {g : qG} {pc : Nat} {K : qK}  (hd : decode g.1.2.1 pc = .ok (.idiv, 1)) (h : qImp K (AW g (pc + 1))) : qImp (s_idiv K) (AW g pc) := by
  intro L st w kc ks hK
  unfold s_idiv at hK
  split at hK
  · intro p l e R s m args below meth c D cA z H locs ls X hH hS hL
    exact lv_idiv X.1 X.2.1 hd hK.1 (h L _ w kc ks hK.2 p l e R s m args below meth c D cA z H locs ls X hH hS hL)
  · exact hK.elim
def s_irem (K : qK) : qK := fun L st w kc ks => match st with
  | .int y :: .int x :: st => ¬ y = 0 ∧ K L (.int (x - x / y * y) :: st) w kc ks
  | _ => False
theorem r_irem {g : qG} {pc : Nat} {K : qK}  (hd : decode g.1.2.1 pc = .ok (.irem, 1)) (h : qImp K (AW g (pc + 1))) : qImp (s_irem K) (AW g pc) := by
  intro L st w kc ks hK
  unfold s_irem at hK
  split at hK
  · intro p l e R s m args below meth c D cA z H locs ls X hH hS hL
    exact lv_irem X.1 X.2.1 hd hK.1 (h L _ w kc ks hK.2 p l e R s m args below meth c D cA z H locs ls X hH hS hL)
  · exact hK.elim
def s_ladd (K : qK) : qK := fun L st w kc ks => match st with
  | .long y :: .long x :: st => K L (.long (x + y) :: st) w kc ks
  | _ => False
theorem r_ladd {g : qG} {pc : Nat} {K : qK}  (hd : decode g.1.2.1 pc = .ok (.ladd, 1)) (h : qImp K (AW g (pc + 1))) : qImp (s_ladd K) (AW g pc) := by
  intro L st w kc ks hK
  unfold s_ladd at hK
  split at hK
  · intro p l e R s m args below meth c D cA z H locs ls X hH hS hL
    exact lv_ladd X.1 X.2.1 hd (h L _ w kc ks hK p l e R s m args below meth c D cA z H locs ls X hH hS hL)
  · exact hK.elim
def s_lsub (K : qK) : qK := fun L st w kc ks => match st with
  | .long y :: .long x :: st => K L (.long (x - y) :: st) w kc ks
  | _ => False
theorem r_lsub {g : qG} {pc : Nat} {K : qK}  (hd : decode g.1.2.1 pc = .ok (.lsub, 1)) (h : qImp K (AW g (pc + 1))) : qImp (s_lsub K) (AW g pc) := by
  intro L st w kc ks hK
  unfold s_lsub at hK
  split at hK
  · intro p l e R s m args below meth c D cA z H locs ls X hH hS hL
    exact lv_lsub X.1 X.2.1 hd (h L _ w kc ks hK p l e R s m args below meth c D cA z H locs ls X hH hS hL)
  · exact hK.elim
def s_lmul (K : qK) : qK := fun L st w kc ks => match st with
  | .long y :: .long x :: st => K L (.long (x * y) :: st) w kc ks
  | _ => False
theorem r_lmul {g : qG} {pc : Nat} {K : qK}  (hd : decode g.1.2.1 pc = .ok (.lmul, 1)) (h : qImp K (AW g (pc + 1))) : qImp (s_lmul K) (AW g pc) := by
  intro L st w kc ks hK
  unfold s_lmul at hK
  split at hK
  · intro p l e R s m args below meth c D cA z H locs ls X hH hS hL
    exact lv_lmul X.1 X.2.1 hd (h L _ w kc ks hK p l e R s m args below meth c D cA z H locs ls X hH hS hL)
  · exact hK.elim
def s_land (K : qK) : qK := fun L st w kc ks => match st with
  | .long y :: .long x :: st => K L (.long (x &&& y) :: st) w kc ks
  | _ => False
theorem r_land {g : qG} {pc : Nat} {K : qK}  (hd : decode g.1.2.1 pc = .ok (.land, 1)) (h : qImp K (AW g (pc + 1))) : qImp (s_land K) (AW g pc) := by
  intro L st w kc ks hK
  unfold s_land at hK
  split at hK
  · intro p l e R s m args below meth c D cA z H locs ls X hH hS hL
    exact lv_land X.1 X.2.1 hd (h L _ w kc ks hK p l e R s m args below meth c D cA z H locs ls X hH hS hL)
  · exact hK.elim
def s_lor (K : qK) : qK := fun L st w kc ks => match st with
  | .long y :: .long x :: st => K L (.long (x ||| y) :: st) w kc ks
  | _ => False
theorem r_lor {g : qG} {pc : Nat} {K : qK}  (hd : decode g.1.2.1 pc = .ok (.lor, 1)) (h : qImp K (AW g (pc + 1))) : qImp (s_lor K) (AW g pc) := by
  intro L st w kc ks hK
  unfold s_lor at hK
  split at hK
  · intro p l e R s m args below meth c D cA z H locs ls X hH hS hL
    exact lv_lor X.1 X.2.1 hd (h L _ w kc ks hK p l e R s m args below meth c D cA z H locs ls X hH hS hL)
  · exact hK.elim
def s_lxor (K : qK) : qK := fun L st w kc ks => match st with
  | .long y :: .long x :: st => K L (.long (x ^^^ y) :: st) w kc ks
  | _ => False
theorem r_lxor {g : qG} {pc : Nat} {K : qK}  (hd : decode g.1.2.1 pc = .ok (.lxor, 1)) (h : qImp K (AW g (pc + 1))) : qImp (s_lxor K) (AW g pc) := by
  intro L st w kc ks hK
  unfold s_lxor at hK
  split at hK
  · intro p l e R s m args below meth c D cA z H locs ls X hH hS hL
    exact lv_lxor X.1 X.2.1 hd (h L _ w kc ks hK p l e R s m args below meth c D cA z H locs ls X hH hS hL)
  · exact hK.elim
def s_lshl (K : qK) : qK := fun L st w kc ks => match st with
  | .int y :: .long x :: st => K L (.long (x <<< (y.toInt64 &&& 63)) :: st) w kc ks
  | _ => False
theorem r_lshl {g : qG} {pc : Nat} {K : qK}  (hd : decode g.1.2.1 pc = .ok (.lshl, 1)) (h : qImp K (AW g (pc + 1))) : qImp (s_lshl K) (AW g pc) := by
  intro L st w kc ks hK
  unfold s_lshl at hK
  split at hK
  · intro p l e R s m args below meth c D cA z H locs ls X hH hS hL
    exact lv_lshl X.1 X.2.1 hd rfl (h L _ w kc ks hK p l e R s m args below meth c D cA z H locs ls X hH hS hL)
  · exact hK.elim
def s_lushr (K : qK) : qK := fun L st w kc ks => match st with
  | .int y :: .long x :: st => K L (.long ((x.toUInt64 >>> (y.toInt64.toUInt64 &&& Int64.toUInt64 63)).toInt64) :: st) w kc ks
  | _ => False
theorem r_lushr {g : qG} {pc : Nat} {K : qK}  (hd : decode g.1.2.1 pc = .ok (.lushr, 1)) (h : qImp K (AW g (pc + 1))) : qImp (s_lushr K) (AW g pc) := by
  intro L st w kc ks hK
  unfold s_lushr at hK
  split at hK
  · intro p l e R s m args below meth c D cA z H locs ls X hH hS hL
    exact lv_lushr X.1 X.2.1 hd rfl (h L _ w kc ks hK p l e R s m args below meth c D cA z H locs ls X hH hS hL)
  · exact hK.elim
def s_i2l (K : qK) : qK := fun L st w kc ks => match st with
  | .int x :: st => K L (.long x.toInt64 :: st) w kc ks
  | _ => False
theorem r_i2l {g : qG} {pc : Nat} {K : qK}  (hd : decode g.1.2.1 pc = .ok (.i2l, 1)) (h : qImp K (AW g (pc + 1))) : qImp (s_i2l K) (AW g pc) := by
  intro L st w kc ks hK
  unfold s_i2l at hK
  split at hK
  · intro p l e R s m args below meth c D cA z H locs ls X hH hS hL
    exact lv_i2l X.1 X.2.1 hd rfl (h L _ w kc ks hK p l e R s m args below meth c D cA z H locs ls X hH hS hL)
  · exact hK.elim
def s_l2i (K : qK) : qK := fun L st w kc ks => match st with
  | .long x :: st => K L (.int x.toInt32 :: st) w kc ks
  | _ => False
theorem r_l2i {g : qG} {pc : Nat} {K : qK}  (hd : decode g.1.2.1 pc = .ok (.l2i, 1)) (h : qImp K (AW g (pc + 1))) : qImp (s_l2i K) (AW g pc) := by
  intro L st w kc ks hK
  unfold s_l2i at hK
  split at hK
  · intro p l e R s m args below meth c D cA z H locs ls X hH hS hL
    exact lv_l2i X.1 X.2.1 hd rfl (h L _ w kc ks hK p l e R s m args below meth c D cA z H locs ls X hH hS hL)
  · exact hK.elim
def s_lcmp (K : qK) : qK := fun L st w kc ks => match st with
  | .long y :: .long x :: st => K L (.int (lg_cmp x y) :: st) w kc ks
  | _ => False
theorem r_lcmp {g : qG} {pc : Nat} {K : qK}  (hd : decode g.1.2.1 pc = .ok (.lcmp, 1)) (h : qImp K (AW g (pc + 1))) : qImp (s_lcmp K) (AW g pc) := by
  intro L st w kc ks hK
  unfold s_lcmp at hK
  split at hK
  · intro p l e R s m args below meth c D cA z H locs ls X hH hS hL
    exact W.lcmp X.1 X.2.1 hd (h L _ w kc ks hK p l e R s m args below meth c D cA z H locs ls X hH hS hL)
  · exact hK.elim
def s_dup (K : qK) : qK := fun L st w kc ks => match st with
  | .int x :: st => K L (.int x :: .int x :: st) w kc ks
  | .ref x :: st => K L (.ref x :: .ref x :: st) w kc ks
  | _ => False
theorem r_dup {g : qG} {pc : Nat} {K : qK}  (hd : decode g.1.2.1 pc = .ok (.dup, 1)) (h : qImp K (AW g (pc + 1))) : qImp (s_dup K) (AW g pc) := by
  intro L st w kc ks hK
  unfold s_dup at hK
  split at hK
  · intro p l e R s m args below meth c D cA z H locs ls X hH hS hL
    exact lv_dup X.1 X.2.1 hd rfl (h L _ w kc ks hK p l e R s m args below meth c D cA z H locs ls X hH hS hL)
  · intro p l e R s m args below meth c D cA z H locs ls X hH hS hL
    exact lv_dup X.1 X.2.1 hd rfl (h L _ w kc ks hK p l e R s m args below meth c D cA z H locs ls X hH hS hL)
  · exact hK.elim
def s_pop (K : qK) : qK := fun L st w kc ks => match st with
  | .int _ :: st => K L st w kc ks
  | _ => False
theorem r_pop {g : qG} {pc : Nat} {K : qK}  (hd : decode g.1.2.1 pc = .ok (.pop, 1)) (h : qImp K (AW g (pc + 1))) : qImp (s_pop K) (AW g pc) := by
  intro L st w kc ks hK
  unfold s_pop at hK
  split at hK
  · intro p l e R s m args below meth c D cA z H locs ls X hH hS hL
    exact lv_pop X.1 X.2.1 hd rfl (h L _ w kc ks hK p l e R s m args below meth c D cA z H locs ls X hH hS hL)
  · exact hK.elim
def s_dup2 (K : qK) : qK := fun L st w kc ks => match st with
  | .int x :: .ref y :: st => K L (.int x :: .ref y :: .int x :: .ref y :: st) w kc ks
  | _ => False
theorem r_dup2 {g : qG} {pc : Nat} {K : qK}  (hd : decode g.1.2.1 pc = .ok (.dup2, 1)) (h : qImp K (AW g (pc + 1))) : qImp (s_dup2 K) (AW g pc) := by
  intro L st w kc ks hK
  unfold s_dup2 at hK
  split at hK
  · intro p l e R s m args below meth c D cA z H locs ls X hH hS hL
    exact lv_dup2_11 X.1 X.2.1 hd rfl rfl (h L _ w kc ks hK p l e R s m args below meth c D cA z H locs ls X hH hS hL)
  · exact hK.elim
def s_if_eq (J : qK) (K : qK) : qK := fun L st w kc ks => match st with
  | .int x :: st => qbr (x = 0) (J L st w kc ks) (K L st w kc ks)
  | _ => False
theorem r_if_eq {g : qG} {pc tgt : Nat} {off : Int} {J K : qK} (hd : decode g.1.2.1 pc = .ok (.ifCond .eq off, 3)) (ht : (pc : Int) + off = (tgt : Int)) (hJ : qImp J (AW g tgt)) (h : qImp K (AW g (pc + 3))) : qImp (s_if_eq J K) (AW g pc) := by
  intro L st w kc ks hK
  unfold s_if_eq at hK
  split at hK
  · intro p l e R s m args below meth c D cA z H locs ls X hH hS hL
    exact lv_if_eq X.1 X.2.1 hd ht (fun q => hJ _ _ _ _ _ (hK.1 q) p l e R s m args below meth c D cA z H locs ls X hH hS hL) (fun q => h _ _ _ _ _ (hK.2 q) p l e R s m args below meth c D cA z H locs ls X hH hS hL)
  · exact hK.elim
def s_ic_eq (J : qK) (K : qK) : qK := fun L st w kc ks => match st with
  | .int y :: .int x :: st => qbr (x = y) (J L st w kc ks) (K L st w kc ks)
  | _ => False
theorem r_ic_eq {g : qG} {pc tgt : Nat} {off : Int} {J K : qK} (hd : decode g.1.2.1 pc = .ok (.if_icmp .eq off, 3)) (ht : (pc : Int) + off = (tgt : Int)) (hJ : qImp J (AW g tgt)) (h : qImp K (AW g (pc + 3))) : qImp (s_ic_eq J K) (AW g pc) := by
  intro L st w kc ks hK
  unfold s_ic_eq at hK
  split at hK
  · intro p l e R s m args below meth c D cA z H locs ls X hH hS hL
    exact lv_icmp_eq X.1 X.2.1 hd ht (fun q => hJ _ _ _ _ _ (hK.1 q) p l e R s m args below meth c D cA z H locs ls X hH hS hL) (fun q => h _ _ _ _ _ (hK.2 q) p l e R s m args below meth c D cA z H locs ls X hH hS hL)
  · exact hK.elim
def s_if_ne (J : qK) (K : qK) : qK := fun L st w kc ks => match st with
  | .int x :: st => qbr (x = 0) (K L st w kc ks) (J L st w kc ks)
  | _ => False
theorem r_if_ne {g : qG} {pc tgt : Nat} {off : Int} {J K : qK} (hd : decode g.1.2.1 pc = .ok (.ifCond .ne off, 3)) (ht : (pc : Int) + off = (tgt : Int)) (hJ : qImp J (AW g tgt)) (h : qImp K (AW g (pc + 3))) : qImp (s_if_ne J K) (AW g pc) := by
  intro L st w kc ks hK
  unfold s_if_ne at hK
  split at hK
  · intro p l e R s m args below meth c D cA z H locs ls X hH hS hL
    exact lv_if_ne X.1 X.2.1 hd ht (fun q => hJ _ _ _ _ _ (hK.2 q) p l e R s m args below meth c D cA z H locs ls X hH hS hL) (fun q => h _ _ _ _ _ (hK.1 q) p l e R s m args below meth c D cA z H locs ls X hH hS hL)
  · exact hK.elim
def s_ic_ne (J : qK) (K : qK) : qK := fun L st w kc ks => match st with
  | .int y :: .int x :: st => qbr (x = y) (K L st w kc ks) (J L st w kc ks)
  | _ => False
theorem r_ic_ne {g : qG} {pc tgt : Nat} {off : Int} {J K : qK} (hd : decode g.1.2.1 pc = .ok (.if_icmp .ne off, 3)) (ht : (pc : Int) + off = (tgt : Int)) (hJ : qImp J (AW g tgt)) (h : qImp K (AW g (pc + 3))) : qImp (s_ic_ne J K) (AW g pc) := by
  intro L st w kc ks hK
  unfold s_ic_ne at hK
  split at hK
  · intro p l e R s m args below meth c D cA z H locs ls X hH hS hL
    exact lv_icmp_ne X.1 X.2.1 hd ht (fun q => hJ _ _ _ _ _ (hK.2 q) p l e R s m args below meth c D cA z H locs ls X hH hS hL) (fun q => h _ _ _ _ _ (hK.1 q) p l e R s m args below meth c D cA z H locs ls X hH hS hL)
  · exact hK.elim
def s_if_lt (J : qK) (K : qK) : qK := fun L st w kc ks => match st with
  | .int x :: st => qbr (x < 0) (J L st w kc ks) (K L st w kc ks)
  | _ => False
theorem r_if_lt {g : qG} {pc tgt : Nat} {off : Int} {J K : qK} (hd : decode g.1.2.1 pc = .ok (.ifCond .lt off, 3)) (ht : (pc : Int) + off = (tgt : Int)) (hJ : qImp J (AW g tgt)) (h : qImp K (AW g (pc + 3))) : qImp (s_if_lt J K) (AW g pc) := by
  intro L st w kc ks hK
  unfold s_if_lt at hK
  split at hK
  · intro p l e R s m args below meth c D cA z H locs ls X hH hS hL
    exact lv_if_lt X.1 X.2.1 hd ht (fun q => hJ _ _ _ _ _ (hK.1 q) p l e R s m args below meth c D cA z H locs ls X hH hS hL) (fun q => h _ _ _ _ _ (hK.2 q) p l e R s m args below meth c D cA z H locs ls X hH hS hL)
  · exact hK.elim
def s_ic_lt (J : qK) (K : qK) : qK := fun L st w kc ks => match st with
  | .int y :: .int x :: st => qbr (x < y) (J L st w kc ks) (K L st w kc ks)
  | _ => False
theorem r_ic_lt {g : qG} {pc tgt : Nat} {off : Int} {J K : qK} (hd : decode g.1.2.1 pc = .ok (.if_icmp .lt off, 3)) (ht : (pc : Int) + off = (tgt : Int)) (hJ : qImp J (AW g tgt)) (h : qImp K (AW g (pc + 3))) : qImp (s_ic_lt J K) (AW g pc) := by
  intro L st w kc ks hK
  unfold s_ic_lt at hK
  split at hK
  · intro p l e R s m args below meth c D cA z H locs ls X hH hS hL
    exact lv_icmp_lt X.1 X.2.1 hd ht (fun q => hJ _ _ _ _ _ (hK.1 q) p l e R s m args below meth c D cA z H locs ls X hH hS hL) (fun q => h _ _ _ _ _ (hK.2 q) p l e R s m args below meth c D cA z H locs ls X hH hS hL)
  · exact hK.elim
def s_if_ge (J : qK) (K : qK) : qK := fun L st w kc ks => match st with
  | .int x :: st => qbr (0 ≤ x) (J L st w kc ks) (K L st w kc ks)
  | _ => False
theorem r_if_ge {g : qG} {pc tgt : Nat} {off : Int} {J K : qK} (hd : decode g.1.2.1 pc = .ok (.ifCond .ge off, 3)) (ht : (pc : Int) + off = (tgt : Int)) (hJ : qImp J (AW g tgt)) (h : qImp K (AW g (pc + 3))) : qImp (s_if_ge J K) (AW g pc) := by
  intro L st w kc ks hK
  unfold s_if_ge at hK
  split at hK
  · intro p l e R s m args below meth c D cA z H locs ls X hH hS hL
    exact lv_if_ge X.1 X.2.1 hd ht (fun q => hJ _ _ _ _ _ (hK.1 q) p l e R s m args below meth c D cA z H locs ls X hH hS hL) (fun q => h _ _ _ _ _ (hK.2 q) p l e R s m args below meth c D cA z H locs ls X hH hS hL)
  · exact hK.elim
def s_ic_ge (J : qK) (K : qK) : qK := fun L st w kc ks => match st with
  | .int y :: .int x :: st => qbr (y ≤ x) (J L st w kc ks) (K L st w kc ks)
  | _ => False
theorem r_ic_ge {g : qG} {pc tgt : Nat} {off : Int} {J K : qK} (hd : decode g.1.2.1 pc = .ok (.if_icmp .ge off, 3)) (ht : (pc : Int) + off = (tgt : Int)) (hJ : qImp J (AW g tgt)) (h : qImp K (AW g (pc + 3))) : qImp (s_ic_ge J K) (AW g pc) := by
  intro L st w kc ks hK
  unfold s_ic_ge at hK
  split at hK
  · intro p l e R s m args below meth c D cA z H locs ls X hH hS hL
    exact lv_icmp_ge X.1 X.2.1 hd ht (fun q => hJ _ _ _ _ _ (hK.1 q) p l e R s m args below meth c D cA z H locs ls X hH hS hL) (fun q => h _ _ _ _ _ (hK.2 q) p l e R s m args below meth c D cA z H locs ls X hH hS hL)
  · exact hK.elim
def s_if_gt (J : qK) (K : qK) : qK := fun L st w kc ks => match st with
  | .int x :: st => qbr (0 < x) (J L st w kc ks) (K L st w kc ks)
  | _ => False
theorem r_if_gt {g : qG} {pc tgt : Nat} {off : Int} {J K : qK} (hd : decode g.1.2.1 pc = .ok (.ifCond .gt off, 3)) (ht : (pc : Int) + off = (tgt : Int)) (hJ : qImp J (AW g tgt)) (h : qImp K (AW g (pc + 3))) : qImp (s_if_gt J K) (AW g pc) := by
  intro L st w kc ks hK
  unfold s_if_gt at hK
  split at hK
  · intro p l e R s m args below meth c D cA z H locs ls X hH hS hL
    exact lv_if_gt X.1 X.2.1 hd ht (fun q => hJ _ _ _ _ _ (hK.1 q) p l e R s m args below meth c D cA z H locs ls X hH hS hL) (fun q => h _ _ _ _ _ (hK.2 q) p l e R s m args below meth c D cA z H locs ls X hH hS hL)
  · exact hK.elim
def s_ic_gt (J : qK) (K : qK) : qK := fun L st w kc ks => match st with
  | .int y :: .int x :: st => qbr (y < x) (J L st w kc ks) (K L st w kc ks)
  | _ => False
theorem r_ic_gt {g : qG} {pc tgt : Nat} {off : Int} {J K : qK} (hd : decode g.1.2.1 pc = .ok (.if_icmp .gt off, 3)) (ht : (pc : Int) + off = (tgt : Int)) (hJ : qImp J (AW g tgt)) (h : qImp K (AW g (pc + 3))) : qImp (s_ic_gt J K) (AW g pc) := by
  intro L st w kc ks hK
  unfold s_ic_gt at hK
  split at hK
  · intro p l e R s m args below meth c D cA z H locs ls X hH hS hL
    exact lv_icmp_gt X.1 X.2.1 hd ht (fun q => hJ _ _ _ _ _ (hK.1 q) p l e R s m args below meth c D cA z H locs ls X hH hS hL) (fun q => h _ _ _ _ _ (hK.2 q) p l e R s m args below meth c D cA z H locs ls X hH hS hL)
  · exact hK.elim
def s_if_le (J : qK) (K : qK) : qK := fun L st w kc ks => match st with
  | .int x :: st => qbr (x ≤ 0) (J L st w kc ks) (K L st w kc ks)
  | _ => False
theorem r_if_le {g : qG} {pc tgt : Nat} {off : Int} {J K : qK} (hd : decode g.1.2.1 pc = .ok (.ifCond .le off, 3)) (ht : (pc : Int) + off = (tgt : Int)) (hJ : qImp J (AW g tgt)) (h : qImp K (AW g (pc + 3))) : qImp (s_if_le J K) (AW g pc) := by
  intro L st w kc ks hK
  unfold s_if_le at hK
  split at hK
  · intro p l e R s m args below meth c D cA z H locs ls X hH hS hL
    exact lv_if_le X.1 X.2.1 hd ht (fun q => hJ _ _ _ _ _ (hK.1 q) p l e R s m args below meth c D cA z H locs ls X hH hS hL) (fun q => h _ _ _ _ _ (hK.2 q) p l e R s m args below meth c D cA z H locs ls X hH hS hL)
  · exact hK.elim
def s_ic_le (J : qK) (K : qK) : qK := fun L st w kc ks => match st with
  | .int y :: .int x :: st => qbr (x ≤ y) (J L st w kc ks) (K L st w kc ks)
  | _ => False
theorem r_ic_le {g : qG} {pc tgt : Nat} {off : Int} {J K : qK} (hd : decode g.1.2.1 pc = .ok (.if_icmp .le off, 3)) (ht : (pc : Int) + off = (tgt : Int)) (hJ : qImp J (AW g tgt)) (h : qImp K (AW g (pc + 3))) : qImp (s_ic_le J K) (AW g pc) := by
  intro L st w kc ks hK
  unfold s_ic_le at hK
  split at hK
  · intro p l e R s m args below meth c D cA z H locs ls X hH hS hL
    exact lv_icmp_le X.1 X.2.1 hd ht (fun q => hJ _ _ _ _ _ (hK.1 q) p l e R s m args below meth c D cA z H locs ls X hH hS hL) (fun q => h _ _ _ _ _ (hK.2 q) p l e R s m args below meth c D cA z H locs ls X hH hS hL)
  · exact hK.elim
theorem r_goto {g : qG} {pc tgt : Nat} {off : Int} {J : qK} (hd : decode g.1.2.1 pc = .ok (.goto off, 3)) (ht : (pc : Int) + off = (tgt : Int)) (hJ : qImp J (AW g tgt)) : qImp J (AW g pc) := by
  intro L st w kc ks hK p l e R s m args below meth c D cA z H locs ls X hH hS hL
  exact lv_goto X.1 X.2.1 hd ht (hJ _ _ _ _ _ hK p l e R s m args below meth c D cA z H locs ls X hH hS hL)
end
section
/-- a field of a class of the world, as an instruction names it -/
def qF (own : String) (idx ci k : Nat) : Prop := ∃ (C : String) (T : u_T) (N : Nat), vwCl[ci]? = some (C, T, N) ∧ k < N ∧ (∀ w ∈ u_ws C T N, w ∈ qg) ∧ Cond.fieldLink own idx (T k).1 (T k).2.1 (T k).2.2.1 ∈ qg
def qFp (own : String) (idx ci k : Nat) (ty : FieldType) : Prop := ∃ (C : String) (T : u_T) (N : Nat) (ty0 : Nat → FieldType), vwCl[ci]? = some (C, T, N) ∧ k < N ∧ (∀ w ∈ u_ws C T N, w ∈ qg) ∧ Cond.fieldLink own idx (T k).1 (T k).2.1 (T k).2.2.1 ∈ qg ∧ (∀ k, k < N → parseFieldDescriptor (T k).2.2.1 = some (ty0 k)) ∧ (∀ a, a < N → ∀ b, b < N → a ≠ b → (T a).2.1 ≠ (T b).2.1) ∧ ty0 k = ty
theorem qH.obj {D : va_G} {cA : Nat → ClassId} {z : qZ} {w : qW} {H : Heap} (h : qH D cA z w H) {p ci : Nat} {fs : List Value} (hp : w.2 p = some (.inr (ci, fs))) : va_P D vwCl [(z.1 + p, .inr (ci, fs.map (qv z)))] H := by
  intro k q hq
  match k, hq with
  | 0, hq => cases hq; exact h.2 p _ hp
  | k + 1, hq => simp at hq
theorem qH.one {D : va_G} {cA : Nat → ClassId} {z : qZ} {w : qW} {H : Heap} (h : qH D cA z w H) {p : Nat} {c : va_E} (hp : w.2 p = some c) : va_P D vwCl [(z.1 + p, qe cA z c)] H := by
  intro k q hq
  match k, hq with
  | 0, hq => cases hq; exact h.2 p _ hp
  | k + 1, hq => simp at hq
def s_getfield (ci k : Nat) (K : qK) : qK := fun L st w kc ks => match st with
  | .ref p :: st => match qgF w p ci k with
    | some v => K L (v :: st) w kc ks
    | none => False
  | _ => False
theorem r_getfield {g : qG} {pc : Nat} {K : qK} {idx ci k : Nat} (hd : decode g.1.2.1 pc = .ok (.getfield idx, 3)) (hF : qF g.1.1.cls idx ci k) (h : qImp K (AW g (pc + 3))) : qImp (s_getfield ci k K) (AW g pc) := by
  intro L st w kc ks hK
  unfold s_getfield at hK
  split at hK
  · split at hK
    · rename_i v hv
      obtain ⟨fs, hw, hfs⟩ := qgF_s hv
      obtain ⟨C, T, N, hc, hk, hin, hlink⟩ := hF
      intro p l e R s m args below meth c D cA z H locs ls X hH hS hL
      exact va_get (D := D) (ci := ci) (v := qv z v) (C := C) (T := T) (N := N) X.1 X.2.1 X.2.2.2.2.1 hin X.2.2.2.1 X.2.2.2.2.2.1 (hH.obj hw) 0 rfl hc k hk (X.2.2.2.2.1 _ hlink) (fun _ h9 => h9) (by rw [List.getElem?_map, hfs]; rfl) hd (h _ _ _ _ _ hK p l e R s m args below meth c D cA z H locs ls X hH hS hL)
    · exact hK.elim
  · exact hK.elim
theorem qe_obj (cA : Nat → ClassId) (z : qZ) (ci : Nat) (fs : List Value) : qe cA z (.inr (ci, fs)) = .inr (ci, fs.map (qv z)) := rfl
theorem qe_ia (cA : Nat → ClassId) (z : qZ) (t n : Nat) (f : Nat → Int32) : qe cA z (.inl (t, n, .inl f)) = .inl (cA t, n, .inl f) := rfl
theorem qe_la (cA : Nat → ClassId) (z : qZ) (t n : Nat) (f : Nat → Int64) : qe cA z (.inl (t, n, .inr (.inl f))) = .inl (cA t, n, .inr (.inl f)) := rfl
theorem qe_ra (cA : Nat → ClassId) (z : qZ) (t n : Nat) (f : Nat → Option Nat) : qe cA z (.inl (t, n, .inr (.inr (.inr (.inr f))))) = .inl (cA t, n, .inr (.inr (.inr (.inr (fun j => (f j).map (z.1 + ·)))))) := rfl
theorem qsF_at {w : qW} {p k ci : Nat} {v : Value} {fs : List Value} (h : w.2 p = some (.inr (ci, fs))) : (qsF w p k v).2 p = some (.inr (ci, fs.set k v)) := by simp only [qsF, if_true, h]
theorem qsF_ne {w : qW} {p k q : Nat} {v : Value} (h : q ≠ p) : (qsF w p k v).2 q = w.2 q := by simp only [qsF, if_neg h]
theorem qsI_at {w : qW} {p t n : Nat} {f f' : Nat → Int32} (h : w.2 p = some (.inl (t, n, .inl f))) : (qsI w p f').2 p = some (.inl (t, n, .inl f')) := by simp only [qsI, if_true, h]
theorem qsI_ne {w : qW} {p q : Nat} {f : Nat → Int32} (h : q ≠ p) : (qsI w p f).2 q = w.2 q := by simp only [qsI, if_neg h]
theorem qsL_at {w : qW} {p t n : Nat} {f f' : Nat → Int64} (h : w.2 p = some (.inl (t, n, .inr (.inl f)))) : (qsL w p f').2 p = some (.inl (t, n, .inr (.inl f'))) := by simp only [qsL, if_true, h]
theorem qsL_ne {w : qW} {p q : Nat} {f : Nat → Int64} (h : q ≠ p) : (qsL w p f).2 q = w.2 q := by simp only [qsL, if_neg h]
theorem qsR_at {w : qW} {p t n : Nat} {f f' : Nat → Option Nat} (h : w.2 p = some (.inl (t, n, .inr (.inr (.inr (.inr f)))))) : (qsR w p f').2 p = some (.inl (t, n, .inr (.inr (.inr (.inr f'))))) := by simp only [qsR, if_true, h]
theorem qsR_ne {w : qW} {p q : Nat} {f : Nat → Option Nat} (h : q ≠ p) : (qsR w p f).2 q = w.2 q := by simp only [qsR, if_neg h]
/-- a field anew, in the heap -/
theorem qH.putF {D : va_G} {cA : Nat → ClassId} {z : qZ} {w : qW} {H H1 : Heap} {s : State} {args : Array Value} {C : String} {T : u_T} {N ci k p : Nat} {ty0 : Nat → FieldType} {fs : List Value} {v : Value} {cell : Cell} (h : qH D cA z w H) (hts : ∀ w ∈ qg, w.before args s = true) (hK : va_K D vwCl (qT cA) s) (hc : vwCl[ci]? = some (C, T, N)) (hk : k < N) (hin : ∀ w ∈ u_ws C T N, w ∈ qg) (hty : ∀ k, k < N → parseFieldDescriptor (T k).2.2.1 = some (ty0 k)) (hnm : ∀ a, a < N → ∀ b, b < N → a ≠ b → (T a).2.1 ≠ (T b).2.1)
    (hw : w.2 p = some (.inr (ci, fs))) (hl : k < fs.length) (q2 : cell.cls = D.1 ci) (q3 : cell.vm = .none) (q4 : ∀ j, j < N → cell.slots[D.2 ci j]? = some (vp_V (fs.map (qv z)) j)) (e1 : H1[z.1 + p]? = some (cell.setSlot (D.2 ci k) (qv z v))) (e2 : H1.size = H.size) (e3 : ∀ q : Nat, q ≠ z.1 + p → H1[q]? = H[q]?) : qH D cA z (qsF w p k v) H1 := by
  have hap := va_apart (own := C) hts hin ty0 hty hnm hK hc
  refine h.up rfl (qsF_at hw) (fun q hq => qsF_ne hq) e2 ?_ e3
  rw [qe_obj]
  refine ⟨_, hc, t_OB.to (V := updV (vp_V (fs.map (qv z))) k (qv z v)) ⟨_, e1, q2, q3, t_set q4 hap hk (qv z v)⟩ (fun j _ => ?_)⟩
  rw [vp_updV_set (by rw [List.length_map]; exact hl) (qv z v) j, List.map_set]
def s_putI (ci k : Nat) (K : qK) : qK := fun L st w kc ks => match st with
  | .int x :: .ref p :: st => match qgF w p ci k with
    | some _ => K L st (qsF w p k (.int x)) kc ks
    | none => False
  | _ => False
theorem r_putI {g : qG} {pc : Nat} {K : qK} {idx ci k : Nat} (hd : decode g.1.2.1 pc = .ok (.putfield idx, 3)) (hF : qFp g.1.1.cls idx ci k .int) (hfin : ∀ q ∈ vwCl[ci]?, (q.2.1 k).2.2.2 = false) (h : qImp K (AW g (pc + 3))) : qImp (s_putI ci k K) (AW g pc) := by
  intro L st w kc ks hK
  unfold s_putI at hK
  split at hK
  · rename_i x pp st
    split at hK
    · rename_i v0 hv
      obtain ⟨fs, hw, hfs⟩ := qgF_s hv
      obtain ⟨C, T, N, ty0, hc, hk, hin, hlink, hty, hnm, hte⟩ := hF
      have hfin := hfin _ hc
      have hl : k < fs.length := (List.getElem?_eq_some_iff.mp hfs).1
      intro p l e R s m args below meth c D cA z H locs ls X hH hS hL
      have hts := X.2.2.2.2.1
      have hKK := X.2.2.2.2.2.1
      obtain ⟨r, hr1, cell, q1, q2, q3, q4⟩ := hH.2 pp _ hw
      have hr : r = (C, T, N) := Option.some.inj (hr1.symm.trans hc)
      subst hr
      obtain ⟨hSl, hfc, kC, hkC, hkind⟩ := hKK.1 ci _ hc
      obtain ⟨cf, kf, fi, f, hi, hsl⟩ := hSl k hk
      have hlay := hts _ (hin _ (u_in_lay hk))
      unfold u_lay at hlay
      rw [if_neg (by rw [hfin]; decide)] at hlay
      have hst := (u_facts hfc hkC (u_lays hts hin hk) hi).1
      have h6 := u_store (v := qv z (.int x)) hfc hkC hkind hlay hi (by rw [hty k hk, hte]) (by rfl) (by rfl)
      refine W.putK X.1 X.2.1 (f := f) ⟨X.2.2.2.1, hts _ hlink, ⟨_, _, _, hi⟩, hst⟩ (by rw [q2]; exact h6) q1 q3 (by rw [hsl]; exact k2_hasslot (q4 k hk)) rfl rfl hd fun H' e1 e2 e3 => ?_
      rw [hsl] at e1 ⊢
      exact h _ _ _ _ _ hK p l e R s m args below meth c D cA z H' _ ls X (hH.putF hts hKK hc hk hin hty hnm hw hl q2 q3 q4 e1 e2 e3) (hS.put e2 e3 (qA_in pp)) hL
    · exact hK.elim
  · exact hK.elim
theorem r_putIF {g : qG} {pc : Nat} {K : qK} {idx ci k : Nat} (hd : decode g.1.2.1 pc = .ok (.putfield idx, 3)) (hF : qFp g.1.1.cls idx ci k .int) (hfin : ∀ q ∈ vwCl[ci]?, (q.2.1 k).2.2.2 = true) (hin2 : g.1.1.name = "<init>") (hdecl : ∀ q ∈ vwCl[ci]?, (q.2.1 k).1 = g.1.1.cls) (h : qImp K (AW g (pc + 3))) : qImp (s_putI ci k K) (AW g pc) := by
  intro L st w kc ks hK
  unfold s_putI at hK
  split at hK
  · rename_i x pp st
    split at hK
    · rename_i v0 hv
      obtain ⟨fs, hw, hfs⟩ := qgF_s hv
      obtain ⟨C, T, N, ty0, hc, hk, hin, hlink, hty, hnm, hte⟩ := hF
      have hfin := hfin _ hc
      have hdecl := hdecl _ hc
      have hl : k < fs.length := (List.getElem?_eq_some_iff.mp hfs).1
      intro p l e R s m args below meth c D cA z H locs ls X hH hS hL
      have hts := X.2.2.2.2.1
      have hKK := X.2.2.2.2.2.1
      obtain ⟨r, hr1, cell, q1, q2, q3, q4⟩ := hH.2 pp _ hw
      have hr : r = (C, T, N) := Option.some.inj (hr1.symm.trans hc)
      subst hr
      obtain ⟨hSl, hfc, kC, hkC, hkind⟩ := hKK.1 ci _ hc
      obtain ⟨cf, kf, fi, f, hi, hsl⟩ := hSl k hk
      have hlay := hts _ (hin _ (u_in_lay hk))
      unfold u_lay at hlay
      rw [if_pos (by rw [hfin])] at hlay
      have hst := (u_facts hfc hkC (u_lays hts hin hk) hi).1
      have hcf : m.cls = cf := by
        obtain ⟨_, _, c', _, _, _, -, -, hf', -, -, -, hown2, -⟩ := Cond.laysFinal_spec hlay
        have e1 : c' = cf := by have := hi.symm.trans hf'; simp at this; exact this.1.symm
        rw [hdecl] at hown2
        rw [← e1]; exact Option.some.inj (X.2.2.2.1.symm.trans hown2)
      have h6 := u_fits (v := qv z (.int x)) hfc hkC hkind (Or.inr hlay) hi (by rw [hty k hk, hte]) (by rfl) (by rfl)
      refine W.putFinK X.1 X.2.1 X.2.2.2.1 (hts _ hlink) hi hst hcf (X.2.2.2.2.2.2.2.2.2.1.trans hin2) (by rw [q2]; exact h6) q1 q3 (by rw [hsl]; exact k2_hasslot (q4 k hk)) rfl rfl hd fun H' e1 e2 e3 => ?_
      rw [hsl] at e1 ⊢
      exact h _ _ _ _ _ hK p l e R s m args below meth c D cA z H' _ ls X (hH.putF hts hKK hc hk hin hty hnm hw hl q2 q3 q4 e1 e2 e3) (hS.put e2 e3 (qA_in pp)) hL
    · exact hK.elim
  · exact hK.elim
def s_putZ (ci k : Nat) (K : qK) : qK := fun L st w kc ks => match st with
  | .int x :: .ref p :: st => match qgF w p ci k with
    | some _ => (x = 0 ∨ x = 1) ∧ K L st (qsF w p k (.int x)) kc ks
    | none => False
  | _ => False
theorem r_putZ {g : qG} {pc : Nat} {K : qK} {idx ci k : Nat} (hd : decode g.1.2.1 pc = .ok (.putfield idx, 3)) (hF : qFp g.1.1.cls idx ci k .boolean) (hfin : ∀ q ∈ vwCl[ci]?, (q.2.1 k).2.2.2 = false) (h : qImp K (AW g (pc + 3))) : qImp (s_putZ ci k K) (AW g pc) := by
  intro L st w kc ks hK
  unfold s_putZ at hK
  split at hK
  · rename_i x pp st
    split at hK
    · rename_i v0 hv
      obtain ⟨fs, hw, hfs⟩ := qgF_s hv
      obtain ⟨C, T, N, ty0, hc, hk, hin, hlink, hty, hnm, hte⟩ := hF
      have hfin := hfin _ hc
      have hl : k < fs.length := (List.getElem?_eq_some_iff.mp hfs).1
      intro p l e R s m args below meth c D cA z H locs ls X hH hS hL
      have hts := X.2.2.2.2.1
      have hKK := X.2.2.2.2.2.1
      obtain ⟨r, hr1, cell, q1, q2, q3, q4⟩ := hH.2 pp _ hw
      have hr : r = (C, T, N) := Option.some.inj (hr1.symm.trans hc)
      subst hr
      obtain ⟨hSl, hfc, kC, hkC, hkind⟩ := hKK.1 ci _ hc
      obtain ⟨cf, kf, fi, f, hi, hsl⟩ := hSl k hk
      have hlay := hts _ (hin _ (u_in_lay hk))
      unfold u_lay at hlay
      rw [if_neg (by rw [hfin]; decide)] at hlay
      have hst := (u_facts hfc hkC (u_lays hts hin hk) hi).1
      have h6 := u_store (v := qv z (.int x)) hfc hkC hkind hlay hi (by rw [hty k hk, hte]) (by rcases hK.1 with e | e <;> rw [e] <;> rfl) (by rcases hK.1 with e | e <;> rw [e] <;> rfl)
      refine W.putK X.1 X.2.1 (f := f) ⟨X.2.2.2.1, hts _ hlink, ⟨_, _, _, hi⟩, hst⟩ (by rw [q2]; exact h6) q1 q3 (by rw [hsl]; exact k2_hasslot (q4 k hk)) rfl rfl hd fun H' e1 e2 e3 => ?_
      rw [hsl] at e1 ⊢
      exact h _ _ _ _ _ hK.2 p l e R s m args below meth c D cA z H' _ ls X (hH.putF hts hKK hc hk hin hty hnm hw hl q2 q3 q4 e1 e2 e3) (hS.put e2 e3 (qA_in pp)) hL
    · exact hK.elim
  · exact hK.elim
theorem r_putZF {g : qG} {pc : Nat} {K : qK} {idx ci k : Nat} (hd : decode g.1.2.1 pc = .ok (.putfield idx, 3)) (hF : qFp g.1.1.cls idx ci k .boolean) (hfin : ∀ q ∈ vwCl[ci]?, (q.2.1 k).2.2.2 = true) (hin2 : g.1.1.name = "<init>") (hdecl : ∀ q ∈ vwCl[ci]?, (q.2.1 k).1 = g.1.1.cls) (h : qImp K (AW g (pc + 3))) : qImp (s_putZ ci k K) (AW g pc) := by
  intro L st w kc ks hK
  unfold s_putZ at hK
  split at hK
  · rename_i x pp st
    split at hK
    · rename_i v0 hv
      obtain ⟨fs, hw, hfs⟩ := qgF_s hv
      obtain ⟨C, T, N, ty0, hc, hk, hin, hlink, hty, hnm, hte⟩ := hF
      have hfin := hfin _ hc
      have hdecl := hdecl _ hc
      have hl : k < fs.length := (List.getElem?_eq_some_iff.mp hfs).1
      intro p l e R s m args below meth c D cA z H locs ls X hH hS hL
      have hts := X.2.2.2.2.1
      have hKK := X.2.2.2.2.2.1
      obtain ⟨r, hr1, cell, q1, q2, q3, q4⟩ := hH.2 pp _ hw
      have hr : r = (C, T, N) := Option.some.inj (hr1.symm.trans hc)
      subst hr
      obtain ⟨hSl, hfc, kC, hkC, hkind⟩ := hKK.1 ci _ hc
      obtain ⟨cf, kf, fi, f, hi, hsl⟩ := hSl k hk
      have hlay := hts _ (hin _ (u_in_lay hk))
      unfold u_lay at hlay
      rw [if_pos (by rw [hfin])] at hlay
      have hst := (u_facts hfc hkC (u_lays hts hin hk) hi).1
      have hcf : m.cls = cf := by
        obtain ⟨_, _, c', _, _, _, -, -, hf', -, -, -, hown2, -⟩ := Cond.laysFinal_spec hlay
        have e1 : c' = cf := by have := hi.symm.trans hf'; simp at this; exact this.1.symm
        rw [hdecl] at hown2
        rw [← e1]; exact Option.some.inj (X.2.2.2.1.symm.trans hown2)
      have h6 := u_fits (v := qv z (.int x)) hfc hkC hkind (Or.inr hlay) hi (by rw [hty k hk, hte]) (by rcases hK.1 with e | e <;> rw [e] <;> rfl) (by rcases hK.1 with e | e <;> rw [e] <;> rfl)
      refine W.putFinK X.1 X.2.1 X.2.2.2.1 (hts _ hlink) hi hst hcf (X.2.2.2.2.2.2.2.2.2.1.trans hin2) (by rw [q2]; exact h6) q1 q3 (by rw [hsl]; exact k2_hasslot (q4 k hk)) rfl rfl hd fun H' e1 e2 e3 => ?_
      rw [hsl] at e1 ⊢
      exact h _ _ _ _ _ hK.2 p l e R s m args below meth c D cA z H' _ ls X (hH.putF hts hKK hc hk hin hty hnm hw hl q2 q3 q4 e1 e2 e3) (hS.put e2 e3 (qA_in pp)) hL
    · exact hK.elim
  · exact hK.elim
def s_putL (ci k : Nat) (K : qK) : qK := fun L st w kc ks => match st with
  | .long x :: .ref p :: st => match qgF w p ci k with
    | some _ => K L st (qsF w p k (.long x)) kc ks
    | none => False
  | _ => False
theorem r_putL {g : qG} {pc : Nat} {K : qK} {idx ci k : Nat} (hd : decode g.1.2.1 pc = .ok (.putfield idx, 3)) (hF : qFp g.1.1.cls idx ci k .long) (hfin : ∀ q ∈ vwCl[ci]?, (q.2.1 k).2.2.2 = false) (h : qImp K (AW g (pc + 3))) : qImp (s_putL ci k K) (AW g pc) := by
  intro L st w kc ks hK
  unfold s_putL at hK
  split at hK
  · rename_i x pp st
    split at hK
    · rename_i v0 hv
      obtain ⟨fs, hw, hfs⟩ := qgF_s hv
      obtain ⟨C, T, N, ty0, hc, hk, hin, hlink, hty, hnm, hte⟩ := hF
      have hfin := hfin _ hc
      have hl : k < fs.length := (List.getElem?_eq_some_iff.mp hfs).1
      intro p l e R s m args below meth c D cA z H locs ls X hH hS hL
      have hts := X.2.2.2.2.1
      have hKK := X.2.2.2.2.2.1
      obtain ⟨r, hr1, cell, q1, q2, q3, q4⟩ := hH.2 pp _ hw
      have hr : r = (C, T, N) := Option.some.inj (hr1.symm.trans hc)
      subst hr
      obtain ⟨hSl, hfc, kC, hkC, hkind⟩ := hKK.1 ci _ hc
      obtain ⟨cf, kf, fi, f, hi, hsl⟩ := hSl k hk
      have hlay := hts _ (hin _ (u_in_lay hk))
      unfold u_lay at hlay
      rw [if_neg (by rw [hfin]; decide)] at hlay
      have hst := (u_facts hfc hkC (u_lays hts hin hk) hi).1
      have h6 := u_store (v := qv z (.long x)) hfc hkC hkind hlay hi (by rw [hty k hk, hte]) (by rfl) (by rfl)
      refine W.putK X.1 X.2.1 (f := f) ⟨X.2.2.2.1, hts _ hlink, ⟨_, _, _, hi⟩, hst⟩ (by rw [q2]; exact h6) q1 q3 (by rw [hsl]; exact k2_hasslot (q4 k hk)) rfl rfl hd fun H' e1 e2 e3 => ?_
      rw [hsl] at e1 ⊢
      exact h _ _ _ _ _ hK p l e R s m args below meth c D cA z H' _ ls X (hH.putF hts hKK hc hk hin hty hnm hw hl q2 q3 q4 e1 e2 e3) (hS.put e2 e3 (qA_in pp)) hL
    · exact hK.elim
  · exact hK.elim
theorem r_putLF {g : qG} {pc : Nat} {K : qK} {idx ci k : Nat} (hd : decode g.1.2.1 pc = .ok (.putfield idx, 3)) (hF : qFp g.1.1.cls idx ci k .long) (hfin : ∀ q ∈ vwCl[ci]?, (q.2.1 k).2.2.2 = true) (hin2 : g.1.1.name = "<init>") (hdecl : ∀ q ∈ vwCl[ci]?, (q.2.1 k).1 = g.1.1.cls) (h : qImp K (AW g (pc + 3))) : qImp (s_putL ci k K) (AW g pc) := by
  intro L st w kc ks hK
  unfold s_putL at hK
  split at hK
  · rename_i x pp st
    split at hK
    · rename_i v0 hv
      obtain ⟨fs, hw, hfs⟩ := qgF_s hv
      obtain ⟨C, T, N, ty0, hc, hk, hin, hlink, hty, hnm, hte⟩ := hF
      have hfin := hfin _ hc
      have hdecl := hdecl _ hc
      have hl : k < fs.length := (List.getElem?_eq_some_iff.mp hfs).1
      intro p l e R s m args below meth c D cA z H locs ls X hH hS hL
      have hts := X.2.2.2.2.1
      have hKK := X.2.2.2.2.2.1
      obtain ⟨r, hr1, cell, q1, q2, q3, q4⟩ := hH.2 pp _ hw
      have hr : r = (C, T, N) := Option.some.inj (hr1.symm.trans hc)
      subst hr
      obtain ⟨hSl, hfc, kC, hkC, hkind⟩ := hKK.1 ci _ hc
      obtain ⟨cf, kf, fi, f, hi, hsl⟩ := hSl k hk
      have hlay := hts _ (hin _ (u_in_lay hk))
      unfold u_lay at hlay
      rw [if_pos (by rw [hfin])] at hlay
      have hst := (u_facts hfc hkC (u_lays hts hin hk) hi).1
      have hcf : m.cls = cf := by
        obtain ⟨_, _, c', _, _, _, -, -, hf', -, -, -, hown2, -⟩ := Cond.laysFinal_spec hlay
        have e1 : c' = cf := by have := hi.symm.trans hf'; simp at this; exact this.1.symm
        rw [hdecl] at hown2
        rw [← e1]; exact Option.some.inj (X.2.2.2.1.symm.trans hown2)
      have h6 := u_fits (v := qv z (.long x)) hfc hkC hkind (Or.inr hlay) hi (by rw [hty k hk, hte]) (by rfl) (by rfl)
      refine W.putFinK X.1 X.2.1 X.2.2.2.1 (hts _ hlink) hi hst hcf (X.2.2.2.2.2.2.2.2.2.1.trans hin2) (by rw [q2]; exact h6) q1 q3 (by rw [hsl]; exact k2_hasslot (q4 k hk)) rfl rfl hd fun H' e1 e2 e3 => ?_
      rw [hsl] at e1 ⊢
      exact h _ _ _ _ _ hK p l e R s m args below meth c D cA z H' _ ls X (hH.putF hts hKK hc hk hin hty hnm hw hl q2 q3 q4 e1 e2 e3) (hS.put e2 e3 (qA_in pp)) hL
    · exact hK.elim
  · exact hK.elim
def s_putR (ci k : Nat) (K : qK) : qK := fun L st w kc ks => match st with
  | .ref x :: .ref p :: st => match qgF w p ci k with
    | some _ => K L st (qsF w p k (.ref x)) kc ks
    | none => False
  | _ => False
theorem r_putR {g : qG} {pc : Nat} {K : qK} {idx ci k : Nat} {ty : FieldType} (hd : decode g.1.2.1 pc = .ok (.putfield idx, 3)) (hF : qFp g.1.1.cls idx ci k ty) (hfin : ∀ q ∈ vwCl[ci]?, (q.2.1 k).2.2.2 = false) (hn : ∀ a : Nat, narrow ty (.ref a) = .ref a) (hf : ∀ a : Nat, fits ty (.ref a) = true) (h : qImp K (AW g (pc + 3))) : qImp (s_putR ci k K) (AW g pc) := by
  intro L st w kc ks hK
  unfold s_putR at hK
  split at hK
  · rename_i x pp st
    split at hK
    · rename_i v0 hv
      obtain ⟨fs, hw, hfs⟩ := qgF_s hv
      obtain ⟨C, T, N, ty0, hc, hk, hin, hlink, hty, hnm, hte⟩ := hF
      have hfin := hfin _ hc
      have hl : k < fs.length := (List.getElem?_eq_some_iff.mp hfs).1
      intro p l e R s m args below meth c D cA z H locs ls X hH hS hL
      have hts := X.2.2.2.2.1
      have hKK := X.2.2.2.2.2.1
      obtain ⟨r, hr1, cell, q1, q2, q3, q4⟩ := hH.2 pp _ hw
      have hr : r = (C, T, N) := Option.some.inj (hr1.symm.trans hc)
      subst hr
      obtain ⟨hSl, hfc, kC, hkC, hkind⟩ := hKK.1 ci _ hc
      obtain ⟨cf, kf, fi, f, hi, hsl⟩ := hSl k hk
      have hlay := hts _ (hin _ (u_in_lay hk))
      unfold u_lay at hlay
      rw [if_neg (by rw [hfin]; decide)] at hlay
      have hst := (u_facts hfc hkC (u_lays hts hin hk) hi).1
      have h6 := u_store (v := qv z (.ref x)) hfc hkC hkind hlay hi (by rw [hty k hk, hte]) (hn _) (hf _)
      refine W.putK X.1 X.2.1 (f := f) ⟨X.2.2.2.1, hts _ hlink, ⟨_, _, _, hi⟩, hst⟩ (by rw [q2]; exact h6) q1 q3 (by rw [hsl]; exact k2_hasslot (q4 k hk)) rfl rfl hd fun H' e1 e2 e3 => ?_
      rw [hsl] at e1 ⊢
      exact h _ _ _ _ _ hK p l e R s m args below meth c D cA z H' _ ls X (hH.putF hts hKK hc hk hin hty hnm hw hl q2 q3 q4 e1 e2 e3) (hS.put e2 e3 (qA_in pp)) hL
    · exact hK.elim
  · exact hK.elim
theorem r_putRF {g : qG} {pc : Nat} {K : qK} {idx ci k : Nat} {ty : FieldType} (hd : decode g.1.2.1 pc = .ok (.putfield idx, 3)) (hF : qFp g.1.1.cls idx ci k ty) (hfin : ∀ q ∈ vwCl[ci]?, (q.2.1 k).2.2.2 = true) (hin2 : g.1.1.name = "<init>") (hdecl : ∀ q ∈ vwCl[ci]?, (q.2.1 k).1 = g.1.1.cls) (hn : ∀ a : Nat, narrow ty (.ref a) = .ref a) (hf : ∀ a : Nat, fits ty (.ref a) = true) (h : qImp K (AW g (pc + 3))) : qImp (s_putR ci k K) (AW g pc) := by
  intro L st w kc ks hK
  unfold s_putR at hK
  split at hK
  · rename_i x pp st
    split at hK
    · rename_i v0 hv
      obtain ⟨fs, hw, hfs⟩ := qgF_s hv
      obtain ⟨C, T, N, ty0, hc, hk, hin, hlink, hty, hnm, hte⟩ := hF
      have hfin := hfin _ hc
      have hdecl := hdecl _ hc
      have hl : k < fs.length := (List.getElem?_eq_some_iff.mp hfs).1
      intro p l e R s m args below meth c D cA z H locs ls X hH hS hL
      have hts := X.2.2.2.2.1
      have hKK := X.2.2.2.2.2.1
      obtain ⟨r, hr1, cell, q1, q2, q3, q4⟩ := hH.2 pp _ hw
      have hr : r = (C, T, N) := Option.some.inj (hr1.symm.trans hc)
      subst hr
      obtain ⟨hSl, hfc, kC, hkC, hkind⟩ := hKK.1 ci _ hc
      obtain ⟨cf, kf, fi, f, hi, hsl⟩ := hSl k hk
      have hlay := hts _ (hin _ (u_in_lay hk))
      unfold u_lay at hlay
      rw [if_pos (by rw [hfin])] at hlay
      have hst := (u_facts hfc hkC (u_lays hts hin hk) hi).1
      have hcf : m.cls = cf := by
        obtain ⟨_, _, c', _, _, _, -, -, hf', -, -, -, hown2, -⟩ := Cond.laysFinal_spec hlay
        have e1 : c' = cf := by have := hi.symm.trans hf'; simp at this; exact this.1.symm
        rw [hdecl] at hown2
        rw [← e1]; exact Option.some.inj (X.2.2.2.1.symm.trans hown2)
      have h6 := u_fits (v := qv z (.ref x)) hfc hkC hkind (Or.inr hlay) hi (by rw [hty k hk, hte]) (hn _) (hf _)
      refine W.putFinK X.1 X.2.1 X.2.2.2.1 (hts _ hlink) hi hst hcf (X.2.2.2.2.2.2.2.2.2.1.trans hin2) (by rw [q2]; exact h6) q1 q3 (by rw [hsl]; exact k2_hasslot (q4 k hk)) rfl rfl hd fun H' e1 e2 e3 => ?_
      rw [hsl] at e1 ⊢
      exact h _ _ _ _ _ hK p l e R s m args below meth c D cA z H' _ ls X (hH.putF hts hKK hc hk hin hty hnm hw hl q2 q3 q4 e1 e2 e3) (hS.put e2 e3 (qA_in pp)) hL
    · exact hK.elim
  · exact hK.elim
def s_iaload (g : qG) (K : qK) : qK := fun L st w kc ks => match st with
  | .int i :: .ref p :: st => match qgI w p 0 with
    | some (n, f) => vp_in i n ∧ K L (.int (f i.toNatClampNeg) :: st) w kc ks
    | none => False
  | .int i :: .retAddr _ :: st => match g.2.2.2.2.1 with
    | some (n, f) => vp_in i n ∧ K L (.int (f i.toNatClampNeg) :: st) w kc ks
    | none => False
  | _ => False
theorem qA_not {z : qZ} {q : Nat} (h : q < z.1) : ¬ qA z q := Nat.not_le.mpr h
theorem r_iaload {g : qG} {pc : Nat} {K : qK} (hd : decode g.1.2.1 pc = .ok (.iaload, 1)) (h : qImp K (AW g (pc + 1))) : qImp (s_iaload g K) (AW g pc) := by
  intro L st w kc ks hK
  unfold s_iaload at hK
  split at hK
  · split at hK
    · rename_i n f hv
      intro p l e R s m args below meth c D cA z H locs ls X hH hS hL
      exact va_iald X.1 X.2.1 X.2.2.2.2.2.1 (hH.one (qgI_s hv)) 0 0 rfl rfl hK.1 hd (h _ _ _ _ _ hK.2 p l e R s m args below meth c D cA z H locs ls X hH hS hL)
    · exact hK.elim
  · split at hK
    · rename_i n f hv
      intro p l e R s m args below meth c D cA z H locs ls X hH hS hL
      have hsc := X.2.2.2.2.2.2.2.2.2.2.2.2
      rw [hv] at hsc
      exact va_sld X.1 X.2.1 hsc.1 hsc.2.1 (qA_not hsc.2.2) hS hK.1 hd (h _ _ _ _ _ hK.2 p l e R s m args below meth c D cA z H locs ls X hH hS hL)
    · exact hK.elim
  · exact hK.elim
def s_baload (K : qK) : qK := fun L st w kc ks => match st with
  | .int i :: .ref p :: st => match qgI w p 1 with
    | some (n, f) => vp_in i n ∧ K L (.int (f i.toNatClampNeg) :: st) w kc ks
    | none => False
  | _ => False
theorem r_baload {g : qG} {pc : Nat} {K : qK} (hd : decode g.1.2.1 pc = .ok (.baload, 1)) (h : qImp K (AW g (pc + 1))) : qImp (s_baload K) (AW g pc) := by
  intro L st w kc ks hK
  unfold s_baload at hK
  split at hK
  · split at hK
    · rename_i n f hv
      intro p l e R s m args below meth c D cA z H locs ls X hH hS hL
      exact va_zald X.1 X.2.1 X.2.2.2.2.2.1 (hH.one (qgI_s hv)) 0 1 rfl rfl hK.1 hd (h _ _ _ _ _ hK.2 p l e R s m args below meth c D cA z H locs ls X hH hS hL)
    · exact hK.elim
  · exact hK.elim
def s_laload (K : qK) : qK := fun L st w kc ks => match st with
  | .int i :: .ref p :: st => match qgL w p with
    | some (n, f) => vp_in i n ∧ K L (.long (f i.toNatClampNeg) :: st) w kc ks
    | none => False
  | _ => False
theorem r_laload {g : qG} {pc : Nat} {K : qK} (hd : decode g.1.2.1 pc = .ok (.laload, 1)) (h : qImp K (AW g (pc + 1))) : qImp (s_laload K) (AW g pc) := by
  intro L st w kc ks hK
  unfold s_laload at hK
  split at hK
  · split at hK
    · rename_i n f hv
      intro p l e R s m args below meth c D cA z H locs ls X hH hS hL
      exact va_lald X.1 X.2.1 X.2.2.2.2.2.1 (hH.one (qgL_s hv)) 0 2 rfl rfl hK.1 hd (h _ _ _ _ _ hK.2 p l e R s m args below meth c D cA z H locs ls X hH hS hL)
    · exact hK.elim
  · exact hK.elim
def s_aaload (K : qK) : qK := fun L st w kc ks => match st with
  | .int i :: .ref p :: st => match qgR w p with
    | some (n, f) => vp_in i n ∧ match f i.toNatClampNeg with
      | some q => K L (.ref q :: st) w kc ks
      | none => False
    | none => False
  | _ => False
theorem r_aaload {g : qG} {pc : Nat} {K : qK} (hd : decode g.1.2.1 pc = .ok (.aaload, 1)) (h : qImp K (AW g (pc + 1))) : qImp (s_aaload K) (AW g pc) := by
  intro L st w kc ks hK
  unfold s_aaload at hK
  split at hK
  · split at hK
    · rename_i n f hv
      obtain ⟨hin, hK⟩ := hK
      split at hK
      · rename_i q hq
        intro p l e R s m args below meth c D cA z H locs ls X hH hS hL
        have hk := h _ _ _ _ _ hK p l e R s m args below meth c D cA z H locs ls X hH hS hL
        refine va_aldq X.1 X.2.1 X.2.2.2.2.2.1 (hH.one (qgR_s hv)) 0 3 rfl rfl hin hd ?_
        rw [hq]
        exact hk
      · exact hK.elim
    · exact hK.elim
  · exact hK.elim
def qlen (w : qW) (p : Nat) : Option (Nat × Nat) := match w.2 p with
  | some (.inl (t, n, _)) => if t < 4 then some (t, n) else none
  | _ => none
theorem qlen_s {w : qW} {p t n : Nat} (h : qlen w p = some (t, n)) : t < 4 ∧ ∃ x, w.2 p = some (.inl (t, n, x)) := by
  unfold qlen at h
  split at h
  · rename_i t' n' x hw
    split at h
    · rename_i ht
      cases h
      exact ⟨ht, x, hw⟩
    · cases h
  · cases h
def s_alen (g : qG) (K : qK) : qK := fun L st w kc ks => match st with
  | .ref p :: st => match qlen w p with
    | some (_, n) => K L (.int (nI n) :: st) w kc ks
    | none => False
  | .retAddr _ :: st => match g.2.2.2.2.1 with
    | some (n, _) => K L (.int (nI n) :: st) w kc ks
    | none => False
  | _ => False
theorem qe_len (cA : Nat → ClassId) (z : qZ) (t n : Nat) (x) : ∃ y, qe cA z (.inl (t, n, x)) = .inl (cA t, n, y) := by
  rcases x with x | x | x | x | x <;> exact ⟨_, rfl⟩
theorem r_alen {g : qG} {pc : Nat} {K : qK} (hd : decode g.1.2.1 pc = .ok (.arraylength, 1)) (h : qImp K (AW g (pc + 1))) : qImp (s_alen g K) (AW g pc) := by
  intro L st w kc ks hK
  unfold s_alen at hK
  split at hK
  · split at hK
    · rename_i t n hv
      obtain ⟨ht, x, hw⟩ := qlen_s hv
      intro p l e R s m args below meth c D cA z H locs ls X hH hS hL
      obtain ⟨y, hy⟩ := qe_len cA z t n x
      have hO := hH.one hw
      rw [hy] at hO
      obtain ⟨ty, hty⟩ : ∃ ty, (qT cA)[t]? = some (cA t, ty) := by
        match t, ht with
        | 0, _ => exact ⟨_, rfl⟩
        | 1, _ => exact ⟨_, rfl⟩
        | 2, _ => exact ⟨_, rfl⟩
        | 3, _ => exact ⟨_, rfl⟩
      exact va_alen X.1 X.2.1 X.2.2.2.2.2.1 hO 0 t rfl hty rfl hd (h _ _ _ _ _ hK p l e R s m args below meth c D cA z H locs ls X hH hS hL)
    · exact hK.elim
  · split at hK
    · rename_i n f hv
      intro p l e R s m args below meth c D cA z H locs ls X hH hS hL
      have hsc := X.2.2.2.2.2.2.2.2.2.2.2.2
      rw [hv] at hsc
      exact va_slen X.1 X.2.1 hsc.1 hsc.2.1 (qA_not hsc.2.2) hS hd (h _ _ _ _ _ hK p l e R s m args below meth c D cA z H locs ls X hH hS hL)
    · exact hK.elim
  · exact hK.elim
def s_iastore (K : qK) : qK := fun L st w kc ks => match st with
  | .int x :: .int i :: .ref p :: st => match qgI w p 0 with
    | some (n, f) => vp_in i n ∧ K L st (qsI w p (upd f i.toNatClampNeg x)) kc ks
    | none => False
  | _ => False
theorem r_iastore {g : qG} {pc : Nat} {K : qK} (hd : decode g.1.2.1 pc = .ok (.iastore, 1)) (h : qImp K (AW g (pc + 1))) : qImp (s_iastore K) (AW g pc) := by
  intro L st w kc ks hK
  unfold s_iastore at hK
  split at hK
  · rename_i x i pp st
    split at hK
    · rename_i n f hv
      have hw := qgI_s hv
      intro p l e R s m args below meth c D cA z H locs ls X hH hS hL
      refine W.iast X.1 X.2.1 (hH.2 pp _ hw) ((X.2.2.2.2.2.1.2 0 _ rfl).1 n (fun j => .int (f j))) (fun q => by cases q) (by show ¬ (i < 0 ∨ (arrV _ _ _).slots.size ≤ _); rw [arrV_size]; exact hK.1) rfl rfl hd fun H1 e1 z1 oq => ?_
      refine h _ _ _ _ _ hK.2 p l e R s m args below meth c D cA z H1 _ ls X (hH.up rfl (qsI_at hw) (fun q hq => qsI_ne hq) z1 ?_ oq) (hS.put z1 oq (qA_in pp)) hL
      show H1[z.1 + pp]? = some (vp_cell _ _)
      rw [e1]
      show some ((arrV (cA 0) n (fun j => .int (f j))).setSlot i.toNatClampNeg (.int x)) = some (arrV (cA 0) n (fun j => .int ((upd f i.toNatClampNeg x) j)))
      rw [arrV_store]
      congr 2
      funext q
      by_cases hq : q = i.toNatClampNeg
      · subst hq
        simp [updV, upd, vp_updL]
      · simp [updV, upd, vp_updL, hq]
    · exact hK.elim
  · exact hK.elim
def s_bastore (K : qK) : qK := fun L st w kc ks => match st with
  | .int x :: .int i :: .ref p :: st => match qgI w p 1 with
    | some (n, f) => vp_in i n ∧ (x = 0 ∨ x = 1) ∧ K L st (qsI w p (upd f i.toNatClampNeg x)) kc ks
    | none => False
  | _ => False
theorem r_bastore {g : qG} {pc : Nat} {K : qK} (hd : decode g.1.2.1 pc = .ok (.bastore, 1)) (h : qImp K (AW g (pc + 1))) : qImp (s_bastore K) (AW g pc) := by
  intro L st w kc ks hK
  unfold s_bastore at hK
  split at hK
  · rename_i x i pp st
    split at hK
    · rename_i n f hv
      have hw := qgI_s hv
      intro p l e R s m args below meth c D cA z H locs ls X hH hS hL
      refine W.zast X.1 X.2.1 (hH.2 pp _ hw) ((X.2.2.2.2.2.1.2 1 _ rfl).1 n (fun j => .int (f j))) (fun q => by cases q) (by show ¬ (i < 0 ∨ (arrV _ _ _).slots.size ≤ _); rw [arrV_size]; exact hK.1) rfl rfl hd fun H1 e1 z1 oq => ?_
      refine h _ _ _ _ _ hK.2.2 p l e R s m args below meth c D cA z H1 _ ls X (hH.up rfl (qsI_at hw) (fun q hq => qsI_ne hq) z1 ?_ oq) (hS.put z1 oq (qA_in pp)) hL
      show H1[z.1 + pp]? = some (vp_cell _ _)
      rw [e1]
      have hx : narrow .boolean (.int x) = .int x := by rcases hK.2.1 with q | q <;> rw [q] <;> rfl
      rw [hx]
      show some ((arrV (cA 1) n (fun j => .int (f j))).setSlot i.toNatClampNeg (.int x)) = some (arrV (cA 1) n (fun j => .int ((upd f i.toNatClampNeg x) j)))
      rw [arrV_store]
      congr 2
      funext q
      by_cases hq : q = i.toNatClampNeg
      · subst hq
        simp [updV, upd, vp_updL]
      · simp [updV, upd, vp_updL, hq]
    · exact hK.elim
  · exact hK.elim
def s_lastore (K : qK) : qK := fun L st w kc ks => match st with
  | .long x :: .int i :: .ref p :: st => match qgL w p with
    | some (n, f) => vp_in i n ∧ K L st (qsL w p (vp_updL f i.toNatClampNeg x)) kc ks
    | none => False
  | _ => False
theorem r_lastore {g : qG} {pc : Nat} {K : qK} (hd : decode g.1.2.1 pc = .ok (.lastore, 1)) (h : qImp K (AW g (pc + 1))) : qImp (s_lastore K) (AW g pc) := by
  intro L st w kc ks hK
  unfold s_lastore at hK
  split at hK
  · rename_i x i pp st
    split at hK
    · rename_i n f hv
      have hw := qgL_s hv
      intro p l e R s m args below meth c D cA z H locs ls X hH hS hL
      refine W.last X.1 X.2.1 (hH.2 pp _ hw) ((X.2.2.2.2.2.1.2 2 _ rfl).1 n (fun j => .long (f j))) (fun q => by cases q) (by show ¬ (i < 0 ∨ (arrV _ _ _).slots.size ≤ _); rw [arrV_size]; exact hK.1) rfl rfl hd fun H1 e1 z1 oq => ?_
      refine h _ _ _ _ _ hK.2 p l e R s m args below meth c D cA z H1 _ ls X (hH.up rfl (qsL_at hw) (fun q hq => qsL_ne hq) z1 ?_ oq) (hS.put z1 oq (qA_in pp)) hL
      show H1[z.1 + pp]? = some (vp_cell _ _)
      rw [e1]
      show some ((arrV (cA 2) n (fun j => .long (f j))).setSlot i.toNatClampNeg (.long x)) = some (arrV (cA 2) n (fun j => .long ((vp_updL f i.toNatClampNeg x) j)))
      rw [arrV_store]
      congr 2
      funext q
      by_cases hq : q = i.toNatClampNeg
      · subst hq
        simp [updV, upd, vp_updL]
      · simp [updV, upd, vp_updL, hq]
    · exact hK.elim
  · exact hK.elim
def s_aastore (K : qK) : qK := fun L st w kc ks => match st with
  | .ref v :: .int i :: .ref p :: st => match qgR w p, qgF w v 0 0 with
    | some (n, f), some _ => vp_in i n ∧ K L st (qsR w p (va_up f i.toNatClampNeg (some v))) kc ks
    | _, _ => False
  | _ => False
theorem r_aastore {g : qG} {pc : Nat} {K : qK} (hd : decode g.1.2.1 pc = .ok (.aastore, 1)) (h : qImp K (AW g (pc + 1))) : qImp (s_aastore K) (AW g pc) := by
  intro L st w kc ks hK
  unfold s_aastore at hK
  split at hK
  · rename_i v i pp st
    split at hK
    · rename_i n f v0 hv hv2
      have hw := qgR_s hv
      obtain ⟨fs, hw2, -⟩ := qgF_s hv2
      obtain ⟨hin, hK⟩ := hK
      intro p l e R s m args below meth c D cA z H locs ls X hH hS hL
      have hlt : i.toNatClampNeg < n := Nat.not_le.mp fun q => hin (Or.inr q)
      have h0 : ¬ i < 0 := fun q => hin (Or.inl q)
      obtain ⟨r', hr', cellV, g1, g2, g3, -⟩ := hH.2 v _ hw2
      have hcls := (X.2.2.2.2.2.1.1 0 _ rfl).2
      obtain ⟨kA, comp, k1, k2, k3, -⟩ := (X.2.2.2.2.2.1.2 3 _ rfl).2
      have hcomp : comp = D.1 0 := Option.some.inj (k3.symm.trans hcls.1)
      subst hcomp
      obtain ⟨kC, hkC, -⟩ := hcls.2
      refine W.aast X.1 X.2.1 (hH.2 pp _ hw) (fun q h => by cases h) (fun h => by cases h) k1 k2 rfl hkC ⟨h0, by show _ < (arrV _ _ _).slots.size; rw [arrV_size]; exact hlt⟩ g1 (fun q h => by rw [g3] at h; cases h) (by rw [g2]; exact hkC) (by rw [g2]; exact va_assign hcls) rfl rfl hd fun H1 e1 z1 oq => ?_
      refine h _ _ _ _ _ hK p l e R s m args below meth c D cA z H1 _ ls X (hH.up rfl (qsR_at hw) (fun q hq => qsR_ne hq) z1 ?_ oq) (hS.put z1 oq (qA_in pp)) hL
      show H1[z.1 + pp]? = some (vp_cell _ _)
      rw [e1]
      show some ((arrV (cA 3) n (fun j => va_rf ((f j).map (z.1 + ·)))).setSlot i.toNatClampNeg (.ref (z.1 + v))) = some (arrV (cA 3) n (fun j => va_rf (((va_up f i.toNatClampNeg (some v)) j).map (z.1 + ·))))
      rw [arrV_store]
      congr 2
      funext q
      by_cases hq : q = i.toNatClampNeg
      · subst hq
        simp [updV, va_up, va_rf]
      · simp [updV, va_up, hq]
    · exact hK.elim
  · exact hK.elim
end
section
/-- a new object -/
def qNw (own : String) (idx ci N : Nat) (fs : List Value) : Prop := ∃ (C : String) (T : u_T) (ty0 : Nat → FieldType), vwCl[ci]? = some (C, T, N) ∧ (∀ w ∈ u_ws C T N, w ∈ qg) ∧ (∀ k, k < N → parseFieldDescriptor (T k).2.2.1 = some (ty0 k)) ∧ Cond.classLink own idx C ∈ qg ∧ Cond.instantiable C N ∈ qg ∧ Cond.initialized C ∈ qg ∧ (∀ j, j < N → defaultValue (ty0 j) = vp_V fs j) ∧ ∀ z, fs.map (qv z) = fs
def s_new (g : qG) (ci N : Nat) (fs : List Value) (K : qK) : qK := fun L st w kc ks => (kc + 1 ≤ g.2.2.1 ∧ ks + N ≤ g.2.2.2.1) ∧ K L (.ref w.1 :: st) (qpu w (.inr (ci, fs))) (kc + 1) (ks + N)
theorem va_S.pushed {A : Nat → Prop} {H0 H H1 : Heap} {locs : List Loc} (h : va_S A H0 H locs) (z1 : H1.size = H.size + 1) (o1 : ∀ q : Nat, q < H.size → H1[q]? = H[q]?) : va_S A H0 H1 locs := ⟨Nat.le_trans h.1 (by omega), fun x h1 h2 => (o1 x (Nat.lt_of_lt_of_le h1 h.1)).trans (h.2.1 x h1 h2), h.2.2⟩
theorem r_new {g : qG} {pc : Nat} {K : qK} {idx ci N : Nat} {fs : List Value} (hd : decode g.1.2.1 pc = .ok (.new idx, 3)) (hN : qNw g.1.1.cls idx ci N fs) (h : qImp K (AW g (pc + 3))) : qImp (s_new g ci N fs K) (AW g pc) := by
  intro L st w kc ks hK p l e R s m args below meth c D cA z H locs ls X hH hS hL
  obtain ⟨C, T, ty0, hc, hin, hty, h1, h2, h3, h4, h5⟩ := hN
  have hts := X.2.2.2.2.1
  have hKn := X.2.2.2.2.2.1.1 ci _ hc
  refine W.newcK X.1 X.2.1 X.2.2.2.1 (hts _ h1) (hts _ h2) (hts _ h3) rfl hd (Nat.le_trans hK.1.1 X.2.2.2.2.2.2.2.2.2.2.2.1.2.1) (Nat.le_trans hK.1.2 X.2.2.2.2.2.2.2.2.2.2.2.1.2.2.1) hKn.2.1 rfl fun H1 kC hkC e1 z1 o1 => ?_
  have e0 : H.size = z.1 + w.1 := hH.1
  have hk := h _ _ _ _ _ hK.2 p l e R s m args below meth c D cA z H1 locs ls X (hH.push z1 (by
    rw [qe_obj, h5]
    rw [← e0]
    exact ⟨_, hc, (u_born ty0 hts hin hKn hkC e1 hty).to h4⟩) o1) (hS.pushed z1 o1) hL
  have e2 : (Value.ref H.size) = qv z (.ref w.1) := by rw [e0]; rfl
  show W p l e R s m args below meth c H1 locs (kc + 1) (ks + N) _ (F0 m (pc + 3) ls (.ref H.size :: st.map (qv z)))
  rw [e2]
  exact hk
def s_newI (g : qG) (t : Nat) (K : qK) : qK := fun L st w kc ks => match st with
  | .int n :: st => (¬ n < 0 ∧ n.toNatClampNeg ≤ 100000 ∧ kc + 1 ≤ g.2.2.1 ∧ ks + n.toNatClampNeg ≤ g.2.2.2.1) ∧ K L (.ref w.1 :: st) (qpu w (.inl (t, n.toNatClampNeg, .inl (fun _ => 0)))) (kc + 1) (ks + n.toNatClampNeg)
  | _ => False
def s_newL (g : qG) (K : qK) : qK := fun L st w kc ks => match st with
  | .int n :: st => (¬ n < 0 ∧ n.toNatClampNeg ≤ 100000 ∧ kc + 1 ≤ g.2.2.1 ∧ ks + n.toNatClampNeg ≤ g.2.2.2.1) ∧ K L (.ref w.1 :: st) (qpu w (.inl (2, n.toNatClampNeg, .inr (.inl (fun _ => 0))))) (kc + 1) (ks + n.toNatClampNeg)
  | _ => False
theorem r_newI0 {g : qG} {pc : Nat} {K : qK} (hd : decode g.1.2.1 pc = .ok (.newarray .int, 2)) (ha : Cond.arrayClass .int ∈ qg) (h : qImp K (AW g (pc + 2))) : qImp (s_newI g 0 K) (AW g pc) := by
  intro L st w kc ks hK
  unfold s_newI at hK
  split at hK
  · rename_i n st
    obtain ⟨⟨hn, hb, hc1, hc2⟩, hK⟩ := hK
    intro p l e R s m args below meth c D cA z H locs ls X hH hS hL
    have e0 : H.size = z.1 + w.1 := hH.1
    refine va_newaK (atype := .int) X.1 X.2.1 (X.2.2.2.2.1 _ ha) rfl hd rfl hn rfl (by show _ * 4 ≤ _; omega) (Nat.le_trans hc1 X.2.2.2.2.2.2.2.2.2.2.2.1.2.1) (Nat.le_trans hc2 X.2.2.2.2.2.2.2.2.2.2.2.1.2.2.1) rfl fun H1 cA' e1 z1 o1 hAr hNm => ?_
    have hcA : cA' = cA 0 := Option.some.inj (hNm.symm.trans (X.2.2.2.2.2.1.2 0 _ rfl).2)
    rw [hcA] at e1
    have hk := h _ _ _ _ _ hK p l e R s m args below meth c D cA z H1 locs ls X (hH.push z1 (by rw [← e0]; exact e1) o1) (hS.pushed z1 o1) hL
    have e2 : (Value.ref H.size) = qv z (.ref w.1) := by rw [e0]; rfl
    show W p l e R s m args below meth c H1 locs _ _ _ (F0 m (pc + 2) ls (.ref H.size :: st.map (qv z)))
    rw [e2]
    exact hk
  · exact hK.elim
theorem r_newI1 {g : qG} {pc : Nat} {K : qK} (hd : decode g.1.2.1 pc = .ok (.newarray .boolean, 2)) (ha : Cond.arrayClass .boolean ∈ qg) (h : qImp K (AW g (pc + 2))) : qImp (s_newI g 1 K) (AW g pc) := by
  intro L st w kc ks hK
  unfold s_newI at hK
  split at hK
  · rename_i n st
    obtain ⟨⟨hn, hb, hc1, hc2⟩, hK⟩ := hK
    intro p l e R s m args below meth c D cA z H locs ls X hH hS hL
    have e0 : H.size = z.1 + w.1 := hH.1
    refine va_newaK (atype := .boolean) X.1 X.2.1 (X.2.2.2.2.1 _ ha) rfl hd rfl hn rfl (by show _ * 1 ≤ _; omega) (Nat.le_trans hc1 X.2.2.2.2.2.2.2.2.2.2.2.1.2.1) (Nat.le_trans hc2 X.2.2.2.2.2.2.2.2.2.2.2.1.2.2.1) rfl fun H1 cA' e1 z1 o1 hAr hNm => ?_
    have hcA : cA' = cA 1 := Option.some.inj (hNm.symm.trans (X.2.2.2.2.2.1.2 1 _ rfl).2)
    rw [hcA] at e1
    have hk := h _ _ _ _ _ hK p l e R s m args below meth c D cA z H1 locs ls X (hH.push z1 (by rw [← e0]; exact e1) o1) (hS.pushed z1 o1) hL
    have e2 : (Value.ref H.size) = qv z (.ref w.1) := by rw [e0]; rfl
    show W p l e R s m args below meth c H1 locs _ _ _ (F0 m (pc + 2) ls (.ref H.size :: st.map (qv z)))
    rw [e2]
    exact hk
  · exact hK.elim
theorem r_newL {g : qG} {pc : Nat} {K : qK} (hd : decode g.1.2.1 pc = .ok (.newarray .long, 2)) (ha : Cond.arrayClass .long ∈ qg) (h : qImp K (AW g (pc + 2))) : qImp (s_newL g K) (AW g pc) := by
  intro L st w kc ks hK
  unfold s_newL at hK
  split at hK
  · rename_i n st
    obtain ⟨⟨hn, hb, hc1, hc2⟩, hK⟩ := hK
    intro p l e R s m args below meth c D cA z H locs ls X hH hS hL
    have e0 : H.size = z.1 + w.1 := hH.1
    refine va_newaK (atype := .long) X.1 X.2.1 (X.2.2.2.2.1 _ ha) rfl hd rfl hn rfl (by show _ * 8 ≤ _; omega) (Nat.le_trans hc1 X.2.2.2.2.2.2.2.2.2.2.2.1.2.1) (Nat.le_trans hc2 X.2.2.2.2.2.2.2.2.2.2.2.1.2.2.1) rfl fun H1 cA' e1 z1 o1 hAr hNm => ?_
    have hcA : cA' = cA 2 := Option.some.inj (hNm.symm.trans (X.2.2.2.2.2.1.2 2 _ rfl).2)
    rw [hcA] at e1
    have hk := h _ _ _ _ _ hK p l e R s m args below meth c D cA z H1 locs ls X (hH.push z1 (by rw [← e0]; exact e1) o1) (hS.pushed z1 o1) hL
    have e2 : (Value.ref H.size) = qv z (.ref w.1) := by rw [e0]; rfl
    show W p l e R s m args below meth c H1 locs _ _ _ (F0 m (pc + 2) ls (.ref H.size :: st.map (qv z)))
    rw [e2]
    exact hk
  · exact hK.elim
def s_newR (g : qG) (K : qK) : qK := fun L st w kc ks => match st with
  | .int n :: st => (¬ n < 0 ∧ n.toNatClampNeg ≤ 100000 ∧ kc + 1 ≤ g.2.2.1 ∧ ks + n.toNatClampNeg ≤ g.2.2.2.1) ∧ K L (.ref w.1 :: st) (qpu w (.inl (3, n.toNatClampNeg, .inr (.inr (.inr (.inr (fun _ => none))))))) (kc + 1) (ks + n.toNatClampNeg)
  | _ => False
theorem r_newR {g : qG} {pc idx : Nat} {K : qK} (hd : decode g.1.2.1 pc = .ok (.anewarray idx, 3)) (ha : Cond.classLink g.1.1.cls idx "SealLine$FileSet" ∈ qg) (h : qImp K (AW g (pc + 3))) : qImp (s_newR g K) (AW g pc) := by
  intro L st w kc ks hK
  unfold s_newR at hK
  split at hK
  · rename_i n st
    obtain ⟨⟨hn, hb, hc1, hc2⟩, hK⟩ := hK
    intro p l e R s m args below meth c D cA z H locs ls X hH hS hL
    have e0 : H.size = z.1 + w.1 := hH.1
    refine W.anew X.1 X.2.1 X.2.2.2.1 (X.2.2.2.2.1 _ ha) (va_AO.use X.2.2.2.2.2.2.1.2) rfl hd rfl hn (by omega) (Nat.le_trans hc1 X.2.2.2.2.2.2.2.2.2.2.2.1.2.1) (Nat.le_trans hc2 X.2.2.2.2.2.2.2.2.2.2.2.1.2.2.1) fun cA' kA comp f1 f2 f3 f4 => ?_
    generalize hH1 : H.push ({ cls := cA', slots := Array.replicate n.toNatClampNeg .null, vm := .none } : Cell) = H1
    have z1 : H1.size = H.size + 1 := by rw [← hH1, Array.size_push]
    have e1 : H1[H.size]? = some (arrV cA' n.toNatClampNeg (fun _ => .null)) := by rw [← hH1, Array.getElem?_push_size, ← arrV_new]
    have o1 : ∀ q : Nat, q < H.size → H1[q]? = H[q]? := fun q hq => by rw [← hH1, Array.getElem?_push, if_neg (Nat.ne_of_lt hq)]
    obtain ⟨_, _, _, _, _, f5⟩ := (X.2.2.2.2.2.1.2 3 _ rfl).2
    have hcA : cA' = cA 3 := Option.some.inj (f1.symm.trans f5)
    rw [hcA] at e1
    have hk := h _ _ _ _ _ hK p l e R s m args below meth c D cA z H1 locs ls X (hH.push z1 (by rw [← e0]; exact e1) o1) (hS.pushed z1 o1) hL
    have e2 : (Value.ref H.size) = qv z (.ref w.1) := by rw [e0]; rfl
    show W p l e R s m args below meth c H1 locs _ _ _ (F0 m (pc + 3) ls (.ref H.size :: st.map (qv z)))
    rw [e2]
    exact hk
  · exact hK.elim
theorem q_sum (z : qZ) : ∀ (st : List Value) (n : Nat), st.length ≤ n → ((st.map (qv z)).map fun v => v.category).sum ≤ 2 * n
  | [], n, _ => Nat.zero_le _
  | v :: st, 0, h => absurd h (by simp)
  | v :: st, n + 1, h => by
    have h1 := q_sum z st n (by simpa using h)
    have h2 : (qv z v).category ≤ 2 := by rcases lv_cat (qv z v) with q | q <;> omega
    simp only [List.map_cons, List.sum_cons]
    omega
/-- Object's constructor -/
def s_oinit (g : qG) (K : qK) : qK := fun L st w kc ks => match st with
  | .ref _ :: st => (st.length ≤ 4 ∧ 1 ≤ g.2.1) ∧ K L st w kc ks
  | _ => False
theorem r_oinit {g : qG} {pc idx : Nat} {K : qK} (hd : decode g.1.2.1 pc = .ok (.invokespecial idx, 3)) (h1 : Cond.methodLink g.1.1.cls idx Lib.objectInit ∈ qg) (h2 : Cond.instanceMethod Lib.objectInit ∈ qg) (h3 : Cond.code Lib.objectInit ⟨#[0xb1]⟩ 1 none ∈ qg) (h : qImp K (AW g (pc + 3))) : qImp (s_oinit g K) (AW g pc) := by
  intro L st w kc ks hK
  unfold s_oinit at hK
  split at hK
  · rename_i a st
    intro p l e R s m args below meth c D cA z H locs ls X hH hS hL
    have hts := X.2.2.2.2.1
    have hR := X.2.2.2.2.2.2.2.2.2.2.2.1
    have hsum := q_sum z st 4 hK.1.1
    refine W.objInit (rest := st.map (qv z)) X.1 X.2.1 X.2.2.2.1 (hts _ h1) (hts _ h2) (hts _ h3) rfl (hL.1.trans X.2.2.1.symm) rfl hd (by have := hK.1.2; omega) (by show 2 * 0 + _ + 12 ≤ _; have := hK.1.2; omega) (h _ _ _ _ _ hK.2 p l e R s m args below meth c D cA z H locs ls X hH hS hL)
  · exact hK.elim
def s_ireturn (g : qG) : qK := fun _ st w kc ks => match st with
  | [.int v] => (kc ≤ g.2.2.1 ∧ ks ≤ g.2.2.2.1) ∧ g.2.2.2.2.2 (some (.int v)) w
  | _ => False
theorem r_ireturn {g : qG} {pc : Nat} (hd : decode g.1.2.1 pc = .ok (.ireturn, 1)) (hr : g.1.2.2.2 = some .int) : qImp (s_ireturn g) (AW g pc) := by
  intro L st w kc ks hK
  unfold s_ireturn at hK
  split at hK
  · rename_i v
    intro p l e R s m args below meth c D cA z H locs ls X hH hS hL
    refine W.widen (k := g.2.2.1) (n := g.2.2.2.1) hK.1.1 hK.1.2 ?_
    exact W.iret (v := v) X.1 X.2.1 (X.2.2.2.2.2.2.2.1.trans hr) (fun t ht hW => ⟨⟨some (.int v), w, rfl, hK.2, by rw [ht]; exact hH⟩, hS.F ht⟩) hS.2.2 hd X.2.2.2.2.2.2.2.2.1
  · exact hK.elim
def s_zreturn (g : qG) : qK := fun _ st w kc ks => match st with
  | [.int v] => (kc ≤ g.2.2.1 ∧ ks ≤ g.2.2.2.1) ∧ (v = 0 ∨ v = 1) ∧ g.2.2.2.2.2 (some (.int v)) w
  | _ => False
theorem r_zreturn {g : qG} {pc : Nat} (hd : decode g.1.2.1 pc = .ok (.ireturn, 1)) (hr : g.1.2.2.2 = some .boolean) : qImp (s_zreturn g) (AW g pc) := by
  intro L st w kc ks hK
  unfold s_zreturn at hK
  split at hK
  · rename_i v
    intro p l e R s m args below meth c D cA z H locs ls X hH hS hL
    refine W.widen (k := g.2.2.1) (n := g.2.2.2.1) hK.1.1 hK.1.2 ?_
    exact W.zret (v := v) X.1 X.2.1 (X.2.2.2.2.2.2.2.1.trans hr) (by rcases hK.2.1 with q | q <;> rw [q] <;> rfl) (fun t ht hW => ⟨⟨some (.int v), w, rfl, hK.2.2, by rw [ht]; exact hH⟩, hS.F ht⟩) hS.2.2 hd X.2.2.2.2.2.2.2.2.1
  · exact hK.elim
def s_lreturn (g : qG) : qK := fun _ st w kc ks => match st with
  | [.long v] => (kc ≤ g.2.2.1 ∧ ks ≤ g.2.2.2.1) ∧ g.2.2.2.2.2 (some (.long v)) w
  | _ => False
theorem r_lreturn {g : qG} {pc : Nat} (hd : decode g.1.2.1 pc = .ok (.lreturn, 1)) (hr : g.1.2.2.2 = some .long) : qImp (s_lreturn g) (AW g pc) := by
  intro L st w kc ks hK
  unfold s_lreturn at hK
  split at hK
  · rename_i v
    intro p l e R s m args below meth c D cA z H locs ls X hH hS hL
    refine W.widen (k := g.2.2.1) (n := g.2.2.2.1) hK.1.1 hK.1.2 ?_
    exact W.lret (v := v) X.1 X.2.1 (X.2.2.2.2.2.2.2.1.trans hr) (fun t ht hW => ⟨⟨some (.long v), w, rfl, hK.2, by rw [ht]; exact hH⟩, hS.F ht⟩) hS.2.2 hd X.2.2.2.2.2.2.2.2.1
  · exact hK.elim
def s_vreturn (g : qG) : qK := fun _ st w kc ks => match st with
  | [] => (kc ≤ g.2.2.1 ∧ ks ≤ g.2.2.2.1) ∧ g.2.2.2.2.2 none w
  | _ => False
theorem r_vreturn {g : qG} {pc : Nat} (hd : decode g.1.2.1 pc = .ok (.return_, 1)) (hr : g.1.2.2.2 = none) : qImp (s_vreturn g) (AW g pc) := by
  intro L st w kc ks hK
  unfold s_vreturn at hK
  split at hK
  · intro p l e R s m args below meth c D cA z H locs ls X hH hS hL
    refine W.widen (k := g.2.2.1) (n := g.2.2.2.1) hK.1.1 hK.1.2 ?_
    exact W.vret X.1 X.2.1 (X.2.2.2.2.2.2.2.1.trans hr) (fun t ht hW => ⟨⟨none, w, rfl, hK.2, by rw [ht]; exact hH⟩, hS.F ht⟩) hS.2.2 hd X.2.2.2.2.2.2.2.2.1
  · exact hK.elim
def s_areturn (g : qG) : qK := fun _ st w kc ks => match st with
  | [.ref v] => (kc ≤ g.2.2.1 ∧ ks ≤ g.2.2.2.1) ∧ g.2.2.2.2.2 (some (.ref v)) w
  | _ => False
theorem r_areturn {g : qG} {pc : Nat} {rt : FieldType} (hd : decode g.1.2.1 pc = .ok (.areturn, 1)) (hr : g.1.2.2.2 = some rt) (hrt : (∃ n, rt = .object n) ∨ ∃ t, rt = .array t) : qImp (s_areturn g) (AW g pc) := by
  intro L st w kc ks hK
  unfold s_areturn at hK
  split at hK
  · rename_i v
    intro p l e R s m args below meth c D cA z H locs ls X hH hS hL
    refine W.widen (k := g.2.2.1) (n := g.2.2.2.1) hK.1.1 hK.1.2 ?_
    exact W.aret (v := .ref (z.1 + v)) X.1 X.2.1 (X.2.2.2.2.2.2.2.1.trans hr) hrt (Or.inr ⟨_, rfl⟩) (fun t ht hW => ⟨⟨some (.ref v), w, rfl, hK.2, by rw [ht]; exact hH⟩, hS.F ht⟩) hS.2.2 hd X.2.2.2.2.2.2.2.2.1
  · exact hK.elim
/-! contracts -/
def qr (d mc ms : Nat) : Room := { frames := d, cells := mc, slots := ms, locals := 50 * d }
def CT (M : qM) (d mc ms : Nat) (av : List Value) (w : qW) (Q : Option Value → qW → Prop) : Prop := ∀ (l : Launch) (D : va_G) (cA : Nat → ClassId) (z : qZ), Met l M.1 (Cond.code M.1 M.2.1 M.2.2.1 M.2.2.2 :: qg) (qr d mc ms) (va_Pc (av.map (qv z)) (fun U => qH D cA z w U.heap ∧ va_K D vwCl (qT cA) U ∧ qNx U)) (qQ D cA z Q) mc ms (qA z)
def qlv : List Value → qL
  | [] => []
  | v :: vs => if v.category = 2 then some v :: none :: qlv vs else some v :: qlv vs
theorem qlv_len (z : qZ) : ∀ av : List Value, (lg_sl (av.map (qv z))).length = (qlv av).length
  | [] => rfl
  | v :: vs => by
    have ih := qlv_len z vs
    unfold lg_sl at ih ⊢
    simp only [List.map_cons, List.flatMap_cons, List.length_append, qv_cat, qlv, ih]
    by_cases h : v.category = 2
    · simp [h]; omega
    · simp [h]; omega
theorem qlv_in (z : qZ) : ∀ (av : List Value) (k i : Nat) (v : Value), (qlv av)[i]? = some (some v) → (k + i, qv z v) ∈ lv_args k (av.map (qv z))
  | [], k, i, v, h => by simp [qlv] at h
  | u :: vs, k, i, v, h => by
    simp only [List.map_cons, lv_args, qv_cat]
    by_cases hu : u.category = 2
    · simp only [qlv, hu, if_true] at h ⊢
      match i, h with
      | 0, h => simp at h; rw [h]; exact List.mem_cons_self
      | 1, h => simp at h
      | i + 2, h =>
        have := qlv_in z vs (k + 2) i v (by simpa using h)
        exact List.mem_cons_of_mem _ (by rw [show k + (i + 2) = k + 2 + i by omega]; exact this)
    · simp only [qlv, hu, if_false] at h ⊢
      match i, h with
      | 0, h => simp at h; rw [h]; exact List.mem_cons_self
      | i + 1, h =>
        have := qlv_in z vs (k + 1) i v (by simpa using h)
        exact List.mem_cons_of_mem _ (by rw [show k + (i + 1) = k + 1 + i by omega]; exact this)
theorem qsc_none (z : qZ) (s : State) : qSc none z s := trivial
theorem CT_of {M : qM} {d mc ms : Nat} {av : List Value} {w : qW} {Q : Option Value → qW → Prop} {L : qL} (hy : plainFor M.1 = true) (hL : qlv av ++ List.replicate (M.2.2.1 - (qlv av).length) none = L) (hlen : (qlv av).length ≤ M.2.2.1) (h : AW (M, d, mc, ms, none, Q) 0 L [] w 0 0) : CT M d mc ms av w Q := by
  intro l D cA z
  refine va_MetF (cc := M.2.1) (maxL := M.2.2.1) (ret := M.2.2.2) hy rfl ?_
  intro p e s m args below meth c s₁ B hml hv
  obtain ⟨rfl, hH, hK, hN⟩ := hv
  have hts := atoms_spec B.pre
  have hown : s.vm.findClass M.1.cls = some m.cls := findClass_of_methodNamed B.named
  rw [lg_entry_eq]
  refine h p l e _ s m _ below meth c D cA z s.heap [] _ ⟨B.exec, B.bytes, hml, hown, fun w hw => hts w (List.mem_cons_of_mem _ hw), hK, hN, B.returns, B.notSynchronized, (name_of_methodNamed B.named B.method).1, by rw [hH.1]; exact Nat.le_add_right _ _, ⟨Nat.le_refl _, Nat.le_refl _, Nat.le_refl _, Nat.le_refl _⟩, trivial⟩ hH va_S.rf ?_
  refine qR.sub (lv_entry (av.map (qv z)) (n := M.2.2.1) (by rw [qlv_len]; exact hlen)) fun i v hi => ?_
  rw [← hL] at hi
  have h2 : (qlv av)[i]? = some (some v) := by
    by_cases q : i < (qlv av).length
    · rwa [List.getElem?_append_left q] at hi
    · rw [List.getElem?_append_right (by omega), List.getElem?_replicate] at hi
      split at hi <;> cases hi
  have := qlv_in z av 0 i v h2
  rwa [Nat.zero_add] at this
end
section
theorem q_run {p : Program} {l : Launch} {e : Env} {R : Room} {s : State} {m : MethodId} {args : Array Value} {below : List Frame} {meth : Method} {c : Code} {H : Heap} {locs : List Loc} {cells slots mc ms : Nat} {Z : State → Prop} {pc : Nat} {ls : Array Slot} {st0 rest : List Value} {D : va_G} {cA : Nat → ClassId} {z : qZ} {Q : Option Value → qW → Prop} {a : Array Value}
    (hr : va_Run p l e R s m args below meth c H locs cells slots mc ms (F0 m pc ls st0) rest (qQ D cA z Q a) (qA z)) (hS : va_S (qA z) s.heap H locs)
    (kk : ∀ (r : Option Value) (w : qW) (H1 : Heap) (locs1 : List Loc), Q r w → qH D cA z w H1 → va_S (qA z) s.heap H1 locs1 → W p l e R s m args below meth c H1 locs1 (cells + mc) (slots + ms) Z (F0 m (pc + 3) ls ((r.map (qv z)).toList ++ rest))) : W p l e R s m args below meth c H locs cells slots Z (F0 m pc ls st0) := by
  intro T hT X
  obtain ⟨v, st₀, t, T', L, h0, X', hL, e1, e2, ⟨⟨r, w, hv, hq, hh⟩, hz, hk⟩, st⟩ := hr T hT X
  cases hv
  rw [h0] at hz hk
  obtain ⟨t2, a1, b1⟩ := kk r w T'.heap (locs ++ L) hq (by rw [e1]; exact hh) ⟨Nat.le_trans hS.1 (by rw [e1]; exact hz), fun q h1 h2 => by rw [e1, hk q (Nat.lt_of_lt_of_le h1 hS.1) h2]; exact hS.2.1 q h1 h2, fun q hq => by
      rcases List.mem_append.mp hq with h | h
      · exact hS.2.2 q h
      · exact hL q h⟩ T' rfl X'
  exact ⟨t2, st t2 a1, b1⟩
theorem qNx.moved {s U : State} (hW : s.WarmedH U.vm) (h : qNx s) : qNx U := ⟨fun q hq => (h.1 q hq).warmM hW, h.2.moved hW.alike⟩
theorem q_blind {D : va_G} {cA : Nat → ClassId} {z : qZ} {w : qW} {av : List Value} : FrameBlind (va_Pc av (fun U => qH D cA z w U.heap ∧ va_K D vwCl (qT cA) U ∧ qNx U)) := fun a U g mk q => ⟨q.1, q.2.1, va_K.moved (u := U) (U := U.calling g mk a) (Vm.Alike.refl U.vm) q.2.2.1, fun x hx => (q.2.2.2.1 x hx).same (u := U) (U := U.calling g mk a) rfl rfl, va_AO.moved (u := U) (U := U.calling g mk a) (Vm.Alike.refl U.vm) q.2.2.2.2⟩
def qci (w : qW) (p : Nat) : Option Nat := match w.2 p with
  | some (.inr (c, _)) => some c
  | _ => none
theorem qci_s {w : qW} {p ci : Nat} (h : qci w p = some ci) : ∃ fs, w.2 p = some (.inr (ci, fs)) := by
  unfold qci at h
  split at h
  · rename_i c fs hw
    cases h
    exact ⟨fs, hw⟩
  · cases h
/-- what a call needs of the tables: the callee's own words, and how many it takes -/
def qMk (M : qM) (n : Nat) : Prop := Cond.code M.1 M.2.1 M.2.2.1 M.2.2.2 ∈ qg ∧ Cond.initialized M.1.cls ∈ qg ∧ (M.1.cls ≠ "java/lang/invoke/MethodHandle" ∧ M.1.cls ≠ "java/lang/invoke/VarHandle" ∧ (parseMethodDescriptor M.1.desc).map (fun d => d.parameters.length) = some n) ∧ M.2.2.1 ≤ 31
def qMv (M : qM) (n : Nat) : Prop := qMk M n ∧ Cond.instanceMethod M.1 ∈ qg ∧ Cond.selects M.1.cls M.1 M.1 ∈ qg
def qMs (M : qM) (n : Nat) : Prop := qMk M n ∧ Cond.static M.1 ∈ qg
def qMi (M : qM) (n : Nat) : Prop := qMk M n ∧ Cond.instanceMethod M.1 ∈ qg ∧ M.1.name = "<init>" ∧ M.2.2.2 = none
def qLk (own : String) (idx : Nat) (M : qM) : Prop := Cond.methodLink own idx M.1 ∈ qg
def qLn (own : String) (idx : Nat) (M : qM) (host : String) : Prop := (own, idx, M.1, host) ∈ qnest
theorem qgc {w : Cond} (h : w ∈ qg) : w ∈ qg ∧ ((w.onTables && w.keeps) = true ∨ ∃ ty, w = .arrayClass ty) := qg_good w h
theorem qg_ws {M : qM} {n : Nat} (h : qMk M n) : GoodIn qg (Cond.code M.1 M.2.1 M.2.2.1 M.2.2.2 :: qg) := fun w hw => by
  rcases List.mem_cons.mp hw with e | e
  · rw [e]; exact qgc h.1
  · exact qgc e
theorem qg_wsV {M : qM} {n idx : Nat} {own : String} (h : qMv M n) (hl : qLk own idx M) : GoodIn qg (wsV own idx M.1.cls M.1 (Cond.code M.1 M.2.1 M.2.2.1 M.2.2.2 :: qg)) := fun w hw => by
  unfold wsV at hw
  rcases List.mem_append.mp hw with e | e
  · simp only [List.mem_cons, List.not_mem_nil, or_false] at e
    rcases e with e | e | e | e <;> rw [e]
    · exact qgc hl
    · exact qgc h.2.1
    · exact qgc h.2.2
    · exact qgc h.1.2.1
  · exact qg_ws h.1 w e
theorem qg_wsS {M : qM} {n idx : Nat} {own : String} (h : qMs M n) (hl : qLk own idx M) : GoodIn qg (va_wsS own idx M.1 (Cond.code M.1 M.2.1 M.2.2.1 M.2.2.2 :: qg)) := fun w hw => by
  unfold va_wsS at hw
  rcases List.mem_append.mp hw with e | e
  · simp only [List.mem_cons, List.not_mem_nil, or_false] at e
    rcases e with e | e | e <;> rw [e]
    · exact qgc hl
    · exact qgc h.2
    · exact qgc h.1.2.1
  · exact qg_ws h.1 w e
theorem qCV_room {g : qG} {R : Room} {M : qM} {n d : Nat} (h : qMk M n) (hd : d + 1 ≤ g.2.1) (hR : g.2.1 ≤ R.frames ∧ g.2.2.1 ≤ R.cells ∧ g.2.2.2.1 ≤ R.slots ∧ 50 * g.2.1 ≤ R.locals) : d + 1 ≤ R.frames ∧ 8 + (M.2.2.1 + 11) + 50 * d ≤ R.locals := by
  have := h.2.2.2
  omega
theorem qrev (z : qZ) (As : List Value) (x : Value) (rest : List Value) : (As.reverse ++ x :: rest).map (qv z) = (As.map (qv z)).reverse ++ qv z x :: rest.map (qv z) := by simp [List.map_reverse]
theorem a_callV {g : qG} {pc idx : Nat} {L : qL} {w : qW} {kc ks : Nat} {M : qM} {d mc ms n : Nat} {Q : Option Value → qW → Prop} {q : Nat} (As rest : List Value) (hd : decode g.1.2.1 pc = .ok (.invokevirtual idx, 3)) (hm : qMv M n) (hl : qLk g.1.1.cls idx M) (hC : CT M d mc ms (.ref q :: As) w Q) {ci : Nat} (hq : qci w q = some ci) (hcl : (vwCl[ci]?).map (fun x => x.1) = some M.1.cls) (hn : As.length = n) (hst : rest.length ≤ 4) (hdp : d + 1 ≤ g.2.1) (hmc : kc + mc ≤ g.2.2.1 ∧ ks + ms ≤ g.2.2.2.1)
    (k : ∀ r w', Q r w' → AW g (pc + 3) L (r.toList ++ rest) w' (kc + mc) (ks + ms)) : AW g pc L (As.reverse ++ .ref q :: rest) w kc ks := by
  intro p l e R s m args below meth c D cA z H locs ls X hH hS hL
  have hts := X.2.2.2.2.1
  have hR := X.2.2.2.2.2.2.2.2.2.2.2.1
  have hK := X.2.2.2.2.2.1
  have hNx := X.2.2.2.2.2.2.1
  have hsum := q_sum z rest 4 hst
  obtain ⟨fs, hw⟩ := qci_s hq
  obtain ⟨r0, hr0, hr1⟩ : ∃ r0, vwCl[ci]? = some r0 ∧ r0.1 = M.1.cls := by
    cases hh : vwCl[ci]? with
    | none => rw [hh] at hcl; cases hcl
    | some r0 => rw [hh] at hcl; exact ⟨r0, rfl, Option.some.inj hcl⟩
  have hrec := va_recv hK (hH.obj hw) hr0 (q0 := 0) rfl
  rw [hr1] at hrec
  have hstk : (As.reverse ++ .ref q :: rest).map (qv z) = (As.map (qv z)).reverse ++ .ref (z.1 + q) :: rest.map (qv z) := by simp [List.map_reverse]; rfl
  rw [hstk]
  have hrun := va_runV (e := e) (g := F0 m pc ls ((As.map (qv z)).reverse ++ .ref (z.1 + q) :: rest.map (qv z))) (cells := kc) (slots := ks) (locs := locs) (H := H) (below := below) (meth := meth) (As := As.map (qv z)) (rest := rest.map (qv z)) ⟨X.1, X.2.1, X.2.2.1, X.2.2.2.1, hts⟩ (hC l D cA z) (cwV n hts (qg_wsV hm hl) rfl rfl rfl ⟨rfl, hm.1.2.2.1⟩ (qCV_room hm.1 hdp hR)) ⟨q_blind, hrec, fun U hU hW => ⟨rfl, by rw [hU]; exact hH, va_K.moved hW.alike hK, hNx.moved hW⟩⟩ rfl (by rw [List.length_map]; exact hn) hL.1 rfl (by show 2 * 0 + _ ≤ 8; omega) hd ⟨Nat.le_trans hmc.1 hR.2.1, Nat.le_trans hmc.2 hR.2.2.1⟩
  refine q_run hrun hS fun r w' H1 locs1 hq' hH1 hS1 => ?_
  have := k r w' hq' p l e R s m args below meth c D cA z H1 locs1 ls X hH1 hS1 hL
  rw [List.map_append] at this
  have e9 : r.toList.map (qv z) = (r.map (qv z)).toList := by cases r <;> rfl
  rw [e9] at this
  exact this
theorem a_callVN {g : qG} {pc idx : Nat} {L : qL} {w : qW} {kc ks : Nat} {M : qM} {d mc ms n : Nat} {Q : Option Value → qW → Prop} {host : String} {q : Nat} (As rest : List Value) (hd : decode g.1.2.1 pc = .ok (.invokevirtual idx, 3)) (hm : qMv M n) (hl : qLn g.1.1.cls idx M host) (hC : CT M d mc ms (.ref q :: As) w Q) {ci : Nat} (hq : qci w q = some ci) (hcl : (vwCl[ci]?).map (fun x => x.1) = some M.1.cls) (hn : As.length = n) (hst : rest.length ≤ 4) (hdp : d + 1 ≤ g.2.1) (hmc : kc + mc ≤ g.2.2.1 ∧ ks + ms ≤ g.2.2.2.1)
    (k : ∀ r w', Q r w' → AW g (pc + 3) L (r.toList ++ rest) w' (kc + mc) (ks + ms)) : AW g pc L (As.reverse ++ .ref q :: rest) w kc ks := by
  intro p l e R s m args below meth c D cA z H locs ls X hH hS hL
  have hts := X.2.2.2.2.1
  have hR := X.2.2.2.2.2.2.2.2.2.2.2.1
  have hK := X.2.2.2.2.2.1
  have hNx := X.2.2.2.2.2.2.1
  have hsum := q_sum z rest 4 hst
  obtain ⟨fs, hw⟩ := qci_s hq
  obtain ⟨r0, hr0, hr1⟩ : ∃ r0, vwCl[ci]? = some r0 ∧ r0.1 = M.1.cls := by
    cases hh : vwCl[ci]? with
    | none => rw [hh] at hcl; cases hcl
    | some r0 => rw [hh] at hcl; exact ⟨r0, rfl, Option.some.inj hcl⟩
  have hrec := va_recv hK (hH.obj hw) hr0 (q0 := 0) rfl
  rw [hr1] at hrec
  have hstk : (As.reverse ++ .ref q :: rest).map (qv z) = (As.map (qv z)).reverse ++ .ref (z.1 + q) :: rest.map (qv z) := by simp [List.map_reverse]; rfl
  rw [hstk]
  have hrun := va_runVN (e := e) (g := F0 m pc ls ((As.map (qv z)).reverse ++ .ref (z.1 + q) :: rest.map (qv z))) (cells := kc) (slots := ks) (locs := locs) (H := H) (below := below) (meth := meth) (As := As.map (qv z)) (rest := rest.map (qv z)) ⟨X.1, X.2.1, X.2.2.1, X.2.2.2.1, hts⟩ (hC l D cA z) ⟨va_cnB n hts (qg_ws hm.1) rfl rfl rfl (hNx.1 _ hl) (hts _ hm.1.2.1) hm.1.2.2.1 (qCV_room hm.1 hdp hR), hts _ hm.2.1, hts _ hm.2.2⟩ ⟨q_blind, hrec, fun U hU hW => ⟨rfl, by rw [hU]; exact hH, va_K.moved hW.alike hK, hNx.moved hW⟩⟩ rfl (by rw [List.length_map]; exact hn) hL.1 rfl (by show 2 * 0 + _ ≤ 8; omega) hd ⟨Nat.le_trans hmc.1 hR.2.1, Nat.le_trans hmc.2 hR.2.2.1⟩
  refine q_run hrun hS fun r w' H1 locs1 hq' hH1 hS1 => ?_
  have := k r w' hq' p l e R s m args below meth c D cA z H1 locs1 ls X hH1 hS1 hL
  rw [List.map_append] at this
  have e9 : r.toList.map (qv z) = (r.map (qv z)).toList := by cases r <;> rfl
  rw [e9] at this
  exact this
theorem a_callS {g : qG} {pc idx : Nat} {L : qL} {w : qW} {kc ks : Nat} {M : qM} {d mc ms n : Nat} {Q : Option Value → qW → Prop} (As rest : List Value) (hd : decode g.1.2.1 pc = .ok (.invokestatic idx, 3)) (hm : qMs M n) (hl : qLk g.1.1.cls idx M) (hC : CT M d mc ms (As) w Q) (hn : As.length = n) (hst : rest.length ≤ 4) (hdp : d + 1 ≤ g.2.1) (hmc : kc + mc ≤ g.2.2.1 ∧ ks + ms ≤ g.2.2.2.1)
    (k : ∀ r w', Q r w' → AW g (pc + 3) L (r.toList ++ rest) w' (kc + mc) (ks + ms)) : AW g pc L (As.reverse ++ rest) w kc ks := by
  intro p l e R s m args below meth c D cA z H locs ls X hH hS hL
  have hts := X.2.2.2.2.1
  have hR := X.2.2.2.2.2.2.2.2.2.2.2.1
  have hK := X.2.2.2.2.2.1
  have hNx := X.2.2.2.2.2.2.1
  have hsum := q_sum z rest 4 hst
  have hstk : (As.reverse ++ rest).map (qv z) = (As.map (qv z)).reverse ++ rest.map (qv z) := by simp [List.map_reverse]
  rw [hstk]
  have hrun := va_runS (e := e) (g := F0 m pc ls ((As.map (qv z)).reverse ++ rest.map (qv z))) (cells := kc) (slots := ks) (locs := locs) (H := H) (below := below) (meth := meth) (As := As.map (qv z)) (rest := rest.map (qv z)) ⟨X.1, X.2.1, X.2.2.1, X.2.2.2.1, hts⟩ (hC l D cA z) (va_cwS n hts (qg_wsS hm hl) rfl rfl rfl hm.1.2.2.1 (qCV_room hm.1 hdp hR)) ⟨q_blind, fun U hU hW => ⟨rfl, by rw [hU]; exact hH, va_K.moved hW.alike hK, hNx.moved hW⟩⟩ rfl (by rw [List.length_map]; exact hn) hL.1 rfl (by show 2 * 0 + _ ≤ 8; omega) hd ⟨Nat.le_trans hmc.1 hR.2.1, Nat.le_trans hmc.2 hR.2.2.1⟩
  refine q_run hrun hS fun r w' H1 locs1 hq' hH1 hS1 => ?_
  have := k r w' hq' p l e R s m args below meth c D cA z H1 locs1 ls X hH1 hS1 hL
  rw [List.map_append] at this
  have e9 : r.toList.map (qv z) = (r.map (qv z)).toList := by cases r <;> rfl
  rw [e9] at this
  exact this
theorem a_callSN {g : qG} {pc idx : Nat} {L : qL} {w : qW} {kc ks : Nat} {M : qM} {d mc ms n : Nat} {Q : Option Value → qW → Prop} {host : String} (As rest : List Value) (hd : decode g.1.2.1 pc = .ok (.invokestatic idx, 3)) (hm : qMs M n) (hl : qLn g.1.1.cls idx M host) (hC : CT M d mc ms (As) w Q) (hn : As.length = n) (hst : rest.length ≤ 4) (hdp : d + 1 ≤ g.2.1) (hmc : kc + mc ≤ g.2.2.1 ∧ ks + ms ≤ g.2.2.2.1)
    (k : ∀ r w', Q r w' → AW g (pc + 3) L (r.toList ++ rest) w' (kc + mc) (ks + ms)) : AW g pc L (As.reverse ++ rest) w kc ks := by
  intro p l e R s m args below meth c D cA z H locs ls X hH hS hL
  have hts := X.2.2.2.2.1
  have hR := X.2.2.2.2.2.2.2.2.2.2.2.1
  have hK := X.2.2.2.2.2.1
  have hNx := X.2.2.2.2.2.2.1
  have hsum := q_sum z rest 4 hst
  have hstk : (As.reverse ++ rest).map (qv z) = (As.map (qv z)).reverse ++ rest.map (qv z) := by simp [List.map_reverse]
  rw [hstk]
  have hrun := va_runSN (e := e) (g := F0 m pc ls ((As.map (qv z)).reverse ++ rest.map (qv z))) (cells := kc) (slots := ks) (locs := locs) (H := H) (below := below) (meth := meth) (As := As.map (qv z)) (rest := rest.map (qv z)) ⟨X.1, X.2.1, X.2.2.1, X.2.2.2.1, hts⟩ (hC l D cA z) ⟨va_cnB n hts (qg_ws hm.1) rfl rfl rfl (hNx.1 _ hl) (hts _ hm.1.2.1) hm.1.2.2.1 (qCV_room hm.1 hdp hR), hts _ hm.2, trivial⟩ ⟨q_blind, fun U hU hW => ⟨rfl, by rw [hU]; exact hH, va_K.moved hW.alike hK, hNx.moved hW⟩⟩ rfl (by rw [List.length_map]; exact hn) hL.1 rfl (by show 2 * 0 + _ ≤ 8; omega) hd ⟨Nat.le_trans hmc.1 hR.2.1, Nat.le_trans hmc.2 hR.2.2.1⟩
  refine q_run hrun hS fun r w' H1 locs1 hq' hH1 hS1 => ?_
  have := k r w' hq' p l e R s m args below meth c D cA z H1 locs1 ls X hH1 hS1 hL
  rw [List.map_append] at this
  have e9 : r.toList.map (qv z) = (r.map (qv z)).toList := by cases r <;> rfl
  rw [e9] at this
  exact this
theorem a_callI {g : qG} {pc idx : Nat} {L : qL} {w : qW} {kc ks : Nat} {M : qM} {d mc ms n : Nat} {Q : Option Value → qW → Prop} {q : Nat} (As rest : List Value) (hd : decode g.1.2.1 pc = .ok (.invokespecial idx, 3)) (hm : qMi M n) (hl : qLk g.1.1.cls idx M) (hC : CT M d mc ms (.ref q :: As) w Q) (hn : As.length = n) (hst : rest.length ≤ 4) (hdp : d + 1 ≤ g.2.1) (hmc : kc + mc ≤ g.2.2.1 ∧ ks + ms ≤ g.2.2.2.1)
    (k : ∀ r w', Q r w' → AW g (pc + 3) L (r.toList ++ rest) w' (kc + mc) (ks + ms)) : AW g pc L (As.reverse ++ .ref q :: rest) w kc ks := by
  intro p l e R s m args below meth c D cA z H locs ls X hH hS hL
  have hts := X.2.2.2.2.1
  have hR := X.2.2.2.2.2.2.2.2.2.2.2.1
  have hK := X.2.2.2.2.2.1
  have hNx := X.2.2.2.2.2.2.1
  have hsum := q_sum z rest 4 hst
  have hnone := hm.2.2.2
  have hstk : (As.reverse ++ .ref q :: rest).map (qv z) = (As.map (qv z)).reverse ++ .ref (z.1 + q) :: rest.map (qv z) := by simp [List.map_reverse]; rfl
  rw [hstk]
  have hrun := va_runI (e := e) (g := F0 m pc ls ((As.map (qv z)).reverse ++ .ref (z.1 + q) :: rest.map (qv z))) (cells := kc) (slots := ks) (locs := locs) (H := H) (below := below) (meth := meth) (As := As.map (qv z)) (rest := rest.map (qv z)) ⟨X.1, X.2.1, X.2.2.1, X.2.2.2.1, hts⟩ (hC l D cA z) (by rw [hnone]; exact cwI n hts (by have := qg_ws hm.1; rw [hnone] at this; exact this) rfl rfl rfl (hts _ hm.1.2.1) (hts _ hl) (hts _ hm.2.1) hm.2.2.1 hm.1.2.2.1 (qCV_room hm.1 hdp hR)) ⟨q_blind, fun U hU hW => ⟨rfl, by rw [hU]; exact hH, va_K.moved hW.alike hK, hNx.moved hW⟩⟩ rfl (by rw [List.length_map]; exact hn) hL.1 rfl (by show 2 * 0 + _ ≤ 8; omega) hd ⟨Nat.le_trans hmc.1 hR.2.1, Nat.le_trans hmc.2 hR.2.2.1⟩
  refine q_run hrun hS fun r w' H1 locs1 hq' hH1 hS1 => ?_
  have := k r w' hq' p l e R s m args below meth c D cA z H1 locs1 ls X hH1 hS1 hL
  rw [List.map_append] at this
  have e9 : r.toList.map (qv z) = (r.map (qv z)).toList := by cases r <;> rfl
  rw [e9] at this
  exact this
theorem a_callIN {g : qG} {pc idx : Nat} {L : qL} {w : qW} {kc ks : Nat} {M : qM} {d mc ms n : Nat} {Q : Option Value → qW → Prop} {host : String} {q : Nat} (As rest : List Value) (hd : decode g.1.2.1 pc = .ok (.invokespecial idx, 3)) (hm : qMi M n) (hl : qLn g.1.1.cls idx M host) (hC : CT M d mc ms (.ref q :: As) w Q) (hn : As.length = n) (hst : rest.length ≤ 4) (hdp : d + 1 ≤ g.2.1) (hmc : kc + mc ≤ g.2.2.1 ∧ ks + ms ≤ g.2.2.2.1)
    (k : ∀ r w', Q r w' → AW g (pc + 3) L (r.toList ++ rest) w' (kc + mc) (ks + ms)) : AW g pc L (As.reverse ++ .ref q :: rest) w kc ks := by
  intro p l e R s m args below meth c D cA z H locs ls X hH hS hL
  have hts := X.2.2.2.2.1
  have hR := X.2.2.2.2.2.2.2.2.2.2.2.1
  have hK := X.2.2.2.2.2.1
  have hNx := X.2.2.2.2.2.2.1
  have hsum := q_sum z rest 4 hst
  have hnone := hm.2.2.2
  have hstk : (As.reverse ++ .ref q :: rest).map (qv z) = (As.map (qv z)).reverse ++ .ref (z.1 + q) :: rest.map (qv z) := by simp [List.map_reverse]; rfl
  rw [hstk]
  have hrun := va_runIN (e := e) (g := F0 m pc ls ((As.map (qv z)).reverse ++ .ref (z.1 + q) :: rest.map (qv z))) (cells := kc) (slots := ks) (locs := locs) (H := H) (below := below) (meth := meth) (As := As.map (qv z)) (rest := rest.map (qv z)) ⟨X.1, X.2.1, X.2.2.1, X.2.2.2.1, hts⟩ (hC l D cA z) (by rw [hnone]; exact ⟨va_cnB n hts (by have := qg_ws hm.1; rw [hnone] at this; exact this) rfl rfl rfl (hNx.1 _ hl) (hts _ hm.1.2.1) hm.1.2.2.1 (qCV_room hm.1 hdp hR), hm.2.2.1, hts _ hm.2.1⟩) ⟨q_blind, fun U hU hW => ⟨rfl, by rw [hU]; exact hH, va_K.moved hW.alike hK, hNx.moved hW⟩⟩ rfl (by rw [List.length_map]; exact hn) hL.1 rfl (by show 2 * 0 + _ ≤ 8; omega) hd ⟨Nat.le_trans hmc.1 hR.2.1, Nat.le_trans hmc.2 hR.2.2.1⟩
  refine q_run hrun hS fun r w' H1 locs1 hq' hH1 hS1 => ?_
  have := k r w' hq' p l e R s m args below meth c D cA z H1 locs1 ls X hH1 hS1 hL
  rw [List.map_append] at this
  have e9 : r.toList.map (qv z) = (r.map (qv z)).toList := by cases r <;> rfl
  rw [e9] at this
  exact this
end
section
theorem a_tsIn {g : qG} {pc : Nat} {L : qL} {st : List Value} {w : qW} {kc ks : Nat} {dflt lo hi : Int} {offs : Array Int} {len : Nat} {x : Int32} {off : Int} {tgt : Nat} (hd : decode g.1.2.1 pc = .ok (.tableswitch dflt lo hi offs, len)) (h1 : ¬ x.toInt < lo) (h2 : ¬ hi < x.toInt) (ho : offs[(x.toInt - lo).toNat]? = some off) (ht : (pc : Int) + off = (tgt : Int)) (k : AW g tgt L st w kc ks) : AW g pc L (.int x :: st) w kc ks := by
  intro p l e R s m args below meth c D cA z H locs ls X hH hS hL
  exact lv_tableIn X.1 X.2.1 hd h1 h2 ho ht (k p l e R s m args below meth c D cA z H locs ls X hH hS hL)
theorem a_tsOut {g : qG} {pc : Nat} {L : qL} {st : List Value} {w : qW} {kc ks : Nat} {dflt lo hi : Int} {offs : Array Int} {len : Nat} {x : Int32} {tgt : Nat} (hd : decode g.1.2.1 pc = .ok (.tableswitch dflt lo hi offs, len)) (h : x.toInt < lo ∨ hi < x.toInt) (ht : (pc : Int) + dflt = (tgt : Int)) (k : AW g tgt L st w kc ks) : AW g pc L (.int x :: st) w kc ks := by
  intro p l e R s m args below meth c D cA z H locs ls X hH hS hL
  exact lv_tableOut X.1 X.2.1 hd h ht (k p l e R s m args below meth c D cA z H locs ls X hH hS hL)
theorem a_mmax {g : qG} {pc idx : Nat} {L : qL} {st : List Value} {w : qW} {kc ks : Nat} {x y : Int32} (hd : decode g.1.2.1 pc = .ok (.invokestatic idx, 3)) (h1 : Cond.methodLink g.1.1.cls idx Lib.Math.max.name ∈ qg) (h2 : Cond.static Lib.Math.max.name ∈ qg) (h3 : Cond.initialized "java/lang/Math" ∈ qg) (h4 : Cond.code Lib.Math.max.name Lib.Math.max.code 2 (some .int) ∈ qg) (hst : st.length ≤ 4) (hdp : 1 ≤ g.2.1) (hc : kc ≤ g.2.2.1) (hs : ks ≤ g.2.2.2.1)
    (k : AW g (pc + 3) L (.int (if x < y then y else x) :: st) w kc ks) : AW g pc L (.int y :: .int x :: st) w kc ks := by
  intro p l e R s m args below meth c D cA z H locs ls X hH hS hL
  have hts := X.2.2.2.2.1
  have hR := X.2.2.2.2.2.2.2.2.2.2.2.1
  have hsum := q_sum z st 4 hst
  exact va_mmax X.1 X.2.1 (X.2.2.1.trans hL.1.symm) X.2.2.2.1 (hts _ h1) (hts _ h2) (hts _ h3) (hts _ h4) (by omega) (by omega) (by omega) (by omega) hd (k p l e R s m args below meth c D cA z H locs ls X hH hS hL)
theorem a_mmin {g : qG} {pc idx : Nat} {L : qL} {st : List Value} {w : qW} {kc ks : Nat} {x y : Int32} (hd : decode g.1.2.1 pc = .ok (.invokestatic idx, 3)) (h1 : Cond.methodLink g.1.1.cls idx Lib.Math.min.name ∈ qg) (h2 : Cond.static Lib.Math.min.name ∈ qg) (h3 : Cond.initialized "java/lang/Math" ∈ qg) (h4 : Cond.code Lib.Math.min.name Lib.Math.min.code 2 (some .int) ∈ qg) (hst : st.length ≤ 4) (hdp : 1 ≤ g.2.1) (hc : kc ≤ g.2.2.1) (hs : ks ≤ g.2.2.2.1)
    (k : AW g (pc + 3) L (.int (if y < x then y else x) :: st) w kc ks) : AW g pc L (.int y :: .int x :: st) w kc ks := by
  intro p l e R s m args below meth c D cA z H locs ls X hH hS hL
  have hts := X.2.2.2.2.1
  have hR := X.2.2.2.2.2.2.2.2.2.2.2.1
  have hsum := q_sum z st 4 hst
  exact va_mmin X.1 X.2.1 (X.2.2.1.trans hL.1.symm) X.2.2.2.1 (hts _ h1) (hts _ h2) (hts _ h3) (hts _ h4) (by omega) (by omega) (by omega) (by omega) hd (k p l e R s m args below meth c D cA z H locs ls X hH hS hL)
theorem q_nn (z : Int32) (hz : ¬ z < 0) : z.toInt = (z.toNatClampNeg : Int) := by
  have hz0 : (0 : Int) ≤ z.toInt := by
    have := Int32.not_lt.mp hz
    simpa using Int32.le_iff_toInt_le.mp this
  show z.toInt = ((z.toInt.toNat : Nat) : Int)
  omega
theorem a_copy {g : qG} {pc idx : Nat} {L : qL} {st : List Value} {w : qW} {kc ks : Nat} {p0 p1 n0 n1 : Nat} {f0 f1 : Nat → Int32} {sp dp n : Int32} (hd : decode g.1.2.1 pc = .ok (.invokestatic idx, 3)) (k1 : Cond.methodLink g.1.1.cls idx arraycopyName ∈ qg) (k2 : Cond.native arraycopyName ∈ qg) (k3 : Cond.static arraycopyName ∈ qg) (k4 : Cond.initialized "java/lang/System" ∈ qg)
    (ha0 : qgI w p0 0 = some (n0, f0)) (ha1 : qgI w p1 0 = some (n1, f1)) (h1 : ¬ sp < 0) (h2 : ¬ dp < 0) (h3 : ¬ n < 0) (h4 : sp.toNatClampNeg + n.toNatClampNeg ≤ n0) (h5 : dp.toNatClampNeg + n.toNatClampNeg ≤ n1) (hst : st.length ≤ 4) (hdp : 1 ≤ g.2.1)
    (k : AW g (pc + 3) L st (qsI w p1 (va_cpy f0 f1 sp.toNatClampNeg dp.toNatClampNeg n.toNatClampNeg)) kc ks) : AW g pc L (.int n :: .int dp :: .ref p1 :: .int sp :: .ref p0 :: st) w kc ks := by
  intro p l e R s m args below meth c D cA z H locs ls X0 hH hS hL T hT X
  have hts := X0.2.2.2.2.1
  have hR := X0.2.2.2.2.2.2.2.2.2.2.2.1
  have hsum := q_sum z st 4 hst
  have hnf : nativeFrameWords "java/lang/System" "arraycopy" 5 ≤ 20 := by decide
  have hw0 := qgI_s ha0
  have hw1 := qgI_s ha1
  have hc0 : H[z.1 + p0]? = some (vp_cell (cA 0) (n0, .inl f0)) := hH.2 p0 _ hw0
  have hc1 : H[z.1 + p1]? = some (vp_cell (cA 0) (n1, .inl f1)) := hH.2 p1 _ hw1
  obtain ⟨-, kk0, hk0, cm0, hkk0⟩ := (X0.2.2.2.2.2.1.2 0 _ rfl).1 n0 (fun j => .int (f0 j))
  obtain ⟨-, kk1, hk1, cm1, hkk1⟩ := (X0.2.2.2.2.2.1.2 0 _ rfl).1 n1 (fun j => .int (f1 j))
  obtain ⟨vm', X', step⟩ := X.arraycopy X0.1 X0.2.2.2.1 (hts _ k1) (hts _ k2) (hts _ k3) (hts _ k4) (src := z.1 + p0) (dst := z.1 + p1) (cs := vp_cell (cA 0) (n0, .inl f0)) (cd := vp_cell (cA 0) (n1, .inl f1)) (srcPos := sp) (destPos := dp) (n := n) (by rw [hT]; exact hc0) (by rw [hT]; exact hc1)
    (fun _ h => by cases h) (fun _ h => by cases h) (fun h => by cases h) (fun h => by cases h) hk0 hk1 hkk0 hkk1 (by simp [refKind]) h1 h2 h3
    (by rw [q_nn sp h1, q_nn n h3]; show ¬ _ > ((arrV (cA 0) n0 (fun j => .int (f0 j))).slots.size : Int); rw [arrV_size]; omega)
    (by rw [q_nn dp h2, q_nn n h3]; show ¬ _ > ((arrV (cA 0) n1 (fun j => .int (f1 j))).slots.size : Int); rw [arrV_size]; omega)
    (fun vm₁ _ i hi => by
      have e : (vp_cell (cA 0) (n0, .inl f0)).slots.getD (sp.toNatClampNeg + i) .null = .int (f0 (sp.toNatClampNeg + i)) := by
        show (arrV (cA 0) n0 (fun j => .int (f0 j))).slots.getD _ _ = _
        rw [Array.getD_eq_getD_getElem?, arrV_read _ _ (by omega)]
        rfl
      refine ⟨?_, ?_⟩
      · rw [e]
        rfl
      · rw [e]
        exact trivial)
    (g := F0 m pc ls (.int n :: .int dp :: .ref (z.1 + p1) :: .int sp :: .ref (z.1 + p0) :: st.map (qv z))) rfl (hL.1.trans X0.2.2.1.symm) (rest := st.map (qv z)) rfl (by rw [X0.2.1]; exact hd) (by omega) (by show 2 * 0 + _ + (nativeFrameWords "java/lang/System" "arraycopy" 5 + 11) ≤ _; omega)
  have e1 : copied (vp_cell (cA 0) (n0, .inl f0)) (vp_cell (cA 0) (n1, .inl f1)) sp dp n = vp_cell (cA 0) (n1, .inl (va_cpy f0 f1 sp.toNatClampNeg dp.toNatClampNeg n.toNatClampNeg)) := va_copied (fun z => .int z) (cA 0) (cA 0) f0 f1 h4
  rw [e1] at X' step
  have hl : z.1 + p1 < H.size := (Array.getElem?_eq_some_iff.mp hc1).1
  have hheap : ((T.setVm vm').setCell (z.1 + p1) (vp_cell (cA 0) (n1, .inl (va_cpy f0 f1 sp.toNatClampNeg dp.toNatClampNeg n.toNatClampNeg)))).heap = H.setIfInBounds (z.1 + p1) (vp_cell (cA 0) (n1, .inl (va_cpy f0 f1 sp.toNatClampNeg dp.toNatClampNeg n.toNatClampNeg))) := by rw [← hT]; rfl
  have oq : ∀ q : Nat, q ≠ z.1 + p1 → (H.setIfInBounds (z.1 + p1) (vp_cell (cA 0) (n1, .inl (va_cpy f0 f1 sp.toNatClampNeg dp.toNatClampNeg n.toNatClampNeg))))[q]? = H[q]? := fun q hq => by simp [Array.getElem?_setIfInBounds, Ne.symm hq]
  obtain ⟨t, a1, b1⟩ := k p l e R s m args below meth c D cA z _ _ ls X0 (hH.up rfl (qsI_at hw1) (fun q hq => qsI_ne hq) (by simp) (show (H.setIfInBounds (z.1 + p1) _)[z.1 + p1]? = some _ by simp [Array.getElem?_setIfInBounds, hl]) oq) ⟨by simp; exact hS.1, fun q g1 g2 => by
      rw [oq q (fun e => g2 (by rw [e]; exact qA_in p1))]
      exact hS.2.1 q g1 g2, fun q hq => by
      rcases List.mem_append.mp hq with h | h
      · exact hS.2.2 q h
      · obtain ⟨x, -, hx⟩ := List.mem_map.mp h
        rw [← hx]
        exact qA_in p1⟩ hL _ hheap X'
  exact ⟨t, step t a1, b1⟩
end
section
theorem jnX0 : ∀ w ∈ u_ws RX0 TX0 2, w ∈ qg := fun w h => qg_mem (inX0 w h) (List.all_eq_true.mp (by decide +kernel : (u_ws RX0 TX0 2).all goodWord = true) w h)
theorem jnX1 : ∀ w ∈ u_ws RX1 TX1 3, w ∈ qg := fun w h => qg_mem (inX1 w h) (List.all_eq_true.mp (by decide +kernel : (u_ws RX1 TX1 3).all goodWord = true) w h)
theorem jnX2 : ∀ w ∈ u_ws RX2 TX2 4, w ∈ qg := fun w h => qg_mem (inX2 w h) (List.all_eq_true.mp (by decide +kernel : (u_ws RX2 TX2 4).all goodWord = true) w h)
theorem jnX3 : ∀ w ∈ u_ws RX3 TX3 4, w ∈ qg := fun w h => qg_mem (inX3 w h) (List.all_eq_true.mp (by decide +kernel : (u_ws RX3 TX3 4).all goodWord = true) w h)
theorem jnX4 : ∀ w ∈ u_ws RX4 TX4 2, w ∈ qg := fun w h => qg_mem (inX4 w h) (List.all_eq_true.mp (by decide +kernel : (u_ws RX4 TX4 2).all goodWord = true) w h)
theorem jnX5 : ∀ w ∈ u_ws RX5 TX5 4, w ∈ qg := fun w h => qg_mem (inX5 w h) (List.all_eq_true.mp (by decide +kernel : (u_ws RX5 TX5 4).all goodWord = true) w h)
theorem jnX6 : ∀ w ∈ u_ws RX6 TX6 3, w ∈ qg := fun w h => qg_mem (inX6 w h) (List.all_eq_true.mp (by decide +kernel : (u_ws RX6 TX6 3).all goodWord = true) w h)
theorem jnX7 : ∀ w ∈ u_ws RX7 TX7 8, w ∈ qg := fun w h => qg_mem (inX7 w h) (List.all_eq_true.mp (by decide +kernel : (u_ws RX7 TX7 8).all goodWord = true) w h)
theorem jnX8 : ∀ w ∈ u_ws RX8 TX8 4, w ∈ qg := fun w h => qg_mem (inX8 w h) (List.all_eq_true.mp (by decide +kernel : (u_ws RX8 TX8 4).all goodWord = true) w h)
theorem jnX9 : ∀ w ∈ u_ws RX9 TX9 8, w ∈ qg := fun w h => qg_mem (inX9 w h) (List.all_eq_true.mp (by decide +kernel : (u_ws RX9 TX9 8).all goodWord = true) w h)
theorem jnX10 : ∀ w ∈ u_ws RX10 TX10 11, w ∈ qg := fun w h => qg_mem (inX10 w h) (List.all_eq_true.mp (by decide +kernel : (u_ws RX10 TX10 11).all goodWord = true) w h)
theorem jnX11 : ∀ w ∈ u_ws RX11 TX11 39, w ∈ qg := fun w h => qg_mem (inX11 w h) (List.all_eq_true.mp (by decide +kernel : (u_ws RX11 TX11 39).all goodWord = true) w h)
abbrev mX0_init : qM := (yX0_init, cX0_init, 1, none)
abbrev mX0_empty : qM := (yX0_empty, cX0_empty, 1, none)
abbrev mX0_add : qM := (yX0_add, cX0_add, 2, none)
abbrev mX0_addAll : qM := (yX0_addAll, cX0_addAll, 2, none)
abbrev mX0_has : qM := (yX0_has, cX0_has, 2, (some .boolean))
abbrev mX0_meets : qM := (yX0_meets, cX0_meets, 2, (some .boolean))
abbrev mJ13_bitCount_95d88 : qM := (yJ13_bitCount_95d88, cJ13_bitCount_95d88, 2, (some .int))
abbrev mX0_size : qM := (yX0_size, cX0_size, 1, (some .int))
abbrev mX1_init : qM := (yX1_init, cX1_init, 1, none)
abbrev mX1_forget : qM := (yX1_forget, cX1_forget, 1, none)
abbrev mX6_begin : qM := (yX6_begin, cX6_begin, 2, none)
abbrev mX6_triesBelow : qM := (yX6_triesBelow, cX6_triesBelow, 1, (some .int))
abbrev mX6_triesOfTest : qM := (yX6_triesOfTest, cX6_triesOfTest, 8, (some .int))
abbrev mX6_holdingTries : qM := (yX6_holdingTries, cX6_holdingTries, 6, (some .int))
abbrev mJ6_numberOfTrailingZeros_0f7a4 : qM := (yJ6_numberOfTrailingZeros_0f7a4, cJ6_numberOfTrailingZeros_0f7a4, 2, (some .int))
abbrev mX1_weigh : qM := (yX1_weigh, cX1_weigh, 8, none)
abbrev mX1_judge : qM := (yX1_judge, cX1_judge, 4, none)
abbrev mX1_fewestHands : qM := (yX1_fewestHands, cX1_fewestHands, 2, (some .int))
abbrev mX1_fewestMakers : qM := (yX1_fewestMakers, cX1_fewestMakers, 2, (some .int))
abbrev mJ7_fill_53178 : qM := (yJ7_fill_53178, cJ7_fill_53178, 4, none)
abbrev mX2_init : qM := (yX2_init, cX2_init, 1, none)
abbrev mX2_isKey : qM := (yX2_isKey, cX2_isKey, 1, (some .boolean))
abbrev mX2_isLive : qM := (yX2_isLive, cX2_isLive, 2, (some .boolean))
abbrev mX2_canSeal : qM := (yX2_canSeal, cX2_canSeal, 2, (some .boolean))
abbrev mX2_useOnce : qM := (yX2_useOnce, cX2_useOnce, 2, none)
abbrev mX2_addUses : qM := (yX2_addUses, cX2_addUses, 3, (some .int))
abbrev mX2_endOne : qM := (yX2_endOne, cX2_endOne, 2, (some .boolean))
abbrev mX2_loseOne : qM := (yX2_loseOne, cX2_loseOne, 3, (some .boolean))
abbrev mX2_lostSince : qM := (yX2_lostSince, cX2_lostSince, 2, (some .int))
abbrev mX10_bit : qM := (yX10_bit, cX10_bit, 1, (some .int))
abbrev mX2_tell : qM := (yX2_tell, cX2_tell, 3, (some .int))
abbrev mX3_init : qM := (yX3_init, cX3_init, 1, none)
abbrev mX8_size : qM := (yX8_size, cX8_size, 1, (some .int))
abbrev mX8_isCell : qM := (yX8_isCell, cX8_isCell, 3, (some .boolean))
abbrev mX8_cell : qM := (yX8_cell, cX8_cell, 3, (some .int))
abbrev mX7_has : qM := (yX7_has, cX7_has, 2, (some .boolean))
abbrev mX7_isCleanInput : qM := (yX7_isCleanInput, cX7_isCleanInput, 2, (some .boolean))
abbrev mX7_isGround : qM := (yX7_isGround, cX7_isGround, 4, (some .boolean))
abbrev mX3_findGrounds : qM := (yX3_findGrounds, cX3_findGrounds, 5, none)
abbrev mX3_want : qM := (yX3_want, cX3_want, 2, none)
abbrev mX3_gather : qM := (yX3_gather, cX3_gather, 5, none)
abbrev mX3_isPart : qM := (yX3_isPart, cX3_isPart, 4, (some .boolean))
abbrev mX3_noteAt : qM := (yX3_noteAt, cX3_noteAt, 7, (some .int))
abbrev mX4_init : qM := (yX4_init, cX4_init, 1, none)
abbrev mX4_size : qM := (yX4_size, cX4_size, 1, (some .int))
abbrev mX4_first : qM := (yX4_first, cX4_first, 1, (some .int))
abbrev mX4_placeOf : qM := (yX4_placeOf, cX4_placeOf, 3, (some .int))
abbrev mX4_add : qM := (yX4_add, cX4_add, 2, (some .int))
abbrev mX4_removeFirst : qM := (yX4_removeFirst, cX4_removeFirst, 2, (some .int))
abbrev mX5_init : qM := (yX5_init, cX5_init, 1, none)
abbrev mX5_marked : qM := (yX5_marked, cX5_marked, 1, (some (.object "SealLine$FileSet")))
abbrev mX5_addFile : qM := (yX5_addFile, cX5_addFile, 2, (some .boolean))
abbrev mX10_isTool : qM := (yX10_isTool, cX10_isTool, 1, (some .boolean))
abbrev mX10_isHand : qM := (yX10_isHand, cX10_isHand, 1, (some .boolean))
abbrev mX5_sinceOf : qM := (yX5_sinceOf, cX5_sinceOf, 2, (some .int))
abbrev mX5_look : qM := (yX5_look, cX5_look, 4, none)
abbrev mX5_addSince : qM := (yX5_addSince, cX5_addSince, 8, (some .boolean))
abbrev mX6_init : qM := (yX6_init, cX6_init, 2, none)
abbrev mX6_test : qM := (yX6_test, cX6_test, 3, (some .int))
abbrev mX7_init : qM := (yX7_init, cX7_init, 2, none)
abbrev mX7_size : qM := (yX7_size, cX7_size, 1, (some .int))
abbrev mX7_hashOf : qM := (yX7_hashOf, cX7_hashOf, 2, (some .long))
abbrev mX7_numberOf : qM := (yX7_numberOf, cX7_numberOf, 4, (some .int))
abbrev mX7_numberOrNew : qM := (yX7_numberOrNew, cX7_numberOrNew, 5, (some .int))
abbrev mX7_setHand : qM := (yX7_setHand, cX7_setHand, 5, none)
abbrev mX7_addMaker : qM := (yX7_addMaker, cX7_addMaker, 3, none)
abbrev mX7_addBuilder : qM := (yX7_addBuilder, cX7_addBuilder, 3, none)
abbrev mX7_setTry : qM := (yX7_setTry, cX7_setTry, 4, none)
abbrev mX7_setReview : qM := (yX7_setReview, cX7_setReview, 4, none)
abbrev mX7_addInput : qM := (yX7_addInput, cX7_addInput, 4, none)
abbrev mX7_rowHas : qM := (yX7_rowHas, cX7_rowHas, 3, (some .boolean))
abbrev mX7_rowMeets : qM := (yX7_rowMeets, cX7_rowMeets, 3, (some .boolean))
abbrev mX7_rowSize : qM := (yX7_rowSize, cX7_rowSize, 2, (some .int))
abbrev mX7_makersOf : qM := (yX7_makersOf, cX7_makersOf, 4, (some .int))
abbrev mJ6_bitCount_0f7a4 : qM := (yJ6_bitCount_0f7a4, cJ6_bitCount_0f7a4, 1, (some .int))
abbrev mX7_goodTries : qM := (yX7_goodTries, cX7_goodTries, 2, (some .int))
abbrev mX7_goodReviews : qM := (yX7_goodReviews, cX7_goodReviews, 2, (some .int))
abbrev mX7_goodBuilders : qM := (yX7_goodBuilders, cX7_goodBuilders, 2, (some .int))
abbrev mX7_isClean : qM := (yX7_isClean, cX7_isClean, 2, (some .boolean))
abbrev mX7_addClean : qM := (yX7_addClean, cX7_addClean, 4, (some .boolean))
abbrev mX7_cleanBy : qM := (yX7_cleanBy, cX7_cleanBy, 6, none)
abbrev mX8_init : qM := (yX8_init, cX8_init, 3, none)
abbrev mX8_isFull : qM := (yX8_isFull, cX8_isFull, 1, (some .boolean))
abbrev mX8_addRow : qM := (yX8_addRow, cX8_addRow, 1, (some .int))
abbrev mX8_set : qM := (yX8_set, cX8_set, 4, none)
abbrev mX9_init : qM := (yX9_init, cX9_init, 1, none)
abbrev mX9_size : qM := (yX9_size, cX9_size, 1, (some .int))
abbrev mX9_add : qM := (yX9_add, cX9_add, 5, (some .int))
abbrev mX9_cut : qM := (yX9_cut, cX9_cut, 2, (some .boolean))
abbrev mX9_isDigit : qM := (yX9_isDigit, cX9_isDigit, 1, (some .boolean))
abbrev mX9_lengthenNumber : qM := (yX9_lengthenNumber, cX9_lengthenNumber, 3, none)
abbrev mX9_addStep : qM := (yX9_addStep, cX9_addStep, 2, none)
abbrev mX9_takeUnit : qM := (yX9_takeUnit, cX9_takeUnit, 2, (some .boolean))
abbrev mX9_takeSign : qM := (yX9_takeSign, cX9_takeSign, 2, (some .boolean))
abbrev mX9_takeDigit : qM := (yX9_takeDigit, cX9_takeDigit, 2, (some .boolean))
abbrev mX9_takeJoin : qM := (yX9_takeJoin, cX9_takeJoin, 2, (some .boolean))
abbrev mX9_take : qM := (yX9_take, cX9_take, 2, (some .boolean))
abbrev mX9_firstFault : qM := (yX9_firstFault, cX9_firstFault, 2, (some .int))
abbrev mJ7_copyOf_59c91 : qM := (yJ7_copyOf_59c91, cJ7_copyOf_59c91, 3, (some (.array .int)))
abbrev mX9_readSteps : qM := (yX9_readSteps, cX9_readSteps, 1, (some (.array .int)))
abbrev mX10_init : qM := (yX10_init, cX10_init, 1, none)
abbrev mX10_addNote : qM := (yX10_addNote, cX10_addNote, 5, (some .int))
abbrev mX10_settle : qM := (yX10_settle, cX10_settle, 2, none)
abbrev mX10_source : qM := (yX10_source, cX10_source, 6, (some .int))
abbrev mX10_areInputs : qM := (yX10_areInputs, cX10_areInputs, 4, (some .boolean))
abbrev mX10_isInRowOfOne : qM := (yX10_isInRowOfOne, cX10_isInRowOfOne, 5, (some .boolean))
abbrev mX10_stirred : qM := (yX10_stirred, cX10_stirred, 4, (some .long))
abbrev mX10_mixed : qM := (yX10_mixed, cX10_mixed, 7, (some .long))
abbrev mX10_build : qM := (yX10_build, cX10_build, 12, (some .int))
abbrev mX10_mix : qM := (yX10_mix, cX10_mix, 5, (some .long))
abbrev mX10_addSaying : qM := (yX10_addSaying, cX10_addSaying, 6, (some .int))
abbrev mX10_tries : qM := (yX10_tries, cX10_tries, 5, (some .int))
abbrev mX10_review : qM := (yX10_review, cX10_review, 5, (some .int))
abbrev mX10_feed : qM := (yX10_feed, cX10_feed, 2, (some .int))
abbrev mX10_end : qM := (yX10_end, cX10_end, 2, (some .boolean))
abbrev mX10_fault : qM := (yX10_fault, cX10_fault, 1, (some .int))
abbrev mX10_rule : qM := (yX10_rule, cX10_rule, 1, (some .int))
abbrev mX10_ask : qM := (yX10_ask, cX10_ask, 2, (some .int))
abbrev mX10_skip : qM := (yX10_skip, cX10_skip, 1, (some .int))
abbrev mX10_ruleHolds : qM := (yX10_ruleHolds, cX10_ruleHolds, 3, (some .boolean))
abbrev mX10_isCalledBack : qM := (yX10_isCalledBack, cX10_isCalledBack, 2, (some .boolean))
abbrev mX10_refusal : qM := (yX10_refusal, cX10_refusal, 5, (some .int))
abbrev mX10_seal : qM := (yX10_seal, cX10_seal, 7, (some .int))
abbrev mX10_why : qM := (yX10_why, cX10_why, 4, (some .int))
abbrev mX10_uses : qM := (yX10_uses, cX10_uses, 3, (some .int))
abbrev mX10_finish : qM := (yX10_finish, cX10_finish, 2, (some .boolean))
abbrev mX10_lose : qM := (yX10_lose, cX10_lose, 5, (some .int))
abbrev mX10_manyCalledBack : qM := (yX10_manyCalledBack, cX10_manyCalledBack, 3, (some .int))
abbrev mX10_recall : qM := (yX10_recall, cX10_recall, 5, (some .int))
abbrev mX10_stands : qM := (yX10_stands, cX10_stands, 4, (some .boolean))
abbrev mX10_manyStanding : qM := (yX10_manyStanding, cX10_manyStanding, 4, (some .int))
abbrev mX10_file : qM := (yX10_file, cX10_file, 3, (some .int))
abbrev mX10_hash : qM := (yX10_hash, cX10_hash, 2, (some .long))
abbrev mX10_find : qM := (yX10_find, cX10_find, 3, (some .int))
abbrev mX10_sealed : qM := (yX10_sealed, cX10_sealed, 3, (some .int))
abbrev mX10_note : qM := (yX10_note, cX10_note, 3, (some .int))
abbrev mX10_least : qM := (yX10_least, cX10_least, 1, (some .int))
abbrev mX10_makers : qM := (yX10_makers, cX10_makers, 1, (some .int))
abbrev mX10_proof : qM := (yX10_proof, cX10_proof, 3, (some .int))
abbrev mX10_called : qM := (yX10_called, cX10_called, 4, (some .int))
abbrev mX10_count : qM := (yX10_count, cX10_count, 2, (some .int))
abbrev mX10_key : qM := (yX10_key, cX10_key, 3, (some .int))
abbrev mX11_init : qM := (yX11_init, cX11_init, 2, none)
abbrev mX11_in : qM := (yX11_in, cX11_in, 3, (some .boolean))
abbrev mX11_isFile : qM := (yX11_isFile, cX11_isFile, 2, (some .boolean))
abbrev mX11_isHand : qM := (yX11_isHand, cX11_isHand, 1, (some .boolean))
abbrev mX11_isKey : qM := (yX11_isKey, cX11_isKey, 1, (some .boolean))
abbrev mX11_find : qM := (yX11_find, cX11_find, 4, (some .int))
abbrev mX11_addNote : qM := (yX11_addNote, cX11_addNote, 5, (some .int))
abbrev mX11_fileFor : qM := (yX11_fileFor, cX11_fileFor, 4, (some .int))
abbrev mX11_source : qM := (yX11_source, cX11_source, 5, (some .int))
abbrev mX11_went : qM := (yX11_went, cX11_went, 3, (some .int))
abbrev mX11_addRow : qM := (yX11_addRow, cX11_addRow, 7, none)
abbrev mX11_rowOf : qM := (yX11_rowOf, cX11_rowOf, 3, none)
abbrev mX11_areFiles : qM := (yX11_areFiles, cX11_areFiles, 4, (some .boolean))
abbrev mX11_mixOf : qM := (yX11_mixOf, cX11_mixOf, 9, (some .long))
abbrev mX11_mix : qM := (yX11_mix, cX11_mix, 5, (some .long))
abbrev mX11_build : qM := (yX11_build, cX11_build, 12, (some .int))
abbrev mX11_says : qM := (yX11_says, cX11_says, 6, (some .int))
abbrev mX11_tries : qM := (yX11_tries, cX11_tries, 4, (some .int))
abbrev mX11_review : qM := (yX11_review, cX11_review, 4, (some .int))
abbrev mX11_allClean : qM := (yX11_allClean, cX11_allClean, 4, (some .boolean))
abbrev mX11_findClean : qM := (yX11_findClean, cX11_findClean, 4, none)
abbrev mX11_isClean : qM := (yX11_isClean, cX11_isClean, 2, (some .boolean))
abbrev mX11_makersOf : qM := (yX11_makersOf, cX11_makersOf, 4, (some .int))
abbrev mX11_isCalledNote : qM := (yX11_isCalledNote, cX11_isCalledNote, 4, (some .boolean))
abbrev mX11_isCalled : qM := (yX11_isCalled, cX11_isCalled, 3, (some .boolean))
abbrev mX11_handsWith : qM := (yX11_handsWith, cX11_handsWith, 8, (some .int))
abbrev mX11_builders : qM := (yX11_builders, cX11_builders, 4, (some .int))
abbrev mX11_feed : qM := (yX11_feed, cX11_feed, 5, (some .int))
abbrev mX11_end : qM := (yX11_end, cX11_end, 2, (some .boolean))
abbrev mX11_look : qM := (yX11_look, cX11_look, 1, (some .int))
abbrev mX11_fail : qM := (yX11_fail, cX11_fail, 1, none)
abbrev mX11_say : qM := (yX11_say, cX11_say, 2, none)
abbrev mX11_tests : qM := (yX11_tests, cX11_tests, 1, none)
abbrev mX11_unit : qM := (yX11_unit, cX11_unit, 6, none)
abbrev mX11_part : qM := (yX11_part, cX11_part, 1, none)
abbrev mX11_fault : qM := (yX11_fault, cX11_fault, 1, (some .int))
abbrev mX11_rule : qM := (yX11_rule, cX11_rule, 2, (some .int))
abbrev mX11_holds : qM := (yX11_holds, cX11_holds, 8, (some .boolean))
abbrev mX11_placeOf : qM := (yX11_placeOf, cX11_placeOf, 3, (some .int))
abbrev mX11_ask : qM := (yX11_ask, cX11_ask, 2, (some .int))
abbrev mX11_skip : qM := (yX11_skip, cX11_skip, 3, (some .int))
abbrev mX11_why : qM := (yX11_why, cX11_why, 6, (some .int))
abbrev mX11_seal : qM := (yX11_seal, cX11_seal, 6, (some .int))
abbrev mX11_stands : qM := (yX11_stands, cX11_stands, 4, (some .boolean))
abbrev mX11_uses : qM := (yX11_uses, cX11_uses, 3, (some .int))
abbrev mX11_finish : qM := (yX11_finish, cX11_finish, 2, (some .boolean))
abbrev mX11_lose : qM := (yX11_lose, cX11_lose, 5, (some .int))
abbrev mX11_calledMany : qM := (yX11_calledMany, cX11_calledMany, 3, (some .int))
abbrev mX11_recall : qM := (yX11_recall, cX11_recall, 5, (some .int))
abbrev mX11_file : qM := (yX11_file, cX11_file, 5, (some .int))
abbrev mX11_hash : qM := (yX11_hash, cX11_hash, 2, (some .long))
abbrev mX11_sealed : qM := (yX11_sealed, cX11_sealed, 4, (some .int))
abbrev mX11_note : qM := (yX11_note, cX11_note, 3, (some .int))
abbrev mX11_canHold : qM := (yX11_canHold, cX11_canHold, 6, (some .boolean))
abbrev mX11_judged : qM := (yX11_judged, cX11_judged, 3, (some .int))
abbrev mX11_least : qM := (yX11_least, cX11_least, 2, (some .int))
abbrev mX11_makers : qM := (yX11_makers, cX11_makers, 2, (some .int))
abbrev mX11_firstOf : qM := (yX11_firstOf, cX11_firstOf, 3, (some .int))
abbrev mX11_proof : qM := (yX11_proof, cX11_proof, 7, (some .int))
abbrev mX11_called : qM := (yX11_called, cX11_called, 4, (some .int))
abbrev mX11_count : qM := (yX11_count, cX11_count, 4, (some .int))
abbrev mX11_key : qM := (yX11_key, cX11_key, 5, (some .int))
abbrev mJ9_max_7cf53 : qM := (yJ9_max_7cf53, cJ9_max_7cf53, 2, (some .int))
abbrev mJ9_min_7cf53 : qM := (yJ9_min_7cf53, cJ9_min_7cf53, 2, (some .int))
abbrev mL_law : qM := (yL_law, cL_law, 4, (some .boolean))
set_option maxRecDepth 100000 in
theorem lk773 : Cond.constantLong "java/lang/Long" 314 6148914691236517205 ∈ qg := qg_mem (List.mem_of_getElem? (i := 773) rfl) rfl
set_option maxRecDepth 100000 in
theorem lk774 : Cond.constantLong "java/lang/Long" 316 3689348814741910323 ∈ qg := qg_mem (List.mem_of_getElem? (i := 774) rfl) rfl
set_option maxRecDepth 100000 in
theorem lk775 : Cond.constantLong "java/lang/Long" 318 1085102592571150095 ∈ qg := qg_mem (List.mem_of_getElem? (i := 775) rfl) rfl
set_option maxRecDepth 100000 in
theorem lk826 : Cond.constant "java/lang/Integer" 264 65536 ∈ qg := qg_mem (List.mem_of_getElem? (i := 826) rfl) rfl
set_option maxRecDepth 100000 in
theorem lk656 : Cond.constant "java/lang/Integer" 265 1431655765 ∈ qg := qg_mem (List.mem_of_getElem? (i := 656) rfl) rfl
set_option maxRecDepth 100000 in
theorem lk657 : Cond.constant "java/lang/Integer" 266 858993459 ∈ qg := qg_mem (List.mem_of_getElem? (i := 657) rfl) rfl
set_option maxRecDepth 100000 in
theorem lk658 : Cond.constant "java/lang/Integer" 267 252645135 ∈ qg := qg_mem (List.mem_of_getElem? (i := 658) rfl) rfl
set_option maxRecDepth 100000 in
theorem lk113 : Cond.arrayClass .int ∈ qg := qg_mem (List.mem_of_getElem? (i := 113) rfl) rfl
set_option maxRecDepth 100000 in
theorem lk576 : Cond.methodLink "java/util/Arrays" 316 ⟨"[I", "clone", "()Ljava/lang/Object;"⟩ ∈ qg := qg_mem (List.mem_of_getElem? (i := 576) rfl) rfl
set_option maxRecDepth 100000 in
theorem lk583 : Cond.methodLink "java/util/Arrays" 304 yJ9_min_7cf53 ∈ qg := qg_mem (List.mem_of_getElem? (i := 583) rfl) rfl
set_option maxRecDepth 100000 in
theorem lk584 : Cond.static Lib.Math.min.name ∈ qg := qg_mem (List.mem_of_getElem? (i := 584) rfl) rfl
set_option maxRecDepth 100000 in
theorem lk65 : Cond.initialized "java/lang/Math" ∈ qg := qg_mem (List.mem_of_getElem? (i := 65) rfl) rfl
set_option maxRecDepth 100000 in
theorem lk585 : Cond.code Lib.Math.min.name Lib.Math.min.code 2 (some .int) ∈ qg := qg_mem (List.mem_of_getElem? (i := 585) rfl) rfl
set_option maxRecDepth 100000 in
theorem lk586 : Cond.methodLink "java/util/Arrays" 150 ⟨"java/lang/System", "arraycopy", "(Ljava/lang/Object;ILjava/lang/Object;II)V"⟩ ∈ qg := qg_mem (List.mem_of_getElem? (i := 586) rfl) rfl
set_option maxRecDepth 100000 in
theorem lk588 : Cond.native arraycopyName ∈ qg := qg_mem (List.mem_of_getElem? (i := 588) rfl) rfl
set_option maxRecDepth 100000 in
theorem lk587 : Cond.static arraycopyName ∈ qg := qg_mem (List.mem_of_getElem? (i := 587) rfl) rfl
set_option maxRecDepth 100000 in
theorem lk77 : Cond.initialized "java/lang/System" ∈ qg := qg_mem (List.mem_of_getElem? (i := 77) rfl) rfl
set_option maxRecDepth 100000 in
theorem lk126 : Cond.methodLink "SealLine$FileSet" 3 Lib.objectInit ∈ qg := qg_mem (List.mem_of_getElem? (i := 126) rfl) rfl
set_option maxRecDepth 100000 in
theorem lk86 : Cond.instanceMethod Lib.objectInit ∈ qg := qg_mem (List.mem_of_getElem? (i := 86) rfl) rfl
set_option maxRecDepth 100000 in
theorem lk87 : Cond.code Lib.objectInit ⟨#[0xb1]⟩ 1 none ∈ qg := qg_mem (List.mem_of_getElem? (i := 87) rfl) rfl
set_option maxRecDepth 100000 in
theorem lk127 : Cond.fieldLink "SealLine$FileSet" 9 "SealLine$FileSet" "low" "J" ∈ qg := qg_mem (List.mem_of_getElem? (i := 127) rfl) rfl
theorem fpX0_9 : qFp RX0 9 0 0 .long := ⟨RX0, TX0, 2, tyX0, rfl, by decide, jnX0, lk127, tyX0_ok, nmX0, rfl⟩
set_option maxRecDepth 100000 in
theorem lk128 : Cond.fieldLink "SealLine$FileSet" 15 "SealLine$FileSet" "high" "J" ∈ qg := qg_mem (List.mem_of_getElem? (i := 128) rfl) rfl
theorem fpX0_15 : qFp RX0 15 0 1 .long := ⟨RX0, TX0, 2, tyX0, rfl, by decide, jnX0, lk128, tyX0_ok, nmX0, rfl⟩
theorem fgX0_9 : qF RX0 9 0 0 := ⟨RX0, TX0, 2, rfl, by decide, jnX0, lk127⟩
theorem fgX0_15 : qF RX0 15 0 1 := ⟨RX0, TX0, 2, rfl, by decide, jnX0, lk128⟩
set_option maxRecDepth 100000 in
theorem lk770 : Cond.methodLink "SealLine$FileSet" 18 yJ13_bitCount_95d88 ∈ qg := qg_mem (List.mem_of_getElem? (i := 770) rfl) rfl
set_option maxRecDepth 100000 in
theorem lk772 : Cond.code yJ13_bitCount_95d88 cJ13_bitCount_95d88 2 (some .int) ∈ qg := qg_mem (List.mem_of_getElem? (i := 772) rfl) rfl
set_option maxRecDepth 100000 in
theorem lk79 : Cond.initialized "java/lang/Long" ∈ qg := qg_mem (List.mem_of_getElem? (i := 79) rfl) rfl
set_option maxRecDepth 100000 in
theorem lk771 : Cond.static yJ13_bitCount_95d88 ∈ qg := qg_mem (List.mem_of_getElem? (i := 771) rfl) rfl
theorem tJ13_bitCount_95d88 : qMs mJ13_bitCount_95d88 1 := ⟨⟨lk772, lk79, by decide +kernel, by decide⟩, lk771⟩
set_option maxRecDepth 100000 in
theorem lk103 : Cond.fieldLink "SealLine$Table" 9 "SealLine$Table" "many" "I" ∈ qg := qg_mem (List.mem_of_getElem? (i := 103) rfl) rfl
theorem fgX8_9 : qF RX8 9 8 3 := ⟨RX8, TX8, 4, rfl, by decide, jnX8, lk103⟩
set_option maxRecDepth 100000 in
theorem lk101 : Cond.fieldLink "SealLine$Table" 24 "SealLine$Table" "width" "I" ∈ qg := qg_mem (List.mem_of_getElem? (i := 101) rfl) rfl
theorem fgX8_24 : qF RX8 24 8 1 := ⟨RX8, TX8, 4, rfl, by decide, jnX8, lk101⟩
set_option maxRecDepth 100000 in
theorem lk102 : Cond.fieldLink "SealLine$Table" 27 "SealLine$Table" "cells" "[I" ∈ qg := qg_mem (List.mem_of_getElem? (i := 102) rfl) rfl
theorem fgX8_27 : qF RX8 27 8 2 := ⟨RX8, TX8, 4, rfl, by decide, jnX8, lk102⟩
set_option maxRecDepth 100000 in
theorem lk370 : Cond.methodLink "SealLine$Table" 41 yX8_isCell ∈ qg := qg_mem (List.mem_of_getElem? (i := 370) rfl) rfl
set_option maxRecDepth 100000 in
theorem lk373 : Cond.code yX8_isCell cX8_isCell 3 (some .boolean) ∈ qg := qg_mem (List.mem_of_getElem? (i := 373) rfl) rfl
set_option maxRecDepth 100000 in
theorem lk64 : Cond.initialized "SealLine$Table" ∈ qg := qg_mem (List.mem_of_getElem? (i := 64) rfl) rfl
set_option maxRecDepth 100000 in
theorem lk372 : Cond.instanceMethod yX8_isCell ∈ qg := qg_mem (List.mem_of_getElem? (i := 372) rfl) rfl
set_option maxRecDepth 100000 in
theorem lk1 : Cond.selects "SealLine$Table" yX8_isCell yX8_isCell ∈ qg := qg_mem (List.mem_of_getElem? (i := 1) rfl) rfl
theorem vX8_isCell : qMv mX8_isCell 2 := ⟨⟨lk373, lk64, by decide +kernel, by decide⟩, lk372, lk1⟩
set_option maxRecDepth 100000 in
theorem lk93 : Cond.methodLink "SealLine$Table" 3 Lib.objectInit ∈ qg := qg_mem (List.mem_of_getElem? (i := 93) rfl) rfl
theorem fpX8_9 : qFp RX8 9 8 3 .int := ⟨RX8, TX8, 4, tyX8, rfl, by decide, jnX8, lk103, tyX8_ok, nmX8, rfl⟩
set_option maxRecDepth 100000 in
theorem lk100 : Cond.fieldLink "SealLine$Table" 21 "SealLine$Table" "most" "I" ∈ qg := qg_mem (List.mem_of_getElem? (i := 100) rfl) rfl
theorem fpX8_21 : qFp RX8 21 8 0 .int := ⟨RX8, TX8, 4, tyX8, rfl, by decide, jnX8, lk100, tyX8_ok, nmX8, rfl⟩
theorem fpX8_24 : qFp RX8 24 8 1 .int := ⟨RX8, TX8, 4, tyX8, rfl, by decide, jnX8, lk101, tyX8_ok, nmX8, rfl⟩
theorem fgX8_21 : qF RX8 21 8 0 := ⟨RX8, TX8, 4, rfl, by decide, jnX8, lk100⟩
theorem fpX8_27 : qFp RX8 27 8 2 (.array .int) := ⟨RX8, TX8, 4, tyX8, rfl, by decide, jnX8, lk102, tyX8_ok, nmX8, rfl⟩
set_option maxRecDepth 100000 in
theorem lk94 : Cond.methodLink "SealLine$Table" 15 yJ9_max_7cf53 ∈ qg := qg_mem (List.mem_of_getElem? (i := 94) rfl) rfl
set_option maxRecDepth 100000 in
theorem lk95 : Cond.static Lib.Math.max.name ∈ qg := qg_mem (List.mem_of_getElem? (i := 95) rfl) rfl
set_option maxRecDepth 100000 in
theorem lk96 : Cond.code Lib.Math.max.name Lib.Math.max.code 2 (some .int) ∈ qg := qg_mem (List.mem_of_getElem? (i := 96) rfl) rfl
set_option maxRecDepth 100000 in
theorem lk97 : Cond.methodLink "SealLine$Table" 31 yJ7_fill_53178 ∈ qg := qg_mem (List.mem_of_getElem? (i := 97) rfl) rfl
set_option maxRecDepth 100000 in
theorem lk99 : Cond.code yJ7_fill_53178 cJ7_fill_53178 4 none ∈ qg := qg_mem (List.mem_of_getElem? (i := 99) rfl) rfl
set_option maxRecDepth 100000 in
theorem lk66 : Cond.initialized "java/util/Arrays" ∈ qg := qg_mem (List.mem_of_getElem? (i := 66) rfl) rfl
set_option maxRecDepth 100000 in
theorem lk98 : Cond.static yJ7_fill_53178 ∈ qg := qg_mem (List.mem_of_getElem? (i := 98) rfl) rfl
theorem tJ7_fill_53178 : qMs mJ7_fill_53178 2 := ⟨⟨lk99, lk66, by decide +kernel, by decide⟩, lk98⟩
set_option maxRecDepth 100000 in
theorem lk365 : Cond.methodLink "SealLine$Table" 37 yX8_isFull ∈ qg := qg_mem (List.mem_of_getElem? (i := 365) rfl) rfl
set_option maxRecDepth 100000 in
theorem lk344 : Cond.code yX8_isFull cX8_isFull 1 (some .boolean) ∈ qg := qg_mem (List.mem_of_getElem? (i := 344) rfl) rfl
set_option maxRecDepth 100000 in
theorem lk342 : Cond.instanceMethod yX8_isFull ∈ qg := qg_mem (List.mem_of_getElem? (i := 342) rfl) rfl
set_option maxRecDepth 100000 in
theorem lk343 : Cond.selects "SealLine$Table" yX8_isFull yX8_isFull ∈ qg := qg_mem (List.mem_of_getElem? (i := 343) rfl) rfl
theorem vX8_isFull : qMv mX8_isFull 0 := ⟨⟨lk344, lk64, by decide +kernel, by decide⟩, lk342, lk343⟩
set_option maxRecDepth 100000 in
theorem lk239 : Cond.methodLink "SealLine$Queue" 3 Lib.objectInit ∈ qg := qg_mem (List.mem_of_getElem? (i := 239) rfl) rfl
set_option maxRecDepth 100000 in
theorem lk240 : Cond.fieldLink "SealLine$Queue" 9 "SealLine$Queue" "files" "[I" ∈ qg := qg_mem (List.mem_of_getElem? (i := 240) rfl) rfl
theorem fpX4_9 : qFp RX4 9 4 0 (.array .int) := ⟨RX4, TX4, 2, tyX4, rfl, by decide, jnX4, lk240, tyX4_ok, nmX4, rfl⟩
set_option maxRecDepth 100000 in
theorem lk241 : Cond.fieldLink "SealLine$Queue" 15 "SealLine$Queue" "length" "I" ∈ qg := qg_mem (List.mem_of_getElem? (i := 241) rfl) rfl
theorem fpX4_15 : qFp RX4 15 4 1 .int := ⟨RX4, TX4, 2, tyX4, rfl, by decide, jnX4, lk241, tyX4_ok, nmX4, rfl⟩
theorem fgX4_15 : qF RX4 15 4 1 := ⟨RX4, TX4, 2, rfl, by decide, jnX4, lk241⟩
theorem fgX4_9 : qF RX4 9 4 0 := ⟨RX4, TX4, 2, rfl, by decide, jnX4, lk240⟩
set_option maxRecDepth 100000 in
theorem lk601 : Cond.methodLink "SealLine$Queue" 19 yX4_placeOf ∈ qg := qg_mem (List.mem_of_getElem? (i := 601) rfl) rfl
set_option maxRecDepth 100000 in
theorem lk604 : Cond.code yX4_placeOf cX4_placeOf 3 (some .int) ∈ qg := qg_mem (List.mem_of_getElem? (i := 604) rfl) rfl
set_option maxRecDepth 100000 in
theorem lk72 : Cond.initialized "SealLine$Queue" ∈ qg := qg_mem (List.mem_of_getElem? (i := 72) rfl) rfl
set_option maxRecDepth 100000 in
theorem lk602 : Cond.instanceMethod yX4_placeOf ∈ qg := qg_mem (List.mem_of_getElem? (i := 602) rfl) rfl
set_option maxRecDepth 100000 in
theorem lk603 : Cond.selects "SealLine$Queue" yX4_placeOf yX4_placeOf ∈ qg := qg_mem (List.mem_of_getElem? (i := 603) rfl) rfl
theorem vX4_placeOf : qMv mX4_placeOf 1 := ⟨⟨lk604, lk72, by decide +kernel, by decide⟩, lk602, lk603⟩
set_option maxRecDepth 100000 in
theorem lk613 : Cond.methodLink "SealLine$Queue" 23 yX4_first ∈ qg := qg_mem (List.mem_of_getElem? (i := 613) rfl) rfl
set_option maxRecDepth 100000 in
theorem lk616 : Cond.code yX4_first cX4_first 1 (some .int) ∈ qg := qg_mem (List.mem_of_getElem? (i := 616) rfl) rfl
set_option maxRecDepth 100000 in
theorem lk614 : Cond.instanceMethod yX4_first ∈ qg := qg_mem (List.mem_of_getElem? (i := 614) rfl) rfl
set_option maxRecDepth 100000 in
theorem lk615 : Cond.selects "SealLine$Queue" yX4_first yX4_first ∈ qg := qg_mem (List.mem_of_getElem? (i := 615) rfl) rfl
theorem vX4_first : qMv mX4_first 0 := ⟨⟨lk616, lk72, by decide +kernel, by decide⟩, lk614, lk615⟩
set_option maxRecDepth 100000 in
theorem lk617 : Cond.methodLink "SealLine$Queue" 27 ⟨"java/lang/System", "arraycopy", "(Ljava/lang/Object;ILjava/lang/Object;II)V"⟩ ∈ qg := qg_mem (List.mem_of_getElem? (i := 617) rfl) rfl
set_option maxRecDepth 100000 in
theorem lk291 : Cond.fieldLink "SealLine$Rule" 11 "SealLine$Rule" "someParts" "[I" ∈ qg := qg_mem (List.mem_of_getElem? (i := 291) rfl) rfl
theorem fgX6_11 : qF RX6 11 6 1 := ⟨RX6, TX6, 3, rfl, by decide, jnX6, lk291⟩
set_option maxRecDepth 100000 in
theorem lk292 : Cond.fieldLink "SealLine$Rule" 15 "SealLine$Rule" "everyUnit" "[I" ∈ qg := qg_mem (List.mem_of_getElem? (i := 292) rfl) rfl
theorem fgX6_15 : qF RX6 15 6 2 := ⟨RX6, TX6, 3, rfl, by decide, jnX6, lk292⟩
set_option maxRecDepth 100000 in
theorem lk674 : Cond.methodLink "SealLine$Rule" 29 yX6_triesBelow ∈ qg := qg_mem (List.mem_of_getElem? (i := 674) rfl) rfl
set_option maxRecDepth 100000 in
theorem lk676 : Cond.code yX6_triesBelow cX6_triesBelow 1 (some .int) ∈ qg := qg_mem (List.mem_of_getElem? (i := 676) rfl) rfl
set_option maxRecDepth 100000 in
theorem lk75 : Cond.initialized "SealLine$Rule" ∈ qg := qg_mem (List.mem_of_getElem? (i := 75) rfl) rfl
set_option maxRecDepth 100000 in
theorem lk675 : Cond.static yX6_triesBelow ∈ qg := qg_mem (List.mem_of_getElem? (i := 675) rfl) rfl
theorem tX6_triesBelow : qMs mX6_triesBelow 1 := ⟨⟨lk676, lk75, by decide +kernel, by decide⟩, lk675⟩
set_option maxRecDepth 100000 in
theorem lk290 : Cond.fieldLink "SealLine$Rule" 18 "SealLine$Rule" "steps" "[I" ∈ qg := qg_mem (List.mem_of_getElem? (i := 290) rfl) rfl
theorem fgX6_18 : qF RX6 18 6 0 := ⟨RX6, TX6, 3, rfl, by decide, jnX6, lk290⟩
set_option maxRecDepth 100000 in
theorem lk667 : Cond.methodLink "SealLine$Rule" 21 yX6_begin ∈ qg := qg_mem (List.mem_of_getElem? (i := 667) rfl) rfl
set_option maxRecDepth 100000 in
theorem lk670 : Cond.code yX6_begin cX6_begin 2 none ∈ qg := qg_mem (List.mem_of_getElem? (i := 670) rfl) rfl
set_option maxRecDepth 100000 in
theorem lk669 : Cond.instanceMethod yX6_begin ∈ qg := qg_mem (List.mem_of_getElem? (i := 669) rfl) rfl
set_option maxRecDepth 100000 in
theorem lk21 : Cond.selects "SealLine$Rule" yX6_begin yX6_begin ∈ qg := qg_mem (List.mem_of_getElem? (i := 21) rfl) rfl
theorem vX6_begin : qMv mX6_begin 1 := ⟨⟨lk670, lk75, by decide +kernel, by decide⟩, lk669, lk21⟩
set_option maxRecDepth 100000 in
theorem lk671 : Cond.methodLink "SealLine$Rule" 25 yX6_triesOfTest ∈ qg := qg_mem (List.mem_of_getElem? (i := 671) rfl) rfl
set_option maxRecDepth 100000 in
theorem lk673 : Cond.code yX6_triesOfTest cX6_triesOfTest 8 (some .int) ∈ qg := qg_mem (List.mem_of_getElem? (i := 673) rfl) rfl
set_option maxRecDepth 100000 in
theorem lk672 : Cond.static yX6_triesOfTest ∈ qg := qg_mem (List.mem_of_getElem? (i := 672) rfl) rfl
theorem tX6_triesOfTest : qMs mX6_triesOfTest 3 := ⟨⟨lk673, lk75, by decide +kernel, by decide⟩, lk672⟩
set_option maxRecDepth 100000 in
theorem lk289 : Cond.methodLink "SealLine$Rule" 3 Lib.objectInit ∈ qg := qg_mem (List.mem_of_getElem? (i := 289) rfl) rfl
theorem fpX6_11 : qFp RX6 11 6 1 (.array .int) := ⟨RX6, TX6, 3, tyX6, rfl, by decide, jnX6, lk291, tyX6_ok, nmX6, rfl⟩
theorem fpX6_15 : qFp RX6 15 6 2 (.array .int) := ⟨RX6, TX6, 3, tyX6, rfl, by decide, jnX6, lk292, tyX6_ok, nmX6, rfl⟩
theorem fpX6_18 : qFp RX6 18 6 0 (.array .int) := ⟨RX6, TX6, 3, tyX6, rfl, by decide, jnX6, lk290, tyX6_ok, nmX6, rfl⟩
set_option maxRecDepth 100000 in
theorem lk273 : Cond.methodLink "SealLine$Judging" 3 Lib.objectInit ∈ qg := qg_mem (List.mem_of_getElem? (i := 273) rfl) rfl
set_option maxRecDepth 100000 in
theorem lk274 : Cond.fieldLink "SealLine$Judging" 9 "SealLine$Judging" "hands" "I" ∈ qg := qg_mem (List.mem_of_getElem? (i := 274) rfl) rfl
theorem fpX1_9 : qFp RX1 9 1 0 .int := ⟨RX1, TX1, 3, tyX1, rfl, by decide, jnX1, lk274, tyX1_ok, nmX1, rfl⟩
set_option maxRecDepth 100000 in
theorem lk275 : Cond.fieldLink "SealLine$Judging" 15 "SealLine$Judging" "makerHands" "I" ∈ qg := qg_mem (List.mem_of_getElem? (i := 275) rfl) rfl
theorem fpX1_15 : qFp RX1 15 1 1 .int := ⟨RX1, TX1, 3, tyX1, rfl, by decide, jnX1, lk275, tyX1_ok, nmX1, rfl⟩
set_option maxRecDepth 100000 in
theorem lk276 : Cond.fieldLink "SealLine$Judging" 18 "SealLine$Judging" "known" "Z" ∈ qg := qg_mem (List.mem_of_getElem? (i := 276) rfl) rfl
theorem fpX1_18 : qFp RX1 18 1 2 .boolean := ⟨RX1, TX1, 3, tyX1, rfl, by decide, jnX1, lk276, tyX1_ok, nmX1, rfl⟩
theorem fgX1_9 : qF RX1 9 1 0 := ⟨RX1, TX1, 3, rfl, by decide, jnX1, lk274⟩
theorem fgX1_15 : qF RX1 15 1 1 := ⟨RX1, TX1, 3, rfl, by decide, jnX1, lk275⟩
set_option maxRecDepth 100000 in
theorem lk821 : Cond.methodLink "SealLine$Judging" 30 yJ9_max_7cf53 ∈ qg := qg_mem (List.mem_of_getElem? (i := 821) rfl) rfl
set_option maxRecDepth 100000 in
theorem lk822 : Cond.methodLink "SealLine$Judging" 36 yX6_holdingTries ∈ qg := qg_mem (List.mem_of_getElem? (i := 822) rfl) rfl
set_option maxRecDepth 100000 in
theorem lk666 : Cond.code yX6_holdingTries cX6_holdingTries 6 (some .int) ∈ qg := qg_mem (List.mem_of_getElem? (i := 666) rfl) rfl
set_option maxRecDepth 100000 in
theorem lk664 : Cond.instanceMethod yX6_holdingTries ∈ qg := qg_mem (List.mem_of_getElem? (i := 664) rfl) rfl
set_option maxRecDepth 100000 in
theorem lk665 : Cond.selects "SealLine$Rule" yX6_holdingTries yX6_holdingTries ∈ qg := qg_mem (List.mem_of_getElem? (i := 665) rfl) rfl
theorem vX6_holdingTries : qMv mX6_holdingTries 2 := ⟨⟨lk666, lk75, by decide +kernel, by decide⟩, lk664, lk665⟩
set_option maxRecDepth 100000 in
theorem lk823 : Cond.methodLink "SealLine$Judging" 41 yJ6_numberOfTrailingZeros_0f7a4 ∈ qg := qg_mem (List.mem_of_getElem? (i := 823) rfl) rfl
set_option maxRecDepth 100000 in
theorem lk825 : Cond.code yJ6_numberOfTrailingZeros_0f7a4 cJ6_numberOfTrailingZeros_0f7a4 2 (some .int) ∈ qg := qg_mem (List.mem_of_getElem? (i := 825) rfl) rfl
set_option maxRecDepth 100000 in
theorem lk78 : Cond.initialized "java/lang/Integer" ∈ qg := qg_mem (List.mem_of_getElem? (i := 78) rfl) rfl
set_option maxRecDepth 100000 in
theorem lk824 : Cond.static yJ6_numberOfTrailingZeros_0f7a4 ∈ qg := qg_mem (List.mem_of_getElem? (i := 824) rfl) rfl
theorem tJ6_numberOfTrailingZeros_0f7a4 : qMs mJ6_numberOfTrailingZeros_0f7a4 1 := ⟨⟨lk825, lk78, by decide +kernel, by decide⟩, lk824⟩
theorem fgX1_18 : qF RX1 18 1 2 := ⟨RX1, TX1, 3, rfl, by decide, jnX1, lk276⟩
set_option maxRecDepth 100000 in
theorem lk817 : Cond.methodLink "SealLine$Judging" 26 yX1_weigh ∈ qg := qg_mem (List.mem_of_getElem? (i := 817) rfl) rfl
set_option maxRecDepth 100000 in
theorem lk820 : Cond.code yX1_weigh cX1_weigh 8 none ∈ qg := qg_mem (List.mem_of_getElem? (i := 820) rfl) rfl
set_option maxRecDepth 100000 in
theorem lk74 : Cond.initialized "SealLine$Judging" ∈ qg := qg_mem (List.mem_of_getElem? (i := 74) rfl) rfl
set_option maxRecDepth 100000 in
theorem lk819 : Cond.instanceMethod yX1_weigh ∈ qg := qg_mem (List.mem_of_getElem? (i := 819) rfl) rfl
set_option maxRecDepth 100000 in
theorem lk27 : Cond.selects "SealLine$Judging" yX1_weigh yX1_weigh ∈ qg := qg_mem (List.mem_of_getElem? (i := 27) rfl) rfl
theorem vX1_weigh : qMv mX1_weigh 3 := ⟨⟨lk820, lk74, by decide +kernel, by decide⟩, lk819, lk27⟩
set_option maxRecDepth 100000 in
theorem lk813 : Cond.methodLink "SealLine$Judging" 22 yX1_judge ∈ qg := qg_mem (List.mem_of_getElem? (i := 813) rfl) rfl
set_option maxRecDepth 100000 in
theorem lk816 : Cond.code yX1_judge cX1_judge 4 none ∈ qg := qg_mem (List.mem_of_getElem? (i := 816) rfl) rfl
set_option maxRecDepth 100000 in
theorem lk815 : Cond.instanceMethod yX1_judge ∈ qg := qg_mem (List.mem_of_getElem? (i := 815) rfl) rfl
set_option maxRecDepth 100000 in
theorem lk26 : Cond.selects "SealLine$Judging" yX1_judge yX1_judge ∈ qg := qg_mem (List.mem_of_getElem? (i := 26) rfl) rfl
theorem vX1_judge : qMv mX1_judge 1 := ⟨⟨lk816, lk74, by decide +kernel, by decide⟩, lk815, lk26⟩
set_option maxRecDepth 100000 in
theorem lk186 : Cond.methodLink "SealLine$Recalls" 3 Lib.objectInit ∈ qg := qg_mem (List.mem_of_getElem? (i := 186) rfl) rfl
set_option maxRecDepth 100000 in
theorem lk190 : Cond.fieldLink "SealLine$Recalls" 9 "SealLine$Recalls" "toolSince" "[I" ∈ qg := qg_mem (List.mem_of_getElem? (i := 190) rfl) rfl
theorem fpX5_9 : qFp RX5 9 5 0 (.array .int) := ⟨RX5, TX5, 4, tyX5, rfl, by decide, jnX5, lk190, tyX5_ok, nmX5, rfl⟩
set_option maxRecDepth 100000 in
theorem lk191 : Cond.fieldLink "SealLine$Recalls" 15 "SealLine$Recalls" "handSince" "[I" ∈ qg := qg_mem (List.mem_of_getElem? (i := 191) rfl) rfl
theorem fpX5_15 : qFp RX5 15 5 1 (.array .int) := ⟨RX5, TX5, 4, tyX5, rfl, by decide, jnX5, lk191, tyX5_ok, nmX5, rfl⟩
set_option maxRecDepth 100000 in
theorem lk187 : Cond.classLink "SealLine$Recalls" 18 "SealLine$FileSet" ∈ qg := qg_mem (List.mem_of_getElem? (i := 187) rfl) rfl
set_option maxRecDepth 100000 in
theorem lk122 : Cond.instantiable "SealLine$FileSet" 2 ∈ qg := qg_mem (List.mem_of_getElem? (i := 122) rfl) rfl
set_option maxRecDepth 100000 in
theorem lk68 : Cond.initialized "SealLine$FileSet" ∈ qg := qg_mem (List.mem_of_getElem? (i := 68) rfl) rfl
theorem nwX5_18 : qNw RX5 18 0 2 [.long 0, .long 0] := ⟨RX0, TX0, tyX0, rfl, jnX0, tyX0_ok, lk187, lk122, lk68, by decide +kernel, fun _ => rfl⟩
set_option maxRecDepth 100000 in
theorem lk192 : Cond.fieldLink "SealLine$Recalls" 21 "SealLine$Recalls" "marked" "LSealLine$FileSet;" ∈ qg := qg_mem (List.mem_of_getElem? (i := 192) rfl) rfl
theorem fpX5_21 : qFp RX5 21 5 2 (.object "SealLine$FileSet") := ⟨RX5, TX5, 4, tyX5, rfl, by decide, jnX5, lk192, tyX5_ok, nmX5, rfl⟩
set_option maxRecDepth 100000 in
theorem lk193 : Cond.fieldLink "SealLine$Recalls" 25 "SealLine$Recalls" "many" "I" ∈ qg := qg_mem (List.mem_of_getElem? (i := 193) rfl) rfl
theorem fpX5_25 : qFp RX5 25 5 3 .int := ⟨RX5, TX5, 4, tyX5, rfl, by decide, jnX5, lk193, tyX5_ok, nmX5, rfl⟩
theorem fgX5_9 : qF RX5 9 5 0 := ⟨RX5, TX5, 4, rfl, by decide, jnX5, lk190⟩
theorem fgX5_15 : qF RX5 15 5 1 := ⟨RX5, TX5, 4, rfl, by decide, jnX5, lk191⟩
set_option maxRecDepth 100000 in
theorem lnX5_20 : qLn RX5 20 mX0_init "SealLine" := List.mem_filterMap.mpr ⟨_, List.mem_of_getElem? (i := 188) rfl, rfl⟩
set_option maxRecDepth 100000 in
theorem lk125 : Cond.code yX0_init cX0_init 1 none ∈ qg := qg_mem (List.mem_of_getElem? (i := 125) rfl) rfl
set_option maxRecDepth 100000 in
theorem lk124 : Cond.instanceMethod yX0_init ∈ qg := qg_mem (List.mem_of_getElem? (i := 124) rfl) rfl
theorem iX0_init : qMi mX0_init 0 := ⟨⟨lk125, lk68, by decide +kernel, by decide⟩, lk124, rfl, rfl⟩
set_option maxRecDepth 100000 in
theorem lk189 : Cond.methodLink "SealLine$Recalls" 29 yJ7_fill_53178 ∈ qg := qg_mem (List.mem_of_getElem? (i := 189) rfl) rfl
theorem fgX5_21 : qF RX5 21 5 2 := ⟨RX5, TX5, 4, rfl, by decide, jnX5, lk192⟩
theorem fgX5_25 : qF RX5 25 5 3 := ⟨RX5, TX5, 4, rfl, by decide, jnX5, lk193⟩
set_option maxRecDepth 100000 in
theorem lk431 : Cond.methodLink "SealLine$Recalls" 35 yX0_add ∈ qg := qg_mem (List.mem_of_getElem? (i := 431) rfl) rfl
set_option maxRecDepth 100000 in
theorem lk356 : Cond.code yX0_add cX0_add 2 none ∈ qg := qg_mem (List.mem_of_getElem? (i := 356) rfl) rfl
set_option maxRecDepth 100000 in
theorem lk354 : Cond.instanceMethod yX0_add ∈ qg := qg_mem (List.mem_of_getElem? (i := 354) rfl) rfl
set_option maxRecDepth 100000 in
theorem lk355 : Cond.selects "SealLine$FileSet" yX0_add yX0_add ∈ qg := qg_mem (List.mem_of_getElem? (i := 355) rfl) rfl
theorem vX0_add : qMv mX0_add 1 := ⟨⟨lk356, lk68, by decide +kernel, by decide⟩, lk354, lk355⟩
set_option maxRecDepth 100000 in
theorem lk427 : Cond.methodLink "SealLine$Recalls" 62 yX8_cell ∈ qg := qg_mem (List.mem_of_getElem? (i := 427) rfl) rfl
set_option maxRecDepth 100000 in
theorem lk402 : Cond.code yX8_cell cX8_cell 3 (some .int) ∈ qg := qg_mem (List.mem_of_getElem? (i := 402) rfl) rfl
set_option maxRecDepth 100000 in
theorem lk400 : Cond.instanceMethod yX8_cell ∈ qg := qg_mem (List.mem_of_getElem? (i := 400) rfl) rfl
set_option maxRecDepth 100000 in
theorem lk401 : Cond.selects "SealLine$Table" yX8_cell yX8_cell ∈ qg := qg_mem (List.mem_of_getElem? (i := 401) rfl) rfl
theorem vX8_cell : qMv mX8_cell 2 := ⟨⟨lk402, lk64, by decide +kernel, by decide⟩, lk400, lk401⟩
set_option maxRecDepth 100000 in
theorem lk428 : Cond.methodLink "SealLine$Recalls" 65 yX5_sinceOf ∈ qg := qg_mem (List.mem_of_getElem? (i := 428) rfl) rfl
set_option maxRecDepth 100000 in
theorem lk430 : Cond.code yX5_sinceOf cX5_sinceOf 2 (some .int) ∈ qg := qg_mem (List.mem_of_getElem? (i := 430) rfl) rfl
set_option maxRecDepth 100000 in
theorem lk70 : Cond.initialized "SealLine$Recalls" ∈ qg := qg_mem (List.mem_of_getElem? (i := 70) rfl) rfl
set_option maxRecDepth 100000 in
theorem lk429 : Cond.static yX5_sinceOf ∈ qg := qg_mem (List.mem_of_getElem? (i := 429) rfl) rfl
theorem tX5_sinceOf : qMs mX5_sinceOf 2 := ⟨⟨lk430, lk70, by decide +kernel, by decide⟩, lk429⟩
set_option maxRecDepth 100000 in
theorem lnX5_39 : qLn RX5 39 mX10_isTool "SealLine" := List.mem_filterMap.mpr ⟨_, List.mem_of_getElem? (i := 745) rfl, rfl⟩
set_option maxRecDepth 100000 in
theorem lk438 : Cond.code yX10_isTool cX10_isTool 1 (some .boolean) ∈ qg := qg_mem (List.mem_of_getElem? (i := 438) rfl) rfl
set_option maxRecDepth 100000 in
theorem lk63 : Cond.initialized "SealLine" ∈ qg := qg_mem (List.mem_of_getElem? (i := 63) rfl) rfl
set_option maxRecDepth 100000 in
theorem lk437 : Cond.static yX10_isTool ∈ qg := qg_mem (List.mem_of_getElem? (i := 437) rfl) rfl
theorem tX10_isTool : qMs mX10_isTool 1 := ⟨⟨lk438, lk63, by decide +kernel, by decide⟩, lk437⟩
set_option maxRecDepth 100000 in
theorem lnX5_43 : qLn RX5 43 mX10_isHand "SealLine" := List.mem_filterMap.mpr ⟨_, List.mem_of_getElem? (i := 746) rfl, rfl⟩
set_option maxRecDepth 100000 in
theorem lk340 : Cond.code yX10_isHand cX10_isHand 1 (some .boolean) ∈ qg := qg_mem (List.mem_of_getElem? (i := 340) rfl) rfl
set_option maxRecDepth 100000 in
theorem lk339 : Cond.static yX10_isHand ∈ qg := qg_mem (List.mem_of_getElem? (i := 339) rfl) rfl
theorem tX10_isHand : qMs mX10_isHand 1 := ⟨⟨lk340, lk63, by decide +kernel, by decide⟩, lk339⟩
set_option maxRecDepth 100000 in
theorem lk747 : Cond.methodLink "SealLine$Recalls" 46 yJ9_min_7cf53 ∈ qg := qg_mem (List.mem_of_getElem? (i := 747) rfl) rfl
set_option maxRecDepth 100000 in
theorem lk748 : Cond.methodLink "SealLine$Recalls" 52 yX8_size ∈ qg := qg_mem (List.mem_of_getElem? (i := 748) rfl) rfl
set_option maxRecDepth 100000 in
theorem lk422 : Cond.code yX8_size cX8_size 1 (some .int) ∈ qg := qg_mem (List.mem_of_getElem? (i := 422) rfl) rfl
set_option maxRecDepth 100000 in
theorem lk420 : Cond.instanceMethod yX8_size ∈ qg := qg_mem (List.mem_of_getElem? (i := 420) rfl) rfl
set_option maxRecDepth 100000 in
theorem lk421 : Cond.selects "SealLine$Table" yX8_size yX8_size ∈ qg := qg_mem (List.mem_of_getElem? (i := 421) rfl) rfl
theorem vX8_size : qMv mX8_size 0 := ⟨⟨lk422, lk64, by decide +kernel, by decide⟩, lk420, lk421⟩
set_option maxRecDepth 100000 in
theorem lk749 : Cond.methodLink "SealLine$Recalls" 58 yX5_look ∈ qg := qg_mem (List.mem_of_getElem? (i := 749) rfl) rfl
set_option maxRecDepth 100000 in
theorem lk426 : Cond.code yX5_look cX5_look 4 none ∈ qg := qg_mem (List.mem_of_getElem? (i := 426) rfl) rfl
set_option maxRecDepth 100000 in
theorem lk424 : Cond.instanceMethod yX5_look ∈ qg := qg_mem (List.mem_of_getElem? (i := 424) rfl) rfl
set_option maxRecDepth 100000 in
theorem lk425 : Cond.selects "SealLine$Recalls" yX5_look yX5_look ∈ qg := qg_mem (List.mem_of_getElem? (i := 425) rfl) rfl
theorem vX5_look : qMv mX5_look 2 := ⟨⟨lk426, lk70, by decide +kernel, by decide⟩, lk424, lk425⟩
set_option maxRecDepth 100000 in
theorem lk165 : Cond.methodLink "SealLine$Proof" 3 Lib.objectInit ∈ qg := qg_mem (List.mem_of_getElem? (i := 165) rfl) rfl
set_option maxRecDepth 100000 in
theorem lk168 : Cond.fieldLink "SealLine$Proof" 9 "SealLine$Proof" "grounds" "[I" ∈ qg := qg_mem (List.mem_of_getElem? (i := 168) rfl) rfl
theorem fpX3_9 : qFp RX3 9 3 0 (.array .int) := ⟨RX3, TX3, 4, tyX3, rfl, by decide, jnX3, lk168, tyX3_ok, nmX3, rfl⟩
set_option maxRecDepth 100000 in
theorem lk169 : Cond.fieldLink "SealLine$Proof" 15 "SealLine$Proof" "waiting" "[I" ∈ qg := qg_mem (List.mem_of_getElem? (i := 169) rfl) rfl
theorem fpX3_15 : qFp RX3 15 3 1 (.array .int) := ⟨RX3, TX3, 4, tyX3, rfl, by decide, jnX3, lk169, tyX3_ok, nmX3, rfl⟩
set_option maxRecDepth 100000 in
theorem lk166 : Cond.classLink "SealLine$Proof" 18 "SealLine$FileSet" ∈ qg := qg_mem (List.mem_of_getElem? (i := 166) rfl) rfl
theorem nwX3_18 : qNw RX3 18 0 2 [.long 0, .long 0] := ⟨RX0, TX0, tyX0, rfl, jnX0, tyX0_ok, lk166, lk122, lk68, by decide +kernel, fun _ => rfl⟩
set_option maxRecDepth 100000 in
theorem lk170 : Cond.fieldLink "SealLine$Proof" 21 "SealLine$Proof" "wanted" "LSealLine$FileSet;" ∈ qg := qg_mem (List.mem_of_getElem? (i := 170) rfl) rfl
theorem fpX3_21 : qFp RX3 21 3 2 (.object "SealLine$FileSet") := ⟨RX3, TX3, 4, tyX3, rfl, by decide, jnX3, lk170, tyX3_ok, nmX3, rfl⟩
set_option maxRecDepth 100000 in
theorem lk171 : Cond.fieldLink "SealLine$Proof" 25 "SealLine$Proof" "manyWaiting" "I" ∈ qg := qg_mem (List.mem_of_getElem? (i := 171) rfl) rfl
theorem fpX3_25 : qFp RX3 25 3 3 .int := ⟨RX3, TX3, 4, tyX3, rfl, by decide, jnX3, lk171, tyX3_ok, nmX3, rfl⟩
set_option maxRecDepth 100000 in
theorem lnX3_20 : qLn RX3 20 mX0_init "SealLine" := List.mem_filterMap.mpr ⟨_, List.mem_of_getElem? (i := 167) rfl, rfl⟩
theorem fgX3_9 : qF RX3 9 3 0 := ⟨RX3, TX3, 4, rfl, by decide, jnX3, lk168⟩
set_option maxRecDepth 100000 in
theorem lk847 : Cond.methodLink "SealLine$Proof" 47 yJ7_fill_53178 ∈ qg := qg_mem (List.mem_of_getElem? (i := 847) rfl) rfl
set_option maxRecDepth 100000 in
theorem lk848 : Cond.methodLink "SealLine$Proof" 37 yX8_size ∈ qg := qg_mem (List.mem_of_getElem? (i := 848) rfl) rfl
set_option maxRecDepth 100000 in
theorem lk849 : Cond.methodLink "SealLine$Proof" 53 yX8_cell ∈ qg := qg_mem (List.mem_of_getElem? (i := 849) rfl) rfl
set_option maxRecDepth 100000 in
theorem lk850 : Cond.methodLink "SealLine$Proof" 57 yX7_has ∈ qg := qg_mem (List.mem_of_getElem? (i := 850) rfl) rfl
set_option maxRecDepth 100000 in
theorem lk385 : Cond.code yX7_has cX7_has 2 (some .boolean) ∈ qg := qg_mem (List.mem_of_getElem? (i := 385) rfl) rfl
set_option maxRecDepth 100000 in
theorem lk67 : Cond.initialized "SealLine$Shelf" ∈ qg := qg_mem (List.mem_of_getElem? (i := 67) rfl) rfl
set_option maxRecDepth 100000 in
theorem lk383 : Cond.instanceMethod yX7_has ∈ qg := qg_mem (List.mem_of_getElem? (i := 383) rfl) rfl
set_option maxRecDepth 100000 in
theorem lk384 : Cond.selects "SealLine$Shelf" yX7_has yX7_has ∈ qg := qg_mem (List.mem_of_getElem? (i := 384) rfl) rfl
theorem vX7_has : qMv mX7_has 1 := ⟨⟨lk385, lk67, by decide +kernel, by decide⟩, lk383, lk384⟩
set_option maxRecDepth 100000 in
theorem lk851 : Cond.methodLink "SealLine$Proof" 63 yX7_isGround ∈ qg := qg_mem (List.mem_of_getElem? (i := 851) rfl) rfl
set_option maxRecDepth 100000 in
theorem lk414 : Cond.code yX7_isGround cX7_isGround 4 (some .boolean) ∈ qg := qg_mem (List.mem_of_getElem? (i := 414) rfl) rfl
set_option maxRecDepth 100000 in
theorem lk412 : Cond.instanceMethod yX7_isGround ∈ qg := qg_mem (List.mem_of_getElem? (i := 412) rfl) rfl
set_option maxRecDepth 100000 in
theorem lk413 : Cond.selects "SealLine$Shelf" yX7_isGround yX7_isGround ∈ qg := qg_mem (List.mem_of_getElem? (i := 413) rfl) rfl
theorem vX7_isGround : qMv mX7_isGround 2 := ⟨⟨lk414, lk67, by decide +kernel, by decide⟩, lk412, lk413⟩
theorem fgX3_25 : qF RX3 25 3 3 := ⟨RX3, TX3, 4, rfl, by decide, jnX3, lk171⟩
theorem fgX3_21 : qF RX3 21 3 2 := ⟨RX3, TX3, 4, rfl, by decide, jnX3, lk170⟩
theorem fgX3_15 : qF RX3 15 3 1 := ⟨RX3, TX3, 4, rfl, by decide, jnX3, lk169⟩
set_option maxRecDepth 100000 in
theorem lk864 : Cond.methodLink "SealLine$Proof" 73 yX0_has ∈ qg := qg_mem (List.mem_of_getElem? (i := 864) rfl) rfl
set_option maxRecDepth 100000 in
theorem lk410 : Cond.code yX0_has cX0_has 2 (some .boolean) ∈ qg := qg_mem (List.mem_of_getElem? (i := 410) rfl) rfl
set_option maxRecDepth 100000 in
theorem lk408 : Cond.instanceMethod yX0_has ∈ qg := qg_mem (List.mem_of_getElem? (i := 408) rfl) rfl
set_option maxRecDepth 100000 in
theorem lk409 : Cond.selects "SealLine$FileSet" yX0_has yX0_has ∈ qg := qg_mem (List.mem_of_getElem? (i := 409) rfl) rfl
theorem vX0_has : qMv mX0_has 1 := ⟨⟨lk410, lk68, by decide +kernel, by decide⟩, lk408, lk409⟩
set_option maxRecDepth 100000 in
theorem lk865 : Cond.methodLink "SealLine$Proof" 74 yX0_add ∈ qg := qg_mem (List.mem_of_getElem? (i := 865) rfl) rfl
set_option maxRecDepth 100000 in
theorem lk856 : Cond.methodLink "SealLine$Proof" 66 yX0_empty ∈ qg := qg_mem (List.mem_of_getElem? (i := 856) rfl) rfl
set_option maxRecDepth 100000 in
theorem lk859 : Cond.code yX0_empty cX0_empty 1 none ∈ qg := qg_mem (List.mem_of_getElem? (i := 859) rfl) rfl
set_option maxRecDepth 100000 in
theorem lk857 : Cond.instanceMethod yX0_empty ∈ qg := qg_mem (List.mem_of_getElem? (i := 857) rfl) rfl
set_option maxRecDepth 100000 in
theorem lk858 : Cond.selects "SealLine$FileSet" yX0_empty yX0_empty ∈ qg := qg_mem (List.mem_of_getElem? (i := 858) rfl) rfl
theorem vX0_empty : qMv mX0_empty 0 := ⟨⟨lk859, lk68, by decide +kernel, by decide⟩, lk857, lk858⟩
set_option maxRecDepth 100000 in
theorem lk860 : Cond.methodLink "SealLine$Proof" 69 yX3_want ∈ qg := qg_mem (List.mem_of_getElem? (i := 860) rfl) rfl
set_option maxRecDepth 100000 in
theorem lk863 : Cond.code yX3_want cX3_want 2 none ∈ qg := qg_mem (List.mem_of_getElem? (i := 863) rfl) rfl
set_option maxRecDepth 100000 in
theorem lk69 : Cond.initialized "SealLine$Proof" ∈ qg := qg_mem (List.mem_of_getElem? (i := 69) rfl) rfl
set_option maxRecDepth 100000 in
theorem lk862 : Cond.instanceMethod yX3_want ∈ qg := qg_mem (List.mem_of_getElem? (i := 862) rfl) rfl
set_option maxRecDepth 100000 in
theorem lk30 : Cond.selects "SealLine$Proof" yX3_want yX3_want ∈ qg := qg_mem (List.mem_of_getElem? (i := 30) rfl) rfl
theorem vX3_want : qMv mX3_want 1 := ⟨⟨lk863, lk69, by decide +kernel, by decide⟩, lk862, lk30⟩
set_option maxRecDepth 100000 in
theorem lk843 : Cond.methodLink "SealLine$Proof" 29 yX3_findGrounds ∈ qg := qg_mem (List.mem_of_getElem? (i := 843) rfl) rfl
set_option maxRecDepth 100000 in
theorem lk846 : Cond.code yX3_findGrounds cX3_findGrounds 5 none ∈ qg := qg_mem (List.mem_of_getElem? (i := 846) rfl) rfl
set_option maxRecDepth 100000 in
theorem lk845 : Cond.instanceMethod yX3_findGrounds ∈ qg := qg_mem (List.mem_of_getElem? (i := 845) rfl) rfl
set_option maxRecDepth 100000 in
theorem lk28 : Cond.selects "SealLine$Proof" yX3_findGrounds yX3_findGrounds ∈ qg := qg_mem (List.mem_of_getElem? (i := 28) rfl) rfl
theorem vX3_findGrounds : qMv mX3_findGrounds 2 := ⟨⟨lk846, lk69, by decide +kernel, by decide⟩, lk845, lk28⟩
set_option maxRecDepth 100000 in
theorem lk852 : Cond.methodLink "SealLine$Proof" 33 yX3_gather ∈ qg := qg_mem (List.mem_of_getElem? (i := 852) rfl) rfl
set_option maxRecDepth 100000 in
theorem lk855 : Cond.code yX3_gather cX3_gather 5 none ∈ qg := qg_mem (List.mem_of_getElem? (i := 855) rfl) rfl
set_option maxRecDepth 100000 in
theorem lk854 : Cond.instanceMethod yX3_gather ∈ qg := qg_mem (List.mem_of_getElem? (i := 854) rfl) rfl
set_option maxRecDepth 100000 in
theorem lk29 : Cond.selects "SealLine$Proof" yX3_gather yX3_gather ∈ qg := qg_mem (List.mem_of_getElem? (i := 29) rfl) rfl
theorem vX3_gather : qMv mX3_gather 2 := ⟨⟨lk855, lk69, by decide +kernel, by decide⟩, lk854, lk29⟩
set_option maxRecDepth 100000 in
theorem lk866 : Cond.methodLink "SealLine$Proof" 43 yX3_isPart ∈ qg := qg_mem (List.mem_of_getElem? (i := 866) rfl) rfl
set_option maxRecDepth 100000 in
theorem lk869 : Cond.code yX3_isPart cX3_isPart 4 (some .boolean) ∈ qg := qg_mem (List.mem_of_getElem? (i := 869) rfl) rfl
set_option maxRecDepth 100000 in
theorem lk868 : Cond.instanceMethod yX3_isPart ∈ qg := qg_mem (List.mem_of_getElem? (i := 868) rfl) rfl
set_option maxRecDepth 100000 in
theorem lk31 : Cond.selects "SealLine$Proof" yX3_isPart yX3_isPart ∈ qg := qg_mem (List.mem_of_getElem? (i := 31) rfl) rfl
theorem vX3_isPart : qMv mX3_isPart 2 := ⟨⟨lk869, lk69, by decide +kernel, by decide⟩, lk868, lk31⟩
set_option maxRecDepth 100000 in
theorem lk252 : Cond.methodLink "SealLine$Keys" 3 Lib.objectInit ∈ qg := qg_mem (List.mem_of_getElem? (i := 252) rfl) rfl
set_option maxRecDepth 100000 in
theorem lk254 : Cond.fieldLink "SealLine$Keys" 9 "SealLine$Keys" "usesLeft" "[I" ∈ qg := qg_mem (List.mem_of_getElem? (i := 254) rfl) rfl
theorem fpX2_9 : qFp RX2 9 2 0 (.array .int) := ⟨RX2, TX2, 4, tyX2, rfl, by decide, jnX2, lk254, tyX2_ok, nmX2, rfl⟩
set_option maxRecDepth 100000 in
theorem lk267 : Cond.arrayClass .boolean ∈ qg := qg_mem (List.mem_of_getElem? (i := 267) rfl) rfl
set_option maxRecDepth 100000 in
theorem lk255 : Cond.fieldLink "SealLine$Keys" 15 "SealLine$Keys" "ended" "[Z" ∈ qg := qg_mem (List.mem_of_getElem? (i := 255) rfl) rfl
theorem fpX2_15 : qFp RX2 15 2 1 (.array .boolean) := ⟨RX2, TX2, 4, tyX2, rfl, by decide, jnX2, lk255, tyX2_ok, nmX2, rfl⟩
set_option maxRecDepth 100000 in
theorem lk256 : Cond.fieldLink "SealLine$Keys" 19 "SealLine$Keys" "lost" "[I" ∈ qg := qg_mem (List.mem_of_getElem? (i := 256) rfl) rfl
theorem fpX2_19 : qFp RX2 19 2 2 (.array .int) := ⟨RX2, TX2, 4, tyX2, rfl, by decide, jnX2, lk256, tyX2_ok, nmX2, rfl⟩
set_option maxRecDepth 100000 in
theorem lk257 : Cond.fieldLink "SealLine$Keys" 22 "SealLine$Keys" "manySeals" "[I" ∈ qg := qg_mem (List.mem_of_getElem? (i := 257) rfl) rfl
theorem fpX2_22 : qFp RX2 22 2 3 (.array .int) := ⟨RX2, TX2, 4, tyX2, rfl, by decide, jnX2, lk257, tyX2_ok, nmX2, rfl⟩
theorem fgX2_19 : qF RX2 19 2 2 := ⟨RX2, TX2, 4, rfl, by decide, jnX2, lk256⟩
set_option maxRecDepth 100000 in
theorem lk253 : Cond.methodLink "SealLine$Keys" 25 yJ7_fill_53178 ∈ qg := qg_mem (List.mem_of_getElem? (i := 253) rfl) rfl
theorem fgX2_15 : qF RX2 15 2 1 := ⟨RX2, TX2, 4, rfl, by decide, jnX2, lk255⟩
set_option maxRecDepth 100000 in
theorem lk640 : Cond.methodLink "SealLine$Keys" 31 yX2_isKey ∈ qg := qg_mem (List.mem_of_getElem? (i := 640) rfl) rfl
set_option maxRecDepth 100000 in
theorem lk642 : Cond.code yX2_isKey cX2_isKey 1 (some .boolean) ∈ qg := qg_mem (List.mem_of_getElem? (i := 642) rfl) rfl
set_option maxRecDepth 100000 in
theorem lk73 : Cond.initialized "SealLine$Keys" ∈ qg := qg_mem (List.mem_of_getElem? (i := 73) rfl) rfl
set_option maxRecDepth 100000 in
theorem lk641 : Cond.static yX2_isKey ∈ qg := qg_mem (List.mem_of_getElem? (i := 641) rfl) rfl
theorem tX2_isKey : qMs mX2_isKey 1 := ⟨⟨lk642, lk73, by decide +kernel, by decide⟩, lk641⟩
theorem fgX2_9 : qF RX2 9 2 0 := ⟨RX2, TX2, 4, rfl, by decide, jnX2, lk254⟩
set_option maxRecDepth 100000 in
theorem lk636 : Cond.methodLink "SealLine$Keys" 35 yX2_isLive ∈ qg := qg_mem (List.mem_of_getElem? (i := 636) rfl) rfl
set_option maxRecDepth 100000 in
theorem lk639 : Cond.code yX2_isLive cX2_isLive 2 (some .boolean) ∈ qg := qg_mem (List.mem_of_getElem? (i := 639) rfl) rfl
set_option maxRecDepth 100000 in
theorem lk638 : Cond.instanceMethod yX2_isLive ∈ qg := qg_mem (List.mem_of_getElem? (i := 638) rfl) rfl
set_option maxRecDepth 100000 in
theorem lk19 : Cond.selects "SealLine$Keys" yX2_isLive yX2_isLive ∈ qg := qg_mem (List.mem_of_getElem? (i := 19) rfl) rfl
theorem vX2_isLive : qMv mX2_isLive 1 := ⟨⟨lk639, lk73, by decide +kernel, by decide⟩, lk638, lk19⟩
theorem fgX2_22 : qF RX2 22 2 3 := ⟨RX2, TX2, 4, rfl, by decide, jnX2, lk257⟩
set_option maxRecDepth 100000 in
theorem lk701 : Cond.methodLink "SealLine$Keys" 38 yX2_canSeal ∈ qg := qg_mem (List.mem_of_getElem? (i := 701) rfl) rfl
set_option maxRecDepth 100000 in
theorem lk635 : Cond.code yX2_canSeal cX2_canSeal 2 (some .boolean) ∈ qg := qg_mem (List.mem_of_getElem? (i := 635) rfl) rfl
set_option maxRecDepth 100000 in
theorem lk633 : Cond.instanceMethod yX2_canSeal ∈ qg := qg_mem (List.mem_of_getElem? (i := 633) rfl) rfl
set_option maxRecDepth 100000 in
theorem lk634 : Cond.selects "SealLine$Keys" yX2_canSeal yX2_canSeal ∈ qg := qg_mem (List.mem_of_getElem? (i := 634) rfl) rfl
theorem vX2_canSeal : qMv mX2_canSeal 1 := ⟨⟨lk635, lk73, by decide +kernel, by decide⟩, lk633, lk634⟩
set_option maxRecDepth 100000 in
theorem lk714 : Cond.constant "SealLine$Keys" 41 1000000 ∈ qg := qg_mem (List.mem_of_getElem? (i := 714) rfl) rfl
set_option maxRecDepth 100000 in
theorem lnX2_42 : qLn RX2 42 mX10_bit "SealLine" := List.mem_filterMap.mpr ⟨_, List.mem_of_getElem? (i := 894) rfl, rfl⟩
set_option maxRecDepth 100000 in
theorem lk469 : Cond.code yX10_bit cX10_bit 1 (some .int) ∈ qg := qg_mem (List.mem_of_getElem? (i := 469) rfl) rfl
set_option maxRecDepth 100000 in
theorem lk468 : Cond.static yX10_bit ∈ qg := qg_mem (List.mem_of_getElem? (i := 468) rfl) rfl
theorem tX10_bit : qMs mX10_bit 1 := ⟨⟨lk469, lk63, by decide +kernel, by decide⟩, lk468⟩
set_option maxRecDepth 100000 in
theorem lk208 : Cond.methodLink "SealLine$Tape" 3 Lib.objectInit ∈ qg := qg_mem (List.mem_of_getElem? (i := 208) rfl) rfl
set_option maxRecDepth 100000 in
theorem lk209 : Cond.fieldLink "SealLine$Tape" 9 "SealLine$Tape" "bytes" "[I" ∈ qg := qg_mem (List.mem_of_getElem? (i := 209) rfl) rfl
theorem fpX9_9 : qFp RX9 9 9 0 (.array .int) := ⟨RX9, TX9, 8, tyX9, rfl, by decide, jnX9, lk209, tyX9_ok, nmX9, rfl⟩
set_option maxRecDepth 100000 in
theorem lk210 : Cond.fieldLink "SealLine$Tape" 15 "SealLine$Tape" "length" "I" ∈ qg := qg_mem (List.mem_of_getElem? (i := 210) rfl) rfl
theorem fpX9_15 : qFp RX9 15 9 1 .int := ⟨RX9, TX9, 8, tyX9, rfl, by decide, jnX9, lk210, tyX9_ok, nmX9, rfl⟩
set_option maxRecDepth 100000 in
theorem lk211 : Cond.fieldLink "SealLine$Tape" 19 "SealLine$Tape" "steps" "[I" ∈ qg := qg_mem (List.mem_of_getElem? (i := 211) rfl) rfl
theorem fpX9_19 : qFp RX9 19 9 2 (.array .int) := ⟨RX9, TX9, 8, tyX9, rfl, by decide, jnX9, lk211, tyX9_ok, nmX9, rfl⟩
set_option maxRecDepth 100000 in
theorem lk212 : Cond.fieldLink "SealLine$Tape" 22 "SealLine$Tape" "manySteps" "I" ∈ qg := qg_mem (List.mem_of_getElem? (i := 212) rfl) rfl
theorem fpX9_22 : qFp RX9 22 9 3 .int := ⟨RX9, TX9, 8, tyX9, rfl, by decide, jnX9, lk212, tyX9_ok, nmX9, rfl⟩
set_option maxRecDepth 100000 in
theorem lk213 : Cond.fieldLink "SealLine$Tape" 25 "SealLine$Tape" "state" "I" ∈ qg := qg_mem (List.mem_of_getElem? (i := 213) rfl) rfl
theorem fpX9_25 : qFp RX9 25 9 4 .int := ⟨RX9, TX9, 8, tyX9, rfl, by decide, jnX9, lk213, tyX9_ok, nmX9, rfl⟩
set_option maxRecDepth 100000 in
theorem lk214 : Cond.fieldLink "SealLine$Tape" 28 "SealLine$Tape" "depth" "I" ∈ qg := qg_mem (List.mem_of_getElem? (i := 214) rfl) rfl
theorem fpX9_28 : qFp RX9 28 9 5 .int := ⟨RX9, TX9, 8, tyX9, rfl, by decide, jnX9, lk214, tyX9_ok, nmX9, rfl⟩
set_option maxRecDepth 100000 in
theorem lk215 : Cond.fieldLink "SealLine$Tape" 31 "SealLine$Tape" "letter" "I" ∈ qg := qg_mem (List.mem_of_getElem? (i := 215) rfl) rfl
theorem fpX9_31 : qFp RX9 31 9 6 .int := ⟨RX9, TX9, 8, tyX9, rfl, by decide, jnX9, lk215, tyX9_ok, nmX9, rfl⟩
set_option maxRecDepth 100000 in
theorem lk216 : Cond.fieldLink "SealLine$Tape" 34 "SealLine$Tape" "sign" "I" ∈ qg := qg_mem (List.mem_of_getElem? (i := 216) rfl) rfl
theorem fpX9_34 : qFp RX9 34 9 7 .int := ⟨RX9, TX9, 8, tyX9, rfl, by decide, jnX9, lk216, tyX9_ok, nmX9, rfl⟩
theorem fgX9_15 : qF RX9 15 9 1 := ⟨RX9, TX9, 8, rfl, by decide, jnX9, lk210⟩
theorem fgX9_9 : qF RX9 9 9 0 := ⟨RX9, TX9, 8, rfl, by decide, jnX9, lk209⟩
set_option maxRecDepth 100000 in
theorem lnX9_37 : qLn RX9 37 mX10_bit "SealLine" := List.mem_filterMap.mpr ⟨_, List.mem_of_getElem? (i := 514) rfl, rfl⟩
theorem fgX9_22 : qF RX9 22 9 3 := ⟨RX9, TX9, 8, rfl, by decide, jnX9, lk212⟩
theorem fgX9_19 : qF RX9 19 9 2 := ⟨RX9, TX9, 8, rfl, by decide, jnX9, lk211⟩
theorem fgX9_28 : qF RX9 28 9 5 := ⟨RX9, TX9, 8, rfl, by decide, jnX9, lk214⟩
theorem fgX9_31 : qF RX9 31 9 6 := ⟨RX9, TX9, 8, rfl, by decide, jnX9, lk215⟩
set_option maxRecDepth 100000 in
theorem lk546 : Cond.methodLink "SealLine$Tape" 72 yX9_addStep ∈ qg := qg_mem (List.mem_of_getElem? (i := 546) rfl) rfl
set_option maxRecDepth 100000 in
theorem lk549 : Cond.code yX9_addStep cX9_addStep 2 none ∈ qg := qg_mem (List.mem_of_getElem? (i := 549) rfl) rfl
set_option maxRecDepth 100000 in
theorem lk71 : Cond.initialized "SealLine$Tape" ∈ qg := qg_mem (List.mem_of_getElem? (i := 71) rfl) rfl
set_option maxRecDepth 100000 in
theorem lk548 : Cond.instanceMethod yX9_addStep ∈ qg := qg_mem (List.mem_of_getElem? (i := 548) rfl) rfl
set_option maxRecDepth 100000 in
theorem lk14 : Cond.selects "SealLine$Tape" yX9_addStep yX9_addStep ∈ qg := qg_mem (List.mem_of_getElem? (i := 14) rfl) rfl
theorem vX9_addStep : qMv mX9_addStep 1 := ⟨⟨lk549, lk71, by decide +kernel, by decide⟩, lk548, lk14⟩
theorem fgX9_34 : qF RX9 34 9 7 := ⟨RX9, TX9, 8, rfl, by decide, jnX9, lk216⟩
set_option maxRecDepth 100000 in
theorem lk535 : Cond.methodLink "SealLine$Tape" 51 yX9_isDigit ∈ qg := qg_mem (List.mem_of_getElem? (i := 535) rfl) rfl
set_option maxRecDepth 100000 in
theorem lk537 : Cond.code yX9_isDigit cX9_isDigit 1 (some .boolean) ∈ qg := qg_mem (List.mem_of_getElem? (i := 537) rfl) rfl
set_option maxRecDepth 100000 in
theorem lk536 : Cond.static yX9_isDigit ∈ qg := qg_mem (List.mem_of_getElem? (i := 536) rfl) rfl
theorem tX9_isDigit : qMs mX9_isDigit 1 := ⟨⟨lk537, lk71, by decide +kernel, by decide⟩, lk536⟩
set_option maxRecDepth 100000 in
theorem lk558 : Cond.methodLink "SealLine$Tape" 75 yX6_test ∈ qg := qg_mem (List.mem_of_getElem? (i := 558) rfl) rfl
set_option maxRecDepth 100000 in
theorem lk560 : Cond.code yX6_test cX6_test 3 (some .int) ∈ qg := qg_mem (List.mem_of_getElem? (i := 560) rfl) rfl
set_option maxRecDepth 100000 in
theorem lk559 : Cond.static yX6_test ∈ qg := qg_mem (List.mem_of_getElem? (i := 559) rfl) rfl
theorem tX6_test : qMs mX6_test 3 := ⟨⟨lk560, lk75, by decide +kernel, by decide⟩, lk559⟩
theorem fgX9_25 : qF RX9 25 9 4 := ⟨RX9, TX9, 8, rfl, by decide, jnX9, lk213⟩
set_option maxRecDepth 100000 in
theorem lk538 : Cond.methodLink "SealLine$Tape" 54 yX9_lengthenNumber ∈ qg := qg_mem (List.mem_of_getElem? (i := 538) rfl) rfl
set_option maxRecDepth 100000 in
theorem lk541 : Cond.code yX9_lengthenNumber cX9_lengthenNumber 3 none ∈ qg := qg_mem (List.mem_of_getElem? (i := 541) rfl) rfl
set_option maxRecDepth 100000 in
theorem lk540 : Cond.instanceMethod yX9_lengthenNumber ∈ qg := qg_mem (List.mem_of_getElem? (i := 540) rfl) rfl
set_option maxRecDepth 100000 in
theorem lk12 : Cond.selects "SealLine$Tape" yX9_lengthenNumber yX9_lengthenNumber ∈ qg := qg_mem (List.mem_of_getElem? (i := 12) rfl) rfl
theorem vX9_lengthenNumber : qMv mX9_lengthenNumber 1 := ⟨⟨lk541, lk71, by decide +kernel, by decide⟩, lk540, lk12⟩
set_option maxRecDepth 100000 in
theorem lk542 : Cond.methodLink "SealLine$Tape" 58 yX9_takeUnit ∈ qg := qg_mem (List.mem_of_getElem? (i := 542) rfl) rfl
set_option maxRecDepth 100000 in
theorem lk545 : Cond.code yX9_takeUnit cX9_takeUnit 2 (some .boolean) ∈ qg := qg_mem (List.mem_of_getElem? (i := 545) rfl) rfl
set_option maxRecDepth 100000 in
theorem lk544 : Cond.instanceMethod yX9_takeUnit ∈ qg := qg_mem (List.mem_of_getElem? (i := 544) rfl) rfl
set_option maxRecDepth 100000 in
theorem lk13 : Cond.selects "SealLine$Tape" yX9_takeUnit yX9_takeUnit ∈ qg := qg_mem (List.mem_of_getElem? (i := 13) rfl) rfl
theorem vX9_takeUnit : qMv mX9_takeUnit 1 := ⟨⟨lk545, lk71, by decide +kernel, by decide⟩, lk544, lk13⟩
set_option maxRecDepth 100000 in
theorem lk550 : Cond.methodLink "SealLine$Tape" 61 yX9_takeSign ∈ qg := qg_mem (List.mem_of_getElem? (i := 550) rfl) rfl
set_option maxRecDepth 100000 in
theorem lk553 : Cond.code yX9_takeSign cX9_takeSign 2 (some .boolean) ∈ qg := qg_mem (List.mem_of_getElem? (i := 553) rfl) rfl
set_option maxRecDepth 100000 in
theorem lk552 : Cond.instanceMethod yX9_takeSign ∈ qg := qg_mem (List.mem_of_getElem? (i := 552) rfl) rfl
set_option maxRecDepth 100000 in
theorem lk15 : Cond.selects "SealLine$Tape" yX9_takeSign yX9_takeSign ∈ qg := qg_mem (List.mem_of_getElem? (i := 15) rfl) rfl
theorem vX9_takeSign : qMv mX9_takeSign 1 := ⟨⟨lk553, lk71, by decide +kernel, by decide⟩, lk552, lk15⟩
set_option maxRecDepth 100000 in
theorem lk554 : Cond.methodLink "SealLine$Tape" 64 yX9_takeDigit ∈ qg := qg_mem (List.mem_of_getElem? (i := 554) rfl) rfl
set_option maxRecDepth 100000 in
theorem lk557 : Cond.code yX9_takeDigit cX9_takeDigit 2 (some .boolean) ∈ qg := qg_mem (List.mem_of_getElem? (i := 557) rfl) rfl
set_option maxRecDepth 100000 in
theorem lk556 : Cond.instanceMethod yX9_takeDigit ∈ qg := qg_mem (List.mem_of_getElem? (i := 556) rfl) rfl
set_option maxRecDepth 100000 in
theorem lk16 : Cond.selects "SealLine$Tape" yX9_takeDigit yX9_takeDigit ∈ qg := qg_mem (List.mem_of_getElem? (i := 16) rfl) rfl
theorem vX9_takeDigit : qMv mX9_takeDigit 1 := ⟨⟨lk557, lk71, by decide +kernel, by decide⟩, lk556, lk16⟩
set_option maxRecDepth 100000 in
theorem lk561 : Cond.methodLink "SealLine$Tape" 67 yX9_takeJoin ∈ qg := qg_mem (List.mem_of_getElem? (i := 561) rfl) rfl
set_option maxRecDepth 100000 in
theorem lk564 : Cond.code yX9_takeJoin cX9_takeJoin 2 (some .boolean) ∈ qg := qg_mem (List.mem_of_getElem? (i := 564) rfl) rfl
set_option maxRecDepth 100000 in
theorem lk563 : Cond.instanceMethod yX9_takeJoin ∈ qg := qg_mem (List.mem_of_getElem? (i := 563) rfl) rfl
set_option maxRecDepth 100000 in
theorem lk17 : Cond.selects "SealLine$Tape" yX9_takeJoin yX9_takeJoin ∈ qg := qg_mem (List.mem_of_getElem? (i := 17) rfl) rfl
theorem vX9_takeJoin : qMv mX9_takeJoin 1 := ⟨⟨lk564, lk71, by decide +kernel, by decide⟩, lk563, lk17⟩
set_option maxRecDepth 100000 in
theorem lk531 : Cond.methodLink "SealLine$Tape" 41 yX9_take ∈ qg := qg_mem (List.mem_of_getElem? (i := 531) rfl) rfl
set_option maxRecDepth 100000 in
theorem lk534 : Cond.code yX9_take cX9_take 2 (some .boolean) ∈ qg := qg_mem (List.mem_of_getElem? (i := 534) rfl) rfl
set_option maxRecDepth 100000 in
theorem lk533 : Cond.instanceMethod yX9_take ∈ qg := qg_mem (List.mem_of_getElem? (i := 533) rfl) rfl
set_option maxRecDepth 100000 in
theorem lk11 : Cond.selects "SealLine$Tape" yX9_take yX9_take ∈ qg := qg_mem (List.mem_of_getElem? (i := 11) rfl) rfl
theorem vX9_take : qMv mX9_take 1 := ⟨⟨lk534, lk71, by decide +kernel, by decide⟩, lk533, lk11⟩
set_option maxRecDepth 100000 in
theorem lk573 : Cond.methodLink "SealLine$Tape" 45 yJ7_copyOf_59c91 ∈ qg := qg_mem (List.mem_of_getElem? (i := 573) rfl) rfl
set_option maxRecDepth 100000 in
theorem lk575 : Cond.code yJ7_copyOf_59c91 cJ7_copyOf_59c91 3 (some (.array .int)) ∈ qg := qg_mem (List.mem_of_getElem? (i := 575) rfl) rfl
set_option maxRecDepth 100000 in
theorem lk574 : Cond.static yJ7_copyOf_59c91 ∈ qg := qg_mem (List.mem_of_getElem? (i := 574) rfl) rfl
theorem tJ7_copyOf_59c91 : qMs mJ7_copyOf_59c91 2 := ⟨⟨lk575, lk66, by decide +kernel, by decide⟩, lk574⟩
set_option maxRecDepth 100000 in
theorem lk142 : Cond.fieldLink "SealLine$Shelf" 39 "SealLine$Shelf" "many" "I" ∈ qg := qg_mem (List.mem_of_getElem? (i := 142) rfl) rfl
theorem fgX7_39 : qF RX7 39 7 7 := ⟨RX7, TX7, 8, rfl, by decide, jnX7, lk142⟩
set_option maxRecDepth 100000 in
theorem lk141 : Cond.fieldLink "SealLine$Shelf" 35 "SealLine$Shelf" "clean" "LSealLine$FileSet;" ∈ qg := qg_mem (List.mem_of_getElem? (i := 141) rfl) rfl
theorem fgX7_35 : qF RX7 35 7 6 := ⟨RX7, TX7, 8, rfl, by decide, jnX7, lk141⟩
set_option maxRecDepth 100000 in
theorem lk407 : Cond.methodLink "SealLine$Shelf" 62 yX0_has ∈ qg := qg_mem (List.mem_of_getElem? (i := 407) rfl) rfl
set_option maxRecDepth 100000 in
theorem lk399 : Cond.methodLink "SealLine$Shelf" 88 yX8_cell ∈ qg := qg_mem (List.mem_of_getElem? (i := 399) rfl) rfl
set_option maxRecDepth 100000 in
theorem lk415 : Cond.methodLink "SealLine$Shelf" 94 yX7_isCleanInput ∈ qg := qg_mem (List.mem_of_getElem? (i := 415) rfl) rfl
set_option maxRecDepth 100000 in
theorem lk418 : Cond.code yX7_isCleanInput cX7_isCleanInput 2 (some .boolean) ∈ qg := qg_mem (List.mem_of_getElem? (i := 418) rfl) rfl
set_option maxRecDepth 100000 in
theorem lk417 : Cond.instanceMethod yX7_isCleanInput ∈ qg := qg_mem (List.mem_of_getElem? (i := 417) rfl) rfl
set_option maxRecDepth 100000 in
theorem lk5 : Cond.selects "SealLine$Shelf" yX7_isCleanInput yX7_isCleanInput ∈ qg := qg_mem (List.mem_of_getElem? (i := 5) rfl) rfl
theorem vX7_isCleanInput : qMv mX7_isCleanInput 1 := ⟨⟨lk418, lk67, by decide +kernel, by decide⟩, lk417, lk5⟩
set_option maxRecDepth 100000 in
theorem lk119 : Cond.methodLink "SealLine$Shelf" 3 Lib.objectInit ∈ qg := qg_mem (List.mem_of_getElem? (i := 119) rfl) rfl
set_option maxRecDepth 100000 in
theorem lk134 : Cond.arrayClass .long ∈ qg := qg_mem (List.mem_of_getElem? (i := 134) rfl) rfl
set_option maxRecDepth 100000 in
theorem lk135 : Cond.fieldLink "SealLine$Shelf" 9 "SealLine$Shelf" "hashes" "[J" ∈ qg := qg_mem (List.mem_of_getElem? (i := 135) rfl) rfl
theorem fpX7_9 : qFp RX7 9 7 0 (.array .long) := ⟨RX7, TX7, 8, tyX7, rfl, by decide, jnX7, lk135, tyX7_ok, nmX7, rfl⟩
set_option maxRecDepth 100000 in
theorem lk120 : Cond.classLink "SealLine$Shelf" 15 "SealLine$FileSet" ∈ qg := qg_mem (List.mem_of_getElem? (i := 120) rfl) rfl
set_option maxRecDepth 100000 in
theorem lk136 : Cond.fieldLink "SealLine$Shelf" 17 "SealLine$Shelf" "rows" "[LSealLine$FileSet;" ∈ qg := qg_mem (List.mem_of_getElem? (i := 136) rfl) rfl
theorem fpX7_17 : qFp RX7 17 7 1 (.array (.object "SealLine$FileSet")) := ⟨RX7, TX7, 8, tyX7, rfl, by decide, jnX7, lk136, tyX7_ok, nmX7, rfl⟩
set_option maxRecDepth 100000 in
theorem lk137 : Cond.fieldLink "SealLine$Shelf" 21 "SealLine$Shelf" "ownMakers" "[I" ∈ qg := qg_mem (List.mem_of_getElem? (i := 137) rfl) rfl
theorem fpX7_21 : qFp RX7 21 7 2 (.array .int) := ⟨RX7, TX7, 8, tyX7, rfl, by decide, jnX7, lk137, tyX7_ok, nmX7, rfl⟩
set_option maxRecDepth 100000 in
theorem lk138 : Cond.fieldLink "SealLine$Shelf" 25 "SealLine$Shelf" "builders" "[I" ∈ qg := qg_mem (List.mem_of_getElem? (i := 138) rfl) rfl
theorem fpX7_25 : qFp RX7 25 7 3 (.array .int) := ⟨RX7, TX7, 8, tyX7, rfl, by decide, jnX7, lk138, tyX7_ok, nmX7, rfl⟩
set_option maxRecDepth 100000 in
theorem lk139 : Cond.fieldLink "SealLine$Shelf" 28 "SealLine$Shelf" "tryers" "[I" ∈ qg := qg_mem (List.mem_of_getElem? (i := 139) rfl) rfl
theorem fpX7_28 : qFp RX7 28 7 4 (.array .int) := ⟨RX7, TX7, 8, tyX7, rfl, by decide, jnX7, lk139, tyX7_ok, nmX7, rfl⟩
set_option maxRecDepth 100000 in
theorem lk140 : Cond.fieldLink "SealLine$Shelf" 31 "SealLine$Shelf" "reviewers" "[I" ∈ qg := qg_mem (List.mem_of_getElem? (i := 140) rfl) rfl
theorem fpX7_31 : qFp RX7 31 7 5 (.array .int) := ⟨RX7, TX7, 8, tyX7, rfl, by decide, jnX7, lk140, tyX7_ok, nmX7, rfl⟩
theorem nwX7_15 : qNw RX7 15 0 2 [.long 0, .long 0] := ⟨RX0, TX0, tyX0, rfl, jnX0, tyX0_ok, lk120, lk122, lk68, by decide +kernel, fun _ => rfl⟩
theorem fpX7_35 : qFp RX7 35 7 6 (.object "SealLine$FileSet") := ⟨RX7, TX7, 8, tyX7, rfl, by decide, jnX7, lk141, tyX7_ok, nmX7, rfl⟩
theorem fpX7_39 : qFp RX7 39 7 7 .int := ⟨RX7, TX7, 8, tyX7, rfl, by decide, jnX7, lk142, tyX7_ok, nmX7, rfl⟩
theorem fgX7_17 : qF RX7 17 7 1 := ⟨RX7, TX7, 8, rfl, by decide, jnX7, lk136⟩
set_option maxRecDepth 100000 in
theorem lnX7_34 : qLn RX7 34 mX0_init "SealLine" := List.mem_filterMap.mpr ⟨_, List.mem_of_getElem? (i := 123) rfl, rfl⟩
theorem fgX7_9 : qF RX7 9 7 0 := ⟨RX7, TX7, 8, rfl, by decide, jnX7, lk135⟩
set_option maxRecDepth 100000 in
theorem lk382 : Cond.methodLink "SealLine$Shelf" 43 yX7_has ∈ qg := qg_mem (List.mem_of_getElem? (i := 382) rfl) rfl
set_option maxRecDepth 100000 in
theorem lk349 : Cond.methodLink "SealLine$Shelf" 47 yX7_numberOf ∈ qg := qg_mem (List.mem_of_getElem? (i := 349) rfl) rfl
set_option maxRecDepth 100000 in
theorem lk352 : Cond.code yX7_numberOf cX7_numberOf 4 (some .int) ∈ qg := qg_mem (List.mem_of_getElem? (i := 352) rfl) rfl
set_option maxRecDepth 100000 in
theorem lk350 : Cond.instanceMethod yX7_numberOf ∈ qg := qg_mem (List.mem_of_getElem? (i := 350) rfl) rfl
set_option maxRecDepth 100000 in
theorem lk351 : Cond.selects "SealLine$Shelf" yX7_numberOf yX7_numberOf ∈ qg := qg_mem (List.mem_of_getElem? (i := 351) rfl) rfl
theorem vX7_numberOf : qMv mX7_numberOf 1 := ⟨⟨lk352, lk67, by decide +kernel, by decide⟩, lk350, lk351⟩
set_option maxRecDepth 100000 in
theorem lk353 : Cond.methodLink "SealLine$Shelf" 51 yX0_add ∈ qg := qg_mem (List.mem_of_getElem? (i := 353) rfl) rfl
set_option maxRecDepth 100000 in
theorem lnX7_59 : qLn RX7 59 mX10_isHand "SealLine" := List.mem_filterMap.mpr ⟨_, List.mem_of_getElem? (i := 386) rfl, rfl⟩
theorem fgX7_21 : qF RX7 21 7 2 := ⟨RX7, TX7, 8, rfl, by decide, jnX7, lk137⟩
set_option maxRecDepth 100000 in
theorem lk378 : Cond.methodLink "SealLine$Shelf" 55 yX7_setHand ∈ qg := qg_mem (List.mem_of_getElem? (i := 378) rfl) rfl
set_option maxRecDepth 100000 in
theorem lk381 : Cond.code yX7_setHand cX7_setHand 5 none ∈ qg := qg_mem (List.mem_of_getElem? (i := 381) rfl) rfl
set_option maxRecDepth 100000 in
theorem lk380 : Cond.instanceMethod yX7_setHand ∈ qg := qg_mem (List.mem_of_getElem? (i := 380) rfl) rfl
set_option maxRecDepth 100000 in
theorem lk2 : Cond.selects "SealLine$Shelf" yX7_setHand yX7_setHand ∈ qg := qg_mem (List.mem_of_getElem? (i := 2) rfl) rfl
theorem vX7_setHand : qMv mX7_setHand 4 := ⟨⟨lk381, lk67, by decide +kernel, by decide⟩, lk380, lk2⟩
theorem fgX7_25 : qF RX7 25 7 3 := ⟨RX7, TX7, 8, rfl, by decide, jnX7, lk138⟩
theorem fgX7_28 : qF RX7 28 7 4 := ⟨RX7, TX7, 8, rfl, by decide, jnX7, lk139⟩
theorem fgX7_31 : qF RX7 31 7 5 := ⟨RX7, TX7, 8, rfl, by decide, jnX7, lk140⟩
set_option maxRecDepth 100000 in
theorem lk478 : Cond.methodLink "SealLine$Shelf" 63 yX0_addAll ∈ qg := qg_mem (List.mem_of_getElem? (i := 478) rfl) rfl
set_option maxRecDepth 100000 in
theorem lk481 : Cond.code yX0_addAll cX0_addAll 2 none ∈ qg := qg_mem (List.mem_of_getElem? (i := 481) rfl) rfl
set_option maxRecDepth 100000 in
theorem lk479 : Cond.instanceMethod yX0_addAll ∈ qg := qg_mem (List.mem_of_getElem? (i := 479) rfl) rfl
set_option maxRecDepth 100000 in
theorem lk480 : Cond.selects "SealLine$FileSet" yX0_addAll yX0_addAll ∈ qg := qg_mem (List.mem_of_getElem? (i := 480) rfl) rfl
theorem vX0_addAll : qMv mX0_addAll 1 := ⟨⟨lk481, lk68, by decide +kernel, by decide⟩, lk479, lk480⟩
set_option maxRecDepth 100000 in
theorem lk693 : Cond.methodLink "SealLine$Shelf" 67 yX0_meets ∈ qg := qg_mem (List.mem_of_getElem? (i := 693) rfl) rfl
set_option maxRecDepth 100000 in
theorem lk696 : Cond.code yX0_meets cX0_meets 2 (some .boolean) ∈ qg := qg_mem (List.mem_of_getElem? (i := 696) rfl) rfl
set_option maxRecDepth 100000 in
theorem lk694 : Cond.instanceMethod yX0_meets ∈ qg := qg_mem (List.mem_of_getElem? (i := 694) rfl) rfl
set_option maxRecDepth 100000 in
theorem lk695 : Cond.selects "SealLine$FileSet" yX0_meets yX0_meets ∈ qg := qg_mem (List.mem_of_getElem? (i := 695) rfl) rfl
theorem vX0_meets : qMv mX0_meets 1 := ⟨⟨lk696, lk68, by decide +kernel, by decide⟩, lk694, lk695⟩
set_option maxRecDepth 100000 in
theorem lk766 : Cond.methodLink "SealLine$Shelf" 71 yX0_size ∈ qg := qg_mem (List.mem_of_getElem? (i := 766) rfl) rfl
set_option maxRecDepth 100000 in
theorem lk769 : Cond.code yX0_size cX0_size 1 (some .int) ∈ qg := qg_mem (List.mem_of_getElem? (i := 769) rfl) rfl
set_option maxRecDepth 100000 in
theorem lk767 : Cond.instanceMethod yX0_size ∈ qg := qg_mem (List.mem_of_getElem? (i := 767) rfl) rfl
set_option maxRecDepth 100000 in
theorem lk768 : Cond.selects "SealLine$FileSet" yX0_size yX0_size ∈ qg := qg_mem (List.mem_of_getElem? (i := 768) rfl) rfl
theorem vX0_size : qMv mX0_size 0 := ⟨⟨lk769, lk68, by decide +kernel, by decide⟩, lk767, lk768⟩
set_option maxRecDepth 100000 in
theorem lk631 : Cond.methodLink "SealLine$Shelf" 75 yX7_rowHas ∈ qg := qg_mem (List.mem_of_getElem? (i := 631) rfl) rfl
set_option maxRecDepth 100000 in
theorem lk452 : Cond.code yX7_rowHas cX7_rowHas 3 (some .boolean) ∈ qg := qg_mem (List.mem_of_getElem? (i := 452) rfl) rfl
set_option maxRecDepth 100000 in
theorem lk450 : Cond.instanceMethod yX7_rowHas ∈ qg := qg_mem (List.mem_of_getElem? (i := 450) rfl) rfl
set_option maxRecDepth 100000 in
theorem lk451 : Cond.selects "SealLine$Shelf" yX7_rowHas yX7_rowHas ∈ qg := qg_mem (List.mem_of_getElem? (i := 451) rfl) rfl
theorem vX7_rowHas : qMv mX7_rowHas 2 := ⟨⟨lk452, lk67, by decide +kernel, by decide⟩, lk450, lk451⟩
set_option maxRecDepth 100000 in
theorem lk653 : Cond.methodLink "SealLine$Shelf" 79 yJ6_bitCount_0f7a4 ∈ qg := qg_mem (List.mem_of_getElem? (i := 653) rfl) rfl
set_option maxRecDepth 100000 in
theorem lk655 : Cond.code yJ6_bitCount_0f7a4 cJ6_bitCount_0f7a4 1 (some .int) ∈ qg := qg_mem (List.mem_of_getElem? (i := 655) rfl) rfl
set_option maxRecDepth 100000 in
theorem lk654 : Cond.static yJ6_bitCount_0f7a4 ∈ qg := qg_mem (List.mem_of_getElem? (i := 654) rfl) rfl
theorem tJ6_bitCount_0f7a4 : qMs mJ6_bitCount_0f7a4 1 := ⟨⟨lk655, lk78, by decide +kernel, by decide⟩, lk654⟩
set_option maxRecDepth 100000 in
theorem lk652 : Cond.methodLink "SealLine$Shelf" 85 yX7_makersOf ∈ qg := qg_mem (List.mem_of_getElem? (i := 652) rfl) rfl
set_option maxRecDepth 100000 in
theorem lk630 : Cond.code yX7_makersOf cX7_makersOf 4 (some .int) ∈ qg := qg_mem (List.mem_of_getElem? (i := 630) rfl) rfl
set_option maxRecDepth 100000 in
theorem lk628 : Cond.instanceMethod yX7_makersOf ∈ qg := qg_mem (List.mem_of_getElem? (i := 628) rfl) rfl
set_option maxRecDepth 100000 in
theorem lk629 : Cond.selects "SealLine$Shelf" yX7_makersOf yX7_makersOf ∈ qg := qg_mem (List.mem_of_getElem? (i := 629) rfl) rfl
theorem vX7_makersOf : qMv mX7_makersOf 1 := ⟨⟨lk630, lk67, by decide +kernel, by decide⟩, lk628, lk629⟩
set_option maxRecDepth 100000 in
theorem lk403 : Cond.methodLink "SealLine$Shelf" 102 yX7_isClean ∈ qg := qg_mem (List.mem_of_getElem? (i := 403) rfl) rfl
set_option maxRecDepth 100000 in
theorem lk406 : Cond.code yX7_isClean cX7_isClean 2 (some .boolean) ∈ qg := qg_mem (List.mem_of_getElem? (i := 406) rfl) rfl
set_option maxRecDepth 100000 in
theorem lk404 : Cond.instanceMethod yX7_isClean ∈ qg := qg_mem (List.mem_of_getElem? (i := 404) rfl) rfl
set_option maxRecDepth 100000 in
theorem lk405 : Cond.selects "SealLine$Shelf" yX7_isClean yX7_isClean ∈ qg := qg_mem (List.mem_of_getElem? (i := 405) rfl) rfl
theorem vX7_isClean : qMv mX7_isClean 1 := ⟨⟨lk406, lk67, by decide +kernel, by decide⟩, lk404, lk405⟩
set_option maxRecDepth 100000 in
theorem lk411 : Cond.methodLink "SealLine$Shelf" 105 yX7_isGround ∈ qg := qg_mem (List.mem_of_getElem? (i := 411) rfl) rfl
set_option maxRecDepth 100000 in
theorem lk395 : Cond.methodLink "SealLine$Shelf" 97 yX7_addClean ∈ qg := qg_mem (List.mem_of_getElem? (i := 395) rfl) rfl
set_option maxRecDepth 100000 in
theorem lk398 : Cond.code yX7_addClean cX7_addClean 4 (some .boolean) ∈ qg := qg_mem (List.mem_of_getElem? (i := 398) rfl) rfl
set_option maxRecDepth 100000 in
theorem lk397 : Cond.instanceMethod yX7_addClean ∈ qg := qg_mem (List.mem_of_getElem? (i := 397) rfl) rfl
set_option maxRecDepth 100000 in
theorem lk4 : Cond.selects "SealLine$Shelf" yX7_addClean yX7_addClean ∈ qg := qg_mem (List.mem_of_getElem? (i := 4) rfl) rfl
theorem vX7_addClean : qMv mX7_addClean 2 := ⟨⟨lk398, lk67, by decide +kernel, by decide⟩, lk397, lk4⟩
set_option maxRecDepth 100000 in
theorem lk419 : Cond.methodLink "SealLine$Shelf" 101 yX8_size ∈ qg := qg_mem (List.mem_of_getElem? (i := 419) rfl) rfl
set_option maxRecDepth 100000 in
theorem lk85 : Cond.methodLink "SealLine" 1 Lib.objectInit ∈ qg := qg_mem (List.mem_of_getElem? (i := 85) rfl) rfl
set_option maxRecDepth 100000 in
theorem lk88 : Cond.classLink "SealLine" 7 "SealLine$Table" ∈ qg := qg_mem (List.mem_of_getElem? (i := 88) rfl) rfl
set_option maxRecDepth 100000 in
theorem lk89 : Cond.instantiable "SealLine$Table" 4 ∈ qg := qg_mem (List.mem_of_getElem? (i := 89) rfl) rfl
theorem nwX10_7 : qNw RX10 7 8 4 [.int 0, .int 0, .null, .int 0] := ⟨RX8, TX8, tyX8, rfl, jnX8, tyX8_ok, lk88, lk89, lk64, by decide +kernel, fun _ => rfl⟩
set_option maxRecDepth 100000 in
theorem lk300 : Cond.fieldLink "SealLine" 14 "SealLine" "notes" "LSealLine$Table;" ∈ qg := qg_mem (List.mem_of_getElem? (i := 300) rfl) rfl
theorem fpX10_14 : qFp RX10 14 10 0 (.object "SealLine$Table") := ⟨RX10, TX10, 11, tyX10, rfl, by decide, jnX10, lk300, tyX10_ok, nmX10, rfl⟩
set_option maxRecDepth 100000 in
theorem lk301 : Cond.fieldLink "SealLine" 18 "SealLine" "seals" "LSealLine$Table;" ∈ qg := qg_mem (List.mem_of_getElem? (i := 301) rfl) rfl
theorem fpX10_18 : qFp RX10 18 10 1 (.object "SealLine$Table") := ⟨RX10, TX10, 11, tyX10, rfl, by decide, jnX10, lk301, tyX10_ok, nmX10, rfl⟩
set_option maxRecDepth 100000 in
theorem lk114 : Cond.classLink "SealLine" 21 "SealLine$Shelf" ∈ qg := qg_mem (List.mem_of_getElem? (i := 114) rfl) rfl
set_option maxRecDepth 100000 in
theorem lk115 : Cond.instantiable "SealLine$Shelf" 8 ∈ qg := qg_mem (List.mem_of_getElem? (i := 115) rfl) rfl
theorem nwX10_21 : qNw RX10 21 7 8 [.null, .null, .null, .null, .null, .null, .null, .int 0] := ⟨RX7, TX7, tyX7, rfl, jnX7, tyX7_ok, lk114, lk115, lk67, by decide +kernel, fun _ => rfl⟩
set_option maxRecDepth 100000 in
theorem lk302 : Cond.fieldLink "SealLine" 24 "SealLine" "shelf" "LSealLine$Shelf;" ∈ qg := qg_mem (List.mem_of_getElem? (i := 302) rfl) rfl
theorem fpX10_24 : qFp RX10 24 10 2 (.object "SealLine$Shelf") := ⟨RX10, TX10, 11, tyX10, rfl, by decide, jnX10, lk302, tyX10_ok, nmX10, rfl⟩
set_option maxRecDepth 100000 in
theorem lk160 : Cond.classLink "SealLine" 28 "SealLine$Proof" ∈ qg := qg_mem (List.mem_of_getElem? (i := 160) rfl) rfl
set_option maxRecDepth 100000 in
theorem lk161 : Cond.instantiable "SealLine$Proof" 4 ∈ qg := qg_mem (List.mem_of_getElem? (i := 161) rfl) rfl
theorem nwX10_28 : qNw RX10 28 3 4 [.null, .null, .null, .int 0] := ⟨RX3, TX3, tyX3, rfl, jnX3, tyX3_ok, lk160, lk161, lk69, by decide +kernel, fun _ => rfl⟩
set_option maxRecDepth 100000 in
theorem lk303 : Cond.fieldLink "SealLine" 31 "SealLine" "proofs" "LSealLine$Proof;" ∈ qg := qg_mem (List.mem_of_getElem? (i := 303) rfl) rfl
theorem fpX10_31 : qFp RX10 31 10 3 (.object "SealLine$Proof") := ⟨RX10, TX10, 11, tyX10, rfl, by decide, jnX10, lk303, tyX10_ok, nmX10, rfl⟩
set_option maxRecDepth 100000 in
theorem lk181 : Cond.classLink "SealLine" 35 "SealLine$Recalls" ∈ qg := qg_mem (List.mem_of_getElem? (i := 181) rfl) rfl
set_option maxRecDepth 100000 in
theorem lk182 : Cond.instantiable "SealLine$Recalls" 4 ∈ qg := qg_mem (List.mem_of_getElem? (i := 182) rfl) rfl
theorem nwX10_35 : qNw RX10 35 5 4 [.null, .null, .null, .int 0] := ⟨RX5, TX5, tyX5, rfl, jnX5, tyX5_ok, lk181, lk182, lk70, by decide +kernel, fun _ => rfl⟩
set_option maxRecDepth 100000 in
theorem lk304 : Cond.fieldLink "SealLine" 38 "SealLine" "recalls" "LSealLine$Recalls;" ∈ qg := qg_mem (List.mem_of_getElem? (i := 304) rfl) rfl
theorem fpX10_38 : qFp RX10 38 10 4 (.object "SealLine$Recalls") := ⟨RX10, TX10, 11, tyX10, rfl, by decide, jnX10, lk304, tyX10_ok, nmX10, rfl⟩
set_option maxRecDepth 100000 in
theorem lk203 : Cond.classLink "SealLine" 42 "SealLine$Tape" ∈ qg := qg_mem (List.mem_of_getElem? (i := 203) rfl) rfl
set_option maxRecDepth 100000 in
theorem lk204 : Cond.instantiable "SealLine$Tape" 8 ∈ qg := qg_mem (List.mem_of_getElem? (i := 204) rfl) rfl
theorem nwX10_42 : qNw RX10 42 9 8 [.null, .int 0, .null, .int 0, .int 0, .int 0, .int 0, .int 0] := ⟨RX9, TX9, tyX9, rfl, jnX9, tyX9_ok, lk203, lk204, lk71, by decide +kernel, fun _ => rfl⟩
set_option maxRecDepth 100000 in
theorem lk305 : Cond.fieldLink "SealLine" 45 "SealLine" "tape" "LSealLine$Tape;" ∈ qg := qg_mem (List.mem_of_getElem? (i := 305) rfl) rfl
theorem fpX10_45 : qFp RX10 45 10 5 (.object "SealLine$Tape") := ⟨RX10, TX10, 11, tyX10, rfl, by decide, jnX10, lk305, tyX10_ok, nmX10, rfl⟩
set_option maxRecDepth 100000 in
theorem lk234 : Cond.classLink "SealLine" 49 "SealLine$Queue" ∈ qg := qg_mem (List.mem_of_getElem? (i := 234) rfl) rfl
set_option maxRecDepth 100000 in
theorem lk235 : Cond.instantiable "SealLine$Queue" 2 ∈ qg := qg_mem (List.mem_of_getElem? (i := 235) rfl) rfl
theorem nwX10_49 : qNw RX10 49 4 2 [.null, .int 0] := ⟨RX4, TX4, tyX4, rfl, jnX4, tyX4_ok, lk234, lk235, lk72, by decide +kernel, fun _ => rfl⟩
set_option maxRecDepth 100000 in
theorem lk306 : Cond.fieldLink "SealLine" 52 "SealLine" "queue" "LSealLine$Queue;" ∈ qg := qg_mem (List.mem_of_getElem? (i := 306) rfl) rfl
theorem fpX10_52 : qFp RX10 52 10 6 (.object "SealLine$Queue") := ⟨RX10, TX10, 11, tyX10, rfl, by decide, jnX10, lk306, tyX10_ok, nmX10, rfl⟩
set_option maxRecDepth 100000 in
theorem lk247 : Cond.classLink "SealLine" 56 "SealLine$Keys" ∈ qg := qg_mem (List.mem_of_getElem? (i := 247) rfl) rfl
set_option maxRecDepth 100000 in
theorem lk248 : Cond.instantiable "SealLine$Keys" 4 ∈ qg := qg_mem (List.mem_of_getElem? (i := 248) rfl) rfl
theorem nwX10_56 : qNw RX10 56 2 4 [.null, .null, .null, .null] := ⟨RX2, TX2, tyX2, rfl, jnX2, tyX2_ok, lk247, lk248, lk73, by decide +kernel, fun _ => rfl⟩
set_option maxRecDepth 100000 in
theorem lk307 : Cond.fieldLink "SealLine" 59 "SealLine" "keys" "LSealLine$Keys;" ∈ qg := qg_mem (List.mem_of_getElem? (i := 307) rfl) rfl
theorem fpX10_59 : qFp RX10 59 10 7 (.object "SealLine$Keys") := ⟨RX10, TX10, 11, tyX10, rfl, by decide, jnX10, lk307, tyX10_ok, nmX10, rfl⟩
set_option maxRecDepth 100000 in
theorem lk268 : Cond.classLink "SealLine" 63 "SealLine$Judging" ∈ qg := qg_mem (List.mem_of_getElem? (i := 268) rfl) rfl
set_option maxRecDepth 100000 in
theorem lk269 : Cond.instantiable "SealLine$Judging" 3 ∈ qg := qg_mem (List.mem_of_getElem? (i := 269) rfl) rfl
theorem nwX10_63 : qNw RX10 63 1 3 [.int 0, .int 0, .int 0] := ⟨RX1, TX1, tyX1, rfl, jnX1, tyX1_ok, lk268, lk269, lk74, by decide +kernel, fun _ => rfl⟩
set_option maxRecDepth 100000 in
theorem lk308 : Cond.fieldLink "SealLine" 66 "SealLine" "judging" "LSealLine$Judging;" ∈ qg := qg_mem (List.mem_of_getElem? (i := 308) rfl) rfl
theorem fpX10_66 : qFp RX10 66 10 8 (.object "SealLine$Judging") := ⟨RX10, TX10, 11, tyX10, rfl, by decide, jnX10, lk308, tyX10_ok, nmX10, rfl⟩
set_option maxRecDepth 100000 in
theorem lk284 : Cond.classLink "SealLine" 70 "SealLine$Rule" ∈ qg := qg_mem (List.mem_of_getElem? (i := 284) rfl) rfl
set_option maxRecDepth 100000 in
theorem lk285 : Cond.instantiable "SealLine$Rule" 3 ∈ qg := qg_mem (List.mem_of_getElem? (i := 285) rfl) rfl
theorem nwX10_70 : qNw RX10 70 6 3 [.null, .null, .null] := ⟨RX6, TX6, tyX6, rfl, jnX6, tyX6_ok, lk284, lk285, lk75, by decide +kernel, fun _ => rfl⟩
set_option maxRecDepth 100000 in
theorem lk309 : Cond.fieldLink "SealLine" 75 "SealLine" "inForce" "LSealLine$Rule;" ∈ qg := qg_mem (List.mem_of_getElem? (i := 309) rfl) rfl
theorem fpX10_75 : qFp RX10 75 10 9 (.object "SealLine$Rule") := ⟨RX10, TX10, 11, tyX10, rfl, by decide, jnX10, lk309, tyX10_ok, nmX10, rfl⟩
set_option maxRecDepth 100000 in
theorem lk310 : Cond.fieldLink "SealLine" 79 "SealLine" "rules" "I" ∈ qg := qg_mem (List.mem_of_getElem? (i := 310) rfl) rfl
theorem fpX10_79 : qFp RX10 79 10 10 .int := ⟨RX10, TX10, 11, tyX10, rfl, by decide, jnX10, lk310, tyX10_ok, nmX10, rfl⟩
set_option maxRecDepth 100000 in
theorem lk90 : Cond.methodLink "SealLine" 11 yX8_init ∈ qg := qg_mem (List.mem_of_getElem? (i := 90) rfl) rfl
set_option maxRecDepth 100000 in
theorem lk92 : Cond.code yX8_init cX8_init 3 none ∈ qg := qg_mem (List.mem_of_getElem? (i := 92) rfl) rfl
set_option maxRecDepth 100000 in
theorem lk91 : Cond.instanceMethod yX8_init ∈ qg := qg_mem (List.mem_of_getElem? (i := 91) rfl) rfl
theorem iX8_init : qMi mX8_init 2 := ⟨⟨lk92, lk64, by decide +kernel, by decide⟩, lk91, rfl, rfl⟩
set_option maxRecDepth 100000 in
theorem lk116 : Cond.methodLink "SealLine" 23 yX7_init ∈ qg := qg_mem (List.mem_of_getElem? (i := 116) rfl) rfl
set_option maxRecDepth 100000 in
theorem lk118 : Cond.code yX7_init cX7_init 2 none ∈ qg := qg_mem (List.mem_of_getElem? (i := 118) rfl) rfl
set_option maxRecDepth 100000 in
theorem lk117 : Cond.instanceMethod yX7_init ∈ qg := qg_mem (List.mem_of_getElem? (i := 117) rfl) rfl
theorem iX7_init : qMi mX7_init 0 := ⟨⟨lk118, lk67, by decide +kernel, by decide⟩, lk117, rfl, rfl⟩
set_option maxRecDepth 100000 in
theorem lnX10_30 : qLn RX10 30 mX3_init "SealLine" := List.mem_filterMap.mpr ⟨_, List.mem_of_getElem? (i := 162) rfl, rfl⟩
set_option maxRecDepth 100000 in
theorem lk164 : Cond.code yX3_init cX3_init 1 none ∈ qg := qg_mem (List.mem_of_getElem? (i := 164) rfl) rfl
set_option maxRecDepth 100000 in
theorem lk163 : Cond.instanceMethod yX3_init ∈ qg := qg_mem (List.mem_of_getElem? (i := 163) rfl) rfl
theorem iX3_init : qMi mX3_init 0 := ⟨⟨lk164, lk69, by decide +kernel, by decide⟩, lk163, rfl, rfl⟩
set_option maxRecDepth 100000 in
theorem lk183 : Cond.methodLink "SealLine" 37 yX5_init ∈ qg := qg_mem (List.mem_of_getElem? (i := 183) rfl) rfl
set_option maxRecDepth 100000 in
theorem lk185 : Cond.code yX5_init cX5_init 1 none ∈ qg := qg_mem (List.mem_of_getElem? (i := 185) rfl) rfl
set_option maxRecDepth 100000 in
theorem lk184 : Cond.instanceMethod yX5_init ∈ qg := qg_mem (List.mem_of_getElem? (i := 184) rfl) rfl
theorem iX5_init : qMi mX5_init 0 := ⟨⟨lk185, lk70, by decide +kernel, by decide⟩, lk184, rfl, rfl⟩
set_option maxRecDepth 100000 in
theorem lnX10_44 : qLn RX10 44 mX9_init "SealLine" := List.mem_filterMap.mpr ⟨_, List.mem_of_getElem? (i := 205) rfl, rfl⟩
set_option maxRecDepth 100000 in
theorem lk207 : Cond.code yX9_init cX9_init 1 none ∈ qg := qg_mem (List.mem_of_getElem? (i := 207) rfl) rfl
set_option maxRecDepth 100000 in
theorem lk206 : Cond.instanceMethod yX9_init ∈ qg := qg_mem (List.mem_of_getElem? (i := 206) rfl) rfl
theorem iX9_init : qMi mX9_init 0 := ⟨⟨lk207, lk71, by decide +kernel, by decide⟩, lk206, rfl, rfl⟩
set_option maxRecDepth 100000 in
theorem lnX10_51 : qLn RX10 51 mX4_init "SealLine" := List.mem_filterMap.mpr ⟨_, List.mem_of_getElem? (i := 236) rfl, rfl⟩
set_option maxRecDepth 100000 in
theorem lk238 : Cond.code yX4_init cX4_init 1 none ∈ qg := qg_mem (List.mem_of_getElem? (i := 238) rfl) rfl
set_option maxRecDepth 100000 in
theorem lk237 : Cond.instanceMethod yX4_init ∈ qg := qg_mem (List.mem_of_getElem? (i := 237) rfl) rfl
theorem iX4_init : qMi mX4_init 0 := ⟨⟨lk238, lk72, by decide +kernel, by decide⟩, lk237, rfl, rfl⟩
set_option maxRecDepth 100000 in
theorem lk249 : Cond.methodLink "SealLine" 58 yX2_init ∈ qg := qg_mem (List.mem_of_getElem? (i := 249) rfl) rfl
set_option maxRecDepth 100000 in
theorem lk251 : Cond.code yX2_init cX2_init 1 none ∈ qg := qg_mem (List.mem_of_getElem? (i := 251) rfl) rfl
set_option maxRecDepth 100000 in
theorem lk250 : Cond.instanceMethod yX2_init ∈ qg := qg_mem (List.mem_of_getElem? (i := 250) rfl) rfl
theorem iX2_init : qMi mX2_init 0 := ⟨⟨lk251, lk73, by decide +kernel, by decide⟩, lk250, rfl, rfl⟩
set_option maxRecDepth 100000 in
theorem lnX10_65 : qLn RX10 65 mX1_init "SealLine" := List.mem_filterMap.mpr ⟨_, List.mem_of_getElem? (i := 270) rfl, rfl⟩
set_option maxRecDepth 100000 in
theorem lk272 : Cond.code yX1_init cX1_init 1 none ∈ qg := qg_mem (List.mem_of_getElem? (i := 272) rfl) rfl
set_option maxRecDepth 100000 in
theorem lk271 : Cond.instanceMethod yX1_init ∈ qg := qg_mem (List.mem_of_getElem? (i := 271) rfl) rfl
theorem iX1_init : qMi mX1_init 0 := ⟨⟨lk272, lk74, by decide +kernel, by decide⟩, lk271, rfl, rfl⟩
set_option maxRecDepth 100000 in
theorem lk286 : Cond.methodLink "SealLine" 72 yX6_init ∈ qg := qg_mem (List.mem_of_getElem? (i := 286) rfl) rfl
set_option maxRecDepth 100000 in
theorem lk288 : Cond.code yX6_init cX6_init 2 none ∈ qg := qg_mem (List.mem_of_getElem? (i := 288) rfl) rfl
set_option maxRecDepth 100000 in
theorem lk287 : Cond.instanceMethod yX6_init ∈ qg := qg_mem (List.mem_of_getElem? (i := 287) rfl) rfl
theorem iX6_init : qMi mX6_init 1 := ⟨⟨lk288, lk75, by decide +kernel, by decide⟩, lk287, rfl, rfl⟩
theorem fgX10_14 : qF RX10 14 10 0 := ⟨RX10, TX10, 11, rfl, by decide, jnX10, lk300⟩
set_option maxRecDepth 100000 in
theorem lk361 : Cond.methodLink "SealLine" 177 yX8_addRow ∈ qg := qg_mem (List.mem_of_getElem? (i := 361) rfl) rfl
set_option maxRecDepth 100000 in
theorem lk364 : Cond.code yX8_addRow cX8_addRow 1 (some .int) ∈ qg := qg_mem (List.mem_of_getElem? (i := 364) rfl) rfl
set_option maxRecDepth 100000 in
theorem lk362 : Cond.instanceMethod yX8_addRow ∈ qg := qg_mem (List.mem_of_getElem? (i := 362) rfl) rfl
set_option maxRecDepth 100000 in
theorem lk363 : Cond.selects "SealLine$Table" yX8_addRow yX8_addRow ∈ qg := qg_mem (List.mem_of_getElem? (i := 363) rfl) rfl
theorem vX8_addRow : qMv mX8_addRow 0 := ⟨⟨lk364, lk64, by decide +kernel, by decide⟩, lk362, lk363⟩
set_option maxRecDepth 100000 in
theorem lk366 : Cond.methodLink "SealLine" 124 yX8_set ∈ qg := qg_mem (List.mem_of_getElem? (i := 366) rfl) rfl
set_option maxRecDepth 100000 in
theorem lk369 : Cond.code yX8_set cX8_set 4 none ∈ qg := qg_mem (List.mem_of_getElem? (i := 369) rfl) rfl
set_option maxRecDepth 100000 in
theorem lk367 : Cond.instanceMethod yX8_set ∈ qg := qg_mem (List.mem_of_getElem? (i := 367) rfl) rfl
set_option maxRecDepth 100000 in
theorem lk368 : Cond.selects "SealLine$Table" yX8_set yX8_set ∈ qg := qg_mem (List.mem_of_getElem? (i := 368) rfl) rfl
theorem vX8_set : qMv mX8_set 3 := ⟨⟨lk369, lk64, by decide +kernel, by decide⟩, lk367, lk368⟩
theorem fgX10_24 : qF RX10 24 10 2 := ⟨RX10, TX10, 11, rfl, by decide, jnX10, lk302⟩
theorem fgX10_38 : qF RX10 38 10 4 := ⟨RX10, TX10, 11, rfl, by decide, jnX10, lk304⟩
set_option maxRecDepth 100000 in
theorem lk391 : Cond.methodLink "SealLine" 275 yX7_cleanBy ∈ qg := qg_mem (List.mem_of_getElem? (i := 391) rfl) rfl
set_option maxRecDepth 100000 in
theorem lk394 : Cond.code yX7_cleanBy cX7_cleanBy 6 none ∈ qg := qg_mem (List.mem_of_getElem? (i := 394) rfl) rfl
set_option maxRecDepth 100000 in
theorem lk392 : Cond.instanceMethod yX7_cleanBy ∈ qg := qg_mem (List.mem_of_getElem? (i := 392) rfl) rfl
set_option maxRecDepth 100000 in
theorem lk393 : Cond.selects "SealLine$Shelf" yX7_cleanBy yX7_cleanBy ∈ qg := qg_mem (List.mem_of_getElem? (i := 393) rfl) rfl
theorem vX7_cleanBy : qMv mX7_cleanBy 2 := ⟨⟨lk394, lk67, by decide +kernel, by decide⟩, lk392, lk393⟩
set_option maxRecDepth 100000 in
theorem lk423 : Cond.methodLink "SealLine" 279 yX5_look ∈ qg := qg_mem (List.mem_of_getElem? (i := 423) rfl) rfl
set_option maxRecDepth 100000 in
theorem lk338 : Cond.methodLink "SealLine" 83 yX10_isHand ∈ qg := qg_mem (List.mem_of_getElem? (i := 338) rfl) rfl
set_option maxRecDepth 100000 in
theorem lk341 : Cond.methodLink "SealLine" 87 yX8_isFull ∈ qg := qg_mem (List.mem_of_getElem? (i := 341) rfl) rfl
set_option maxRecDepth 100000 in
theorem lk345 : Cond.methodLink "SealLine" 91 yX7_numberOrNew ∈ qg := qg_mem (List.mem_of_getElem? (i := 345) rfl) rfl
set_option maxRecDepth 100000 in
theorem lk348 : Cond.code yX7_numberOrNew cX7_numberOrNew 5 (some .int) ∈ qg := qg_mem (List.mem_of_getElem? (i := 348) rfl) rfl
set_option maxRecDepth 100000 in
theorem lk346 : Cond.instanceMethod yX7_numberOrNew ∈ qg := qg_mem (List.mem_of_getElem? (i := 346) rfl) rfl
set_option maxRecDepth 100000 in
theorem lk347 : Cond.selects "SealLine$Shelf" yX7_numberOrNew yX7_numberOrNew ∈ qg := qg_mem (List.mem_of_getElem? (i := 347) rfl) rfl
theorem vX7_numberOrNew : qMv mX7_numberOrNew 1 := ⟨⟨lk348, lk67, by decide +kernel, by decide⟩, lk346, lk347⟩
set_option maxRecDepth 100000 in
theorem lk357 : Cond.methodLink "SealLine" 95 yX10_addNote ∈ qg := qg_mem (List.mem_of_getElem? (i := 357) rfl) rfl
set_option maxRecDepth 100000 in
theorem lk360 : Cond.code yX10_addNote cX10_addNote 5 (some .int) ∈ qg := qg_mem (List.mem_of_getElem? (i := 360) rfl) rfl
set_option maxRecDepth 100000 in
theorem lk359 : Cond.instanceMethod yX10_addNote ∈ qg := qg_mem (List.mem_of_getElem? (i := 359) rfl) rfl
set_option maxRecDepth 100000 in
theorem lk0 : Cond.selects "SealLine" yX10_addNote yX10_addNote ∈ qg := qg_mem (List.mem_of_getElem? (i := 0) rfl) rfl
theorem vX10_addNote : qMv mX10_addNote 3 := ⟨⟨lk360, lk63, by decide +kernel, by decide⟩, lk359, lk0⟩
set_option maxRecDepth 100000 in
theorem lk374 : Cond.methodLink "SealLine" 99 yX7_addMaker ∈ qg := qg_mem (List.mem_of_getElem? (i := 374) rfl) rfl
set_option maxRecDepth 100000 in
theorem lk377 : Cond.code yX7_addMaker cX7_addMaker 3 none ∈ qg := qg_mem (List.mem_of_getElem? (i := 377) rfl) rfl
set_option maxRecDepth 100000 in
theorem lk375 : Cond.instanceMethod yX7_addMaker ∈ qg := qg_mem (List.mem_of_getElem? (i := 375) rfl) rfl
set_option maxRecDepth 100000 in
theorem lk376 : Cond.selects "SealLine$Shelf" yX7_addMaker yX7_addMaker ∈ qg := qg_mem (List.mem_of_getElem? (i := 376) rfl) rfl
theorem vX7_addMaker : qMv mX7_addMaker 2 := ⟨⟨lk377, lk67, by decide +kernel, by decide⟩, lk375, lk376⟩
set_option maxRecDepth 100000 in
theorem lk387 : Cond.methodLink "SealLine" 102 yX10_settle ∈ qg := qg_mem (List.mem_of_getElem? (i := 387) rfl) rfl
set_option maxRecDepth 100000 in
theorem lk390 : Cond.code yX10_settle cX10_settle 2 none ∈ qg := qg_mem (List.mem_of_getElem? (i := 390) rfl) rfl
set_option maxRecDepth 100000 in
theorem lk389 : Cond.instanceMethod yX10_settle ∈ qg := qg_mem (List.mem_of_getElem? (i := 389) rfl) rfl
set_option maxRecDepth 100000 in
theorem lk3 : Cond.selects "SealLine" yX10_settle yX10_settle ∈ qg := qg_mem (List.mem_of_getElem? (i := 3) rfl) rfl
theorem vX10_settle : qMv mX10_settle 1 := ⟨⟨lk390, lk63, by decide +kernel, by decide⟩, lk389, lk3⟩
set_option maxRecDepth 100000 in
theorem lk443 : Cond.methodLink "SealLine" 167 yX7_has ∈ qg := qg_mem (List.mem_of_getElem? (i := 443) rfl) rfl
set_option maxRecDepth 100000 in
theorem lk449 : Cond.methodLink "SealLine" 264 yX7_rowHas ∈ qg := qg_mem (List.mem_of_getElem? (i := 449) rfl) rfl
set_option maxRecDepth 100000 in
theorem lk465 : Cond.constantLong "SealLine" 271 6364136223846793005 ∈ qg := qg_mem (List.mem_of_getElem? (i := 465) rfl) rfl
set_option maxRecDepth 100000 in
theorem lk466 : Cond.constantLong "SealLine" 273 1442695040888963407 ∈ qg := qg_mem (List.mem_of_getElem? (i := 466) rfl) rfl
set_option maxRecDepth 100000 in
theorem lk461 : Cond.methodLink "SealLine" 237 yX7_hashOf ∈ qg := qg_mem (List.mem_of_getElem? (i := 461) rfl) rfl
set_option maxRecDepth 100000 in
theorem lk464 : Cond.code yX7_hashOf cX7_hashOf 2 (some .long) ∈ qg := qg_mem (List.mem_of_getElem? (i := 464) rfl) rfl
set_option maxRecDepth 100000 in
theorem lk462 : Cond.instanceMethod yX7_hashOf ∈ qg := qg_mem (List.mem_of_getElem? (i := 462) rfl) rfl
set_option maxRecDepth 100000 in
theorem lk463 : Cond.selects "SealLine$Shelf" yX7_hashOf yX7_hashOf ∈ qg := qg_mem (List.mem_of_getElem? (i := 463) rfl) rfl
theorem vX7_hashOf : qMv mX7_hashOf 1 := ⟨⟨lk464, lk67, by decide +kernel, by decide⟩, lk462, lk463⟩
set_option maxRecDepth 100000 in
theorem lk457 : Cond.methodLink "SealLine" 267 yX10_stirred ∈ qg := qg_mem (List.mem_of_getElem? (i := 457) rfl) rfl
set_option maxRecDepth 100000 in
theorem lk460 : Cond.code yX10_stirred cX10_stirred 4 (some .long) ∈ qg := qg_mem (List.mem_of_getElem? (i := 460) rfl) rfl
set_option maxRecDepth 100000 in
theorem lk459 : Cond.instanceMethod yX10_stirred ∈ qg := qg_mem (List.mem_of_getElem? (i := 459) rfl) rfl
set_option maxRecDepth 100000 in
theorem lk9 : Cond.selects "SealLine" yX10_stirred yX10_stirred ∈ qg := qg_mem (List.mem_of_getElem? (i := 9) rfl) rfl
theorem vX10_stirred : qMv mX10_stirred 2 := ⟨⟨lk460, lk63, by decide +kernel, by decide⟩, lk459, lk9⟩
set_option maxRecDepth 100000 in
theorem lk436 : Cond.methodLink "SealLine" 106 yX10_isTool ∈ qg := qg_mem (List.mem_of_getElem? (i := 436) rfl) rfl
set_option maxRecDepth 100000 in
theorem lk439 : Cond.methodLink "SealLine" 109 yX10_areInputs ∈ qg := qg_mem (List.mem_of_getElem? (i := 439) rfl) rfl
set_option maxRecDepth 100000 in
theorem lk442 : Cond.code yX10_areInputs cX10_areInputs 4 (some .boolean) ∈ qg := qg_mem (List.mem_of_getElem? (i := 442) rfl) rfl
set_option maxRecDepth 100000 in
theorem lk441 : Cond.instanceMethod yX10_areInputs ∈ qg := qg_mem (List.mem_of_getElem? (i := 441) rfl) rfl
set_option maxRecDepth 100000 in
theorem lk6 : Cond.selects "SealLine" yX10_areInputs yX10_areInputs ∈ qg := qg_mem (List.mem_of_getElem? (i := 6) rfl) rfl
theorem vX10_areInputs : qMv mX10_areInputs 3 := ⟨⟨lk442, lk63, by decide +kernel, by decide⟩, lk441, lk6⟩
set_option maxRecDepth 100000 in
theorem lk444 : Cond.methodLink "SealLine" 113 yX7_numberOf ∈ qg := qg_mem (List.mem_of_getElem? (i := 444) rfl) rfl
set_option maxRecDepth 100000 in
theorem lk445 : Cond.methodLink "SealLine" 116 yX10_isInRowOfOne ∈ qg := qg_mem (List.mem_of_getElem? (i := 445) rfl) rfl
set_option maxRecDepth 100000 in
theorem lk448 : Cond.code yX10_isInRowOfOne cX10_isInRowOfOne 5 (some .boolean) ∈ qg := qg_mem (List.mem_of_getElem? (i := 448) rfl) rfl
set_option maxRecDepth 100000 in
theorem lk447 : Cond.instanceMethod yX10_isInRowOfOne ∈ qg := qg_mem (List.mem_of_getElem? (i := 447) rfl) rfl
set_option maxRecDepth 100000 in
theorem lk7 : Cond.selects "SealLine" yX10_isInRowOfOne yX10_isInRowOfOne ∈ qg := qg_mem (List.mem_of_getElem? (i := 7) rfl) rfl
theorem vX10_isInRowOfOne : qMv mX10_isInRowOfOne 4 := ⟨⟨lk448, lk63, by decide +kernel, by decide⟩, lk447, lk7⟩
set_option maxRecDepth 100000 in
theorem lk453 : Cond.methodLink "SealLine" 120 yX10_mixed ∈ qg := qg_mem (List.mem_of_getElem? (i := 453) rfl) rfl
set_option maxRecDepth 100000 in
theorem lk456 : Cond.code yX10_mixed cX10_mixed 7 (some .long) ∈ qg := qg_mem (List.mem_of_getElem? (i := 456) rfl) rfl
set_option maxRecDepth 100000 in
theorem lk455 : Cond.instanceMethod yX10_mixed ∈ qg := qg_mem (List.mem_of_getElem? (i := 455) rfl) rfl
set_option maxRecDepth 100000 in
theorem lk8 : Cond.selects "SealLine" yX10_mixed yX10_mixed ∈ qg := qg_mem (List.mem_of_getElem? (i := 8) rfl) rfl
theorem vX10_mixed : qMv mX10_mixed 4 := ⟨⟨lk456, lk63, by decide +kernel, by decide⟩, lk455, lk8⟩
set_option maxRecDepth 100000 in
theorem lk467 : Cond.methodLink "SealLine" 128 yX10_bit ∈ qg := qg_mem (List.mem_of_getElem? (i := 467) rfl) rfl
set_option maxRecDepth 100000 in
theorem lk470 : Cond.methodLink "SealLine" 132 yX7_addBuilder ∈ qg := qg_mem (List.mem_of_getElem? (i := 470) rfl) rfl
set_option maxRecDepth 100000 in
theorem lk473 : Cond.code yX7_addBuilder cX7_addBuilder 3 none ∈ qg := qg_mem (List.mem_of_getElem? (i := 473) rfl) rfl
set_option maxRecDepth 100000 in
theorem lk471 : Cond.instanceMethod yX7_addBuilder ∈ qg := qg_mem (List.mem_of_getElem? (i := 471) rfl) rfl
set_option maxRecDepth 100000 in
theorem lk472 : Cond.selects "SealLine$Shelf" yX7_addBuilder yX7_addBuilder ∈ qg := qg_mem (List.mem_of_getElem? (i := 472) rfl) rfl
theorem vX7_addBuilder : qMv mX7_addBuilder 2 := ⟨⟨lk473, lk67, by decide +kernel, by decide⟩, lk471, lk472⟩
set_option maxRecDepth 100000 in
theorem lk474 : Cond.methodLink "SealLine" 135 yX7_addInput ∈ qg := qg_mem (List.mem_of_getElem? (i := 474) rfl) rfl
set_option maxRecDepth 100000 in
theorem lk477 : Cond.code yX7_addInput cX7_addInput 4 none ∈ qg := qg_mem (List.mem_of_getElem? (i := 477) rfl) rfl
set_option maxRecDepth 100000 in
theorem lk475 : Cond.instanceMethod yX7_addInput ∈ qg := qg_mem (List.mem_of_getElem? (i := 475) rfl) rfl
set_option maxRecDepth 100000 in
theorem lk476 : Cond.selects "SealLine$Shelf" yX7_addInput yX7_addInput ∈ qg := qg_mem (List.mem_of_getElem? (i := 476) rfl) rfl
theorem vX7_addInput : qMv mX7_addInput 2 := ⟨⟨lk477, lk67, by decide +kernel, by decide⟩, lk475, lk476⟩
set_option maxRecDepth 100000 in
theorem lk490 : Cond.methodLink "SealLine" 138 yX10_addSaying ∈ qg := qg_mem (List.mem_of_getElem? (i := 490) rfl) rfl
set_option maxRecDepth 100000 in
theorem lk493 : Cond.code yX10_addSaying cX10_addSaying 6 (some .int) ∈ qg := qg_mem (List.mem_of_getElem? (i := 493) rfl) rfl
set_option maxRecDepth 100000 in
theorem lk492 : Cond.instanceMethod yX10_addSaying ∈ qg := qg_mem (List.mem_of_getElem? (i := 492) rfl) rfl
set_option maxRecDepth 100000 in
theorem lk10 : Cond.selects "SealLine" yX10_addSaying yX10_addSaying ∈ qg := qg_mem (List.mem_of_getElem? (i := 10) rfl) rfl
theorem vX10_addSaying : qMv mX10_addSaying 4 := ⟨⟨lk493, lk63, by decide +kernel, by decide⟩, lk492, lk10⟩
set_option maxRecDepth 100000 in
theorem lk494 : Cond.methodLink "SealLine" 142 yX7_setTry ∈ qg := qg_mem (List.mem_of_getElem? (i := 494) rfl) rfl
set_option maxRecDepth 100000 in
theorem lk497 : Cond.code yX7_setTry cX7_setTry 4 none ∈ qg := qg_mem (List.mem_of_getElem? (i := 497) rfl) rfl
set_option maxRecDepth 100000 in
theorem lk495 : Cond.instanceMethod yX7_setTry ∈ qg := qg_mem (List.mem_of_getElem? (i := 495) rfl) rfl
set_option maxRecDepth 100000 in
theorem lk496 : Cond.selects "SealLine$Shelf" yX7_setTry yX7_setTry ∈ qg := qg_mem (List.mem_of_getElem? (i := 496) rfl) rfl
theorem vX7_setTry : qMv mX7_setTry 3 := ⟨⟨lk497, lk67, by decide +kernel, by decide⟩, lk495, lk496⟩
set_option maxRecDepth 100000 in
theorem lk502 : Cond.methodLink "SealLine" 146 yX7_setReview ∈ qg := qg_mem (List.mem_of_getElem? (i := 502) rfl) rfl
set_option maxRecDepth 100000 in
theorem lk505 : Cond.code yX7_setReview cX7_setReview 4 none ∈ qg := qg_mem (List.mem_of_getElem? (i := 505) rfl) rfl
set_option maxRecDepth 100000 in
theorem lk503 : Cond.instanceMethod yX7_setReview ∈ qg := qg_mem (List.mem_of_getElem? (i := 503) rfl) rfl
set_option maxRecDepth 100000 in
theorem lk504 : Cond.selects "SealLine$Shelf" yX7_setReview yX7_setReview ∈ qg := qg_mem (List.mem_of_getElem? (i := 504) rfl) rfl
theorem vX7_setReview : qMv mX7_setReview 3 := ⟨⟨lk505, lk67, by decide +kernel, by decide⟩, lk503, lk504⟩
theorem fgX10_45 : qF RX10 45 10 5 := ⟨RX10, TX10, 11, rfl, by decide, jnX10, lk305⟩
set_option maxRecDepth 100000 in
theorem lk510 : Cond.methodLink "SealLine" 149 yX9_add ∈ qg := qg_mem (List.mem_of_getElem? (i := 510) rfl) rfl
set_option maxRecDepth 100000 in
theorem lk513 : Cond.code yX9_add cX9_add 5 (some .int) ∈ qg := qg_mem (List.mem_of_getElem? (i := 513) rfl) rfl
set_option maxRecDepth 100000 in
theorem lk511 : Cond.instanceMethod yX9_add ∈ qg := qg_mem (List.mem_of_getElem? (i := 511) rfl) rfl
set_option maxRecDepth 100000 in
theorem lk512 : Cond.selects "SealLine$Tape" yX9_add yX9_add ∈ qg := qg_mem (List.mem_of_getElem? (i := 512) rfl) rfl
theorem vX9_add : qMv mX9_add 1 := ⟨⟨lk513, lk71, by decide +kernel, by decide⟩, lk511, lk512⟩
set_option maxRecDepth 100000 in
theorem lk519 : Cond.methodLink "SealLine" 153 yX9_cut ∈ qg := qg_mem (List.mem_of_getElem? (i := 519) rfl) rfl
set_option maxRecDepth 100000 in
theorem lk522 : Cond.code yX9_cut cX9_cut 2 (some .boolean) ∈ qg := qg_mem (List.mem_of_getElem? (i := 522) rfl) rfl
set_option maxRecDepth 100000 in
theorem lk520 : Cond.instanceMethod yX9_cut ∈ qg := qg_mem (List.mem_of_getElem? (i := 520) rfl) rfl
set_option maxRecDepth 100000 in
theorem lk521 : Cond.selects "SealLine$Tape" yX9_cut yX9_cut ∈ qg := qg_mem (List.mem_of_getElem? (i := 521) rfl) rfl
theorem vX9_cut : qMv mX9_cut 1 := ⟨⟨lk522, lk71, by decide +kernel, by decide⟩, lk520, lk521⟩
set_option maxRecDepth 100000 in
theorem lk527 : Cond.methodLink "SealLine" 156 yX9_firstFault ∈ qg := qg_mem (List.mem_of_getElem? (i := 527) rfl) rfl
set_option maxRecDepth 100000 in
theorem lk530 : Cond.code yX9_firstFault cX9_firstFault 2 (some .int) ∈ qg := qg_mem (List.mem_of_getElem? (i := 530) rfl) rfl
set_option maxRecDepth 100000 in
theorem lk528 : Cond.instanceMethod yX9_firstFault ∈ qg := qg_mem (List.mem_of_getElem? (i := 528) rfl) rfl
set_option maxRecDepth 100000 in
theorem lk529 : Cond.selects "SealLine$Tape" yX9_firstFault yX9_firstFault ∈ qg := qg_mem (List.mem_of_getElem? (i := 529) rfl) rfl
theorem vX9_firstFault : qMv mX9_firstFault 0 := ⟨⟨lk530, lk71, by decide +kernel, by decide⟩, lk528, lk529⟩
theorem fgX10_79 : qF RX10 79 10 10 := ⟨RX10, TX10, 11, rfl, by decide, jnX10, lk310⟩
theorem fgX10_66 : qF RX10 66 10 8 := ⟨RX10, TX10, 11, rfl, by decide, jnX10, lk308⟩
set_option maxRecDepth 100000 in
theorem lk569 : Cond.methodLink "SealLine" 160 yX9_readSteps ∈ qg := qg_mem (List.mem_of_getElem? (i := 569) rfl) rfl
set_option maxRecDepth 100000 in
theorem lk572 : Cond.code yX9_readSteps cX9_readSteps 1 (some (.array .int)) ∈ qg := qg_mem (List.mem_of_getElem? (i := 572) rfl) rfl
set_option maxRecDepth 100000 in
theorem lk570 : Cond.instanceMethod yX9_readSteps ∈ qg := qg_mem (List.mem_of_getElem? (i := 570) rfl) rfl
set_option maxRecDepth 100000 in
theorem lk571 : Cond.selects "SealLine$Tape" yX9_readSteps yX9_readSteps ∈ qg := qg_mem (List.mem_of_getElem? (i := 571) rfl) rfl
theorem vX9_readSteps : qMv mX9_readSteps 0 := ⟨⟨lk572, lk71, by decide +kernel, by decide⟩, lk570, lk571⟩
set_option maxRecDepth 100000 in
theorem lk589 : Cond.methodLink "SealLine" 164 yX1_forget ∈ qg := qg_mem (List.mem_of_getElem? (i := 589) rfl) rfl
set_option maxRecDepth 100000 in
theorem lk592 : Cond.code yX1_forget cX1_forget 1 none ∈ qg := qg_mem (List.mem_of_getElem? (i := 592) rfl) rfl
set_option maxRecDepth 100000 in
theorem lk590 : Cond.instanceMethod yX1_forget ∈ qg := qg_mem (List.mem_of_getElem? (i := 590) rfl) rfl
set_option maxRecDepth 100000 in
theorem lk591 : Cond.selects "SealLine$Judging" yX1_forget yX1_forget ∈ qg := qg_mem (List.mem_of_getElem? (i := 591) rfl) rfl
theorem vX1_forget : qMv mX1_forget 0 := ⟨⟨lk592, lk74, by decide +kernel, by decide⟩, lk590, lk591⟩
theorem fgX10_52 : qF RX10 52 10 6 := ⟨RX10, TX10, 11, rfl, by decide, jnX10, lk306⟩
set_option maxRecDepth 100000 in
theorem lk597 : Cond.methodLink "SealLine" 170 yX4_add ∈ qg := qg_mem (List.mem_of_getElem? (i := 597) rfl) rfl
set_option maxRecDepth 100000 in
theorem lk600 : Cond.code yX4_add cX4_add 2 (some .int) ∈ qg := qg_mem (List.mem_of_getElem? (i := 600) rfl) rfl
set_option maxRecDepth 100000 in
theorem lk598 : Cond.instanceMethod yX4_add ∈ qg := qg_mem (List.mem_of_getElem? (i := 598) rfl) rfl
set_option maxRecDepth 100000 in
theorem lk599 : Cond.selects "SealLine$Queue" yX4_add yX4_add ∈ qg := qg_mem (List.mem_of_getElem? (i := 599) rfl) rfl
theorem vX4_add : qMv mX4_add 1 := ⟨⟨lk600, lk72, by decide +kernel, by decide⟩, lk598, lk599⟩
set_option maxRecDepth 100000 in
theorem lk609 : Cond.methodLink "SealLine" 171 yX4_removeFirst ∈ qg := qg_mem (List.mem_of_getElem? (i := 609) rfl) rfl
set_option maxRecDepth 100000 in
theorem lk612 : Cond.code yX4_removeFirst cX4_removeFirst 2 (some .int) ∈ qg := qg_mem (List.mem_of_getElem? (i := 612) rfl) rfl
set_option maxRecDepth 100000 in
theorem lk610 : Cond.instanceMethod yX4_removeFirst ∈ qg := qg_mem (List.mem_of_getElem? (i := 610) rfl) rfl
set_option maxRecDepth 100000 in
theorem lk611 : Cond.selects "SealLine$Queue" yX4_removeFirst yX4_removeFirst ∈ qg := qg_mem (List.mem_of_getElem? (i := 611) rfl) rfl
theorem vX4_removeFirst : qMv mX4_removeFirst 0 := ⟨⟨lk612, lk72, by decide +kernel, by decide⟩, lk610, lk611⟩
theorem fgX10_75 : qF RX10 75 10 9 := ⟨RX10, TX10, 11, rfl, by decide, jnX10, lk309⟩
set_option maxRecDepth 100000 in
theorem lk648 : Cond.methodLink "SealLine" 219 yX7_goodReviews ∈ qg := qg_mem (List.mem_of_getElem? (i := 648) rfl) rfl
set_option maxRecDepth 100000 in
theorem lk651 : Cond.code yX7_goodReviews cX7_goodReviews 2 (some .int) ∈ qg := qg_mem (List.mem_of_getElem? (i := 651) rfl) rfl
set_option maxRecDepth 100000 in
theorem lk649 : Cond.instanceMethod yX7_goodReviews ∈ qg := qg_mem (List.mem_of_getElem? (i := 649) rfl) rfl
set_option maxRecDepth 100000 in
theorem lk650 : Cond.selects "SealLine$Shelf" yX7_goodReviews yX7_goodReviews ∈ qg := qg_mem (List.mem_of_getElem? (i := 650) rfl) rfl
theorem vX7_goodReviews : qMv mX7_goodReviews 1 := ⟨⟨lk651, lk67, by decide +kernel, by decide⟩, lk649, lk650⟩
set_option maxRecDepth 100000 in
theorem lk659 : Cond.methodLink "SealLine" 222 yX7_goodBuilders ∈ qg := qg_mem (List.mem_of_getElem? (i := 659) rfl) rfl
set_option maxRecDepth 100000 in
theorem lk662 : Cond.code yX7_goodBuilders cX7_goodBuilders 2 (some .int) ∈ qg := qg_mem (List.mem_of_getElem? (i := 662) rfl) rfl
set_option maxRecDepth 100000 in
theorem lk660 : Cond.instanceMethod yX7_goodBuilders ∈ qg := qg_mem (List.mem_of_getElem? (i := 660) rfl) rfl
set_option maxRecDepth 100000 in
theorem lk661 : Cond.selects "SealLine$Shelf" yX7_goodBuilders yX7_goodBuilders ∈ qg := qg_mem (List.mem_of_getElem? (i := 661) rfl) rfl
theorem vX7_goodBuilders : qMv mX7_goodBuilders 1 := ⟨⟨lk662, lk67, by decide +kernel, by decide⟩, lk660, lk661⟩
set_option maxRecDepth 100000 in
theorem lk663 : Cond.methodLink "SealLine" 288 yX6_holdingTries ∈ qg := qg_mem (List.mem_of_getElem? (i := 663) rfl) rfl
set_option maxRecDepth 100000 in
theorem lk677 : Cond.methodLink "SealLine" 216 yX7_goodTries ∈ qg := qg_mem (List.mem_of_getElem? (i := 677) rfl) rfl
set_option maxRecDepth 100000 in
theorem lk680 : Cond.code yX7_goodTries cX7_goodTries 2 (some .int) ∈ qg := qg_mem (List.mem_of_getElem? (i := 680) rfl) rfl
set_option maxRecDepth 100000 in
theorem lk678 : Cond.instanceMethod yX7_goodTries ∈ qg := qg_mem (List.mem_of_getElem? (i := 678) rfl) rfl
set_option maxRecDepth 100000 in
theorem lk679 : Cond.selects "SealLine$Shelf" yX7_goodTries yX7_goodTries ∈ qg := qg_mem (List.mem_of_getElem? (i := 679) rfl) rfl
theorem vX7_goodTries : qMv mX7_goodTries 1 := ⟨⟨lk680, lk67, by decide +kernel, by decide⟩, lk678, lk679⟩
set_option maxRecDepth 100000 in
theorem lk685 : Cond.methodLink "SealLine" 291 yX5_marked ∈ qg := qg_mem (List.mem_of_getElem? (i := 685) rfl) rfl
set_option maxRecDepth 100000 in
theorem lk688 : Cond.code yX5_marked cX5_marked 1 (some (.object "SealLine$FileSet")) ∈ qg := qg_mem (List.mem_of_getElem? (i := 688) rfl) rfl
set_option maxRecDepth 100000 in
theorem lk686 : Cond.instanceMethod yX5_marked ∈ qg := qg_mem (List.mem_of_getElem? (i := 686) rfl) rfl
set_option maxRecDepth 100000 in
theorem lk687 : Cond.selects "SealLine$Recalls" yX5_marked yX5_marked ∈ qg := qg_mem (List.mem_of_getElem? (i := 687) rfl) rfl
theorem vX5_marked : qMv mX5_marked 0 := ⟨⟨lk688, lk70, by decide +kernel, by decide⟩, lk686, lk687⟩
set_option maxRecDepth 100000 in
theorem lk689 : Cond.methodLink "SealLine" 295 yX7_rowMeets ∈ qg := qg_mem (List.mem_of_getElem? (i := 689) rfl) rfl
set_option maxRecDepth 100000 in
theorem lk692 : Cond.code yX7_rowMeets cX7_rowMeets 3 (some .boolean) ∈ qg := qg_mem (List.mem_of_getElem? (i := 692) rfl) rfl
set_option maxRecDepth 100000 in
theorem lk690 : Cond.instanceMethod yX7_rowMeets ∈ qg := qg_mem (List.mem_of_getElem? (i := 690) rfl) rfl
set_option maxRecDepth 100000 in
theorem lk691 : Cond.selects "SealLine$Shelf" yX7_rowMeets yX7_rowMeets ∈ qg := qg_mem (List.mem_of_getElem? (i := 691) rfl) rfl
theorem vX7_rowMeets : qMv mX7_rowMeets 2 := ⟨⟨lk692, lk67, by decide +kernel, by decide⟩, lk690, lk691⟩
theorem fgX10_59 : qF RX10 59 10 7 := ⟨RX10, TX10, 11, rfl, by decide, jnX10, lk307⟩
set_option maxRecDepth 100000 in
theorem lk626 : Cond.methodLink "SealLine" 258 yX4_first ∈ qg := qg_mem (List.mem_of_getElem? (i := 626) rfl) rfl
set_option maxRecDepth 100000 in
theorem lk627 : Cond.methodLink "SealLine" 228 yX7_makersOf ∈ qg := qg_mem (List.mem_of_getElem? (i := 627) rfl) rfl
set_option maxRecDepth 100000 in
theorem lk632 : Cond.methodLink "SealLine" 282 yX2_canSeal ∈ qg := qg_mem (List.mem_of_getElem? (i := 632) rfl) rfl
set_option maxRecDepth 100000 in
theorem lk643 : Cond.methodLink "SealLine" 210 yX7_isClean ∈ qg := qg_mem (List.mem_of_getElem? (i := 643) rfl) rfl
set_option maxRecDepth 100000 in
theorem lk644 : Cond.methodLink "SealLine" 285 yX10_ruleHolds ∈ qg := qg_mem (List.mem_of_getElem? (i := 644) rfl) rfl
set_option maxRecDepth 100000 in
theorem lk647 : Cond.code yX10_ruleHolds cX10_ruleHolds 3 (some .boolean) ∈ qg := qg_mem (List.mem_of_getElem? (i := 647) rfl) rfl
set_option maxRecDepth 100000 in
theorem lk646 : Cond.instanceMethod yX10_ruleHolds ∈ qg := qg_mem (List.mem_of_getElem? (i := 646) rfl) rfl
set_option maxRecDepth 100000 in
theorem lk20 : Cond.selects "SealLine" yX10_ruleHolds yX10_ruleHolds ∈ qg := qg_mem (List.mem_of_getElem? (i := 20) rfl) rfl
theorem vX10_ruleHolds : qMv mX10_ruleHolds 1 := ⟨⟨lk647, lk63, by decide +kernel, by decide⟩, lk646, lk20⟩
set_option maxRecDepth 100000 in
theorem lk681 : Cond.methodLink "SealLine" 213 yX10_isCalledBack ∈ qg := qg_mem (List.mem_of_getElem? (i := 681) rfl) rfl
set_option maxRecDepth 100000 in
theorem lk684 : Cond.code yX10_isCalledBack cX10_isCalledBack 2 (some .boolean) ∈ qg := qg_mem (List.mem_of_getElem? (i := 684) rfl) rfl
set_option maxRecDepth 100000 in
theorem lk683 : Cond.instanceMethod yX10_isCalledBack ∈ qg := qg_mem (List.mem_of_getElem? (i := 683) rfl) rfl
set_option maxRecDepth 100000 in
theorem lk22 : Cond.selects "SealLine" yX10_isCalledBack yX10_isCalledBack ∈ qg := qg_mem (List.mem_of_getElem? (i := 22) rfl) rfl
theorem vX10_isCalledBack : qMv mX10_isCalledBack 1 := ⟨⟨lk684, lk63, by decide +kernel, by decide⟩, lk683, lk22⟩
theorem fgX10_18 : qF RX10 18 10 1 := ⟨RX10, TX10, 11, rfl, by decide, jnX10, lk301⟩
set_option maxRecDepth 100000 in
theorem lk622 : Cond.methodLink "SealLine" 174 yX10_refusal ∈ qg := qg_mem (List.mem_of_getElem? (i := 622) rfl) rfl
set_option maxRecDepth 100000 in
theorem lk625 : Cond.code yX10_refusal cX10_refusal 5 (some .int) ∈ qg := qg_mem (List.mem_of_getElem? (i := 625) rfl) rfl
set_option maxRecDepth 100000 in
theorem lk624 : Cond.instanceMethod yX10_refusal ∈ qg := qg_mem (List.mem_of_getElem? (i := 624) rfl) rfl
set_option maxRecDepth 100000 in
theorem lk18 : Cond.selects "SealLine" yX10_refusal yX10_refusal ∈ qg := qg_mem (List.mem_of_getElem? (i := 18) rfl) rfl
theorem vX10_refusal : qMv mX10_refusal 3 := ⟨⟨lk625, lk63, by decide +kernel, by decide⟩, lk624, lk18⟩
set_option maxRecDepth 100000 in
theorem lk697 : Cond.methodLink "SealLine" 180 yX2_useOnce ∈ qg := qg_mem (List.mem_of_getElem? (i := 697) rfl) rfl
set_option maxRecDepth 100000 in
theorem lk700 : Cond.code yX2_useOnce cX2_useOnce 2 none ∈ qg := qg_mem (List.mem_of_getElem? (i := 700) rfl) rfl
set_option maxRecDepth 100000 in
theorem lk698 : Cond.instanceMethod yX2_useOnce ∈ qg := qg_mem (List.mem_of_getElem? (i := 698) rfl) rfl
set_option maxRecDepth 100000 in
theorem lk699 : Cond.selects "SealLine$Keys" yX2_useOnce yX2_useOnce ∈ qg := qg_mem (List.mem_of_getElem? (i := 699) rfl) rfl
theorem vX2_useOnce : qMv mX2_useOnce 1 := ⟨⟨lk700, lk73, by decide +kernel, by decide⟩, lk698, lk699⟩
set_option maxRecDepth 100000 in
theorem lk710 : Cond.methodLink "SealLine" 183 yX2_addUses ∈ qg := qg_mem (List.mem_of_getElem? (i := 710) rfl) rfl
set_option maxRecDepth 100000 in
theorem lk713 : Cond.code yX2_addUses cX2_addUses 3 (some .int) ∈ qg := qg_mem (List.mem_of_getElem? (i := 713) rfl) rfl
set_option maxRecDepth 100000 in
theorem lk711 : Cond.instanceMethod yX2_addUses ∈ qg := qg_mem (List.mem_of_getElem? (i := 711) rfl) rfl
set_option maxRecDepth 100000 in
theorem lk712 : Cond.selects "SealLine$Keys" yX2_addUses yX2_addUses ∈ qg := qg_mem (List.mem_of_getElem? (i := 712) rfl) rfl
theorem vX2_addUses : qMv mX2_addUses 2 := ⟨⟨lk713, lk73, by decide +kernel, by decide⟩, lk711, lk712⟩
set_option maxRecDepth 100000 in
theorem lk719 : Cond.methodLink "SealLine" 187 yX2_endOne ∈ qg := qg_mem (List.mem_of_getElem? (i := 719) rfl) rfl
set_option maxRecDepth 100000 in
theorem lk722 : Cond.code yX2_endOne cX2_endOne 2 (some .boolean) ∈ qg := qg_mem (List.mem_of_getElem? (i := 722) rfl) rfl
set_option maxRecDepth 100000 in
theorem lk720 : Cond.instanceMethod yX2_endOne ∈ qg := qg_mem (List.mem_of_getElem? (i := 720) rfl) rfl
set_option maxRecDepth 100000 in
theorem lk721 : Cond.selects "SealLine$Keys" yX2_endOne yX2_endOne ∈ qg := qg_mem (List.mem_of_getElem? (i := 721) rfl) rfl
theorem vX2_endOne : qMv mX2_endOne 1 := ⟨⟨lk722, lk73, by decide +kernel, by decide⟩, lk720, lk721⟩
set_option maxRecDepth 100000 in
theorem lk727 : Cond.methodLink "SealLine" 190 yX8_size ∈ qg := qg_mem (List.mem_of_getElem? (i := 727) rfl) rfl
set_option maxRecDepth 100000 in
theorem lk728 : Cond.methodLink "SealLine" 193 yX2_loseOne ∈ qg := qg_mem (List.mem_of_getElem? (i := 728) rfl) rfl
set_option maxRecDepth 100000 in
theorem lk731 : Cond.code yX2_loseOne cX2_loseOne 3 (some .boolean) ∈ qg := qg_mem (List.mem_of_getElem? (i := 731) rfl) rfl
set_option maxRecDepth 100000 in
theorem lk729 : Cond.instanceMethod yX2_loseOne ∈ qg := qg_mem (List.mem_of_getElem? (i := 729) rfl) rfl
set_option maxRecDepth 100000 in
theorem lk730 : Cond.selects "SealLine$Keys" yX2_loseOne yX2_loseOne ∈ qg := qg_mem (List.mem_of_getElem? (i := 730) rfl) rfl
theorem vX2_loseOne : qMv mX2_loseOne 2 := ⟨⟨lk731, lk73, by decide +kernel, by decide⟩, lk729, lk730⟩
set_option maxRecDepth 100000 in
theorem lk732 : Cond.methodLink "SealLine" 197 yX8_cell ∈ qg := qg_mem (List.mem_of_getElem? (i := 732) rfl) rfl
set_option maxRecDepth 100000 in
theorem lk754 : Cond.methodLink "SealLine" 255 yX7_size ∈ qg := qg_mem (List.mem_of_getElem? (i := 754) rfl) rfl
set_option maxRecDepth 100000 in
theorem lk757 : Cond.code yX7_size cX7_size 1 (some .int) ∈ qg := qg_mem (List.mem_of_getElem? (i := 757) rfl) rfl
set_option maxRecDepth 100000 in
theorem lk755 : Cond.instanceMethod yX7_size ∈ qg := qg_mem (List.mem_of_getElem? (i := 755) rfl) rfl
set_option maxRecDepth 100000 in
theorem lk756 : Cond.selects "SealLine$Shelf" yX7_size yX7_size ∈ qg := qg_mem (List.mem_of_getElem? (i := 756) rfl) rfl
theorem vX7_size : qMv mX7_size 0 := ⟨⟨lk757, lk67, by decide +kernel, by decide⟩, lk755, lk756⟩
set_option maxRecDepth 100000 in
theorem lk737 : Cond.methodLink "SealLine" 200 yX5_addFile ∈ qg := qg_mem (List.mem_of_getElem? (i := 737) rfl) rfl
set_option maxRecDepth 100000 in
theorem lk740 : Cond.code yX5_addFile cX5_addFile 2 (some .boolean) ∈ qg := qg_mem (List.mem_of_getElem? (i := 740) rfl) rfl
set_option maxRecDepth 100000 in
theorem lk738 : Cond.instanceMethod yX5_addFile ∈ qg := qg_mem (List.mem_of_getElem? (i := 738) rfl) rfl
set_option maxRecDepth 100000 in
theorem lk739 : Cond.selects "SealLine$Recalls" yX5_addFile yX5_addFile ∈ qg := qg_mem (List.mem_of_getElem? (i := 739) rfl) rfl
theorem vX5_addFile : qMv mX5_addFile 1 := ⟨⟨lk740, lk70, by decide +kernel, by decide⟩, lk738, lk739⟩
set_option maxRecDepth 100000 in
theorem lk741 : Cond.methodLink "SealLine" 203 yX5_addSince ∈ qg := qg_mem (List.mem_of_getElem? (i := 741) rfl) rfl
set_option maxRecDepth 100000 in
theorem lk744 : Cond.code yX5_addSince cX5_addSince 8 (some .boolean) ∈ qg := qg_mem (List.mem_of_getElem? (i := 744) rfl) rfl
set_option maxRecDepth 100000 in
theorem lk742 : Cond.instanceMethod yX5_addSince ∈ qg := qg_mem (List.mem_of_getElem? (i := 742) rfl) rfl
set_option maxRecDepth 100000 in
theorem lk743 : Cond.selects "SealLine$Recalls" yX5_addSince yX5_addSince ∈ qg := qg_mem (List.mem_of_getElem? (i := 743) rfl) rfl
theorem vX5_addSince : qMv mX5_addSince 4 := ⟨⟨lk744, lk70, by decide +kernel, by decide⟩, lk742, lk743⟩
set_option maxRecDepth 100000 in
theorem lk750 : Cond.methodLink "SealLine" 207 yX10_manyCalledBack ∈ qg := qg_mem (List.mem_of_getElem? (i := 750) rfl) rfl
set_option maxRecDepth 100000 in
theorem lk753 : Cond.code yX10_manyCalledBack cX10_manyCalledBack 3 (some .int) ∈ qg := qg_mem (List.mem_of_getElem? (i := 753) rfl) rfl
set_option maxRecDepth 100000 in
theorem lk752 : Cond.instanceMethod yX10_manyCalledBack ∈ qg := qg_mem (List.mem_of_getElem? (i := 752) rfl) rfl
set_option maxRecDepth 100000 in
theorem lk23 : Cond.selects "SealLine" yX10_manyCalledBack yX10_manyCalledBack ∈ qg := qg_mem (List.mem_of_getElem? (i := 23) rfl) rfl
theorem vX10_manyCalledBack : qMv mX10_manyCalledBack 0 := ⟨⟨lk753, lk63, by decide +kernel, by decide⟩, lk752, lk23⟩
set_option maxRecDepth 100000 in
theorem lk785 : Cond.methodLink "SealLine" 299 yX2_lostSince ∈ qg := qg_mem (List.mem_of_getElem? (i := 785) rfl) rfl
set_option maxRecDepth 100000 in
theorem lk788 : Cond.code yX2_lostSince cX2_lostSince 2 (some .int) ∈ qg := qg_mem (List.mem_of_getElem? (i := 788) rfl) rfl
set_option maxRecDepth 100000 in
theorem lk786 : Cond.instanceMethod yX2_lostSince ∈ qg := qg_mem (List.mem_of_getElem? (i := 786) rfl) rfl
set_option maxRecDepth 100000 in
theorem lk787 : Cond.selects "SealLine$Keys" yX2_lostSince yX2_lostSince ∈ qg := qg_mem (List.mem_of_getElem? (i := 787) rfl) rfl
theorem vX2_lostSince : qMv mX2_lostSince 1 := ⟨⟨lk788, lk73, by decide +kernel, by decide⟩, lk786, lk787⟩
set_option maxRecDepth 100000 in
theorem lk781 : Cond.methodLink "SealLine" 241 yX10_stands ∈ qg := qg_mem (List.mem_of_getElem? (i := 781) rfl) rfl
set_option maxRecDepth 100000 in
theorem lk784 : Cond.code yX10_stands cX10_stands 4 (some .boolean) ∈ qg := qg_mem (List.mem_of_getElem? (i := 784) rfl) rfl
set_option maxRecDepth 100000 in
theorem lk783 : Cond.instanceMethod yX10_stands ∈ qg := qg_mem (List.mem_of_getElem? (i := 783) rfl) rfl
set_option maxRecDepth 100000 in
theorem lk25 : Cond.selects "SealLine" yX10_stands yX10_stands ∈ qg := qg_mem (List.mem_of_getElem? (i := 25) rfl) rfl
theorem vX10_stands : qMv mX10_stands 1 := ⟨⟨lk784, lk63, by decide +kernel, by decide⟩, lk783, lk25⟩
set_option maxRecDepth 100000 in
theorem lk762 : Cond.methodLink "SealLine" 225 yX7_rowSize ∈ qg := qg_mem (List.mem_of_getElem? (i := 762) rfl) rfl
set_option maxRecDepth 100000 in
theorem lk765 : Cond.code yX7_rowSize cX7_rowSize 2 (some .int) ∈ qg := qg_mem (List.mem_of_getElem? (i := 765) rfl) rfl
set_option maxRecDepth 100000 in
theorem lk763 : Cond.instanceMethod yX7_rowSize ∈ qg := qg_mem (List.mem_of_getElem? (i := 763) rfl) rfl
set_option maxRecDepth 100000 in
theorem lk764 : Cond.selects "SealLine$Shelf" yX7_rowSize yX7_rowSize ∈ qg := qg_mem (List.mem_of_getElem? (i := 764) rfl) rfl
theorem vX7_rowSize : qMv mX7_rowSize 1 := ⟨⟨lk765, lk67, by decide +kernel, by decide⟩, lk763, lk764⟩
set_option maxRecDepth 100000 in
theorem lk776 : Cond.methodLink "SealLine" 231 yX4_placeOf ∈ qg := qg_mem (List.mem_of_getElem? (i := 776) rfl) rfl
set_option maxRecDepth 100000 in
theorem lk777 : Cond.methodLink "SealLine" 234 yX10_manyStanding ∈ qg := qg_mem (List.mem_of_getElem? (i := 777) rfl) rfl
set_option maxRecDepth 100000 in
theorem lk780 : Cond.code yX10_manyStanding cX10_manyStanding 4 (some .int) ∈ qg := qg_mem (List.mem_of_getElem? (i := 780) rfl) rfl
set_option maxRecDepth 100000 in
theorem lk779 : Cond.instanceMethod yX10_manyStanding ∈ qg := qg_mem (List.mem_of_getElem? (i := 779) rfl) rfl
set_option maxRecDepth 100000 in
theorem lk24 : Cond.selects "SealLine" yX10_manyStanding yX10_manyStanding ∈ qg := qg_mem (List.mem_of_getElem? (i := 24) rfl) rfl
theorem vX10_manyStanding : qMv mX10_manyStanding 1 := ⟨⟨lk780, lk63, by decide +kernel, by decide⟩, lk779, lk24⟩
set_option maxRecDepth 100000 in
theorem lk809 : Cond.methodLink "SealLine" 244 yX1_fewestHands ∈ qg := qg_mem (List.mem_of_getElem? (i := 809) rfl) rfl
set_option maxRecDepth 100000 in
theorem lk812 : Cond.code yX1_fewestHands cX1_fewestHands 2 (some .int) ∈ qg := qg_mem (List.mem_of_getElem? (i := 812) rfl) rfl
set_option maxRecDepth 100000 in
theorem lk810 : Cond.instanceMethod yX1_fewestHands ∈ qg := qg_mem (List.mem_of_getElem? (i := 810) rfl) rfl
set_option maxRecDepth 100000 in
theorem lk811 : Cond.selects "SealLine$Judging" yX1_fewestHands yX1_fewestHands ∈ qg := qg_mem (List.mem_of_getElem? (i := 811) rfl) rfl
theorem vX1_fewestHands : qMv mX1_fewestHands 1 := ⟨⟨lk812, lk74, by decide +kernel, by decide⟩, lk810, lk811⟩
set_option maxRecDepth 100000 in
theorem lk831 : Cond.methodLink "SealLine" 248 yX1_fewestMakers ∈ qg := qg_mem (List.mem_of_getElem? (i := 831) rfl) rfl
set_option maxRecDepth 100000 in
theorem lk834 : Cond.code yX1_fewestMakers cX1_fewestMakers 2 (some .int) ∈ qg := qg_mem (List.mem_of_getElem? (i := 834) rfl) rfl
set_option maxRecDepth 100000 in
theorem lk832 : Cond.instanceMethod yX1_fewestMakers ∈ qg := qg_mem (List.mem_of_getElem? (i := 832) rfl) rfl
set_option maxRecDepth 100000 in
theorem lk833 : Cond.selects "SealLine$Judging" yX1_fewestMakers yX1_fewestMakers ∈ qg := qg_mem (List.mem_of_getElem? (i := 833) rfl) rfl
theorem vX1_fewestMakers : qMv mX1_fewestMakers 1 := ⟨⟨lk834, lk74, by decide +kernel, by decide⟩, lk832, lk833⟩
theorem fgX10_31 : qF RX10 31 10 3 := ⟨RX10, TX10, 11, rfl, by decide, jnX10, lk303⟩
set_option maxRecDepth 100000 in
theorem lk839 : Cond.methodLink "SealLine" 251 yX3_noteAt ∈ qg := qg_mem (List.mem_of_getElem? (i := 839) rfl) rfl
set_option maxRecDepth 100000 in
theorem lk842 : Cond.code yX3_noteAt cX3_noteAt 7 (some .int) ∈ qg := qg_mem (List.mem_of_getElem? (i := 842) rfl) rfl
set_option maxRecDepth 100000 in
theorem lk840 : Cond.instanceMethod yX3_noteAt ∈ qg := qg_mem (List.mem_of_getElem? (i := 840) rfl) rfl
set_option maxRecDepth 100000 in
theorem lk841 : Cond.selects "SealLine$Proof" yX3_noteAt yX3_noteAt ∈ qg := qg_mem (List.mem_of_getElem? (i := 841) rfl) rfl
theorem vX3_noteAt : qMv mX3_noteAt 4 := ⟨⟨lk842, lk69, by decide +kernel, by decide⟩, lk840, lk841⟩
set_option maxRecDepth 100000 in
theorem lk878 : Cond.methodLink "SealLine" 256 yX4_size ∈ qg := qg_mem (List.mem_of_getElem? (i := 878) rfl) rfl
set_option maxRecDepth 100000 in
theorem lk881 : Cond.code yX4_size cX4_size 1 (some .int) ∈ qg := qg_mem (List.mem_of_getElem? (i := 881) rfl) rfl
set_option maxRecDepth 100000 in
theorem lk879 : Cond.instanceMethod yX4_size ∈ qg := qg_mem (List.mem_of_getElem? (i := 879) rfl) rfl
set_option maxRecDepth 100000 in
theorem lk880 : Cond.selects "SealLine$Queue" yX4_size yX4_size ∈ qg := qg_mem (List.mem_of_getElem? (i := 880) rfl) rfl
theorem vX4_size : qMv mX4_size 0 := ⟨⟨lk881, lk72, by decide +kernel, by decide⟩, lk879, lk880⟩
set_option maxRecDepth 100000 in
theorem lk882 : Cond.methodLink "SealLine" 257 yX9_size ∈ qg := qg_mem (List.mem_of_getElem? (i := 882) rfl) rfl
set_option maxRecDepth 100000 in
theorem lk885 : Cond.code yX9_size cX9_size 1 (some .int) ∈ qg := qg_mem (List.mem_of_getElem? (i := 885) rfl) rfl
set_option maxRecDepth 100000 in
theorem lk883 : Cond.instanceMethod yX9_size ∈ qg := qg_mem (List.mem_of_getElem? (i := 883) rfl) rfl
set_option maxRecDepth 100000 in
theorem lk884 : Cond.selects "SealLine$Tape" yX9_size yX9_size ∈ qg := qg_mem (List.mem_of_getElem? (i := 884) rfl) rfl
theorem vX9_size : qMv mX9_size 0 := ⟨⟨lk885, lk71, by decide +kernel, by decide⟩, lk883, lk884⟩
set_option maxRecDepth 100000 in
theorem lk890 : Cond.methodLink "SealLine" 261 yX2_tell ∈ qg := qg_mem (List.mem_of_getElem? (i := 890) rfl) rfl
set_option maxRecDepth 100000 in
theorem lk893 : Cond.code yX2_tell cX2_tell 3 (some .int) ∈ qg := qg_mem (List.mem_of_getElem? (i := 893) rfl) rfl
set_option maxRecDepth 100000 in
theorem lk891 : Cond.instanceMethod yX2_tell ∈ qg := qg_mem (List.mem_of_getElem? (i := 891) rfl) rfl
set_option maxRecDepth 100000 in
theorem lk892 : Cond.selects "SealLine$Keys" yX2_tell yX2_tell ∈ qg := qg_mem (List.mem_of_getElem? (i := 892) rfl) rfl
theorem vX2_tell : qMv mX2_tell 2 := ⟨⟨lk893, lk73, by decide +kernel, by decide⟩, lk891, lk892⟩
set_option maxRecDepth 100000 in
theorem lk900 : Cond.methodLink "SealLineModel" 1 Lib.objectInit ∈ qg := qg_mem (List.mem_of_getElem? (i := 900) rfl) rfl
set_option maxRecDepth 100000 in
theorem lk907 : Cond.fieldLink "SealLineModel" 9 "SealLineModel" "hash" "[J" ∈ qg := qg_mem (List.mem_of_getElem? (i := 907) rfl) rfl
theorem fpX11_9 : qFp RX11 9 11 6 (.array .long) := ⟨RX11, TX11, 39, tyX11, rfl, by decide, jnX11, lk907, tyX11_ok, nmX11, rfl⟩
set_option maxRecDepth 100000 in
theorem lk908 : Cond.fieldLink "SealLineModel" 13 "SealLineModel" "sort" "[I" ∈ qg := qg_mem (List.mem_of_getElem? (i := 908) rfl) rfl
theorem fpX11_13 : qFp RX11 13 11 7 (.array .int) := ⟨RX11, TX11, 39, tyX11, rfl, by decide, jnX11, lk908, tyX11_ok, nmX11, rfl⟩
set_option maxRecDepth 100000 in
theorem lk909 : Cond.fieldLink "SealLineModel" 17 "SealLineModel" "of" "[I" ∈ qg := qg_mem (List.mem_of_getElem? (i := 909) rfl) rfl
theorem fpX11_17 : qFp RX11 17 11 8 (.array .int) := ⟨RX11, TX11, 39, tyX11, rfl, by decide, jnX11, lk909, tyX11_ok, nmX11, rfl⟩
set_option maxRecDepth 100000 in
theorem lk910 : Cond.fieldLink "SealLineModel" 20 "SealLineModel" "hand" "[I" ∈ qg := qg_mem (List.mem_of_getElem? (i := 910) rfl) rfl
theorem fpX11_20 : qFp RX11 20 11 9 (.array .int) := ⟨RX11, TX11, 39, tyX11, rfl, by decide, jnX11, lk910, tyX11_ok, nmX11, rfl⟩
set_option maxRecDepth 100000 in
theorem lk911 : Cond.fieldLink "SealLineModel" 23 "SealLineModel" "other" "[I" ∈ qg := qg_mem (List.mem_of_getElem? (i := 911) rfl) rfl
theorem fpX11_23 : qFp RX11 23 11 10 (.array .int) := ⟨RX11, TX11, 39, tyX11, rfl, by decide, jnX11, lk911, tyX11_ok, nmX11, rfl⟩
set_option maxRecDepth 100000 in
theorem lk912 : Cond.fieldLink "SealLineModel" 26 "SealLineModel" "tool" "[I" ∈ qg := qg_mem (List.mem_of_getElem? (i := 912) rfl) rfl
theorem fpX11_26 : qFp RX11 26 11 11 (.array .int) := ⟨RX11, TX11, 39, tyX11, rfl, by decide, jnX11, lk912, tyX11_ok, nmX11, rfl⟩
set_option maxRecDepth 100000 in
theorem lk913 : Cond.fieldLink "SealLineModel" 29 "SealLineModel" "first" "[I" ∈ qg := qg_mem (List.mem_of_getElem? (i := 913) rfl) rfl
theorem fpX11_29 : qFp RX11 29 11 12 (.array .int) := ⟨RX11, TX11, 39, tyX11, rfl, by decide, jnX11, lk913, tyX11_ok, nmX11, rfl⟩
set_option maxRecDepth 100000 in
theorem lk914 : Cond.fieldLink "SealLineModel" 32 "SealLineModel" "second" "[I" ∈ qg := qg_mem (List.mem_of_getElem? (i := 914) rfl) rfl
theorem fpX11_32 : qFp RX11 32 11 13 (.array .int) := ⟨RX11, TX11, 39, tyX11, rfl, by decide, jnX11, lk914, tyX11_ok, nmX11, rfl⟩
set_option maxRecDepth 100000 in
theorem lk915 : Cond.fieldLink "SealLineModel" 35 "SealLineModel" "third" "[I" ∈ qg := qg_mem (List.mem_of_getElem? (i := 915) rfl) rfl
theorem fpX11_35 : qFp RX11 35 11 14 (.array .int) := ⟨RX11, TX11, 39, tyX11, rfl, by decide, jnX11, lk915, tyX11_ok, nmX11, rfl⟩
set_option maxRecDepth 100000 in
theorem lk916 : Cond.fieldLink "SealLineModel" 38 "SealLineModel" "good" "[I" ∈ qg := qg_mem (List.mem_of_getElem? (i := 916) rfl) rfl
theorem fpX11_38 : qFp RX11 38 11 15 (.array .int) := ⟨RX11, TX11, 39, tyX11, rfl, by decide, jnX11, lk916, tyX11_ok, nmX11, rfl⟩
set_option maxRecDepth 100000 in
theorem lk917 : Cond.fieldLink "SealLineModel" 41 "SealLineModel" "keyOf" "[I" ∈ qg := qg_mem (List.mem_of_getElem? (i := 917) rfl) rfl
theorem fpX11_41 : qFp RX11 41 11 16 (.array .int) := ⟨RX11, TX11, 39, tyX11, rfl, by decide, jnX11, lk917, tyX11_ok, nmX11, rfl⟩
set_option maxRecDepth 100000 in
theorem lk918 : Cond.fieldLink "SealLineModel" 44 "SealLineModel" "ruleOf" "[I" ∈ qg := qg_mem (List.mem_of_getElem? (i := 918) rfl) rfl
theorem fpX11_44 : qFp RX11 44 11 17 (.array .int) := ⟨RX11, TX11, 39, tyX11, rfl, by decide, jnX11, lk918, tyX11_ok, nmX11, rfl⟩
set_option maxRecDepth 100000 in
theorem lk919 : Cond.fieldLink "SealLineModel" 47 "SealLineModel" "sealNote" "[I" ∈ qg := qg_mem (List.mem_of_getElem? (i := 919) rfl) rfl
theorem fpX11_47 : qFp RX11 47 11 18 (.array .int) := ⟨RX11, TX11, 39, tyX11, rfl, by decide, jnX11, lk919, tyX11_ok, nmX11, rfl⟩
set_option maxRecDepth 100000 in
theorem lk920 : Cond.fieldLink "SealLineModel" 50 "SealLineModel" "queue" "[I" ∈ qg := qg_mem (List.mem_of_getElem? (i := 920) rfl) rfl
theorem fpX11_50 : qFp RX11 50 11 19 (.array .int) := ⟨RX11, TX11, 39, tyX11, rfl, by decide, jnX11, lk920, tyX11_ok, nmX11, rfl⟩
set_option maxRecDepth 100000 in
theorem lk921 : Cond.fieldLink "SealLineModel" 53 "SealLineModel" "left" "[I" ∈ qg := qg_mem (List.mem_of_getElem? (i := 921) rfl) rfl
theorem fpX11_53 : qFp RX11 53 11 20 (.array .int) := ⟨RX11, TX11, 39, tyX11, rfl, by decide, jnX11, lk921, tyX11_ok, nmX11, rfl⟩
set_option maxRecDepth 100000 in
theorem lk922 : Cond.fieldLink "SealLineModel" 56 "SealLineModel" "ended" "[Z" ∈ qg := qg_mem (List.mem_of_getElem? (i := 922) rfl) rfl
theorem fpX11_56 : qFp RX11 56 11 21 (.array .boolean) := ⟨RX11, TX11, 39, tyX11, rfl, by decide, jnX11, lk922, tyX11_ok, nmX11, rfl⟩
set_option maxRecDepth 100000 in
theorem lk923 : Cond.fieldLink "SealLineModel" 60 "SealLineModel" "lost" "[I" ∈ qg := qg_mem (List.mem_of_getElem? (i := 923) rfl) rfl
theorem fpX11_60 : qFp RX11 60 11 22 (.array .int) := ⟨RX11, TX11, 39, tyX11, rfl, by decide, jnX11, lk923, tyX11_ok, nmX11, rfl⟩
set_option maxRecDepth 100000 in
theorem lk924 : Cond.fieldLink "SealLineModel" 63 "SealLineModel" "callSort" "[I" ∈ qg := qg_mem (List.mem_of_getElem? (i := 924) rfl) rfl
theorem fpX11_63 : qFp RX11 63 11 23 (.array .int) := ⟨RX11, TX11, 39, tyX11, rfl, by decide, jnX11, lk924, tyX11_ok, nmX11, rfl⟩
set_option maxRecDepth 100000 in
theorem lk925 : Cond.fieldLink "SealLineModel" 66 "SealLineModel" "callWhose" "[I" ∈ qg := qg_mem (List.mem_of_getElem? (i := 925) rfl) rfl
theorem fpX11_66 : qFp RX11 66 11 24 (.array .int) := ⟨RX11, TX11, 39, tyX11, rfl, by decide, jnX11, lk925, tyX11_ok, nmX11, rfl⟩
set_option maxRecDepth 100000 in
theorem lk926 : Cond.fieldLink "SealLineModel" 69 "SealLineModel" "callSince" "[I" ∈ qg := qg_mem (List.mem_of_getElem? (i := 926) rfl) rfl
theorem fpX11_69 : qFp RX11 69 11 25 (.array .int) := ⟨RX11, TX11, 39, tyX11, rfl, by decide, jnX11, lk926, tyX11_ok, nmX11, rfl⟩
set_option maxRecDepth 100000 in
theorem lk927 : Cond.fieldLink "SealLineModel" 72 "SealLineModel" "row" "[Z" ∈ qg := qg_mem (List.mem_of_getElem? (i := 927) rfl) rfl
theorem fpX11_72 : qFp RX11 72 11 26 (.array .boolean) := ⟨RX11, TX11, 39, tyX11, rfl, by decide, jnX11, lk927, tyX11_ok, nmX11, rfl⟩
set_option maxRecDepth 100000 in
theorem lk928 : Cond.fieldLink "SealLineModel" 75 "SealLineModel" "way" "[I" ∈ qg := qg_mem (List.mem_of_getElem? (i := 928) rfl) rfl
theorem fpX11_75 : qFp RX11 75 11 27 (.array .int) := ⟨RX11, TX11, 39, tyX11, rfl, by decide, jnX11, lk928, tyX11_ok, nmX11, rfl⟩
set_option maxRecDepth 100000 in
theorem lk929 : Cond.fieldLink "SealLineModel" 78 "SealLineModel" "clean" "[Z" ∈ qg := qg_mem (List.mem_of_getElem? (i := 929) rfl) rfl
theorem fpX11_78 : qFp RX11 78 11 28 (.array .boolean) := ⟨RX11, TX11, 39, tyX11, rfl, by decide, jnX11, lk929, tyX11_ok, nmX11, rfl⟩
set_option maxRecDepth 100000 in
theorem lk930 : Cond.fieldLink "SealLineModel" 81 "SealLineModel" "tape" "[I" ∈ qg := qg_mem (List.mem_of_getElem? (i := 930) rfl) rfl
theorem fpX11_81 : qFp RX11 81 11 29 (.array .int) := ⟨RX11, TX11, 39, tyX11, rfl, by decide, jnX11, lk930, tyX11_ok, nmX11, rfl⟩
set_option maxRecDepth 100000 in
theorem lk931 : Cond.fieldLink "SealLineModel" 84 "SealLineModel" "codes" "[I" ∈ qg := qg_mem (List.mem_of_getElem? (i := 931) rfl) rfl
theorem fpX11_84 : qFp RX11 84 11 30 (.array .int) := ⟨RX11, TX11, 39, tyX11, rfl, by decide, jnX11, lk931, tyX11_ok, nmX11, rfl⟩
set_option maxRecDepth 100000 in
theorem lk932 : Cond.fieldLink "SealLineModel" 87 "SealLineModel" "saying" "[I" ∈ qg := qg_mem (List.mem_of_getElem? (i := 932) rfl) rfl
theorem fpX11_87 : qFp RX11 87 11 31 (.array .int) := ⟨RX11, TX11, 39, tyX11, rfl, by decide, jnX11, lk932, tyX11_ok, nmX11, rfl⟩
set_option maxRecDepth 100000 in
theorem lk938 : Cond.fieldLink "SealLineModel" 90 "SealLineModel" "pile" "[Z" ∈ qg := qg_mem (List.mem_of_getElem? (i := 938) rfl) rfl
theorem fpX11_90 : qFp RX11 90 11 37 (.array .boolean) := ⟨RX11, TX11, 39, tyX11, rfl, by decide, jnX11, lk938, tyX11_ok, nmX11, rfl⟩
set_option maxRecDepth 100000 in
theorem lk939 : Cond.fieldLink "SealLineModel" 93 "SealLineModel" "proves" "[Z" ∈ qg := qg_mem (List.mem_of_getElem? (i := 939) rfl) rfl
theorem fpX11_93 : qFp RX11 93 11 38 (.array .boolean) := ⟨RX11, TX11, 39, tyX11, rfl, by decide, jnX11, lk939, tyX11_ok, nmX11, rfl⟩
theorem fgX11_60 : qF RX11 60 11 22 := ⟨RX11, TX11, 39, rfl, by decide, jnX11, lk923⟩
set_option maxRecDepth 100000 in
theorem lk902 : Cond.fieldLink "SealLineModel" 96 "SealLineModel" "files" "I" ∈ qg := qg_mem (List.mem_of_getElem? (i := 902) rfl) rfl
theorem fgX11_96 : qF RX11 96 11 1 := ⟨RX11, TX11, 39, rfl, by decide, jnX11, lk902⟩
set_option maxRecDepth 100000 in
theorem lk1030 : Cond.methodLink "SealLineModel" 100 yX11_in ∈ qg := qg_mem (List.mem_of_getElem? (i := 1030) rfl) rfl
set_option maxRecDepth 100000 in
theorem lk1032 : Cond.code yX11_in cX11_in 3 (some .boolean) ∈ qg := qg_mem (List.mem_of_getElem? (i := 1032) rfl) rfl
set_option maxRecDepth 100000 in
theorem lk76 : Cond.initialized "SealLineModel" ∈ qg := qg_mem (List.mem_of_getElem? (i := 76) rfl) rfl
set_option maxRecDepth 100000 in
theorem lk1031 : Cond.static yX11_in ∈ qg := qg_mem (List.mem_of_getElem? (i := 1031) rfl) rfl
theorem tX11_in : qMs mX11_in 3 := ⟨⟨lk1032, lk76, by decide +kernel, by decide⟩, lk1031⟩
theorem fgX11_9 : qF RX11 9 11 6 := ⟨RX11, TX11, 39, rfl, by decide, jnX11, lk907⟩
set_option maxRecDepth 100000 in
theorem lk901 : Cond.fieldLink "SealLineModel" 104 "SealLineModel" "notes" "I" ∈ qg := qg_mem (List.mem_of_getElem? (i := 901) rfl) rfl
theorem fgX11_104 : qF RX11 104 11 0 := ⟨RX11, TX11, 39, rfl, by decide, jnX11, lk901⟩
theorem fpX11_104 : qFp RX11 104 11 0 .int := ⟨RX11, TX11, 39, tyX11, rfl, by decide, jnX11, lk901, tyX11_ok, nmX11, rfl⟩
theorem fgX11_13 : qF RX11 13 11 7 := ⟨RX11, TX11, 39, rfl, by decide, jnX11, lk908⟩
theorem fgX11_17 : qF RX11 17 11 8 := ⟨RX11, TX11, 39, rfl, by decide, jnX11, lk909⟩
theorem fgX11_20 : qF RX11 20 11 9 := ⟨RX11, TX11, 39, rfl, by decide, jnX11, lk910⟩
theorem fgX11_23 : qF RX11 23 11 10 := ⟨RX11, TX11, 39, rfl, by decide, jnX11, lk911⟩
theorem fgX11_26 : qF RX11 26 11 11 := ⟨RX11, TX11, 39, rfl, by decide, jnX11, lk912⟩
theorem fgX11_29 : qF RX11 29 11 12 := ⟨RX11, TX11, 39, rfl, by decide, jnX11, lk913⟩
theorem fgX11_32 : qF RX11 32 11 13 := ⟨RX11, TX11, 39, rfl, by decide, jnX11, lk914⟩
theorem fgX11_35 : qF RX11 35 11 14 := ⟨RX11, TX11, 39, rfl, by decide, jnX11, lk915⟩
theorem fgX11_38 : qF RX11 38 11 15 := ⟨RX11, TX11, 39, rfl, by decide, jnX11, lk916⟩
theorem fgX11_41 : qF RX11 41 11 16 := ⟨RX11, TX11, 39, rfl, by decide, jnX11, lk917⟩
theorem fgX11_44 : qF RX11 44 11 17 := ⟨RX11, TX11, 39, rfl, by decide, jnX11, lk918⟩
theorem fpX11_96 : qFp RX11 96 11 1 .int := ⟨RX11, TX11, 39, tyX11, rfl, by decide, jnX11, lk902, tyX11_ok, nmX11, rfl⟩
set_option maxRecDepth 100000 in
theorem lk1033 : Cond.methodLink "SealLineModel" 107 yX11_find ∈ qg := qg_mem (List.mem_of_getElem? (i := 1033) rfl) rfl
set_option maxRecDepth 100000 in
theorem lk1022 : Cond.code yX11_find cX11_find 4 (some .int) ∈ qg := qg_mem (List.mem_of_getElem? (i := 1022) rfl) rfl
set_option maxRecDepth 100000 in
theorem lk1020 : Cond.instanceMethod yX11_find ∈ qg := qg_mem (List.mem_of_getElem? (i := 1020) rfl) rfl
set_option maxRecDepth 100000 in
theorem lk1021 : Cond.selects "SealLineModel" yX11_find yX11_find ∈ qg := qg_mem (List.mem_of_getElem? (i := 1021) rfl) rfl
theorem vX11_find : qMv mX11_find 1 := ⟨⟨lk1022, lk76, by decide +kernel, by decide⟩, lk1020, lk1021⟩
set_option maxRecDepth 100000 in
theorem lk1027 : Cond.methodLink "SealLineModel" 111 yX11_isHand ∈ qg := qg_mem (List.mem_of_getElem? (i := 1027) rfl) rfl
set_option maxRecDepth 100000 in
theorem lk1029 : Cond.code yX11_isHand cX11_isHand 1 (some .boolean) ∈ qg := qg_mem (List.mem_of_getElem? (i := 1029) rfl) rfl
set_option maxRecDepth 100000 in
theorem lk1028 : Cond.static yX11_isHand ∈ qg := qg_mem (List.mem_of_getElem? (i := 1028) rfl) rfl
theorem tX11_isHand : qMs mX11_isHand 1 := ⟨⟨lk1029, lk76, by decide +kernel, by decide⟩, lk1028⟩
set_option maxRecDepth 100000 in
theorem lk1034 : Cond.methodLink "SealLineModel" 115 yX11_fileFor ∈ qg := qg_mem (List.mem_of_getElem? (i := 1034) rfl) rfl
set_option maxRecDepth 100000 in
theorem lk1037 : Cond.code yX11_fileFor cX11_fileFor 4 (some .int) ∈ qg := qg_mem (List.mem_of_getElem? (i := 1037) rfl) rfl
set_option maxRecDepth 100000 in
theorem lk1036 : Cond.instanceMethod yX11_fileFor ∈ qg := qg_mem (List.mem_of_getElem? (i := 1036) rfl) rfl
set_option maxRecDepth 100000 in
theorem lk32 : Cond.selects "SealLineModel" yX11_fileFor yX11_fileFor ∈ qg := qg_mem (List.mem_of_getElem? (i := 32) rfl) rfl
theorem vX11_fileFor : qMv mX11_fileFor 1 := ⟨⟨lk1037, lk76, by decide +kernel, by decide⟩, lk1036, lk32⟩
set_option maxRecDepth 100000 in
theorem lk1038 : Cond.methodLink "SealLineModel" 118 yX11_addNote ∈ qg := qg_mem (List.mem_of_getElem? (i := 1038) rfl) rfl
set_option maxRecDepth 100000 in
theorem lk1041 : Cond.code yX11_addNote cX11_addNote 5 (some .int) ∈ qg := qg_mem (List.mem_of_getElem? (i := 1041) rfl) rfl
set_option maxRecDepth 100000 in
theorem lk1040 : Cond.instanceMethod yX11_addNote ∈ qg := qg_mem (List.mem_of_getElem? (i := 1040) rfl) rfl
set_option maxRecDepth 100000 in
theorem lk33 : Cond.selects "SealLineModel" yX11_addNote yX11_addNote ∈ qg := qg_mem (List.mem_of_getElem? (i := 33) rfl) rfl
theorem vX11_addNote : qMv mX11_addNote 3 := ⟨⟨lk1041, lk76, by decide +kernel, by decide⟩, lk1040, lk33⟩
theorem fgX11_72 : qF RX11 72 11 26 := ⟨RX11, TX11, 39, rfl, by decide, jnX11, lk927⟩
theorem fgX11_75 : qF RX11 75 11 27 := ⟨RX11, TX11, 39, rfl, by decide, jnX11, lk928⟩
set_option maxRecDepth 100000 in
theorem lk1072 : Cond.methodLink "SealLineModel" 122 yX11_went ∈ qg := qg_mem (List.mem_of_getElem? (i := 1072) rfl) rfl
set_option maxRecDepth 100000 in
theorem lk1075 : Cond.code yX11_went cX11_went 3 (some .int) ∈ qg := qg_mem (List.mem_of_getElem? (i := 1075) rfl) rfl
set_option maxRecDepth 100000 in
theorem lk1074 : Cond.instanceMethod yX11_went ∈ qg := qg_mem (List.mem_of_getElem? (i := 1074) rfl) rfl
set_option maxRecDepth 100000 in
theorem lk39 : Cond.selects "SealLineModel" yX11_went yX11_went ∈ qg := qg_mem (List.mem_of_getElem? (i := 39) rfl) rfl
theorem vX11_went : qMv mX11_went 2 := ⟨⟨lk1075, lk76, by decide +kernel, by decide⟩, lk1074, lk39⟩
set_option maxRecDepth 100000 in
theorem lk1068 : Cond.methodLink "SealLineModel" 126 yX11_addRow ∈ qg := qg_mem (List.mem_of_getElem? (i := 1068) rfl) rfl
set_option maxRecDepth 100000 in
theorem lk1071 : Cond.code yX11_addRow cX11_addRow 7 none ∈ qg := qg_mem (List.mem_of_getElem? (i := 1071) rfl) rfl
set_option maxRecDepth 100000 in
theorem lk1070 : Cond.instanceMethod yX11_addRow ∈ qg := qg_mem (List.mem_of_getElem? (i := 1070) rfl) rfl
set_option maxRecDepth 100000 in
theorem lk38 : Cond.selects "SealLineModel" yX11_addRow yX11_addRow ∈ qg := qg_mem (List.mem_of_getElem? (i := 38) rfl) rfl
theorem vX11_addRow : qMv mX11_addRow 1 := ⟨⟨lk1071, lk76, by decide +kernel, by decide⟩, lk1070, lk38⟩
set_option maxRecDepth 100000 in
theorem lk1050 : Cond.methodLink "SealLineModel" 130 yX11_isFile ∈ qg := qg_mem (List.mem_of_getElem? (i := 1050) rfl) rfl
set_option maxRecDepth 100000 in
theorem lk1053 : Cond.code yX11_isFile cX11_isFile 2 (some .boolean) ∈ qg := qg_mem (List.mem_of_getElem? (i := 1053) rfl) rfl
set_option maxRecDepth 100000 in
theorem lk1052 : Cond.instanceMethod yX11_isFile ∈ qg := qg_mem (List.mem_of_getElem? (i := 1052) rfl) rfl
set_option maxRecDepth 100000 in
theorem lk35 : Cond.selects "SealLineModel" yX11_isFile yX11_isFile ∈ qg := qg_mem (List.mem_of_getElem? (i := 35) rfl) rfl
theorem vX11_isFile : qMv mX11_isFile 1 := ⟨⟨lk1053, lk76, by decide +kernel, by decide⟩, lk1052, lk35⟩
set_option maxRecDepth 100000 in
theorem lk1058 : Cond.constantLong "SealLineModel" 133 6364136223846793005 ∈ qg := qg_mem (List.mem_of_getElem? (i := 1058) rfl) rfl
set_option maxRecDepth 100000 in
theorem lk1059 : Cond.constantLong "SealLineModel" 135 1442695040888963407 ∈ qg := qg_mem (List.mem_of_getElem? (i := 1059) rfl) rfl
set_option maxRecDepth 100000 in
theorem lk1046 : Cond.methodLink "SealLineModel" 137 yX11_areFiles ∈ qg := qg_mem (List.mem_of_getElem? (i := 1046) rfl) rfl
set_option maxRecDepth 100000 in
theorem lk1049 : Cond.code yX11_areFiles cX11_areFiles 4 (some .boolean) ∈ qg := qg_mem (List.mem_of_getElem? (i := 1049) rfl) rfl
set_option maxRecDepth 100000 in
theorem lk1048 : Cond.instanceMethod yX11_areFiles ∈ qg := qg_mem (List.mem_of_getElem? (i := 1048) rfl) rfl
set_option maxRecDepth 100000 in
theorem lk34 : Cond.selects "SealLineModel" yX11_areFiles yX11_areFiles ∈ qg := qg_mem (List.mem_of_getElem? (i := 34) rfl) rfl
theorem vX11_areFiles : qMv mX11_areFiles 3 := ⟨⟨lk1049, lk76, by decide +kernel, by decide⟩, lk1048, lk34⟩
set_option maxRecDepth 100000 in
theorem lk1054 : Cond.methodLink "SealLineModel" 140 yX11_mixOf ∈ qg := qg_mem (List.mem_of_getElem? (i := 1054) rfl) rfl
set_option maxRecDepth 100000 in
theorem lk1057 : Cond.code yX11_mixOf cX11_mixOf 9 (some .long) ∈ qg := qg_mem (List.mem_of_getElem? (i := 1057) rfl) rfl
set_option maxRecDepth 100000 in
theorem lk1056 : Cond.instanceMethod yX11_mixOf ∈ qg := qg_mem (List.mem_of_getElem? (i := 1056) rfl) rfl
set_option maxRecDepth 100000 in
theorem lk36 : Cond.selects "SealLineModel" yX11_mixOf yX11_mixOf ∈ qg := qg_mem (List.mem_of_getElem? (i := 36) rfl) rfl
theorem vX11_mixOf : qMv mX11_mixOf 4 := ⟨⟨lk1057, lk76, by decide +kernel, by decide⟩, lk1056, lk36⟩
set_option maxRecDepth 100000 in
theorem lk1064 : Cond.methodLink "SealLineModel" 144 yX11_rowOf ∈ qg := qg_mem (List.mem_of_getElem? (i := 1064) rfl) rfl
set_option maxRecDepth 100000 in
theorem lk1067 : Cond.code yX11_rowOf cX11_rowOf 3 none ∈ qg := qg_mem (List.mem_of_getElem? (i := 1067) rfl) rfl
set_option maxRecDepth 100000 in
theorem lk1066 : Cond.instanceMethod yX11_rowOf ∈ qg := qg_mem (List.mem_of_getElem? (i := 1066) rfl) rfl
set_option maxRecDepth 100000 in
theorem lk37 : Cond.selects "SealLineModel" yX11_rowOf yX11_rowOf ∈ qg := qg_mem (List.mem_of_getElem? (i := 37) rfl) rfl
theorem vX11_rowOf : qMv mX11_rowOf 1 := ⟨⟨lk1067, lk76, by decide +kernel, by decide⟩, lk1066, lk37⟩
set_option maxRecDepth 100000 in
theorem lk1080 : Cond.methodLink "SealLineModel" 147 yX11_says ∈ qg := qg_mem (List.mem_of_getElem? (i := 1080) rfl) rfl
set_option maxRecDepth 100000 in
theorem lk1083 : Cond.code yX11_says cX11_says 6 (some .int) ∈ qg := qg_mem (List.mem_of_getElem? (i := 1083) rfl) rfl
set_option maxRecDepth 100000 in
theorem lk1082 : Cond.instanceMethod yX11_says ∈ qg := qg_mem (List.mem_of_getElem? (i := 1082) rfl) rfl
set_option maxRecDepth 100000 in
theorem lk40 : Cond.selects "SealLineModel" yX11_says yX11_says ∈ qg := qg_mem (List.mem_of_getElem? (i := 40) rfl) rfl
theorem vX11_says : qMv mX11_says 4 := ⟨⟨lk1083, lk76, by decide +kernel, by decide⟩, lk1082, lk40⟩
theorem fgX11_78 : qF RX11 78 11 28 := ⟨RX11, TX11, 39, rfl, by decide, jnX11, lk929⟩
set_option maxRecDepth 100000 in
theorem lk1160 : Cond.methodLink "SealLineModel" 151 yX11_allClean ∈ qg := qg_mem (List.mem_of_getElem? (i := 1160) rfl) rfl
set_option maxRecDepth 100000 in
theorem lk1163 : Cond.code yX11_allClean cX11_allClean 4 (some .boolean) ∈ qg := qg_mem (List.mem_of_getElem? (i := 1163) rfl) rfl
set_option maxRecDepth 100000 in
theorem lk1162 : Cond.instanceMethod yX11_allClean ∈ qg := qg_mem (List.mem_of_getElem? (i := 1162) rfl) rfl
set_option maxRecDepth 100000 in
theorem lk51 : Cond.selects "SealLineModel" yX11_allClean yX11_allClean ∈ qg := qg_mem (List.mem_of_getElem? (i := 51) rfl) rfl
theorem vX11_allClean : qMv mX11_allClean 1 := ⟨⟨lk1163, lk76, by decide +kernel, by decide⟩, lk1162, lk51⟩
set_option maxRecDepth 100000 in
theorem lk1156 : Cond.methodLink "SealLineModel" 154 yX11_findClean ∈ qg := qg_mem (List.mem_of_getElem? (i := 1156) rfl) rfl
set_option maxRecDepth 100000 in
theorem lk1159 : Cond.code yX11_findClean cX11_findClean 4 none ∈ qg := qg_mem (List.mem_of_getElem? (i := 1159) rfl) rfl
set_option maxRecDepth 100000 in
theorem lk1158 : Cond.instanceMethod yX11_findClean ∈ qg := qg_mem (List.mem_of_getElem? (i := 1158) rfl) rfl
set_option maxRecDepth 100000 in
theorem lk50 : Cond.selects "SealLineModel" yX11_findClean yX11_findClean ∈ qg := qg_mem (List.mem_of_getElem? (i := 50) rfl) rfl
theorem vX11_findClean : qMv mX11_findClean 0 := ⟨⟨lk1159, lk76, by decide +kernel, by decide⟩, lk1158, lk50⟩
set_option maxRecDepth 100000 in
theorem lk904 : Cond.fieldLink "SealLineModel" 157 "SealLineModel" "calls" "I" ∈ qg := qg_mem (List.mem_of_getElem? (i := 904) rfl) rfl
theorem fgX11_157 : qF RX11 157 11 3 := ⟨RX11, TX11, 39, rfl, by decide, jnX11, lk904⟩
theorem fgX11_63 : qF RX11 63 11 23 := ⟨RX11, TX11, 39, rfl, by decide, jnX11, lk924⟩
theorem fgX11_66 : qF RX11 66 11 24 := ⟨RX11, TX11, 39, rfl, by decide, jnX11, lk925⟩
theorem fgX11_69 : qF RX11 69 11 25 := ⟨RX11, TX11, 39, rfl, by decide, jnX11, lk926⟩
set_option maxRecDepth 100000 in
theorem lk1181 : Cond.methodLink "SealLineModel" 160 yX11_isCalledNote ∈ qg := qg_mem (List.mem_of_getElem? (i := 1181) rfl) rfl
set_option maxRecDepth 100000 in
theorem lk1184 : Cond.code yX11_isCalledNote cX11_isCalledNote 4 (some .boolean) ∈ qg := qg_mem (List.mem_of_getElem? (i := 1184) rfl) rfl
set_option maxRecDepth 100000 in
theorem lk1183 : Cond.instanceMethod yX11_isCalledNote ∈ qg := qg_mem (List.mem_of_getElem? (i := 1183) rfl) rfl
set_option maxRecDepth 100000 in
theorem lk56 : Cond.selects "SealLineModel" yX11_isCalledNote yX11_isCalledNote ∈ qg := qg_mem (List.mem_of_getElem? (i := 56) rfl) rfl
theorem vX11_isCalledNote : qMv mX11_isCalledNote 1 := ⟨⟨lk1184, lk76, by decide +kernel, by decide⟩, lk1183, lk56⟩
set_option maxRecDepth 100000 in
theorem lk1172 : Cond.methodLink "SealLineModel" 163 yJ6_bitCount_0f7a4 ∈ qg := qg_mem (List.mem_of_getElem? (i := 1172) rfl) rfl
set_option maxRecDepth 100000 in
theorem lk933 : Cond.fieldLink "SealLineModel" 169 "SealLineModel" "size" "I" ∈ qg := qg_mem (List.mem_of_getElem? (i := 933) rfl) rfl
theorem fgX11_169 : qF RX11 169 11 32 := ⟨RX11, TX11, 39, rfl, by decide, jnX11, lk933⟩
theorem fgX11_81 : qF RX11 81 11 29 := ⟨RX11, TX11, 39, rfl, by decide, jnX11, lk930⟩
theorem fpX11_169 : qFp RX11 169 11 32 .int := ⟨RX11, TX11, 39, tyX11, rfl, by decide, jnX11, lk933, tyX11_ok, nmX11, rfl⟩
set_option maxRecDepth 100000 in
theorem lk934 : Cond.fieldLink "SealLineModel" 172 "SealLineModel" "at" "I" ∈ qg := qg_mem (List.mem_of_getElem? (i := 934) rfl) rfl
theorem fgX11_172 : qF RX11 172 11 33 := ⟨RX11, TX11, 39, rfl, by decide, jnX11, lk934⟩
theorem fpX11_172 : qFp RX11 172 11 33 .int := ⟨RX11, TX11, 39, tyX11, rfl, by decide, jnX11, lk934, tyX11_ok, nmX11, rfl⟩
set_option maxRecDepth 100000 in
theorem lk935 : Cond.fieldLink "SealLineModel" 175 "SealLineModel" "wrong" "I" ∈ qg := qg_mem (List.mem_of_getElem? (i := 935) rfl) rfl
theorem fgX11_175 : qF RX11 175 11 34 := ⟨RX11, TX11, 39, rfl, by decide, jnX11, lk935⟩
theorem fpX11_175 : qFp RX11 175 11 34 .int := ⟨RX11, TX11, 39, tyX11, rfl, by decide, jnX11, lk935, tyX11_ok, nmX11, rfl⟩
theorem fgX11_87 : qF RX11 87 11 31 := ⟨RX11, TX11, 39, rfl, by decide, jnX11, lk932⟩
set_option maxRecDepth 100000 in
theorem lk937 : Cond.fieldLink "SealLineModel" 178 "SealLineModel" "said" "I" ∈ qg := qg_mem (List.mem_of_getElem? (i := 937) rfl) rfl
theorem fgX11_178 : qF RX11 178 11 36 := ⟨RX11, TX11, 39, rfl, by decide, jnX11, lk937⟩
theorem fpX11_178 : qFp RX11 178 11 36 .int := ⟨RX11, TX11, 39, tyX11, rfl, by decide, jnX11, lk937, tyX11_ok, nmX11, rfl⟩
set_option maxRecDepth 100000 in
theorem lk1104 : Cond.methodLink "SealLineModel" 200 yX11_part ∈ qg := qg_mem (List.mem_of_getElem? (i := 1104) rfl) rfl
set_option maxRecDepth 100000 in
theorem lk1107 : Cond.code yX11_part cX11_part 1 none ∈ qg := qg_mem (List.mem_of_getElem? (i := 1107) rfl) rfl
set_option maxRecDepth 100000 in
theorem lk1106 : Cond.instanceMethod yX11_part ∈ qg := qg_mem (List.mem_of_getElem? (i := 1106) rfl) rfl
set_option maxRecDepth 100000 in
theorem lk42 : Cond.selects "SealLineModel" yX11_part yX11_part ∈ qg := qg_mem (List.mem_of_getElem? (i := 42) rfl) rfl
theorem vX11_part : qMv mX11_part 0 := ⟨⟨lk1107, lk76, by decide +kernel, by decide⟩, lk1106, lk42⟩
set_option maxRecDepth 100000 in
theorem lk1112 : Cond.methodLink "SealLineModel" 181 yX11_look ∈ qg := qg_mem (List.mem_of_getElem? (i := 1112) rfl) rfl
set_option maxRecDepth 100000 in
theorem lk1115 : Cond.code yX11_look cX11_look 1 (some .int) ∈ qg := qg_mem (List.mem_of_getElem? (i := 1115) rfl) rfl
set_option maxRecDepth 100000 in
theorem lk1114 : Cond.instanceMethod yX11_look ∈ qg := qg_mem (List.mem_of_getElem? (i := 1114) rfl) rfl
set_option maxRecDepth 100000 in
theorem lk44 : Cond.selects "SealLineModel" yX11_look yX11_look ∈ qg := qg_mem (List.mem_of_getElem? (i := 44) rfl) rfl
theorem vX11_look : qMv mX11_look 0 := ⟨⟨lk1115, lk76, by decide +kernel, by decide⟩, lk1114, lk44⟩
set_option maxRecDepth 100000 in
theorem lk1120 : Cond.methodLink "SealLineModel" 194 yX11_say ∈ qg := qg_mem (List.mem_of_getElem? (i := 1120) rfl) rfl
set_option maxRecDepth 100000 in
theorem lk1123 : Cond.code yX11_say cX11_say 2 none ∈ qg := qg_mem (List.mem_of_getElem? (i := 1123) rfl) rfl
set_option maxRecDepth 100000 in
theorem lk1122 : Cond.instanceMethod yX11_say ∈ qg := qg_mem (List.mem_of_getElem? (i := 1122) rfl) rfl
set_option maxRecDepth 100000 in
theorem lk46 : Cond.selects "SealLineModel" yX11_say yX11_say ∈ qg := qg_mem (List.mem_of_getElem? (i := 46) rfl) rfl
theorem vX11_say : qMv mX11_say 1 := ⟨⟨lk1123, lk76, by decide +kernel, by decide⟩, lk1122, lk46⟩
set_option maxRecDepth 100000 in
theorem lk936 : Cond.fieldLink "SealLineModel" 185 "SealLineModel" "deep" "I" ∈ qg := qg_mem (List.mem_of_getElem? (i := 936) rfl) rfl
theorem fgX11_185 : qF RX11 185 11 35 := ⟨RX11, TX11, 39, rfl, by decide, jnX11, lk936⟩
theorem fpX11_185 : qFp RX11 185 11 35 .int := ⟨RX11, TX11, 39, tyX11, rfl, by decide, jnX11, lk936, tyX11_ok, nmX11, rfl⟩
set_option maxRecDepth 100000 in
theorem lk1100 : Cond.methodLink "SealLineModel" 188 yX11_tests ∈ qg := qg_mem (List.mem_of_getElem? (i := 1100) rfl) rfl
set_option maxRecDepth 100000 in
theorem lk1103 : Cond.code yX11_tests cX11_tests 1 none ∈ qg := qg_mem (List.mem_of_getElem? (i := 1103) rfl) rfl
set_option maxRecDepth 100000 in
theorem lk1102 : Cond.instanceMethod yX11_tests ∈ qg := qg_mem (List.mem_of_getElem? (i := 1102) rfl) rfl
set_option maxRecDepth 100000 in
theorem lk41 : Cond.selects "SealLineModel" yX11_tests yX11_tests ∈ qg := qg_mem (List.mem_of_getElem? (i := 41) rfl) rfl
theorem vX11_tests : qMv mX11_tests 0 := ⟨⟨lk1103, lk76, by decide +kernel, by decide⟩, lk1102, lk41⟩
set_option maxRecDepth 100000 in
theorem lk1116 : Cond.methodLink "SealLineModel" 191 yX11_fail ∈ qg := qg_mem (List.mem_of_getElem? (i := 1116) rfl) rfl
set_option maxRecDepth 100000 in
theorem lk1119 : Cond.code yX11_fail cX11_fail 1 none ∈ qg := qg_mem (List.mem_of_getElem? (i := 1119) rfl) rfl
set_option maxRecDepth 100000 in
theorem lk1118 : Cond.instanceMethod yX11_fail ∈ qg := qg_mem (List.mem_of_getElem? (i := 1118) rfl) rfl
set_option maxRecDepth 100000 in
theorem lk45 : Cond.selects "SealLineModel" yX11_fail yX11_fail ∈ qg := qg_mem (List.mem_of_getElem? (i := 45) rfl) rfl
theorem vX11_fail : qMv mX11_fail 0 := ⟨⟨lk1119, lk76, by decide +kernel, by decide⟩, lk1118, lk45⟩
set_option maxRecDepth 100000 in
theorem lk1108 : Cond.methodLink "SealLineModel" 197 yX11_unit ∈ qg := qg_mem (List.mem_of_getElem? (i := 1108) rfl) rfl
set_option maxRecDepth 100000 in
theorem lk1111 : Cond.code yX11_unit cX11_unit 6 none ∈ qg := qg_mem (List.mem_of_getElem? (i := 1111) rfl) rfl
set_option maxRecDepth 100000 in
theorem lk1110 : Cond.instanceMethod yX11_unit ∈ qg := qg_mem (List.mem_of_getElem? (i := 1110) rfl) rfl
set_option maxRecDepth 100000 in
theorem lk43 : Cond.selects "SealLineModel" yX11_unit yX11_unit ∈ qg := qg_mem (List.mem_of_getElem? (i := 43) rfl) rfl
theorem vX11_unit : qMv mX11_unit 0 := ⟨⟨lk1111, lk76, by decide +kernel, by decide⟩, lk1110, lk43⟩
set_option maxRecDepth 100000 in
theorem lk903 : Cond.fieldLink "SealLineModel" 203 "SealLineModel" "rules" "I" ∈ qg := qg_mem (List.mem_of_getElem? (i := 903) rfl) rfl
theorem fgX11_203 : qF RX11 203 11 2 := ⟨RX11, TX11, 39, rfl, by decide, jnX11, lk903⟩
theorem fgX11_84 : qF RX11 84 11 30 := ⟨RX11, TX11, 39, rfl, by decide, jnX11, lk931⟩
theorem fpX11_203 : qFp RX11 203 11 2 .int := ⟨RX11, TX11, 39, tyX11, rfl, by decide, jnX11, lk903, tyX11_ok, nmX11, rfl⟩
set_option maxRecDepth 100000 in
theorem lk1128 : Cond.methodLink "SealLineModel" 206 yX11_fault ∈ qg := qg_mem (List.mem_of_getElem? (i := 1128) rfl) rfl
set_option maxRecDepth 100000 in
theorem lk1099 : Cond.code yX11_fault cX11_fault 1 (some .int) ∈ qg := qg_mem (List.mem_of_getElem? (i := 1099) rfl) rfl
set_option maxRecDepth 100000 in
theorem lk1097 : Cond.instanceMethod yX11_fault ∈ qg := qg_mem (List.mem_of_getElem? (i := 1097) rfl) rfl
set_option maxRecDepth 100000 in
theorem lk1098 : Cond.selects "SealLineModel" yX11_fault yX11_fault ∈ qg := qg_mem (List.mem_of_getElem? (i := 1098) rfl) rfl
theorem vX11_fault : qMv mX11_fault 0 := ⟨⟨lk1099, lk76, by decide +kernel, by decide⟩, lk1097, lk1098⟩
theorem fgX11_90 : qF RX11 90 11 37 := ⟨RX11, TX11, 39, rfl, by decide, jnX11, lk938⟩
set_option maxRecDepth 100000 in
theorem lk905 : Cond.fieldLink "SealLineModel" 209 "SealLineModel" "queued" "I" ∈ qg := qg_mem (List.mem_of_getElem? (i := 905) rfl) rfl
theorem fgX11_209 : qF RX11 209 11 4 := ⟨RX11, TX11, 39, rfl, by decide, jnX11, lk905⟩
theorem fgX11_50 : qF RX11 50 11 19 := ⟨RX11, TX11, 39, rfl, by decide, jnX11, lk920⟩
theorem fpX11_209 : qFp RX11 209 11 4 .int := ⟨RX11, TX11, 39, tyX11, rfl, by decide, jnX11, lk905, tyX11_ok, nmX11, rfl⟩
set_option maxRecDepth 100000 in
theorem lk1133 : Cond.methodLink "SealLineModel" 212 yX11_placeOf ∈ qg := qg_mem (List.mem_of_getElem? (i := 1133) rfl) rfl
set_option maxRecDepth 100000 in
theorem lk1136 : Cond.code yX11_placeOf cX11_placeOf 3 (some .int) ∈ qg := qg_mem (List.mem_of_getElem? (i := 1136) rfl) rfl
set_option maxRecDepth 100000 in
theorem lk1135 : Cond.instanceMethod yX11_placeOf ∈ qg := qg_mem (List.mem_of_getElem? (i := 1135) rfl) rfl
set_option maxRecDepth 100000 in
theorem lk47 : Cond.selects "SealLineModel" yX11_placeOf yX11_placeOf ∈ qg := qg_mem (List.mem_of_getElem? (i := 47) rfl) rfl
theorem vX11_placeOf : qMv mX11_placeOf 1 := ⟨⟨lk1136, lk76, by decide +kernel, by decide⟩, lk1135, lk47⟩
theorem fgX11_53 : qF RX11 53 11 20 := ⟨RX11, TX11, 39, rfl, by decide, jnX11, lk921⟩
theorem fgX11_56 : qF RX11 56 11 21 := ⟨RX11, TX11, 39, rfl, by decide, jnX11, lk922⟩
set_option maxRecDepth 100000 in
theorem lk1145 : Cond.methodLink "SealLineModel" 215 yX11_makersOf ∈ qg := qg_mem (List.mem_of_getElem? (i := 1145) rfl) rfl
set_option maxRecDepth 100000 in
theorem lk1148 : Cond.code yX11_makersOf cX11_makersOf 4 (some .int) ∈ qg := qg_mem (List.mem_of_getElem? (i := 1148) rfl) rfl
set_option maxRecDepth 100000 in
theorem lk1147 : Cond.instanceMethod yX11_makersOf ∈ qg := qg_mem (List.mem_of_getElem? (i := 1147) rfl) rfl
set_option maxRecDepth 100000 in
theorem lk48 : Cond.selects "SealLineModel" yX11_makersOf yX11_makersOf ∈ qg := qg_mem (List.mem_of_getElem? (i := 48) rfl) rfl
theorem vX11_makersOf : qMv mX11_makersOf 1 := ⟨⟨lk1148, lk76, by decide +kernel, by decide⟩, lk1147, lk48⟩
set_option maxRecDepth 100000 in
theorem lk1149 : Cond.methodLink "SealLineModel" 218 yX11_isKey ∈ qg := qg_mem (List.mem_of_getElem? (i := 1149) rfl) rfl
set_option maxRecDepth 100000 in
theorem lk1151 : Cond.code yX11_isKey cX11_isKey 1 (some .boolean) ∈ qg := qg_mem (List.mem_of_getElem? (i := 1151) rfl) rfl
set_option maxRecDepth 100000 in
theorem lk1150 : Cond.static yX11_isKey ∈ qg := qg_mem (List.mem_of_getElem? (i := 1150) rfl) rfl
theorem tX11_isKey : qMs mX11_isKey 1 := ⟨⟨lk1151, lk76, by decide +kernel, by decide⟩, lk1150⟩
set_option maxRecDepth 100000 in
theorem lk1152 : Cond.methodLink "SealLineModel" 221 yX11_isClean ∈ qg := qg_mem (List.mem_of_getElem? (i := 1152) rfl) rfl
set_option maxRecDepth 100000 in
theorem lk1155 : Cond.code yX11_isClean cX11_isClean 2 (some .boolean) ∈ qg := qg_mem (List.mem_of_getElem? (i := 1155) rfl) rfl
set_option maxRecDepth 100000 in
theorem lk1154 : Cond.instanceMethod yX11_isClean ∈ qg := qg_mem (List.mem_of_getElem? (i := 1154) rfl) rfl
set_option maxRecDepth 100000 in
theorem lk49 : Cond.selects "SealLineModel" yX11_isClean yX11_isClean ∈ qg := qg_mem (List.mem_of_getElem? (i := 49) rfl) rfl
theorem vX11_isClean : qMv mX11_isClean 1 := ⟨⟨lk1155, lk76, by decide +kernel, by decide⟩, lk1154, lk49⟩
set_option maxRecDepth 100000 in
theorem lk1164 : Cond.methodLink "SealLineModel" 224 yX11_handsWith ∈ qg := qg_mem (List.mem_of_getElem? (i := 1164) rfl) rfl
set_option maxRecDepth 100000 in
theorem lk1167 : Cond.code yX11_handsWith cX11_handsWith 8 (some .int) ∈ qg := qg_mem (List.mem_of_getElem? (i := 1167) rfl) rfl
set_option maxRecDepth 100000 in
theorem lk1166 : Cond.instanceMethod yX11_handsWith ∈ qg := qg_mem (List.mem_of_getElem? (i := 1166) rfl) rfl
set_option maxRecDepth 100000 in
theorem lk52 : Cond.selects "SealLineModel" yX11_handsWith yX11_handsWith ∈ qg := qg_mem (List.mem_of_getElem? (i := 52) rfl) rfl
theorem vX11_handsWith : qMv mX11_handsWith 3 := ⟨⟨lk1167, lk76, by decide +kernel, by decide⟩, lk1166, lk52⟩
set_option maxRecDepth 100000 in
theorem lk1168 : Cond.methodLink "SealLineModel" 227 yX11_builders ∈ qg := qg_mem (List.mem_of_getElem? (i := 1168) rfl) rfl
set_option maxRecDepth 100000 in
theorem lk1171 : Cond.code yX11_builders cX11_builders 4 (some .int) ∈ qg := qg_mem (List.mem_of_getElem? (i := 1171) rfl) rfl
set_option maxRecDepth 100000 in
theorem lk1170 : Cond.instanceMethod yX11_builders ∈ qg := qg_mem (List.mem_of_getElem? (i := 1170) rfl) rfl
set_option maxRecDepth 100000 in
theorem lk53 : Cond.selects "SealLineModel" yX11_builders yX11_builders ∈ qg := qg_mem (List.mem_of_getElem? (i := 53) rfl) rfl
theorem vX11_builders : qMv mX11_builders 1 := ⟨⟨lk1171, lk76, by decide +kernel, by decide⟩, lk1170, lk53⟩
set_option maxRecDepth 100000 in
theorem lk1173 : Cond.methodLink "SealLineModel" 230 yX11_holds ∈ qg := qg_mem (List.mem_of_getElem? (i := 1173) rfl) rfl
set_option maxRecDepth 100000 in
theorem lk1176 : Cond.code yX11_holds cX11_holds 8 (some .boolean) ∈ qg := qg_mem (List.mem_of_getElem? (i := 1176) rfl) rfl
set_option maxRecDepth 100000 in
theorem lk1175 : Cond.instanceMethod yX11_holds ∈ qg := qg_mem (List.mem_of_getElem? (i := 1175) rfl) rfl
set_option maxRecDepth 100000 in
theorem lk54 : Cond.selects "SealLineModel" yX11_holds yX11_holds ∈ qg := qg_mem (List.mem_of_getElem? (i := 54) rfl) rfl
theorem vX11_holds : qMv mX11_holds 3 := ⟨⟨lk1176, lk76, by decide +kernel, by decide⟩, lk1175, lk54⟩
set_option maxRecDepth 100000 in
theorem lk1177 : Cond.methodLink "SealLineModel" 233 yX11_isCalled ∈ qg := qg_mem (List.mem_of_getElem? (i := 1177) rfl) rfl
set_option maxRecDepth 100000 in
theorem lk1180 : Cond.code yX11_isCalled cX11_isCalled 3 (some .boolean) ∈ qg := qg_mem (List.mem_of_getElem? (i := 1180) rfl) rfl
set_option maxRecDepth 100000 in
theorem lk1179 : Cond.instanceMethod yX11_isCalled ∈ qg := qg_mem (List.mem_of_getElem? (i := 1179) rfl) rfl
set_option maxRecDepth 100000 in
theorem lk55 : Cond.selects "SealLineModel" yX11_isCalled yX11_isCalled ∈ qg := qg_mem (List.mem_of_getElem? (i := 55) rfl) rfl
theorem vX11_isCalled : qMv mX11_isCalled 1 := ⟨⟨lk1180, lk76, by decide +kernel, by decide⟩, lk1179, lk55⟩
theorem fgX11_47 : qF RX11 47 11 18 := ⟨RX11, TX11, 39, rfl, by decide, jnX11, lk919⟩
set_option maxRecDepth 100000 in
theorem lk906 : Cond.fieldLink "SealLineModel" 242 "SealLineModel" "seals" "I" ∈ qg := qg_mem (List.mem_of_getElem? (i := 906) rfl) rfl
theorem fgX11_242 : qF RX11 242 11 5 := ⟨RX11, TX11, 39, rfl, by decide, jnX11, lk906⟩
theorem fpX11_242 : qFp RX11 242 11 5 .int := ⟨RX11, TX11, 39, tyX11, rfl, by decide, jnX11, lk906, tyX11_ok, nmX11, rfl⟩
set_option maxRecDepth 100000 in
theorem lk1189 : Cond.methodLink "SealLineModel" 236 yX11_why ∈ qg := qg_mem (List.mem_of_getElem? (i := 1189) rfl) rfl
set_option maxRecDepth 100000 in
theorem lk1144 : Cond.code yX11_why cX11_why 6 (some .int) ∈ qg := qg_mem (List.mem_of_getElem? (i := 1144) rfl) rfl
set_option maxRecDepth 100000 in
theorem lk1142 : Cond.instanceMethod yX11_why ∈ qg := qg_mem (List.mem_of_getElem? (i := 1142) rfl) rfl
set_option maxRecDepth 100000 in
theorem lk1143 : Cond.selects "SealLineModel" yX11_why yX11_why ∈ qg := qg_mem (List.mem_of_getElem? (i := 1143) rfl) rfl
theorem vX11_why : qMv mX11_why 3 := ⟨⟨lk1144, lk76, by decide +kernel, by decide⟩, lk1142, lk1143⟩
set_option maxRecDepth 100000 in
theorem lk1190 : Cond.methodLink "SealLineModel" 239 yX11_skip ∈ qg := qg_mem (List.mem_of_getElem? (i := 1190) rfl) rfl
set_option maxRecDepth 100000 in
theorem lk1140 : Cond.code yX11_skip cX11_skip 3 (some .int) ∈ qg := qg_mem (List.mem_of_getElem? (i := 1140) rfl) rfl
set_option maxRecDepth 100000 in
theorem lk1138 : Cond.instanceMethod yX11_skip ∈ qg := qg_mem (List.mem_of_getElem? (i := 1138) rfl) rfl
set_option maxRecDepth 100000 in
theorem lk1139 : Cond.selects "SealLineModel" yX11_skip yX11_skip ∈ qg := qg_mem (List.mem_of_getElem? (i := 1139) rfl) rfl
theorem vX11_skip : qMv mX11_skip 0 := ⟨⟨lk1140, lk76, by decide +kernel, by decide⟩, lk1138, lk1139⟩
set_option maxRecDepth 100000 in
theorem lk1195 : Cond.constant "SealLineModel" 245 1000000 ∈ qg := qg_mem (List.mem_of_getElem? (i := 1195) rfl) rfl
theorem fpX11_157 : qFp RX11 157 11 3 .int := ⟨RX11, TX11, 39, tyX11, rfl, by decide, jnX11, lk904, tyX11_ok, nmX11, rfl⟩
set_option maxRecDepth 100000 in
theorem lk1208 : Cond.methodLink "SealLineModel" 246 yX11_calledMany ∈ qg := qg_mem (List.mem_of_getElem? (i := 1208) rfl) rfl
set_option maxRecDepth 100000 in
theorem lk1211 : Cond.code yX11_calledMany cX11_calledMany 3 (some .int) ∈ qg := qg_mem (List.mem_of_getElem? (i := 1211) rfl) rfl
set_option maxRecDepth 100000 in
theorem lk1210 : Cond.instanceMethod yX11_calledMany ∈ qg := qg_mem (List.mem_of_getElem? (i := 1210) rfl) rfl
set_option maxRecDepth 100000 in
theorem lk57 : Cond.selects "SealLineModel" yX11_calledMany yX11_calledMany ∈ qg := qg_mem (List.mem_of_getElem? (i := 57) rfl) rfl
theorem vX11_calledMany : qMv mX11_calledMany 0 := ⟨⟨lk1211, lk76, by decide +kernel, by decide⟩, lk1210, lk57⟩
set_option maxRecDepth 100000 in
theorem lk1216 : Cond.methodLink "SealLineModel" 249 yX11_stands ∈ qg := qg_mem (List.mem_of_getElem? (i := 1216) rfl) rfl
set_option maxRecDepth 100000 in
theorem lk1219 : Cond.code yX11_stands cX11_stands 4 (some .boolean) ∈ qg := qg_mem (List.mem_of_getElem? (i := 1219) rfl) rfl
set_option maxRecDepth 100000 in
theorem lk1218 : Cond.instanceMethod yX11_stands ∈ qg := qg_mem (List.mem_of_getElem? (i := 1218) rfl) rfl
set_option maxRecDepth 100000 in
theorem lk58 : Cond.selects "SealLineModel" yX11_stands yX11_stands ∈ qg := qg_mem (List.mem_of_getElem? (i := 58) rfl) rfl
theorem vX11_stands : qMv mX11_stands 1 := ⟨⟨lk1219, lk76, by decide +kernel, by decide⟩, lk1218, lk58⟩
set_option maxRecDepth 100000 in
theorem lk1240 : Cond.methodLink "SealLineModel" 252 yX11_canHold ∈ qg := qg_mem (List.mem_of_getElem? (i := 1240) rfl) rfl
set_option maxRecDepth 100000 in
theorem lk1243 : Cond.code yX11_canHold cX11_canHold 6 (some .boolean) ∈ qg := qg_mem (List.mem_of_getElem? (i := 1243) rfl) rfl
set_option maxRecDepth 100000 in
theorem lk1242 : Cond.instanceMethod yX11_canHold ∈ qg := qg_mem (List.mem_of_getElem? (i := 1242) rfl) rfl
set_option maxRecDepth 100000 in
theorem lk60 : Cond.selects "SealLineModel" yX11_canHold yX11_canHold ∈ qg := qg_mem (List.mem_of_getElem? (i := 60) rfl) rfl
theorem vX11_canHold : qMv mX11_canHold 2 := ⟨⟨lk1243, lk76, by decide +kernel, by decide⟩, lk1242, lk60⟩
set_option maxRecDepth 100000 in
theorem lk1236 : Cond.methodLink "SealLineModel" 256 yX11_judged ∈ qg := qg_mem (List.mem_of_getElem? (i := 1236) rfl) rfl
set_option maxRecDepth 100000 in
theorem lk1239 : Cond.code yX11_judged cX11_judged 3 (some .int) ∈ qg := qg_mem (List.mem_of_getElem? (i := 1239) rfl) rfl
set_option maxRecDepth 100000 in
theorem lk1238 : Cond.instanceMethod yX11_judged ∈ qg := qg_mem (List.mem_of_getElem? (i := 1238) rfl) rfl
set_option maxRecDepth 100000 in
theorem lk59 : Cond.selects "SealLineModel" yX11_judged yX11_judged ∈ qg := qg_mem (List.mem_of_getElem? (i := 59) rfl) rfl
theorem vX11_judged : qMv mX11_judged 0 := ⟨⟨lk1239, lk76, by decide +kernel, by decide⟩, lk1238, lk59⟩
theorem fgX11_93 : qF RX11 93 11 38 := ⟨RX11, TX11, 39, rfl, by decide, jnX11, lk939⟩
set_option maxRecDepth 100000 in
theorem lk1252 : Cond.methodLink "SealLineModel" 259 yX11_firstOf ∈ qg := qg_mem (List.mem_of_getElem? (i := 1252) rfl) rfl
set_option maxRecDepth 100000 in
theorem lk1255 : Cond.code yX11_firstOf cX11_firstOf 3 (some .int) ∈ qg := qg_mem (List.mem_of_getElem? (i := 1255) rfl) rfl
set_option maxRecDepth 100000 in
theorem lk1254 : Cond.instanceMethod yX11_firstOf ∈ qg := qg_mem (List.mem_of_getElem? (i := 1254) rfl) rfl
set_option maxRecDepth 100000 in
theorem lk61 : Cond.selects "SealLineModel" yX11_firstOf yX11_firstOf ∈ qg := qg_mem (List.mem_of_getElem? (i := 61) rfl) rfl
theorem vX11_firstOf : qMv mX11_firstOf 1 := ⟨⟨lk1255, lk76, by decide +kernel, by decide⟩, lk1254, lk61⟩
set_option maxRecDepth 100000 in
theorem lk80 : Cond.classLink "SealLineLaw" 7 "SealLine" ∈ qg := qg_mem (List.mem_of_getElem? (i := 80) rfl) rfl
set_option maxRecDepth 100000 in
theorem lk81 : Cond.instantiable "SealLine" 11 ∈ qg := qg_mem (List.mem_of_getElem? (i := 81) rfl) rfl
theorem nwL_7 : qNw RL 7 10 11 [.null, .null, .null, .null, .null, .null, .null, .null, .null, .null, .int 0] := ⟨RX10, TX10, tyX10, rfl, jnX10, tyX10_ok, lk80, lk81, lk63, by decide +kernel, fun _ => rfl⟩
set_option maxRecDepth 100000 in
theorem lk895 : Cond.classLink "SealLineLaw" 10 "SealLineModel" ∈ qg := qg_mem (List.mem_of_getElem? (i := 895) rfl) rfl
set_option maxRecDepth 100000 in
theorem lk896 : Cond.instantiable "SealLineModel" 39 ∈ qg := qg_mem (List.mem_of_getElem? (i := 896) rfl) rfl
theorem nwL_10 : qNw RL 10 11 39 [.int 0, .int 0, .int 0, .int 0, .int 0, .int 0, .null, .null, .null, .null, .null, .null, .null, .null, .null, .null, .null, .null, .null, .null, .null, .null, .null, .null, .null, .null, .null, .null, .null, .null, .null, .null, .int 0, .int 0, .int 0, .int 0, .int 0, .null, .null] := ⟨RX11, TX11, tyX11, rfl, jnX11, tyX11_ok, lk895, lk896, lk76, by decide +kernel, fun _ => rfl⟩
set_option maxRecDepth 100000 in
theorem lk1268 : Cond.constantLong "SealLineLaw" 13 4294967295 ∈ qg := qg_mem (List.mem_of_getElem? (i := 1268) rfl) rfl
set_option maxRecDepth 100000 in
theorem lk82 : Cond.methodLink "SealLineLaw" 9 yX10_init ∈ qg := qg_mem (List.mem_of_getElem? (i := 82) rfl) rfl
set_option maxRecDepth 100000 in
theorem lk84 : Cond.code yX10_init cX10_init 1 none ∈ qg := qg_mem (List.mem_of_getElem? (i := 84) rfl) rfl
set_option maxRecDepth 100000 in
theorem lk83 : Cond.instanceMethod yX10_init ∈ qg := qg_mem (List.mem_of_getElem? (i := 83) rfl) rfl
theorem iX10_init : qMi mX10_init 0 := ⟨⟨lk84, lk63, by decide +kernel, by decide⟩, lk83, rfl, rfl⟩
set_option maxRecDepth 100000 in
theorem lk897 : Cond.methodLink "SealLineLaw" 12 yX11_init ∈ qg := qg_mem (List.mem_of_getElem? (i := 897) rfl) rfl
set_option maxRecDepth 100000 in
theorem lk899 : Cond.code yX11_init cX11_init 2 none ∈ qg := qg_mem (List.mem_of_getElem? (i := 899) rfl) rfl
set_option maxRecDepth 100000 in
theorem lk898 : Cond.instanceMethod yX11_init ∈ qg := qg_mem (List.mem_of_getElem? (i := 898) rfl) rfl
theorem iX11_init : qMi mX11_init 0 := ⟨⟨lk899, lk76, by decide +kernel, by decide⟩, lk898, rfl, rfl⟩
set_option maxRecDepth 100000 in
theorem lk334 : Cond.methodLink "SealLineLaw" 15 yX10_source ∈ qg := qg_mem (List.mem_of_getElem? (i := 334) rfl) rfl
set_option maxRecDepth 100000 in
theorem lk337 : Cond.code yX10_source cX10_source 6 (some .int) ∈ qg := qg_mem (List.mem_of_getElem? (i := 337) rfl) rfl
set_option maxRecDepth 100000 in
theorem lk335 : Cond.instanceMethod yX10_source ∈ qg := qg_mem (List.mem_of_getElem? (i := 335) rfl) rfl
set_option maxRecDepth 100000 in
theorem lk336 : Cond.selects "SealLine" yX10_source yX10_source ∈ qg := qg_mem (List.mem_of_getElem? (i := 336) rfl) rfl
theorem vX10_source : qMv mX10_source 2 := ⟨⟨lk337, lk63, by decide +kernel, by decide⟩, lk335, lk336⟩
set_option maxRecDepth 100000 in
theorem lk1023 : Cond.methodLink "SealLineLaw" 19 yX11_source ∈ qg := qg_mem (List.mem_of_getElem? (i := 1023) rfl) rfl
set_option maxRecDepth 100000 in
theorem lk1026 : Cond.code yX11_source cX11_source 5 (some .int) ∈ qg := qg_mem (List.mem_of_getElem? (i := 1026) rfl) rfl
set_option maxRecDepth 100000 in
theorem lk1024 : Cond.instanceMethod yX11_source ∈ qg := qg_mem (List.mem_of_getElem? (i := 1024) rfl) rfl
set_option maxRecDepth 100000 in
theorem lk1025 : Cond.selects "SealLineModel" yX11_source yX11_source ∈ qg := qg_mem (List.mem_of_getElem? (i := 1025) rfl) rfl
theorem vX11_source : qMv mX11_source 2 := ⟨⟨lk1026, lk76, by decide +kernel, by decide⟩, lk1024, lk1025⟩
set_option maxRecDepth 100000 in
theorem lk432 : Cond.methodLink "SealLineLaw" 20 yX10_build ∈ qg := qg_mem (List.mem_of_getElem? (i := 432) rfl) rfl
set_option maxRecDepth 100000 in
theorem lk435 : Cond.code yX10_build cX10_build 12 (some .int) ∈ qg := qg_mem (List.mem_of_getElem? (i := 435) rfl) rfl
set_option maxRecDepth 100000 in
theorem lk433 : Cond.instanceMethod yX10_build ∈ qg := qg_mem (List.mem_of_getElem? (i := 433) rfl) rfl
set_option maxRecDepth 100000 in
theorem lk434 : Cond.selects "SealLine" yX10_build yX10_build ∈ qg := qg_mem (List.mem_of_getElem? (i := 434) rfl) rfl
theorem vX10_build : qMv mX10_build 6 := ⟨⟨lk435, lk63, by decide +kernel, by decide⟩, lk433, lk434⟩
set_option maxRecDepth 100000 in
theorem lk1060 : Cond.methodLink "SealLineLaw" 24 yX11_build ∈ qg := qg_mem (List.mem_of_getElem? (i := 1060) rfl) rfl
set_option maxRecDepth 100000 in
theorem lk1063 : Cond.code yX11_build cX11_build 12 (some .int) ∈ qg := qg_mem (List.mem_of_getElem? (i := 1063) rfl) rfl
set_option maxRecDepth 100000 in
theorem lk1061 : Cond.instanceMethod yX11_build ∈ qg := qg_mem (List.mem_of_getElem? (i := 1061) rfl) rfl
set_option maxRecDepth 100000 in
theorem lk1062 : Cond.selects "SealLineModel" yX11_build yX11_build ∈ qg := qg_mem (List.mem_of_getElem? (i := 1062) rfl) rfl
theorem vX11_build : qMv mX11_build 6 := ⟨⟨lk1063, lk76, by decide +kernel, by decide⟩, lk1061, lk1062⟩
set_option maxRecDepth 100000 in
theorem lk482 : Cond.methodLink "SealLineLaw" 25 yX10_mix ∈ qg := qg_mem (List.mem_of_getElem? (i := 482) rfl) rfl
set_option maxRecDepth 100000 in
theorem lk485 : Cond.code yX10_mix cX10_mix 5 (some .long) ∈ qg := qg_mem (List.mem_of_getElem? (i := 485) rfl) rfl
set_option maxRecDepth 100000 in
theorem lk483 : Cond.instanceMethod yX10_mix ∈ qg := qg_mem (List.mem_of_getElem? (i := 483) rfl) rfl
set_option maxRecDepth 100000 in
theorem lk484 : Cond.selects "SealLine" yX10_mix yX10_mix ∈ qg := qg_mem (List.mem_of_getElem? (i := 484) rfl) rfl
theorem vX10_mix : qMv mX10_mix 4 := ⟨⟨lk485, lk63, by decide +kernel, by decide⟩, lk483, lk484⟩
set_option maxRecDepth 100000 in
theorem lk1042 : Cond.methodLink "SealLineLaw" 29 yX11_mix ∈ qg := qg_mem (List.mem_of_getElem? (i := 1042) rfl) rfl
set_option maxRecDepth 100000 in
theorem lk1045 : Cond.code yX11_mix cX11_mix 5 (some .long) ∈ qg := qg_mem (List.mem_of_getElem? (i := 1045) rfl) rfl
set_option maxRecDepth 100000 in
theorem lk1043 : Cond.instanceMethod yX11_mix ∈ qg := qg_mem (List.mem_of_getElem? (i := 1043) rfl) rfl
set_option maxRecDepth 100000 in
theorem lk1044 : Cond.selects "SealLineModel" yX11_mix yX11_mix ∈ qg := qg_mem (List.mem_of_getElem? (i := 1044) rfl) rfl
theorem vX11_mix : qMv mX11_mix 4 := ⟨⟨lk1045, lk76, by decide +kernel, by decide⟩, lk1043, lk1044⟩
set_option maxRecDepth 100000 in
theorem lk486 : Cond.methodLink "SealLineLaw" 30 yX10_tries ∈ qg := qg_mem (List.mem_of_getElem? (i := 486) rfl) rfl
set_option maxRecDepth 100000 in
theorem lk489 : Cond.code yX10_tries cX10_tries 5 (some .int) ∈ qg := qg_mem (List.mem_of_getElem? (i := 489) rfl) rfl
set_option maxRecDepth 100000 in
theorem lk487 : Cond.instanceMethod yX10_tries ∈ qg := qg_mem (List.mem_of_getElem? (i := 487) rfl) rfl
set_option maxRecDepth 100000 in
theorem lk488 : Cond.selects "SealLine" yX10_tries yX10_tries ∈ qg := qg_mem (List.mem_of_getElem? (i := 488) rfl) rfl
theorem vX10_tries : qMv mX10_tries 3 := ⟨⟨lk489, lk63, by decide +kernel, by decide⟩, lk487, lk488⟩
set_option maxRecDepth 100000 in
theorem lk1076 : Cond.methodLink "SealLineLaw" 34 yX11_tries ∈ qg := qg_mem (List.mem_of_getElem? (i := 1076) rfl) rfl
set_option maxRecDepth 100000 in
theorem lk1079 : Cond.code yX11_tries cX11_tries 4 (some .int) ∈ qg := qg_mem (List.mem_of_getElem? (i := 1079) rfl) rfl
set_option maxRecDepth 100000 in
theorem lk1077 : Cond.instanceMethod yX11_tries ∈ qg := qg_mem (List.mem_of_getElem? (i := 1077) rfl) rfl
set_option maxRecDepth 100000 in
theorem lk1078 : Cond.selects "SealLineModel" yX11_tries yX11_tries ∈ qg := qg_mem (List.mem_of_getElem? (i := 1078) rfl) rfl
theorem vX11_tries : qMv mX11_tries 3 := ⟨⟨lk1079, lk76, by decide +kernel, by decide⟩, lk1077, lk1078⟩
set_option maxRecDepth 100000 in
theorem lk498 : Cond.methodLink "SealLineLaw" 35 yX10_review ∈ qg := qg_mem (List.mem_of_getElem? (i := 498) rfl) rfl
set_option maxRecDepth 100000 in
theorem lk501 : Cond.code yX10_review cX10_review 5 (some .int) ∈ qg := qg_mem (List.mem_of_getElem? (i := 501) rfl) rfl
set_option maxRecDepth 100000 in
theorem lk499 : Cond.instanceMethod yX10_review ∈ qg := qg_mem (List.mem_of_getElem? (i := 499) rfl) rfl
set_option maxRecDepth 100000 in
theorem lk500 : Cond.selects "SealLine" yX10_review yX10_review ∈ qg := qg_mem (List.mem_of_getElem? (i := 500) rfl) rfl
theorem vX10_review : qMv mX10_review 3 := ⟨⟨lk501, lk63, by decide +kernel, by decide⟩, lk499, lk500⟩
set_option maxRecDepth 100000 in
theorem lk1084 : Cond.methodLink "SealLineLaw" 38 yX11_review ∈ qg := qg_mem (List.mem_of_getElem? (i := 1084) rfl) rfl
set_option maxRecDepth 100000 in
theorem lk1087 : Cond.code yX11_review cX11_review 4 (some .int) ∈ qg := qg_mem (List.mem_of_getElem? (i := 1087) rfl) rfl
set_option maxRecDepth 100000 in
theorem lk1085 : Cond.instanceMethod yX11_review ∈ qg := qg_mem (List.mem_of_getElem? (i := 1085) rfl) rfl
set_option maxRecDepth 100000 in
theorem lk1086 : Cond.selects "SealLineModel" yX11_review yX11_review ∈ qg := qg_mem (List.mem_of_getElem? (i := 1086) rfl) rfl
theorem vX11_review : qMv mX11_review 3 := ⟨⟨lk1087, lk76, by decide +kernel, by decide⟩, lk1085, lk1086⟩
set_option maxRecDepth 100000 in
theorem lk506 : Cond.methodLink "SealLineLaw" 39 yX10_feed ∈ qg := qg_mem (List.mem_of_getElem? (i := 506) rfl) rfl
set_option maxRecDepth 100000 in
theorem lk509 : Cond.code yX10_feed cX10_feed 2 (some .int) ∈ qg := qg_mem (List.mem_of_getElem? (i := 509) rfl) rfl
set_option maxRecDepth 100000 in
theorem lk507 : Cond.instanceMethod yX10_feed ∈ qg := qg_mem (List.mem_of_getElem? (i := 507) rfl) rfl
set_option maxRecDepth 100000 in
theorem lk508 : Cond.selects "SealLine" yX10_feed yX10_feed ∈ qg := qg_mem (List.mem_of_getElem? (i := 508) rfl) rfl
theorem vX10_feed : qMv mX10_feed 1 := ⟨⟨lk509, lk63, by decide +kernel, by decide⟩, lk507, lk508⟩
set_option maxRecDepth 100000 in
theorem lk1088 : Cond.methodLink "SealLineLaw" 43 yX11_feed ∈ qg := qg_mem (List.mem_of_getElem? (i := 1088) rfl) rfl
set_option maxRecDepth 100000 in
theorem lk1091 : Cond.code yX11_feed cX11_feed 5 (some .int) ∈ qg := qg_mem (List.mem_of_getElem? (i := 1091) rfl) rfl
set_option maxRecDepth 100000 in
theorem lk1089 : Cond.instanceMethod yX11_feed ∈ qg := qg_mem (List.mem_of_getElem? (i := 1089) rfl) rfl
set_option maxRecDepth 100000 in
theorem lk1090 : Cond.selects "SealLineModel" yX11_feed yX11_feed ∈ qg := qg_mem (List.mem_of_getElem? (i := 1090) rfl) rfl
theorem vX11_feed : qMv mX11_feed 1 := ⟨⟨lk1091, lk76, by decide +kernel, by decide⟩, lk1089, lk1090⟩
set_option maxRecDepth 100000 in
theorem lk515 : Cond.methodLink "SealLineLaw" 44 yX10_end ∈ qg := qg_mem (List.mem_of_getElem? (i := 515) rfl) rfl
set_option maxRecDepth 100000 in
theorem lk518 : Cond.code yX10_end cX10_end 2 (some .boolean) ∈ qg := qg_mem (List.mem_of_getElem? (i := 518) rfl) rfl
set_option maxRecDepth 100000 in
theorem lk516 : Cond.instanceMethod yX10_end ∈ qg := qg_mem (List.mem_of_getElem? (i := 516) rfl) rfl
set_option maxRecDepth 100000 in
theorem lk517 : Cond.selects "SealLine" yX10_end yX10_end ∈ qg := qg_mem (List.mem_of_getElem? (i := 517) rfl) rfl
theorem vX10_end : qMv mX10_end 1 := ⟨⟨lk518, lk63, by decide +kernel, by decide⟩, lk516, lk517⟩
set_option maxRecDepth 100000 in
theorem lk1092 : Cond.methodLink "SealLineLaw" 48 yX11_end ∈ qg := qg_mem (List.mem_of_getElem? (i := 1092) rfl) rfl
set_option maxRecDepth 100000 in
theorem lk1095 : Cond.code yX11_end cX11_end 2 (some .boolean) ∈ qg := qg_mem (List.mem_of_getElem? (i := 1095) rfl) rfl
set_option maxRecDepth 100000 in
theorem lk1093 : Cond.instanceMethod yX11_end ∈ qg := qg_mem (List.mem_of_getElem? (i := 1093) rfl) rfl
set_option maxRecDepth 100000 in
theorem lk1094 : Cond.selects "SealLineModel" yX11_end yX11_end ∈ qg := qg_mem (List.mem_of_getElem? (i := 1094) rfl) rfl
theorem vX11_end : qMv mX11_end 1 := ⟨⟨lk1095, lk76, by decide +kernel, by decide⟩, lk1093, lk1094⟩
set_option maxRecDepth 100000 in
theorem lk523 : Cond.methodLink "SealLineLaw" 49 yX10_fault ∈ qg := qg_mem (List.mem_of_getElem? (i := 523) rfl) rfl
set_option maxRecDepth 100000 in
theorem lk526 : Cond.code yX10_fault cX10_fault 1 (some .int) ∈ qg := qg_mem (List.mem_of_getElem? (i := 526) rfl) rfl
set_option maxRecDepth 100000 in
theorem lk524 : Cond.instanceMethod yX10_fault ∈ qg := qg_mem (List.mem_of_getElem? (i := 524) rfl) rfl
set_option maxRecDepth 100000 in
theorem lk525 : Cond.selects "SealLine" yX10_fault yX10_fault ∈ qg := qg_mem (List.mem_of_getElem? (i := 525) rfl) rfl
theorem vX10_fault : qMv mX10_fault 0 := ⟨⟨lk526, lk63, by decide +kernel, by decide⟩, lk524, lk525⟩
set_option maxRecDepth 100000 in
theorem lk1096 : Cond.methodLink "SealLineLaw" 53 yX11_fault ∈ qg := qg_mem (List.mem_of_getElem? (i := 1096) rfl) rfl
set_option maxRecDepth 100000 in
theorem lk565 : Cond.methodLink "SealLineLaw" 54 yX10_rule ∈ qg := qg_mem (List.mem_of_getElem? (i := 565) rfl) rfl
set_option maxRecDepth 100000 in
theorem lk568 : Cond.code yX10_rule cX10_rule 1 (some .int) ∈ qg := qg_mem (List.mem_of_getElem? (i := 568) rfl) rfl
set_option maxRecDepth 100000 in
theorem lk566 : Cond.instanceMethod yX10_rule ∈ qg := qg_mem (List.mem_of_getElem? (i := 566) rfl) rfl
set_option maxRecDepth 100000 in
theorem lk567 : Cond.selects "SealLine" yX10_rule yX10_rule ∈ qg := qg_mem (List.mem_of_getElem? (i := 567) rfl) rfl
theorem vX10_rule : qMv mX10_rule 0 := ⟨⟨lk568, lk63, by decide +kernel, by decide⟩, lk566, lk567⟩
set_option maxRecDepth 100000 in
theorem lk1124 : Cond.methodLink "SealLineLaw" 57 yX11_rule ∈ qg := qg_mem (List.mem_of_getElem? (i := 1124) rfl) rfl
set_option maxRecDepth 100000 in
theorem lk1127 : Cond.code yX11_rule cX11_rule 2 (some .int) ∈ qg := qg_mem (List.mem_of_getElem? (i := 1127) rfl) rfl
set_option maxRecDepth 100000 in
theorem lk1125 : Cond.instanceMethod yX11_rule ∈ qg := qg_mem (List.mem_of_getElem? (i := 1125) rfl) rfl
set_option maxRecDepth 100000 in
theorem lk1126 : Cond.selects "SealLineModel" yX11_rule yX11_rule ∈ qg := qg_mem (List.mem_of_getElem? (i := 1126) rfl) rfl
theorem vX11_rule : qMv mX11_rule 0 := ⟨⟨lk1127, lk76, by decide +kernel, by decide⟩, lk1125, lk1126⟩
set_option maxRecDepth 100000 in
theorem lk593 : Cond.methodLink "SealLineLaw" 58 yX10_ask ∈ qg := qg_mem (List.mem_of_getElem? (i := 593) rfl) rfl
set_option maxRecDepth 100000 in
theorem lk596 : Cond.code yX10_ask cX10_ask 2 (some .int) ∈ qg := qg_mem (List.mem_of_getElem? (i := 596) rfl) rfl
set_option maxRecDepth 100000 in
theorem lk594 : Cond.instanceMethod yX10_ask ∈ qg := qg_mem (List.mem_of_getElem? (i := 594) rfl) rfl
set_option maxRecDepth 100000 in
theorem lk595 : Cond.selects "SealLine" yX10_ask yX10_ask ∈ qg := qg_mem (List.mem_of_getElem? (i := 595) rfl) rfl
theorem vX10_ask : qMv mX10_ask 1 := ⟨⟨lk596, lk63, by decide +kernel, by decide⟩, lk594, lk595⟩
set_option maxRecDepth 100000 in
theorem lk1129 : Cond.methodLink "SealLineLaw" 61 yX11_ask ∈ qg := qg_mem (List.mem_of_getElem? (i := 1129) rfl) rfl
set_option maxRecDepth 100000 in
theorem lk1132 : Cond.code yX11_ask cX11_ask 2 (some .int) ∈ qg := qg_mem (List.mem_of_getElem? (i := 1132) rfl) rfl
set_option maxRecDepth 100000 in
theorem lk1130 : Cond.instanceMethod yX11_ask ∈ qg := qg_mem (List.mem_of_getElem? (i := 1130) rfl) rfl
set_option maxRecDepth 100000 in
theorem lk1131 : Cond.selects "SealLineModel" yX11_ask yX11_ask ∈ qg := qg_mem (List.mem_of_getElem? (i := 1131) rfl) rfl
theorem vX11_ask : qMv mX11_ask 1 := ⟨⟨lk1132, lk76, by decide +kernel, by decide⟩, lk1130, lk1131⟩
set_option maxRecDepth 100000 in
theorem lk605 : Cond.methodLink "SealLineLaw" 62 yX10_skip ∈ qg := qg_mem (List.mem_of_getElem? (i := 605) rfl) rfl
set_option maxRecDepth 100000 in
theorem lk608 : Cond.code yX10_skip cX10_skip 1 (some .int) ∈ qg := qg_mem (List.mem_of_getElem? (i := 608) rfl) rfl
set_option maxRecDepth 100000 in
theorem lk606 : Cond.instanceMethod yX10_skip ∈ qg := qg_mem (List.mem_of_getElem? (i := 606) rfl) rfl
set_option maxRecDepth 100000 in
theorem lk607 : Cond.selects "SealLine" yX10_skip yX10_skip ∈ qg := qg_mem (List.mem_of_getElem? (i := 607) rfl) rfl
theorem vX10_skip : qMv mX10_skip 0 := ⟨⟨lk608, lk63, by decide +kernel, by decide⟩, lk606, lk607⟩
set_option maxRecDepth 100000 in
theorem lk1137 : Cond.methodLink "SealLineLaw" 65 yX11_skip ∈ qg := qg_mem (List.mem_of_getElem? (i := 1137) rfl) rfl
set_option maxRecDepth 100000 in
theorem lk618 : Cond.methodLink "SealLineLaw" 66 yX10_seal ∈ qg := qg_mem (List.mem_of_getElem? (i := 618) rfl) rfl
set_option maxRecDepth 100000 in
theorem lk621 : Cond.code yX10_seal cX10_seal 7 (some .int) ∈ qg := qg_mem (List.mem_of_getElem? (i := 621) rfl) rfl
set_option maxRecDepth 100000 in
theorem lk619 : Cond.instanceMethod yX10_seal ∈ qg := qg_mem (List.mem_of_getElem? (i := 619) rfl) rfl
set_option maxRecDepth 100000 in
theorem lk620 : Cond.selects "SealLine" yX10_seal yX10_seal ∈ qg := qg_mem (List.mem_of_getElem? (i := 620) rfl) rfl
theorem vX10_seal : qMv mX10_seal 3 := ⟨⟨lk621, lk63, by decide +kernel, by decide⟩, lk619, lk620⟩
set_option maxRecDepth 100000 in
theorem lk1185 : Cond.methodLink "SealLineLaw" 70 yX11_seal ∈ qg := qg_mem (List.mem_of_getElem? (i := 1185) rfl) rfl
set_option maxRecDepth 100000 in
theorem lk1188 : Cond.code yX11_seal cX11_seal 6 (some .int) ∈ qg := qg_mem (List.mem_of_getElem? (i := 1188) rfl) rfl
set_option maxRecDepth 100000 in
theorem lk1186 : Cond.instanceMethod yX11_seal ∈ qg := qg_mem (List.mem_of_getElem? (i := 1186) rfl) rfl
set_option maxRecDepth 100000 in
theorem lk1187 : Cond.selects "SealLineModel" yX11_seal yX11_seal ∈ qg := qg_mem (List.mem_of_getElem? (i := 1187) rfl) rfl
theorem vX11_seal : qMv mX11_seal 3 := ⟨⟨lk1188, lk76, by decide +kernel, by decide⟩, lk1186, lk1187⟩
set_option maxRecDepth 100000 in
theorem lk702 : Cond.methodLink "SealLineLaw" 71 yX10_why ∈ qg := qg_mem (List.mem_of_getElem? (i := 702) rfl) rfl
set_option maxRecDepth 100000 in
theorem lk705 : Cond.code yX10_why cX10_why 4 (some .int) ∈ qg := qg_mem (List.mem_of_getElem? (i := 705) rfl) rfl
set_option maxRecDepth 100000 in
theorem lk703 : Cond.instanceMethod yX10_why ∈ qg := qg_mem (List.mem_of_getElem? (i := 703) rfl) rfl
set_option maxRecDepth 100000 in
theorem lk704 : Cond.selects "SealLine" yX10_why yX10_why ∈ qg := qg_mem (List.mem_of_getElem? (i := 704) rfl) rfl
theorem vX10_why : qMv mX10_why 3 := ⟨⟨lk705, lk63, by decide +kernel, by decide⟩, lk703, lk704⟩
set_option maxRecDepth 100000 in
theorem lk1141 : Cond.methodLink "SealLineLaw" 74 yX11_why ∈ qg := qg_mem (List.mem_of_getElem? (i := 1141) rfl) rfl
set_option maxRecDepth 100000 in
theorem lk706 : Cond.methodLink "SealLineLaw" 75 yX10_uses ∈ qg := qg_mem (List.mem_of_getElem? (i := 706) rfl) rfl
set_option maxRecDepth 100000 in
theorem lk709 : Cond.code yX10_uses cX10_uses 3 (some .int) ∈ qg := qg_mem (List.mem_of_getElem? (i := 709) rfl) rfl
set_option maxRecDepth 100000 in
theorem lk707 : Cond.instanceMethod yX10_uses ∈ qg := qg_mem (List.mem_of_getElem? (i := 707) rfl) rfl
set_option maxRecDepth 100000 in
theorem lk708 : Cond.selects "SealLine" yX10_uses yX10_uses ∈ qg := qg_mem (List.mem_of_getElem? (i := 708) rfl) rfl
theorem vX10_uses : qMv mX10_uses 2 := ⟨⟨lk709, lk63, by decide +kernel, by decide⟩, lk707, lk708⟩
set_option maxRecDepth 100000 in
theorem lk1191 : Cond.methodLink "SealLineLaw" 79 yX11_uses ∈ qg := qg_mem (List.mem_of_getElem? (i := 1191) rfl) rfl
set_option maxRecDepth 100000 in
theorem lk1194 : Cond.code yX11_uses cX11_uses 3 (some .int) ∈ qg := qg_mem (List.mem_of_getElem? (i := 1194) rfl) rfl
set_option maxRecDepth 100000 in
theorem lk1192 : Cond.instanceMethod yX11_uses ∈ qg := qg_mem (List.mem_of_getElem? (i := 1192) rfl) rfl
set_option maxRecDepth 100000 in
theorem lk1193 : Cond.selects "SealLineModel" yX11_uses yX11_uses ∈ qg := qg_mem (List.mem_of_getElem? (i := 1193) rfl) rfl
theorem vX11_uses : qMv mX11_uses 2 := ⟨⟨lk1194, lk76, by decide +kernel, by decide⟩, lk1192, lk1193⟩
set_option maxRecDepth 100000 in
theorem lk715 : Cond.methodLink "SealLineLaw" 80 yX10_finish ∈ qg := qg_mem (List.mem_of_getElem? (i := 715) rfl) rfl
set_option maxRecDepth 100000 in
theorem lk718 : Cond.code yX10_finish cX10_finish 2 (some .boolean) ∈ qg := qg_mem (List.mem_of_getElem? (i := 718) rfl) rfl
set_option maxRecDepth 100000 in
theorem lk716 : Cond.instanceMethod yX10_finish ∈ qg := qg_mem (List.mem_of_getElem? (i := 716) rfl) rfl
set_option maxRecDepth 100000 in
theorem lk717 : Cond.selects "SealLine" yX10_finish yX10_finish ∈ qg := qg_mem (List.mem_of_getElem? (i := 717) rfl) rfl
theorem vX10_finish : qMv mX10_finish 1 := ⟨⟨lk718, lk63, by decide +kernel, by decide⟩, lk716, lk717⟩
set_option maxRecDepth 100000 in
theorem lk1196 : Cond.methodLink "SealLineLaw" 83 yX11_finish ∈ qg := qg_mem (List.mem_of_getElem? (i := 1196) rfl) rfl
set_option maxRecDepth 100000 in
theorem lk1199 : Cond.code yX11_finish cX11_finish 2 (some .boolean) ∈ qg := qg_mem (List.mem_of_getElem? (i := 1199) rfl) rfl
set_option maxRecDepth 100000 in
theorem lk1197 : Cond.instanceMethod yX11_finish ∈ qg := qg_mem (List.mem_of_getElem? (i := 1197) rfl) rfl
set_option maxRecDepth 100000 in
theorem lk1198 : Cond.selects "SealLineModel" yX11_finish yX11_finish ∈ qg := qg_mem (List.mem_of_getElem? (i := 1198) rfl) rfl
theorem vX11_finish : qMv mX11_finish 1 := ⟨⟨lk1199, lk76, by decide +kernel, by decide⟩, lk1197, lk1198⟩
set_option maxRecDepth 100000 in
theorem lk723 : Cond.methodLink "SealLineLaw" 84 yX10_lose ∈ qg := qg_mem (List.mem_of_getElem? (i := 723) rfl) rfl
set_option maxRecDepth 100000 in
theorem lk726 : Cond.code yX10_lose cX10_lose 5 (some .int) ∈ qg := qg_mem (List.mem_of_getElem? (i := 726) rfl) rfl
set_option maxRecDepth 100000 in
theorem lk724 : Cond.instanceMethod yX10_lose ∈ qg := qg_mem (List.mem_of_getElem? (i := 724) rfl) rfl
set_option maxRecDepth 100000 in
theorem lk725 : Cond.selects "SealLine" yX10_lose yX10_lose ∈ qg := qg_mem (List.mem_of_getElem? (i := 725) rfl) rfl
theorem vX10_lose : qMv mX10_lose 2 := ⟨⟨lk726, lk63, by decide +kernel, by decide⟩, lk724, lk725⟩
set_option maxRecDepth 100000 in
theorem lk1200 : Cond.methodLink "SealLineLaw" 87 yX11_lose ∈ qg := qg_mem (List.mem_of_getElem? (i := 1200) rfl) rfl
set_option maxRecDepth 100000 in
theorem lk1203 : Cond.code yX11_lose cX11_lose 5 (some .int) ∈ qg := qg_mem (List.mem_of_getElem? (i := 1203) rfl) rfl
set_option maxRecDepth 100000 in
theorem lk1201 : Cond.instanceMethod yX11_lose ∈ qg := qg_mem (List.mem_of_getElem? (i := 1201) rfl) rfl
set_option maxRecDepth 100000 in
theorem lk1202 : Cond.selects "SealLineModel" yX11_lose yX11_lose ∈ qg := qg_mem (List.mem_of_getElem? (i := 1202) rfl) rfl
theorem vX11_lose : qMv mX11_lose 2 := ⟨⟨lk1203, lk76, by decide +kernel, by decide⟩, lk1201, lk1202⟩
set_option maxRecDepth 100000 in
theorem lk733 : Cond.methodLink "SealLineLaw" 88 yX10_recall ∈ qg := qg_mem (List.mem_of_getElem? (i := 733) rfl) rfl
set_option maxRecDepth 100000 in
theorem lk736 : Cond.code yX10_recall cX10_recall 5 (some .int) ∈ qg := qg_mem (List.mem_of_getElem? (i := 736) rfl) rfl
set_option maxRecDepth 100000 in
theorem lk734 : Cond.instanceMethod yX10_recall ∈ qg := qg_mem (List.mem_of_getElem? (i := 734) rfl) rfl
set_option maxRecDepth 100000 in
theorem lk735 : Cond.selects "SealLine" yX10_recall yX10_recall ∈ qg := qg_mem (List.mem_of_getElem? (i := 735) rfl) rfl
theorem vX10_recall : qMv mX10_recall 3 := ⟨⟨lk736, lk63, by decide +kernel, by decide⟩, lk734, lk735⟩
set_option maxRecDepth 100000 in
theorem lk1204 : Cond.methodLink "SealLineLaw" 91 yX11_recall ∈ qg := qg_mem (List.mem_of_getElem? (i := 1204) rfl) rfl
set_option maxRecDepth 100000 in
theorem lk1207 : Cond.code yX11_recall cX11_recall 5 (some .int) ∈ qg := qg_mem (List.mem_of_getElem? (i := 1207) rfl) rfl
set_option maxRecDepth 100000 in
theorem lk1205 : Cond.instanceMethod yX11_recall ∈ qg := qg_mem (List.mem_of_getElem? (i := 1205) rfl) rfl
set_option maxRecDepth 100000 in
theorem lk1206 : Cond.selects "SealLineModel" yX11_recall yX11_recall ∈ qg := qg_mem (List.mem_of_getElem? (i := 1206) rfl) rfl
theorem vX11_recall : qMv mX11_recall 3 := ⟨⟨lk1207, lk76, by decide +kernel, by decide⟩, lk1205, lk1206⟩
set_option maxRecDepth 100000 in
theorem lk758 : Cond.methodLink "SealLineLaw" 92 yX10_file ∈ qg := qg_mem (List.mem_of_getElem? (i := 758) rfl) rfl
set_option maxRecDepth 100000 in
theorem lk761 : Cond.code yX10_file cX10_file 3 (some .int) ∈ qg := qg_mem (List.mem_of_getElem? (i := 761) rfl) rfl
set_option maxRecDepth 100000 in
theorem lk759 : Cond.instanceMethod yX10_file ∈ qg := qg_mem (List.mem_of_getElem? (i := 759) rfl) rfl
set_option maxRecDepth 100000 in
theorem lk760 : Cond.selects "SealLine" yX10_file yX10_file ∈ qg := qg_mem (List.mem_of_getElem? (i := 760) rfl) rfl
theorem vX10_file : qMv mX10_file 2 := ⟨⟨lk761, lk63, by decide +kernel, by decide⟩, lk759, lk760⟩
set_option maxRecDepth 100000 in
theorem lk1212 : Cond.methodLink "SealLineLaw" 95 yX11_file ∈ qg := qg_mem (List.mem_of_getElem? (i := 1212) rfl) rfl
set_option maxRecDepth 100000 in
theorem lk1215 : Cond.code yX11_file cX11_file 5 (some .int) ∈ qg := qg_mem (List.mem_of_getElem? (i := 1215) rfl) rfl
set_option maxRecDepth 100000 in
theorem lk1213 : Cond.instanceMethod yX11_file ∈ qg := qg_mem (List.mem_of_getElem? (i := 1213) rfl) rfl
set_option maxRecDepth 100000 in
theorem lk1214 : Cond.selects "SealLineModel" yX11_file yX11_file ∈ qg := qg_mem (List.mem_of_getElem? (i := 1214) rfl) rfl
theorem vX11_file : qMv mX11_file 2 := ⟨⟨lk1215, lk76, by decide +kernel, by decide⟩, lk1213, lk1214⟩
set_option maxRecDepth 100000 in
theorem lk789 : Cond.methodLink "SealLineLaw" 96 yX10_hash ∈ qg := qg_mem (List.mem_of_getElem? (i := 789) rfl) rfl
set_option maxRecDepth 100000 in
theorem lk792 : Cond.code yX10_hash cX10_hash 2 (some .long) ∈ qg := qg_mem (List.mem_of_getElem? (i := 792) rfl) rfl
set_option maxRecDepth 100000 in
theorem lk790 : Cond.instanceMethod yX10_hash ∈ qg := qg_mem (List.mem_of_getElem? (i := 790) rfl) rfl
set_option maxRecDepth 100000 in
theorem lk791 : Cond.selects "SealLine" yX10_hash yX10_hash ∈ qg := qg_mem (List.mem_of_getElem? (i := 791) rfl) rfl
theorem vX10_hash : qMv mX10_hash 1 := ⟨⟨lk792, lk63, by decide +kernel, by decide⟩, lk790, lk791⟩
set_option maxRecDepth 100000 in
theorem lk1220 : Cond.methodLink "SealLineLaw" 100 yX11_hash ∈ qg := qg_mem (List.mem_of_getElem? (i := 1220) rfl) rfl
set_option maxRecDepth 100000 in
theorem lk1223 : Cond.code yX11_hash cX11_hash 2 (some .long) ∈ qg := qg_mem (List.mem_of_getElem? (i := 1223) rfl) rfl
set_option maxRecDepth 100000 in
theorem lk1221 : Cond.instanceMethod yX11_hash ∈ qg := qg_mem (List.mem_of_getElem? (i := 1221) rfl) rfl
set_option maxRecDepth 100000 in
theorem lk1222 : Cond.selects "SealLineModel" yX11_hash yX11_hash ∈ qg := qg_mem (List.mem_of_getElem? (i := 1222) rfl) rfl
theorem vX11_hash : qMv mX11_hash 1 := ⟨⟨lk1223, lk76, by decide +kernel, by decide⟩, lk1221, lk1222⟩
set_option maxRecDepth 100000 in
theorem lk793 : Cond.methodLink "SealLineLaw" 101 yX10_find ∈ qg := qg_mem (List.mem_of_getElem? (i := 793) rfl) rfl
set_option maxRecDepth 100000 in
theorem lk796 : Cond.code yX10_find cX10_find 3 (some .int) ∈ qg := qg_mem (List.mem_of_getElem? (i := 796) rfl) rfl
set_option maxRecDepth 100000 in
theorem lk794 : Cond.instanceMethod yX10_find ∈ qg := qg_mem (List.mem_of_getElem? (i := 794) rfl) rfl
set_option maxRecDepth 100000 in
theorem lk795 : Cond.selects "SealLine" yX10_find yX10_find ∈ qg := qg_mem (List.mem_of_getElem? (i := 795) rfl) rfl
theorem vX10_find : qMv mX10_find 1 := ⟨⟨lk796, lk63, by decide +kernel, by decide⟩, lk794, lk795⟩
set_option maxRecDepth 100000 in
theorem lk1019 : Cond.methodLink "SealLineLaw" 105 yX11_find ∈ qg := qg_mem (List.mem_of_getElem? (i := 1019) rfl) rfl
set_option maxRecDepth 100000 in
theorem lk797 : Cond.methodLink "SealLineLaw" 106 yX10_sealed ∈ qg := qg_mem (List.mem_of_getElem? (i := 797) rfl) rfl
set_option maxRecDepth 100000 in
theorem lk800 : Cond.code yX10_sealed cX10_sealed 3 (some .int) ∈ qg := qg_mem (List.mem_of_getElem? (i := 800) rfl) rfl
set_option maxRecDepth 100000 in
theorem lk798 : Cond.instanceMethod yX10_sealed ∈ qg := qg_mem (List.mem_of_getElem? (i := 798) rfl) rfl
set_option maxRecDepth 100000 in
theorem lk799 : Cond.selects "SealLine" yX10_sealed yX10_sealed ∈ qg := qg_mem (List.mem_of_getElem? (i := 799) rfl) rfl
theorem vX10_sealed : qMv mX10_sealed 2 := ⟨⟨lk800, lk63, by decide +kernel, by decide⟩, lk798, lk799⟩
set_option maxRecDepth 100000 in
theorem lk1224 : Cond.methodLink "SealLineLaw" 109 yX11_sealed ∈ qg := qg_mem (List.mem_of_getElem? (i := 1224) rfl) rfl
set_option maxRecDepth 100000 in
theorem lk1227 : Cond.code yX11_sealed cX11_sealed 4 (some .int) ∈ qg := qg_mem (List.mem_of_getElem? (i := 1227) rfl) rfl
set_option maxRecDepth 100000 in
theorem lk1225 : Cond.instanceMethod yX11_sealed ∈ qg := qg_mem (List.mem_of_getElem? (i := 1225) rfl) rfl
set_option maxRecDepth 100000 in
theorem lk1226 : Cond.selects "SealLineModel" yX11_sealed yX11_sealed ∈ qg := qg_mem (List.mem_of_getElem? (i := 1226) rfl) rfl
theorem vX11_sealed : qMv mX11_sealed 2 := ⟨⟨lk1227, lk76, by decide +kernel, by decide⟩, lk1225, lk1226⟩
set_option maxRecDepth 100000 in
theorem lk801 : Cond.methodLink "SealLineLaw" 110 yX10_note ∈ qg := qg_mem (List.mem_of_getElem? (i := 801) rfl) rfl
set_option maxRecDepth 100000 in
theorem lk804 : Cond.code yX10_note cX10_note 3 (some .int) ∈ qg := qg_mem (List.mem_of_getElem? (i := 804) rfl) rfl
set_option maxRecDepth 100000 in
theorem lk802 : Cond.instanceMethod yX10_note ∈ qg := qg_mem (List.mem_of_getElem? (i := 802) rfl) rfl
set_option maxRecDepth 100000 in
theorem lk803 : Cond.selects "SealLine" yX10_note yX10_note ∈ qg := qg_mem (List.mem_of_getElem? (i := 803) rfl) rfl
theorem vX10_note : qMv mX10_note 2 := ⟨⟨lk804, lk63, by decide +kernel, by decide⟩, lk802, lk803⟩
set_option maxRecDepth 100000 in
theorem lk1228 : Cond.methodLink "SealLineLaw" 113 yX11_note ∈ qg := qg_mem (List.mem_of_getElem? (i := 1228) rfl) rfl
set_option maxRecDepth 100000 in
theorem lk1231 : Cond.code yX11_note cX11_note 3 (some .int) ∈ qg := qg_mem (List.mem_of_getElem? (i := 1231) rfl) rfl
set_option maxRecDepth 100000 in
theorem lk1229 : Cond.instanceMethod yX11_note ∈ qg := qg_mem (List.mem_of_getElem? (i := 1229) rfl) rfl
set_option maxRecDepth 100000 in
theorem lk1230 : Cond.selects "SealLineModel" yX11_note yX11_note ∈ qg := qg_mem (List.mem_of_getElem? (i := 1230) rfl) rfl
theorem vX11_note : qMv mX11_note 2 := ⟨⟨lk1231, lk76, by decide +kernel, by decide⟩, lk1229, lk1230⟩
set_option maxRecDepth 100000 in
theorem lk805 : Cond.methodLink "SealLineLaw" 114 yX10_least ∈ qg := qg_mem (List.mem_of_getElem? (i := 805) rfl) rfl
set_option maxRecDepth 100000 in
theorem lk808 : Cond.code yX10_least cX10_least 1 (some .int) ∈ qg := qg_mem (List.mem_of_getElem? (i := 808) rfl) rfl
set_option maxRecDepth 100000 in
theorem lk806 : Cond.instanceMethod yX10_least ∈ qg := qg_mem (List.mem_of_getElem? (i := 806) rfl) rfl
set_option maxRecDepth 100000 in
theorem lk807 : Cond.selects "SealLine" yX10_least yX10_least ∈ qg := qg_mem (List.mem_of_getElem? (i := 807) rfl) rfl
theorem vX10_least : qMv mX10_least 0 := ⟨⟨lk808, lk63, by decide +kernel, by decide⟩, lk806, lk807⟩
set_option maxRecDepth 100000 in
theorem lk1232 : Cond.methodLink "SealLineLaw" 117 yX11_least ∈ qg := qg_mem (List.mem_of_getElem? (i := 1232) rfl) rfl
set_option maxRecDepth 100000 in
theorem lk1235 : Cond.code yX11_least cX11_least 2 (some .int) ∈ qg := qg_mem (List.mem_of_getElem? (i := 1235) rfl) rfl
set_option maxRecDepth 100000 in
theorem lk1233 : Cond.instanceMethod yX11_least ∈ qg := qg_mem (List.mem_of_getElem? (i := 1233) rfl) rfl
set_option maxRecDepth 100000 in
theorem lk1234 : Cond.selects "SealLineModel" yX11_least yX11_least ∈ qg := qg_mem (List.mem_of_getElem? (i := 1234) rfl) rfl
theorem vX11_least : qMv mX11_least 0 := ⟨⟨lk1235, lk76, by decide +kernel, by decide⟩, lk1233, lk1234⟩
set_option maxRecDepth 100000 in
theorem lk827 : Cond.methodLink "SealLineLaw" 118 yX10_makers ∈ qg := qg_mem (List.mem_of_getElem? (i := 827) rfl) rfl
set_option maxRecDepth 100000 in
theorem lk830 : Cond.code yX10_makers cX10_makers 1 (some .int) ∈ qg := qg_mem (List.mem_of_getElem? (i := 830) rfl) rfl
set_option maxRecDepth 100000 in
theorem lk828 : Cond.instanceMethod yX10_makers ∈ qg := qg_mem (List.mem_of_getElem? (i := 828) rfl) rfl
set_option maxRecDepth 100000 in
theorem lk829 : Cond.selects "SealLine" yX10_makers yX10_makers ∈ qg := qg_mem (List.mem_of_getElem? (i := 829) rfl) rfl
theorem vX10_makers : qMv mX10_makers 0 := ⟨⟨lk830, lk63, by decide +kernel, by decide⟩, lk828, lk829⟩
set_option maxRecDepth 100000 in
theorem lk1244 : Cond.methodLink "SealLineLaw" 121 yX11_makers ∈ qg := qg_mem (List.mem_of_getElem? (i := 1244) rfl) rfl
set_option maxRecDepth 100000 in
theorem lk1247 : Cond.code yX11_makers cX11_makers 2 (some .int) ∈ qg := qg_mem (List.mem_of_getElem? (i := 1247) rfl) rfl
set_option maxRecDepth 100000 in
theorem lk1245 : Cond.instanceMethod yX11_makers ∈ qg := qg_mem (List.mem_of_getElem? (i := 1245) rfl) rfl
set_option maxRecDepth 100000 in
theorem lk1246 : Cond.selects "SealLineModel" yX11_makers yX11_makers ∈ qg := qg_mem (List.mem_of_getElem? (i := 1246) rfl) rfl
theorem vX11_makers : qMv mX11_makers 0 := ⟨⟨lk1247, lk76, by decide +kernel, by decide⟩, lk1245, lk1246⟩
set_option maxRecDepth 100000 in
theorem lk835 : Cond.methodLink "SealLineLaw" 122 yX10_proof ∈ qg := qg_mem (List.mem_of_getElem? (i := 835) rfl) rfl
set_option maxRecDepth 100000 in
theorem lk838 : Cond.code yX10_proof cX10_proof 3 (some .int) ∈ qg := qg_mem (List.mem_of_getElem? (i := 838) rfl) rfl
set_option maxRecDepth 100000 in
theorem lk836 : Cond.instanceMethod yX10_proof ∈ qg := qg_mem (List.mem_of_getElem? (i := 836) rfl) rfl
set_option maxRecDepth 100000 in
theorem lk837 : Cond.selects "SealLine" yX10_proof yX10_proof ∈ qg := qg_mem (List.mem_of_getElem? (i := 837) rfl) rfl
theorem vX10_proof : qMv mX10_proof 2 := ⟨⟨lk838, lk63, by decide +kernel, by decide⟩, lk836, lk837⟩
set_option maxRecDepth 100000 in
theorem lk1248 : Cond.methodLink "SealLineLaw" 125 yX11_proof ∈ qg := qg_mem (List.mem_of_getElem? (i := 1248) rfl) rfl
set_option maxRecDepth 100000 in
theorem lk1251 : Cond.code yX11_proof cX11_proof 7 (some .int) ∈ qg := qg_mem (List.mem_of_getElem? (i := 1251) rfl) rfl
set_option maxRecDepth 100000 in
theorem lk1249 : Cond.instanceMethod yX11_proof ∈ qg := qg_mem (List.mem_of_getElem? (i := 1249) rfl) rfl
set_option maxRecDepth 100000 in
theorem lk1250 : Cond.selects "SealLineModel" yX11_proof yX11_proof ∈ qg := qg_mem (List.mem_of_getElem? (i := 1250) rfl) rfl
theorem vX11_proof : qMv mX11_proof 2 := ⟨⟨lk1251, lk76, by decide +kernel, by decide⟩, lk1249, lk1250⟩
set_option maxRecDepth 100000 in
theorem lk870 : Cond.methodLink "SealLineLaw" 126 yX10_called ∈ qg := qg_mem (List.mem_of_getElem? (i := 870) rfl) rfl
set_option maxRecDepth 100000 in
theorem lk873 : Cond.code yX10_called cX10_called 4 (some .int) ∈ qg := qg_mem (List.mem_of_getElem? (i := 873) rfl) rfl
set_option maxRecDepth 100000 in
theorem lk871 : Cond.instanceMethod yX10_called ∈ qg := qg_mem (List.mem_of_getElem? (i := 871) rfl) rfl
set_option maxRecDepth 100000 in
theorem lk872 : Cond.selects "SealLine" yX10_called yX10_called ∈ qg := qg_mem (List.mem_of_getElem? (i := 872) rfl) rfl
theorem vX10_called : qMv mX10_called 1 := ⟨⟨lk873, lk63, by decide +kernel, by decide⟩, lk871, lk872⟩
set_option maxRecDepth 100000 in
theorem lk1256 : Cond.methodLink "SealLineLaw" 129 yX11_called ∈ qg := qg_mem (List.mem_of_getElem? (i := 1256) rfl) rfl
set_option maxRecDepth 100000 in
theorem lk1259 : Cond.code yX11_called cX11_called 4 (some .int) ∈ qg := qg_mem (List.mem_of_getElem? (i := 1259) rfl) rfl
set_option maxRecDepth 100000 in
theorem lk1257 : Cond.instanceMethod yX11_called ∈ qg := qg_mem (List.mem_of_getElem? (i := 1257) rfl) rfl
set_option maxRecDepth 100000 in
theorem lk1258 : Cond.selects "SealLineModel" yX11_called yX11_called ∈ qg := qg_mem (List.mem_of_getElem? (i := 1258) rfl) rfl
theorem vX11_called : qMv mX11_called 1 := ⟨⟨lk1259, lk76, by decide +kernel, by decide⟩, lk1257, lk1258⟩
set_option maxRecDepth 100000 in
theorem lk874 : Cond.methodLink "SealLineLaw" 130 yX10_count ∈ qg := qg_mem (List.mem_of_getElem? (i := 874) rfl) rfl
set_option maxRecDepth 100000 in
theorem lk877 : Cond.code yX10_count cX10_count 2 (some .int) ∈ qg := qg_mem (List.mem_of_getElem? (i := 877) rfl) rfl
set_option maxRecDepth 100000 in
theorem lk875 : Cond.instanceMethod yX10_count ∈ qg := qg_mem (List.mem_of_getElem? (i := 875) rfl) rfl
set_option maxRecDepth 100000 in
theorem lk876 : Cond.selects "SealLine" yX10_count yX10_count ∈ qg := qg_mem (List.mem_of_getElem? (i := 876) rfl) rfl
theorem vX10_count : qMv mX10_count 1 := ⟨⟨lk877, lk63, by decide +kernel, by decide⟩, lk875, lk876⟩
set_option maxRecDepth 100000 in
theorem lk1260 : Cond.methodLink "SealLineLaw" 133 yX11_count ∈ qg := qg_mem (List.mem_of_getElem? (i := 1260) rfl) rfl
set_option maxRecDepth 100000 in
theorem lk1263 : Cond.code yX11_count cX11_count 4 (some .int) ∈ qg := qg_mem (List.mem_of_getElem? (i := 1263) rfl) rfl
set_option maxRecDepth 100000 in
theorem lk1261 : Cond.instanceMethod yX11_count ∈ qg := qg_mem (List.mem_of_getElem? (i := 1261) rfl) rfl
set_option maxRecDepth 100000 in
theorem lk1262 : Cond.selects "SealLineModel" yX11_count yX11_count ∈ qg := qg_mem (List.mem_of_getElem? (i := 1262) rfl) rfl
theorem vX11_count : qMv mX11_count 1 := ⟨⟨lk1263, lk76, by decide +kernel, by decide⟩, lk1261, lk1262⟩
set_option maxRecDepth 100000 in
theorem lk886 : Cond.methodLink "SealLineLaw" 134 yX10_key ∈ qg := qg_mem (List.mem_of_getElem? (i := 886) rfl) rfl
set_option maxRecDepth 100000 in
theorem lk889 : Cond.code yX10_key cX10_key 3 (some .int) ∈ qg := qg_mem (List.mem_of_getElem? (i := 889) rfl) rfl
set_option maxRecDepth 100000 in
theorem lk887 : Cond.instanceMethod yX10_key ∈ qg := qg_mem (List.mem_of_getElem? (i := 887) rfl) rfl
set_option maxRecDepth 100000 in
theorem lk888 : Cond.selects "SealLine" yX10_key yX10_key ∈ qg := qg_mem (List.mem_of_getElem? (i := 888) rfl) rfl
theorem vX10_key : qMv mX10_key 2 := ⟨⟨lk889, lk63, by decide +kernel, by decide⟩, lk887, lk888⟩
set_option maxRecDepth 100000 in
theorem lk1264 : Cond.methodLink "SealLineLaw" 137 yX11_key ∈ qg := qg_mem (List.mem_of_getElem? (i := 1264) rfl) rfl
set_option maxRecDepth 100000 in
theorem lk1267 : Cond.code yX11_key cX11_key 5 (some .int) ∈ qg := qg_mem (List.mem_of_getElem? (i := 1267) rfl) rfl
set_option maxRecDepth 100000 in
theorem lk1265 : Cond.instanceMethod yX11_key ∈ qg := qg_mem (List.mem_of_getElem? (i := 1265) rfl) rfl
set_option maxRecDepth 100000 in
theorem lk1266 : Cond.selects "SealLineModel" yX11_key yX11_key ∈ qg := qg_mem (List.mem_of_getElem? (i := 1266) rfl) rfl
theorem vX11_key : qMv mX11_key 2 := ⟨⟨lk1267, lk76, by decide +kernel, by decide⟩, lk1265, lk1266⟩
end
section
theorem dJ13_bitCount_95d88_0 : decode cJ13_bitCount_95d88 0 = .ok (.lload_n 0, 1) := by decide +kernel
theorem dJ13_bitCount_95d88_1 : decode cJ13_bitCount_95d88 1 = .ok (.lload_n 0, 1) := by decide +kernel
theorem dJ13_bitCount_95d88_2 : decode cJ13_bitCount_95d88 2 = .ok (.iconst 1, 1) := by decide +kernel
theorem dJ13_bitCount_95d88_3 : decode cJ13_bitCount_95d88 3 = .ok (.lushr, 1) := by decide +kernel
theorem dJ13_bitCount_95d88_4 : decode cJ13_bitCount_95d88 4 = .ok (.ldc2_w 314, 3) := by decide +kernel
theorem dJ13_bitCount_95d88_7 : decode cJ13_bitCount_95d88 7 = .ok (.land, 1) := by decide +kernel
theorem dJ13_bitCount_95d88_8 : decode cJ13_bitCount_95d88 8 = .ok (.lsub, 1) := by decide +kernel
theorem dJ13_bitCount_95d88_9 : decode cJ13_bitCount_95d88 9 = .ok (.lstore_n 0, 1) := by decide +kernel
theorem dJ13_bitCount_95d88_10 : decode cJ13_bitCount_95d88 10 = .ok (.lload_n 0, 1) := by decide +kernel
theorem dJ13_bitCount_95d88_11 : decode cJ13_bitCount_95d88 11 = .ok (.ldc2_w 316, 3) := by decide +kernel
theorem dJ13_bitCount_95d88_14 : decode cJ13_bitCount_95d88 14 = .ok (.land, 1) := by decide +kernel
theorem dJ13_bitCount_95d88_15 : decode cJ13_bitCount_95d88 15 = .ok (.lload_n 0, 1) := by decide +kernel
theorem dJ13_bitCount_95d88_16 : decode cJ13_bitCount_95d88 16 = .ok (.iconst 2, 1) := by decide +kernel
theorem dJ13_bitCount_95d88_17 : decode cJ13_bitCount_95d88 17 = .ok (.lushr, 1) := by decide +kernel
theorem dJ13_bitCount_95d88_18 : decode cJ13_bitCount_95d88 18 = .ok (.ldc2_w 316, 3) := by decide +kernel
theorem dJ13_bitCount_95d88_21 : decode cJ13_bitCount_95d88 21 = .ok (.land, 1) := by decide +kernel
theorem dJ13_bitCount_95d88_22 : decode cJ13_bitCount_95d88 22 = .ok (.ladd, 1) := by decide +kernel
theorem dJ13_bitCount_95d88_23 : decode cJ13_bitCount_95d88 23 = .ok (.lstore_n 0, 1) := by decide +kernel
theorem dJ13_bitCount_95d88_24 : decode cJ13_bitCount_95d88 24 = .ok (.lload_n 0, 1) := by decide +kernel
theorem dJ13_bitCount_95d88_25 : decode cJ13_bitCount_95d88 25 = .ok (.lload_n 0, 1) := by decide +kernel
theorem dJ13_bitCount_95d88_26 : decode cJ13_bitCount_95d88 26 = .ok (.iconst 4, 1) := by decide +kernel
theorem dJ13_bitCount_95d88_27 : decode cJ13_bitCount_95d88 27 = .ok (.lushr, 1) := by decide +kernel
theorem dJ13_bitCount_95d88_28 : decode cJ13_bitCount_95d88 28 = .ok (.ladd, 1) := by decide +kernel
theorem dJ13_bitCount_95d88_29 : decode cJ13_bitCount_95d88 29 = .ok (.ldc2_w 318, 3) := by decide +kernel
theorem dJ13_bitCount_95d88_32 : decode cJ13_bitCount_95d88 32 = .ok (.land, 1) := by decide +kernel
theorem dJ13_bitCount_95d88_33 : decode cJ13_bitCount_95d88 33 = .ok (.lstore_n 0, 1) := by decide +kernel
theorem dJ13_bitCount_95d88_34 : decode cJ13_bitCount_95d88 34 = .ok (.lload_n 0, 1) := by decide +kernel
theorem dJ13_bitCount_95d88_35 : decode cJ13_bitCount_95d88 35 = .ok (.lload_n 0, 1) := by decide +kernel
theorem dJ13_bitCount_95d88_36 : decode cJ13_bitCount_95d88 36 = .ok (.bipush 8, 2) := by decide +kernel
theorem dJ13_bitCount_95d88_38 : decode cJ13_bitCount_95d88 38 = .ok (.lushr, 1) := by decide +kernel
theorem dJ13_bitCount_95d88_39 : decode cJ13_bitCount_95d88 39 = .ok (.ladd, 1) := by decide +kernel
theorem dJ13_bitCount_95d88_40 : decode cJ13_bitCount_95d88 40 = .ok (.lstore_n 0, 1) := by decide +kernel
theorem dJ13_bitCount_95d88_41 : decode cJ13_bitCount_95d88 41 = .ok (.lload_n 0, 1) := by decide +kernel
theorem dJ13_bitCount_95d88_42 : decode cJ13_bitCount_95d88 42 = .ok (.lload_n 0, 1) := by decide +kernel
theorem dJ13_bitCount_95d88_43 : decode cJ13_bitCount_95d88 43 = .ok (.bipush 16, 2) := by decide +kernel
theorem dJ13_bitCount_95d88_45 : decode cJ13_bitCount_95d88 45 = .ok (.lushr, 1) := by decide +kernel
theorem dJ13_bitCount_95d88_46 : decode cJ13_bitCount_95d88 46 = .ok (.ladd, 1) := by decide +kernel
theorem dJ13_bitCount_95d88_47 : decode cJ13_bitCount_95d88 47 = .ok (.lstore_n 0, 1) := by decide +kernel
theorem dJ13_bitCount_95d88_48 : decode cJ13_bitCount_95d88 48 = .ok (.lload_n 0, 1) := by decide +kernel
theorem dJ13_bitCount_95d88_49 : decode cJ13_bitCount_95d88 49 = .ok (.lload_n 0, 1) := by decide +kernel
theorem dJ13_bitCount_95d88_50 : decode cJ13_bitCount_95d88 50 = .ok (.bipush 32, 2) := by decide +kernel
theorem dJ13_bitCount_95d88_52 : decode cJ13_bitCount_95d88 52 = .ok (.lushr, 1) := by decide +kernel
theorem dJ13_bitCount_95d88_53 : decode cJ13_bitCount_95d88 53 = .ok (.ladd, 1) := by decide +kernel
theorem dJ13_bitCount_95d88_54 : decode cJ13_bitCount_95d88 54 = .ok (.lstore_n 0, 1) := by decide +kernel
theorem dJ13_bitCount_95d88_55 : decode cJ13_bitCount_95d88 55 = .ok (.lload_n 0, 1) := by decide +kernel
theorem dJ13_bitCount_95d88_56 : decode cJ13_bitCount_95d88 56 = .ok (.l2i, 1) := by decide +kernel
theorem dJ13_bitCount_95d88_57 : decode cJ13_bitCount_95d88 57 = .ok (.bipush 127, 2) := by decide +kernel
theorem dJ13_bitCount_95d88_59 : decode cJ13_bitCount_95d88 59 = .ok (.iand, 1) := by decide +kernel
theorem dJ13_bitCount_95d88_60 : decode cJ13_bitCount_95d88 60 = .ok (.ireturn, 1) := by decide +kernel
/-! java/lang/Long.bitCount(J)I -/
theorem eJ13_bitCount_95d88 {d mc ms : Nat} {w : qW} {Q : Option Value → qW → Prop} {x0 : Int64} (h : AW (mJ13_bitCount_95d88, d, mc, ms, none, Q) 0 [some (.long x0), none] [] w 0 0) : CT mJ13_bitCount_95d88 d mc ms [.long x0] w Q := CT_of (by decide +kernel) rfl (by decide) h
def bJ13_bitCount_95d88_0 (G : Nat × Nat × Nat × Option (Nat × (Nat → Int32)) × (Option Value → qW → Prop)) : qK := (s_lload 0 (s_lload 0 (s_iconst 1 (s_lushr (s_lconst 6148914691236517205 (s_land (s_lsub (s_lstore 0 0 (s_lload 0 (s_lconst 3689348814741910323 (s_land (s_lload 0 (s_iconst 2 (s_lushr (s_lconst 3689348814741910323 (s_land (s_ladd (s_lstore 0 0 (s_lload 0 (s_lload 0 (s_iconst 4 (s_lushr (s_ladd (s_lconst 1085102592571150095 (s_land (s_lstore 0 0 (s_lload 0 (s_lload 0 (s_iconst 8 (s_lushr (s_ladd (s_lstore 0 0 (s_lload 0 (s_lload 0 (s_iconst 16 (s_lushr (s_ladd (s_lstore 0 0 (s_lload 0 (s_lload 0 (s_iconst 32 (s_lushr (s_ladd (s_lstore 0 0 (s_lload 0 (s_l2i (s_iconst 127 (s_iand (s_ireturn (mJ13_bitCount_95d88, G))))))))))))))))))))))))))))))))))))))))))))))))))
theorem oJ13_bitCount_95d88_0 (G : Nat × Nat × Nat × Option (Nat × (Nat → Int32)) × (Option Value → qW → Prop)) : qImp (bJ13_bitCount_95d88_0 G) (AW (mJ13_bitCount_95d88, G) 0) := (r_lload_n dJ13_bitCount_95d88_0 rfl (r_lload_n dJ13_bitCount_95d88_1 rfl (r_iconst dJ13_bitCount_95d88_2 rfl (r_lushr dJ13_bitCount_95d88_3 (r_ldc2 dJ13_bitCount_95d88_4 lk773 (r_land dJ13_bitCount_95d88_7 (r_lsub dJ13_bitCount_95d88_8 (r_lstore_n dJ13_bitCount_95d88_9 rfl (Or.inl rfl) (Nat.le_of_ble_eq_true rfl) (r_lload_n dJ13_bitCount_95d88_10 rfl (r_ldc2 dJ13_bitCount_95d88_11 lk774 (r_land dJ13_bitCount_95d88_14 (r_lload_n dJ13_bitCount_95d88_15 rfl (r_iconst dJ13_bitCount_95d88_16 rfl (r_lushr dJ13_bitCount_95d88_17 (r_ldc2 dJ13_bitCount_95d88_18 lk774 (r_land dJ13_bitCount_95d88_21 (r_ladd dJ13_bitCount_95d88_22 (r_lstore_n dJ13_bitCount_95d88_23 rfl (Or.inl rfl) (Nat.le_of_ble_eq_true rfl) (r_lload_n dJ13_bitCount_95d88_24 rfl (r_lload_n dJ13_bitCount_95d88_25 rfl (r_iconst dJ13_bitCount_95d88_26 rfl (r_lushr dJ13_bitCount_95d88_27 (r_ladd dJ13_bitCount_95d88_28 (r_ldc2 dJ13_bitCount_95d88_29 lk775 (r_land dJ13_bitCount_95d88_32 (r_lstore_n dJ13_bitCount_95d88_33 rfl (Or.inl rfl) (Nat.le_of_ble_eq_true rfl) (r_lload_n dJ13_bitCount_95d88_34 rfl (r_lload_n dJ13_bitCount_95d88_35 rfl (r_bipush dJ13_bitCount_95d88_36 rfl (r_lushr dJ13_bitCount_95d88_38 (r_ladd dJ13_bitCount_95d88_39 (r_lstore_n dJ13_bitCount_95d88_40 rfl (Or.inl rfl) (Nat.le_of_ble_eq_true rfl) (r_lload_n dJ13_bitCount_95d88_41 rfl (r_lload_n dJ13_bitCount_95d88_42 rfl (r_bipush dJ13_bitCount_95d88_43 rfl (r_lushr dJ13_bitCount_95d88_45 (r_ladd dJ13_bitCount_95d88_46 (r_lstore_n dJ13_bitCount_95d88_47 rfl (Or.inl rfl) (Nat.le_of_ble_eq_true rfl) (r_lload_n dJ13_bitCount_95d88_48 rfl (r_lload_n dJ13_bitCount_95d88_49 rfl (r_bipush dJ13_bitCount_95d88_50 rfl (r_lushr dJ13_bitCount_95d88_52 (r_ladd dJ13_bitCount_95d88_53 (r_lstore_n dJ13_bitCount_95d88_54 rfl (Or.inl rfl) (Nat.le_of_ble_eq_true rfl) (r_lload_n dJ13_bitCount_95d88_55 rfl (r_l2i dJ13_bitCount_95d88_56 (r_bipush dJ13_bitCount_95d88_57 rfl (r_iand dJ13_bitCount_95d88_59 (r_ireturn dJ13_bitCount_95d88_60 rfl)))))))))))))))))))))))))))))))))))))))))))))))))
theorem dJ6_numberOfTrailingZeros_0f7a4_0 : decode cJ6_numberOfTrailingZeros_0f7a4 0 = .ok (.iload_n 0, 1) := by decide +kernel
theorem dJ6_numberOfTrailingZeros_0f7a4_1 : decode cJ6_numberOfTrailingZeros_0f7a4 1 = .ok (.iconst (-1), 1) := by decide +kernel
theorem dJ6_numberOfTrailingZeros_0f7a4_2 : decode cJ6_numberOfTrailingZeros_0f7a4 2 = .ok (.ixor, 1) := by decide +kernel
theorem dJ6_numberOfTrailingZeros_0f7a4_3 : decode cJ6_numberOfTrailingZeros_0f7a4 3 = .ok (.iload_n 0, 1) := by decide +kernel
theorem dJ6_numberOfTrailingZeros_0f7a4_4 : decode cJ6_numberOfTrailingZeros_0f7a4 4 = .ok (.iconst 1, 1) := by decide +kernel
theorem dJ6_numberOfTrailingZeros_0f7a4_5 : decode cJ6_numberOfTrailingZeros_0f7a4 5 = .ok (.isub, 1) := by decide +kernel
theorem dJ6_numberOfTrailingZeros_0f7a4_6 : decode cJ6_numberOfTrailingZeros_0f7a4 6 = .ok (.iand, 1) := by decide +kernel
theorem dJ6_numberOfTrailingZeros_0f7a4_7 : decode cJ6_numberOfTrailingZeros_0f7a4 7 = .ok (.istore_n 0, 1) := by decide +kernel
theorem dJ6_numberOfTrailingZeros_0f7a4_8 : decode cJ6_numberOfTrailingZeros_0f7a4 8 = .ok (.iload_n 0, 1) := by decide +kernel
theorem dJ6_numberOfTrailingZeros_0f7a4_9 : decode cJ6_numberOfTrailingZeros_0f7a4 9 = .ok (.ifCond .gt 8, 3) := by decide +kernel
theorem dJ6_numberOfTrailingZeros_0f7a4_12 : decode cJ6_numberOfTrailingZeros_0f7a4 12 = .ok (.iload_n 0, 1) := by decide +kernel
theorem dJ6_numberOfTrailingZeros_0f7a4_13 : decode cJ6_numberOfTrailingZeros_0f7a4 13 = .ok (.bipush 32, 2) := by decide +kernel
theorem dJ6_numberOfTrailingZeros_0f7a4_15 : decode cJ6_numberOfTrailingZeros_0f7a4 15 = .ok (.iand, 1) := by decide +kernel
theorem dJ6_numberOfTrailingZeros_0f7a4_16 : decode cJ6_numberOfTrailingZeros_0f7a4 16 = .ok (.ireturn, 1) := by decide +kernel
theorem dJ6_numberOfTrailingZeros_0f7a4_17 : decode cJ6_numberOfTrailingZeros_0f7a4 17 = .ok (.iconst 1, 1) := by decide +kernel
theorem dJ6_numberOfTrailingZeros_0f7a4_18 : decode cJ6_numberOfTrailingZeros_0f7a4 18 = .ok (.istore_n 1, 1) := by decide +kernel
theorem dJ6_numberOfTrailingZeros_0f7a4_19 : decode cJ6_numberOfTrailingZeros_0f7a4 19 = .ok (.iload_n 0, 1) := by decide +kernel
theorem dJ6_numberOfTrailingZeros_0f7a4_20 : decode cJ6_numberOfTrailingZeros_0f7a4 20 = .ok (.ldc_w 264, 3) := by decide +kernel
theorem dJ6_numberOfTrailingZeros_0f7a4_23 : decode cJ6_numberOfTrailingZeros_0f7a4 23 = .ok (.if_icmp .le 11, 3) := by decide +kernel
theorem dJ6_numberOfTrailingZeros_0f7a4_26 : decode cJ6_numberOfTrailingZeros_0f7a4 26 = .ok (.iinc 1 16, 3) := by decide +kernel
theorem dJ6_numberOfTrailingZeros_0f7a4_29 : decode cJ6_numberOfTrailingZeros_0f7a4 29 = .ok (.iload_n 0, 1) := by decide +kernel
theorem dJ6_numberOfTrailingZeros_0f7a4_30 : decode cJ6_numberOfTrailingZeros_0f7a4 30 = .ok (.bipush 16, 2) := by decide +kernel
theorem dJ6_numberOfTrailingZeros_0f7a4_32 : decode cJ6_numberOfTrailingZeros_0f7a4 32 = .ok (.iushr, 1) := by decide +kernel
theorem dJ6_numberOfTrailingZeros_0f7a4_33 : decode cJ6_numberOfTrailingZeros_0f7a4 33 = .ok (.istore_n 0, 1) := by decide +kernel
theorem dJ6_numberOfTrailingZeros_0f7a4_34 : decode cJ6_numberOfTrailingZeros_0f7a4 34 = .ok (.iload_n 0, 1) := by decide +kernel
theorem dJ6_numberOfTrailingZeros_0f7a4_35 : decode cJ6_numberOfTrailingZeros_0f7a4 35 = .ok (.sipush 256, 3) := by decide +kernel
theorem dJ6_numberOfTrailingZeros_0f7a4_38 : decode cJ6_numberOfTrailingZeros_0f7a4 38 = .ok (.if_icmp .le 11, 3) := by decide +kernel
theorem dJ6_numberOfTrailingZeros_0f7a4_41 : decode cJ6_numberOfTrailingZeros_0f7a4 41 = .ok (.iinc 1 8, 3) := by decide +kernel
theorem dJ6_numberOfTrailingZeros_0f7a4_44 : decode cJ6_numberOfTrailingZeros_0f7a4 44 = .ok (.iload_n 0, 1) := by decide +kernel
theorem dJ6_numberOfTrailingZeros_0f7a4_45 : decode cJ6_numberOfTrailingZeros_0f7a4 45 = .ok (.bipush 8, 2) := by decide +kernel
theorem dJ6_numberOfTrailingZeros_0f7a4_47 : decode cJ6_numberOfTrailingZeros_0f7a4 47 = .ok (.iushr, 1) := by decide +kernel
theorem dJ6_numberOfTrailingZeros_0f7a4_48 : decode cJ6_numberOfTrailingZeros_0f7a4 48 = .ok (.istore_n 0, 1) := by decide +kernel
theorem dJ6_numberOfTrailingZeros_0f7a4_49 : decode cJ6_numberOfTrailingZeros_0f7a4 49 = .ok (.iload_n 0, 1) := by decide +kernel
theorem dJ6_numberOfTrailingZeros_0f7a4_50 : decode cJ6_numberOfTrailingZeros_0f7a4 50 = .ok (.bipush 16, 2) := by decide +kernel
theorem dJ6_numberOfTrailingZeros_0f7a4_52 : decode cJ6_numberOfTrailingZeros_0f7a4 52 = .ok (.if_icmp .le 10, 3) := by decide +kernel
theorem dJ6_numberOfTrailingZeros_0f7a4_55 : decode cJ6_numberOfTrailingZeros_0f7a4 55 = .ok (.iinc 1 4, 3) := by decide +kernel
theorem dJ6_numberOfTrailingZeros_0f7a4_58 : decode cJ6_numberOfTrailingZeros_0f7a4 58 = .ok (.iload_n 0, 1) := by decide +kernel
theorem dJ6_numberOfTrailingZeros_0f7a4_59 : decode cJ6_numberOfTrailingZeros_0f7a4 59 = .ok (.iconst 4, 1) := by decide +kernel
theorem dJ6_numberOfTrailingZeros_0f7a4_60 : decode cJ6_numberOfTrailingZeros_0f7a4 60 = .ok (.iushr, 1) := by decide +kernel
theorem dJ6_numberOfTrailingZeros_0f7a4_61 : decode cJ6_numberOfTrailingZeros_0f7a4 61 = .ok (.istore_n 0, 1) := by decide +kernel
theorem dJ6_numberOfTrailingZeros_0f7a4_62 : decode cJ6_numberOfTrailingZeros_0f7a4 62 = .ok (.iload_n 0, 1) := by decide +kernel
theorem dJ6_numberOfTrailingZeros_0f7a4_63 : decode cJ6_numberOfTrailingZeros_0f7a4 63 = .ok (.iconst 4, 1) := by decide +kernel
theorem dJ6_numberOfTrailingZeros_0f7a4_64 : decode cJ6_numberOfTrailingZeros_0f7a4 64 = .ok (.if_icmp .le 10, 3) := by decide +kernel
theorem dJ6_numberOfTrailingZeros_0f7a4_67 : decode cJ6_numberOfTrailingZeros_0f7a4 67 = .ok (.iinc 1 2, 3) := by decide +kernel
theorem dJ6_numberOfTrailingZeros_0f7a4_70 : decode cJ6_numberOfTrailingZeros_0f7a4 70 = .ok (.iload_n 0, 1) := by decide +kernel
theorem dJ6_numberOfTrailingZeros_0f7a4_71 : decode cJ6_numberOfTrailingZeros_0f7a4 71 = .ok (.iconst 2, 1) := by decide +kernel
theorem dJ6_numberOfTrailingZeros_0f7a4_72 : decode cJ6_numberOfTrailingZeros_0f7a4 72 = .ok (.iushr, 1) := by decide +kernel
theorem dJ6_numberOfTrailingZeros_0f7a4_73 : decode cJ6_numberOfTrailingZeros_0f7a4 73 = .ok (.istore_n 0, 1) := by decide +kernel
theorem dJ6_numberOfTrailingZeros_0f7a4_74 : decode cJ6_numberOfTrailingZeros_0f7a4 74 = .ok (.iload_n 1, 1) := by decide +kernel
theorem dJ6_numberOfTrailingZeros_0f7a4_75 : decode cJ6_numberOfTrailingZeros_0f7a4 75 = .ok (.iload_n 0, 1) := by decide +kernel
theorem dJ6_numberOfTrailingZeros_0f7a4_76 : decode cJ6_numberOfTrailingZeros_0f7a4 76 = .ok (.iconst 1, 1) := by decide +kernel
theorem dJ6_numberOfTrailingZeros_0f7a4_77 : decode cJ6_numberOfTrailingZeros_0f7a4 77 = .ok (.iushr, 1) := by decide +kernel
theorem dJ6_numberOfTrailingZeros_0f7a4_78 : decode cJ6_numberOfTrailingZeros_0f7a4 78 = .ok (.iadd, 1) := by decide +kernel
theorem dJ6_numberOfTrailingZeros_0f7a4_79 : decode cJ6_numberOfTrailingZeros_0f7a4 79 = .ok (.ireturn, 1) := by decide +kernel
/-! java/lang/Integer.numberOfTrailingZeros(I)I -/
theorem eJ6_numberOfTrailingZeros_0f7a4 {d mc ms : Nat} {w : qW} {Q : Option Value → qW → Prop} {x0 : Int32} (h : AW (mJ6_numberOfTrailingZeros_0f7a4, d, mc, ms, none, Q) 0 [some (.int x0), none] [] w 0 0) : CT mJ6_numberOfTrailingZeros_0f7a4 d mc ms [.int x0] w Q := CT_of (by decide +kernel) rfl (by decide) h
def bJ6_numberOfTrailingZeros_0f7a4_0 (G : Nat × Nat × Nat × Option (Nat × (Nat → Int32)) × (Option Value → qW → Prop)) : qK := (s_iload 0 (s_iconst (-1) (s_ixor (s_iload 0 (s_iconst 1 (s_isub (s_iand (s_istore 0 0 (s_iload 0 (s_if_gt (AW (mJ6_numberOfTrailingZeros_0f7a4, G) 17) (s_iload 0 (s_iconst 32 (s_iand (s_ireturn (mJ6_numberOfTrailingZeros_0f7a4, G)))))))))))))))
theorem oJ6_numberOfTrailingZeros_0f7a4_0 (G : Nat × Nat × Nat × Option (Nat × (Nat → Int32)) × (Option Value → qW → Prop)) : qImp (bJ6_numberOfTrailingZeros_0f7a4_0 G) (AW (mJ6_numberOfTrailingZeros_0f7a4, G) 0) := (r_iload_n dJ6_numberOfTrailingZeros_0f7a4_0 rfl (r_iconst dJ6_numberOfTrailingZeros_0f7a4_1 rfl (r_ixor dJ6_numberOfTrailingZeros_0f7a4_2 (r_iload_n dJ6_numberOfTrailingZeros_0f7a4_3 rfl (r_iconst dJ6_numberOfTrailingZeros_0f7a4_4 rfl (r_isub dJ6_numberOfTrailingZeros_0f7a4_5 (r_iand dJ6_numberOfTrailingZeros_0f7a4_6 (r_istore_n dJ6_numberOfTrailingZeros_0f7a4_7 rfl (Or.inl rfl) (Nat.le_of_ble_eq_true rfl) (r_iload_n dJ6_numberOfTrailingZeros_0f7a4_8 rfl (r_if_gt (tgt := 17) dJ6_numberOfTrailingZeros_0f7a4_9 rfl qImp.rf (r_iload_n dJ6_numberOfTrailingZeros_0f7a4_12 rfl (r_bipush dJ6_numberOfTrailingZeros_0f7a4_13 rfl (r_iand dJ6_numberOfTrailingZeros_0f7a4_15 (r_ireturn dJ6_numberOfTrailingZeros_0f7a4_16 rfl))))))))))))))
def bJ6_numberOfTrailingZeros_0f7a4_17 (G : Nat × Nat × Nat × Option (Nat × (Nat → Int32)) × (Option Value → qW → Prop)) : qK := (s_iconst 1 (s_istore 1 0 (s_iload 0 (s_iconst 65536 (s_ic_le (AW (mJ6_numberOfTrailingZeros_0f7a4, G) 34) (s_iinc 1 0 16 (s_iload 0 (s_iconst 16 (s_iushr (s_istore 0 0 (AW (mJ6_numberOfTrailingZeros_0f7a4, G) 34)))))))))))
theorem oJ6_numberOfTrailingZeros_0f7a4_17 (G : Nat × Nat × Nat × Option (Nat × (Nat → Int32)) × (Option Value → qW → Prop)) : qImp (bJ6_numberOfTrailingZeros_0f7a4_17 G) (AW (mJ6_numberOfTrailingZeros_0f7a4, G) 17) := (r_iconst dJ6_numberOfTrailingZeros_0f7a4_17 rfl (r_istore_n dJ6_numberOfTrailingZeros_0f7a4_18 rfl (Or.inr rfl) (Nat.le_of_ble_eq_true rfl) (r_iload_n dJ6_numberOfTrailingZeros_0f7a4_19 rfl (r_ldcw dJ6_numberOfTrailingZeros_0f7a4_20 lk826 (r_ic_le (tgt := 34) dJ6_numberOfTrailingZeros_0f7a4_23 rfl qImp.rf (r_iinc dJ6_numberOfTrailingZeros_0f7a4_26 rfl (Or.inr rfl) (Nat.le_of_ble_eq_true rfl) (r_iload_n dJ6_numberOfTrailingZeros_0f7a4_29 rfl (r_bipush dJ6_numberOfTrailingZeros_0f7a4_30 rfl (r_iushr dJ6_numberOfTrailingZeros_0f7a4_32 (r_istore_n dJ6_numberOfTrailingZeros_0f7a4_33 rfl (Or.inl rfl) (Nat.le_of_ble_eq_true rfl) qImp.rf))))))))))
def bJ6_numberOfTrailingZeros_0f7a4_34 (G : Nat × Nat × Nat × Option (Nat × (Nat → Int32)) × (Option Value → qW → Prop)) : qK := (s_iload 0 (s_iconst 256 (s_ic_le (AW (mJ6_numberOfTrailingZeros_0f7a4, G) 49) (s_iinc 1 0 8 (s_iload 0 (s_iconst 8 (s_iushr (s_istore 0 0 (AW (mJ6_numberOfTrailingZeros_0f7a4, G) 49)))))))))
theorem oJ6_numberOfTrailingZeros_0f7a4_34 (G : Nat × Nat × Nat × Option (Nat × (Nat → Int32)) × (Option Value → qW → Prop)) : qImp (bJ6_numberOfTrailingZeros_0f7a4_34 G) (AW (mJ6_numberOfTrailingZeros_0f7a4, G) 34) := (r_iload_n dJ6_numberOfTrailingZeros_0f7a4_34 rfl (r_sipush dJ6_numberOfTrailingZeros_0f7a4_35 rfl (r_ic_le (tgt := 49) dJ6_numberOfTrailingZeros_0f7a4_38 rfl qImp.rf (r_iinc dJ6_numberOfTrailingZeros_0f7a4_41 rfl (Or.inr rfl) (Nat.le_of_ble_eq_true rfl) (r_iload_n dJ6_numberOfTrailingZeros_0f7a4_44 rfl (r_bipush dJ6_numberOfTrailingZeros_0f7a4_45 rfl (r_iushr dJ6_numberOfTrailingZeros_0f7a4_47 (r_istore_n dJ6_numberOfTrailingZeros_0f7a4_48 rfl (Or.inl rfl) (Nat.le_of_ble_eq_true rfl) qImp.rf))))))))
def bJ6_numberOfTrailingZeros_0f7a4_49 (G : Nat × Nat × Nat × Option (Nat × (Nat → Int32)) × (Option Value → qW → Prop)) : qK := (s_iload 0 (s_iconst 16 (s_ic_le (AW (mJ6_numberOfTrailingZeros_0f7a4, G) 62) (s_iinc 1 0 4 (s_iload 0 (s_iconst 4 (s_iushr (s_istore 0 0 (AW (mJ6_numberOfTrailingZeros_0f7a4, G) 62)))))))))
theorem oJ6_numberOfTrailingZeros_0f7a4_49 (G : Nat × Nat × Nat × Option (Nat × (Nat → Int32)) × (Option Value → qW → Prop)) : qImp (bJ6_numberOfTrailingZeros_0f7a4_49 G) (AW (mJ6_numberOfTrailingZeros_0f7a4, G) 49) := (r_iload_n dJ6_numberOfTrailingZeros_0f7a4_49 rfl (r_bipush dJ6_numberOfTrailingZeros_0f7a4_50 rfl (r_ic_le (tgt := 62) dJ6_numberOfTrailingZeros_0f7a4_52 rfl qImp.rf (r_iinc dJ6_numberOfTrailingZeros_0f7a4_55 rfl (Or.inr rfl) (Nat.le_of_ble_eq_true rfl) (r_iload_n dJ6_numberOfTrailingZeros_0f7a4_58 rfl (r_iconst dJ6_numberOfTrailingZeros_0f7a4_59 rfl (r_iushr dJ6_numberOfTrailingZeros_0f7a4_60 (r_istore_n dJ6_numberOfTrailingZeros_0f7a4_61 rfl (Or.inl rfl) (Nat.le_of_ble_eq_true rfl) qImp.rf))))))))
def bJ6_numberOfTrailingZeros_0f7a4_62 (G : Nat × Nat × Nat × Option (Nat × (Nat → Int32)) × (Option Value → qW → Prop)) : qK := (s_iload 0 (s_iconst 4 (s_ic_le (AW (mJ6_numberOfTrailingZeros_0f7a4, G) 74) (s_iinc 1 0 2 (s_iload 0 (s_iconst 2 (s_iushr (s_istore 0 0 (AW (mJ6_numberOfTrailingZeros_0f7a4, G) 74)))))))))
theorem oJ6_numberOfTrailingZeros_0f7a4_62 (G : Nat × Nat × Nat × Option (Nat × (Nat → Int32)) × (Option Value → qW → Prop)) : qImp (bJ6_numberOfTrailingZeros_0f7a4_62 G) (AW (mJ6_numberOfTrailingZeros_0f7a4, G) 62) := (r_iload_n dJ6_numberOfTrailingZeros_0f7a4_62 rfl (r_iconst dJ6_numberOfTrailingZeros_0f7a4_63 rfl (r_ic_le (tgt := 74) dJ6_numberOfTrailingZeros_0f7a4_64 rfl qImp.rf (r_iinc dJ6_numberOfTrailingZeros_0f7a4_67 rfl (Or.inr rfl) (Nat.le_of_ble_eq_true rfl) (r_iload_n dJ6_numberOfTrailingZeros_0f7a4_70 rfl (r_iconst dJ6_numberOfTrailingZeros_0f7a4_71 rfl (r_iushr dJ6_numberOfTrailingZeros_0f7a4_72 (r_istore_n dJ6_numberOfTrailingZeros_0f7a4_73 rfl (Or.inl rfl) (Nat.le_of_ble_eq_true rfl) qImp.rf))))))))
def bJ6_numberOfTrailingZeros_0f7a4_74 (G : Nat × Nat × Nat × Option (Nat × (Nat → Int32)) × (Option Value → qW → Prop)) : qK := (s_iload 1 (s_iload 0 (s_iconst 1 (s_iushr (s_iadd (s_ireturn (mJ6_numberOfTrailingZeros_0f7a4, G)))))))
theorem oJ6_numberOfTrailingZeros_0f7a4_74 (G : Nat × Nat × Nat × Option (Nat × (Nat → Int32)) × (Option Value → qW → Prop)) : qImp (bJ6_numberOfTrailingZeros_0f7a4_74 G) (AW (mJ6_numberOfTrailingZeros_0f7a4, G) 74) := (r_iload_n dJ6_numberOfTrailingZeros_0f7a4_74 rfl (r_iload_n dJ6_numberOfTrailingZeros_0f7a4_75 rfl (r_iconst dJ6_numberOfTrailingZeros_0f7a4_76 rfl (r_iushr dJ6_numberOfTrailingZeros_0f7a4_77 (r_iadd dJ6_numberOfTrailingZeros_0f7a4_78 (r_ireturn dJ6_numberOfTrailingZeros_0f7a4_79 rfl))))))
theorem dJ7_fill_53178_0 : decode cJ7_fill_53178 0 = .ok (.iconst 0, 1) := by decide +kernel
theorem dJ7_fill_53178_1 : decode cJ7_fill_53178 1 = .ok (.istore_n 2, 1) := by decide +kernel
theorem dJ7_fill_53178_2 : decode cJ7_fill_53178 2 = .ok (.aload_n 0, 1) := by decide +kernel
theorem dJ7_fill_53178_3 : decode cJ7_fill_53178 3 = .ok (.arraylength, 1) := by decide +kernel
theorem dJ7_fill_53178_4 : decode cJ7_fill_53178 4 = .ok (.istore_n 3, 1) := by decide +kernel
theorem dJ7_fill_53178_5 : decode cJ7_fill_53178 5 = .ok (.iload_n 2, 1) := by decide +kernel
theorem dJ7_fill_53178_6 : decode cJ7_fill_53178 6 = .ok (.iload_n 3, 1) := by decide +kernel
theorem dJ7_fill_53178_7 : decode cJ7_fill_53178 7 = .ok (.if_icmp .ge 13, 3) := by decide +kernel
theorem dJ7_fill_53178_10 : decode cJ7_fill_53178 10 = .ok (.aload_n 0, 1) := by decide +kernel
theorem dJ7_fill_53178_11 : decode cJ7_fill_53178 11 = .ok (.iload_n 2, 1) := by decide +kernel
theorem dJ7_fill_53178_12 : decode cJ7_fill_53178 12 = .ok (.iload_n 1, 1) := by decide +kernel
theorem dJ7_fill_53178_13 : decode cJ7_fill_53178 13 = .ok (.iastore, 1) := by decide +kernel
theorem dJ7_fill_53178_14 : decode cJ7_fill_53178 14 = .ok (.iinc 2 1, 3) := by decide +kernel
theorem dJ7_fill_53178_17 : decode cJ7_fill_53178 17 = .ok (.goto (-12), 3) := by decide +kernel
theorem dJ7_fill_53178_20 : decode cJ7_fill_53178 20 = .ok (.return_, 1) := by decide +kernel
/-! java/util/Arrays.fill([II)V -/
theorem eJ7_fill_53178 {d mc ms : Nat} {w : qW} {Q : Option Value → qW → Prop} {x0 : Nat} {x1 : Int32} (h : AW (mJ7_fill_53178, d, mc, ms, none, Q) 0 [some (.ref x0), some (.int x1), none, none] [] w 0 0) : CT mJ7_fill_53178 d mc ms [.ref x0, .int x1] w Q := CT_of (by decide +kernel) rfl (by decide) h
def bJ7_fill_53178_0 (G : Nat × Nat × Nat × Option (Nat × (Nat → Int32)) × (Option Value → qW → Prop)) : qK := (s_iconst 0 (s_istore 2 1 (s_aload 0 (s_alen (mJ7_fill_53178, G) (s_istore 3 2 (AW (mJ7_fill_53178, G) 5))))))
theorem oJ7_fill_53178_0 (G : Nat × Nat × Nat × Option (Nat × (Nat → Int32)) × (Option Value → qW → Prop)) : qImp (bJ7_fill_53178_0 G) (AW (mJ7_fill_53178, G) 0) := (r_iconst dJ7_fill_53178_0 rfl (r_istore_n dJ7_fill_53178_1 rfl (Or.inr rfl) (Nat.le_of_ble_eq_true rfl) (r_aload_n dJ7_fill_53178_2 rfl (r_alen dJ7_fill_53178_3 (r_istore_n dJ7_fill_53178_4 rfl (Or.inr rfl) (Nat.le_of_ble_eq_true rfl) qImp.rf)))))
def bJ7_fill_53178_5 (G : Nat × Nat × Nat × Option (Nat × (Nat → Int32)) × (Option Value → qW → Prop)) : qK := (s_iload 2 (s_iload 3 (s_ic_ge (AW (mJ7_fill_53178, G) 20) (s_aload 0 (s_iload 2 (s_iload 1 (s_iastore (s_iinc 2 1 1 (AW (mJ7_fill_53178, G) 5)))))))))
theorem oJ7_fill_53178_5 (G : Nat × Nat × Nat × Option (Nat × (Nat → Int32)) × (Option Value → qW → Prop)) : qImp (bJ7_fill_53178_5 G) (AW (mJ7_fill_53178, G) 5) := (r_iload_n dJ7_fill_53178_5 rfl (r_iload_n dJ7_fill_53178_6 rfl (r_ic_ge (tgt := 20) dJ7_fill_53178_7 rfl qImp.rf (r_aload_n dJ7_fill_53178_10 rfl (r_iload_n dJ7_fill_53178_11 rfl (r_iload_n dJ7_fill_53178_12 rfl (r_iastore dJ7_fill_53178_13 (r_iinc dJ7_fill_53178_14 rfl (Or.inr rfl) (Nat.le_of_ble_eq_true rfl) (r_goto (tgt := 5) dJ7_fill_53178_17 rfl qImp.rf)))))))))
def bJ7_fill_53178_20 (G : Nat × Nat × Nat × Option (Nat × (Nat → Int32)) × (Option Value → qW → Prop)) : qK := (s_vreturn (mJ7_fill_53178, G))
theorem oJ7_fill_53178_20 (G : Nat × Nat × Nat × Option (Nat × (Nat → Int32)) × (Option Value → qW → Prop)) : qImp (bJ7_fill_53178_20 G) (AW (mJ7_fill_53178, G) 20) := (r_vreturn dJ7_fill_53178_20 rfl)
theorem dJ6_bitCount_0f7a4_0 : decode cJ6_bitCount_0f7a4 0 = .ok (.iload_n 0, 1) := by decide +kernel
theorem dJ6_bitCount_0f7a4_1 : decode cJ6_bitCount_0f7a4 1 = .ok (.iload_n 0, 1) := by decide +kernel
theorem dJ6_bitCount_0f7a4_2 : decode cJ6_bitCount_0f7a4 2 = .ok (.iconst 1, 1) := by decide +kernel
theorem dJ6_bitCount_0f7a4_3 : decode cJ6_bitCount_0f7a4 3 = .ok (.iushr, 1) := by decide +kernel
theorem dJ6_bitCount_0f7a4_4 : decode cJ6_bitCount_0f7a4 4 = .ok (.ldc_w 265, 3) := by decide +kernel
theorem dJ6_bitCount_0f7a4_7 : decode cJ6_bitCount_0f7a4 7 = .ok (.iand, 1) := by decide +kernel
theorem dJ6_bitCount_0f7a4_8 : decode cJ6_bitCount_0f7a4 8 = .ok (.isub, 1) := by decide +kernel
theorem dJ6_bitCount_0f7a4_9 : decode cJ6_bitCount_0f7a4 9 = .ok (.istore_n 0, 1) := by decide +kernel
theorem dJ6_bitCount_0f7a4_10 : decode cJ6_bitCount_0f7a4 10 = .ok (.iload_n 0, 1) := by decide +kernel
theorem dJ6_bitCount_0f7a4_11 : decode cJ6_bitCount_0f7a4 11 = .ok (.ldc_w 266, 3) := by decide +kernel
theorem dJ6_bitCount_0f7a4_14 : decode cJ6_bitCount_0f7a4 14 = .ok (.iand, 1) := by decide +kernel
theorem dJ6_bitCount_0f7a4_15 : decode cJ6_bitCount_0f7a4 15 = .ok (.iload_n 0, 1) := by decide +kernel
theorem dJ6_bitCount_0f7a4_16 : decode cJ6_bitCount_0f7a4 16 = .ok (.iconst 2, 1) := by decide +kernel
theorem dJ6_bitCount_0f7a4_17 : decode cJ6_bitCount_0f7a4 17 = .ok (.iushr, 1) := by decide +kernel
theorem dJ6_bitCount_0f7a4_18 : decode cJ6_bitCount_0f7a4 18 = .ok (.ldc_w 266, 3) := by decide +kernel
theorem dJ6_bitCount_0f7a4_21 : decode cJ6_bitCount_0f7a4 21 = .ok (.iand, 1) := by decide +kernel
theorem dJ6_bitCount_0f7a4_22 : decode cJ6_bitCount_0f7a4 22 = .ok (.iadd, 1) := by decide +kernel
theorem dJ6_bitCount_0f7a4_23 : decode cJ6_bitCount_0f7a4 23 = .ok (.istore_n 0, 1) := by decide +kernel
theorem dJ6_bitCount_0f7a4_24 : decode cJ6_bitCount_0f7a4 24 = .ok (.iload_n 0, 1) := by decide +kernel
theorem dJ6_bitCount_0f7a4_25 : decode cJ6_bitCount_0f7a4 25 = .ok (.iload_n 0, 1) := by decide +kernel
theorem dJ6_bitCount_0f7a4_26 : decode cJ6_bitCount_0f7a4 26 = .ok (.iconst 4, 1) := by decide +kernel
theorem dJ6_bitCount_0f7a4_27 : decode cJ6_bitCount_0f7a4 27 = .ok (.iushr, 1) := by decide +kernel
theorem dJ6_bitCount_0f7a4_28 : decode cJ6_bitCount_0f7a4 28 = .ok (.iadd, 1) := by decide +kernel
theorem dJ6_bitCount_0f7a4_29 : decode cJ6_bitCount_0f7a4 29 = .ok (.ldc_w 267, 3) := by decide +kernel
theorem dJ6_bitCount_0f7a4_32 : decode cJ6_bitCount_0f7a4 32 = .ok (.iand, 1) := by decide +kernel
theorem dJ6_bitCount_0f7a4_33 : decode cJ6_bitCount_0f7a4 33 = .ok (.istore_n 0, 1) := by decide +kernel
theorem dJ6_bitCount_0f7a4_34 : decode cJ6_bitCount_0f7a4 34 = .ok (.iload_n 0, 1) := by decide +kernel
theorem dJ6_bitCount_0f7a4_35 : decode cJ6_bitCount_0f7a4 35 = .ok (.iload_n 0, 1) := by decide +kernel
theorem dJ6_bitCount_0f7a4_36 : decode cJ6_bitCount_0f7a4 36 = .ok (.bipush 8, 2) := by decide +kernel
theorem dJ6_bitCount_0f7a4_38 : decode cJ6_bitCount_0f7a4 38 = .ok (.iushr, 1) := by decide +kernel
theorem dJ6_bitCount_0f7a4_39 : decode cJ6_bitCount_0f7a4 39 = .ok (.iadd, 1) := by decide +kernel
theorem dJ6_bitCount_0f7a4_40 : decode cJ6_bitCount_0f7a4 40 = .ok (.istore_n 0, 1) := by decide +kernel
theorem dJ6_bitCount_0f7a4_41 : decode cJ6_bitCount_0f7a4 41 = .ok (.iload_n 0, 1) := by decide +kernel
theorem dJ6_bitCount_0f7a4_42 : decode cJ6_bitCount_0f7a4 42 = .ok (.iload_n 0, 1) := by decide +kernel
theorem dJ6_bitCount_0f7a4_43 : decode cJ6_bitCount_0f7a4 43 = .ok (.bipush 16, 2) := by decide +kernel
theorem dJ6_bitCount_0f7a4_45 : decode cJ6_bitCount_0f7a4 45 = .ok (.iushr, 1) := by decide +kernel
theorem dJ6_bitCount_0f7a4_46 : decode cJ6_bitCount_0f7a4 46 = .ok (.iadd, 1) := by decide +kernel
theorem dJ6_bitCount_0f7a4_47 : decode cJ6_bitCount_0f7a4 47 = .ok (.istore_n 0, 1) := by decide +kernel
theorem dJ6_bitCount_0f7a4_48 : decode cJ6_bitCount_0f7a4 48 = .ok (.iload_n 0, 1) := by decide +kernel
theorem dJ6_bitCount_0f7a4_49 : decode cJ6_bitCount_0f7a4 49 = .ok (.bipush 63, 2) := by decide +kernel
theorem dJ6_bitCount_0f7a4_51 : decode cJ6_bitCount_0f7a4 51 = .ok (.iand, 1) := by decide +kernel
theorem dJ6_bitCount_0f7a4_52 : decode cJ6_bitCount_0f7a4 52 = .ok (.ireturn, 1) := by decide +kernel
/-! java/lang/Integer.bitCount(I)I -/
theorem eJ6_bitCount_0f7a4 {d mc ms : Nat} {w : qW} {Q : Option Value → qW → Prop} {x0 : Int32} (h : AW (mJ6_bitCount_0f7a4, d, mc, ms, none, Q) 0 [some (.int x0)] [] w 0 0) : CT mJ6_bitCount_0f7a4 d mc ms [.int x0] w Q := CT_of (by decide +kernel) rfl (by decide) h
def bJ6_bitCount_0f7a4_0 (G : Nat × Nat × Nat × Option (Nat × (Nat → Int32)) × (Option Value → qW → Prop)) : qK := (s_iload 0 (s_iload 0 (s_iconst 1 (s_iushr (s_iconst 1431655765 (s_iand (s_isub (s_istore 0 0 (s_iload 0 (s_iconst 858993459 (s_iand (s_iload 0 (s_iconst 2 (s_iushr (s_iconst 858993459 (s_iand (s_iadd (s_istore 0 0 (s_iload 0 (s_iload 0 (s_iconst 4 (s_iushr (s_iadd (s_iconst 252645135 (s_iand (s_istore 0 0 (s_iload 0 (s_iload 0 (s_iconst 8 (s_iushr (s_iadd (s_istore 0 0 (s_iload 0 (s_iload 0 (s_iconst 16 (s_iushr (s_iadd (s_istore 0 0 (s_iload 0 (s_iconst 63 (s_iand (s_ireturn (mJ6_bitCount_0f7a4, G)))))))))))))))))))))))))))))))))))))))))))
theorem oJ6_bitCount_0f7a4_0 (G : Nat × Nat × Nat × Option (Nat × (Nat → Int32)) × (Option Value → qW → Prop)) : qImp (bJ6_bitCount_0f7a4_0 G) (AW (mJ6_bitCount_0f7a4, G) 0) := (r_iload_n dJ6_bitCount_0f7a4_0 rfl (r_iload_n dJ6_bitCount_0f7a4_1 rfl (r_iconst dJ6_bitCount_0f7a4_2 rfl (r_iushr dJ6_bitCount_0f7a4_3 (r_ldcw dJ6_bitCount_0f7a4_4 lk656 (r_iand dJ6_bitCount_0f7a4_7 (r_isub dJ6_bitCount_0f7a4_8 (r_istore_n dJ6_bitCount_0f7a4_9 rfl (Or.inl rfl) (Nat.le_of_ble_eq_true rfl) (r_iload_n dJ6_bitCount_0f7a4_10 rfl (r_ldcw dJ6_bitCount_0f7a4_11 lk657 (r_iand dJ6_bitCount_0f7a4_14 (r_iload_n dJ6_bitCount_0f7a4_15 rfl (r_iconst dJ6_bitCount_0f7a4_16 rfl (r_iushr dJ6_bitCount_0f7a4_17 (r_ldcw dJ6_bitCount_0f7a4_18 lk657 (r_iand dJ6_bitCount_0f7a4_21 (r_iadd dJ6_bitCount_0f7a4_22 (r_istore_n dJ6_bitCount_0f7a4_23 rfl (Or.inl rfl) (Nat.le_of_ble_eq_true rfl) (r_iload_n dJ6_bitCount_0f7a4_24 rfl (r_iload_n dJ6_bitCount_0f7a4_25 rfl (r_iconst dJ6_bitCount_0f7a4_26 rfl (r_iushr dJ6_bitCount_0f7a4_27 (r_iadd dJ6_bitCount_0f7a4_28 (r_ldcw dJ6_bitCount_0f7a4_29 lk658 (r_iand dJ6_bitCount_0f7a4_32 (r_istore_n dJ6_bitCount_0f7a4_33 rfl (Or.inl rfl) (Nat.le_of_ble_eq_true rfl) (r_iload_n dJ6_bitCount_0f7a4_34 rfl (r_iload_n dJ6_bitCount_0f7a4_35 rfl (r_bipush dJ6_bitCount_0f7a4_36 rfl (r_iushr dJ6_bitCount_0f7a4_38 (r_iadd dJ6_bitCount_0f7a4_39 (r_istore_n dJ6_bitCount_0f7a4_40 rfl (Or.inl rfl) (Nat.le_of_ble_eq_true rfl) (r_iload_n dJ6_bitCount_0f7a4_41 rfl (r_iload_n dJ6_bitCount_0f7a4_42 rfl (r_bipush dJ6_bitCount_0f7a4_43 rfl (r_iushr dJ6_bitCount_0f7a4_45 (r_iadd dJ6_bitCount_0f7a4_46 (r_istore_n dJ6_bitCount_0f7a4_47 rfl (Or.inl rfl) (Nat.le_of_ble_eq_true rfl) (r_iload_n dJ6_bitCount_0f7a4_48 rfl (r_bipush dJ6_bitCount_0f7a4_49 rfl (r_iand dJ6_bitCount_0f7a4_51 (r_ireturn dJ6_bitCount_0f7a4_52 rfl))))))))))))))))))))))))))))))))))))))))))
theorem dJ7_copyOf_59c91_0 : decode cJ7_copyOf_59c91 0 = .ok (.iload_n 1, 1) := by decide +kernel
theorem dJ7_copyOf_59c91_1 : decode cJ7_copyOf_59c91 1 = .ok (.aload_n 0, 1) := by decide +kernel
theorem dJ7_copyOf_59c91_2 : decode cJ7_copyOf_59c91 2 = .ok (.arraylength, 1) := by decide +kernel
theorem dJ7_copyOf_59c91_3 : decode cJ7_copyOf_59c91 3 = .ok (.if_icmp .ne 11, 3) := by decide +kernel
theorem dJ7_copyOf_59c91_6 : decode cJ7_copyOf_59c91 6 = .ok (.aload_n 0, 1) := by decide +kernel
theorem dJ7_copyOf_59c91_7 : decode cJ7_copyOf_59c91 7 = .ok (.invokevirtual 316, 3) := by decide +kernel
theorem dJ7_copyOf_59c91_10 : decode cJ7_copyOf_59c91 10 = .ok (.checkcast 317, 3) := by decide +kernel
theorem dJ7_copyOf_59c91_13 : decode cJ7_copyOf_59c91 13 = .ok (.areturn, 1) := by decide +kernel
theorem dJ7_copyOf_59c91_14 : decode cJ7_copyOf_59c91 14 = .ok (.iload_n 1, 1) := by decide +kernel
theorem dJ7_copyOf_59c91_15 : decode cJ7_copyOf_59c91 15 = .ok (.newarray .int, 2) := by decide +kernel
theorem dJ7_copyOf_59c91_17 : decode cJ7_copyOf_59c91 17 = .ok (.astore_n 2, 1) := by decide +kernel
theorem dJ7_copyOf_59c91_18 : decode cJ7_copyOf_59c91 18 = .ok (.aload_n 0, 1) := by decide +kernel
theorem dJ7_copyOf_59c91_19 : decode cJ7_copyOf_59c91 19 = .ok (.iconst 0, 1) := by decide +kernel
theorem dJ7_copyOf_59c91_20 : decode cJ7_copyOf_59c91 20 = .ok (.aload_n 2, 1) := by decide +kernel
theorem dJ7_copyOf_59c91_21 : decode cJ7_copyOf_59c91 21 = .ok (.iconst 0, 1) := by decide +kernel
theorem dJ7_copyOf_59c91_22 : decode cJ7_copyOf_59c91 22 = .ok (.aload_n 0, 1) := by decide +kernel
theorem dJ7_copyOf_59c91_23 : decode cJ7_copyOf_59c91 23 = .ok (.arraylength, 1) := by decide +kernel
theorem dJ7_copyOf_59c91_24 : decode cJ7_copyOf_59c91 24 = .ok (.iload_n 1, 1) := by decide +kernel
theorem dJ7_copyOf_59c91_25 : decode cJ7_copyOf_59c91 25 = .ok (.invokestatic 304, 3) := by decide +kernel
theorem dJ7_copyOf_59c91_28 : decode cJ7_copyOf_59c91 28 = .ok (.invokestatic 150, 3) := by decide +kernel
theorem dJ7_copyOf_59c91_31 : decode cJ7_copyOf_59c91 31 = .ok (.aload_n 2, 1) := by decide +kernel
theorem dJ7_copyOf_59c91_32 : decode cJ7_copyOf_59c91 32 = .ok (.areturn, 1) := by decide +kernel
/-! java/util/Arrays.copyOf([II)[I -/
theorem eJ7_copyOf_59c91 {d mc ms : Nat} {w : qW} {Q : Option Value → qW → Prop} {x0 : Nat} {x1 : Int32} (h : AW (mJ7_copyOf_59c91, d, mc, ms, none, Q) 0 [some (.ref x0), some (.int x1), none] [] w 0 0) : CT mJ7_copyOf_59c91 d mc ms [.ref x0, .int x1] w Q := CT_of (by decide +kernel) rfl (by decide) h
def bJ7_copyOf_59c91_0 (G : Nat × Nat × Nat × Option (Nat × (Nat → Int32)) × (Option Value → qW → Prop)) : qK := (s_iload 1 (s_aload 0 (s_alen (mJ7_copyOf_59c91, G) (s_ic_ne (AW (mJ7_copyOf_59c91, G) 14) (s_aload 0 (AW (mJ7_copyOf_59c91, G) 7))))))
theorem oJ7_copyOf_59c91_0 (G : Nat × Nat × Nat × Option (Nat × (Nat → Int32)) × (Option Value → qW → Prop)) : qImp (bJ7_copyOf_59c91_0 G) (AW (mJ7_copyOf_59c91, G) 0) := (r_iload_n dJ7_copyOf_59c91_0 rfl (r_aload_n dJ7_copyOf_59c91_1 rfl (r_alen dJ7_copyOf_59c91_2 (r_ic_ne (tgt := 14) dJ7_copyOf_59c91_3 rfl qImp.rf (r_aload_n dJ7_copyOf_59c91_6 rfl qImp.rf)))))
def bJ7_copyOf_59c91_14 (G : Nat × Nat × Nat × Option (Nat × (Nat → Int32)) × (Option Value → qW → Prop)) : qK := (s_iload 1 (s_newI (mJ7_copyOf_59c91, G) 0 (s_astore 2 1 (s_aload 0 (s_iconst 0 (s_aload 2 (s_iconst 0 (s_aload 0 (s_alen (mJ7_copyOf_59c91, G) (s_iload 1 (AW (mJ7_copyOf_59c91, G) 25)))))))))))
theorem oJ7_copyOf_59c91_14 (G : Nat × Nat × Nat × Option (Nat × (Nat → Int32)) × (Option Value → qW → Prop)) : qImp (bJ7_copyOf_59c91_14 G) (AW (mJ7_copyOf_59c91, G) 14) := (r_iload_n dJ7_copyOf_59c91_14 rfl (r_newI0 dJ7_copyOf_59c91_15 lk113 (r_astore_n dJ7_copyOf_59c91_17 rfl (Or.inr rfl) (Nat.le_of_ble_eq_true rfl) (r_aload_n dJ7_copyOf_59c91_18 rfl (r_iconst dJ7_copyOf_59c91_19 rfl (r_aload_n dJ7_copyOf_59c91_20 rfl (r_iconst dJ7_copyOf_59c91_21 rfl (r_aload_n dJ7_copyOf_59c91_22 rfl (r_alen dJ7_copyOf_59c91_23 (r_iload_n dJ7_copyOf_59c91_24 rfl qImp.rf))))))))))
def bJ7_copyOf_59c91_31 (G : Nat × Nat × Nat × Option (Nat × (Nat → Int32)) × (Option Value → qW → Prop)) : qK := (s_aload 2 (s_areturn (mJ7_copyOf_59c91, G)))
theorem oJ7_copyOf_59c91_31 (G : Nat × Nat × Nat × Option (Nat × (Nat → Int32)) × (Option Value → qW → Prop)) : qImp (bJ7_copyOf_59c91_31 G) (AW (mJ7_copyOf_59c91, G) 31) := (r_aload_n dJ7_copyOf_59c91_31 rfl (r_areturn dJ7_copyOf_59c91_32 rfl (Or.inr ⟨_, rfl⟩)))
theorem kJ7_copyOf_59c91_25 {G : Nat × Nat × Nat × Option (Nat × (Nat → Int32)) × (Option Value → qW → Prop)} {L : qL} {w : qW} {kc ks : Nat} {rest : List Value} {x y : Int32} (hst : rest.length ≤ 4) (hdp : 1 ≤ G.1) (hc : kc ≤ G.2.1) (hs : ks ≤ G.2.2.1) (k : AW (mJ7_copyOf_59c91, G) 28 L (.int (if y < x then y else x) :: rest) w kc ks) : AW (mJ7_copyOf_59c91, G) 25 L (.int y :: .int x :: rest) w kc ks := a_mmin dJ7_copyOf_59c91_25 lk583 lk584 lk65 lk585 hst hdp hc hs k
theorem kJ7_copyOf_59c91_28 {G : Nat × Nat × Nat × Option (Nat × (Nat → Int32)) × (Option Value → qW → Prop)} {L : qL} {w : qW} {kc ks : Nat} {rest : List Value} {p0 p1 n0 n1 : Nat} {f0 f1 : Nat → Int32} {sp dp n : Int32} (ha0 : qgI w p0 0 = some (n0, f0)) (ha1 : qgI w p1 0 = some (n1, f1)) (h1 : ¬ sp < 0) (h2 : ¬ dp < 0) (h3 : ¬ n < 0) (h4 : sp.toNatClampNeg + n.toNatClampNeg ≤ n0) (h5 : dp.toNatClampNeg + n.toNatClampNeg ≤ n1) (hst : rest.length ≤ 4) (hdp : 1 ≤ G.1) (k : AW (mJ7_copyOf_59c91, G) 31 L rest (qsI w p1 (va_cpy f0 f1 sp.toNatClampNeg dp.toNatClampNeg n.toNatClampNeg)) kc ks) : AW (mJ7_copyOf_59c91, G) 28 L (.int n :: .int dp :: .ref p1 :: .int sp :: .ref p0 :: rest) w kc ks := a_copy dJ7_copyOf_59c91_28 lk586 lk588 lk587 lk77 ha0 ha1 h1 h2 h3 h4 h5 hst hdp k
end
