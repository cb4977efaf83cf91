section
-- ===== PART A: goes FIRST, ahead of the names: the tables' words, and 'selects' of the private methods out of them =====
/-- a private method of a class that the tables say can be made, by its rows of tables_1 -/
def lw_okq (q : MethodName × Nat) : Prop := (q.1.cls ≠ "java/lang/invoke/MethodHandle" ∧ q.1.cls ≠ "java/lang/invoke/VarHandle") ∧ Cond.instantiable q.1.cls q.2 ∈ tables_1 ∧ Cond.privateMethod q.1 ∈ tables_1 ∧ Cond.instanceMethod q.1 ∈ tables_1
theorem lw_p0 : lw_okq (⟨"SealLine", "addNote", "(III)I"⟩, 11) := ⟨⟨by decide +kernel, by decide +kernel⟩, List.mem_of_getElem? (i := 19) (by decide +kernel), List.mem_of_getElem? (i := 296) (by decide +kernel), List.mem_of_getElem? (i := 297) (by decide +kernel)⟩
theorem lw_p1 : lw_okq (⟨"SealLine$Table", "isCell", "(II)Z"⟩, 4) := ⟨⟨by decide +kernel, by decide +kernel⟩, List.mem_of_getElem? (i := 27) (by decide +kernel), List.mem_of_getElem? (i := 309) (by decide +kernel), List.mem_of_getElem? (i := 310) (by decide +kernel)⟩
theorem lw_p2 : lw_okq (⟨"SealLine$Shelf", "setHand", "([IIIZ)V"⟩, 8) := ⟨⟨by decide +kernel, by decide +kernel⟩, List.mem_of_getElem? (i := 53) (by decide +kernel), List.mem_of_getElem? (i := 317) (by decide +kernel), List.mem_of_getElem? (i := 318) (by decide +kernel)⟩
theorem lw_p3 : lw_okq (⟨"SealLine", "settle", "(I)V"⟩, 11) := ⟨⟨by decide +kernel, by decide +kernel⟩, List.mem_of_getElem? (i := 19) (by decide +kernel), List.mem_of_getElem? (i := 326) (by decide +kernel), List.mem_of_getElem? (i := 327) (by decide +kernel)⟩
theorem lw_p4 : lw_okq (⟨"SealLine$Shelf", "addClean", "(LSealLine$Table;I)Z"⟩, 8) := ⟨⟨by decide +kernel, by decide +kernel⟩, List.mem_of_getElem? (i := 53) (by decide +kernel), List.mem_of_getElem? (i := 334) (by decide +kernel), List.mem_of_getElem? (i := 335) (by decide +kernel)⟩
theorem lw_p5 : lw_okq (⟨"SealLine$Shelf", "isCleanInput", "(I)Z"⟩, 8) := ⟨⟨by decide +kernel, by decide +kernel⟩, List.mem_of_getElem? (i := 53) (by decide +kernel), List.mem_of_getElem? (i := 354) (by decide +kernel), List.mem_of_getElem? (i := 355) (by decide +kernel)⟩
theorem lw_p6 : lw_okq (⟨"SealLine", "areInputs", "(III)Z"⟩, 11) := ⟨⟨by decide +kernel, by decide +kernel⟩, List.mem_of_getElem? (i := 19) (by decide +kernel), List.mem_of_getElem? (i := 378) (by decide +kernel), List.mem_of_getElem? (i := 379) (by decide +kernel)⟩
theorem lw_p7 : lw_okq (⟨"SealLine", "isInRowOfOne", "(IIII)Z"⟩, 11) := ⟨⟨by decide +kernel, by decide +kernel⟩, List.mem_of_getElem? (i := 19) (by decide +kernel), List.mem_of_getElem? (i := 384) (by decide +kernel), List.mem_of_getElem? (i := 385) (by decide +kernel)⟩
theorem lw_p8 : lw_okq (⟨"SealLine", "mixed", "(IIII)J"⟩, 11) := ⟨⟨by decide +kernel, by decide +kernel⟩, List.mem_of_getElem? (i := 19) (by decide +kernel), List.mem_of_getElem? (i := 392) (by decide +kernel), List.mem_of_getElem? (i := 393) (by decide +kernel)⟩
theorem lw_p9 : lw_okq (⟨"SealLine", "stirred", "(JI)J"⟩, 11) := ⟨⟨by decide +kernel, by decide +kernel⟩, List.mem_of_getElem? (i := 19) (by decide +kernel), List.mem_of_getElem? (i := 396) (by decide +kernel), List.mem_of_getElem? (i := 397) (by decide +kernel)⟩
theorem lw_p10 : lw_okq (⟨"SealLine", "addSaying", "(IIIZ)I"⟩, 11) := ⟨⟨by decide +kernel, by decide +kernel⟩, List.mem_of_getElem? (i := 19) (by decide +kernel), List.mem_of_getElem? (i := 429) (by decide +kernel), List.mem_of_getElem? (i := 430) (by decide +kernel)⟩
theorem lw_p11 : lw_okq (⟨"SealLine$Tape", "take", "(I)Z"⟩, 8) := ⟨⟨by decide +kernel, by decide +kernel⟩, List.mem_of_getElem? (i := 142) (by decide +kernel), List.mem_of_getElem? (i := 470) (by decide +kernel), List.mem_of_getElem? (i := 471) (by decide +kernel)⟩
theorem lw_p12 : lw_okq (⟨"SealLine$Tape", "lengthenNumber", "(I)V"⟩, 8) := ⟨⟨by decide +kernel, by decide +kernel⟩, List.mem_of_getElem? (i := 142) (by decide +kernel), List.mem_of_getElem? (i := 477) (by decide +kernel), List.mem_of_getElem? (i := 478) (by decide +kernel)⟩
theorem lw_p13 : lw_okq (⟨"SealLine$Tape", "takeUnit", "(I)Z"⟩, 8) := ⟨⟨by decide +kernel, by decide +kernel⟩, List.mem_of_getElem? (i := 142) (by decide +kernel), List.mem_of_getElem? (i := 481) (by decide +kernel), List.mem_of_getElem? (i := 482) (by decide +kernel)⟩
theorem lw_p14 : lw_okq (⟨"SealLine$Tape", "addStep", "(I)V"⟩, 8) := ⟨⟨by decide +kernel, by decide +kernel⟩, List.mem_of_getElem? (i := 142) (by decide +kernel), List.mem_of_getElem? (i := 485) (by decide +kernel), List.mem_of_getElem? (i := 486) (by decide +kernel)⟩
theorem lw_p15 : lw_okq (⟨"SealLine$Tape", "takeSign", "(I)Z"⟩, 8) := ⟨⟨by decide +kernel, by decide +kernel⟩, List.mem_of_getElem? (i := 142) (by decide +kernel), List.mem_of_getElem? (i := 489) (by decide +kernel), List.mem_of_getElem? (i := 490) (by decide +kernel)⟩
def lw_privs_1 : List (MethodName × Nat) := [(⟨"SealLine", "addNote", "(III)I"⟩, 11), (⟨"SealLine$Table", "isCell", "(II)Z"⟩, 4), (⟨"SealLine$Shelf", "setHand", "([IIIZ)V"⟩, 8), (⟨"SealLine", "settle", "(I)V"⟩, 11), (⟨"SealLine$Shelf", "addClean", "(LSealLine$Table;I)Z"⟩, 8), (⟨"SealLine$Shelf", "isCleanInput", "(I)Z"⟩, 8), (⟨"SealLine", "areInputs", "(III)Z"⟩, 11), (⟨"SealLine", "isInRowOfOne", "(IIII)Z"⟩, 11), (⟨"SealLine", "mixed", "(IIII)J"⟩, 11), (⟨"SealLine", "stirred", "(JI)J"⟩, 11), (⟨"SealLine", "addSaying", "(IIIZ)I"⟩, 11), (⟨"SealLine$Tape", "take", "(I)Z"⟩, 8), (⟨"SealLine$Tape", "lengthenNumber", "(I)V"⟩, 8), (⟨"SealLine$Tape", "takeUnit", "(I)Z"⟩, 8), (⟨"SealLine$Tape", "addStep", "(I)V"⟩, 8), (⟨"SealLine$Tape", "takeSign", "(I)Z"⟩, 8)]
theorem lw_r1 : ∀ q ∈ lw_privs_1, lw_okq q := List.forall_mem_cons.mpr ⟨lw_p0, List.forall_mem_cons.mpr ⟨lw_p1, List.forall_mem_cons.mpr ⟨lw_p2, List.forall_mem_cons.mpr ⟨lw_p3, List.forall_mem_cons.mpr ⟨lw_p4, List.forall_mem_cons.mpr ⟨lw_p5, List.forall_mem_cons.mpr ⟨lw_p6, List.forall_mem_cons.mpr ⟨lw_p7, List.forall_mem_cons.mpr ⟨lw_p8, List.forall_mem_cons.mpr ⟨lw_p9, List.forall_mem_cons.mpr ⟨lw_p10, List.forall_mem_cons.mpr ⟨lw_p11, List.forall_mem_cons.mpr ⟨lw_p12, List.forall_mem_cons.mpr ⟨lw_p13, List.forall_mem_cons.mpr ⟨lw_p14, List.forall_mem_cons.mpr ⟨lw_p15, fun _ h => absurd h List.not_mem_nil⟩⟩⟩⟩⟩⟩⟩⟩⟩⟩⟩⟩⟩⟩⟩⟩
theorem lw_p16 : lw_okq (⟨"SealLine$Tape", "takeDigit", "(I)Z"⟩, 8) := ⟨⟨by decide +kernel, by decide +kernel⟩, List.mem_of_getElem? (i := 142) (by decide +kernel), List.mem_of_getElem? (i := 493) (by decide +kernel), List.mem_of_getElem? (i := 494) (by decide +kernel)⟩
theorem lw_p17 : lw_okq (⟨"SealLine$Tape", "takeJoin", "(I)Z"⟩, 8) := ⟨⟨by decide +kernel, by decide +kernel⟩, List.mem_of_getElem? (i := 142) (by decide +kernel), List.mem_of_getElem? (i := 500) (by decide +kernel), List.mem_of_getElem? (i := 501) (by decide +kernel)⟩
theorem lw_p18 : lw_okq (⟨"SealLine", "refusal", "(III)I"⟩, 11) := ⟨⟨by decide +kernel, by decide +kernel⟩, List.mem_of_getElem? (i := 19) (by decide +kernel), List.mem_of_getElem? (i := 561) (by decide +kernel), List.mem_of_getElem? (i := 562) (by decide +kernel)⟩
theorem lw_p19 : lw_okq (⟨"SealLine$Keys", "isLive", "(I)Z"⟩, 4) := ⟨⟨by decide +kernel, by decide +kernel⟩, List.mem_of_getElem? (i := 186) (by decide +kernel), List.mem_of_getElem? (i := 575) (by decide +kernel), List.mem_of_getElem? (i := 576) (by decide +kernel)⟩
theorem lw_p20 : lw_okq (⟨"SealLine", "ruleHolds", "(I)Z"⟩, 11) := ⟨⟨by decide +kernel, by decide +kernel⟩, List.mem_of_getElem? (i := 19) (by decide +kernel), List.mem_of_getElem? (i := 583) (by decide +kernel), List.mem_of_getElem? (i := 584) (by decide +kernel)⟩
theorem lw_p21 : lw_okq (⟨"SealLine$Rule", "begin", "(I)V"⟩, 3) := ⟨⟨by decide +kernel, by decide +kernel⟩, List.mem_of_getElem? (i := 223) (by decide +kernel), List.mem_of_getElem? (i := 606) (by decide +kernel), List.mem_of_getElem? (i := 607) (by decide +kernel)⟩
theorem lw_p22 : lw_okq (⟨"SealLine", "isCalledBack", "(I)Z"⟩, 11) := ⟨⟨by decide +kernel, by decide +kernel⟩, List.mem_of_getElem? (i := 19) (by decide +kernel), List.mem_of_getElem? (i := 620) (by decide +kernel), List.mem_of_getElem? (i := 621) (by decide +kernel)⟩
theorem lw_p23 : lw_okq (⟨"SealLine", "manyCalledBack", "()I"⟩, 11) := ⟨⟨by decide +kernel, by decide +kernel⟩, List.mem_of_getElem? (i := 19) (by decide +kernel), List.mem_of_getElem? (i := 689) (by decide +kernel), List.mem_of_getElem? (i := 690) (by decide +kernel)⟩
theorem lw_p24 : lw_okq (⟨"SealLine", "manyStanding", "(I)I"⟩, 11) := ⟨⟨by decide +kernel, by decide +kernel⟩, List.mem_of_getElem? (i := 19) (by decide +kernel), List.mem_of_getElem? (i := 716) (by decide +kernel), List.mem_of_getElem? (i := 717) (by decide +kernel)⟩
theorem lw_p25 : lw_okq (⟨"SealLine", "stands", "(I)Z"⟩, 11) := ⟨⟨by decide +kernel, by decide +kernel⟩, List.mem_of_getElem? (i := 19) (by decide +kernel), List.mem_of_getElem? (i := 720) (by decide +kernel), List.mem_of_getElem? (i := 721) (by decide +kernel)⟩
theorem lw_p26 : lw_okq (⟨"SealLine$Judging", "judge", "(LSealLine$Rule;)V"⟩, 3) := ⟨⟨by decide +kernel, by decide +kernel⟩, List.mem_of_getElem? (i := 207) (by decide +kernel), List.mem_of_getElem? (i := 752) (by decide +kernel), List.mem_of_getElem? (i := 753) (by decide +kernel)⟩
theorem lw_p27 : lw_okq (⟨"SealLine$Judging", "weigh", "(LSealLine$Rule;II)V"⟩, 3) := ⟨⟨by decide +kernel, by decide +kernel⟩, List.mem_of_getElem? (i := 207) (by decide +kernel), List.mem_of_getElem? (i := 756) (by decide +kernel), List.mem_of_getElem? (i := 757) (by decide +kernel)⟩
theorem lw_p28 : lw_okq (⟨"SealLine$Proof", "findGrounds", "(LSealLine$Table;LSealLine$Shelf;)V"⟩, 4) := ⟨⟨by decide +kernel, by decide +kernel⟩, List.mem_of_getElem? (i := 99) (by decide +kernel), List.mem_of_getElem? (i := 782) (by decide +kernel), List.mem_of_getElem? (i := 783) (by decide +kernel)⟩
theorem lw_p29 : lw_okq (⟨"SealLine$Proof", "gather", "(LSealLine$Table;I)V"⟩, 4) := ⟨⟨by decide +kernel, by decide +kernel⟩, List.mem_of_getElem? (i := 99) (by decide +kernel), List.mem_of_getElem? (i := 791) (by decide +kernel), List.mem_of_getElem? (i := 792) (by decide +kernel)⟩
theorem lw_p30 : lw_okq (⟨"SealLine$Proof", "want", "(I)V"⟩, 4) := ⟨⟨by decide +kernel, by decide +kernel⟩, List.mem_of_getElem? (i := 99) (by decide +kernel), List.mem_of_getElem? (i := 799) (by decide +kernel), List.mem_of_getElem? (i := 800) (by decide +kernel)⟩
theorem lw_p31 : lw_okq (⟨"SealLine$Proof", "isPart", "(LSealLine$Table;I)Z"⟩, 4) := ⟨⟨by decide +kernel, by decide +kernel⟩, List.mem_of_getElem? (i := 99) (by decide +kernel), List.mem_of_getElem? (i := 805) (by decide +kernel), List.mem_of_getElem? (i := 806) (by decide +kernel)⟩
def lw_privs_2 : List (MethodName × Nat) := [(⟨"SealLine$Tape", "takeDigit", "(I)Z"⟩, 8), (⟨"SealLine$Tape", "takeJoin", "(I)Z"⟩, 8), (⟨"SealLine", "refusal", "(III)I"⟩, 11), (⟨"SealLine$Keys", "isLive", "(I)Z"⟩, 4), (⟨"SealLine", "ruleHolds", "(I)Z"⟩, 11), (⟨"SealLine$Rule", "begin", "(I)V"⟩, 3), (⟨"SealLine", "isCalledBack", "(I)Z"⟩, 11), (⟨"SealLine", "manyCalledBack", "()I"⟩, 11), (⟨"SealLine", "manyStanding", "(I)I"⟩, 11), (⟨"SealLine", "stands", "(I)Z"⟩, 11), (⟨"SealLine$Judging", "judge", "(LSealLine$Rule;)V"⟩, 3), (⟨"SealLine$Judging", "weigh", "(LSealLine$Rule;II)V"⟩, 3), (⟨"SealLine$Proof", "findGrounds", "(LSealLine$Table;LSealLine$Shelf;)V"⟩, 4), (⟨"SealLine$Proof", "gather", "(LSealLine$Table;I)V"⟩, 4), (⟨"SealLine$Proof", "want", "(I)V"⟩, 4), (⟨"SealLine$Proof", "isPart", "(LSealLine$Table;I)Z"⟩, 4)]
theorem lw_r2 : ∀ q ∈ lw_privs_2, lw_okq q := List.forall_mem_cons.mpr ⟨lw_p16, List.forall_mem_cons.mpr ⟨lw_p17, List.forall_mem_cons.mpr ⟨lw_p18, List.forall_mem_cons.mpr ⟨lw_p19, List.forall_mem_cons.mpr ⟨lw_p20, List.forall_mem_cons.mpr ⟨lw_p21, List.forall_mem_cons.mpr ⟨lw_p22, List.forall_mem_cons.mpr ⟨lw_p23, List.forall_mem_cons.mpr ⟨lw_p24, List.forall_mem_cons.mpr ⟨lw_p25, List.forall_mem_cons.mpr ⟨lw_p26, List.forall_mem_cons.mpr ⟨lw_p27, List.forall_mem_cons.mpr ⟨lw_p28, List.forall_mem_cons.mpr ⟨lw_p29, List.forall_mem_cons.mpr ⟨lw_p30, List.forall_mem_cons.mpr ⟨lw_p31, fun _ h => absurd h List.not_mem_nil⟩⟩⟩⟩⟩⟩⟩⟩⟩⟩⟩⟩⟩⟩⟩⟩
theorem lw_p32 : lw_okq (⟨"SealLineModel", "fileFor", "(J)I"⟩, 39) := ⟨⟨by decide +kernel, by decide +kernel⟩, List.mem_of_getElem? (i := 834) (by decide +kernel), List.mem_of_getElem? (i := 973) (by decide +kernel), List.mem_of_getElem? (i := 974) (by decide +kernel)⟩
theorem lw_p33 : lw_okq (⟨"SealLineModel", "addNote", "(III)I"⟩, 39) := ⟨⟨by decide +kernel, by decide +kernel⟩, List.mem_of_getElem? (i := 834) (by decide +kernel), List.mem_of_getElem? (i := 977) (by decide +kernel), List.mem_of_getElem? (i := 978) (by decide +kernel)⟩
theorem lw_p34 : lw_okq (⟨"SealLineModel", "areFiles", "(III)Z"⟩, 39) := ⟨⟨by decide +kernel, by decide +kernel⟩, List.mem_of_getElem? (i := 834) (by decide +kernel), List.mem_of_getElem? (i := 985) (by decide +kernel), List.mem_of_getElem? (i := 986) (by decide +kernel)⟩
theorem lw_p35 : lw_okq (⟨"SealLineModel", "isFile", "(I)Z"⟩, 39) := ⟨⟨by decide +kernel, by decide +kernel⟩, List.mem_of_getElem? (i := 834) (by decide +kernel), List.mem_of_getElem? (i := 989) (by decide +kernel), List.mem_of_getElem? (i := 990) (by decide +kernel)⟩
theorem lw_p36 : lw_okq (⟨"SealLineModel", "mixOf", "(IIII)J"⟩, 39) := ⟨⟨by decide +kernel, by decide +kernel⟩, List.mem_of_getElem? (i := 834) (by decide +kernel), List.mem_of_getElem? (i := 993) (by decide +kernel), List.mem_of_getElem? (i := 994) (by decide +kernel)⟩
theorem lw_p37 : lw_okq (⟨"SealLineModel", "rowOf", "(I)V"⟩, 39) := ⟨⟨by decide +kernel, by decide +kernel⟩, List.mem_of_getElem? (i := 834) (by decide +kernel), List.mem_of_getElem? (i := 1003) (by decide +kernel), List.mem_of_getElem? (i := 1004) (by decide +kernel)⟩
theorem lw_p38 : lw_okq (⟨"SealLineModel", "addRow", "(I)V"⟩, 39) := ⟨⟨by decide +kernel, by decide +kernel⟩, List.mem_of_getElem? (i := 834) (by decide +kernel), List.mem_of_getElem? (i := 1007) (by decide +kernel), List.mem_of_getElem? (i := 1008) (by decide +kernel)⟩
theorem lw_p39 : lw_okq (⟨"SealLineModel", "went", "(II)I"⟩, 39) := ⟨⟨by decide +kernel, by decide +kernel⟩, List.mem_of_getElem? (i := 834) (by decide +kernel), List.mem_of_getElem? (i := 1011) (by decide +kernel), List.mem_of_getElem? (i := 1012) (by decide +kernel)⟩
theorem lw_p40 : lw_okq (⟨"SealLineModel", "says", "(IIIZ)I"⟩, 39) := ⟨⟨by decide +kernel, by decide +kernel⟩, List.mem_of_getElem? (i := 834) (by decide +kernel), List.mem_of_getElem? (i := 1019) (by decide +kernel), List.mem_of_getElem? (i := 1020) (by decide +kernel)⟩
theorem lw_p41 : lw_okq (⟨"SealLineModel", "tests", "()V"⟩, 39) := ⟨⟨by decide +kernel, by decide +kernel⟩, List.mem_of_getElem? (i := 834) (by decide +kernel), List.mem_of_getElem? (i := 1039) (by decide +kernel), List.mem_of_getElem? (i := 1040) (by decide +kernel)⟩
theorem lw_p42 : lw_okq (⟨"SealLineModel", "part", "()V"⟩, 39) := ⟨⟨by decide +kernel, by decide +kernel⟩, List.mem_of_getElem? (i := 834) (by decide +kernel), List.mem_of_getElem? (i := 1043) (by decide +kernel), List.mem_of_getElem? (i := 1044) (by decide +kernel)⟩
theorem lw_p43 : lw_okq (⟨"SealLineModel", "unit", "()V"⟩, 39) := ⟨⟨by decide +kernel, by decide +kernel⟩, List.mem_of_getElem? (i := 834) (by decide +kernel), List.mem_of_getElem? (i := 1047) (by decide +kernel), List.mem_of_getElem? (i := 1048) (by decide +kernel)⟩
theorem lw_p44 : lw_okq (⟨"SealLineModel", "look", "()I"⟩, 39) := ⟨⟨by decide +kernel, by decide +kernel⟩, List.mem_of_getElem? (i := 834) (by decide +kernel), List.mem_of_getElem? (i := 1051) (by decide +kernel), List.mem_of_getElem? (i := 1052) (by decide +kernel)⟩
theorem lw_p45 : lw_okq (⟨"SealLineModel", "fail", "()V"⟩, 39) := ⟨⟨by decide +kernel, by decide +kernel⟩, List.mem_of_getElem? (i := 834) (by decide +kernel), List.mem_of_getElem? (i := 1055) (by decide +kernel), List.mem_of_getElem? (i := 1056) (by decide +kernel)⟩
theorem lw_p46 : lw_okq (⟨"SealLineModel", "say", "(I)V"⟩, 39) := ⟨⟨by decide +kernel, by decide +kernel⟩, List.mem_of_getElem? (i := 834) (by decide +kernel), List.mem_of_getElem? (i := 1059) (by decide +kernel), List.mem_of_getElem? (i := 1060) (by decide +kernel)⟩
theorem lw_p47 : lw_okq (⟨"SealLineModel", "placeOf", "(I)I"⟩, 39) := ⟨⟨by decide +kernel, by decide +kernel⟩, List.mem_of_getElem? (i := 834) (by decide +kernel), List.mem_of_getElem? (i := 1072) (by decide +kernel), List.mem_of_getElem? (i := 1073) (by decide +kernel)⟩
def lw_privs_3 : List (MethodName × Nat) := [(⟨"SealLineModel", "fileFor", "(J)I"⟩, 39), (⟨"SealLineModel", "addNote", "(III)I"⟩, 39), (⟨"SealLineModel", "areFiles", "(III)Z"⟩, 39), (⟨"SealLineModel", "isFile", "(I)Z"⟩, 39), (⟨"SealLineModel", "mixOf", "(IIII)J"⟩, 39), (⟨"SealLineModel", "rowOf", "(I)V"⟩, 39), (⟨"SealLineModel", "addRow", "(I)V"⟩, 39), (⟨"SealLineModel", "went", "(II)I"⟩, 39), (⟨"SealLineModel", "says", "(IIIZ)I"⟩, 39), (⟨"SealLineModel", "tests", "()V"⟩, 39), (⟨"SealLineModel", "part", "()V"⟩, 39), (⟨"SealLineModel", "unit", "()V"⟩, 39), (⟨"SealLineModel", "look", "()I"⟩, 39), (⟨"SealLineModel", "fail", "()V"⟩, 39), (⟨"SealLineModel", "say", "(I)V"⟩, 39), (⟨"SealLineModel", "placeOf", "(I)I"⟩, 39)]
theorem lw_r3 : ∀ q ∈ lw_privs_3, lw_okq q := List.forall_mem_cons.mpr ⟨lw_p32, List.forall_mem_cons.mpr ⟨lw_p33, List.forall_mem_cons.mpr ⟨lw_p34, List.forall_mem_cons.mpr ⟨lw_p35, List.forall_mem_cons.mpr ⟨lw_p36, List.forall_mem_cons.mpr ⟨lw_p37, List.forall_mem_cons.mpr ⟨lw_p38, List.forall_mem_cons.mpr ⟨lw_p39, List.forall_mem_cons.mpr ⟨lw_p40, List.forall_mem_cons.mpr ⟨lw_p41, List.forall_mem_cons.mpr ⟨lw_p42, List.forall_mem_cons.mpr ⟨lw_p43, List.forall_mem_cons.mpr ⟨lw_p44, List.forall_mem_cons.mpr ⟨lw_p45, List.forall_mem_cons.mpr ⟨lw_p46, List.forall_mem_cons.mpr ⟨lw_p47, fun _ h => absurd h List.not_mem_nil⟩⟩⟩⟩⟩⟩⟩⟩⟩⟩⟩⟩⟩⟩⟩⟩
theorem lw_p48 : lw_okq (⟨"SealLineModel", "makersOf", "(I)I"⟩, 39) := ⟨⟨by decide +kernel, by decide +kernel⟩, List.mem_of_getElem? (i := 834) (by decide +kernel), List.mem_of_getElem? (i := 1084) (by decide +kernel), List.mem_of_getElem? (i := 1085) (by decide +kernel)⟩
theorem lw_p49 : lw_okq (⟨"SealLineModel", "isClean", "(I)Z"⟩, 39) := ⟨⟨by decide +kernel, by decide +kernel⟩, List.mem_of_getElem? (i := 834) (by decide +kernel), List.mem_of_getElem? (i := 1091) (by decide +kernel), List.mem_of_getElem? (i := 1092) (by decide +kernel)⟩
theorem lw_p50 : lw_okq (⟨"SealLineModel", "findClean", "()V"⟩, 39) := ⟨⟨by decide +kernel, by decide +kernel⟩, List.mem_of_getElem? (i := 834) (by decide +kernel), List.mem_of_getElem? (i := 1095) (by decide +kernel), List.mem_of_getElem? (i := 1096) (by decide +kernel)⟩
theorem lw_p51 : lw_okq (⟨"SealLineModel", "allClean", "(I)Z"⟩, 39) := ⟨⟨by decide +kernel, by decide +kernel⟩, List.mem_of_getElem? (i := 834) (by decide +kernel), List.mem_of_getElem? (i := 1099) (by decide +kernel), List.mem_of_getElem? (i := 1100) (by decide +kernel)⟩
theorem lw_p52 : lw_okq (⟨"SealLineModel", "handsWith", "(III)I"⟩, 39) := ⟨⟨by decide +kernel, by decide +kernel⟩, List.mem_of_getElem? (i := 834) (by decide +kernel), List.mem_of_getElem? (i := 1103) (by decide +kernel), List.mem_of_getElem? (i := 1104) (by decide +kernel)⟩
theorem lw_p53 : lw_okq (⟨"SealLineModel", "builders", "(I)I"⟩, 39) := ⟨⟨by decide +kernel, by decide +kernel⟩, List.mem_of_getElem? (i := 834) (by decide +kernel), List.mem_of_getElem? (i := 1107) (by decide +kernel), List.mem_of_getElem? (i := 1108) (by decide +kernel)⟩
theorem lw_p54 : lw_okq (⟨"SealLineModel", "holds", "(III)Z"⟩, 39) := ⟨⟨by decide +kernel, by decide +kernel⟩, List.mem_of_getElem? (i := 834) (by decide +kernel), List.mem_of_getElem? (i := 1112) (by decide +kernel), List.mem_of_getElem? (i := 1113) (by decide +kernel)⟩
theorem lw_p55 : lw_okq (⟨"SealLineModel", "isCalled", "(I)Z"⟩, 39) := ⟨⟨by decide +kernel, by decide +kernel⟩, List.mem_of_getElem? (i := 834) (by decide +kernel), List.mem_of_getElem? (i := 1116) (by decide +kernel), List.mem_of_getElem? (i := 1117) (by decide +kernel)⟩
theorem lw_p56 : lw_okq (⟨"SealLineModel", "isCalledNote", "(I)Z"⟩, 39) := ⟨⟨by decide +kernel, by decide +kernel⟩, List.mem_of_getElem? (i := 834) (by decide +kernel), List.mem_of_getElem? (i := 1120) (by decide +kernel), List.mem_of_getElem? (i := 1121) (by decide +kernel)⟩
theorem lw_p57 : lw_okq (⟨"SealLineModel", "calledMany", "()I"⟩, 39) := ⟨⟨by decide +kernel, by decide +kernel⟩, List.mem_of_getElem? (i := 834) (by decide +kernel), List.mem_of_getElem? (i := 1147) (by decide +kernel), List.mem_of_getElem? (i := 1148) (by decide +kernel)⟩
theorem lw_p58 : lw_okq (⟨"SealLineModel", "stands", "(I)Z"⟩, 39) := ⟨⟨by decide +kernel, by decide +kernel⟩, List.mem_of_getElem? (i := 834) (by decide +kernel), List.mem_of_getElem? (i := 1155) (by decide +kernel), List.mem_of_getElem? (i := 1156) (by decide +kernel)⟩
theorem lw_p59 : lw_okq (⟨"SealLineModel", "judged", "()I"⟩, 39) := ⟨⟨by decide +kernel, by decide +kernel⟩, List.mem_of_getElem? (i := 834) (by decide +kernel), List.mem_of_getElem? (i := 1175) (by decide +kernel), List.mem_of_getElem? (i := 1176) (by decide +kernel)⟩
theorem lw_p60 : lw_okq (⟨"SealLineModel", "canHold", "(II)Z"⟩, 39) := ⟨⟨by decide +kernel, by decide +kernel⟩, List.mem_of_getElem? (i := 834) (by decide +kernel), List.mem_of_getElem? (i := 1179) (by decide +kernel), List.mem_of_getElem? (i := 1180) (by decide +kernel)⟩
theorem lw_p61 : lw_okq (⟨"SealLineModel", "firstOf", "(I)I"⟩, 39) := ⟨⟨by decide +kernel, by decide +kernel⟩, List.mem_of_getElem? (i := 834) (by decide +kernel), List.mem_of_getElem? (i := 1191) (by decide +kernel), List.mem_of_getElem? (i := 1192) (by decide +kernel)⟩
def lw_privs_4 : List (MethodName × Nat) := [(⟨"SealLineModel", "makersOf", "(I)I"⟩, 39), (⟨"SealLineModel", "isClean", "(I)Z"⟩, 39), (⟨"SealLineModel", "findClean", "()V"⟩, 39), (⟨"SealLineModel", "allClean", "(I)Z"⟩, 39), (⟨"SealLineModel", "handsWith", "(III)I"⟩, 39), (⟨"SealLineModel", "builders", "(I)I"⟩, 39), (⟨"SealLineModel", "holds", "(III)Z"⟩, 39), (⟨"SealLineModel", "isCalled", "(I)Z"⟩, 39), (⟨"SealLineModel", "isCalledNote", "(I)Z"⟩, 39), (⟨"SealLineModel", "calledMany", "()I"⟩, 39), (⟨"SealLineModel", "stands", "(I)Z"⟩, 39), (⟨"SealLineModel", "judged", "()I"⟩, 39), (⟨"SealLineModel", "canHold", "(II)Z"⟩, 39), (⟨"SealLineModel", "firstOf", "(I)I"⟩, 39)]
theorem lw_r4 : ∀ q ∈ lw_privs_4, lw_okq q := List.forall_mem_cons.mpr ⟨lw_p48, List.forall_mem_cons.mpr ⟨lw_p49, List.forall_mem_cons.mpr ⟨lw_p50, List.forall_mem_cons.mpr ⟨lw_p51, List.forall_mem_cons.mpr ⟨lw_p52, List.forall_mem_cons.mpr ⟨lw_p53, List.forall_mem_cons.mpr ⟨lw_p54, List.forall_mem_cons.mpr ⟨lw_p55, List.forall_mem_cons.mpr ⟨lw_p56, List.forall_mem_cons.mpr ⟨lw_p57, List.forall_mem_cons.mpr ⟨lw_p58, List.forall_mem_cons.mpr ⟨lw_p59, List.forall_mem_cons.mpr ⟨lw_p60, List.forall_mem_cons.mpr ⟨lw_p61, fun _ h => absurd h List.not_mem_nil⟩⟩⟩⟩⟩⟩⟩⟩⟩⟩⟩⟩⟩⟩
def lw_privs : List (MethodName × Nat) := lw_privs_1 ++ (lw_privs_2 ++ (lw_privs_3 ++ (lw_privs_4)))
def lw_tbl : List Cond := k2_sels lw_privs ++ tables_1
theorem lw_privs_ok : ∀ q ∈ lw_privs, lw_okq q := by
  show ∀ q ∈ lw_privs_1 ++ (lw_privs_2 ++ (lw_privs_3 ++ (lw_privs_4))), lw_okq q
  exact List.forall_mem_append.mpr ⟨lw_r1, List.forall_mem_append.mpr ⟨lw_r2, List.forall_mem_append.mpr ⟨lw_r3, lw_r4⟩⟩⟩
end
section
/-! ===== BEGIN words of one list among another's, by their places ===== -/
theorem goodIn_r {big : List Cond} (ws : List Cond) (ps : List Nat) (hp : ws = ps.filterMap (fun i => big[i]?)) (h : ws.all goodWord = true) : GoodIn big ws := by
  intro w hw
  have h1 := List.all_eq_true.mp h w hw
  rw [hp] at hw
  obtain ⟨i, -, hi⟩ := List.mem_filterMap.mp hw
  have hm : w ∈ big := by first | exact List.mem_of_getElem? hi | exact List.getElem?_mem hi
  exact ⟨hm, good_of_word h1⟩
theorem goodIn_app {big a b : List Cond} (ha : GoodIn big a) (hb : GoodIn big b) : GoodIn big (a ++ b) := fun w h => (List.mem_append.mp h).elim (ha w) (hb w)
theorem goodIn_ca {big a b : List Cond} {c : Cond} (ha : GoodIn big (c :: a)) (hb : GoodIn big b) : GoodIn big (c :: (a ++ b)) := fun w h => (List.mem_cons.mp h).elim (fun e => ha w (List.mem_cons.mpr (Or.inl e))) (fun h => (List.mem_append.mp h).elim (fun h => ha w (List.mem_cons.mpr (Or.inr h))) (hb w))
theorem goodIn_sub {big ws : List Cond} (hm : ∀ w ∈ ws, w ∈ big) (h : ws.all goodWord = true) : GoodIn big ws := fun w hw => ⟨hm w hw, good_of_word (List.all_eq_true.mp h w hw)⟩
/-! ===== END ===== -/

/-! ===== BEGIN printed: names, fields, word lists, decode rows ===== -/
def RX0 : String := "SealLine$FileSet"
def TX0 : u_T := fun k => match k with
  | 0 => ("SealLine$FileSet", "low", "J", false)
  | _ => ("SealLine$FileSet", "high", "J", false)
def tyX0 : Nat → FieldType := fun k => match k with
  | 0 => .long
  | _ => .long
abbrev wsX00 : List Cond := u_ws RX0 TX0 2
theorem nmX0 : ∀ a, a < 2 → ∀ b, b < 2 → a ≠ b → (TX0 a).2.1 ≠ (TX0 b).2.1 := by decide +kernel
theorem tyX0_ok : ∀ k, k < 2 → parseFieldDescriptor (TX0 k).2.2.1 = some (tyX0 k) := by decide +kernel
abbrev cX0_init : ByteArray := prog_2_method_1_code
def yX0_init : MethodName := ⟨RX0, "<init>", "()V"⟩
abbrev cX0_empty : ByteArray := prog_2_method_2_code
def yX0_empty : MethodName := ⟨RX0, "empty", "()V"⟩
abbrev cX0_add : ByteArray := prog_2_method_3_code
def yX0_add : MethodName := ⟨RX0, "add", "(I)V"⟩
abbrev cX0_addAll : ByteArray := prog_2_method_4_code
def yX0_addAll : MethodName := ⟨RX0, "addAll", "(LSealLine$FileSet;)V"⟩
abbrev cX0_has : ByteArray := prog_2_method_5_code
def yX0_has : MethodName := ⟨RX0, "has", "(I)Z"⟩
abbrev cX0_meets : ByteArray := prog_2_method_6_code
def yX0_meets : MethodName := ⟨RX0, "meets", "(LSealLine$FileSet;)Z"⟩
abbrev cX0_size : ByteArray := prog_2_method_7_code
def yX0_size : MethodName := ⟨RX0, "size", "()I"⟩
def RX1 : String := "SealLine$Judging"
def TX1 : u_T := fun k => match k with
  | 0 => ("SealLine$Judging", "hands", "I", false)
  | 1 => ("SealLine$Judging", "makerHands", "I", false)
  | _ => ("SealLine$Judging", "known", "Z", false)
def tyX1 : Nat → FieldType := fun k => match k with
  | 0 => .int
  | 1 => .int
  | _ => .boolean
abbrev wsX10 : List Cond := u_ws RX1 TX1 3
theorem nmX1 : ∀ a, a < 3 → ∀ b, b < 3 → a ≠ b → (TX1 a).2.1 ≠ (TX1 b).2.1 := by decide +kernel
theorem tyX1_ok : ∀ k, k < 3 → parseFieldDescriptor (TX1 k).2.2.1 = some (tyX1 k) := by decide +kernel
abbrev cX1_init : ByteArray := prog_3_method_1_code
def yX1_init : MethodName := ⟨RX1, "<init>", "()V"⟩
abbrev cX1_forget : ByteArray := prog_3_method_2_code
def yX1_forget : MethodName := ⟨RX1, "forget", "()V"⟩
abbrev cX1_fewestHands : ByteArray := prog_3_method_3_code
def yX1_fewestHands : MethodName := ⟨RX1, "fewestHands", "(LSealLine$Rule;)I"⟩
abbrev cX1_fewestMakers : ByteArray := prog_3_method_4_code
def yX1_fewestMakers : MethodName := ⟨RX1, "fewestMakers", "(LSealLine$Rule;)I"⟩
abbrev cX1_judge : ByteArray := prog_3_method_5_code
def yX1_judge : MethodName := ⟨RX1, "judge", "(LSealLine$Rule;)V"⟩
abbrev cX1_weigh : ByteArray := prog_3_method_6_code
def yX1_weigh : MethodName := ⟨RX1, "weigh", "(LSealLine$Rule;II)V"⟩
def RX2 : String := "SealLine$Keys"
def TX2 : u_T := fun k => match k with
  | 0 => ("SealLine$Keys", "usesLeft", "[I", true)
  | 1 => ("SealLine$Keys", "ended", "[Z", true)
  | 2 => ("SealLine$Keys", "lost", "[I", true)
  | _ => ("SealLine$Keys", "manySeals", "[I", true)
def tyX2 : Nat → FieldType := fun k => match k with
  | 0 => .array .int
  | 1 => .array .boolean
  | 2 => .array .int
  | _ => .array .int
abbrev wsX20 : List Cond := u_ws RX2 TX2 4
theorem nmX2 : ∀ a, a < 4 → ∀ b, b < 4 → a ≠ b → (TX2 a).2.1 ≠ (TX2 b).2.1 := by decide +kernel
theorem tyX2_ok : ∀ k, k < 4 → parseFieldDescriptor (TX2 k).2.2.1 = some (tyX2 k) := by decide +kernel
abbrev cX2_init : ByteArray := prog_4_method_1_code
def yX2_init : MethodName := ⟨RX2, "<init>", "()V"⟩
abbrev cX2_isKey : ByteArray := prog_4_method_2_code
def yX2_isKey : MethodName := ⟨RX2, "isKey", "(I)Z"⟩
abbrev cX2_isLive : ByteArray := prog_4_method_3_code
def yX2_isLive : MethodName := ⟨RX2, "isLive", "(I)Z"⟩
abbrev cX2_canSeal : ByteArray := prog_4_method_4_code
def yX2_canSeal : MethodName := ⟨RX2, "canSeal", "(I)Z"⟩
abbrev cX2_useOnce : ByteArray := prog_4_method_5_code
def yX2_useOnce : MethodName := ⟨RX2, "useOnce", "(I)V"⟩
abbrev cX2_addUses : ByteArray := prog_4_method_6_code
def yX2_addUses : MethodName := ⟨RX2, "addUses", "(II)I"⟩
abbrev cX2_endOne : ByteArray := prog_4_method_7_code
def yX2_endOne : MethodName := ⟨RX2, "endOne", "(I)Z"⟩
abbrev cX2_loseOne : ByteArray := prog_4_method_8_code
def yX2_loseOne : MethodName := ⟨RX2, "loseOne", "(II)Z"⟩
abbrev cX2_lostSince : ByteArray := prog_4_method_9_code
def yX2_lostSince : MethodName := ⟨RX2, "lostSince", "(I)I"⟩
abbrev cX2_tell : ByteArray := prog_4_method_10_code
def yX2_tell : MethodName := ⟨RX2, "tell", "(II)I"⟩
def RX3 : String := "SealLine$Proof"
def TX3 : u_T := fun k => match k with
  | 0 => ("SealLine$Proof", "grounds", "[I", true)
  | 1 => ("SealLine$Proof", "waiting", "[I", true)
  | 2 => ("SealLine$Proof", "wanted", "LSealLine$FileSet;", true)
  | _ => ("SealLine$Proof", "manyWaiting", "I", false)
def tyX3 : Nat → FieldType := fun k => match k with
  | 0 => .array .int
  | 1 => .array .int
  | 2 => .object "SealLine$FileSet"
  | _ => .int
abbrev wsX30 : List Cond := u_ws RX3 TX3 4
theorem nmX3 : ∀ a, a < 4 → ∀ b, b < 4 → a ≠ b → (TX3 a).2.1 ≠ (TX3 b).2.1 := by decide +kernel
theorem tyX3_ok : ∀ k, k < 4 → parseFieldDescriptor (TX3 k).2.2.1 = some (tyX3 k) := by decide +kernel
abbrev cX3_init : ByteArray := prog_5_method_1_code
def yX3_init : MethodName := ⟨RX3, "<init>", "()V"⟩
abbrev cX3_noteAt : ByteArray := prog_5_method_2_code
def yX3_noteAt : MethodName := ⟨RX3, "noteAt", "(LSealLine$Table;LSealLine$Shelf;II)I"⟩
abbrev cX3_findGrounds : ByteArray := prog_5_method_3_code
def yX3_findGrounds : MethodName := ⟨RX3, "findGrounds", "(LSealLine$Table;LSealLine$Shelf;)V"⟩
abbrev cX3_gather : ByteArray := prog_5_method_4_code
def yX3_gather : MethodName := ⟨RX3, "gather", "(LSealLine$Table;I)V"⟩
abbrev cX3_want : ByteArray := prog_5_method_5_code
def yX3_want : MethodName := ⟨RX3, "want", "(I)V"⟩
abbrev cX3_isPart : ByteArray := prog_5_method_6_code
def yX3_isPart : MethodName := ⟨RX3, "isPart", "(LSealLine$Table;I)Z"⟩
def RX4 : String := "SealLine$Queue"
def TX4 : u_T := fun k => match k with
  | 0 => ("SealLine$Queue", "files", "[I", true)
  | _ => ("SealLine$Queue", "length", "I", false)
def tyX4 : Nat → FieldType := fun k => match k with
  | 0 => .array .int
  | _ => .int
abbrev wsX40 : List Cond := u_ws RX4 TX4 2
theorem nmX4 : ∀ a, a < 2 → ∀ b, b < 2 → a ≠ b → (TX4 a).2.1 ≠ (TX4 b).2.1 := by decide +kernel
theorem tyX4_ok : ∀ k, k < 2 → parseFieldDescriptor (TX4 k).2.2.1 = some (tyX4 k) := by decide +kernel
abbrev cX4_init : ByteArray := prog_6_method_1_code
def yX4_init : MethodName := ⟨RX4, "<init>", "()V"⟩
abbrev cX4_size : ByteArray := prog_6_method_2_code
def yX4_size : MethodName := ⟨RX4, "size", "()I"⟩
abbrev cX4_first : ByteArray := prog_6_method_3_code
def yX4_first : MethodName := ⟨RX4, "first", "()I"⟩
abbrev cX4_placeOf : ByteArray := prog_6_method_4_code
def yX4_placeOf : MethodName := ⟨RX4, "placeOf", "(I)I"⟩
abbrev cX4_add : ByteArray := prog_6_method_5_code
def yX4_add : MethodName := ⟨RX4, "add", "(I)I"⟩
abbrev cX4_removeFirst : ByteArray := prog_6_method_6_code
def yX4_removeFirst : MethodName := ⟨RX4, "removeFirst", "()I"⟩
def RX5 : String := "SealLine$Recalls"
def TX5 : u_T := fun k => match k with
  | 0 => ("SealLine$Recalls", "toolSince", "[I", true)
  | 1 => ("SealLine$Recalls", "handSince", "[I", true)
  | 2 => ("SealLine$Recalls", "marked", "LSealLine$FileSet;", true)
  | _ => ("SealLine$Recalls", "many", "I", false)
def tyX5 : Nat → FieldType := fun k => match k with
  | 0 => .array .int
  | 1 => .array .int
  | 2 => .object "SealLine$FileSet"
  | _ => .int
abbrev wsX50 : List Cond := u_ws RX5 TX5 4
theorem nmX5 : ∀ a, a < 4 → ∀ b, b < 4 → a ≠ b → (TX5 a).2.1 ≠ (TX5 b).2.1 := by decide +kernel
theorem tyX5_ok : ∀ k, k < 4 → parseFieldDescriptor (TX5 k).2.2.1 = some (tyX5 k) := by decide +kernel
abbrev cX5_init : ByteArray := prog_7_method_1_code
def yX5_init : MethodName := ⟨RX5, "<init>", "()V"⟩
abbrev cX5_marked : ByteArray := prog_7_method_2_code
def yX5_marked : MethodName := ⟨RX5, "marked", "()LSealLine$FileSet;"⟩
abbrev cX5_addFile : ByteArray := prog_7_method_3_code
def yX5_addFile : MethodName := ⟨RX5, "addFile", "(I)Z"⟩
abbrev cX5_addSince : ByteArray := prog_7_method_4_code
def yX5_addSince : MethodName := ⟨RX5, "addSince", "(IIILSealLine$Table;)Z"⟩
abbrev cX5_look : ByteArray := prog_7_method_5_code
def yX5_look : MethodName := ⟨RX5, "look", "(LSealLine$Table;I)V"⟩
abbrev cX5_sinceOf : ByteArray := prog_7_method_6_code
def yX5_sinceOf : MethodName := ⟨RX5, "sinceOf", "([II)I"⟩
def RX6 : String := "SealLine$Rule"
def TX6 : u_T := fun k => match k with
  | 0 => ("SealLine$Rule", "steps", "[I", true)
  | 1 => ("SealLine$Rule", "someParts", "[I", true)
  | _ => ("SealLine$Rule", "everyUnit", "[I", true)
def tyX6 : Nat → FieldType := fun k => match k with
  | 0 => .array .int
  | 1 => .array .int
  | _ => .array .int
abbrev wsX60 : List Cond := u_ws RX6 TX6 3
theorem nmX6 : ∀ a, a < 3 → ∀ b, b < 3 → a ≠ b → (TX6 a).2.1 ≠ (TX6 b).2.1 := by decide +kernel
theorem tyX6_ok : ∀ k, k < 3 → parseFieldDescriptor (TX6 k).2.2.1 = some (tyX6 k) := by decide +kernel
abbrev cX6_init : ByteArray := prog_8_method_1_code
def yX6_init : MethodName := ⟨RX6, "<init>", "([I)V"⟩
abbrev cX6_test : ByteArray := prog_8_method_2_code
def yX6_test : MethodName := ⟨RX6, "test", "(III)I"⟩
abbrev cX6_holdingTries : ByteArray := prog_8_method_3_code
def yX6_holdingTries : MethodName := ⟨RX6, "holdingTries", "(II)I"⟩
abbrev cX6_begin : ByteArray := prog_8_method_4_code
def yX6_begin : MethodName := ⟨RX6, "begin", "(I)V"⟩
abbrev cX6_triesOfTest : ByteArray := prog_8_method_5_code
def yX6_triesOfTest : MethodName := ⟨RX6, "triesOfTest", "(III)I"⟩
abbrev cX6_triesBelow : ByteArray := prog_8_method_6_code
def yX6_triesBelow : MethodName := ⟨RX6, "triesBelow", "(I)I"⟩
def RX7 : String := "SealLine$Shelf"
def TX7 : u_T := fun k => match k with
  | 0 => ("SealLine$Shelf", "hashes", "[J", true)
  | 1 => ("SealLine$Shelf", "rows", "[LSealLine$FileSet;", true)
  | 2 => ("SealLine$Shelf", "ownMakers", "[I", true)
  | 3 => ("SealLine$Shelf", "builders", "[I", true)
  | 4 => ("SealLine$Shelf", "tryers", "[I", true)
  | 5 => ("SealLine$Shelf", "reviewers", "[I", true)
  | 6 => ("SealLine$Shelf", "clean", "LSealLine$FileSet;", true)
  | _ => ("SealLine$Shelf", "many", "I", false)
def tyX7 : Nat → FieldType := fun k => match k with
  | 0 => .array .long
  | 1 => .array (.object "SealLine$FileSet")
  | 2 => .array .int
  | 3 => .array .int
  | 4 => .array .int
  | 5 => .array .int
  | 6 => .object "SealLine$FileSet"
  | _ => .int
abbrev wsX70 : List Cond := u_ws RX7 TX7 8
theorem nmX7 : ∀ a, a < 8 → ∀ b, b < 8 → a ≠ b → (TX7 a).2.1 ≠ (TX7 b).2.1 := by decide +kernel
theorem tyX7_ok : ∀ k, k < 8 → parseFieldDescriptor (TX7 k).2.2.1 = some (tyX7 k) := by decide +kernel
abbrev cX7_init : ByteArray := prog_9_method_1_code
def yX7_init : MethodName := ⟨RX7, "<init>", "()V"⟩
abbrev cX7_size : ByteArray := prog_9_method_2_code
def yX7_size : MethodName := ⟨RX7, "size", "()I"⟩
abbrev cX7_has : ByteArray := prog_9_method_3_code
def yX7_has : MethodName := ⟨RX7, "has", "(I)Z"⟩
abbrev cX7_hashOf : ByteArray := prog_9_method_4_code
def yX7_hashOf : MethodName := ⟨RX7, "hashOf", "(I)J"⟩
abbrev cX7_numberOf : ByteArray := prog_9_method_5_code
def yX7_numberOf : MethodName := ⟨RX7, "numberOf", "(J)I"⟩
abbrev cX7_numberOrNew : ByteArray := prog_9_method_6_code
def yX7_numberOrNew : MethodName := ⟨RX7, "numberOrNew", "(J)I"⟩
abbrev cX7_addMaker : ByteArray := prog_9_method_7_code
def yX7_addMaker : MethodName := ⟨RX7, "addMaker", "(II)V"⟩
abbrev cX7_addBuilder : ByteArray := prog_9_method_8_code
def yX7_addBuilder : MethodName := ⟨RX7, "addBuilder", "(II)V"⟩
abbrev cX7_setTry : ByteArray := prog_9_method_9_code
def yX7_setTry : MethodName := ⟨RX7, "setTry", "(IIZ)V"⟩
abbrev cX7_setReview : ByteArray := prog_9_method_10_code
def yX7_setReview : MethodName := ⟨RX7, "setReview", "(IIZ)V"⟩
abbrev cX7_setHand : ByteArray := prog_9_method_11_code
def yX7_setHand : MethodName := ⟨RX7, "setHand", "([IIIZ)V"⟩
abbrev cX7_addInput : ByteArray := prog_9_method_12_code
def yX7_addInput : MethodName := ⟨RX7, "addInput", "(II)V"⟩
abbrev cX7_rowHas : ByteArray := prog_9_method_13_code
def yX7_rowHas : MethodName := ⟨RX7, "rowHas", "(II)Z"⟩
abbrev cX7_rowMeets : ByteArray := prog_9_method_14_code
def yX7_rowMeets : MethodName := ⟨RX7, "rowMeets", "(ILSealLine$FileSet;)Z"⟩
abbrev cX7_rowSize : ByteArray := prog_9_method_15_code
def yX7_rowSize : MethodName := ⟨RX7, "rowSize", "(I)I"⟩
abbrev cX7_makersOf : ByteArray := prog_9_method_16_code
def yX7_makersOf : MethodName := ⟨RX7, "makersOf", "(I)I"⟩
abbrev cX7_goodTries : ByteArray := prog_9_method_17_code
def yX7_goodTries : MethodName := ⟨RX7, "goodTries", "(I)I"⟩
abbrev cX7_goodReviews : ByteArray := prog_9_method_18_code
def yX7_goodReviews : MethodName := ⟨RX7, "goodReviews", "(I)I"⟩
abbrev cX7_goodBuilders : ByteArray := prog_9_method_19_code
def yX7_goodBuilders : MethodName := ⟨RX7, "goodBuilders", "(I)I"⟩
abbrev cX7_isClean : ByteArray := prog_9_method_20_code
def yX7_isClean : MethodName := ⟨RX7, "isClean", "(I)Z"⟩
abbrev cX7_isGround : ByteArray := prog_9_method_21_code
def yX7_isGround : MethodName := ⟨RX7, "isGround", "(LSealLine$Table;I)Z"⟩
abbrev cX7_isCleanInput : ByteArray := prog_9_method_22_code
def yX7_isCleanInput : MethodName := ⟨RX7, "isCleanInput", "(I)Z"⟩
abbrev cX7_cleanBy : ByteArray := prog_9_method_23_code
def yX7_cleanBy : MethodName := ⟨RX7, "cleanBy", "(LSealLine$Table;I)V"⟩
abbrev cX7_addClean : ByteArray := prog_9_method_24_code
def yX7_addClean : MethodName := ⟨RX7, "addClean", "(LSealLine$Table;I)Z"⟩
def RX8 : String := "SealLine$Table"
def TX8 : u_T := fun k => match k with
  | 0 => ("SealLine$Table", "most", "I", true)
  | 1 => ("SealLine$Table", "width", "I", true)
  | 2 => ("SealLine$Table", "cells", "[I", true)
  | _ => ("SealLine$Table", "many", "I", false)
def tyX8 : Nat → FieldType := fun k => match k with
  | 0 => .int
  | 1 => .int
  | 2 => .array .int
  | _ => .int
abbrev wsX80 : List Cond := u_ws RX8 TX8 4
theorem nmX8 : ∀ a, a < 4 → ∀ b, b < 4 → a ≠ b → (TX8 a).2.1 ≠ (TX8 b).2.1 := by decide +kernel
theorem tyX8_ok : ∀ k, k < 4 → parseFieldDescriptor (TX8 k).2.2.1 = some (tyX8 k) := by decide +kernel
abbrev cX8_init : ByteArray := prog_10_method_1_code
def yX8_init : MethodName := ⟨RX8, "<init>", "(II)V"⟩
abbrev cX8_size : ByteArray := prog_10_method_2_code
def yX8_size : MethodName := ⟨RX8, "size", "()I"⟩
abbrev cX8_isFull : ByteArray := prog_10_method_3_code
def yX8_isFull : MethodName := ⟨RX8, "isFull", "()Z"⟩
abbrev cX8_addRow : ByteArray := prog_10_method_4_code
def yX8_addRow : MethodName := ⟨RX8, "addRow", "()I"⟩
abbrev cX8_cell : ByteArray := prog_10_method_5_code
def yX8_cell : MethodName := ⟨RX8, "cell", "(II)I"⟩
abbrev cX8_set : ByteArray := prog_10_method_6_code
def yX8_set : MethodName := ⟨RX8, "set", "(III)V"⟩
abbrev cX8_isCell : ByteArray := prog_10_method_7_code
def yX8_isCell : MethodName := ⟨RX8, "isCell", "(II)Z"⟩
def RX9 : String := "SealLine$Tape"
def TX9 : u_T := fun k => match k with
  | 0 => ("SealLine$Tape", "bytes", "[I", true)
  | 1 => ("SealLine$Tape", "length", "I", false)
  | 2 => ("SealLine$Tape", "steps", "[I", true)
  | 3 => ("SealLine$Tape", "manySteps", "I", false)
  | 4 => ("SealLine$Tape", "state", "I", false)
  | 5 => ("SealLine$Tape", "depth", "I", false)
  | 6 => ("SealLine$Tape", "letter", "I", false)
  | _ => ("SealLine$Tape", "sign", "I", false)
def tyX9 : Nat → FieldType := fun k => match k with
  | 0 => .array .int
  | 1 => .int
  | 2 => .array .int
  | 3 => .int
  | 4 => .int
  | 5 => .int
  | 6 => .int
  | _ => .int
abbrev wsX90 : List Cond := u_ws RX9 TX9 8
theorem nmX9 : ∀ a, a < 8 → ∀ b, b < 8 → a ≠ b → (TX9 a).2.1 ≠ (TX9 b).2.1 := by decide +kernel
theorem tyX9_ok : ∀ k, k < 8 → parseFieldDescriptor (TX9 k).2.2.1 = some (tyX9 k) := by decide +kernel
abbrev cX9_init : ByteArray := prog_11_method_1_code
def yX9_init : MethodName := ⟨RX9, "<init>", "()V"⟩
abbrev cX9_size : ByteArray := prog_11_method_2_code
def yX9_size : MethodName := ⟨RX9, "size", "()I"⟩
abbrev cX9_add : ByteArray := prog_11_method_3_code
def yX9_add : MethodName := ⟨RX9, "add", "(I)I"⟩
abbrev cX9_cut : ByteArray := prog_11_method_4_code
def yX9_cut : MethodName := ⟨RX9, "cut", "(I)Z"⟩
abbrev cX9_firstFault : ByteArray := prog_11_method_5_code
def yX9_firstFault : MethodName := ⟨RX9, "firstFault", "()I"⟩
abbrev cX9_readSteps : ByteArray := prog_11_method_6_code
def yX9_readSteps : MethodName := ⟨RX9, "readSteps", "()[I"⟩
abbrev cX9_take : ByteArray := prog_11_method_7_code
def yX9_take : MethodName := ⟨RX9, "take", "(I)Z"⟩
abbrev cX9_takeUnit : ByteArray := prog_11_method_8_code
def yX9_takeUnit : MethodName := ⟨RX9, "takeUnit", "(I)Z"⟩
abbrev cX9_takeSign : ByteArray := prog_11_method_9_code
def yX9_takeSign : MethodName := ⟨RX9, "takeSign", "(I)Z"⟩
abbrev cX9_takeDigit : ByteArray := prog_11_method_10_code
def yX9_takeDigit : MethodName := ⟨RX9, "takeDigit", "(I)Z"⟩
abbrev cX9_takeJoin : ByteArray := prog_11_method_11_code
def yX9_takeJoin : MethodName := ⟨RX9, "takeJoin", "(I)Z"⟩
abbrev cX9_addStep : ByteArray := prog_11_method_12_code
def yX9_addStep : MethodName := ⟨RX9, "addStep", "(I)V"⟩
abbrev cX9_lengthenNumber : ByteArray := prog_11_method_13_code
def yX9_lengthenNumber : MethodName := ⟨RX9, "lengthenNumber", "(I)V"⟩
abbrev cX9_isDigit : ByteArray := prog_11_method_14_code
def yX9_isDigit : MethodName := ⟨RX9, "isDigit", "(I)Z"⟩
def RX10 : String := "SealLine"
def TX10 : u_T := fun k => match k with
  | 0 => ("SealLine", "notes", "LSealLine$Table;", true)
  | 1 => ("SealLine", "seals", "LSealLine$Table;", true)
  | 2 => ("SealLine", "shelf", "LSealLine$Shelf;", true)
  | 3 => ("SealLine", "proofs", "LSealLine$Proof;", true)
  | 4 => ("SealLine", "recalls", "LSealLine$Recalls;", true)
  | 5 => ("SealLine", "tape", "LSealLine$Tape;", true)
  | 6 => ("SealLine", "queue", "LSealLine$Queue;", true)
  | 7 => ("SealLine", "keys", "LSealLine$Keys;", true)
  | 8 => ("SealLine", "judging", "LSealLine$Judging;", true)
  | 9 => ("SealLine", "inForce", "LSealLine$Rule;", false)
  | _ => ("SealLine", "rules", "I", false)
def tyX10 : Nat → FieldType := fun k => match k with
  | 0 => .object "SealLine$Table"
  | 1 => .object "SealLine$Table"
  | 2 => .object "SealLine$Shelf"
  | 3 => .object "SealLine$Proof"
  | 4 => .object "SealLine$Recalls"
  | 5 => .object "SealLine$Tape"
  | 6 => .object "SealLine$Queue"
  | 7 => .object "SealLine$Keys"
  | 8 => .object "SealLine$Judging"
  | 9 => .object "SealLine$Rule"
  | _ => .int
abbrev wsX100 : List Cond := u_ws RX10 TX10 11
theorem nmX10 : ∀ a, a < 11 → ∀ b, b < 11 → a ≠ b → (TX10 a).2.1 ≠ (TX10 b).2.1 := by decide +kernel
theorem tyX10_ok : ∀ k, k < 11 → parseFieldDescriptor (TX10 k).2.2.1 = some (tyX10 k) := by decide +kernel
abbrev cX10_init : ByteArray := prog_1_method_1_code
def yX10_init : MethodName := ⟨RX10, "<init>", "()V"⟩
abbrev cX10_source : ByteArray := prog_1_method_2_code
def yX10_source : MethodName := ⟨RX10, "source", "(IJ)I"⟩
abbrev cX10_build : ByteArray := prog_1_method_3_code
def yX10_build : MethodName := ⟨RX10, "build", "(IIIIIJ)I"⟩
abbrev cX10_mix : ByteArray := prog_1_method_4_code
def yX10_mix : MethodName := ⟨RX10, "mix", "(IIII)J"⟩
abbrev cX10_tries : ByteArray := prog_1_method_5_code
def yX10_tries : MethodName := ⟨RX10, "tries", "(IIZ)I"⟩
abbrev cX10_review : ByteArray := prog_1_method_6_code
def yX10_review : MethodName := ⟨RX10, "review", "(IIZ)I"⟩
abbrev cX10_feed : ByteArray := prog_1_method_7_code
def yX10_feed : MethodName := ⟨RX10, "feed", "(I)I"⟩
abbrev cX10_end : ByteArray := prog_1_method_8_code
def yX10_end : MethodName := ⟨RX10, "end", "(I)Z"⟩
abbrev cX10_fault : ByteArray := prog_1_method_9_code
def yX10_fault : MethodName := ⟨RX10, "fault", "()I"⟩
abbrev cX10_rule : ByteArray := prog_1_method_10_code
def yX10_rule : MethodName := ⟨RX10, "rule", "()I"⟩
abbrev cX10_ask : ByteArray := prog_1_method_11_code
def yX10_ask : MethodName := ⟨RX10, "ask", "(I)I"⟩
abbrev cX10_skip : ByteArray := prog_1_method_12_code
def yX10_skip : MethodName := ⟨RX10, "skip", "()I"⟩
abbrev cX10_seal : ByteArray := prog_1_method_13_code
def yX10_seal : MethodName := ⟨RX10, "seal", "(III)I"⟩
abbrev cX10_why : ByteArray := prog_1_method_14_code
def yX10_why : MethodName := ⟨RX10, "why", "(III)I"⟩
abbrev cX10_uses : ByteArray := prog_1_method_15_code
def yX10_uses : MethodName := ⟨RX10, "uses", "(II)I"⟩
abbrev cX10_finish : ByteArray := prog_1_method_16_code
def yX10_finish : MethodName := ⟨RX10, "finish", "(I)Z"⟩
abbrev cX10_lose : ByteArray := prog_1_method_17_code
def yX10_lose : MethodName := ⟨RX10, "lose", "(II)I"⟩
abbrev cX10_recall : ByteArray := prog_1_method_18_code
def yX10_recall : MethodName := ⟨RX10, "recall", "(III)I"⟩
abbrev cX10_file : ByteArray := prog_1_method_19_code
def yX10_file : MethodName := ⟨RX10, "file", "(II)I"⟩
abbrev cX10_hash : ByteArray := prog_1_method_20_code
def yX10_hash : MethodName := ⟨RX10, "hash", "(I)J"⟩
abbrev cX10_find : ByteArray := prog_1_method_21_code
def yX10_find : MethodName := ⟨RX10, "find", "(J)I"⟩
abbrev cX10_sealed : ByteArray := prog_1_method_22_code
def yX10_sealed : MethodName := ⟨RX10, "sealed", "(II)I"⟩
abbrev cX10_note : ByteArray := prog_1_method_23_code
def yX10_note : MethodName := ⟨RX10, "note", "(II)I"⟩
abbrev cX10_least : ByteArray := prog_1_method_24_code
def yX10_least : MethodName := ⟨RX10, "least", "()I"⟩
abbrev cX10_makers : ByteArray := prog_1_method_25_code
def yX10_makers : MethodName := ⟨RX10, "makers", "()I"⟩
abbrev cX10_proof : ByteArray := prog_1_method_26_code
def yX10_proof : MethodName := ⟨RX10, "proof", "(II)I"⟩
abbrev cX10_called : ByteArray := prog_1_method_27_code
def yX10_called : MethodName := ⟨RX10, "called", "(I)I"⟩
abbrev cX10_count : ByteArray := prog_1_method_28_code
def yX10_count : MethodName := ⟨RX10, "count", "(I)I"⟩
abbrev cX10_key : ByteArray := prog_1_method_29_code
def yX10_key : MethodName := ⟨RX10, "key", "(II)I"⟩
abbrev cX10_bit : ByteArray := prog_1_method_30_code
def yX10_bit : MethodName := ⟨RX10, "bit", "(Z)I"⟩
abbrev cX10_isHand : ByteArray := prog_1_method_31_code
def yX10_isHand : MethodName := ⟨RX10, "isHand", "(I)Z"⟩
abbrev cX10_isTool : ByteArray := prog_1_method_32_code
def yX10_isTool : MethodName := ⟨RX10, "isTool", "(I)Z"⟩
abbrev cX10_areInputs : ByteArray := prog_1_method_33_code
def yX10_areInputs : MethodName := ⟨RX10, "areInputs", "(III)Z"⟩
abbrev cX10_isInRowOfOne : ByteArray := prog_1_method_34_code
def yX10_isInRowOfOne : MethodName := ⟨RX10, "isInRowOfOne", "(IIII)Z"⟩
abbrev cX10_mixed : ByteArray := prog_1_method_35_code
def yX10_mixed : MethodName := ⟨RX10, "mixed", "(IIII)J"⟩
abbrev cX10_stirred : ByteArray := prog_1_method_36_code
def yX10_stirred : MethodName := ⟨RX10, "stirred", "(JI)J"⟩
abbrev cX10_addNote : ByteArray := prog_1_method_37_code
def yX10_addNote : MethodName := ⟨RX10, "addNote", "(III)I"⟩
abbrev cX10_addSaying : ByteArray := prog_1_method_38_code
def yX10_addSaying : MethodName := ⟨RX10, "addSaying", "(IIIZ)I"⟩
abbrev cX10_settle : ByteArray := prog_1_method_39_code
def yX10_settle : MethodName := ⟨RX10, "settle", "(I)V"⟩
abbrev cX10_refusal : ByteArray := prog_1_method_40_code
def yX10_refusal : MethodName := ⟨RX10, "refusal", "(III)I"⟩
abbrev cX10_ruleHolds : ByteArray := prog_1_method_41_code
def yX10_ruleHolds : MethodName := ⟨RX10, "ruleHolds", "(I)Z"⟩
abbrev cX10_isCalledBack : ByteArray := prog_1_method_42_code
def yX10_isCalledBack : MethodName := ⟨RX10, "isCalledBack", "(I)Z"⟩
abbrev cX10_manyCalledBack : ByteArray := prog_1_method_43_code
def yX10_manyCalledBack : MethodName := ⟨RX10, "manyCalledBack", "()I"⟩
abbrev cX10_stands : ByteArray := prog_1_method_44_code
def yX10_stands : MethodName := ⟨RX10, "stands", "(I)Z"⟩
abbrev cX10_manyStanding : ByteArray := prog_1_method_45_code
def yX10_manyStanding : MethodName := ⟨RX10, "manyStanding", "(I)I"⟩
def RX11 : String := "SealLineModel"
def TX11 : u_T := fun k => match k with
  | 0 => ("SealLineModel", "notes", "I", false)
  | 1 => ("SealLineModel", "files", "I", false)
  | 2 => ("SealLineModel", "rules", "I", false)
  | 3 => ("SealLineModel", "calls", "I", false)
  | 4 => ("SealLineModel", "queued", "I", false)
  | 5 => ("SealLineModel", "seals", "I", false)
  | 6 => ("SealLineModel", "hash", "[J", true)
  | 7 => ("SealLineModel", "sort", "[I", true)
  | 8 => ("SealLineModel", "of", "[I", true)
  | 9 => ("SealLineModel", "hand", "[I", true)
  | 10 => ("SealLineModel", "other", "[I", true)
  | 11 => ("SealLineModel", "tool", "[I", true)
  | 12 => ("SealLineModel", "first", "[I", true)
  | 13 => ("SealLineModel", "second", "[I", true)
  | 14 => ("SealLineModel", "third", "[I", true)
  | 15 => ("SealLineModel", "good", "[I", true)
  | 16 => ("SealLineModel", "keyOf", "[I", true)
  | 17 => ("SealLineModel", "ruleOf", "[I", true)
  | 18 => ("SealLineModel", "sealNote", "[I", true)
  | 19 => ("SealLineModel", "queue", "[I", true)
  | 20 => ("SealLineModel", "left", "[I", true)
  | 21 => ("SealLineModel", "ended", "[Z", true)
  | 22 => ("SealLineModel", "lost", "[I", true)
  | 23 => ("SealLineModel", "callSort", "[I", true)
  | 24 => ("SealLineModel", "callWhose", "[I", true)
  | 25 => ("SealLineModel", "callSince", "[I", true)
  | 26 => ("SealLineModel", "row", "[Z", true)
  | 27 => ("SealLineModel", "way", "[I", true)
  | 28 => ("SealLineModel", "clean", "[Z", true)
  | 29 => ("SealLineModel", "tape", "[I", true)
  | 30 => ("SealLineModel", "codes", "[I", true)
  | 31 => ("SealLineModel", "saying", "[I", true)
  | 32 => ("SealLineModel", "size", "I", false)
  | 33 => ("SealLineModel", "at", "I", false)
  | 34 => ("SealLineModel", "wrong", "I", false)
  | 35 => ("SealLineModel", "deep", "I", false)
  | 36 => ("SealLineModel", "said", "I", false)
  | 37 => ("SealLineModel", "pile", "[Z", true)
  | _ => ("SealLineModel", "proves", "[Z", true)
def tyX11 : Nat → FieldType := fun k => match k with
  | 0 => .int
  | 1 => .int
  | 2 => .int
  | 3 => .int
  | 4 => .int
  | 5 => .int
  | 6 => .array .long
  | 7 => .array .int
  | 8 => .array .int
  | 9 => .array .int
  | 10 => .array .int
  | 11 => .array .int
  | 12 => .array .int
  | 13 => .array .int
  | 14 => .array .int
  | 15 => .array .int
  | 16 => .array .int
  | 17 => .array .int
  | 18 => .array .int
  | 19 => .array .int
  | 20 => .array .int
  | 21 => .array .boolean
  | 22 => .array .int
  | 23 => .array .int
  | 24 => .array .int
  | 25 => .array .int
  | 26 => .array .boolean
  | 27 => .array .int
  | 28 => .array .boolean
  | 29 => .array .int
  | 30 => .array .int
  | 31 => .array .int
  | 32 => .int
  | 33 => .int
  | 34 => .int
  | 35 => .int
  | 36 => .int
  | 37 => .array .boolean
  | _ => .array .boolean
abbrev wsX110 : List Cond := u_ws RX11 TX11 39
theorem nmX11 : ∀ a, a < 39 → ∀ b, b < 39 → a ≠ b → (TX11 a).2.1 ≠ (TX11 b).2.1 := by decide +kernel
theorem tyX11_ok : ∀ k, k < 39 → parseFieldDescriptor (TX11 k).2.2.1 = some (tyX11 k) := by decide +kernel
abbrev cX11_init : ByteArray := prog_13_method_1_code
def yX11_init : MethodName := ⟨RX11, "<init>", "()V"⟩
abbrev cX11_in : ByteArray := prog_13_method_2_code
def yX11_in : MethodName := ⟨RX11, "in", "(III)Z"⟩
abbrev cX11_isFile : ByteArray := prog_13_method_3_code
def yX11_isFile : MethodName := ⟨RX11, "isFile", "(I)Z"⟩
abbrev cX11_isHand : ByteArray := prog_13_method_4_code
def yX11_isHand : MethodName := ⟨RX11, "isHand", "(I)Z"⟩
abbrev cX11_isKey : ByteArray := prog_13_method_5_code
def yX11_isKey : MethodName := ⟨RX11, "isKey", "(I)Z"⟩
abbrev cX11_find : ByteArray := prog_13_method_6_code
def yX11_find : MethodName := ⟨RX11, "find", "(J)I"⟩
abbrev cX11_addNote : ByteArray := prog_13_method_7_code
def yX11_addNote : MethodName := ⟨RX11, "addNote", "(III)I"⟩
abbrev cX11_fileFor : ByteArray := prog_13_method_8_code
def yX11_fileFor : MethodName := ⟨RX11, "fileFor", "(J)I"⟩
abbrev cX11_source : ByteArray := prog_13_method_9_code
def yX11_source : MethodName := ⟨RX11, "source", "(IJ)I"⟩
abbrev cX11_addRow : ByteArray := prog_13_method_10_code
def yX11_addRow : MethodName := ⟨RX11, "addRow", "(I)V"⟩
abbrev cX11_went : ByteArray := prog_13_method_11_code
def yX11_went : MethodName := ⟨RX11, "went", "(II)I"⟩
abbrev cX11_rowOf : ByteArray := prog_13_method_12_code
def yX11_rowOf : MethodName := ⟨RX11, "rowOf", "(I)V"⟩
abbrev cX11_areFiles : ByteArray := prog_13_method_13_code
def yX11_areFiles : MethodName := ⟨RX11, "areFiles", "(III)Z"⟩
abbrev cX11_mixOf : ByteArray := prog_13_method_14_code
def yX11_mixOf : MethodName := ⟨RX11, "mixOf", "(IIII)J"⟩
abbrev cX11_mix : ByteArray := prog_13_method_15_code
def yX11_mix : MethodName := ⟨RX11, "mix", "(IIII)J"⟩
abbrev cX11_build : ByteArray := prog_13_method_16_code
def yX11_build : MethodName := ⟨RX11, "build", "(IIIIIJ)I"⟩
abbrev cX11_says : ByteArray := prog_13_method_17_code
def yX11_says : MethodName := ⟨RX11, "says", "(IIIZ)I"⟩
abbrev cX11_tries : ByteArray := prog_13_method_18_code
def yX11_tries : MethodName := ⟨RX11, "tries", "(IIZ)I"⟩
abbrev cX11_review : ByteArray := prog_13_method_19_code
def yX11_review : MethodName := ⟨RX11, "review", "(IIZ)I"⟩
abbrev cX11_allClean : ByteArray := prog_13_method_20_code
def yX11_allClean : MethodName := ⟨RX11, "allClean", "(I)Z"⟩
abbrev cX11_findClean : ByteArray := prog_13_method_21_code
def yX11_findClean : MethodName := ⟨RX11, "findClean", "()V"⟩
abbrev cX11_isClean : ByteArray := prog_13_method_22_code
def yX11_isClean : MethodName := ⟨RX11, "isClean", "(I)Z"⟩
abbrev cX11_makersOf : ByteArray := prog_13_method_23_code
def yX11_makersOf : MethodName := ⟨RX11, "makersOf", "(I)I"⟩
abbrev cX11_isCalledNote : ByteArray := prog_13_method_24_code
def yX11_isCalledNote : MethodName := ⟨RX11, "isCalledNote", "(I)Z"⟩
abbrev cX11_isCalled : ByteArray := prog_13_method_25_code
def yX11_isCalled : MethodName := ⟨RX11, "isCalled", "(I)Z"⟩
abbrev cX11_handsWith : ByteArray := prog_13_method_26_code
def yX11_handsWith : MethodName := ⟨RX11, "handsWith", "(III)I"⟩
abbrev cX11_builders : ByteArray := prog_13_method_27_code
def yX11_builders : MethodName := ⟨RX11, "builders", "(I)I"⟩
abbrev cX11_feed : ByteArray := prog_13_method_28_code
def yX11_feed : MethodName := ⟨RX11, "feed", "(I)I"⟩
abbrev cX11_end : ByteArray := prog_13_method_29_code
def yX11_end : MethodName := ⟨RX11, "end", "(I)Z"⟩
abbrev cX11_look : ByteArray := prog_13_method_30_code
def yX11_look : MethodName := ⟨RX11, "look", "()I"⟩
abbrev cX11_fail : ByteArray := prog_13_method_31_code
def yX11_fail : MethodName := ⟨RX11, "fail", "()V"⟩
abbrev cX11_say : ByteArray := prog_13_method_32_code
def yX11_say : MethodName := ⟨RX11, "say", "(I)V"⟩
abbrev cX11_unit : ByteArray := prog_13_method_33_code
def yX11_unit : MethodName := ⟨RX11, "unit", "()V"⟩
abbrev cX11_part : ByteArray := prog_13_method_34_code
def yX11_part : MethodName := ⟨RX11, "part", "()V"⟩
abbrev cX11_tests : ByteArray := prog_13_method_35_code
def yX11_tests : MethodName := ⟨RX11, "tests", "()V"⟩
abbrev cX11_fault : ByteArray := prog_13_method_36_code
def yX11_fault : MethodName := ⟨RX11, "fault", "()I"⟩
abbrev cX11_rule : ByteArray := prog_13_method_37_code
def yX11_rule : MethodName := ⟨RX11, "rule", "()I"⟩
abbrev cX11_holds : ByteArray := prog_13_method_38_code
def yX11_holds : MethodName := ⟨RX11, "holds", "(III)Z"⟩
abbrev cX11_placeOf : ByteArray := prog_13_method_39_code
def yX11_placeOf : MethodName := ⟨RX11, "placeOf", "(I)I"⟩
abbrev cX11_ask : ByteArray := prog_13_method_40_code
def yX11_ask : MethodName := ⟨RX11, "ask", "(I)I"⟩
abbrev cX11_skip : ByteArray := prog_13_method_41_code
def yX11_skip : MethodName := ⟨RX11, "skip", "()I"⟩
abbrev cX11_why : ByteArray := prog_13_method_42_code
def yX11_why : MethodName := ⟨RX11, "why", "(III)I"⟩
abbrev cX11_seal : ByteArray := prog_13_method_43_code
def yX11_seal : MethodName := ⟨RX11, "seal", "(III)I"⟩
abbrev cX11_stands : ByteArray := prog_13_method_44_code
def yX11_stands : MethodName := ⟨RX11, "stands", "(I)Z"⟩
abbrev cX11_uses : ByteArray := prog_13_method_45_code
def yX11_uses : MethodName := ⟨RX11, "uses", "(II)I"⟩
abbrev cX11_finish : ByteArray := prog_13_method_46_code
def yX11_finish : MethodName := ⟨RX11, "finish", "(I)Z"⟩
abbrev cX11_lose : ByteArray := prog_13_method_47_code
def yX11_lose : MethodName := ⟨RX11, "lose", "(II)I"⟩
abbrev cX11_calledMany : ByteArray := prog_13_method_48_code
def yX11_calledMany : MethodName := ⟨RX11, "calledMany", "()I"⟩
abbrev cX11_recall : ByteArray := prog_13_method_49_code
def yX11_recall : MethodName := ⟨RX11, "recall", "(III)I"⟩
abbrev cX11_file : ByteArray := prog_13_method_50_code
def yX11_file : MethodName := ⟨RX11, "file", "(II)I"⟩
abbrev cX11_hash : ByteArray := prog_13_method_51_code
def yX11_hash : MethodName := ⟨RX11, "hash", "(I)J"⟩
abbrev cX11_sealed : ByteArray := prog_13_method_52_code
def yX11_sealed : MethodName := ⟨RX11, "sealed", "(II)I"⟩
abbrev cX11_note : ByteArray := prog_13_method_53_code
def yX11_note : MethodName := ⟨RX11, "note", "(II)I"⟩
abbrev cX11_canHold : ByteArray := prog_13_method_54_code
def yX11_canHold : MethodName := ⟨RX11, "canHold", "(II)Z"⟩
abbrev cX11_judged : ByteArray := prog_13_method_55_code
def yX11_judged : MethodName := ⟨RX11, "judged", "()I"⟩
abbrev cX11_least : ByteArray := prog_13_method_56_code
def yX11_least : MethodName := ⟨RX11, "least", "()I"⟩
abbrev cX11_makers : ByteArray := prog_13_method_57_code
def yX11_makers : MethodName := ⟨RX11, "makers", "()I"⟩
abbrev cX11_firstOf : ByteArray := prog_13_method_58_code
def yX11_firstOf : MethodName := ⟨RX11, "firstOf", "(I)I"⟩
abbrev cX11_proof : ByteArray := prog_13_method_59_code
def yX11_proof : MethodName := ⟨RX11, "proof", "(II)I"⟩
abbrev cX11_called : ByteArray := prog_13_method_60_code
def yX11_called : MethodName := ⟨RX11, "called", "(I)I"⟩
abbrev cX11_count : ByteArray := prog_13_method_61_code
def yX11_count : MethodName := ⟨RX11, "count", "(I)I"⟩
abbrev cX11_key : ByteArray := prog_13_method_62_code
def yX11_key : MethodName := ⟨RX11, "key", "(II)I"⟩
def RJx8e188 : String := "java/lang/Cloneable"
def TJx8e188 : u_T := fun k => match k with
  | _ => ("", "", "", false)
def tyJx8e188 : Nat → FieldType := fun k => match k with
  | _ => .int
abbrev wsJx8e1880 : List Cond := u_ws RJx8e188 TJx8e188 0
theorem nmJx8e188 : ∀ a, a < 0 → ∀ b, b < 0 → a ≠ b → (TJx8e188 a).2.1 ≠ (TJx8e188 b).2.1 := by decide +kernel
theorem tyJx8e188_ok : ∀ k, k < 0 → parseFieldDescriptor (TJx8e188 k).2.2.1 = some (tyJx8e188 k) := by decide +kernel
def RJ6 : String := "java/lang/Integer"
def TJ6 : u_T := fun k => match k with
  | _ => ("", "", "", false)
def tyJ6 : Nat → FieldType := fun k => match k with
  | _ => .int
abbrev wsJ60 : List Cond := u_ws RJ6 TJ6 0
theorem nmJ6 : ∀ a, a < 0 → ∀ b, b < 0 → a ≠ b → (TJ6 a).2.1 ≠ (TJ6 b).2.1 := by decide +kernel
theorem tyJ6_ok : ∀ k, k < 0 → parseFieldDescriptor (TJ6 k).2.2.1 = some (tyJ6 k) := by decide +kernel
abbrev cJ6_numberOfTrailingZeros_0f7a4 : ByteArray := prog_15_method_48_code
def yJ6_numberOfTrailingZeros_0f7a4 : MethodName := ⟨RJ6, "numberOfTrailingZeros", "(I)I"⟩
abbrev cJ6_bitCount_0f7a4 : ByteArray := prog_15_method_49_code
def yJ6_bitCount_0f7a4 : MethodName := ⟨RJ6, "bitCount", "(I)I"⟩
def RJ13 : String := "java/lang/Long"
def TJ13 : u_T := fun k => match k with
  | _ => ("", "", "", false)
def tyJ13 : Nat → FieldType := fun k => match k with
  | _ => .int
abbrev wsJ130 : List Cond := u_ws RJ13 TJ13 0
theorem nmJ13 : ∀ a, a < 0 → ∀ b, b < 0 → a ≠ b → (TJ13 a).2.1 ≠ (TJ13 b).2.1 := by decide +kernel
theorem tyJ13_ok : ∀ k, k < 0 → parseFieldDescriptor (TJ13 k).2.2.1 = some (tyJ13 k) := by decide +kernel
abbrev cJ13_bitCount_95d88 : ByteArray := prog_16_method_50_code
def yJ13_bitCount_95d88 : MethodName := ⟨RJ13, "bitCount", "(J)I"⟩
def RJ9 : String := "java/lang/Math"
def TJ9 : u_T := fun k => match k with
  | _ => ("", "", "", false)
def tyJ9 : Nat → FieldType := fun k => match k with
  | _ => .int
abbrev wsJ90 : List Cond := u_ws RJ9 TJ9 0
theorem nmJ9 : ∀ a, a < 0 → ∀ b, b < 0 → a ≠ b → (TJ9 a).2.1 ≠ (TJ9 b).2.1 := by decide +kernel
theorem tyJ9_ok : ∀ k, k < 0 → parseFieldDescriptor (TJ9 k).2.2.1 = some (tyJ9 k) := by decide +kernel
abbrev cJ9_max_7cf53 : ByteArray := prog_17_method_65_code
def yJ9_max_7cf53 : MethodName := ⟨RJ9, "max", "(II)I"⟩
abbrev cJ9_min_7cf53 : ByteArray := prog_17_method_69_code
def yJ9_min_7cf53 : MethodName := ⟨RJ9, "min", "(II)I"⟩
def RJ10 : String := "java/lang/System"
def TJ10 : u_T := fun k => match k with
  | _ => ("", "", "", false)
def tyJ10 : Nat → FieldType := fun k => match k with
  | _ => .int
abbrev wsJ100 : List Cond := u_ws RJ10 TJ10 0
theorem nmJ10 : ∀ a, a < 0 → ∀ b, b < 0 → a ≠ b → (TJ10 a).2.1 ≠ (TJ10 b).2.1 := by decide +kernel
theorem tyJ10_ok : ∀ k, k < 0 → parseFieldDescriptor (TJ10 k).2.2.1 = some (tyJ10 k) := by decide +kernel
def RJ7 : String := "java/util/Arrays"
def TJ7 : u_T := fun k => match k with
  | _ => ("", "", "", false)
def tyJ7 : Nat → FieldType := fun k => match k with
  | _ => .int
abbrev wsJ70 : List Cond := u_ws RJ7 TJ7 0
theorem nmJ7 : ∀ a, a < 0 → ∀ b, b < 0 → a ≠ b → (TJ7 a).2.1 ≠ (TJ7 b).2.1 := by decide +kernel
theorem tyJ7_ok : ∀ k, k < 0 → parseFieldDescriptor (TJ7 k).2.2.1 = some (tyJ7 k) := by decide +kernel
abbrev cJ7_fill_53178 : ByteArray := prog_19_method_103_code
def yJ7_fill_53178 : MethodName := ⟨RJ7, "fill", "([II)V"⟩
abbrev cJ7_copyOf_59c91 : ByteArray := prog_19_method_123_code
def yJ7_copyOf_59c91 : MethodName := ⟨RJ7, "copyOf", "([II)[I"⟩
def RL : String := "SealLineLaw"
abbrev cL_law : ByteArray := code
def yL_law : MethodName := ⟨RL, "law", "([I)Z"⟩
abbrev vwCl : List vw_C := [(RX0, TX0, 2), (RX1, TX1, 3), (RX2, TX2, 4), (RX3, TX3, 4), (RX4, TX4, 2), (RX5, TX5, 4), (RX6, TX6, 3), (RX7, TX7, 8), (RX8, TX8, 4), (RX9, TX9, 8), (RX10, TX10, 11), (RX11, TX11, 39)]
theorem inX0 : ∀ w ∈ u_ws RX0 TX0 2, w ∈ lw_tbl := by decide +kernel
theorem inX1 : ∀ w ∈ u_ws RX1 TX1 3, w ∈ lw_tbl := by decide +kernel
theorem inX2 : ∀ w ∈ u_ws RX2 TX2 4, w ∈ lw_tbl := by decide +kernel
theorem inX3 : ∀ w ∈ u_ws RX3 TX3 4, w ∈ lw_tbl := by decide +kernel
theorem inX4 : ∀ w ∈ u_ws RX4 TX4 2, w ∈ lw_tbl := by decide +kernel
theorem inX5 : ∀ w ∈ u_ws RX5 TX5 4, w ∈ lw_tbl := by decide +kernel
theorem inX6 : ∀ w ∈ u_ws RX6 TX6 3, w ∈ lw_tbl := by decide +kernel
theorem inX7 : ∀ w ∈ u_ws RX7 TX7 8, w ∈ lw_tbl := by decide +kernel
theorem inX8 : ∀ w ∈ u_ws RX8 TX8 4, w ∈ lw_tbl := by decide +kernel
theorem inX9 : ∀ w ∈ u_ws RX9 TX9 8, w ∈ lw_tbl := by decide +kernel
theorem inX10 : ∀ w ∈ u_ws RX10 TX10 11, w ∈ lw_tbl := by decide +kernel
theorem inX11 : ∀ w ∈ u_ws RX11 TX11 39, w ∈ lw_tbl := by decide +kernel
end
section
abbrev qW : Type := Nat × (Nat → Option va_E)
abbrev qL : Type := List (Option Value)
abbrev qM : Type := MethodName × ByteArray × Nat × Option FieldType
abbrev qZ : Type := Nat × Nat
/-- a place as an address; the script's reference is the one of z -/
def qv (z : qZ) (v : Value) : Value := match v with
  | .ref p => .ref (z.1 + p)
  | .retAddr _ => .ref z.2
  | v => v
def qe (cA : Nat → ClassId) (z : qZ) (e : va_E) : va_E := match e with
  | .inl (t, n, .inr (.inr (.inr (.inr f)))) => .inl (cA t, n, .inr (.inr (.inr (.inr (fun j => (f j).map (z.1 + ·))))))
  | .inl (t, x) => .inl (cA t, x)
  | .inr (ci, fs) => .inr (ci, fs.map (qv z))
def qT (cA : Nat → ClassId) : List (ClassId × FieldType) := [(cA 0, .int), (cA 1, .boolean), (cA 2, .long), (cA 3, .object "SealLine$FileSet")]
/-- the heap holds the world w, and ends with it -/
def qH (D : va_G) (cA : Nat → ClassId) (z : qZ) (w : qW) (H : Heap) : Prop := H.size = z.1 + w.1 ∧ ∀ p c, w.2 p = some c → va_at D vwCl (z.1 + p, qe cA z c) H
def qg : List Cond := lw_tbl.filter goodWord
theorem qg_mem {w : Cond} (h : w ∈ lw_tbl) (hg : goodWord w = true) : w ∈ qg := List.mem_filter.mpr ⟨h, hg⟩
theorem qg_good : GoodIn qg qg := fun w h => ⟨h, good_of_word (List.mem_filter.mp h).2⟩
def qnest : List (String × Nat × MethodName × String) := lw_tbl.filterMap (fun w => match w with | .methodLinkNest a i y h => some (a, i, y, h) | _ => none)
def qNx (U : State) : Prop := (∀ q ∈ qnest, va_Nw (.methodLinkNest q.1 q.2.1 q.2.2.1 q.2.2.2) U) ∧ va_AO "SealLine$FileSet" U
def qSc (sc : Option (Nat × (Nat → Int32))) (z : qZ) (s : State) : Prop := match sc with
  | none => True
  | some (n, xs) => va_X z.2 n xs s s.heap ∧ z.2 < s.heap.size ∧ z.2 < z.1
abbrev qG : Type := qM × Nat × Nat × Nat × Option (Nat × (Nat → Int32)) × (Option Value → qW → Prop)
def qA (z : qZ) : Nat → Prop := fun q => z.1 ≤ q
def qX (g : qG) (p : Program) (R : Room) (s : State) (m : MethodId) (args : Array Value) (meth : Method) (c : Code) (D : va_G) (cA : Nat → ClassId) (z : qZ) : Prop :=
  p.tables.exec = Jvm.exec ∧ c.code = g.1.2.1 ∧ c.maxLocals = g.1.2.2.1 ∧ s.vm.findClass g.1.1.cls = some m.cls ∧ (∀ w ∈ qg, w.before args s = true) ∧ va_K D vwCl (qT cA) s ∧ qNx s ∧ meth.sig.returnType = g.1.2.2.2 ∧ meth.locks = false ∧ meth.name = g.1.1.name ∧ z.1 ≤ s.heap.size ∧ (g.2.1 ≤ R.frames ∧ g.2.2.1 ≤ R.cells ∧ g.2.2.2.1 ≤ R.slots ∧ 50 * g.2.1 ≤ R.locals) ∧ qSc g.2.2.2.2.1 z s
def qQ (D : va_G) (cA : Nat → ClassId) (z : qZ) (Q : Option Value → qW → Prop) : Array Value → State → Outcome → State → Prop := fun _ st oc t => (∃ (r : Option Value) (w : qW), oc = .returned (r.map (qv z)) ∧ Q r w ∧ qH D cA z w t.heap) ∧ va_F (qA z) st t
def qP (z : qZ) (L : qL) : List (Nat × Value) := (List.range L.length).filterMap (fun i => match L[i]? with | some (some v) => some (i, qv z v) | _ => none)
theorem qP_mem {z : qZ} {L : qL} {q : Nat × Value} : q ∈ qP z L ↔ ∃ v, L[q.1]? = some (some v) ∧ q.2 = qv z v := by
  unfold qP
  rw [List.mem_filterMap]
  constructor
  · rintro ⟨i, -, hi⟩
    split at hi
    · rename_i v hv
      cases hi
      exact ⟨v, hv, rfl⟩
    · cases hi
  · rintro ⟨v, hv, e⟩
    have hl : q.1 < L.length := (List.getElem?_eq_some_iff.mp hv).1
    refine ⟨q.1, List.mem_range.mpr hl, ?_⟩
    rw [hv]
    obtain ⟨a, b⟩ := q
    simp only at e
    rw [e]
def qR (z : qZ) (ls : Array Slot) (nL : Nat) (L : qL) : Prop := lv_has ls nL (qP z L)
theorem qR.at {z : qZ} {ls : Array Slot} {nL : Nat} {L : qL} (h : qR z ls nL L) {i : Nat} {v : Value} (hv : L[i]? = some (some v)) : ls[i]? = some (.val (qv z v)) := h.2.2 (i, qv z v) (qP_mem.mpr ⟨v, hv, rfl⟩)
theorem qR.sub {z : qZ} {ls : Array Slot} {nL : Nat} {L : qL} {l : List (Nat × Value)} (h : lv_has ls nL l) (hs : ∀ i v, L[i]? = some (some v) → (i, qv z v) ∈ l) : qR z ls nL L := ⟨h.1, h.2.1, fun q hq => by
  obtain ⟨v, hv, e⟩ := qP_mem.mp hq
  obtain ⟨a, b⟩ := q
  simp only at e hv
  rw [e]
  exact h.2.2 _ (hs a v hv)⟩
abbrev qK : Type := qL → List Value → qW → Nat → Nat → Prop
/-- from here (pc, locals, stack, world; cells and slots made) the method comes to its end with its post -/
def AW (g : qG) (pc : Nat) : qK := fun L st w kc ks =>
  ∀ (p : Program) (l : Launch) (e : Env) (R : Room) (s : State) (m : MethodId) (args : Array Value) (below : List Frame) (meth : Method) (c : Code) (D : va_G) (cA : Nat → ClassId) (z : qZ) (H : Heap) (locs : List Loc) (ls : Array Slot),
    qX g p R s m args meth c D cA z → qH D cA z w H → va_S (qA z) s.heap H locs → qR z ls g.1.2.2.1 L →
    W p l e R s m args below meth c H locs kc ks (MQ below (qQ D cA z g.2.2.2.2.2) args s g.2.2.1 g.2.2.2.1 (qA z)) (F0 m pc ls (st.map (qv z)))
def qImp (K K' : qK) : Prop := ∀ L st w kc ks, K L st w kc ks → K' L st w kc ks
theorem qImp.rf {K : qK} : qImp K K := fun _ _ _ _ _ h => h
def qbr (c A B : Prop) : Prop := (c → A) ∧ (¬ c → B)
theorem qbr_i {c A B : Prop} (a : c → A) (b : ¬ c → B) : qbr c A B := ⟨a, b⟩
theorem qbr_t {c A B : Prop} (h : c) (a : A) : qbr c A B := ⟨fun _ => a, fun n => absurd h n⟩
theorem qbr_f {c A B : Prop} (h : ¬ c) (b : B) : qbr c A B := ⟨fun n => absurd n h, fun _ => b⟩
/-! the world's reads and writes -/
def qgF (w : qW) (p ci k : Nat) : Option Value := match w.2 p with
  | some (.inr (c, fs)) => if c = ci then fs[k]? else none
  | _ => none
def qsF (w : qW) (p k : Nat) (v : Value) : qW := (w.1, fun q => if q = p then (match w.2 p with | some (.inr (c, fs)) => some (.inr (c, fs.set k v)) | x => x) else w.2 q)
def qgI (w : qW) (p t : Nat) : Option (Nat × (Nat → Int32)) := match w.2 p with
  | some (.inl (t', n, .inl f)) => if t' = t then some (n, f) else none
  | _ => none
def qsI (w : qW) (p : Nat) (f : Nat → Int32) : qW := (w.1, fun q => if q = p then (match w.2 p with | some (.inl (t, n, .inl _)) => some (.inl (t, n, .inl f)) | x => x) else w.2 q)
def qgL (w : qW) (p : Nat) : Option (Nat × (Nat → Int64)) := match w.2 p with
  | some (.inl (t', n, .inr (.inl f))) => if t' = 2 then some (n, f) else none
  | _ => none
def qsL (w : qW) (p : Nat) (f : Nat → Int64) : qW := (w.1, fun q => if q = p then (match w.2 p with | some (.inl (t, n, .inr (.inl _))) => some (.inl (t, n, .inr (.inl f))) | x => x) else w.2 q)
def qgR (w : qW) (p : Nat) : Option (Nat × (Nat → Option Nat)) := match w.2 p with
  | some (.inl (t', n, .inr (.inr (.inr (.inr f))))) => if t' = 3 then some (n, f) else none
  | _ => none
def qsR (w : qW) (p : Nat) (f : Nat → Option Nat) : qW := (w.1, fun q => if q = p then (match w.2 p with | some (.inl (t, n, .inr (.inr (.inr (.inr _))))) => some (.inl (t, n, .inr (.inr (.inr (.inr f))))) | x => x) else w.2 q)
def qpu (w : qW) (c : va_E) : qW := (w.1 + 1, fun q => if q = w.1 then some c else w.2 q)
theorem qgF_s {w : qW} {p ci k : Nat} {v : Value} (h : qgF w p ci k = some v) : ∃ fs, w.2 p = some (.inr (ci, fs)) ∧ fs[k]? = some v := by
  unfold qgF at h
  split at h
  · rename_i c fs hw
    by_cases hc : c = ci
    · rw [if_pos hc] at h
      exact ⟨fs, by rw [hw, hc], h⟩
    · rw [if_neg hc] at h
      cases h
  · cases h
theorem qgI_s {w : qW} {p t n : Nat} {f : Nat → Int32} (h : qgI w p t = some (n, f)) : w.2 p = some (.inl (t, n, .inl f)) := by
  unfold qgI at h
  split at h
  · rename_i t' n' f' hw
    by_cases hc : t' = t
    · rw [if_pos hc] at h
      cases h
      rw [hw, hc]
    · rw [if_neg hc] at h
      cases h
  · cases h
theorem qgL_s {w : qW} {p n : Nat} {f : Nat → Int64} (h : qgL w p = some (n, f)) : w.2 p = some (.inl (2, n, .inr (.inl f))) := by
  unfold qgL at h
  split at h
  · rename_i t' n' f' hw
    by_cases hc : t' = 2
    · rw [if_pos hc] at h
      cases h
      rw [hw, hc]
    · rw [if_neg hc] at h
      cases h
  · cases h
theorem qgR_s {w : qW} {p n : Nat} {f : Nat → Option Nat} (h : qgR w p = some (n, f)) : w.2 p = some (.inl (3, n, .inr (.inr (.inr (.inr f))))) := by
  unfold qgR at h
  split at h
  · rename_i t' n' f' hw
    by_cases hc : t' = 3
    · rw [if_pos hc] at h
      cases h
      rw [hw, hc]
    · rw [if_neg hc] at h
      cases h
  · cases h
/-- one cell anew: the heap holds the world with it -/
theorem qH.up {D : va_G} {cA : Nat → ClassId} {z : qZ} {w w' : qW} {H H1 : Heap} {p : Nat} {c' : va_E} (h : qH D cA z w H) (h1 : w'.1 = w.1) (hp : w'.2 p = some c') (hq : ∀ q, q ≠ p → w'.2 q = w.2 q)
    (hz : H1.size = H.size) (ha : va_at D vwCl (z.1 + p, qe cA z c') H1) (ho : ∀ q : Nat, q ≠ z.1 + p → H1[q]? = H[q]?) : qH D cA z w' H1 := by
  refine ⟨by rw [hz, h.1, h1], fun q c hc => ?_⟩
  by_cases e : q = p
  · subst e
    rw [hp] at hc
    cases hc
    exact ha
  · rw [hq q e] at hc
    exact (h.2 q c hc).kept (ho _ (by show z.1 + q ≠ z.1 + p; omega))
theorem qH.push {D : va_G} {cA : Nat → ClassId} {z : qZ} {w : qW} {H H1 : Heap} {c' : va_E} (h : qH D cA z w H) (hz : H1.size = H.size + 1) (ha : va_at D vwCl (z.1 + w.1, qe cA z c') H1) (ho : ∀ q : Nat, q < H.size → H1[q]? = H[q]?) : qH D cA z (qpu w c') H1 := by
  refine ⟨by rw [hz, h.1]; rfl, fun q c hc => ?_⟩
  by_cases e : q = w.1
  · subst e
    simp only [qpu, if_true] at hc
    cases hc
    exact ha
  · simp only [qpu, if_neg e] at hc
    exact (h.2 q c hc).kept (ho _ (h.2 q c hc).lt)
theorem qA_in {z : qZ} (p : Nat) : qA z (z.1 + p) := Nat.le_add_right _ _
end
section
def s_iconst (v : Int32) (K : qK) : qK := fun L st w kc ks => K L (.int v :: st) w kc ks
def s_lconst (v : Int64) (K : qK) : qK := fun L st w kc ks => K L (.long v :: st) w kc ks
theorem r_iconst {g : qG} {pc : Nat} {K : qK} {n : Int} {v : Int32} (hd : decode g.1.2.1 pc = .ok (.iconst n, 1)) (hv : Int32.ofInt n = v) (h : qImp K (AW g (pc + 1))) : qImp (s_iconst v K) (AW g pc) := by
  intro L st w kc ks hK p l e R s m args below meth c D cA z H locs ls X hH hS hL
  exact lv_iconst X.1 X.2.1 hd hv (h L _ w kc ks hK p l e R s m args below meth c D cA z H locs ls X hH hS hL)
theorem r_bipush {g : qG} {pc : Nat} {K : qK} {n : Int} {v : Int32} (hd : decode g.1.2.1 pc = .ok (.bipush n, 2)) (hv : (Int8.ofInt n).toInt32 = v) (h : qImp K (AW g (pc + 2))) : qImp (s_iconst v K) (AW g pc) := by
  intro L st w kc ks hK p l e R s m args below meth c D cA z H locs ls X hH hS hL
  exact lv_bipush X.1 X.2.1 hd hv (h L _ w kc ks hK p l e R s m args below meth c D cA z H locs ls X hH hS hL)
theorem r_sipush {g : qG} {pc : Nat} {K : qK} {n : Int} {v : Int32} (hd : decode g.1.2.1 pc = .ok (.sipush n, 3)) (hv : (Int16.ofInt n).toInt32 = v) (h : qImp K (AW g (pc + 3))) : qImp (s_iconst v K) (AW g pc) := by
  intro L st w kc ks hK p l e R s m args below meth c D cA z H locs ls X hH hS hL
  exact lv_sipush X.1 X.2.1 hd hv (h L _ w kc ks hK p l e R s m args below meth c D cA z H locs ls X hH hS hL)
theorem r_lconst {g : qG} {pc : Nat} {K : qK} {n : Fin 2} {v : Int64} (hd : decode g.1.2.1 pc = .ok (.lconst n, 1)) (hv : Int64.ofNat (n : Nat) = v) (h : qImp K (AW g (pc + 1))) : qImp (s_lconst v K) (AW g pc) := by
  intro L st w kc ks hK p l e R s m args below meth c D cA z H locs ls X hH hS hL
  exact lv_lconst X.1 X.2.1 hd hv (h L _ w kc ks hK p l e R s m args below meth c D cA z H locs ls X hH hS hL)
theorem r_ldc {g : qG} {pc : Nat} {K : qK} {i : Nat} {v : Int32} (hd : decode g.1.2.1 pc = .ok (.ldc i, 2)) (hc : Cond.constant g.1.1.cls i v ∈ qg) (h : qImp K (AW g (pc + 2))) : qImp (s_iconst v K) (AW g pc) := by
  intro L st w kc ks hK p l e R s m args below meth c D cA z H locs ls X hH hS hL
  exact lv_ldc X.1 X.2.1 X.2.2.2.1 (X.2.2.2.2.1 _ hc) hd (h L _ w kc ks hK p l e R s m args below meth c D cA z H locs ls X hH hS hL)
theorem r_ldcw {g : qG} {pc : Nat} {K : qK} {i : Nat} {v : Int32} (hd : decode g.1.2.1 pc = .ok (.ldc_w i, 3)) (hc : Cond.constant g.1.1.cls i v ∈ qg) (h : qImp K (AW g (pc + 3))) : qImp (s_iconst v K) (AW g pc) := by
  intro L st w kc ks hK p l e R s m args below meth c D cA z H locs ls X hH hS hL
  exact lv_ldcw X.1 X.2.1 X.2.2.2.1 (X.2.2.2.2.1 _ hc) hd (h L _ w kc ks hK p l e R s m args below meth c D cA z H locs ls X hH hS hL)
theorem r_ldc2 {g : qG} {pc : Nat} {K : qK} {i : Nat} {v : Int64} (hd : decode g.1.2.1 pc = .ok (.ldc2_w i, 3)) (hc : Cond.constantLong g.1.1.cls i v ∈ qg) (h : qImp K (AW g (pc + 3))) : qImp (s_lconst v K) (AW g pc) := by
  intro L st w kc ks hK p l e R s m args below meth c D cA z H locs ls X hH hS hL
  exact lv_ldc2 X.1 X.2.1 X.2.2.2.1 (X.2.2.2.2.1 _ hc) hd (h L _ w kc ks hK p l e R s m args below meth c D cA z H locs ls X hH hS hL)
def s_iload (i : Nat) (K : qK) : qK := fun L st w kc ks => match L[i]? with
  | some (some (.int x)) => K L (.int x :: st) w kc ks
  | _ => False
theorem r_iload {g : qG} {pc : Nat} {K : qK} {i : Nat} (hd : decode g.1.2.1 pc = .ok (.iload i, 2)) (h : qImp K (AW g (pc + 2))) : qImp (s_iload i K) (AW g pc) := by
  intro L st w kc ks hK
  unfold s_iload at hK
  split at hK
  · rename_i x hx
    intro p l e R s m args below meth c D cA z H locs ls X hH hS hL
    exact lv_iload X.1 X.2.1 hd (hL.at hx) (h L _ w kc ks hK p l e R s m args below meth c D cA z H locs ls X hH hS hL)
  · exact hK.elim
theorem r_iload_n {g : qG} {pc : Nat} {K : qK} {k : Fin 4} {i : Nat} (hd : decode g.1.2.1 pc = .ok (.iload_n k, 1)) (hi : (k : Nat) = i) (h : qImp K (AW g (pc + 1))) : qImp (s_iload i K) (AW g pc) := by
  intro L st w kc ks hK
  unfold s_iload at hK
  split at hK
  · rename_i x hx
    intro p l e R s m args below meth c D cA z H locs ls X hH hS hL
    exact lv_iload_n X.1 X.2.1 hd hi (hL.at hx) (h L _ w kc ks hK p l e R s m args below meth c D cA z H locs ls X hH hS hL)
  · exact hK.elim
def s_lload (i : Nat) (K : qK) : qK := fun L st w kc ks => match L[i]? with
  | some (some (.long x)) => K L (.long x :: st) w kc ks
  | _ => False
theorem r_lload {g : qG} {pc : Nat} {K : qK} {i : Nat} (hd : decode g.1.2.1 pc = .ok (.lload i, 2)) (h : qImp K (AW g (pc + 2))) : qImp (s_lload i K) (AW g pc) := by
  intro L st w kc ks hK
  unfold s_lload at hK
  split at hK
  · rename_i x hx
    intro p l e R s m args below meth c D cA z H locs ls X hH hS hL
    exact lv_lload X.1 X.2.1 hd (hL.at hx) (h L _ w kc ks hK p l e R s m args below meth c D cA z H locs ls X hH hS hL)
  · exact hK.elim
theorem r_lload_n {g : qG} {pc : Nat} {K : qK} {k : Fin 4} {i : Nat} (hd : decode g.1.2.1 pc = .ok (.lload_n k, 1)) (hi : (k : Nat) = i) (h : qImp K (AW g (pc + 1))) : qImp (s_lload i K) (AW g pc) := by
  intro L st w kc ks hK
  unfold s_lload at hK
  split at hK
  · rename_i x hx
    intro p l e R s m args below meth c D cA z H locs ls X hH hS hL
    exact lv_lload_n X.1 X.2.1 hd hi (hL.at hx) (h L _ w kc ks hK p l e R s m args below meth c D cA z H locs ls X hH hS hL)
  · exact hK.elim
def s_aload (i : Nat) (K : qK) : qK := fun L st w kc ks => match L[i]? with
  | some (some (.ref x)) => K L (.ref x :: st) w kc ks
  | some (some (.retAddr x)) => K L (.retAddr x :: st) w kc ks
  | _ => False
theorem r_aload {g : qG} {pc : Nat} {K : qK} {i : Nat} (hd : decode g.1.2.1 pc = .ok (.aload i, 2)) (h : qImp K (AW g (pc + 2))) : qImp (s_aload i K) (AW g pc) := by
  intro L st w kc ks hK
  unfold s_aload at hK
  split at hK
  · rename_i x hx
    intro p l e R s m args below meth c D cA z H locs ls X hH hS hL
    exact lv_aload X.1 X.2.1 hd (hL.at hx) (h L _ w kc ks hK p l e R s m args below meth c D cA z H locs ls X hH hS hL)
  · rename_i x hx
    intro p l e R s m args below meth c D cA z H locs ls X hH hS hL
    exact lv_aload X.1 X.2.1 hd (hL.at hx) (h L _ w kc ks hK p l e R s m args below meth c D cA z H locs ls X hH hS hL)
  · exact hK.elim
theorem r_aload_n {g : qG} {pc : Nat} {K : qK} {k : Fin 4} {i : Nat} (hd : decode g.1.2.1 pc = .ok (.aload_n k, 1)) (hi : (k : Nat) = i) (h : qImp K (AW g (pc + 1))) : qImp (s_aload i K) (AW g pc) := by
  intro L st w kc ks hK
  unfold s_aload at hK
  split at hK
  · rename_i x hx
    intro p l e R s m args below meth c D cA z H locs ls X hH hS hL
    exact lv_aload_n X.1 X.2.1 hd hi (hL.at hx) (h L _ w kc ks hK p l e R s m args below meth c D cA z H locs ls X hH hS hL)
  · rename_i x hx
    intro p l e R s m args below meth c D cA z H locs ls X hH hS hL
    exact lv_aload_n X.1 X.2.1 hd hi (hL.at hx) (h L _ w kc ks hK p l e R s m args below meth c D cA z H locs ls X hH hS hL)
  · exact hK.elim
def qnl (L : qL) (i j : Nat) : Prop := ∀ v, j + 1 = i → L[j]? = some (some v) → v.category = 1
def qnb (L : qL) (j : Nat) : Bool := match L[j]? with
  | some (some (.long _)) => false
  | some (some (.double _)) => false
  | _ => true
theorem qv_cat (z : qZ) (v : Value) : (qv z v).category = v.category := by cases v <;> rfl
theorem qnb_s {L : qL} {j : Nat} (h : qnb L j = true) {v : Value} (hv : L[j]? = some (some v)) : v.category = 1 := by
  unfold qnb at h
  rw [hv] at h
  cases v <;> first | rfl | cases h
theorem qR.set1 {z : qZ} {ls' : Array Slot} {nL : Nat} {L : qL} {i j : Nat} {v : Value} (hj : i = 0 ∨ i = j + 1) (hn : qnb L j = true) (h : lv_has ls' nL ((i, qv z v) :: (qP z L).filter (fun q => !(q.1 == i) && !(q.1 + 1 == i && q.2.category == 2)))) : qR z ls' nL (L.set i (some v)) := by
  refine qR.sub h fun a u hu => ?_
  rw [List.getElem?_set] at hu
  by_cases e : i = a
  · subst e
    rw [if_pos rfl] at hu
    split at hu
    · cases hu
      exact List.mem_cons_self
    · cases hu
  · rw [if_neg e] at hu
    refine List.mem_cons_of_mem _ (List.mem_filter.mpr ⟨qP_mem.mpr ⟨u, hu, rfl⟩, ?_⟩)
    have h1 : (a == i) = false := by simpa using fun q => e q.symm
    have h2 : (a + 1 == i && (qv z u).category == 2) = false := by
      by_cases q : a + 1 = i
      · have : a = j := by omega
        subst this
        rw [qv_cat, qnb_s hn hu]
        simp
      · simp [q]
    simp only [h1, h2]
    rfl
theorem qR.set2 {z : qZ} {ls' : Array Slot} {nL : Nat} {L : qL} {i j : Nat} {v : Value} (hj : i = 0 ∨ i = j + 1) (hn : qnb L j = true) (h : lv_has ls' nL ((i, qv z v) :: (qP z L).filter (fun q => !(q.1 == i) && (!(q.1 == i + 1) && !(q.1 + 1 == i && q.2.category == 2))))) : qR z ls' nL ((L.set i (some v)).set (i + 1) none) := by
  refine qR.sub h fun a u hu => ?_
  rw [List.getElem?_set] at hu
  by_cases e1 : i + 1 = a
  · rw [if_pos e1] at hu
    split at hu <;> cases hu
  rw [if_neg e1, List.getElem?_set] at hu
  by_cases e : i = a
  · subst e
    rw [if_pos rfl] at hu
    split at hu
    · cases hu
      exact List.mem_cons_self
    · cases hu
  · rw [if_neg e] at hu
    refine List.mem_cons_of_mem _ (List.mem_filter.mpr ⟨qP_mem.mpr ⟨u, hu, rfl⟩, ?_⟩)
    have h1 : (a == i) = false := by simpa using fun q => e q.symm
    have h3 : (a == i + 1) = false := by simpa using fun q => e1 q.symm
    have h2 : (a + 1 == i && (qv z u).category == 2) = false := by
      by_cases q : a + 1 = i
      · have : a = j := by omega
        subst this
        rw [qv_cat, qnb_s hn hu]
        simp
      · simp [q]
    simp only [h1, h2, h3]
    rfl
def s_istore (i j : Nat) (K : qK) : qK := fun L st w kc ks => match st with
  | .int x :: st => qnb L j = true ∧ K (L.set i (some (.int x))) st w kc ks
  | _ => False
theorem r_istore {g : qG} {pc : Nat} {K : qK} {i j : Nat} (hd : decode g.1.2.1 pc = .ok (.istore i, 2)) (hj : i = 0 ∨ i = j + 1) (hn : i < g.1.2.2.1) (h : qImp K (AW g (pc + 2))) : qImp (s_istore i j K) (AW g pc) := by
  intro L st w kc ks hK
  unfold s_istore at hK
  split at hK
  · rename_i x st
    intro p l e R s m args below meth c D cA z H locs ls X hH hS hL
    exact lv_istore X.1 X.2.1 hd hL hn rfl (fun ls' hl' => h _ _ w kc ks hK.2 p l e R s m args below meth c D cA z H locs ls' X hH hS (qR.set1 hj hK.1 hl'))
  · exact hK.elim
theorem r_istore_n {g : qG} {pc : Nat} {K : qK} {k : Fin 4} {i j : Nat} (hd : decode g.1.2.1 pc = .ok (.istore_n k, 1)) (hi : (k : Nat) = i) (hj : i = 0 ∨ i = j + 1) (hn : i < g.1.2.2.1) (h : qImp K (AW g (pc + 1))) : qImp (s_istore i j K) (AW g pc) := by
  intro L st w kc ks hK
  unfold s_istore at hK
  split at hK
  · rename_i x st
    intro p l e R s m args below meth c D cA z H locs ls X hH hS hL
    exact lv_istore_n X.1 X.2.1 hd hi hL hn rfl (fun ls' hl' => h _ _ w kc ks hK.2 p l e R s m args below meth c D cA z H locs ls' X hH hS (qR.set1 hj hK.1 hl'))
  · exact hK.elim
def s_astore (i j : Nat) (K : qK) : qK := fun L st w kc ks => match st with
  | .ref x :: st => qnb L j = true ∧ K (L.set i (some (.ref x))) st w kc ks
  | _ => False
theorem r_astore {g : qG} {pc : Nat} {K : qK} {i j : Nat} (hd : decode g.1.2.1 pc = .ok (.astore i, 2)) (hj : i = 0 ∨ i = j + 1) (hn : i < g.1.2.2.1) (h : qImp K (AW g (pc + 2))) : qImp (s_astore i j K) (AW g pc) := by
  intro L st w kc ks hK
  unfold s_astore at hK
  split at hK
  · rename_i x st
    intro p l e R s m args below meth c D cA z H locs ls X hH hS hL
    exact lv_astore X.1 X.2.1 hd hL hn rfl (fun ls' hl' => h _ _ w kc ks hK.2 p l e R s m args below meth c D cA z H locs ls' X hH hS (qR.set1 hj hK.1 hl'))
  · exact hK.elim
theorem r_astore_n {g : qG} {pc : Nat} {K : qK} {k : Fin 4} {i j : Nat} (hd : decode g.1.2.1 pc = .ok (.astore_n k, 1)) (hi : (k : Nat) = i) (hj : i = 0 ∨ i = j + 1) (hn : i < g.1.2.2.1) (h : qImp K (AW g (pc + 1))) : qImp (s_astore i j K) (AW g pc) := by
  intro L st w kc ks hK
  unfold s_astore at hK
  split at hK
  · rename_i x st
    intro p l e R s m args below meth c D cA z H locs ls X hH hS hL
    exact lv_astore_n X.1 X.2.1 hd hi hL hn rfl (fun ls' hl' => h _ _ w kc ks hK.2 p l e R s m args below meth c D cA z H locs ls' X hH hS (qR.set1 hj hK.1 hl'))
  · exact hK.elim
def s_lstore (i j : Nat) (K : qK) : qK := fun L st w kc ks => match st with
  | .long x :: st => qnb L j = true ∧ K ((L.set i (some (.long x))).set (i + 1) none) st w kc ks
  | _ => False
theorem r_lstore {g : qG} {pc : Nat} {K : qK} {i j : Nat} (hd : decode g.1.2.1 pc = .ok (.lstore i, 2)) (hj : i = 0 ∨ i = j + 1) (hn : i + 1 < g.1.2.2.1) (h : qImp K (AW g (pc + 2))) : qImp (s_lstore i j K) (AW g pc) := by
  intro L st w kc ks hK
  unfold s_lstore at hK
  split at hK
  · rename_i x st
    intro p l e R s m args below meth c D cA z H locs ls X hH hS hL
    exact lv_lstore X.1 X.2.1 hd hL hn rfl (fun ls' hl' => h _ _ w kc ks hK.2 p l e R s m args below meth c D cA z H locs ls' X hH hS (qR.set2 hj hK.1 hl'))
  · exact hK.elim
theorem r_lstore_n {g : qG} {pc : Nat} {K : qK} {k : Fin 4} {i j : Nat} (hd : decode g.1.2.1 pc = .ok (.lstore_n k, 1)) (hi : (k : Nat) = i) (hj : i = 0 ∨ i = j + 1) (hn : i + 1 < g.1.2.2.1) (h : qImp K (AW g (pc + 1))) : qImp (s_lstore i j K) (AW g pc) := by
  intro L st w kc ks hK
  unfold s_lstore at hK
  split at hK
  · rename_i x st
    intro p l e R s m args below meth c D cA z H locs ls X hH hS hL
    exact lv_lstore_n X.1 X.2.1 hd hi hL hn rfl (fun ls' hl' => h _ _ w kc ks hK.2 p l e R s m args below meth c D cA z H locs ls' X hH hS (qR.set2 hj hK.1 hl'))
  · exact hK.elim
theorem qP_at {z : qZ} {L : qL} {i : Nat} {v : Value} (h : L[i]? = some (some v)) : ∃ k : Nat, (qP z L)[k]? = some (i, qv z v) := List.mem_iff_getElem?.mp (qP_mem.mpr ⟨v, h, rfl⟩)
def s_iinc (i j : Nat) (v : Int32) (K : qK) : qK := fun L st w kc ks => match L[i]? with
  | some (some (.int x)) => qnb L j = true ∧ K (L.set i (some (.int (x + v)))) st w kc ks
  | _ => False
theorem r_iinc {g : qG} {pc : Nat} {K : qK} {i j : Nat} {n : Int} {v : Int32} (hd : decode g.1.2.1 pc = .ok (.iinc i n, 3)) (hv : Int32.ofInt n = v) (hj : i = 0 ∨ i = j + 1) (hn : i < g.1.2.2.1) (h : qImp K (AW g (pc + 3))) : qImp (s_iinc i j v K) (AW g pc) := by
  intro L st w kc ks hK
  unfold s_iinc at hK
  split at hK
  · rename_i x hx
    intro p l e R s m args below meth c D cA z H locs ls X hH hS hL
    obtain ⟨k, hk⟩ := qP_at (z := z) hx
    exact lv_iinc (x := x) (v := x + v) X.1 X.2.1 hd hL hk (by rw [hv]) hn rfl (fun ls' hl' => h _ st w kc ks hK.2 p l e R s m args below meth c D cA z H locs ls' X hH hS (qR.set1 (v := .int (x + v)) hj hK.1 hl'))
  · exact hK.elim
def s_iadd (K : qK) : qK := fun L st w kc ks => match st with
  | .int y :: .int x :: st => K L (.int (x + y) :: st) w kc ks
  | _ => False
theorem r_iadd {g : qG} {pc : Nat} {K : qK}  (hd : decode g.1.2.1 pc = .ok (.iadd, 1)) (h : qImp K (AW g (pc + 1))) : qImp (s_iadd K) (AW g pc) := by
  intro L st w kc ks hK
  unfold s_iadd at hK
  split at hK
  · intro p l e R s m args below meth c D cA z H locs ls X hH hS hL
    exact lv_iadd X.1 X.2.1 hd (h L _ w kc ks hK p l e R s m args below meth c D cA z H locs ls X hH hS hL)
  · exact hK.elim
def s_isub (K : qK) : qK := fun L st w kc ks => match st with
  | .int y :: .int x :: st => K L (.int (x - y) :: st) w kc ks
  | _ => False
theorem r_isub {g : qG} {pc : Nat} {K : qK}  (hd : decode g.1.2.1 pc = .ok (.isub, 1)) (h : qImp K (AW g (pc + 1))) : qImp (s_isub K) (AW g pc) := by
  intro L st w kc ks hK
  unfold s_isub at hK
  split at hK
  · intro p l e R s m args below meth c D cA z H locs ls X hH hS hL
    exact lv_isub X.1 X.2.1 hd (h L _ w kc ks hK p l e R s m args below meth c D cA z H locs ls X hH hS hL)
  · exact hK.elim
def s_imul (K : qK) : qK := fun L st w kc ks => match st with
  | .int y :: .int x :: st => K L (.int (x * y) :: st) w kc ks
  | _ => False
theorem r_imul {g : qG} {pc : Nat} {K : qK}  (hd : decode g.1.2.1 pc = .ok (.imul, 1)) (h : qImp K (AW g (pc + 1))) : qImp (s_imul K) (AW g pc) := by
  intro L st w kc ks hK
  unfold s_imul at hK
  split at hK
  · intro p l e R s m args below meth c D cA z H locs ls X hH hS hL
    exact lv_imul X.1 X.2.1 hd (h L _ w kc ks hK p l e R s m args below meth c D cA z H locs ls X hH hS hL)
  · exact hK.elim
def s_iand (K : qK) : qK := fun L st w kc ks => match st with
  | .int y :: .int x :: st => K L (.int (x &&& y) :: st) w kc ks
  | _ => False
theorem r_iand {g : qG} {pc : Nat} {K : qK}  (hd : decode g.1.2.1 pc = .ok (.iand, 1)) (h : qImp K (AW g (pc + 1))) : qImp (s_iand K) (AW g pc) := by
  intro L st w kc ks hK
  unfold s_iand at hK
  split at hK
  · intro p l e R s m args below meth c D cA z H locs ls X hH hS hL
    exact lv_iand X.1 X.2.1 hd (h L _ w kc ks hK p l e R s m args below meth c D cA z H locs ls X hH hS hL)
  · exact hK.elim
def s_ior (K : qK) : qK := fun L st w kc ks => match st with
  | .int y :: .int x :: st => K L (.int (x ||| y) :: st) w kc ks
  | _ => False
theorem r_ior {g : qG} {pc : Nat} {K : qK}  (hd : decode g.1.2.1 pc = .ok (.ior, 1)) (h : qImp K (AW g (pc + 1))) : qImp (s_ior K) (AW g pc) := by
  intro L st w kc ks hK
  unfold s_ior at hK
  split at hK
  · intro p l e R s m args below meth c D cA z H locs ls X hH hS hL
    exact lv_ior X.1 X.2.1 hd (h L _ w kc ks hK p l e R s m args below meth c D cA z H locs ls X hH hS hL)
  · exact hK.elim
def s_ixor (K : qK) : qK := fun L st w kc ks => match st with
  | .int y :: .int x :: st => K L (.int (x ^^^ y) :: st) w kc ks
  | _ => False
theorem r_ixor {g : qG} {pc : Nat} {K : qK}  (hd : decode g.1.2.1 pc = .ok (.ixor, 1)) (h : qImp K (AW g (pc + 1))) : qImp (s_ixor K) (AW g pc) := by
  intro L st w kc ks hK
  unfold s_ixor at hK
  split at hK
  · intro p l e R s m args below meth c D cA z H locs ls X hH hS hL
    exact lv_ixor X.1 X.2.1 hd (h L _ w kc ks hK p l e R s m args below meth c D cA z H locs ls X hH hS hL)
  · exact hK.elim
def s_ishl (K : qK) : qK := fun L st w kc ks => match st with
  | .int y :: .int x :: st => K L (.int (x <<< (y &&& 31)) :: st) w kc ks
  | _ => False
theorem r_ishl {g : qG} {pc : Nat} {K : qK}  (hd : decode g.1.2.1 pc = .ok (.ishl, 1)) (h : qImp K (AW g (pc + 1))) : qImp (s_ishl K) (AW g pc) := by
  intro L st w kc ks hK
  unfold s_ishl at hK
  split at hK
  · intro p l e R s m args below meth c D cA z H locs ls X hH hS hL
    exact lv_ishl X.1 X.2.1 hd (h L _ w kc ks hK p l e R s m args below meth c D cA z H locs ls X hH hS hL)
  · exact hK.elim
def s_ishr (K : qK) : qK := fun L st w kc ks => match st with
  | .int y :: .int x :: st => K L (.int (x >>> (y &&& 31)) :: st) w kc ks
  | _ => False
theorem r_ishr {g : qG} {pc : Nat} {K : qK}  (hd : decode g.1.2.1 pc = .ok (.ishr, 1)) (h : qImp K (AW g (pc + 1))) : qImp (s_ishr K) (AW g pc) := by
  intro L st w kc ks hK
  unfold s_ishr at hK
  split at hK
  · intro p l e R s m args below meth c D cA z H locs ls X hH hS hL
    exact lv_ishr X.1 X.2.1 hd (h L _ w kc ks hK p l e R s m args below meth c D cA z H locs ls X hH hS hL)
  · exact hK.elim
def s_iushr (K : qK) : qK := fun L st w kc ks => match st with
  | .int y :: .int x :: st => K L (.int ((x.toUInt32 >>> (y.toUInt32 &&& Int32.toUInt32 31)).toInt32) :: st) w kc ks
  | _ => False
theorem r_iushr {g : qG} {pc : Nat} {K : qK}  (hd : decode g.1.2.1 pc = .ok (.iushr, 1)) (h : qImp K (AW g (pc + 1))) : qImp (s_iushr K) (AW g pc) := by
  intro L st w kc ks hK
  unfold s_iushr at hK
  split at hK
  · intro p l e R s m args below meth c D cA z H locs ls X hH hS hL
    exact lv_iushr X.1 X.2.1 hd rfl (h L _ w kc ks hK p l e R s m args below meth c D cA z H locs ls X hH hS hL)
  · exact hK.elim
def s_idiv (K : qK) : qK := fun L st w kc ks => match st with
  | .int y :: .int x :: st => ¬ y = 0 ∧ K L (.int (x / y) :: st) w kc ks
  | _ => False
theorem r_idiv {g : qG} {pc : Nat} {K : qK}  (hd : decode g.1.2.1 pc = .ok (.idiv, 1)) (h : qImp K (AW g (pc + 1))) : qImp (s_idiv K) (AW g pc) := by
  intro L st w kc ks hK
  unfold s_idiv at hK
  split at hK
  · intro p l e R s m args below meth c D cA z H locs ls X hH hS hL
    exact lv_idiv X.1 X.2.1 hd hK.1 (h L _ w kc ks hK.2 p l e R s m args below meth c D cA z H locs ls X hH hS hL)
  · exact hK.elim
def s_irem (K : qK) : qK := fun L st w kc ks => match st with
  | .int y :: .int x :: st => ¬ y = 0 ∧ K L (.int (x - x / y * y) :: st) w kc ks
  | _ => False
theorem r_irem {g : qG} {pc : Nat} {K : qK}  (hd : decode g.1.2.1 pc = .ok (.irem, 1)) (h : qImp K (AW g (pc + 1))) : qImp (s_irem K) (AW g pc) := by
  intro L st w kc ks hK
  unfold s_irem at hK
  split at hK
  · intro p l e R s m args below meth c D cA z H locs ls X hH hS hL
    exact lv_irem X.1 X.2.1 hd hK.1 (h L _ w kc ks hK.2 p l e R s m args below meth c D cA z H locs ls X hH hS hL)
  · exact hK.elim
def s_ladd (K : qK) : qK := fun L st w kc ks => match st with
  | .long y :: .long x :: st => K L (.long (x + y) :: st) w kc ks
  | _ => False
theorem r_ladd {g : qG} {pc : Nat} {K : qK}  (hd : decode g.1.2.1 pc = .ok (.ladd, 1)) (h : qImp K (AW g (pc + 1))) : qImp (s_ladd K) (AW g pc) := by
  intro L st w kc ks hK
  unfold s_ladd at hK
  split at hK
  · intro p l e R s m args below meth c D cA z H locs ls X hH hS hL
    exact lv_ladd X.1 X.2.1 hd (h L _ w kc ks hK p l e R s m args below meth c D cA z H locs ls X hH hS hL)
  · exact hK.elim
def s_lsub (K : qK) : qK := fun L st w kc ks => match st with
  | .long y :: .long x :: st => K L (.long (x - y) :: st) w kc ks
  | _ => False
theorem r_lsub {g : qG} {pc : Nat} {K : qK}  (hd : decode g.1.2.1 pc = .ok (.lsub, 1)) (h : qImp K (AW g (pc + 1))) : qImp (s_lsub K) (AW g pc) := by
  intro L st w kc ks hK
  unfold s_lsub at hK
  split at hK
  · intro p l e R s m args below meth c D cA z H locs ls X hH hS hL
    exact lv_lsub X.1 X.2.1 hd (h L _ w kc ks hK p l e R s m args below meth c D cA z H locs ls X hH hS hL)
  · exact hK.elim
def s_lmul (K : qK) : qK := fun L st w kc ks => match st with
  | .long y :: .long x :: st => K L (.long (x * y) :: st) w kc ks
  | _ => False
theorem r_lmul {g : qG} {pc : Nat} {K : qK}  (hd : decode g.1.2.1 pc = .ok (.lmul, 1)) (h : qImp K (AW g (pc + 1))) : qImp (s_lmul K) (AW g pc) := by
  intro L st w kc ks hK
  unfold s_lmul at hK
  split at hK
  · intro p l e R s m args below meth c D cA z H locs ls X hH hS hL
    exact lv_lmul X.1 X.2.1 hd (h L _ w kc ks hK p l e R s m args below meth c D cA z H locs ls X hH hS hL)
  · exact hK.elim
def s_land (K : qK) : qK := fun L st w kc ks => match st with
  | .long y :: .long x :: st => K L (.long (x &&& y) :: st) w kc ks
  | _ => False
theorem r_land {g : qG} {pc : Nat} {K : qK}  (hd : decode g.1.2.1 pc = .ok (.land, 1)) (h : qImp K (AW g (pc + 1))) : qImp (s_land K) (AW g pc) := by
  intro L st w kc ks hK
  unfold s_land at hK
  split at hK
  · intro p l e R s m args below meth c D cA z H locs ls X hH hS hL
    exact lv_land X.1 X.2.1 hd (h L _ w kc ks hK p l e R s m args below meth c D cA z H locs ls X hH hS hL)
  · exact hK.elim
def s_lor (K : qK) : qK := fun L st w kc ks => match st with
  | .long y :: .long x :: st => K L (.long (x ||| y) :: st) w kc ks
  | _ => False
theorem r_lor {g : qG} {pc : Nat} {K : qK}  (hd : decode g.1.2.1 pc = .ok (.lor, 1)) (h : qImp K (AW g (pc + 1))) : qImp (s_lor K) (AW g pc) := by
  intro L st w kc ks hK
  unfold s_lor at hK
  split at hK
  · intro p l e R s m args below meth c D cA z H locs ls X hH hS hL
    exact lv_lor X.1 X.2.1 hd (h L _ w kc ks hK p l e R s m args below meth c D cA z H locs ls X hH hS hL)
  · exact hK.elim
def s_lxor (K : qK) : qK := fun L st w kc ks => match st with
  | .long y :: .long x :: st => K L (.long (x ^^^ y) :: st) w kc ks
  | _ => False
theorem r_lxor {g : qG} {pc : Nat} {K : qK}  (hd : decode g.1.2.1 pc = .ok (.lxor, 1)) (h : qImp K (AW g (pc + 1))) : qImp (s_lxor K) (AW g pc) := by
  intro L st w kc ks hK
  unfold s_lxor at hK
  split at hK
  · intro p l e R s m args below meth c D cA z H locs ls X hH hS hL
    exact lv_lxor X.1 X.2.1 hd (h L _ w kc ks hK p l e R s m args below meth c D cA z H locs ls X hH hS hL)
  · exact hK.elim
def s_lshl (K : qK) : qK := fun L st w kc ks => match st with
  | .int y :: .long x :: st => K L (.long (x <<< (y.toInt64 &&& 63)) :: st) w kc ks
  | _ => False
theorem r_lshl {g : qG} {pc : Nat} {K : qK}  (hd : decode g.1.2.1 pc = .ok (.lshl, 1)) (h : qImp K (AW g (pc + 1))) : qImp (s_lshl K) (AW g pc) := by
  intro L st w kc ks hK
  unfold s_lshl at hK
  split at hK
  · intro p l e R s m args below meth c D cA z H locs ls X hH hS hL
    exact lv_lshl X.1 X.2.1 hd rfl (h L _ w kc ks hK p l e R s m args below meth c D cA z H locs ls X hH hS hL)
  · exact hK.elim
def s_lushr (K : qK) : qK := fun L st w kc ks => match st with
  | .int y :: .long x :: st => K L (.long ((x.toUInt64 >>> (y.toInt64.toUInt64 &&& Int64.toUInt64 63)).toInt64) :: st) w kc ks
  | _ => False
theorem r_lushr {g : qG} {pc : Nat} {K : qK}  (hd : decode g.1.2.1 pc = .ok (.lushr, 1)) (h : qImp K (AW g (pc + 1))) : qImp (s_lushr K) (AW g pc) := by
  intro L st w kc ks hK
  unfold s_lushr at hK
  split at hK
  · intro p l e R s m args below meth c D cA z H locs ls X hH hS hL
    exact lv_lushr X.1 X.2.1 hd rfl (h L _ w kc ks hK p l e R s m args below meth c D cA z H locs ls X hH hS hL)
  · exact hK.elim
def s_i2l (K : qK) : qK := fun L st w kc ks => match st with
  | .int x :: st => K L (.long x.toInt64 :: st) w kc ks
  | _ => False
theorem r_i2l {g : qG} {pc : Nat} {K : qK}  (hd : decode g.1.2.1 pc = .ok (.i2l, 1)) (h : qImp K (AW g (pc + 1))) : qImp (s_i2l K) (AW g pc) := by
  intro L st w kc ks hK
  unfold s_i2l at hK
  split at hK
  · intro p l e R s m args below meth c D cA z H locs ls X hH hS hL
    exact lv_i2l X.1 X.2.1 hd rfl (h L _ w kc ks hK p l e R s m args below meth c D cA z H locs ls X hH hS hL)
  · exact hK.elim
def s_l2i (K : qK) : qK := fun L st w kc ks => match st with
  | .long x :: st => K L (.int x.toInt32 :: st) w kc ks
  | _ => False
theorem r_l2i {g : qG} {pc : Nat} {K : qK}  (hd : decode g.1.2.1 pc = .ok (.l2i, 1)) (h : qImp K (AW g (pc + 1))) : qImp (s_l2i K) (AW g pc) := by
  intro L st w kc ks hK
  unfold s_l2i at hK
  split at hK
  · intro p l e R s m args below meth c D cA z H locs ls X hH hS hL
    exact lv_l2i X.1 X.2.1 hd rfl (h L _ w kc ks hK p l e R s m args below meth c D cA z H locs ls X hH hS hL)
  · exact hK.elim
def s_lcmp (K : qK) : qK := fun L st w kc ks => match st with
  | .long y :: .long x :: st => K L (.int (lg_cmp x y) :: st) w kc ks
  | _ => False
theorem r_lcmp {g : qG} {pc : Nat} {K : qK}  (hd : decode g.1.2.1 pc = .ok (.lcmp, 1)) (h : qImp K (AW g (pc + 1))) : qImp (s_lcmp K) (AW g pc) := by
  intro L st w kc ks hK
  unfold s_lcmp at hK
  split at hK
  · intro p l e R s m args below meth c D cA z H locs ls X hH hS hL
    exact W.lcmp X.1 X.2.1 hd (h L _ w kc ks hK p l e R s m args below meth c D cA z H locs ls X hH hS hL)
  · exact hK.elim
def s_dup (K : qK) : qK := fun L st w kc ks => match st with
  | .int x :: st => K L (.int x :: .int x :: st) w kc ks
  | .ref x :: st => K L (.ref x :: .ref x :: st) w kc ks
  | _ => False
theorem r_dup {g : qG} {pc : Nat} {K : qK}  (hd : decode g.1.2.1 pc = .ok (.dup, 1)) (h : qImp K (AW g (pc + 1))) : qImp (s_dup K) (AW g pc) := by
  intro L st w kc ks hK
  unfold s_dup at hK
  split at hK
  · intro p l e R s m args below meth c D cA z H locs ls X hH hS hL
    exact lv_dup X.1 X.2.1 hd rfl (h L _ w kc ks hK p l e R s m args below meth c D cA z H locs ls X hH hS hL)
  · intro p l e R s m args below meth c D cA z H locs ls X hH hS hL
    exact lv_dup X.1 X.2.1 hd rfl (h L _ w kc ks hK p l e R s m args below meth c D cA z H locs ls X hH hS hL)
  · exact hK.elim
def s_pop (K : qK) : qK := fun L st w kc ks => match st with
  | .int _ :: st => K L st w kc ks
  | _ => False
theorem r_pop {g : qG} {pc : Nat} {K : qK}  (hd : decode g.1.2.1 pc = .ok (.pop, 1)) (h : qImp K (AW g (pc + 1))) : qImp (s_pop K) (AW g pc) := by
  intro L st w kc ks hK
  unfold s_pop at hK
  split at hK
  · intro p l e R s m args below meth c D cA z H locs ls X hH hS hL
    exact lv_pop X.1 X.2.1 hd rfl (h L _ w kc ks hK p l e R s m args below meth c D cA z H locs ls X hH hS hL)
  · exact hK.elim
def s_dup2 (K : qK) : qK := fun L st w kc ks => match st with
  | .int x :: .ref y :: st => K L (.int x :: .ref y :: .int x :: .ref y :: st) w kc ks
  | _ => False
theorem r_dup2 {g : qG} {pc : Nat} {K : qK}  (hd : decode g.1.2.1 pc = .ok (.dup2, 1)) (h : qImp K (AW g (pc + 1))) : qImp (s_dup2 K) (AW g pc) := by
  intro L st w kc ks hK
  unfold s_dup2 at hK
  split at hK
  · intro p l e R s m args below meth c D cA z H locs ls X hH hS hL
    exact lv_dup2_11 X.1 X.2.1 hd rfl rfl (h L _ w kc ks hK p l e R s m args below meth c D cA z H locs ls X hH hS hL)
  · exact hK.elim
def s_if_eq (J : qK) (K : qK) : qK := fun L st w kc ks => match st with
  | .int x :: st => qbr (x = 0) (J L st w kc ks) (K L st w kc ks)
  | _ => False
theorem r_if_eq {g : qG} {pc tgt : Nat} {off : Int} {J K : qK} (hd : decode g.1.2.1 pc = .ok (.ifCond .eq off, 3)) (ht : (pc : Int) + off = (tgt : Int)) (hJ : qImp J (AW g tgt)) (h : qImp K (AW g (pc + 3))) : qImp (s_if_eq J K) (AW g pc) := by
  intro L st w kc ks hK
  unfold s_if_eq at hK
  split at hK
  · intro p l e R s m args below meth c D cA z H locs ls X hH hS hL
    exact lv_if_eq X.1 X.2.1 hd ht (fun q => hJ _ _ _ _ _ (hK.1 q) p l e R s m args below meth c D cA z H locs ls X hH hS hL) (fun q => h _ _ _ _ _ (hK.2 q) p l e R s m args below meth c D cA z H locs ls X hH hS hL)
  · exact hK.elim
def s_ic_eq (J : qK) (K : qK) : qK := fun L st w kc ks => match st with
  | .int y :: .int x :: st => qbr (x = y) (J L st w kc ks) (K L st w kc ks)
  | _ => False
theorem r_ic_eq {g : qG} {pc tgt : Nat} {off : Int} {J K : qK} (hd : decode g.1.2.1 pc = .ok (.if_icmp .eq off, 3)) (ht : (pc : Int) + off = (tgt : Int)) (hJ : qImp J (AW g tgt)) (h : qImp K (AW g (pc + 3))) : qImp (s_ic_eq J K) (AW g pc) := by
  intro L st w kc ks hK
  unfold s_ic_eq at hK
  split at hK
  · intro p l e R s m args below meth c D cA z H locs ls X hH hS hL
    exact lv_icmp_eq X.1 X.2.1 hd ht (fun q => hJ _ _ _ _ _ (hK.1 q) p l e R s m args below meth c D cA z H locs ls X hH hS hL) (fun q => h _ _ _ _ _ (hK.2 q) p l e R s m args below meth c D cA z H locs ls X hH hS hL)
  · exact hK.elim
def s_if_ne (J : qK) (K : qK) : qK := fun L st w kc ks => match st with
  | .int x :: st => qbr (x = 0) (K L st w kc ks) (J L st w kc ks)
  | _ => False
theorem r_if_ne {g : qG} {pc tgt : Nat} {off : Int} {J K : qK} (hd : decode g.1.2.1 pc = .ok (.ifCond .ne off, 3)) (ht : (pc : Int) + off = (tgt : Int)) (hJ : qImp J (AW g tgt)) (h : qImp K (AW g (pc + 3))) : qImp (s_if_ne J K) (AW g pc) := by
  intro L st w kc ks hK
  unfold s_if_ne at hK
  split at hK
  · intro p l e R s m args below meth c D cA z H locs ls X hH hS hL
    exact lv_if_ne X.1 X.2.1 hd ht (fun q => hJ _ _ _ _ _ (hK.2 q) p l e R s m args below meth c D cA z H locs ls X hH hS hL) (fun q => h _ _ _ _ _ (hK.1 q) p l e R s m args below meth c D cA z H locs ls X hH hS hL)
  · exact hK.elim
def s_ic_ne (J : qK) (K : qK) : qK := fun L st w kc ks => match st with
  | .int y :: .int x :: st => qbr (x = y) (K L st w kc ks) (J L st w kc ks)
  | _ => False
theorem r_ic_ne {g : qG} {pc tgt : Nat} {off : Int} {J K : qK} (hd : decode g.1.2.1 pc = .ok (.if_icmp .ne off, 3)) (ht : (pc : Int) + off = (tgt : Int)) (hJ : qImp J (AW g tgt)) (h : qImp K (AW g (pc + 3))) : qImp (s_ic_ne J K) (AW g pc) := by
  intro L st w kc ks hK
  unfold s_ic_ne at hK
  split at hK
  · intro p l e R s m args below meth c D cA z H locs ls X hH hS hL
    exact lv_icmp_ne X.1 X.2.1 hd ht (fun q => hJ _ _ _ _ _ (hK.2 q) p l e R s m args below meth c D cA z H locs ls X hH hS hL) (fun q => h _ _ _ _ _ (hK.1 q) p l e R s m args below meth c D cA z H locs ls X hH hS hL)
  · exact hK.elim
def s_if_lt (J : qK) (K : qK) : qK := fun L st w kc ks => match st with
  | .int x :: st => qbr (x < 0) (J L st w kc ks) (K L st w kc ks)
  | _ => False
theorem r_if_lt {g : qG} {pc tgt : Nat} {off : Int} {J K : qK} (hd : decode g.1.2.1 pc = .ok (.ifCond .lt off, 3)) (ht : (pc : Int) + off = (tgt : Int)) (hJ : qImp J (AW g tgt)) (h : qImp K (AW g (pc + 3))) : qImp (s_if_lt J K) (AW g pc) := by
  intro L st w kc ks hK
  unfold s_if_lt at hK
  split at hK
  · intro p l e R s m args below meth c D cA z H locs ls X hH hS hL
    exact lv_if_lt X.1 X.2.1 hd ht (fun q => hJ _ _ _ _ _ (hK.1 q) p l e R s m args below meth c D cA z H locs ls X hH hS hL) (fun q => h _ _ _ _ _ (hK.2 q) p l e R s m args below meth c D cA z H locs ls X hH hS hL)
  · exact hK.elim
def s_ic_lt (J : qK) (K : qK) : qK := fun L st w kc ks => match st with
  | .int y :: .int x :: st => qbr (x < y) (J L st w kc ks) (K L st w kc ks)
  | _ => False
theorem r_ic_lt {g : qG} {pc tgt : Nat} {off : Int} {J K : qK} (hd : decode g.1.2.1 pc = .ok (.if_icmp .lt off, 3)) (ht : (pc : Int) + off = (tgt : Int)) (hJ : qImp J (AW g tgt)) (h : qImp K (AW g (pc + 3))) : qImp (s_ic_lt J K) (AW g pc) := by
  intro L st w kc ks hK
  unfold s_ic_lt at hK
  split at hK
  · intro p l e R s m args below meth c D cA z H locs ls X hH hS hL
    exact lv_icmp_lt X.1 X.2.1 hd ht (fun q => hJ _ _ _ _ _ (hK.1 q) p l e R s m args below meth c D cA z H locs ls X hH hS hL) (fun q => h _ _ _ _ _ (hK.2 q) p l e R s m args below meth c D cA z H locs ls X hH hS hL)
  · exact hK.elim
def s_if_ge (J : qK) (K : qK) : qK := fun L st w kc ks => match st with
  | .int x :: st => qbr (0 ≤ x) (J L st w kc ks) (K L st w kc ks)
  | _ => False
theorem r_if_ge {g : qG} {pc tgt : Nat} {off : Int} {J K : qK} (hd : decode g.1.2.1 pc = .ok (.ifCond .ge off, 3)) (ht : (pc : Int) + off = (tgt : Int)) (hJ : qImp J (AW g tgt)) (h : qImp K (AW g (pc + 3))) : qImp (s_if_ge J K) (AW g pc) := by
  intro L st w kc ks hK
  unfold s_if_ge at hK
  split at hK
  · intro p l e R s m args below meth c D cA z H locs ls X hH hS hL
    exact lv_if_ge X.1 X.2.1 hd ht (fun q => hJ _ _ _ _ _ (hK.1 q) p l e R s m args below meth c D cA z H locs ls X hH hS hL) (fun q => h _ _ _ _ _ (hK.2 q) p l e R s m args below meth c D cA z H locs ls X hH hS hL)
  · exact hK.elim
def s_ic_ge (J : qK) (K : qK) : qK := fun L st w kc ks => match st with
  | .int y :: .int x :: st => qbr (y ≤ x) (J L st w kc ks) (K L st w kc ks)
  | _ => False
theorem r_ic_ge {g : qG} {pc tgt : Nat} {off : Int} {J K : qK} (hd : decode g.1.2.1 pc = .ok (.if_icmp .ge off, 3)) (ht : (pc : Int) + off = (tgt : Int)) (hJ : qImp J (AW g tgt)) (h : qImp K (AW g (pc + 3))) : qImp (s_ic_ge J K) (AW g pc) := by
  intro L st w kc ks hK
  unfold s_ic_ge at hK
  split at hK
  · intro p l e R s m args below meth c D cA z H locs ls X hH hS hL
    exact lv_icmp_ge X.1 X.2.1 hd ht (fun q => hJ _ _ _ _ _ (hK.1 q) p l e R s m args below meth c D cA z H locs ls X hH hS hL) (fun q => h _ _ _ _ _ (hK.2 q) p l e R s m args below meth c D cA z H locs ls X hH hS hL)
  · exact hK.elim
def s_if_gt (J : qK) (K : qK) : qK := fun L st w kc ks => match st with
  | .int x :: st => qbr (0 < x) (J L st w kc ks) (K L st w kc ks)
  | _ => False
theorem r_if_gt {g : qG} {pc tgt : Nat} {off : Int} {J K : qK} (hd : decode g.1.2.1 pc = .ok (.ifCond .gt off, 3)) (ht : (pc : Int) + off = (tgt : Int)) (hJ : qImp J (AW g tgt)) (h : qImp K (AW g (pc + 3))) : qImp (s_if_gt J K) (AW g pc) := by
  intro L st w kc ks hK
  unfold s_if_gt at hK
  split at hK
  · intro p l e R s m args below meth c D cA z H locs ls X hH hS hL
    exact lv_if_gt X.1 X.2.1 hd ht (fun q => hJ _ _ _ _ _ (hK.1 q) p l e R s m args below meth c D cA z H locs ls X hH hS hL) (fun q => h _ _ _ _ _ (hK.2 q) p l e R s m args below meth c D cA z H locs ls X hH hS hL)
  · exact hK.elim
def s_ic_gt (J : qK) (K : qK) : qK := fun L st w kc ks => match st with
  | .int y :: .int x :: st => qbr (y < x) (J L st w kc ks) (K L st w kc ks)
  | _ => False
theorem r_ic_gt {g : qG} {pc tgt : Nat} {off : Int} {J K : qK} (hd : decode g.1.2.1 pc = .ok (.if_icmp .gt off, 3)) (ht : (pc : Int) + off = (tgt : Int)) (hJ : qImp J (AW g tgt)) (h : qImp K (AW g (pc + 3))) : qImp (s_ic_gt J K) (AW g pc) := by
  intro L st w kc ks hK
  unfold s_ic_gt at hK
  split at hK
  · intro p l e R s m args below meth c D cA z H locs ls X hH hS hL
    exact lv_icmp_gt X.1 X.2.1 hd ht (fun q => hJ _ _ _ _ _ (hK.1 q) p l e R s m args below meth c D cA z H locs ls X hH hS hL) (fun q => h _ _ _ _ _ (hK.2 q) p l e R s m args below meth c D cA z H locs ls X hH hS hL)
  · exact hK.elim
def s_if_le (J : qK) (K : qK) : qK := fun L st w kc ks => match st with
  | .int x :: st => qbr (x ≤ 0) (J L st w kc ks) (K L st w kc ks)
  | _ => False
theorem r_if_le {g : qG} {pc tgt : Nat} {off : Int} {J K : qK} (hd : decode g.1.2.1 pc = .ok (.ifCond .le off, 3)) (ht : (pc : Int) + off = (tgt : Int)) (hJ : qImp J (AW g tgt)) (h : qImp K (AW g (pc + 3))) : qImp (s_if_le J K) (AW g pc) := by
  intro L st w kc ks hK
  unfold s_if_le at hK
  split at hK
  · intro p l e R s m args below meth c D cA z H locs ls X hH hS hL
    exact lv_if_le X.1 X.2.1 hd ht (fun q => hJ _ _ _ _ _ (hK.1 q) p l e R s m args below meth c D cA z H locs ls X hH hS hL) (fun q => h _ _ _ _ _ (hK.2 q) p l e R s m args below meth c D cA z H locs ls X hH hS hL)
  · exact hK.elim
def s_ic_le (J : qK) (K : qK) : qK := fun L st w kc ks => match st with
  | .int y :: .int x :: st => qbr (x ≤ y) (J L st w kc ks) (K L st w kc ks)
  | _ => False
theorem r_ic_le {g : qG} {pc tgt : Nat} {off : Int} {J K : qK} (hd : decode g.1.2.1 pc = .ok (.if_icmp .le off, 3)) (ht : (pc : Int) + off = (tgt : Int)) (hJ : qImp J (AW g tgt)) (h : qImp K (AW g (pc + 3))) : qImp (s_ic_le J K) (AW g pc) := by
  intro L st w kc ks hK
  unfold s_ic_le at hK
  split at hK
  · intro p l e R s m args below meth c D cA z H locs ls X hH hS hL
    exact lv_icmp_le X.1 X.2.1 hd ht (fun q => hJ _ _ _ _ _ (hK.1 q) p l e R s m args below meth c D cA z H locs ls X hH hS hL) (fun q => h _ _ _ _ _ (hK.2 q) p l e R s m args below meth c D cA z H locs ls X hH hS hL)
  · exact hK.elim
theorem r_goto {g : qG} {pc tgt : Nat} {off : Int} {J : qK} (hd : decode g.1.2.1 pc = .ok (.goto off, 3)) (ht : (pc : Int) + off = (tgt : Int)) (hJ : qImp J (AW g tgt)) : qImp J (AW g pc) := by
  intro L st w kc ks hK p l e R s m args below meth c D cA z H locs ls X hH hS hL
  exact lv_goto X.1 X.2.1 hd ht (hJ _ _ _ _ _ hK p l e R s m args below meth c D cA z H locs ls X hH hS hL)
end
section
/-- a field of a class of the world, as an instruction names it -/
def qF (own : String) (idx ci k : Nat) : Prop := ∃ (C : String) (T : u_T) (N : Nat), vwCl[ci]? = some (C, T, N) ∧ k < N ∧ (∀ w ∈ u_ws C T N, w ∈ qg) ∧ Cond.fieldLink own idx (T k).1 (T k).2.1 (T k).2.2.1 ∈ qg
def qFp (own : String) (idx ci k : Nat) (ty : FieldType) : Prop := ∃ (C : String) (T : u_T) (N : Nat) (ty0 : Nat → FieldType), vwCl[ci]? = some (C, T, N) ∧ k < N ∧ (∀ w ∈ u_ws C T N, w ∈ qg) ∧ Cond.fieldLink own idx (T k).1 (T k).2.1 (T k).2.2.1 ∈ qg ∧ (∀ k, k < N → parseFieldDescriptor (T k).2.2.1 = some (ty0 k)) ∧ (∀ a, a < N → ∀ b, b < N → a ≠ b → (T a).2.1 ≠ (T b).2.1) ∧ ty0 k = ty
theorem qH.obj {D : va_G} {cA : Nat → ClassId} {z : qZ} {w : qW} {H : Heap} (h : qH D cA z w H) {p ci : Nat} {fs : List Value} (hp : w.2 p = some (.inr (ci, fs))) : va_P D vwCl [(z.1 + p, .inr (ci, fs.map (qv z)))] H := by
  intro k q hq
  match k, hq with
  | 0, hq => cases hq; exact h.2 p _ hp
  | k + 1, hq => simp at hq
theorem qH.one {D : va_G} {cA : Nat → ClassId} {z : qZ} {w : qW} {H : Heap} (h : qH D cA z w H) {p : Nat} {c : va_E} (hp : w.2 p = some c) : va_P D vwCl [(z.1 + p, qe cA z c)] H := by
  intro k q hq
  match k, hq with
  | 0, hq => cases hq; exact h.2 p _ hp
  | k + 1, hq => simp at hq
def s_getfield (ci k : Nat) (K : qK) : qK := fun L st w kc ks => match st with
  | .ref p :: st => match qgF w p ci k with
    | some v => K L (v :: st) w kc ks
    | none => False
  | _ => False
theorem r_getfield {g : qG} {pc : Nat} {K : qK} {idx ci k : Nat} (hd : decode g.1.2.1 pc = .ok (.getfield idx, 3)) (hF : qF g.1.1.cls idx ci k) (h : qImp K (AW g (pc + 3))) : qImp (s_getfield ci k K) (AW g pc) := by
  intro L st w kc ks hK
  unfold s_getfield at hK
  split at hK
  · split at hK
    · rename_i v hv
      obtain ⟨fs, hw, hfs⟩ := qgF_s hv
      obtain ⟨C, T, N, hc, hk, hin, hlink⟩ := hF
      intro p l e R s m args below meth c D cA z H locs ls X hH hS hL
      exact va_get (D := D) (ci := ci) (v := qv z v) (C := C) (T := T) (N := N) X.1 X.2.1 X.2.2.2.2.1 hin X.2.2.2.1 X.2.2.2.2.2.1 (hH.obj hw) 0 rfl hc k hk (X.2.2.2.2.1 _ hlink) (fun _ h9 => h9) (by rw [List.getElem?_map, hfs]; rfl) hd (h _ _ _ _ _ hK p l e R s m args below meth c D cA z H locs ls X hH hS hL)
    · exact hK.elim
  · exact hK.elim
theorem qe_obj (cA : Nat → ClassId) (z : qZ) (ci : Nat) (fs : List Value) : qe cA z (.inr (ci, fs)) = .inr (ci, fs.map (qv z)) := rfl
theorem qe_ia (cA : Nat → ClassId) (z : qZ) (t n : Nat) (f : Nat → Int32) : qe cA z (.inl (t, n, .inl f)) = .inl (cA t, n, .inl f) := rfl
theorem qe_la (cA : Nat → ClassId) (z : qZ) (t n : Nat) (f : Nat → Int64) : qe cA z (.inl (t, n, .inr (.inl f))) = .inl (cA t, n, .inr (.inl f)) := rfl
theorem qe_ra (cA : Nat → ClassId) (z : qZ) (t n : Nat) (f : Nat → Option Nat) : qe cA z (.inl (t, n, .inr (.inr (.inr (.inr f))))) = .inl (cA t, n, .inr (.inr (.inr (.inr (fun j => (f j).map (z.1 + ·)))))) := rfl
theorem qsF_at {w : qW} {p k ci : Nat} {v : Value} {fs : List Value} (h : w.2 p = some (.inr (ci, fs))) : (qsF w p k v).2 p = some (.inr (ci, fs.set k v)) := by simp only [qsF, if_true, h]
theorem qsF_ne {w : qW} {p k q : Nat} {v : Value} (h : q ≠ p) : (qsF w p k v).2 q = w.2 q := by simp only [qsF, if_neg h]
theorem qsI_at {w : qW} {p t n : Nat} {f f' : Nat → Int32} (h : w.2 p = some (.inl (t, n, .inl f))) : (qsI w p f').2 p = some (.inl (t, n, .inl f')) := by simp only [qsI, if_true, h]
theorem qsI_ne {w : qW} {p q : Nat} {f : Nat → Int32} (h : q ≠ p) : (qsI w p f).2 q = w.2 q := by simp only [qsI, if_neg h]
theorem qsL_at {w : qW} {p t n : Nat} {f f' : Nat → Int64} (h : w.2 p = some (.inl (t, n, .inr (.inl f)))) : (qsL w p f').2 p = some (.inl (t, n, .inr (.inl f'))) := by simp only [qsL, if_true, h]
theorem qsL_ne {w : qW} {p q : Nat} {f : Nat → Int64} (h : q ≠ p) : (qsL w p f).2 q = w.2 q := by simp only [qsL, if_neg h]
theorem qsR_at {w : qW} {p t n : Nat} {f f' : Nat → Option Nat} (h : w.2 p = some (.inl (t, n, .inr (.inr (.inr (.inr f)))))) : (qsR w p f').2 p = some (.inl (t, n, .inr (.inr (.inr (.inr f'))))) := by simp only [qsR, if_true, h]
theorem qsR_ne {w : qW} {p q : Nat} {f : Nat → Option Nat} (h : q ≠ p) : (qsR w p f).2 q = w.2 q := by simp only [qsR, if_neg h]
/-- a field anew, in the heap -/
theorem qH.putF {D : va_G} {cA : Nat → ClassId} {z : qZ} {w : qW} {H H1 : Heap} {s : State} {args : Array Value} {C : String} {T : u_T} {N ci k p : Nat} {ty0 : Nat → FieldType} {fs : List Value} {v : Value} {cell : Cell} (h : qH D cA z w H) (hts : ∀ w ∈ qg, w.before args s = true) (hK : va_K D vwCl (qT cA) s) (hc : vwCl[ci]? = some (C, T, N)) (hk : k < N) (hin : ∀ w ∈ u_ws C T N, w ∈ qg) (hty : ∀ k, k < N → parseFieldDescriptor (T k).2.2.1 = some (ty0 k)) (hnm : ∀ a, a < N → ∀ b, b < N → a ≠ b → (T a).2.1 ≠ (T b).2.1)
    (hw : w.2 p = some (.inr (ci, fs))) (hl : k < fs.length) (q2 : cell.cls = D.1 ci) (q3 : cell.vm = .none) (q4 : ∀ j, j < N → cell.slots[D.2 ci j]? = some (vp_V (fs.map (qv z)) j)) (e1 : H1[z.1 + p]? = some (cell.setSlot (D.2 ci k) (qv z v))) (e2 : H1.size = H.size) (e3 : ∀ q : Nat, q ≠ z.1 + p → H1[q]? = H[q]?) : qH D cA z (qsF w p k v) H1 := by
  have hap := va_apart (own := C) hts hin ty0 hty hnm hK hc
  refine h.up rfl (qsF_at hw) (fun q hq => qsF_ne hq) e2 ?_ e3
  rw [qe_obj]
  refine ⟨_, hc, t_OB.to (V := updV (vp_V (fs.map (qv z))) k (qv z v)) ⟨_, e1, q2, q3, t_set q4 hap hk (qv z v)⟩ (fun j _ => ?_)⟩
  rw [vp_updV_set (by rw [List.length_map]; exact hl) (qv z v) j, List.map_set]
def s_putI (ci k : Nat) (K : qK) : qK := fun L st w kc ks => match st with
  | .int x :: .ref p :: st => match qgF w p ci k with
    | some _ => K L st (qsF w p k (.int x)) kc ks
    | none => False
  | _ => False
theorem r_putI {g : qG} {pc : Nat} {K : qK} {idx ci k : Nat} (hd : decode g.1.2.1 pc = .ok (.putfield idx, 3)) (hF : qFp g.1.1.cls idx ci k .int) (hfin : ∀ q ∈ vwCl[ci]?, (q.2.1 k).2.2.2 = false) (h : qImp K (AW g (pc + 3))) : qImp (s_putI ci k K) (AW g pc) := by
  intro L st w kc ks hK
  unfold s_putI at hK
  split at hK
  · rename_i x pp st
    split at hK
    · rename_i v0 hv
      obtain ⟨fs, hw, hfs⟩ := qgF_s hv
      obtain ⟨C, T, N, ty0, hc, hk, hin, hlink, hty, hnm, hte⟩ := hF
      have hfin := hfin _ hc
      have hl : k < fs.length := (List.getElem?_eq_some_iff.mp hfs).1
      intro p l e R s m args below meth c D cA z H locs ls X hH hS hL
      have hts := X.2.2.2.2.1
      have hKK := X.2.2.2.2.2.1
      obtain ⟨r, hr1, cell, q1, q2, q3, q4⟩ := hH.2 pp _ hw
      have hr : r = (C, T, N) := Option.some.inj (hr1.symm.trans hc)
      subst hr
      obtain ⟨hSl, hfc, kC, hkC, hkind⟩ := hKK.1 ci _ hc
      obtain ⟨cf, kf, fi, f, hi, hsl⟩ := hSl k hk
      have hlay := hts _ (hin _ (u_in_lay hk))
      unfold u_lay at hlay
      rw [if_neg (by rw [hfin]; decide)] at hlay
      have hst := (u_facts hfc hkC (u_lays hts hin hk) hi).1
      have h6 := u_store (v := qv z (.int x)) hfc hkC hkind hlay hi (by rw [hty k hk, hte]) (by rfl) (by rfl)
      refine W.putK X.1 X.2.1 (f := f) ⟨X.2.2.2.1, hts _ hlink, ⟨_, _, _, hi⟩, hst⟩ (by rw [q2]; exact h6) q1 q3 (by rw [hsl]; exact k2_hasslot (q4 k hk)) rfl rfl hd fun H' e1 e2 e3 => ?_
      rw [hsl] at e1 ⊢
      exact h _ _ _ _ _ hK p l e R s m args below meth c D cA z H' _ ls X (hH.putF hts hKK hc hk hin hty hnm hw hl q2 q3 q4 e1 e2 e3) (hS.put e2 e3 (qA_in pp)) hL
    · exact hK.elim
  · exact hK.elim
theorem r_putIF {g : qG} {pc : Nat} {K : qK} {idx ci k : Nat} (hd : decode g.1.2.1 pc = .ok (.putfield idx, 3)) (hF : qFp g.1.1.cls idx ci k .int) (hfin : ∀ q ∈ vwCl[ci]?, (q.2.1 k).2.2.2 = true) (hin2 : g.1.1.name = "<init>") (hdecl : ∀ q ∈ vwCl[ci]?, (q.2.1 k).1 = g.1.1.cls) (h : qImp K (AW g (pc + 3))) : qImp (s_putI ci k K) (AW g pc) := by
  intro L st w kc ks hK
  unfold s_putI at hK
  split at hK
  · rename_i x pp st
    split at hK
    · rename_i v0 hv
      obtain ⟨fs, hw, hfs⟩ := qgF_s hv
      obtain ⟨C, T, N, ty0, hc, hk, hin, hlink, hty, hnm, hte⟩ := hF
      have hfin := hfin _ hc
      have hdecl := hdecl _ hc
      have hl : k < fs.length := (List.getElem?_eq_some_iff.mp hfs).1
      intro p l e R s m args below meth c D cA z H locs ls X hH hS hL
      have hts := X.2.2.2.2.1
      have hKK := X.2.2.2.2.2.1
      obtain ⟨r, hr1, cell, q1, q2, q3, q4⟩ := hH.2 pp _ hw
      have hr : r = (C, T, N) := Option.some.inj (hr1.symm.trans hc)
      subst hr
      obtain ⟨hSl, hfc, kC, hkC, hkind⟩ := hKK.1 ci _ hc
      obtain ⟨cf, kf, fi, f, hi, hsl⟩ := hSl k hk
      have hlay := hts _ (hin _ (u_in_lay hk))
      unfold u_lay at hlay
      rw [if_pos (by rw [hfin])] at hlay
      have hst := (u_facts hfc hkC (u_lays hts hin hk) hi).1
      have hcf : m.cls = cf := by
        obtain ⟨_, _, c', _, _, _, -, -, hf', -, -, -, hown2, -⟩ := Cond.laysFinal_spec hlay
        have e1 : c' = cf := by have := hi.symm.trans hf'; simp at this; exact this.1.symm
        rw [hdecl] at hown2
        rw [← e1]; exact Option.some.inj (X.2.2.2.1.symm.trans hown2)
      have h6 := u_fits (v := qv z (.int x)) hfc hkC hkind (Or.inr hlay) hi (by rw [hty k hk, hte]) (by rfl) (by rfl)
      refine W.putFinK X.1 X.2.1 X.2.2.2.1 (hts _ hlink) hi hst hcf (X.2.2.2.2.2.2.2.2.2.1.trans hin2) (by rw [q2]; exact h6) q1 q3 (by rw [hsl]; exact k2_hasslot (q4 k hk)) rfl rfl hd fun H' e1 e2 e3 => ?_
      rw [hsl] at e1 ⊢
      exact h _ _ _ _ _ hK p l e R s m args below meth c D cA z H' _ ls X (hH.putF hts hKK hc hk hin hty hnm hw hl q2 q3 q4 e1 e2 e3) (hS.put e2 e3 (qA_in pp)) hL
    · exact hK.elim
  · exact hK.elim
def s_putZ (ci k : Nat) (K : qK) : qK := fun L st w kc ks => match st with
  | .int x :: .ref p :: st => match qgF w p ci k with
    | some _ => (x = 0 ∨ x = 1) ∧ K L st (qsF w p k (.int x)) kc ks
    | none => False
  | _ => False
theorem r_putZ {g : qG} {pc : Nat} {K : qK} {idx ci k : Nat} (hd : decode g.1.2.1 pc = .ok (.putfield idx, 3)) (hF : qFp g.1.1.cls idx ci k .boolean) (hfin : ∀ q ∈ vwCl[ci]?, (q.2.1 k).2.2.2 = false) (h : qImp K (AW g (pc + 3))) : qImp (s_putZ ci k K) (AW g pc) := by
  intro L st w kc ks hK
  unfold s_putZ at hK
  split at hK
  · rename_i x pp st
    split at hK
    · rename_i v0 hv
      obtain ⟨fs, hw, hfs⟩ := qgF_s hv
      obtain ⟨C, T, N, ty0, hc, hk, hin, hlink, hty, hnm, hte⟩ := hF
      have hfin := hfin _ hc
      have hl : k < fs.length := (List.getElem?_eq_some_iff.mp hfs).1
      intro p l e R s m args below meth c D cA z H locs ls X hH hS hL
      have hts := X.2.2.2.2.1
      have hKK := X.2.2.2.2.2.1
      obtain ⟨r, hr1, cell, q1, q2, q3, q4⟩ := hH.2 pp _ hw
      have hr : r = (C, T, N) := Option.some.inj (hr1.symm.trans hc)
      subst hr
      obtain ⟨hSl, hfc, kC, hkC, hkind⟩ := hKK.1 ci _ hc
      obtain ⟨cf, kf, fi, f, hi, hsl⟩ := hSl k hk
      have hlay := hts _ (hin _ (u_in_lay hk))
      unfold u_lay at hlay
      rw [if_neg (by rw [hfin]; decide)] at hlay
      have hst := (u_facts hfc hkC (u_lays hts hin hk) hi).1
      have h6 := u_store (v := qv z (.int x)) hfc hkC hkind hlay hi (by rw [hty k hk, hte]) (by rcases hK.1 with e | e <;> rw [e] <;> rfl) (by rcases hK.1 with e | e <;> rw [e] <;> rfl)
      refine W.putK X.1 X.2.1 (f := f) ⟨X.2.2.2.1, hts _ hlink, ⟨_, _, _, hi⟩, hst⟩ (by rw [q2]; exact h6) q1 q3 (by rw [hsl]; exact k2_hasslot (q4 k hk)) rfl rfl hd fun H' e1 e2 e3 => ?_
      rw [hsl] at e1 ⊢
      exact h _ _ _ _ _ hK.2 p l e R s m args below meth c D cA z H' _ ls X (hH.putF hts hKK hc hk hin hty hnm hw hl q2 q3 q4 e1 e2 e3) (hS.put e2 e3 (qA_in pp)) hL
    · exact hK.elim
  · exact hK.elim
theorem r_putZF {g : qG} {pc : Nat} {K : qK} {idx ci k : Nat} (hd : decode g.1.2.1 pc = .ok (.putfield idx, 3)) (hF : qFp g.1.1.cls idx ci k .boolean) (hfin : ∀ q ∈ vwCl[ci]?, (q.2.1 k).2.2.2 = true) (hin2 : g.1.1.name = "<init>") (hdecl : ∀ q ∈ vwCl[ci]?, (q.2.1 k).1 = g.1.1.cls) (h : qImp K (AW g (pc + 3))) : qImp (s_putZ ci k K) (AW g pc) := by
  intro L st w kc ks hK
  unfold s_putZ at hK
  split at hK
  · rename_i x pp st
    split at hK
    · rename_i v0 hv
      obtain ⟨fs, hw, hfs⟩ := qgF_s hv
      obtain ⟨C, T, N, ty0, hc, hk, hin, hlink, hty, hnm, hte⟩ := hF
      have hfin := hfin _ hc
      have hdecl := hdecl _ hc
      have hl : k < fs.length := (List.getElem?_eq_some_iff.mp hfs).1
      intro p l e R s m args below meth c D cA z H locs ls X hH hS hL
      have hts := X.2.2.2.2.1
      have hKK := X.2.2.2.2.2.1
      obtain ⟨r, hr1, cell, q1, q2, q3, q4⟩ := hH.2 pp _ hw
      have hr : r = (C, T, N) := Option.some.inj (hr1.symm.trans hc)
      subst hr
      obtain ⟨hSl, hfc, kC, hkC, hkind⟩ := hKK.1 ci _ hc
      obtain ⟨cf, kf, fi, f, hi, hsl⟩ := hSl k hk
      have hlay := hts _ (hin _ (u_in_lay hk))
      unfold u_lay at hlay
      rw [if_pos (by rw [hfin])] at hlay
      have hst := (u_facts hfc hkC (u_lays hts hin hk) hi).1
      have hcf : m.cls = cf := by
        obtain ⟨_, _, c', _, _, _, -, -, hf', -, -, -, hown2, -⟩ := Cond.laysFinal_spec hlay
        have e1 : c' = cf := by have := hi.symm.trans hf'; simp at this; exact this.1.symm
        rw [hdecl] at hown2
        rw [← e1]; exact Option.some.inj (X.2.2.2.1.symm.trans hown2)
      have h6 := u_fits (v := qv z (.int x)) hfc hkC hkind (Or.inr hlay) hi (by rw [hty k hk, hte]) (by rcases hK.1 with e | e <;> rw [e] <;> rfl) (by rcases hK.1 with e | e <;> rw [e] <;> rfl)
      refine W.putFinK X.1 X.2.1 X.2.2.2.1 (hts _ hlink) hi hst hcf (X.2.2.2.2.2.2.2.2.2.1.trans hin2) (by rw [q2]; exact h6) q1 q3 (by rw [hsl]; exact k2_hasslot (q4 k hk)) rfl rfl hd fun H' e1 e2 e3 => ?_
      rw [hsl] at e1 ⊢
      exact h _ _ _ _ _ hK.2 p l e R s m args below meth c D cA z H' _ ls X (hH.putF hts hKK hc hk hin hty hnm hw hl q2 q3 q4 e1 e2 e3) (hS.put e2 e3 (qA_in pp)) hL
    · exact hK.elim
  · exact hK.elim
def s_putL (ci k : Nat) (K : qK) : qK := fun L st w kc ks => match st with
  | .long x :: .ref p :: st => match qgF w p ci k with
    | some _ => K L st (qsF w p k (.long x)) kc ks
    | none => False
  | _ => False
theorem r_putL {g : qG} {pc : Nat} {K : qK} {idx ci k : Nat} (hd : decode g.1.2.1 pc = .ok (.putfield idx, 3)) (hF : qFp g.1.1.cls idx ci k .long) (hfin : ∀ q ∈ vwCl[ci]?, (q.2.1 k).2.2.2 = false) (h : qImp K (AW g (pc + 3))) : qImp (s_putL ci k K) (AW g pc) := by
  intro L st w kc ks hK
  unfold s_putL at hK
  split at hK
  · rename_i x pp st
    split at hK
    · rename_i v0 hv
      obtain ⟨fs, hw, hfs⟩ := qgF_s hv
      obtain ⟨C, T, N, ty0, hc, hk, hin, hlink, hty, hnm, hte⟩ := hF
      have hfin := hfin _ hc
      have hl : k < fs.length := (List.getElem?_eq_some_iff.mp hfs).1
      intro p l e R s m args below meth c D cA z H locs ls X hH hS hL
      have hts := X.2.2.2.2.1
      have hKK := X.2.2.2.2.2.1
      obtain ⟨r, hr1, cell, q1, q2, q3, q4⟩ := hH.2 pp _ hw
      have hr : r = (C, T, N) := Option.some.inj (hr1.symm.trans hc)
      subst hr
      obtain ⟨hSl, hfc, kC, hkC, hkind⟩ := hKK.1 ci _ hc
      obtain ⟨cf, kf, fi, f, hi, hsl⟩ := hSl k hk
      have hlay := hts _ (hin _ (u_in_lay hk))
      unfold u_lay at hlay
      rw [if_neg (by rw [hfin]; decide)] at hlay
      have hst := (u_facts hfc hkC (u_lays hts hin hk) hi).1
      have h6 := u_store (v := qv z (.long x)) hfc hkC hkind hlay hi (by rw [hty k hk, hte]) (by rfl) (by rfl)
      refine W.putK X.1 X.2.1 (f := f) ⟨X.2.2.2.1, hts _ hlink, ⟨_, _, _, hi⟩, hst⟩ (by rw [q2]; exact h6) q1 q3 (by rw [hsl]; exact k2_hasslot (q4 k hk)) rfl rfl hd fun H' e1 e2 e3 => ?_
      rw [hsl] at e1 ⊢
      exact h _ _ _ _ _ hK p l e R s m args below meth c D cA z H' _ ls X (hH.putF hts hKK hc hk hin hty hnm hw hl q2 q3 q4 e1 e2 e3) (hS.put e2 e3 (qA_in pp)) hL
    · exact hK.elim
  · exact hK.elim
theorem r_putLF {g : qG} {pc : Nat} {K : qK} {idx ci k : Nat} (hd : decode g.1.2.1 pc = .ok (.putfield idx, 3)) (hF : qFp g.1.1.cls idx ci k .long) (hfin : ∀ q ∈ vwCl[ci]?, (q.2.1 k).2.2.2 = true) (hin2 : g.1.1.name = "<init>") (hdecl : ∀ q ∈ vwCl[ci]?, (q.2.1 k).1 = g.1.1.cls) (h : qImp K (AW g (pc + 3))) : qImp (s_putL ci k K) (AW g pc) := by
  intro L st w kc ks hK
  unfold s_putL at hK
  split at hK
  · rename_i x pp st
    split at hK
    · rename_i v0 hv
      obtain ⟨fs, hw, hfs⟩ := qgF_s hv
      obtain ⟨C, T, N, ty0, hc, hk, hin, hlink, hty, hnm, hte⟩ := hF
      have hfin := hfin _ hc
      have hdecl := hdecl _ hc
      have hl : k < fs.length := (List.getElem?_eq_some_iff.mp hfs).1
      intro p l e R s m args below meth c D cA z H locs ls X hH hS hL
      have hts := X.2.2.2.2.1
      have hKK := X.2.2.2.2.2.1
      obtain ⟨r, hr1, cell, q1, q2, q3, q4⟩ := hH.2 pp _ hw
      have hr : r = (C, T, N) := Option.some.inj (hr1.symm.trans hc)
      subst hr
      obtain ⟨hSl, hfc, kC, hkC, hkind⟩ := hKK.1 ci _ hc
      obtain ⟨cf, kf, fi, f, hi, hsl⟩ := hSl k hk
      have hlay := hts _ (hin _ (u_in_lay hk))
      unfold u_lay at hlay
      rw [if_pos (by rw [hfin])] at hlay
      have hst := (u_facts hfc hkC (u_lays hts hin hk) hi).1
      have hcf : m.cls = cf := by
        obtain ⟨_, _, c', _, _, _, -, -, hf', -, -, -, hown2, -⟩ := Cond.laysFinal_spec hlay
        have e1 : c' = cf := by have := hi.symm.trans hf'; simp at this; exact this.1.symm
        rw [hdecl] at hown2
        rw [← e1]; exact Option.some.inj (X.2.2.2.1.symm.trans hown2)
      have h6 := u_fits (v := qv z (.long x)) hfc hkC hkind (Or.inr hlay) hi (by rw [hty k hk, hte]) (by rfl) (by rfl)
      refine W.putFinK X.1 X.2.1 X.2.2.2.1 (hts _ hlink) hi hst hcf (X.2.2.2.2.2.2.2.2.2.1.trans hin2) (by rw [q2]; exact h6) q1 q3 (by rw [hsl]; exact k2_hasslot (q4 k hk)) rfl rfl hd fun H' e1 e2 e3 => ?_
      rw [hsl] at e1 ⊢
      exact h _ _ _ _ _ hK p l e R s m args below meth c D cA z H' _ ls X (hH.putF hts hKK hc hk hin hty hnm hw hl q2 q3 q4 e1 e2 e3) (hS.put e2 e3 (qA_in pp)) hL
    · exact hK.elim
  · exact hK.elim
def s_putR (ci k : Nat) (K : qK) : qK := fun L st w kc ks => match st with
  | .ref x :: .ref p :: st => match qgF w p ci k with
    | some _ => K L st (qsF w p k (.ref x)) kc ks
    | none => False
  | _ => False
theorem r_putR {g : qG} {pc : Nat} {K : qK} {idx ci k : Nat} {ty : FieldType} (hd : decode g.1.2.1 pc = .ok (.putfield idx, 3)) (hF : qFp g.1.1.cls idx ci k ty) (hfin : ∀ q ∈ vwCl[ci]?, (q.2.1 k).2.2.2 = false) (hn : ∀ a : Nat, narrow ty (.ref a) = .ref a) (hf : ∀ a : Nat, fits ty (.ref a) = true) (h : qImp K (AW g (pc + 3))) : qImp (s_putR ci k K) (AW g pc) := by
  intro L st w kc ks hK
  unfold s_putR at hK
  split at hK
  · rename_i x pp st
    split at hK
    · rename_i v0 hv
      obtain ⟨fs, hw, hfs⟩ := qgF_s hv
      obtain ⟨C, T, N, ty0, hc, hk, hin, hlink, hty, hnm, hte⟩ := hF
      have hfin := hfin _ hc
      have hl : k < fs.length := (List.getElem?_eq_some_iff.mp hfs).1
      intro p l e R s m args below meth c D cA z H locs ls X hH hS hL
      have hts := X.2.2.2.2.1
      have hKK := X.2.2.2.2.2.1
      obtain ⟨r, hr1, cell, q1, q2, q3, q4⟩ := hH.2 pp _ hw
      have hr : r = (C, T, N) := Option.some.inj (hr1.symm.trans hc)
      subst hr
      obtain ⟨hSl, hfc, kC, hkC, hkind⟩ := hKK.1 ci _ hc
      obtain ⟨cf, kf, fi, f, hi, hsl⟩ := hSl k hk
      have hlay := hts _ (hin _ (u_in_lay hk))
      unfold u_lay at hlay
      rw [if_neg (by rw [hfin]; decide)] at hlay
      have hst := (u_facts hfc hkC (u_lays hts hin hk) hi).1
      have h6 := u_store (v := qv z (.ref x)) hfc hkC hkind hlay hi (by rw [hty k hk, hte]) (hn _) (hf _)
      refine W.putK X.1 X.2.1 (f := f) ⟨X.2.2.2.1, hts _ hlink, ⟨_, _, _, hi⟩, hst⟩ (by rw [q2]; exact h6) q1 q3 (by rw [hsl]; exact k2_hasslot (q4 k hk)) rfl rfl hd fun H' e1 e2 e3 => ?_
      rw [hsl] at e1 ⊢
      exact h _ _ _ _ _ hK p l e R s m args below meth c D cA z H' _ ls X (hH.putF hts hKK hc hk hin hty hnm hw hl q2 q3 q4 e1 e2 e3) (hS.put e2 e3 (qA_in pp)) hL
    · exact hK.elim
  · exact hK.elim
theorem r_putRF {g : qG} {pc : Nat} {K : qK} {idx ci k : Nat} {ty : FieldType} (hd : decode g.1.2.1 pc = .ok (.putfield idx, 3)) (hF : qFp g.1.1.cls idx ci k ty) (hfin : ∀ q ∈ vwCl[ci]?, (q.2.1 k).2.2.2 = true) (hin2 : g.1.1.name = "<init>") (hdecl : ∀ q ∈ vwCl[ci]?, (q.2.1 k).1 = g.1.1.cls) (hn : ∀ a : Nat, narrow ty (.ref a) = .ref a) (hf : ∀ a : Nat, fits ty (.ref a) = true) (h : qImp K (AW g (pc + 3))) : qImp (s_putR ci k K) (AW g pc) := by
  intro L st w kc ks hK
  unfold s_putR at hK
  split at hK
  · rename_i x pp st
    split at hK
    · rename_i v0 hv
      obtain ⟨fs, hw, hfs⟩ := qgF_s hv
      obtain ⟨C, T, N, ty0, hc, hk, hin, hlink, hty, hnm, hte⟩ := hF
      have hfin := hfin _ hc
      have hdecl := hdecl _ hc
      have hl : k < fs.length := (List.getElem?_eq_some_iff.mp hfs).1
      intro p l e R s m args below meth c D cA z H locs ls X hH hS hL
      have hts := X.2.2.2.2.1
      have hKK := X.2.2.2.2.2.1
      obtain ⟨r, hr1, cell, q1, q2, q3, q4⟩ := hH.2 pp _ hw
      have hr : r = (C, T, N) := Option.some.inj (hr1.symm.trans hc)
      subst hr
      obtain ⟨hSl, hfc, kC, hkC, hkind⟩ := hKK.1 ci _ hc
      obtain ⟨cf, kf, fi, f, hi, hsl⟩ := hSl k hk
      have hlay := hts _ (hin _ (u_in_lay hk))
      unfold u_lay at hlay
      rw [if_pos (by rw [hfin])] at hlay
      have hst := (u_facts hfc hkC (u_lays hts hin hk) hi).1
      have hcf : m.cls = cf := by
        obtain ⟨_, _, c', _, _, _, -, -, hf', -, -, -, hown2, -⟩ := Cond.laysFinal_spec hlay
        have e1 : c' = cf := by have := hi.symm.trans hf'; simp at this; exact this.1.symm
        rw [hdecl] at hown2
        rw [← e1]; exact Option.some.inj (X.2.2.2.1.symm.trans hown2)
      have h6 := u_fits (v := qv z (.ref x)) hfc hkC hkind (Or.inr hlay) hi (by rw [hty k hk, hte]) (hn _) (hf _)
      refine W.putFinK X.1 X.2.1 X.2.2.2.1 (hts _ hlink) hi hst hcf (X.2.2.2.2.2.2.2.2.2.1.trans hin2) (by rw [q2]; exact h6) q1 q3 (by rw [hsl]; exact k2_hasslot (q4 k hk)) rfl rfl hd fun H' e1 e2 e3 => ?_
      rw [hsl] at e1 ⊢
      exact h _ _ _ _ _ hK p l e R s m args below meth c D cA z H' _ ls X (hH.putF hts hKK hc hk hin hty hnm hw hl q2 q3 q4 e1 e2 e3) (hS.put e2 e3 (qA_in pp)) hL
    · exact hK.elim
  · exact hK.elim
def s_iaload (g : qG) (K : qK) : qK := fun L st w kc ks => match st with
  | .int i :: .ref p :: st => match qgI w p 0 with
    | some (n, f) => vp_in i n ∧ K L (.int (f i.toNatClampNeg) :: st) w kc ks
    | none => False
  | .int i :: .retAddr _ :: st => match g.2.2.2.2.1 with
    | some (n, f) => vp_in i n ∧ K L (.int (f i.toNatClampNeg) :: st) w kc ks
    | none => False
  | _ => False
theorem qA_not {z : qZ} {q : Nat} (h : q < z.1) : ¬ qA z q := Nat.not_le.mpr h
theorem r_iaload {g : qG} {pc : Nat} {K : qK} (hd : decode g.1.2.1 pc = .ok (.iaload, 1)) (h : qImp K (AW g (pc + 1))) : qImp (s_iaload g K) (AW g pc) := by
  intro L st w kc ks hK
  unfold s_iaload at hK
  split at hK
  · split at hK
    · rename_i n f hv
      intro p l e R s m args below meth c D cA z H locs ls X hH hS hL
      exact va_iald X.1 X.2.1 X.2.2.2.2.2.1 (hH.one (qgI_s hv)) 0 0 rfl rfl hK.1 hd (h _ _ _ _ _ hK.2 p l e R s m args below meth c D cA z H locs ls X hH hS hL)
    · exact hK.elim
  · split at hK
    · rename_i n f hv
      intro p l e R s m args below meth c D cA z H locs ls X hH hS hL
      have hsc := X.2.2.2.2.2.2.2.2.2.2.2.2
      rw [hv] at hsc
      exact va_sld X.1 X.2.1 hsc.1 hsc.2.1 (qA_not hsc.2.2) hS hK.1 hd (h _ _ _ _ _ hK.2 p l e R s m args below meth c D cA z H locs ls X hH hS hL)
    · exact hK.elim
  · exact hK.elim
def s_baload (K : qK) : qK := fun L st w kc ks => match st with
  | .int i :: .ref p :: st => match qgI w p 1 with
    | some (n, f) => vp_in i n ∧ K L (.int (f i.toNatClampNeg) :: st) w kc ks
    | none => False
  | _ => False
theorem r_baload {g : qG} {pc : Nat} {K : qK} (hd : decode g.1.2.1 pc = .ok (.baload, 1)) (h : qImp K (AW g (pc + 1))) : qImp (s_baload K) (AW g pc) := by
  intro L st w kc ks hK
  unfold s_baload at hK
  split at hK
  · split at hK
    · rename_i n f hv
      intro p l e R s m args below meth c D cA z H locs ls X hH hS hL
      exact va_zald X.1 X.2.1 X.2.2.2.2.2.1 (hH.one (qgI_s hv)) 0 1 rfl rfl hK.1 hd (h _ _ _ _ _ hK.2 p l e R s m args below meth c D cA z H locs ls X hH hS hL)
    · exact hK.elim
  · exact hK.elim
def s_laload (K : qK) : qK := fun L st w kc ks => match st with
  | .int i :: .ref p :: st => match qgL w p with
    | some (n, f) => vp_in i n ∧ K L (.long (f i.toNatClampNeg) :: st) w kc ks
    | none => False
  | _ => False
theorem r_laload {g : qG} {pc : Nat} {K : qK} (hd : decode g.1.2.1 pc = .ok (.laload, 1)) (h : qImp K (AW g (pc + 1))) : qImp (s_laload K) (AW g pc) := by
  intro L st w kc ks hK
  unfold s_laload at hK
  split at hK
  · split at hK
    · rename_i n f hv
      intro p l e R s m args below meth c D cA z H locs ls X hH hS hL
      exact va_lald X.1 X.2.1 X.2.2.2.2.2.1 (hH.one (qgL_s hv)) 0 2 rfl rfl hK.1 hd (h _ _ _ _ _ hK.2 p l e R s m args below meth c D cA z H locs ls X hH hS hL)
    · exact hK.elim
  · exact hK.elim
def s_aaload (K : qK) : qK := fun L st w kc ks => match st with
  | .int i :: .ref p :: st => match qgR w p with
    | some (n, f) => vp_in i n ∧ match f i.toNatClampNeg with
      | some q => K L (.ref q :: st) w kc ks
      | none => False
    | none => False
  | _ => False
theorem r_aaload {g : qG} {pc : Nat} {K : qK} (hd : decode g.1.2.1 pc = .ok (.aaload, 1)) (h : qImp K (AW g (pc + 1))) : qImp (s_aaload K) (AW g pc) := by
  intro L st w kc ks hK
  unfold s_aaload at hK
  split at hK
  · split at hK
    · rename_i n f hv
      obtain ⟨hin, hK⟩ := hK
      split at hK
      · rename_i q hq
        intro p l e R s m args below meth c D cA z H locs ls X hH hS hL
        have hk := h _ _ _ _ _ hK p l e R s m args below meth c D cA z H locs ls X hH hS hL
        refine va_aldq X.1 X.2.1 X.2.2.2.2.2.1 (hH.one (qgR_s hv)) 0 3 rfl rfl hin hd ?_
        rw [hq]
        exact hk
      · exact hK.elim
    · exact hK.elim
  · exact hK.elim
def qlen (w : qW) (p : Nat) : Option (Nat × Nat) := match w.2 p with
  | some (.inl (t, n, _)) => if t < 4 then some (t, n) else none
  | _ => none
theorem qlen_s {w : qW} {p t n : Nat} (h : qlen w p = some (t, n)) : t < 4 ∧ ∃ x, w.2 p = some (.inl (t, n, x)) := by
  unfold qlen at h
  split at h
  · rename_i t' n' x hw
    split at h
    · rename_i ht
      cases h
      exact ⟨ht, x, hw⟩
    · cases h
  · cases h
def s_alen (g : qG) (K : qK) : qK := fun L st w kc ks => match st with
  | .ref p :: st => match qlen w p with
    | some (_, n) => K L (.int (nI n) :: st) w kc ks
    | none => False
  | .retAddr _ :: st => match g.2.2.2.2.1 with
    | some (n, _) => K L (.int (nI n) :: st) w kc ks
    | none => False
  | _ => False
theorem qe_len (cA : Nat → ClassId) (z : qZ) (t n : Nat) (x) : ∃ y, qe cA z (.inl (t, n, x)) = .inl (cA t, n, y) := by
  rcases x with x | x | x | x | x <;> exact ⟨_, rfl⟩
theorem r_alen {g : qG} {pc : Nat} {K : qK} (hd : decode g.1.2.1 pc = .ok (.arraylength, 1)) (h : qImp K (AW g (pc + 1))) : qImp (s_alen g K) (AW g pc) := by
  intro L st w kc ks hK
  unfold s_alen at hK
  split at hK
  · split at hK
    · rename_i t n hv
      obtain ⟨ht, x, hw⟩ := qlen_s hv
      intro p l e R s m args below meth c D cA z H locs ls X hH hS hL
      obtain ⟨y, hy⟩ := qe_len cA z t n x
      have hO := hH.one hw
      rw [hy] at hO
      obtain ⟨ty, hty⟩ : ∃ ty, (qT cA)[t]? = some (cA t, ty) := by
        match t, ht with
        | 0, _ => exact ⟨_, rfl⟩
        | 1, _ => exact ⟨_, rfl⟩
        | 2, _ => exact ⟨_, rfl⟩
        | 3, _ => exact ⟨_, rfl⟩
      exact va_alen X.1 X.2.1 X.2.2.2.2.2.1 hO 0 t rfl hty rfl hd (h _ _ _ _ _ hK p l e R s m args below meth c D cA z H locs ls X hH hS hL)
    · exact hK.elim
  · split at hK
    · rename_i n f hv
      intro p l e R s m args below meth c D cA z H locs ls X hH hS hL
      have hsc := X.2.2.2.2.2.2.2.2.2.2.2.2
      rw [hv] at hsc
      exact va_slen X.1 X.2.1 hsc.1 hsc.2.1 (qA_not hsc.2.2) hS hd (h _ _ _ _ _ hK p l e R s m args below meth c D cA z H locs ls X hH hS hL)
    · exact hK.elim
  · exact hK.elim
def s_iastore (K : qK) : qK := fun L st w kc ks => match st with
  | .int x :: .int i :: .ref p :: st => match qgI w p 0 with
    | some (n, f) => vp_in i n ∧ K L st (qsI w p (upd f i.toNatClampNeg x)) kc ks
    | none => False
  | _ => False
theorem r_iastore {g : qG} {pc : Nat} {K : qK} (hd : decode g.1.2.1 pc = .ok (.iastore, 1)) (h : qImp K (AW g (pc + 1))) : qImp (s_iastore K) (AW g pc) := by
  intro L st w kc ks hK
  unfold s_iastore at hK
  split at hK
  · rename_i x i pp st
    split at hK
    · rename_i n f hv
      have hw := qgI_s hv
      intro p l e R s m args below meth c D cA z H locs ls X hH hS hL
      refine W.iast X.1 X.2.1 (hH.2 pp _ hw) ((X.2.2.2.2.2.1.2 0 _ rfl).1 n (fun j => .int (f j))) (fun q => by cases q) (by show ¬ (i < 0 ∨ (arrV _ _ _).slots.size ≤ _); rw [arrV_size]; exact hK.1) rfl rfl hd fun H1 e1 z1 oq => ?_
      refine h _ _ _ _ _ hK.2 p l e R s m args below meth c D cA z H1 _ ls X (hH.up rfl (qsI_at hw) (fun q hq => qsI_ne hq) z1 ?_ oq) (hS.put z1 oq (qA_in pp)) hL
      show H1[z.1 + pp]? = some (vp_cell _ _)
      rw [e1]
      show some ((arrV (cA 0) n (fun j => .int (f j))).setSlot i.toNatClampNeg (.int x)) = some (arrV (cA 0) n (fun j => .int ((upd f i.toNatClampNeg x) j)))
      rw [arrV_store]
      congr 2
      funext q
      by_cases hq : q = i.toNatClampNeg
      · subst hq
        simp [updV, upd, vp_updL]
      · simp [updV, upd, vp_updL, hq]
    · exact hK.elim
  · exact hK.elim
def s_bastore (K : qK) : qK := fun L st w kc ks => match st with
  | .int x :: .int i :: .ref p :: st => match qgI w p 1 with
    | some (n, f) => vp_in i n ∧ (x = 0 ∨ x = 1) ∧ K L st (qsI w p (upd f i.toNatClampNeg x)) kc ks
    | none => False
  | _ => False
theorem r_bastore {g : qG} {pc : Nat} {K : qK} (hd : decode g.1.2.1 pc = .ok (.bastore, 1)) (h : qImp K (AW g (pc + 1))) : qImp (s_bastore K) (AW g pc) := by
  intro L st w kc ks hK
  unfold s_bastore at hK
  split at hK
  · rename_i x i pp st
    split at hK
    · rename_i n f hv
      have hw := qgI_s hv
      intro p l e R s m args below meth c D cA z H locs ls X hH hS hL
      refine W.zast X.1 X.2.1 (hH.2 pp _ hw) ((X.2.2.2.2.2.1.2 1 _ rfl).1 n (fun j => .int (f j))) (fun q => by cases q) (by show ¬ (i < 0 ∨ (arrV _ _ _).slots.size ≤ _); rw [arrV_size]; exact hK.1) rfl rfl hd fun H1 e1 z1 oq => ?_
      refine h _ _ _ _ _ hK.2.2 p l e R s m args below meth c D cA z H1 _ ls X (hH.up rfl (qsI_at hw) (fun q hq => qsI_ne hq) z1 ?_ oq) (hS.put z1 oq (qA_in pp)) hL
      show H1[z.1 + pp]? = some (vp_cell _ _)
      rw [e1]
      have hx : narrow .boolean (.int x) = .int x := by rcases hK.2.1 with q | q <;> rw [q] <;> rfl
      rw [hx]
      show some ((arrV (cA 1) n (fun j => .int (f j))).setSlot i.toNatClampNeg (.int x)) = some (arrV (cA 1) n (fun j => .int ((upd f i.toNatClampNeg x) j)))
      rw [arrV_store]
      congr 2
      funext q
      by_cases hq : q = i.toNatClampNeg
      · subst hq
        simp [updV, upd, vp_updL]
      · simp [updV, upd, vp_updL, hq]
    · exact hK.elim
  · exact hK.elim
def s_lastore (K : qK) : qK := fun L st w kc ks => match st with
  | .long x :: .int i :: .ref p :: st => match qgL w p with
    | some (n, f) => vp_in i n ∧ K L st (qsL w p (vp_updL f i.toNatClampNeg x)) kc ks
    | none => False
  | _ => False
theorem r_lastore {g : qG} {pc : Nat} {K : qK} (hd : decode g.1.2.1 pc = .ok (.lastore, 1)) (h : qImp K (AW g (pc + 1))) : qImp (s_lastore K) (AW g pc) := by
  intro L st w kc ks hK
  unfold s_lastore at hK
  split at hK
  · rename_i x i pp st
    split at hK
    · rename_i n f hv
      have hw := qgL_s hv
      intro p l e R s m args below meth c D cA z H locs ls X hH hS hL
      refine W.last X.1 X.2.1 (hH.2 pp _ hw) ((X.2.2.2.2.2.1.2 2 _ rfl).1 n (fun j => .long (f j))) (fun q => by cases q) (by show ¬ (i < 0 ∨ (arrV _ _ _).slots.size ≤ _); rw [arrV_size]; exact hK.1) rfl rfl hd fun H1 e1 z1 oq => ?_
      refine h _ _ _ _ _ hK.2 p l e R s m args below meth c D cA z H1 _ ls X (hH.up rfl (qsL_at hw) (fun q hq => qsL_ne hq) z1 ?_ oq) (hS.put z1 oq (qA_in pp)) hL
      show H1[z.1 + pp]? = some (vp_cell _ _)
      rw [e1]
      show some ((arrV (cA 2) n (fun j => .long (f j))).setSlot i.toNatClampNeg (.long x)) = some (arrV (cA 2) n (fun j => .long ((vp_updL f i.toNatClampNeg x) j)))
      rw [arrV_store]
      congr 2
      funext q
      by_cases hq : q = i.toNatClampNeg
      · subst hq
        simp [updV, upd, vp_updL]
      · simp [updV, upd, vp_updL, hq]
    · exact hK.elim
  · exact hK.elim
def s_aastore (K : qK) : qK := fun L st w kc ks => match st with
  | .ref v :: .int i :: .ref p :: st => match qgR w p, qgF w v 0 0 with
    | some (n, f), some _ => vp_in i n ∧ K L st (qsR w p (va_up f i.toNatClampNeg (some v))) kc ks
    | _, _ => False
  | _ => False
theorem r_aastore {g : qG} {pc : Nat} {K : qK} (hd : decode g.1.2.1 pc = .ok (.aastore, 1)) (h : qImp K (AW g (pc + 1))) : qImp (s_aastore K) (AW g pc) := by
  intro L st w kc ks hK
  unfold s_aastore at hK
  split at hK
  · rename_i v i pp st
    split at hK
    · rename_i n f v0 hv hv2
      have hw := qgR_s hv
      obtain ⟨fs, hw2, -⟩ := qgF_s hv2
      obtain ⟨hin, hK⟩ := hK
      intro p l e R s m args below meth c D cA z H locs ls X hH hS hL
      have hlt : i.toNatClampNeg < n := Nat.not_le.mp fun q => hin (Or.inr q)
      have h0 : ¬ i < 0 := fun q => hin (Or.inl q)
      obtain ⟨r', hr', cellV, g1, g2, g3, -⟩ := hH.2 v _ hw2
      have hcls := (X.2.2.2.2.2.1.1 0 _ rfl).2
      obtain ⟨kA, comp, k1, k2, k3, -⟩ := (X.2.2.2.2.2.1.2 3 _ rfl).2
      have hcomp : comp = D.1 0 := Option.some.inj (k3.symm.trans hcls.1)
      subst hcomp
      obtain ⟨kC, hkC, -⟩ := hcls.2
      refine W.aast X.1 X.2.1 (hH.2 pp _ hw) (fun q h => by cases h) (fun h => by cases h) k1 k2 rfl hkC ⟨h0, by show _ < (arrV _ _ _).slots.size; rw [arrV_size]; exact hlt⟩ g1 (fun q h => by rw [g3] at h; cases h) (by rw [g2]; exact hkC) (by rw [g2]; exact va_assign hcls) rfl rfl hd fun H1 e1 z1 oq => ?_
      refine h _ _ _ _ _ hK p l e R s m args below meth c D cA z H1 _ ls X (hH.up rfl (qsR_at hw) (fun q hq => qsR_ne hq) z1 ?_ oq) (hS.put z1 oq (qA_in pp)) hL
      show H1[z.1 + pp]? = some (vp_cell _ _)
      rw [e1]
      show some ((arrV (cA 3) n (fun j => va_rf ((f j).map (z.1 + ·)))).setSlot i.toNatClampNeg (.ref (z.1 + v))) = some (arrV (cA 3) n (fun j => va_rf (((va_up f i.toNatClampNeg (some v)) j).map (z.1 + ·))))
      rw [arrV_store]
      congr 2
      funext q
      by_cases hq : q = i.toNatClampNeg
      · subst hq
        simp [updV, va_up, va_rf]
      · simp [updV, va_up, hq]
    · exact hK.elim
  · exact hK.elim
end
section
/-- a new object -/
def qNw (own : String) (idx ci N : Nat) (fs : List Value) : Prop := ∃ (C : String) (T : u_T) (ty0 : Nat → FieldType), vwCl[ci]? = some (C, T, N) ∧ (∀ w ∈ u_ws C T N, w ∈ qg) ∧ (∀ k, k < N → parseFieldDescriptor (T k).2.2.1 = some (ty0 k)) ∧ Cond.classLink own idx C ∈ qg ∧ Cond.instantiable C N ∈ qg ∧ Cond.initialized C ∈ qg ∧ (∀ j, j < N → defaultValue (ty0 j) = vp_V fs j) ∧ ∀ z, fs.map (qv z) = fs
def s_new (g : qG) (ci N : Nat) (fs : List Value) (K : qK) : qK := fun L st w kc ks => (kc + 1 ≤ g.2.2.1 ∧ ks + N ≤ g.2.2.2.1) ∧ K L (.ref w.1 :: st) (qpu w (.inr (ci, fs))) (kc + 1) (ks + N)
theorem va_S.pushed {A : Nat → Prop} {H0 H H1 : Heap} {locs : List Loc} (h : va_S A H0 H locs) (z1 : H1.size = H.size + 1) (o1 : ∀ q : Nat, q < H.size → H1[q]? = H[q]?) : va_S A H0 H1 locs := ⟨Nat.le_trans h.1 (by omega), fun x h1 h2 => (o1 x (Nat.lt_of_lt_of_le h1 h.1)).trans (h.2.1 x h1 h2), h.2.2⟩
theorem r_new {g : qG} {pc : Nat} {K : qK} {idx ci N : Nat} {fs : List Value} (hd : decode g.1.2.1 pc = .ok (.new idx, 3)) (hN : qNw g.1.1.cls idx ci N fs) (h : qImp K (AW g (pc + 3))) : qImp (s_new g ci N fs K) (AW g pc) := by
  intro L st w kc ks hK p l e R s m args below meth c D cA z H locs ls X hH hS hL
  obtain ⟨C, T, ty0, hc, hin, hty, h1, h2, h3, h4, h5⟩ := hN
  have hts := X.2.2.2.2.1
  have hKn := X.2.2.2.2.2.1.1 ci _ hc
  refine W.newcK X.1 X.2.1 X.2.2.2.1 (hts _ h1) (hts _ h2) (hts _ h3) rfl hd (Nat.le_trans hK.1.1 X.2.2.2.2.2.2.2.2.2.2.2.1.2.1) (Nat.le_trans hK.1.2 X.2.2.2.2.2.2.2.2.2.2.2.1.2.2.1) hKn.2.1 rfl fun H1 kC hkC e1 z1 o1 => ?_
  have e0 : H.size = z.1 + w.1 := hH.1
  have hk := h _ _ _ _ _ hK.2 p l e R s m args below meth c D cA z H1 locs ls X (hH.push z1 (by
    rw [qe_obj, h5]
    rw [← e0]
    exact ⟨_, hc, (u_born ty0 hts hin hKn hkC e1 hty).to h4⟩) o1) (hS.pushed z1 o1) hL
  have e2 : (Value.ref H.size) = qv z (.ref w.1) := by rw [e0]; rfl
  show W p l e R s m args below meth c H1 locs (kc + 1) (ks + N) _ (F0 m (pc + 3) ls (.ref H.size :: st.map (qv z)))
  rw [e2]
  exact hk
def s_newI (g : qG) (t : Nat) (K : qK) : qK := fun L st w kc ks => match st with
  | .int n :: st => (¬ n < 0 ∧ n.toNatClampNeg ≤ 100000 ∧ kc + 1 ≤ g.2.2.1 ∧ ks + n.toNatClampNeg ≤ g.2.2.2.1) ∧ K L (.ref w.1 :: st) (qpu w (.inl (t, n.toNatClampNeg, .inl (fun _ => 0)))) (kc + 1) (ks + n.toNatClampNeg)
  | _ => False
def s_newL (g : qG) (K : qK) : qK := fun L st w kc ks => match st with
  | .int n :: st => (¬ n < 0 ∧ n.toNatClampNeg ≤ 100000 ∧ kc + 1 ≤ g.2.2.1 ∧ ks + n.toNatClampNeg ≤ g.2.2.2.1) ∧ K L (.ref w.1 :: st) (qpu w (.inl (2, n.toNatClampNeg, .inr (.inl (fun _ => 0))))) (kc + 1) (ks + n.toNatClampNeg)
  | _ => False
theorem r_newI0 {g : qG} {pc : Nat} {K : qK} (hd : decode g.1.2.1 pc = .ok (.newarray .int, 2)) (ha : Cond.arrayClass .int ∈ qg) (h : qImp K (AW g (pc + 2))) : qImp (s_newI g 0 K) (AW g pc) := by
  intro L st w kc ks hK
  unfold s_newI at hK
  split at hK
  · rename_i n st
    obtain ⟨⟨hn, hb, hc1, hc2⟩, hK⟩ := hK
    intro p l e R s m args below meth c D cA z H locs ls X hH hS hL
    have e0 : H.size = z.1 + w.1 := hH.1
    refine va_newaK (atype := .int) X.1 X.2.1 (X.2.2.2.2.1 _ ha) rfl hd rfl hn rfl (by show _ * 4 ≤ _; omega) (Nat.le_trans hc1 X.2.2.2.2.2.2.2.2.2.2.2.1.2.1) (Nat.le_trans hc2 X.2.2.2.2.2.2.2.2.2.2.2.1.2.2.1) rfl fun H1 cA' e1 z1 o1 hAr hNm => ?_
    have hcA : cA' = cA 0 := Option.some.inj (hNm.symm.trans (X.2.2.2.2.2.1.2 0 _ rfl).2)
    rw [hcA] at e1
    have hk := h _ _ _ _ _ hK p l e R s m args below meth c D cA z H1 locs ls X (hH.push z1 (by rw [← e0]; exact e1) o1) (hS.pushed z1 o1) hL
    have e2 : (Value.ref H.size) = qv z (.ref w.1) := by rw [e0]; rfl
    show W p l e R s m args below meth c H1 locs _ _ _ (F0 m (pc + 2) ls (.ref H.size :: st.map (qv z)))
    rw [e2]
    exact hk
  · exact hK.elim
theorem r_newI1 {g : qG} {pc : Nat} {K : qK} (hd : decode g.1.2.1 pc = .ok (.newarray .boolean, 2)) (ha : Cond.arrayClass .boolean ∈ qg) (h : qImp K (AW g (pc + 2))) : qImp (s_newI g 1 K) (AW g pc) := by
  intro L st w kc ks hK
  unfold s_newI at hK
  split at hK
  · rename_i n st
    obtain ⟨⟨hn, hb, hc1, hc2⟩, hK⟩ := hK
    intro p l e R s m args below meth c D cA z H locs ls X hH hS hL
    have e0 : H.size = z.1 + w.1 := hH.1
    refine va_newaK (atype := .boolean) X.1 X.2.1 (X.2.2.2.2.1 _ ha) rfl hd rfl hn rfl (by show _ * 1 ≤ _; omega) (Nat.le_trans hc1 X.2.2.2.2.2.2.2.2.2.2.2.1.2.1) (Nat.le_trans hc2 X.2.2.2.2.2.2.2.2.2.2.2.1.2.2.1) rfl fun H1 cA' e1 z1 o1 hAr hNm => ?_
    have hcA : cA' = cA 1 := Option.some.inj (hNm.symm.trans (X.2.2.2.2.2.1.2 1 _ rfl).2)
    rw [hcA] at e1
    have hk := h _ _ _ _ _ hK p l e R s m args below meth c D cA z H1 locs ls X (hH.push z1 (by rw [← e0]; exact e1) o1) (hS.pushed z1 o1) hL
    have e2 : (Value.ref H.size) = qv z (.ref w.1) := by rw [e0]; rfl
    show W p l e R s m args below meth c H1 locs _ _ _ (F0 m (pc + 2) ls (.ref H.size :: st.map (qv z)))
    rw [e2]
    exact hk
  · exact hK.elim
theorem r_newL {g : qG} {pc : Nat} {K : qK} (hd : decode g.1.2.1 pc = .ok (.newarray .long, 2)) (ha : Cond.arrayClass .long ∈ qg) (h : qImp K (AW g (pc + 2))) : qImp (s_newL g K) (AW g pc) := by
  intro L st w kc ks hK
  unfold s_newL at hK
  split at hK
  · rename_i n st
    obtain ⟨⟨hn, hb, hc1, hc2⟩, hK⟩ := hK
    intro p l e R s m args below meth c D cA z H locs ls X hH hS hL
    have e0 : H.size = z.1 + w.1 := hH.1
    refine va_newaK (atype := .long) X.1 X.2.1 (X.2.2.2.2.1 _ ha) rfl hd rfl hn rfl (by show _ * 8 ≤ _; omega) (Nat.le_trans hc1 X.2.2.2.2.2.2.2.2.2.2.2.1.2.1) (Nat.le_trans hc2 X.2.2.2.2.2.2.2.2.2.2.2.1.2.2.1) rfl fun H1 cA' e1 z1 o1 hAr hNm => ?_
    have hcA : cA' = cA 2 := Option.some.inj (hNm.symm.trans (X.2.2.2.2.2.1.2 2 _ rfl).2)
    rw [hcA] at e1
    have hk := h _ _ _ _ _ hK p l e R s m args below meth c D cA z H1 locs ls X (hH.push z1 (by rw [← e0]; exact e1) o1) (hS.pushed z1 o1) hL
    have e2 : (Value.ref H.size) = qv z (.ref w.1) := by rw [e0]; rfl
    show W p l e R s m args below meth c H1 locs _ _ _ (F0 m (pc + 2) ls (.ref H.size :: st.map (qv z)))
    rw [e2]
    exact hk
  · exact hK.elim
def s_newR (g : qG) (K : qK) : qK := fun L st w kc ks => match st with
  | .int n :: st => (¬ n < 0 ∧ n.toNatClampNeg ≤ 100000 ∧ kc + 1 ≤ g.2.2.1 ∧ ks + n.toNatClampNeg ≤ g.2.2.2.1) ∧ K L (.ref w.1 :: st) (qpu w (.inl (3, n.toNatClampNeg, .inr (.inr (.inr (.inr (fun _ => none))))))) (kc + 1) (ks + n.toNatClampNeg)
  | _ => False
theorem r_newR {g : qG} {pc idx : Nat} {K : qK} (hd : decode g.1.2.1 pc = .ok (.anewarray idx, 3)) (ha : Cond.classLink g.1.1.cls idx "SealLine$FileSet" ∈ qg) (h : qImp K (AW g (pc + 3))) : qImp (s_newR g K) (AW g pc) := by
  intro L st w kc ks hK
  unfold s_newR at hK
  split at hK
  · rename_i n st
    obtain ⟨⟨hn, hb, hc1, hc2⟩, hK⟩ := hK
    intro p l e R s m args below meth c D cA z H locs ls X hH hS hL
    have e0 : H.size = z.1 + w.1 := hH.1
    refine W.anew X.1 X.2.1 X.2.2.2.1 (X.2.2.2.2.1 _ ha) (va_AO.use X.2.2.2.2.2.2.1.2) rfl hd rfl hn (by omega) (Nat.le_trans hc1 X.2.2.2.2.2.2.2.2.2.2.2.1.2.1) (Nat.le_trans hc2 X.2.2.2.2.2.2.2.2.2.2.2.1.2.2.1) fun cA' kA comp f1 f2 f3 f4 => ?_
    generalize hH1 : H.push ({ cls := cA', slots := Array.replicate n.toNatClampNeg .null, vm := .none } : Cell) = H1
    have z1 : H1.size = H.size + 1 := by rw [← hH1, Array.size_push]
    have e1 : H1[H.size]? = some (arrV cA' n.toNatClampNeg (fun _ => .null)) := by rw [← hH1, Array.getElem?_push_size, ← arrV_new]
    have o1 : ∀ q : Nat, q < H.size → H1[q]? = H[q]? := fun q hq => by rw [← hH1, Array.getElem?_push, if_neg (Nat.ne_of_lt hq)]
    obtain ⟨_, _, _, _, _, f5⟩ := (X.2.2.2.2.2.1.2 3 _ rfl).2
    have hcA : cA' = cA 3 := Option.some.inj (f1.symm.trans f5)
    rw [hcA] at e1
    have hk := h _ _ _ _ _ hK p l e R s m args below meth c D cA z H1 locs ls X (hH.push z1 (by rw [← e0]; exact e1) o1) (hS.pushed z1 o1) hL
    have e2 : (Value.ref H.size) = qv z (.ref w.1) := by rw [e0]; rfl
    show W p l e R s m args below meth c H1 locs _ _ _ (F0 m (pc + 3) ls (.ref H.size :: st.map (qv z)))
    rw [e2]
    exact hk
  · exact hK.elim
theorem q_sum (z : qZ) : ∀ (st : List Value) (n : Nat), st.length ≤ n → ((st.map (qv z)).map fun v => v.category).sum ≤ 2 * n
  | [], n, _ => Nat.zero_le _
  | v :: st, 0, h => absurd h (by simp)
  | v :: st, n + 1, h => by
    have h1 := q_sum z st n (by simpa using h)
    have h2 : (qv z v).category ≤ 2 := by rcases lv_cat (qv z v) with q | q <;> omega
    simp only [List.map_cons, List.sum_cons]
    omega
/-- Object's constructor -/
def s_oinit (g : qG) (K : qK) : qK := fun L st w kc ks => match st with
  | .ref _ :: st => (st.length ≤ 4 ∧ 1 ≤ g.2.1) ∧ K L st w kc ks
  | _ => False
theorem r_oinit {g : qG} {pc idx : Nat} {K : qK} (hd : decode g.1.2.1 pc = .ok (.invokespecial idx, 3)) (h1 : Cond.methodLink g.1.1.cls idx Lib.objectInit ∈ qg) (h2 : Cond.instanceMethod Lib.objectInit ∈ qg) (h3 : Cond.code Lib.objectInit ⟨#[0xb1]⟩ 1 none ∈ qg) (h : qImp K (AW g (pc + 3))) : qImp (s_oinit g K) (AW g pc) := by
  intro L st w kc ks hK
  unfold s_oinit at hK
  split at hK
  · rename_i a st
    intro p l e R s m args below meth c D cA z H locs ls X hH hS hL
    have hts := X.2.2.2.2.1
    have hR := X.2.2.2.2.2.2.2.2.2.2.2.1
    have hsum := q_sum z st 4 hK.1.1
    refine W.objInit (rest := st.map (qv z)) X.1 X.2.1 X.2.2.2.1 (hts _ h1) (hts _ h2) (hts _ h3) rfl (hL.1.trans X.2.2.1.symm) rfl hd (by have := hK.1.2; omega) (by show 2 * 0 + _ + 12 ≤ _; have := hK.1.2; omega) (h _ _ _ _ _ hK.2 p l e R s m args below meth c D cA z H locs ls X hH hS hL)
  · exact hK.elim
def s_ireturn (g : qG) : qK := fun _ st w kc ks => match st with
  | [.int v] => (kc ≤ g.2.2.1 ∧ ks ≤ g.2.2.2.1) ∧ g.2.2.2.2.2 (some (.int v)) w
  | _ => False
theorem r_ireturn {g : qG} {pc : Nat} (hd : decode g.1.2.1 pc = .ok (.ireturn, 1)) (hr : g.1.2.2.2 = some .int) : qImp (s_ireturn g) (AW g pc) := by
  intro L st w kc ks hK
  unfold s_ireturn at hK
  split at hK
  · rename_i v
    intro p l e R s m args below meth c D cA z H locs ls X hH hS hL
    refine W.widen (k := g.2.2.1) (n := g.2.2.2.1) hK.1.1 hK.1.2 ?_
    exact W.iret (v := v) X.1 X.2.1 (X.2.2.2.2.2.2.2.1.trans hr) (fun t ht hW => ⟨⟨some (.int v), w, rfl, hK.2, by rw [ht]; exact hH⟩, hS.F ht⟩) hS.2.2 hd X.2.2.2.2.2.2.2.2.1
  · exact hK.elim
def s_zreturn (g : qG) : qK := fun _ st w kc ks => match st with
  | [.int v] => (kc ≤ g.2.2.1 ∧ ks ≤ g.2.2.2.1) ∧ (v = 0 ∨ v = 1) ∧ g.2.2.2.2.2 (some (.int v)) w
  | _ => False
theorem r_zreturn {g : qG} {pc : Nat} (hd : decode g.1.2.1 pc = .ok (.ireturn, 1)) (hr : g.1.2.2.2 = some .boolean) : qImp (s_zreturn g) (AW g pc) := by
  intro L st w kc ks hK
  unfold s_zreturn at hK
  split at hK
  · rename_i v
    intro p l e R s m args below meth c D cA z H locs ls X hH hS hL
    refine W.widen (k := g.2.2.1) (n := g.2.2.2.1) hK.1.1 hK.1.2 ?_
    exact W.zret (v := v) X.1 X.2.1 (X.2.2.2.2.2.2.2.1.trans hr) (by rcases hK.2.1 with q | q <;> rw [q] <;> rfl) (fun t ht hW => ⟨⟨some (.int v), w, rfl, hK.2.2, by rw [ht]; exact hH⟩, hS.F ht⟩) hS.2.2 hd X.2.2.2.2.2.2.2.2.1
  · exact hK.elim
def s_lreturn (g : qG) : qK := fun _ st w kc ks => match st with
  | [.long v] => (kc ≤ g.2.2.1 ∧ ks ≤ g.2.2.2.1) ∧ g.2.2.2.2.2 (some (.long v)) w
  | _ => False
theorem r_lreturn {g : qG} {pc : Nat} (hd : decode g.1.2.1 pc = .ok (.lreturn, 1)) (hr : g.1.2.2.2 = some .long) : qImp (s_lreturn g) (AW g pc) := by
  intro L st w kc ks hK
  unfold s_lreturn at hK
  split at hK
  · rename_i v
    intro p l e R s m args below meth c D cA z H locs ls X hH hS hL
    refine W.widen (k := g.2.2.1) (n := g.2.2.2.1) hK.1.1 hK.1.2 ?_
    exact W.lret (v := v) X.1 X.2.1 (X.2.2.2.2.2.2.2.1.trans hr) (fun t ht hW => ⟨⟨some (.long v), w, rfl, hK.2, by rw [ht]; exact hH⟩, hS.F ht⟩) hS.2.2 hd X.2.2.2.2.2.2.2.2.1
  · exact hK.elim
def s_vreturn (g : qG) : qK := fun _ st w kc ks => match st with
  | [] => (kc ≤ g.2.2.1 ∧ ks ≤ g.2.2.2.1) ∧ g.2.2.2.2.2 none w
  | _ => False
theorem r_vreturn {g : qG} {pc : Nat} (hd : decode g.1.2.1 pc = .ok (.return_, 1)) (hr : g.1.2.2.2 = none) : qImp (s_vreturn g) (AW g pc) := by
  intro L st w kc ks hK
  unfold s_vreturn at hK
  split at hK
  · intro p l e R s m args below meth c D cA z H locs ls X hH hS hL
    refine W.widen (k := g.2.2.1) (n := g.2.2.2.1) hK.1.1 hK.1.2 ?_
    exact W.vret X.1 X.2.1 (X.2.2.2.2.2.2.2.1.trans hr) (fun t ht hW => ⟨⟨none, w, rfl, hK.2, by rw [ht]; exact hH⟩, hS.F ht⟩) hS.2.2 hd X.2.2.2.2.2.2.2.2.1
  · exact hK.elim
def s_areturn (g : qG) : qK := fun _ st w kc ks => match st with
  | [.ref v] => (kc ≤ g.2.2.1 ∧ ks ≤ g.2.2.2.1) ∧ g.2.2.2.2.2 (some (.ref v)) w
  | _ => False
theorem r_areturn {g : qG} {pc : Nat} {rt : FieldType} (hd : decode g.1.2.1 pc = .ok (.areturn, 1)) (hr : g.1.2.2.2 = some rt) (hrt : (∃ n, rt = .object n) ∨ ∃ t, rt = .array t) : qImp (s_areturn g) (AW g pc) := by
  intro L st w kc ks hK
  unfold s_areturn at hK
  split at hK
  · rename_i v
    intro p l e R s m args below meth c D cA z H locs ls X hH hS hL
    refine W.widen (k := g.2.2.1) (n := g.2.2.2.1) hK.1.1 hK.1.2 ?_
    exact W.aret (v := .ref (z.1 + v)) X.1 X.2.1 (X.2.2.2.2.2.2.2.1.trans hr) hrt (Or.inr ⟨_, rfl⟩) (fun t ht hW => ⟨⟨some (.ref v), w, rfl, hK.2, by rw [ht]; exact hH⟩, hS.F ht⟩) hS.2.2 hd X.2.2.2.2.2.2.2.2.1
  · exact hK.elim
/-! contracts -/
def qr (d mc ms : Nat) : Room := { frames := d, cells := mc, slots := ms, locals := 50 * d }
def CT (M : qM) (d mc ms : Nat) (av : List Value) (w : qW) (Q : Option Value → qW → Prop) : Prop := ∀ (l : Launch) (D : va_G) (cA : Nat → ClassId) (z : qZ), Met l M.1 (Cond.code M.1 M.2.1 M.2.2.1 M.2.2.2 :: qg) (qr d mc ms) (va_Pc (av.map (qv z)) (fun U => qH D cA z w U.heap ∧ va_K D vwCl (qT cA) U ∧ qNx U)) (qQ D cA z Q) mc ms (qA z)
def qlv : List Value → qL
  | [] => []
  | v :: vs => if v.category = 2 then some v :: none :: qlv vs else some v :: qlv vs
theorem qlv_len (z : qZ) : ∀ av : List Value, (lg_sl (av.map (qv z))).length = (qlv av).length
  | [] => rfl
  | v :: vs => by
    have ih := qlv_len z vs
    unfold lg_sl at ih ⊢
    simp only [List.map_cons, List.flatMap_cons, List.length_append, qv_cat, qlv, ih]
    by_cases h : v.category = 2
    · simp [h]; omega
    · simp [h]; omega
theorem qlv_in (z : qZ) : ∀ (av : List Value) (k i : Nat) (v : Value), (qlv av)[i]? = some (some v) → (k + i, qv z v) ∈ lv_args k (av.map (qv z))
  | [], k, i, v, h => by simp [qlv] at h
  | u :: vs, k, i, v, h => by
    simp only [List.map_cons, lv_args, qv_cat]
    by_cases hu : u.category = 2
    · simp only [qlv, hu, if_true] at h ⊢
      match i, h with
      | 0, h => simp at h; rw [h]; exact List.mem_cons_self
      | 1, h => simp at h
      | i + 2, h =>
        have := qlv_in z vs (k + 2) i v (by simpa using h)
        exact List.mem_cons_of_mem _ (by rw [show k + (i + 2) = k + 2 + i by omega]; exact this)
    · simp only [qlv, hu, if_false] at h ⊢
      match i, h with
      | 0, h => simp at h; rw [h]; exact List.mem_cons_self
      | i + 1, h =>
        have := qlv_in z vs (k + 1) i v (by simpa using h)
        exact List.mem_cons_of_mem _ (by rw [show k + (i + 1) = k + 1 + i by omega]; exact this)
theorem qsc_none (z : qZ) (s : State) : qSc none z s := trivial
theorem CT_of {M : qM} {d mc ms : Nat} {av : List Value} {w : qW} {Q : Option Value → qW → Prop} {L : qL} (hy : plainFor M.1 = true) (hL : qlv av ++ List.replicate (M.2.2.1 - (qlv av).length) none = L) (hlen : (qlv av).length ≤ M.2.2.1) (h : AW (M, d, mc, ms, none, Q) 0 L [] w 0 0) : CT M d mc ms av w Q := by
  intro l D cA z
  refine va_MetF (cc := M.2.1) (maxL := M.2.2.1) (ret := M.2.2.2) hy rfl ?_
  intro p e s m args below meth c s₁ B hml hv
  obtain ⟨rfl, hH, hK, hN⟩ := hv
  have hts := atoms_spec B.pre
  have hown : s.vm.findClass M.1.cls = some m.cls := findClass_of_methodNamed B.named
  rw [lg_entry_eq]
  refine h p l e _ s m _ below meth c D cA z s.heap [] _ ⟨B.exec, B.bytes, hml, hown, fun w hw => hts w (List.mem_cons_of_mem _ hw), hK, hN, B.returns, B.notSynchronized, (name_of_methodNamed B.named B.method).1, by rw [hH.1]; exact Nat.le_add_right _ _, ⟨Nat.le_refl _, Nat.le_refl _, Nat.le_refl _, Nat.le_refl _⟩, trivial⟩ hH va_S.rf ?_
  refine qR.sub (lv_entry (av.map (qv z)) (n := M.2.2.1) (by rw [qlv_len]; exact hlen)) fun i v hi => ?_
  rw [← hL] at hi
  have h2 : (qlv av)[i]? = some (some v) := by
    by_cases q : i < (qlv av).length
    · rwa [List.getElem?_append_left q] at hi
    · rw [List.getElem?_append_right (by omega), List.getElem?_replicate] at hi
      split at hi <;> cases hi
  have := qlv_in z av 0 i v h2
  rwa [Nat.zero_add] at this
end
section
theorem q_run {p : Program} {l : Launch} {e : Env} {R : Room} {s : State} {m : MethodId} {args : Array Value} {below : List Frame} {meth : Method} {c : Code} {H : Heap} {locs : List Loc} {cells slots mc ms : Nat} {Z : State → Prop} {pc : Nat} {ls : Array Slot} {st0 rest : List Value} {D : va_G} {cA : Nat → ClassId} {z : qZ} {Q : Option Value → qW → Prop} {a : Array Value}
    (hr : va_Run p l e R s m args below meth c H locs cells slots mc ms (F0 m pc ls st0) rest (qQ D cA z Q a) (qA z)) (hS : va_S (qA z) s.heap H locs)
    (kk : ∀ (r : Option Value) (w : qW) (H1 : Heap) (locs1 : List Loc), Q r w → qH D cA z w H1 → va_S (qA z) s.heap H1 locs1 → W p l e R s m args below meth c H1 locs1 (cells + mc) (slots + ms) Z (F0 m (pc + 3) ls ((r.map (qv z)).toList ++ rest))) : W p l e R s m args below meth c H locs cells slots Z (F0 m pc ls st0) := by
  intro T hT X
  obtain ⟨v, st₀, t, T', L, h0, X', hL, e1, e2, ⟨⟨r, w, hv, hq, hh⟩, hz, hk⟩, st⟩ := hr T hT X
  cases hv
  rw [h0] at hz hk
  obtain ⟨t2, a1, b1⟩ := kk r w T'.heap (locs ++ L) hq (by rw [e1]; exact hh) ⟨Nat.le_trans hS.1 (by rw [e1]; exact hz), fun q h1 h2 => by rw [e1, hk q (Nat.lt_of_lt_of_le h1 hS.1) h2]; exact hS.2.1 q h1 h2, fun q hq => by
      rcases List.mem_append.mp hq with h | h
      · exact hS.2.2 q h
      · exact hL q h⟩ T' rfl X'
  exact ⟨t2, st t2 a1, b1⟩
theorem qNx.moved {s U : State} (hW : s.WarmedH U.vm) (h : qNx s) : qNx U := ⟨fun q hq => (h.1 q hq).warmM hW, h.2.moved hW.alike⟩
theorem q_blind {D : va_G} {cA : Nat → ClassId} {z : qZ} {w : qW} {av : List Value} : FrameBlind (va_Pc av (fun U => qH D cA z w U.heap ∧ va_K D vwCl (qT cA) U ∧ qNx U)) := fun a U g mk q => ⟨q.1, q.2.1, va_K.moved (u := U) (U := U.calling g mk a) (Vm.Alike.refl U.vm) q.2.2.1, fun x hx => (q.2.2.2.1 x hx).same (u := U) (U := U.calling g mk a) rfl rfl, va_AO.moved (u := U) (U := U.calling g mk a) (Vm.Alike.refl U.vm) q.2.2.2.2⟩
def qci (w : qW) (p : Nat) : Option Nat := match w.2 p with
  | some (.inr (c, _)) => some c
  | _ => none
theorem qci_s {w : qW} {p ci : Nat} (h : qci w p = some ci) : ∃ fs, w.2 p = some (.inr (ci, fs)) := by
  unfold qci at h
  split at h
  · rename_i c fs hw
    cases h
    exact ⟨fs, hw⟩
  · cases h
/-- what a call needs of the tables: the callee's own words, and how many it takes -/
def qMk (M : qM) (n : Nat) : Prop := Cond.code M.1 M.2.1 M.2.2.1 M.2.2.2 ∈ qg ∧ Cond.initialized M.1.cls ∈ qg ∧ (M.1.cls ≠ "java/lang/invoke/MethodHandle" ∧ M.1.cls ≠ "java/lang/invoke/VarHandle" ∧ (parseMethodDescriptor M.1.desc).map (fun d => d.parameters.length) = some n) ∧ M.2.2.1 ≤ 31
def qMv (M : qM) (n : Nat) : Prop := qMk M n ∧ Cond.instanceMethod M.1 ∈ qg ∧ Cond.selects M.1.cls M.1 M.1 ∈ qg
def qMs (M : qM) (n : Nat) : Prop := qMk M n ∧ Cond.static M.1 ∈ qg
def qMi (M : qM) (n : Nat) : Prop := qMk M n ∧ Cond.instanceMethod M.1 ∈ qg ∧ M.1.name = "<init>" ∧ M.2.2.2 = none
def qLk (own : String) (idx : Nat) (M : qM) : Prop := Cond.methodLink own idx M.1 ∈ qg
def qLn (own : String) (idx : Nat) (M : qM) (host : String) : Prop := (own, idx, M.1, host) ∈ qnest
theorem qgc {w : Cond} (h : w ∈ qg) : w ∈ qg ∧ ((w.onTables && w.keeps) = true ∨ ∃ ty, w = .arrayClass ty) := qg_good w h
theorem qg_ws {M : qM} {n : Nat} (h : qMk M n) : GoodIn qg (Cond.code M.1 M.2.1 M.2.2.1 M.2.2.2 :: qg) := fun w hw => by
  rcases List.mem_cons.mp hw with e | e
  · rw [e]; exact qgc h.1
  · exact qgc e
theorem qg_wsV {M : qM} {n idx : Nat} {own : String} (h : qMv M n) (hl : qLk own idx M) : GoodIn qg (wsV own idx M.1.cls M.1 (Cond.code M.1 M.2.1 M.2.2.1 M.2.2.2 :: qg)) := fun w hw => by
  unfold wsV at hw
  rcases List.mem_append.mp hw with e | e
  · simp only [List.mem_cons, List.not_mem_nil, or_false] at e
    rcases e with e | e | e | e <;> rw [e]
    · exact qgc hl
    · exact qgc h.2.1
    · exact qgc h.2.2
    · exact qgc h.1.2.1
  · exact qg_ws h.1 w e
theorem qg_wsS {M : qM} {n idx : Nat} {own : String} (h : qMs M n) (hl : qLk own idx M) : GoodIn qg (va_wsS own idx M.1 (Cond.code M.1 M.2.1 M.2.2.1 M.2.2.2 :: qg)) := fun w hw => by
  unfold va_wsS at hw
  rcases List.mem_append.mp hw with e | e
  · simp only [List.mem_cons, List.not_mem_nil, or_false] at e
    rcases e with e | e | e <;> rw [e]
    · exact qgc hl
    · exact qgc h.2
    · exact qgc h.1.2.1
  · exact qg_ws h.1 w e
theorem qCV_room {g : qG} {R : Room} {M : qM} {n d : Nat} (h : qMk M n) (hd : d + 1 ≤ g.2.1) (hR : g.2.1 ≤ R.frames ∧ g.2.2.1 ≤ R.cells ∧ g.2.2.2.1 ≤ R.slots ∧ 50 * g.2.1 ≤ R.locals) : d + 1 ≤ R.frames ∧ 8 + (M.2.2.1 + 11) + 50 * d ≤ R.locals := by
  have := h.2.2.2
  omega
theorem qrev (z : qZ) (As : List Value) (x : Value) (rest : List Value) : (As.reverse ++ x :: rest).map (qv z) = (As.map (qv z)).reverse ++ qv z x :: rest.map (qv z) := by simp [List.map_reverse]
theorem a_callV {g : qG} {pc idx : Nat} {L : qL} {w : qW} {kc ks : Nat} {M : qM} {d mc ms n : Nat} {Q : Option Value → qW → Prop} {q : Nat} (As rest : List Value) (hd : decode g.1.2.1 pc = .ok (.invokevirtual idx, 3)) (hm : qMv M n) (hl : qLk g.1.1.cls idx M) (hC : CT M d mc ms (.ref q :: As) w Q) {ci : Nat} (hq : qci w q = some ci) (hcl : (vwCl[ci]?).map (fun x => x.1) = some M.1.cls) (hn : As.length = n) (hst : rest.length ≤ 4) (hdp : d + 1 ≤ g.2.1) (hmc : kc + mc ≤ g.2.2.1 ∧ ks + ms ≤ g.2.2.2.1)
    (k : ∀ r w', Q r w' → AW g (pc + 3) L (r.toList ++ rest) w' (kc + mc) (ks + ms)) : AW g pc L (As.reverse ++ .ref q :: rest) w kc ks := by
  intro p l e R s m args below meth c D cA z H locs ls X hH hS hL
  have hts := X.2.2.2.2.1
  have hR := X.2.2.2.2.2.2.2.2.2.2.2.1
  have hK := X.2.2.2.2.2.1
  have hNx := X.2.2.2.2.2.2.1
  have hsum := q_sum z rest 4 hst
  obtain ⟨fs, hw⟩ := qci_s hq
  obtain ⟨r0, hr0, hr1⟩ : ∃ r0, vwCl[ci]? = some r0 ∧ r0.1 = M.1.cls := by
    cases hh : vwCl[ci]? with
    | none => rw [hh] at hcl; cases hcl
    | some r0 => rw [hh] at hcl; exact ⟨r0, rfl, Option.some.inj hcl⟩
  have hrec := va_recv hK (hH.obj hw) hr0 (q0 := 0) rfl
  rw [hr1] at hrec
  have hstk : (As.reverse ++ .ref q :: rest).map (qv z) = (As.map (qv z)).reverse ++ .ref (z.1 + q) :: rest.map (qv z) := by simp [List.map_reverse]; rfl
  rw [hstk]
  have hrun := va_runV (e := e) (g := F0 m pc ls ((As.map (qv z)).reverse ++ .ref (z.1 + q) :: rest.map (qv z))) (cells := kc) (slots := ks) (locs := locs) (H := H) (below := below) (meth := meth) (As := As.map (qv z)) (rest := rest.map (qv z)) ⟨X.1, X.2.1, X.2.2.1, X.2.2.2.1, hts⟩ (hC l D cA z) (cwV n hts (qg_wsV hm hl) rfl rfl rfl ⟨rfl, hm.1.2.2.1⟩ (qCV_room hm.1 hdp hR)) ⟨q_blind, hrec, fun U hU hW => ⟨rfl, by rw [hU]; exact hH, va_K.moved hW.alike hK, hNx.moved hW⟩⟩ rfl (by rw [List.length_map]; exact hn) hL.1 rfl (by show 2 * 0 + _ ≤ 8; omega) hd ⟨Nat.le_trans hmc.1 hR.2.1, Nat.le_trans hmc.2 hR.2.2.1⟩
  refine q_run hrun hS fun r w' H1 locs1 hq' hH1 hS1 => ?_
  have := k r w' hq' p l e R s m args below meth c D cA z H1 locs1 ls X hH1 hS1 hL
  rw [List.map_append] at this
  have e9 : r.toList.map (qv z) = (r.map (qv z)).toList := by cases r <;> rfl
  rw [e9] at this
  exact this
theorem a_callVN {g : qG} {pc idx : Nat} {L : qL} {w : qW} {kc ks : Nat} {M : qM} {d mc ms n : Nat} {Q : Option Value → qW → Prop} {host : String} {q : Nat} (As rest : List Value) (hd : decode g.1.2.1 pc = .ok (.invokevirtual idx, 3)) (hm : qMv M n) (hl : qLn g.1.1.cls idx M host) (hC : CT M d mc ms (.ref q :: As) w Q) {ci : Nat} (hq : qci w q = some ci) (hcl : (vwCl[ci]?).map (fun x => x.1) = some M.1.cls) (hn : As.length = n) (hst : rest.length ≤ 4) (hdp : d + 1 ≤ g.2.1) (hmc : kc + mc ≤ g.2.2.1 ∧ ks + ms ≤ g.2.2.2.1)
    (k : ∀ r w', Q r w' → AW g (pc + 3) L (r.toList ++ rest) w' (kc + mc) (ks + ms)) : AW g pc L (As.reverse ++ .ref q :: rest) w kc ks := by
  intro p l e R s m args below meth c D cA z H locs ls X hH hS hL
  have hts := X.2.2.2.2.1
  have hR := X.2.2.2.2.2.2.2.2.2.2.2.1
  have hK := X.2.2.2.2.2.1
  have hNx := X.2.2.2.2.2.2.1
  have hsum := q_sum z rest 4 hst
  obtain ⟨fs, hw⟩ := qci_s hq
  obtain ⟨r0, hr0, hr1⟩ : ∃ r0, vwCl[ci]? = some r0 ∧ r0.1 = M.1.cls := by
    cases hh : vwCl[ci]? with
    | none => rw [hh] at hcl; cases hcl
    | some r0 => rw [hh] at hcl; exact ⟨r0, rfl, Option.some.inj hcl⟩
  have hrec := va_recv hK (hH.obj hw) hr0 (q0 := 0) rfl
  rw [hr1] at hrec
  have hstk : (As.reverse ++ .ref q :: rest).map (qv z) = (As.map (qv z)).reverse ++ .ref (z.1 + q) :: rest.map (qv z) := by simp [List.map_reverse]; rfl
  rw [hstk]
  have hrun := va_runVN (e := e) (g := F0 m pc ls ((As.map (qv z)).reverse ++ .ref (z.1 + q) :: rest.map (qv z))) (cells := kc) (slots := ks) (locs := locs) (H := H) (below := below) (meth := meth) (As := As.map (qv z)) (rest := rest.map (qv z)) ⟨X.1, X.2.1, X.2.2.1, X.2.2.2.1, hts⟩ (hC l D cA z) ⟨va_cnB n hts (qg_ws hm.1) rfl rfl rfl (hNx.1 _ hl) (hts _ hm.1.2.1) hm.1.2.2.1 (qCV_room hm.1 hdp hR), hts _ hm.2.1, hts _ hm.2.2⟩ ⟨q_blind, hrec, fun U hU hW => ⟨rfl, by rw [hU]; exact hH, va_K.moved hW.alike hK, hNx.moved hW⟩⟩ rfl (by rw [List.length_map]; exact hn) hL.1 rfl (by show 2 * 0 + _ ≤ 8; omega) hd ⟨Nat.le_trans hmc.1 hR.2.1, Nat.le_trans hmc.2 hR.2.2.1⟩
  refine q_run hrun hS fun r w' H1 locs1 hq' hH1 hS1 => ?_
  have := k r w' hq' p l e R s m args below meth c D cA z H1 locs1 ls X hH1 hS1 hL
  rw [List.map_append] at this
  have e9 : r.toList.map (qv z) = (r.map (qv z)).toList := by cases r <;> rfl
  rw [e9] at this
  exact this
theorem a_callS {g : qG} {pc idx : Nat} {L : qL} {w : qW} {kc ks : Nat} {M : qM} {d mc ms n : Nat} {Q : Option Value → qW → Prop} (As rest : List Value) (hd : decode g.1.2.1 pc = .ok (.invokestatic idx, 3)) (hm : qMs M n) (hl : qLk g.1.1.cls idx M) (hC : CT M d mc ms (As) w Q) (hn : As.length = n) (hst : rest.length ≤ 4) (hdp : d + 1 ≤ g.2.1) (hmc : kc + mc ≤ g.2.2.1 ∧ ks + ms ≤ g.2.2.2.1)
    (k : ∀ r w', Q r w' → AW g (pc + 3) L (r.toList ++ rest) w' (kc + mc) (ks + ms)) : AW g pc L (As.reverse ++ rest) w kc ks := by
  intro p l e R s m args below meth c D cA z H locs ls X hH hS hL
  have hts := X.2.2.2.2.1
  have hR := X.2.2.2.2.2.2.2.2.2.2.2.1
  have hK := X.2.2.2.2.2.1
  have hNx := X.2.2.2.2.2.2.1
  have hsum := q_sum z rest 4 hst
  have hstk : (As.reverse ++ rest).map (qv z) = (As.map (qv z)).reverse ++ rest.map (qv z) := by simp [List.map_reverse]
  rw [hstk]
  have hrun := va_runS (e := e) (g := F0 m pc ls ((As.map (qv z)).reverse ++ rest.map (qv z))) (cells := kc) (slots := ks) (locs := locs) (H := H) (below := below) (meth := meth) (As := As.map (qv z)) (rest := rest.map (qv z)) ⟨X.1, X.2.1, X.2.2.1, X.2.2.2.1, hts⟩ (hC l D cA z) (va_cwS n hts (qg_wsS hm hl) rfl rfl rfl hm.1.2.2.1 (qCV_room hm.1 hdp hR)) ⟨q_blind, fun U hU hW => ⟨rfl, by rw [hU]; exact hH, va_K.moved hW.alike hK, hNx.moved hW⟩⟩ rfl (by rw [List.length_map]; exact hn) hL.1 rfl (by show 2 * 0 + _ ≤ 8; omega) hd ⟨Nat.le_trans hmc.1 hR.2.1, Nat.le_trans hmc.2 hR.2.2.1⟩
  refine q_run hrun hS fun r w' H1 locs1 hq' hH1 hS1 => ?_
  have := k r w' hq' p l e R s m args below meth c D cA z H1 locs1 ls X hH1 hS1 hL
  rw [List.map_append] at this
  have e9 : r.toList.map (qv z) = (r.map (qv z)).toList := by cases r <;> rfl
  rw [e9] at this
  exact this
theorem a_callSN {g : qG} {pc idx : Nat} {L : qL} {w : qW} {kc ks : Nat} {M : qM} {d mc ms n : Nat} {Q : Option Value → qW → Prop} {host : String} (As rest : List Value) (hd : decode g.1.2.1 pc = .ok (.invokestatic idx, 3)) (hm : qMs M n) (hl : qLn g.1.1.cls idx M host) (hC : CT M d mc ms (As) w Q) (hn : As.length = n) (hst : rest.length ≤ 4) (hdp : d + 1 ≤ g.2.1) (hmc : kc + mc ≤ g.2.2.1 ∧ ks + ms ≤ g.2.2.2.1)
    (k : ∀ r w', Q r w' → AW g (pc + 3) L (r.toList ++ rest) w' (kc + mc) (ks + ms)) : AW g pc L (As.reverse ++ rest) w kc ks := by
  intro p l e R s m args below meth c D cA z H locs ls X hH hS hL
  have hts := X.2.2.2.2.1
  have hR := X.2.2.2.2.2.2.2.2.2.2.2.1
  have hK := X.2.2.2.2.2.1
  have hNx := X.2.2.2.2.2.2.1
  have hsum := q_sum z rest 4 hst
  have hstk : (As.reverse ++ rest).map (qv z) = (As.map (qv z)).reverse ++ rest.map (qv z) := by simp [List.map_reverse]
  rw [hstk]
  have hrun := va_runSN (e := e) (g := F0 m pc ls ((As.map (qv z)).reverse ++ rest.map (qv z))) (cells := kc) (slots := ks) (locs := locs) (H := H) (below := below) (meth := meth) (As := As.map (qv z)) (rest := rest.map (qv z)) ⟨X.1, X.2.1, X.2.2.1, X.2.2.2.1, hts⟩ (hC l D cA z) ⟨va_cnB n hts (qg_ws hm.1) rfl rfl rfl (hNx.1 _ hl) (hts _ hm.1.2.1) hm.1.2.2.1 (qCV_room hm.1 hdp hR), hts _ hm.2, trivial⟩ ⟨q_blind, fun U hU hW => ⟨rfl, by rw [hU]; exact hH, va_K.moved hW.alike hK, hNx.moved hW⟩⟩ rfl (by rw [List.length_map]; exact hn) hL.1 rfl (by show 2 * 0 + _ ≤ 8; omega) hd ⟨Nat.le_trans hmc.1 hR.2.1, Nat.le_trans hmc.2 hR.2.2.1⟩
  refine q_run hrun hS fun r w' H1 locs1 hq' hH1 hS1 => ?_
  have := k r w' hq' p l e R s m args below meth c D cA z H1 locs1 ls X hH1 hS1 hL
  rw [List.map_append] at this
  have e9 : r.toList.map (qv z) = (r.map (qv z)).toList := by cases r <;> rfl
  rw [e9] at this
  exact this
theorem a_callI {g : qG} {pc idx : Nat} {L : qL} {w : qW} {kc ks : Nat} {M : qM} {d mc ms n : Nat} {Q : Option Value → qW → Prop} {q : Nat} (As rest : List Value) (hd : decode g.1.2.1 pc = .ok (.invokespecial idx, 3)) (hm : qMi M n) (hl : qLk g.1.1.cls idx M) (hC : CT M d mc ms (.ref q :: As) w Q) (hn : As.length = n) (hst : rest.length ≤ 4) (hdp : d + 1 ≤ g.2.1) (hmc : kc + mc ≤ g.2.2.1 ∧ ks + ms ≤ g.2.2.2.1)
    (k : ∀ r w', Q r w' → AW g (pc + 3) L (r.toList ++ rest) w' (kc + mc) (ks + ms)) : AW g pc L (As.reverse ++ .ref q :: rest) w kc ks := by
  intro p l e R s m args below meth c D cA z H locs ls X hH hS hL
  have hts := X.2.2.2.2.1
  have hR := X.2.2.2.2.2.2.2.2.2.2.2.1
  have hK := X.2.2.2.2.2.1
  have hNx := X.2.2.2.2.2.2.1
  have hsum := q_sum z rest 4 hst
  have hnone := hm.2.2.2
  have hstk : (As.reverse ++ .ref q :: rest).map (qv z) = (As.map (qv z)).reverse ++ .ref (z.1 + q) :: rest.map (qv z) := by simp [List.map_reverse]; rfl
  rw [hstk]
  have hrun := va_runI (e := e) (g := F0 m pc ls ((As.map (qv z)).reverse ++ .ref (z.1 + q) :: rest.map (qv z))) (cells := kc) (slots := ks) (locs := locs) (H := H) (below := below) (meth := meth) (As := As.map (qv z)) (rest := rest.map (qv z)) ⟨X.1, X.2.1, X.2.2.1, X.2.2.2.1, hts⟩ (hC l D cA z) (by rw [hnone]; exact cwI n hts (by have := qg_ws hm.1; rw [hnone] at this; exact this) rfl rfl rfl (hts _ hm.1.2.1) (hts _ hl) (hts _ hm.2.1) hm.2.2.1 hm.1.2.2.1 (qCV_room hm.1 hdp hR)) ⟨q_blind, fun U hU hW => ⟨rfl, by rw [hU]; exact hH, va_K.moved hW.alike hK, hNx.moved hW⟩⟩ rfl (by rw [List.length_map]; exact hn) hL.1 rfl (by show 2 * 0 + _ ≤ 8; omega) hd ⟨Nat.le_trans hmc.1 hR.2.1, Nat.le_trans hmc.2 hR.2.2.1⟩
  refine q_run hrun hS fun r w' H1 locs1 hq' hH1 hS1 => ?_
  have := k r w' hq' p l e R s m args below meth c D cA z H1 locs1 ls X hH1 hS1 hL
  rw [List.map_append] at this
  have e9 : r.toList.map (qv z) = (r.map (qv z)).toList := by cases r <;> rfl
  rw [e9] at this
  exact this
theorem a_callIN {g : qG} {pc idx : Nat} {L : qL} {w : qW} {kc ks : Nat} {M : qM} {d mc ms n : Nat} {Q : Option Value → qW → Prop} {host : String} {q : Nat} (As rest : List Value) (hd : decode g.1.2.1 pc = .ok (.invokespecial idx, 3)) (hm : qMi M n) (hl : qLn g.1.1.cls idx M host) (hC : CT M d mc ms (.ref q :: As) w Q) (hn : As.length = n) (hst : rest.length ≤ 4) (hdp : d + 1 ≤ g.2.1) (hmc : kc + mc ≤ g.2.2.1 ∧ ks + ms ≤ g.2.2.2.1)
    (k : ∀ r w', Q r w' → AW g (pc + 3) L (r.toList ++ rest) w' (kc + mc) (ks + ms)) : AW g pc L (As.reverse ++ .ref q :: rest) w kc ks := by
  intro p l e R s m args below meth c D cA z H locs ls X hH hS hL
  have hts := X.2.2.2.2.1
  have hR := X.2.2.2.2.2.2.2.2.2.2.2.1
  have hK := X.2.2.2.2.2.1
  have hNx := X.2.2.2.2.2.2.1
  have hsum := q_sum z rest 4 hst
  have hnone := hm.2.2.2
  have hstk : (As.reverse ++ .ref q :: rest).map (qv z) = (As.map (qv z)).reverse ++ .ref (z.1 + q) :: rest.map (qv z) := by simp [List.map_reverse]; rfl
  rw [hstk]
  have hrun := va_runIN (e := e) (g := F0 m pc ls ((As.map (qv z)).reverse ++ .ref (z.1 + q) :: rest.map (qv z))) (cells := kc) (slots := ks) (locs := locs) (H := H) (below := below) (meth := meth) (As := As.map (qv z)) (rest := rest.map (qv z)) ⟨X.1, X.2.1, X.2.2.1, X.2.2.2.1, hts⟩ (hC l D cA z) (by rw [hnone]; exact ⟨va_cnB n hts (by have := qg_ws hm.1; rw [hnone] at this; exact this) rfl rfl rfl (hNx.1 _ hl) (hts _ hm.1.2.1) hm.1.2.2.1 (qCV_room hm.1 hdp hR), hm.2.2.1, hts _ hm.2.1⟩) ⟨q_blind, fun U hU hW => ⟨rfl, by rw [hU]; exact hH, va_K.moved hW.alike hK, hNx.moved hW⟩⟩ rfl (by rw [List.length_map]; exact hn) hL.1 rfl (by show 2 * 0 + _ ≤ 8; omega) hd ⟨Nat.le_trans hmc.1 hR.2.1, Nat.le_trans hmc.2 hR.2.2.1⟩
  refine q_run hrun hS fun r w' H1 locs1 hq' hH1 hS1 => ?_
  have := k r w' hq' p l e R s m args below meth c D cA z H1 locs1 ls X hH1 hS1 hL
  rw [List.map_append] at this
  have e9 : r.toList.map (qv z) = (r.map (qv z)).toList := by cases r <;> rfl
  rw [e9] at this
  exact this
end
