-- ===== PART A: goes FIRST, ahead of the names: the tables' words, and 'selects' of the private methods out of them =====
/-- a private method of a class that the tables say can be made, by its rows of tables_1 -/
def lw_okq (q : MethodName × Nat) : Prop := (q.1.cls ≠ "java/lang/invoke/MethodHandle" ∧ q.1.cls ≠ "java/lang/invoke/VarHandle") ∧ Cond.instantiable q.1.cls q.2 ∈ tables_1 ∧ Cond.privateMethod q.1 ∈ tables_1 ∧ Cond.instanceMethod q.1 ∈ tables_1
theorem lw_p0 : lw_okq (⟨"PondLenses", "finding", "(I)I"⟩, 10) := ⟨⟨by decide +kernel, by decide +kernel⟩, List.mem_of_getElem? (i := 18) (by decide +kernel), List.mem_of_getElem? (i := 210) (by decide +kernel), List.mem_of_getElem? (i := 211) (by decide +kernel)⟩
theorem lw_p1 : lw_okq (⟨"PondLenses$Fen", "nextOfFrog", "(I)I"⟩, 7) := ⟨⟨by decide +kernel, by decide +kernel⟩, List.mem_of_getElem? (i := 26) (by decide +kernel), List.mem_of_getElem? (i := 262) (by decide +kernel), List.mem_of_getElem? (i := 263) (by decide +kernel)⟩
theorem lw_p2 : lw_okq (⟨"PondLenses$Fen", "nextOfHeron", "(I)I"⟩, 7) := ⟨⟨by decide +kernel, by decide +kernel⟩, List.mem_of_getElem? (i := 26) (by decide +kernel), List.mem_of_getElem? (i := 266) (by decide +kernel), List.mem_of_getElem? (i := 267) (by decide +kernel)⟩
theorem lw_p3 : lw_okq (⟨"PondLenses$Fen", "hasFishIn", "(I)Z"⟩, 7) := ⟨⟨by decide +kernel, by decide +kernel⟩, List.mem_of_getElem? (i := 26) (by decide +kernel), List.mem_of_getElem? (i := 270) (by decide +kernel), List.mem_of_getElem? (i := 271) (by decide +kernel)⟩
theorem lw_p4 : lw_okq (⟨"PondLenses$Fen", "nextOfPike", "(I)I"⟩, 7) := ⟨⟨by decide +kernel, by decide +kernel⟩, List.mem_of_getElem? (i := 26) (by decide +kernel), List.mem_of_getElem? (i := 276) (by decide +kernel), List.mem_of_getElem? (i := 277) (by decide +kernel)⟩
theorem lw_p5 : lw_okq (⟨"PondLenses", "findingOrAnswer", "(I)I"⟩, 10) := ⟨⟨by decide +kernel, by decide +kernel⟩, List.mem_of_getElem? (i := 18) (by decide +kernel), List.mem_of_getElem? (i := 424) (by decide +kernel), List.mem_of_getElem? (i := 425) (by decide +kernel)⟩
theorem lw_p6 : lw_okq (⟨"PondLenses$Foresight", "clearTally", "()V"⟩, 1) := ⟨⟨by decide +kernel, by decide +kernel⟩, List.mem_of_getElem? (i := 92) (by decide +kernel), List.mem_of_getElem? (i := 448) (by decide +kernel), List.mem_of_getElem? (i := 449) (by decide +kernel)⟩
theorem lw_p7 : lw_okq (⟨"PondLenses$Foresight", "leastOfMost", "()I"⟩, 1) := ⟨⟨by decide +kernel, by decide +kernel⟩, List.mem_of_getElem? (i := 92) (by decide +kernel), List.mem_of_getElem? (i := 452) (by decide +kernel), List.mem_of_getElem? (i := 453) (by decide +kernel)⟩
theorem lw_p8 : lw_okq (⟨"PondLenses", "lackOfSight", "(II)I"⟩, 10) := ⟨⟨by decide +kernel, by decide +kernel⟩, List.mem_of_getElem? (i := 18) (by decide +kernel), List.mem_of_getElem? (i := 474) (by decide +kernel), List.mem_of_getElem? (i := 475) (by decide +kernel)⟩
theorem lw_p9 : lw_okq (⟨"PondLenses", "lackOfSheet", "(I)I"⟩, 10) := ⟨⟨by decide +kernel, by decide +kernel⟩, List.mem_of_getElem? (i := 18) (by decide +kernel), List.mem_of_getElem? (i := 478) (by decide +kernel), List.mem_of_getElem? (i := 479) (by decide +kernel)⟩
theorem lw_p10 : lw_okq (⟨"PondLenses", "lensesFor", "(LPondLenses$Sheet;I)I"⟩, 10) := ⟨⟨by decide +kernel, by decide +kernel⟩, List.mem_of_getElem? (i := 18) (by decide +kernel), List.mem_of_getElem? (i := 490) (by decide +kernel), List.mem_of_getElem? (i := 491) (by decide +kernel)⟩
theorem lw_p11 : lw_okq (⟨"PondLenses$Fen", "draw", "()I"⟩, 7) := ⟨⟨by decide +kernel, by decide +kernel⟩, List.mem_of_getElem? (i := 26) (by decide +kernel), List.mem_of_getElem? (i := 544) (by decide +kernel), List.mem_of_getElem? (i := 545) (by decide +kernel)⟩
theorem lw_p12 : lw_okq (⟨"PondLenses$Tokens", "takeOne", "(LPondLenses$Tape;II)I"⟩, 4) := ⟨⟨by decide +kernel, by decide +kernel⟩, List.mem_of_getElem? (i := 123) (by decide +kernel), List.mem_of_getElem? (i := 585) (by decide +kernel), List.mem_of_getElem? (i := 586) (by decide +kernel)⟩
theorem lw_p13 : lw_okq (⟨"PondLenses$TextReader", "readItem", "(LPondLenses$Fen;)V"⟩, 2) := ⟨⟨by decide +kernel, by decide +kernel⟩, List.mem_of_getElem? (i := 117) (by decide +kernel), List.mem_of_getElem? (i := 673) (by decide +kernel), List.mem_of_getElem? (i := 674) (by decide +kernel)⟩
theorem lw_p14 : lw_okq (⟨"PondLenses$TextReader", "hasKind", "()Z"⟩, 2) := ⟨⟨by decide +kernel, by decide +kernel⟩, List.mem_of_getElem? (i := 117) (by decide +kernel), List.mem_of_getElem? (i := 677) (by decide +kernel), List.mem_of_getElem? (i := 678) (by decide +kernel)⟩
theorem lw_p15 : lw_okq (⟨"PondLenses$TextReader", "readThing", "(LPondLenses$Fen;)V"⟩, 2) := ⟨⟨by decide +kernel, by decide +kernel⟩, List.mem_of_getElem? (i := 117) (by decide +kernel), List.mem_of_getElem? (i := 689) (by decide +kernel), List.mem_of_getElem? (i := 690) (by decide +kernel)⟩
def lw_privs_1 : List (MethodName × Nat) := [(⟨"PondLenses", "finding", "(I)I"⟩, 10), (⟨"PondLenses$Fen", "nextOfFrog", "(I)I"⟩, 7), (⟨"PondLenses$Fen", "nextOfHeron", "(I)I"⟩, 7), (⟨"PondLenses$Fen", "hasFishIn", "(I)Z"⟩, 7), (⟨"PondLenses$Fen", "nextOfPike", "(I)I"⟩, 7), (⟨"PondLenses", "findingOrAnswer", "(I)I"⟩, 10), (⟨"PondLenses$Foresight", "clearTally", "()V"⟩, 1), (⟨"PondLenses$Foresight", "leastOfMost", "()I"⟩, 1), (⟨"PondLenses", "lackOfSight", "(II)I"⟩, 10), (⟨"PondLenses", "lackOfSheet", "(I)I"⟩, 10), (⟨"PondLenses", "lensesFor", "(LPondLenses$Sheet;I)I"⟩, 10), (⟨"PondLenses$Fen", "draw", "()I"⟩, 7), (⟨"PondLenses$Tokens", "takeOne", "(LPondLenses$Tape;II)I"⟩, 4), (⟨"PondLenses$TextReader", "readItem", "(LPondLenses$Fen;)V"⟩, 2), (⟨"PondLenses$TextReader", "hasKind", "()Z"⟩, 2), (⟨"PondLenses$TextReader", "readThing", "(LPondLenses$Fen;)V"⟩, 2)]
theorem lw_r1 : ∀ q ∈ lw_privs_1, lw_okq q := List.forall_mem_cons.mpr ⟨lw_p0, List.forall_mem_cons.mpr ⟨lw_p1, List.forall_mem_cons.mpr ⟨lw_p2, List.forall_mem_cons.mpr ⟨lw_p3, List.forall_mem_cons.mpr ⟨lw_p4, List.forall_mem_cons.mpr ⟨lw_p5, List.forall_mem_cons.mpr ⟨lw_p6, List.forall_mem_cons.mpr ⟨lw_p7, List.forall_mem_cons.mpr ⟨lw_p8, List.forall_mem_cons.mpr ⟨lw_p9, List.forall_mem_cons.mpr ⟨lw_p10, List.forall_mem_cons.mpr ⟨lw_p11, List.forall_mem_cons.mpr ⟨lw_p12, List.forall_mem_cons.mpr ⟨lw_p13, List.forall_mem_cons.mpr ⟨lw_p14, List.forall_mem_cons.mpr ⟨lw_p15, fun _ h => absurd h List.not_mem_nil⟩⟩⟩⟩⟩⟩⟩⟩⟩⟩⟩⟩⟩⟩⟩⟩
theorem lw_p16 : lw_okq (⟨"PondLenses$TextReader", "fail", "()V"⟩, 2) := ⟨⟨by decide +kernel, by decide +kernel⟩, List.mem_of_getElem? (i := 117) (by decide +kernel), List.mem_of_getElem? (i := 694) (by decide +kernel), List.mem_of_getElem? (i := 695) (by decide +kernel)⟩
theorem lw_p17 : lw_okq (⟨"PondLenses$TextReader", "hasWord", "(I)Z"⟩, 2) := ⟨⟨by decide +kernel, by decide +kernel⟩, List.mem_of_getElem? (i := 117) (by decide +kernel), List.mem_of_getElem? (i := 706) (by decide +kernel), List.mem_of_getElem? (i := 707) (by decide +kernel)⟩
theorem lw_p18 : lw_okq (⟨"PondLenses$TextReader", "readNumber", "(III)I"⟩, 2) := ⟨⟨by decide +kernel, by decide +kernel⟩, List.mem_of_getElem? (i := 117) (by decide +kernel), List.mem_of_getElem? (i := 716) (by decide +kernel), List.mem_of_getElem? (i := 717) (by decide +kernel)⟩
theorem lw_p19 : lw_okq (⟨"PondLenses$TextReader", "hasNumber", "()Z"⟩, 2) := ⟨⟨by decide +kernel, by decide +kernel⟩, List.mem_of_getElem? (i := 117) (by decide +kernel), List.mem_of_getElem? (i := 720) (by decide +kernel), List.mem_of_getElem? (i := 721) (by decide +kernel)⟩
theorem lw_p20 : lw_okq (⟨"PondLenses$TextReader", "readPond", "(LPondLenses$Fen;)V"⟩, 2) := ⟨⟨by decide +kernel, by decide +kernel⟩, List.mem_of_getElem? (i := 117) (by decide +kernel), List.mem_of_getElem? (i := 725) (by decide +kernel), List.mem_of_getElem? (i := 726) (by decide +kernel)⟩
theorem lw_p21 : lw_okq (⟨"PondLenses$TextReader", "hasSign", "()Z"⟩, 2) := ⟨⟨by decide +kernel, by decide +kernel⟩, List.mem_of_getElem? (i := 117) (by decide +kernel), List.mem_of_getElem? (i := 731) (by decide +kernel), List.mem_of_getElem? (i := 732) (by decide +kernel)⟩
theorem lw_p22 : lw_okq (⟨"PondLensesModel", "lays1", "(III)V"⟩, 24) := ⟨⟨by decide +kernel, by decide +kernel⟩, List.mem_of_getElem? (i := 816) (by decide +kernel), List.mem_of_getElem? (i := 822) (by decide +kernel), List.mem_of_getElem? (i := 823) (by decide +kernel)⟩
theorem lw_p23 : lw_okq (⟨"PondLensesModel", "no", "(I)I"⟩, 24) := ⟨⟨by decide +kernel, by decide +kernel⟩, List.mem_of_getElem? (i := 816) (by decide +kernel), List.mem_of_getElem? (i := 910) (by decide +kernel), List.mem_of_getElem? (i := 911) (by decide +kernel)⟩
theorem lw_p24 : lw_okq (⟨"PondLensesModel", "of1", "(II)I"⟩, 24) := ⟨⟨by decide +kernel, by decide +kernel⟩, List.mem_of_getElem? (i := 816) (by decide +kernel), List.mem_of_getElem? (i := 915) (by decide +kernel), List.mem_of_getElem? (i := 916) (by decide +kernel)⟩
theorem lw_p25 : lw_okq (⟨"PondLensesModel", "inside", "(I)I"⟩, 24) := ⟨⟨by decide +kernel, by decide +kernel⟩, List.mem_of_getElem? (i := 816) (by decide +kernel), List.mem_of_getElem? (i := 919) (by decide +kernel), List.mem_of_getElem? (i := 920) (by decide +kernel)⟩
theorem lw_p26 : lw_okq (⟨"PondLensesModel", "get", "(II)I"⟩, 24) := ⟨⟨by decide +kernel, by decide +kernel⟩, List.mem_of_getElem? (i := 816) (by decide +kernel), List.mem_of_getElem? (i := 923) (by decide +kernel), List.mem_of_getElem? (i := 924) (by decide +kernel)⟩
theorem lw_p27 : lw_okq (⟨"PondLensesModel", "seenIn", "(I)I"⟩, 24) := ⟨⟨by decide +kernel, by decide +kernel⟩, List.mem_of_getElem? (i := 816) (by decide +kernel), List.mem_of_getElem? (i := 927) (by decide +kernel), List.mem_of_getElem? (i := 928) (by decide +kernel)⟩
theorem lw_p28 : lw_okq (⟨"PondLensesModel", "addsThing", "(II)V"⟩, 24) := ⟨⟨by decide +kernel, by decide +kernel⟩, List.mem_of_getElem? (i := 816) (by decide +kernel), List.mem_of_getElem? (i := 942) (by decide +kernel), List.mem_of_getElem? (i := 943) (by decide +kernel)⟩
theorem lw_p29 : lw_okq (⟨"PondLensesModel", "puts", "(III)V"⟩, 24) := ⟨⟨by decide +kernel, by decide +kernel⟩, List.mem_of_getElem? (i := 816) (by decide +kernel), List.mem_of_getElem? (i := 946) (by decide +kernel), List.mem_of_getElem? (i := 947) (by decide +kernel)⟩
theorem lw_p30 : lw_okq (⟨"PondLensesModel", "isThing", "(I)Z"⟩, 24) := ⟨⟨by decide +kernel, by decide +kernel⟩, List.mem_of_getElem? (i := 816) (by decide +kernel), List.mem_of_getElem? (i := 954) (by decide +kernel), List.mem_of_getElem? (i := 955) (by decide +kernel)⟩
theorem lw_p31 : lw_okq (⟨"PondLensesModel", "nextOf", "(I)I"⟩, 24) := ⟨⟨by decide +kernel, by decide +kernel⟩, List.mem_of_getElem? (i := 816) (by decide +kernel), List.mem_of_getElem? (i := 958) (by decide +kernel), List.mem_of_getElem? (i := 959) (by decide +kernel)⟩
def lw_privs_2 : List (MethodName × Nat) := [(⟨"PondLenses$TextReader", "fail", "()V"⟩, 2), (⟨"PondLenses$TextReader", "hasWord", "(I)Z"⟩, 2), (⟨"PondLenses$TextReader", "readNumber", "(III)I"⟩, 2), (⟨"PondLenses$TextReader", "hasNumber", "()Z"⟩, 2), (⟨"PondLenses$TextReader", "readPond", "(LPondLenses$Fen;)V"⟩, 2), (⟨"PondLenses$TextReader", "hasSign", "()Z"⟩, 2), (⟨"PondLensesModel", "lays1", "(III)V"⟩, 24), (⟨"PondLensesModel", "no", "(I)I"⟩, 24), (⟨"PondLensesModel", "of1", "(II)I"⟩, 24), (⟨"PondLensesModel", "inside", "(I)I"⟩, 24), (⟨"PondLensesModel", "get", "(II)I"⟩, 24), (⟨"PondLensesModel", "seenIn", "(I)I"⟩, 24), (⟨"PondLensesModel", "addsThing", "(II)V"⟩, 24), (⟨"PondLensesModel", "puts", "(III)V"⟩, 24), (⟨"PondLensesModel", "isThing", "(I)Z"⟩, 24), (⟨"PondLensesModel", "nextOf", "(I)I"⟩, 24)]
theorem lw_r2 : ∀ q ∈ lw_privs_2, lw_okq q := List.forall_mem_cons.mpr ⟨lw_p16, List.forall_mem_cons.mpr ⟨lw_p17, List.forall_mem_cons.mpr ⟨lw_p18, List.forall_mem_cons.mpr ⟨lw_p19, List.forall_mem_cons.mpr ⟨lw_p20, List.forall_mem_cons.mpr ⟨lw_p21, List.forall_mem_cons.mpr ⟨lw_p22, List.forall_mem_cons.mpr ⟨lw_p23, List.forall_mem_cons.mpr ⟨lw_p24, List.forall_mem_cons.mpr ⟨lw_p25, List.forall_mem_cons.mpr ⟨lw_p26, List.forall_mem_cons.mpr ⟨lw_p27, List.forall_mem_cons.mpr ⟨lw_p28, List.forall_mem_cons.mpr ⟨lw_p29, List.forall_mem_cons.mpr ⟨lw_p30, List.forall_mem_cons.mpr ⟨lw_p31, fun _ h => absurd h List.not_mem_nil⟩⟩⟩⟩⟩⟩⟩⟩⟩⟩⟩⟩⟩⟩⟩⟩
theorem lw_p32 : lw_okq (⟨"PondLensesModel", "dryNext", "(I)I"⟩, 24) := ⟨⟨by decide +kernel, by decide +kernel⟩, List.mem_of_getElem? (i := 816) (by decide +kernel), List.mem_of_getElem? (i := 962) (by decide +kernel), List.mem_of_getElem? (i := 963) (by decide +kernel)⟩
theorem lw_p33 : lw_okq (⟨"PondLensesModel", "asFrog", "(I)I"⟩, 24) := ⟨⟨by decide +kernel, by decide +kernel⟩, List.mem_of_getElem? (i := 816) (by decide +kernel), List.mem_of_getElem? (i := 966) (by decide +kernel), List.mem_of_getElem? (i := 967) (by decide +kernel)⟩
theorem lw_p34 : lw_okq (⟨"PondLensesModel", "asHeron", "(I)I"⟩, 24) := ⟨⟨by decide +kernel, by decide +kernel⟩, List.mem_of_getElem? (i := 816) (by decide +kernel), List.mem_of_getElem? (i := 970) (by decide +kernel), List.mem_of_getElem? (i := 971) (by decide +kernel)⟩
theorem lw_p35 : lw_okq (⟨"PondLensesModel", "showing", "(I)I"⟩, 24) := ⟨⟨by decide +kernel, by decide +kernel⟩, List.mem_of_getElem? (i := 816) (by decide +kernel), List.mem_of_getElem? (i := 974) (by decide +kernel), List.mem_of_getElem? (i := 975) (by decide +kernel)⟩
theorem lw_p36 : lw_okq (⟨"PondLensesModel", "hasFish", "(II)Z"⟩, 24) := ⟨⟨by decide +kernel, by decide +kernel⟩, List.mem_of_getElem? (i := 816) (by decide +kernel), List.mem_of_getElem? (i := 978) (by decide +kernel), List.mem_of_getElem? (i := 979) (by decide +kernel)⟩
theorem lw_p37 : lw_okq (⟨"PondLensesModel", "minute", "()V"⟩, 24) := ⟨⟨by decide +kernel, by decide +kernel⟩, List.mem_of_getElem? (i := 816) (by decide +kernel), List.mem_of_getElem? (i := 995) (by decide +kernel), List.mem_of_getElem? (i := 996) (by decide +kernel)⟩
theorem lw_p38 : lw_okq (⟨"PondLensesModel", "pondsWith", "(Z)I"⟩, 24) := ⟨⟨by decide +kernel, by decide +kernel⟩, List.mem_of_getElem? (i := 816) (by decide +kernel), List.mem_of_getElem? (i := 1006) (by decide +kernel), List.mem_of_getElem? (i := 1007) (by decide +kernel)⟩
theorem lw_p39 : lw_okq (⟨"PondLensesModel", "lengths", "()I"⟩, 24) := ⟨⟨by decide +kernel, by decide +kernel⟩, List.mem_of_getElem? (i := 816) (by decide +kernel), List.mem_of_getElem? (i := 1010) (by decide +kernel), List.mem_of_getElem? (i := 1011) (by decide +kernel)⟩
theorem lw_p40 : lw_okq (⟨"PondLensesModel", "goesThrough", "(II)V"⟩, 24) := ⟨⟨by decide +kernel, by decide +kernel⟩, List.mem_of_getElem? (i := 816) (by decide +kernel), List.mem_of_getElem? (i := 1018) (by decide +kernel), List.mem_of_getElem? (i := 1019) (by decide +kernel)⟩
theorem lw_p41 : lw_okq (⟨"PondLensesModel", "begins", "(I)V"⟩, 24) := ⟨⟨by decide +kernel, by decide +kernel⟩, List.mem_of_getElem? (i := 816) (by decide +kernel), List.mem_of_getElem? (i := 1022) (by decide +kernel), List.mem_of_getElem? (i := 1023) (by decide +kernel)⟩
theorem lw_p42 : lw_okq (⟨"PondLensesModel", "steps", "()V"⟩, 24) := ⟨⟨by decide +kernel, by decide +kernel⟩, List.mem_of_getElem? (i := 816) (by decide +kernel), List.mem_of_getElem? (i := 1026) (by decide +kernel), List.mem_of_getElem? (i := 1027) (by decide +kernel)⟩
theorem lw_p43 : lw_okq (⟨"PondLensesModel", "roundOf", "(I)I"⟩, 24) := ⟨⟨by decide +kernel, by decide +kernel⟩, List.mem_of_getElem? (i := 816) (by decide +kernel), List.mem_of_getElem? (i := 1046) (by decide +kernel), List.mem_of_getElem? (i := 1047) (by decide +kernel)⟩
theorem lw_p44 : lw_okq (⟨"PondLensesModel", "isRound", "(I)Z"⟩, 24) := ⟨⟨by decide +kernel, by decide +kernel⟩, List.mem_of_getElem? (i := 816) (by decide +kernel), List.mem_of_getElem? (i := 1057) (by decide +kernel), List.mem_of_getElem? (i := 1058) (by decide +kernel)⟩
theorem lw_p45 : lw_okq (⟨"PondLensesModel", "aheadOf", "(I)I"⟩, 24) := ⟨⟨by decide +kernel, by decide +kernel⟩, List.mem_of_getElem? (i := 816) (by decide +kernel), List.mem_of_getElem? (i := 1065) (by decide +kernel), List.mem_of_getElem? (i := 1066) (by decide +kernel)⟩
theorem lw_p46 : lw_okq (⟨"PondLensesModel", "setsAside", "()V"⟩, 24) := ⟨⟨by decide +kernel, by decide +kernel⟩, List.mem_of_getElem? (i := 816) (by decide +kernel), List.mem_of_getElem? (i := 1077) (by decide +kernel), List.mem_of_getElem? (i := 1078) (by decide +kernel)⟩
theorem lw_p47 : lw_okq (⟨"PondLensesModel", "laysBack", "()V"⟩, 24) := ⟨⟨by decide +kernel, by decide +kernel⟩, List.mem_of_getElem? (i := 816) (by decide +kernel), List.mem_of_getElem? (i := 1081) (by decide +kernel), List.mem_of_getElem? (i := 1082) (by decide +kernel)⟩
def lw_privs_3 : List (MethodName × Nat) := [(⟨"PondLensesModel", "dryNext", "(I)I"⟩, 24), (⟨"PondLensesModel", "asFrog", "(I)I"⟩, 24), (⟨"PondLensesModel", "asHeron", "(I)I"⟩, 24), (⟨"PondLensesModel", "showing", "(I)I"⟩, 24), (⟨"PondLensesModel", "hasFish", "(II)Z"⟩, 24), (⟨"PondLensesModel", "minute", "()V"⟩, 24), (⟨"PondLensesModel", "pondsWith", "(Z)I"⟩, 24), (⟨"PondLensesModel", "lengths", "()I"⟩, 24), (⟨"PondLensesModel", "goesThrough", "(II)V"⟩, 24), (⟨"PondLensesModel", "begins", "(I)V"⟩, 24), (⟨"PondLensesModel", "steps", "()V"⟩, 24), (⟨"PondLensesModel", "roundOf", "(I)I"⟩, 24), (⟨"PondLensesModel", "isRound", "(I)Z"⟩, 24), (⟨"PondLensesModel", "aheadOf", "(I)I"⟩, 24), (⟨"PondLensesModel", "setsAside", "()V"⟩, 24), (⟨"PondLensesModel", "laysBack", "()V"⟩, 24)]
theorem lw_r3 : ∀ q ∈ lw_privs_3, lw_okq q := List.forall_mem_cons.mpr ⟨lw_p32, List.forall_mem_cons.mpr ⟨lw_p33, List.forall_mem_cons.mpr ⟨lw_p34, List.forall_mem_cons.mpr ⟨lw_p35, List.forall_mem_cons.mpr ⟨lw_p36, List.forall_mem_cons.mpr ⟨lw_p37, List.forall_mem_cons.mpr ⟨lw_p38, List.forall_mem_cons.mpr ⟨lw_p39, List.forall_mem_cons.mpr ⟨lw_p40, List.forall_mem_cons.mpr ⟨lw_p41, List.forall_mem_cons.mpr ⟨lw_p42, List.forall_mem_cons.mpr ⟨lw_p43, List.forall_mem_cons.mpr ⟨lw_p44, List.forall_mem_cons.mpr ⟨lw_p45, List.forall_mem_cons.mpr ⟨lw_p46, List.forall_mem_cons.mpr ⟨lw_p47, fun _ h => absurd h List.not_mem_nil⟩⟩⟩⟩⟩⟩⟩⟩⟩⟩⟩⟩⟩⟩⟩⟩
theorem lw_p48 : lw_okq (⟨"PondLensesModel", "firstBy", "(III)I"⟩, 24) := ⟨⟨by decide +kernel, by decide +kernel⟩, List.mem_of_getElem? (i := 816) (by decide +kernel), List.mem_of_getElem? (i := 1089) (by decide +kernel), List.mem_of_getElem? (i := 1090) (by decide +kernel)⟩
theorem lw_p49 : lw_okq (⟨"PondLensesModel", "countsNone", "()V"⟩, 24) := ⟨⟨by decide +kernel, by decide +kernel⟩, List.mem_of_getElem? (i := 816) (by decide +kernel), List.mem_of_getElem? (i := 1105) (by decide +kernel), List.mem_of_getElem? (i := 1106) (by decide +kernel)⟩
theorem lw_p50 : lw_okq (⟨"PondLensesModel", "mostOf", "()I"⟩, 24) := ⟨⟨by decide +kernel, by decide +kernel⟩, List.mem_of_getElem? (i := 816) (by decide +kernel), List.mem_of_getElem? (i := 1109) (by decide +kernel), List.mem_of_getElem? (i := 1110) (by decide +kernel)⟩
theorem lw_p51 : lw_okq (⟨"PondLensesModel", "wrongSight", "(II)I"⟩, 24) := ⟨⟨by decide +kernel, by decide +kernel⟩, List.mem_of_getElem? (i := 816) (by decide +kernel), List.mem_of_getElem? (i := 1121) (by decide +kernel), List.mem_of_getElem? (i := 1122) (by decide +kernel)⟩
theorem lw_p52 : lw_okq (⟨"PondLensesModel", "wrongSheet", "(I)I"⟩, 24) := ⟨⟨by decide +kernel, by decide +kernel⟩, List.mem_of_getElem? (i := 816) (by decide +kernel), List.mem_of_getElem? (i := 1125) (by decide +kernel), List.mem_of_getElem? (i := 1126) (by decide +kernel)⟩
theorem lw_p53 : lw_okq (⟨"PondLensesModel", "fitsAs", "(III)Z"⟩, 24) := ⟨⟨by decide +kernel, by decide +kernel⟩, List.mem_of_getElem? (i := 816) (by decide +kernel), List.mem_of_getElem? (i := 1132) (by decide +kernel), List.mem_of_getElem? (i := 1133) (by decide +kernel)⟩
theorem lw_p54 : lw_okq (⟨"PondLensesModel", "told", "(II)I"⟩, 24) := ⟨⟨by decide +kernel, by decide +kernel⟩, List.mem_of_getElem? (i := 816) (by decide +kernel), List.mem_of_getElem? (i := 1136) (by decide +kernel), List.mem_of_getElem? (i := 1137) (by decide +kernel)⟩
theorem lw_p55 : lw_okq (⟨"PondLensesModel", "draw", "()I"⟩, 24) := ⟨⟨by decide +kernel, by decide +kernel⟩, List.mem_of_getElem? (i := 816) (by decide +kernel), List.mem_of_getElem? (i := 1165) (by decide +kernel), List.mem_of_getElem? (i := 1166) (by decide +kernel)⟩
theorem lw_p56 : lw_okq (⟨"PondLensesModel", "nextToken", "()V"⟩, 24) := ⟨⟨by decide +kernel, by decide +kernel⟩, List.mem_of_getElem? (i := 816) (by decide +kernel), List.mem_of_getElem? (i := 1191) (by decide +kernel), List.mem_of_getElem? (i := 1192) (by decide +kernel)⟩
theorem lw_p57 : lw_okq (⟨"PondLensesModel", "readsItem", "()Z"⟩, 24) := ⟨⟨by decide +kernel, by decide +kernel⟩, List.mem_of_getElem? (i := 816) (by decide +kernel), List.mem_of_getElem? (i := 1207) (by decide +kernel), List.mem_of_getElem? (i := 1208) (by decide +kernel)⟩
theorem lw_p58 : lw_okq (⟨"PondLensesModel", "wordOf", "([C)I"⟩, 24) := ⟨⟨by decide +kernel, by decide +kernel⟩, List.mem_of_getElem? (i := 816) (by decide +kernel), List.mem_of_getElem? (i := 1211) (by decide +kernel), List.mem_of_getElem? (i := 1212) (by decide +kernel)⟩
theorem lw_p59 : lw_okq (⟨"PondLensesModel", "readsThing", "(I)Z"⟩, 24) := ⟨⟨by decide +kernel, by decide +kernel⟩, List.mem_of_getElem? (i := 816) (by decide +kernel), List.mem_of_getElem? (i := 1215) (by decide +kernel), List.mem_of_getElem? (i := 1216) (by decide +kernel)⟩
theorem lw_p60 : lw_okq (⟨"PondLensesModel", "takesNumber", "(II)I"⟩, 24) := ⟨⟨by decide +kernel, by decide +kernel⟩, List.mem_of_getElem? (i := 816) (by decide +kernel), List.mem_of_getElem? (i := 1219) (by decide +kernel), List.mem_of_getElem? (i := 1220) (by decide +kernel)⟩
theorem lw_p61 : lw_okq (⟨"PondLensesModel", "readsPond", "()Z"⟩, 24) := ⟨⟨by decide +kernel, by decide +kernel⟩, List.mem_of_getElem? (i := 816) (by decide +kernel), List.mem_of_getElem? (i := 1223) (by decide +kernel), List.mem_of_getElem? (i := 1224) (by decide +kernel)⟩
def lw_privs_4 : List (MethodName × Nat) := [(⟨"PondLensesModel", "firstBy", "(III)I"⟩, 24), (⟨"PondLensesModel", "countsNone", "()V"⟩, 24), (⟨"PondLensesModel", "mostOf", "()I"⟩, 24), (⟨"PondLensesModel", "wrongSight", "(II)I"⟩, 24), (⟨"PondLensesModel", "wrongSheet", "(I)I"⟩, 24), (⟨"PondLensesModel", "fitsAs", "(III)Z"⟩, 24), (⟨"PondLensesModel", "told", "(II)I"⟩, 24), (⟨"PondLensesModel", "draw", "()I"⟩, 24), (⟨"PondLensesModel", "nextToken", "()V"⟩, 24), (⟨"PondLensesModel", "readsItem", "()Z"⟩, 24), (⟨"PondLensesModel", "wordOf", "([C)I"⟩, 24), (⟨"PondLensesModel", "readsThing", "(I)Z"⟩, 24), (⟨"PondLensesModel", "takesNumber", "(II)I"⟩, 24), (⟨"PondLensesModel", "readsPond", "()Z"⟩, 24)]
theorem lw_r4 : ∀ q ∈ lw_privs_4, lw_okq q := List.forall_mem_cons.mpr ⟨lw_p48, List.forall_mem_cons.mpr ⟨lw_p49, List.forall_mem_cons.mpr ⟨lw_p50, List.forall_mem_cons.mpr ⟨lw_p51, List.forall_mem_cons.mpr ⟨lw_p52, List.forall_mem_cons.mpr ⟨lw_p53, List.forall_mem_cons.mpr ⟨lw_p54, List.forall_mem_cons.mpr ⟨lw_p55, List.forall_mem_cons.mpr ⟨lw_p56, List.forall_mem_cons.mpr ⟨lw_p57, List.forall_mem_cons.mpr ⟨lw_p58, List.forall_mem_cons.mpr ⟨lw_p59, List.forall_mem_cons.mpr ⟨lw_p60, List.forall_mem_cons.mpr ⟨lw_p61, fun _ h => absurd h List.not_mem_nil⟩⟩⟩⟩⟩⟩⟩⟩⟩⟩⟩⟩⟩⟩
def lw_privs : List (MethodName × Nat) := lw_privs_1 ++ (lw_privs_2 ++ (lw_privs_3 ++ (lw_privs_4)))
def lw_tbl : List Cond := k2_sels lw_privs ++ tables_1
theorem lw_privs_ok : ∀ q ∈ lw_privs, lw_okq q := by
  show ∀ q ∈ lw_privs_1 ++ (lw_privs_2 ++ (lw_privs_3 ++ (lw_privs_4))), lw_okq q
  exact List.forall_mem_append.mpr ⟨lw_r1, List.forall_mem_append.mpr ⟨lw_r2, List.forall_mem_append.mpr ⟨lw_r3, lw_r4⟩⟩⟩
def RX0 : String := "PondLenses$Chain"
def TX0 : u_T := fun k => match k with
  | 0 => ("PondLenses$Chain", "end", "I", false)
  | 1 => ("PondLenses$Chain", "size", "I", false)
  | 2 => ("PondLenses$Chain", "turned", "I", false)
  | _ => ("PondLenses$Chain", "flipped", "I", false)
def tyX0 : Nat → FieldType := fun k => match k with
  | 0 => .int
  | 1 => .int
  | 2 => .int
  | _ => .int
abbrev wsX00 : List Cond := u_ws RX0 TX0 4
theorem nmX0 : ∀ a, a < 4 → ∀ b, b < 4 → a ≠ b → (TX0 a).2.1 ≠ (TX0 b).2.1 := by decide +kernel
theorem tyX0_ok : ∀ k, k < 4 → parseFieldDescriptor (TX0 k).2.2.1 = some (tyX0 k) := by decide +kernel
abbrev cX0_init : ByteArray := prog_2_method_1_code
def yX0_init : MethodName := ⟨RX0, "<init>", "()V"⟩
abbrev cX0_begin : ByteArray := prog_2_method_2_code
def yX0_begin : MethodName := ⟨RX0, "begin", "(I)V"⟩
abbrev cX0_step : ByteArray := prog_2_method_3_code
def yX0_step : MethodName := ⟨RX0, "step", "(LPondLenses$Fen;)V"⟩
abbrev cX0_take : ByteArray := prog_2_method_4_code
def yX0_take : MethodName := ⟨RX0, "take", "(LPondLenses$Fen;II)V"⟩
def RX1 : String := "PondLenses$Fen"
def TX1 : u_T := fun k => match k with
  | 0 => ("PondLenses$Fen", "ponds", "[[I", true)
  | 1 => ("PondLenses$Fen", "things", "[[I", true)
  | 2 => ("PondLenses$Fen", "spots", "[I", true)
  | 3 => ("PondLenses$Fen", "size", "I", false)
  | 4 => ("PondLenses$Fen", "rain", "I", false)
  | 5 => ("PondLenses$Fen", "minute", "I", false)
  | _ => ("PondLenses$Fen", "z", "I", false)
def tyX1 : Nat → FieldType := fun k => match k with
  | 0 => .array (.array .int)
  | 1 => .array (.array .int)
  | 2 => .array .int
  | 3 => .int
  | 4 => .int
  | 5 => .int
  | _ => .int
abbrev wsX10 : List Cond := u_ws RX1 TX1 7
theorem nmX1 : ∀ a, a < 7 → ∀ b, b < 7 → a ≠ b → (TX1 a).2.1 ≠ (TX1 b).2.1 := by decide +kernel
theorem tyX1_ok : ∀ k, k < 7 → parseFieldDescriptor (TX1 k).2.2.1 = some (tyX1 k) := by decide +kernel
abbrev cX1_init : ByteArray := prog_3_method_1_code
def yX1_init : MethodName := ⟨RX1, "<init>", "()V"⟩
abbrev cX1_become : ByteArray := prog_3_method_2_code
def yX1_become : MethodName := ⟨RX1, "become", "(LPondLenses$Fen;)V"⟩
abbrev cX1_has : ByteArray := prog_3_method_3_code
def yX1_has : MethodName := ⟨RX1, "has", "(I)Z"⟩
abbrev cX1_isFull : ByteArray := prog_3_method_4_code
def yX1_isFull : MethodName := ⟨RX1, "isFull", "()Z"⟩
abbrev cX1_add : ByteArray := prog_3_method_5_code
def yX1_add : MethodName := ⟨RX1, "add", "(III)I"⟩
abbrev cX1_isOfKind : ByteArray := prog_3_method_6_code
def yX1_isOfKind : MethodName := ⟨RX1, "isOfKind", "(II)Z"⟩
abbrev cX1_thingsIn : ByteArray := prog_3_method_7_code
def yX1_thingsIn : MethodName := ⟨RX1, "thingsIn", "(I)I"⟩
abbrev cX1_thingsSeenIn : ByteArray := prog_3_method_8_code
def yX1_thingsSeenIn : MethodName := ⟨RX1, "thingsSeenIn", "(I)I"⟩
abbrev cX1_showersOf : ByteArray := prog_3_method_9_code
def yX1_showersOf : MethodName := ⟨RX1, "showersOf", "(I)I"⟩
abbrev cX1_pondsWithThings : ByteArray := prog_3_method_10_code
def yX1_pondsWithThings : MethodName := ⟨RX1, "pondsWithThings", "()I"⟩
abbrev cX1_pondsWithSights : ByteArray := prog_3_method_11_code
def yX1_pondsWithSights : MethodName := ⟨RX1, "pondsWithSights", "()I"⟩
abbrev cX1_lengths : ByteArray := prog_3_method_12_code
def yX1_lengths : MethodName := ⟨RX1, "lengths", "()I"⟩
abbrev cX1_spotsInUse : ByteArray := prog_3_method_13_code
def yX1_spotsInUse : MethodName := ⟨RX1, "spotsInUse", "()I"⟩
abbrev cX1_passMinute : ByteArray := prog_3_method_14_code
def yX1_passMinute : MethodName := ⟨RX1, "passMinute", "()V"⟩
abbrev cX1_nextPond : ByteArray := prog_3_method_15_code
def yX1_nextPond : MethodName := ⟨RX1, "nextPond", "(I)I"⟩
abbrev cX1_nextOfFrog : ByteArray := prog_3_method_16_code
def yX1_nextOfFrog : MethodName := ⟨RX1, "nextOfFrog", "(I)I"⟩
abbrev cX1_nextOfHeron : ByteArray := prog_3_method_17_code
def yX1_nextOfHeron : MethodName := ⟨RX1, "nextOfHeron", "(I)I"⟩
abbrev cX1_nextOfPike : ByteArray := prog_3_method_18_code
def yX1_nextOfPike : MethodName := ⟨RX1, "nextOfPike", "(I)I"⟩
abbrev cX1_hasFishIn : ByteArray := prog_3_method_19_code
def yX1_hasFishIn : MethodName := ⟨RX1, "hasFishIn", "(I)Z"⟩
abbrev cX1_draw : ByteArray := prog_3_method_20_code
def yX1_draw : MethodName := ⟨RX1, "draw", "()I"⟩
abbrev cX1_dropOne : ByteArray := prog_3_method_21_code
def yX1_dropOne : MethodName := ⟨RX1, "dropOne", "()V"⟩
abbrev cX1_chainEnd : ByteArray := prog_3_method_22_code
def yX1_chainEnd : MethodName := ⟨RX1, "chainEnd", "(II)I"⟩
abbrev cX1_chainComes : ByteArray := prog_3_method_23_code
def yX1_chainComes : MethodName := ⟨RX1, "chainComes", "(II)Z"⟩
abbrev cX1_roundLength : ByteArray := prog_3_method_24_code
def yX1_roundLength : MethodName := ⟨RX1, "roundLength", "(I)I"⟩
abbrev cX1_isLeastOfRound : ByteArray := prog_3_method_25_code
def yX1_isLeastOfRound : MethodName := ⟨RX1, "isLeastOfRound", "(I)Z"⟩
def RX2 : String := "PondLenses$Foresight"
def TX2 : u_T := fun k => match k with
  | _ => ("PondLenses$Foresight", "tally", "[I", true)
def tyX2 : Nat → FieldType := fun k => match k with
  | _ => .array .int
abbrev wsX20 : List Cond := u_ws RX2 TX2 1
theorem nmX2 : ∀ a, a < 1 → ∀ b, b < 1 → a ≠ b → (TX2 a).2.1 ≠ (TX2 b).2.1 := by decide +kernel
theorem tyX2_ok : ∀ k, k < 1 → parseFieldDescriptor (TX2 k).2.2.1 = some (tyX2 k) := by decide +kernel
abbrev cX2_init : ByteArray := prog_4_method_1_code
def yX2_init : MethodName := ⟨RX2, "<init>", "()V"⟩
abbrev cX2_minutesTo : ByteArray := prog_4_method_2_code
def yX2_minutesTo : MethodName := ⟨RX2, "minutesTo", "(LPondLenses$Fen;II)I"⟩
abbrev cX2_minutesToMeeting : ByteArray := prog_4_method_3_code
def yX2_minutesToMeeting : MethodName := ⟨RX2, "minutesToMeeting", "(LPondLenses$Fen;II)I"⟩
abbrev cX2_usualPond : ByteArray := prog_4_method_4_code
def yX2_usualPond : MethodName := ⟨RX2, "usualPond", "(LPondLenses$Fen;II)I"⟩
abbrev cX2_pondsVisited : ByteArray := prog_4_method_5_code
def yX2_pondsVisited : MethodName := ⟨RX2, "pondsVisited", "(LPondLenses$Fen;I)I"⟩
abbrev cX2_showsAsTold : ByteArray := prog_4_method_6_code
def yX2_showsAsTold : MethodName := ⟨RX2, "showsAsTold", "(LPondLenses$Fen;ILPondLenses$Sheet;)Z"⟩
abbrev cX2_thingsOnCourse : ByteArray := prog_4_method_7_code
def yX2_thingsOnCourse : MethodName := ⟨RX2, "thingsOnCourse", "(LPondLenses$Fen;LPondLenses$Sheet;)I"⟩
abbrev cX2_busiestPond : ByteArray := prog_4_method_8_code
def yX2_busiestPond : MethodName := ⟨RX2, "busiestPond", "(LPondLenses$Fen;I)I"⟩
abbrev cX2_clearTally : ByteArray := prog_4_method_9_code
def yX2_clearTally : MethodName := ⟨RX2, "clearTally", "()V"⟩
abbrev cX2_leastOfMost : ByteArray := prog_4_method_10_code
def yX2_leastOfMost : MethodName := ⟨RX2, "leastOfMost", "()I"⟩
def RX3 : String := "PondLenses$Sheet"
def TX3 : u_T := fun k => match k with
  | 0 => ("PondLenses$Sheet", "numbers", "[I", true)
  | 1 => ("PondLenses$Sheet", "bits", "I", false)
  | _ => ("PondLenses$Sheet", "length", "I", false)
def tyX3 : Nat → FieldType := fun k => match k with
  | 0 => .array .int
  | 1 => .int
  | _ => .int
abbrev wsX30 : List Cond := u_ws RX3 TX3 3
theorem nmX3 : ∀ a, a < 3 → ∀ b, b < 3 → a ≠ b → (TX3 a).2.1 ≠ (TX3 b).2.1 := by decide +kernel
theorem tyX3_ok : ∀ k, k < 3 → parseFieldDescriptor (TX3 k).2.2.1 = some (tyX3 k) := by decide +kernel
abbrev cX3_init : ByteArray := prog_5_method_1_code
def yX3_init : MethodName := ⟨RX3, "<init>", "()V"⟩
abbrev cX3_isMissing : ByteArray := prog_5_method_2_code
def yX3_isMissing : MethodName := ⟨RX3, "isMissing", "()Z"⟩
abbrev cX3_clear : ByteArray := prog_5_method_3_code
def yX3_clear : MethodName := ⟨RX3, "clear", "(II)V"⟩
abbrev cX3_put : ByteArray := prog_5_method_4_code
def yX3_put : MethodName := ⟨RX3, "put", "(II)V"⟩
abbrev cX3_reaches : ByteArray := prog_5_method_5_code
def yX3_reaches : MethodName := ⟨RX3, "reaches", "(II)Z"⟩
def RX4 : String := "PondLenses$Tape"
def TX4 : u_T := fun k => match k with
  | 0 => ("PondLenses$Tape", "bytes", "[I", true)
  | _ => ("PondLenses$Tape", "length", "I", false)
def tyX4 : Nat → FieldType := fun k => match k with
  | 0 => .array .int
  | _ => .int
abbrev wsX40 : List Cond := u_ws RX4 TX4 2
theorem nmX4 : ∀ a, a < 2 → ∀ b, b < 2 → a ≠ b → (TX4 a).2.1 ≠ (TX4 b).2.1 := by decide +kernel
theorem tyX4_ok : ∀ k, k < 2 → parseFieldDescriptor (TX4 k).2.2.1 = some (tyX4 k) := by decide +kernel
abbrev cX4_init : ByteArray := prog_6_method_1_code
def yX4_init : MethodName := ⟨RX4, "<init>", "()V"⟩
abbrev cX4_append : ByteArray := prog_6_method_2_code
def yX4_append : MethodName := ⟨RX4, "append", "(I)V"⟩
abbrev cX4_at : ByteArray := prog_6_method_3_code
def yX4_at : MethodName := ⟨RX4, "at", "(I)I"⟩
abbrev cX4_says : ByteArray := prog_6_method_4_code
def yX4_says : MethodName := ⟨RX4, "says", "(Ljava/lang/String;II)Z"⟩
def RX5 : String := "PondLenses$TextReader"
def TX5 : u_T := fun k => match k with
  | 0 => ("PondLenses$TextReader", "tokens", "LPondLenses$Tokens;", true)
  | _ => ("PondLenses$TextReader", "fault", "I", false)
def tyX5 : Nat → FieldType := fun k => match k with
  | 0 => .object "PondLenses$Tokens"
  | _ => .int
abbrev wsX50 : List Cond := u_ws RX5 TX5 2
theorem nmX5 : ∀ a, a < 2 → ∀ b, b < 2 → a ≠ b → (TX5 a).2.1 ≠ (TX5 b).2.1 := by decide +kernel
theorem tyX5_ok : ∀ k, k < 2 → parseFieldDescriptor (TX5 k).2.2.1 = some (tyX5 k) := by decide +kernel
abbrev cX5_init : ByteArray := prog_7_method_1_code
def yX5_init : MethodName := ⟨RX5, "<init>", "()V"⟩
abbrev cX5_read : ByteArray := prog_7_method_2_code
def yX5_read : MethodName := ⟨RX5, "read", "(LPondLenses$Tape;LPondLenses$Fen;)I"⟩
abbrev cX5_readItem : ByteArray := prog_7_method_3_code
def yX5_readItem : MethodName := ⟨RX5, "readItem", "(LPondLenses$Fen;)V"⟩
abbrev cX5_readThing : ByteArray := prog_7_method_4_code
def yX5_readThing : MethodName := ⟨RX5, "readThing", "(LPondLenses$Fen;)V"⟩
abbrev cX5_readPond : ByteArray := prog_7_method_5_code
def yX5_readPond : MethodName := ⟨RX5, "readPond", "(LPondLenses$Fen;)V"⟩
abbrev cX5_readNumber : ByteArray := prog_7_method_6_code
def yX5_readNumber : MethodName := ⟨RX5, "readNumber", "(III)I"⟩
abbrev cX5_hasWord : ByteArray := prog_7_method_7_code
def yX5_hasWord : MethodName := ⟨RX5, "hasWord", "(I)Z"⟩
abbrev cX5_hasKind : ByteArray := prog_7_method_8_code
def yX5_hasKind : MethodName := ⟨RX5, "hasKind", "()Z"⟩
abbrev cX5_hasNumber : ByteArray := prog_7_method_9_code
def yX5_hasNumber : MethodName := ⟨RX5, "hasNumber", "()Z"⟩
abbrev cX5_hasSign : ByteArray := prog_7_method_10_code
def yX5_hasSign : MethodName := ⟨RX5, "hasSign", "()Z"⟩
abbrev cX5_fail : ByteArray := prog_7_method_11_code
def yX5_fail : MethodName := ⟨RX5, "fail", "()V"⟩
def RX6 : String := "PondLenses$Tokens"
def TX6 : u_T := fun k => match k with
  | 0 => ("PondLenses$Tokens", "sorts", "[I", true)
  | 1 => ("PondLenses$Tokens", "begins", "[I", true)
  | 2 => ("PondLenses$Tokens", "values", "[I", true)
  | _ => ("PondLenses$Tokens", "at", "I", false)
def tyX6 : Nat → FieldType := fun k => match k with
  | 0 => .array .int
  | 1 => .array .int
  | 2 => .array .int
  | _ => .int
abbrev wsX60 : List Cond := u_ws RX6 TX6 4
theorem nmX6 : ∀ a, a < 4 → ∀ b, b < 4 → a ≠ b → (TX6 a).2.1 ≠ (TX6 b).2.1 := by decide +kernel
theorem tyX6_ok : ∀ k, k < 4 → parseFieldDescriptor (TX6 k).2.2.1 = some (tyX6 k) := by decide +kernel
abbrev cX6_init : ByteArray := prog_8_method_1_code
def yX6_init : MethodName := ⟨RX6, "<init>", "()V"⟩
abbrev cX6_take : ByteArray := prog_8_method_2_code
def yX6_take : MethodName := ⟨RX6, "take", "(LPondLenses$Tape;)V"⟩
abbrev cX6_begin : ByteArray := prog_8_method_3_code
def yX6_begin : MethodName := ⟨RX6, "begin", "()I"⟩
abbrev cX6_value : ByteArray := prog_8_method_4_code
def yX6_value : MethodName := ⟨RX6, "value", "()I"⟩
abbrev cX6_isSort : ByteArray := prog_8_method_5_code
def yX6_isSort : MethodName := ⟨RX6, "isSort", "(I)Z"⟩
abbrev cX6_isWord : ByteArray := prog_8_method_6_code
def yX6_isWord : MethodName := ⟨RX6, "isWord", "(I)Z"⟩
abbrev cX6_advance : ByteArray := prog_8_method_7_code
def yX6_advance : MethodName := ⟨RX6, "advance", "()V"⟩
abbrev cX6_takeOne : ByteArray := prog_8_method_8_code
def yX6_takeOne : MethodName := ⟨RX6, "takeOne", "(LPondLenses$Tape;II)I"⟩
abbrev cX6_isLetter : ByteArray := prog_8_method_9_code
def yX6_isLetter : MethodName := ⟨RX6, "isLetter", "(I)Z"⟩
abbrev cX6_isDigit : ByteArray := prog_8_method_10_code
def yX6_isDigit : MethodName := ⟨RX6, "isDigit", "(I)Z"⟩
abbrev cX6_wordAt : ByteArray := prog_8_method_11_code
def yX6_wordAt : MethodName := ⟨RX6, "wordAt", "(LPondLenses$Tape;II)I"⟩
abbrev cX6_nameOf : ByteArray := prog_8_method_12_code
def yX6_nameOf : MethodName := ⟨RX6, "nameOf", "(I)Ljava/lang/String;"⟩
def RX7 : String := "PondLenses"
def TX7 : u_T := fun k => match k with
  | 0 => ("PondLenses", "fen", "LPondLenses$Fen;", true)
  | 1 => ("PondLenses", "draft", "LPondLenses$Fen;", true)
  | 2 => ("PondLenses", "kept", "LPondLenses$Fen;", true)
  | 3 => ("PondLenses", "keeps", "Z", false)
  | 4 => ("PondLenses", "walk", "LPondLenses$Chain;", true)
  | 5 => ("PondLenses", "foresight", "LPondLenses$Foresight;", true)
  | 6 => ("PondLenses", "tape", "LPondLenses$Tape;", true)
  | 7 => ("PondLenses", "reader", "LPondLenses$TextReader;", true)
  | 8 => ("PondLenses", "sheets", "[LPondLenses$Sheet;", true)
  | _ => ("PondLenses", "found", "[I", true)
def tyX7 : Nat → FieldType := fun k => match k with
  | 0 => .object "PondLenses$Fen"
  | 1 => .object "PondLenses$Fen"
  | 2 => .object "PondLenses$Fen"
  | 3 => .boolean
  | 4 => .object "PondLenses$Chain"
  | 5 => .object "PondLenses$Foresight"
  | 6 => .object "PondLenses$Tape"
  | 7 => .object "PondLenses$TextReader"
  | 8 => .array (.object "PondLenses$Sheet")
  | _ => .array .int
abbrev wsX70 : List Cond := u_ws RX7 TX7 10
theorem nmX7 : ∀ a, a < 10 → ∀ b, b < 10 → a ≠ b → (TX7 a).2.1 ≠ (TX7 b).2.1 := by decide +kernel
theorem tyX7_ok : ∀ k, k < 10 → parseFieldDescriptor (TX7 k).2.2.1 = some (tyX7 k) := by decide +kernel
abbrev cX7_init : ByteArray := prog_1_method_1_code
def yX7_init : MethodName := ⟨RX7, "<init>", "()V"⟩
abbrev cX7_pond : ByteArray := prog_1_method_2_code
def yX7_pond : MethodName := ⟨RX7, "pond", "(II)I"⟩
abbrev cX7_dig : ByteArray := prog_1_method_3_code
def yX7_dig : MethodName := ⟨RX7, "dig", "(III)I"⟩
abbrev cX7_thing : ByteArray := prog_1_method_4_code
def yX7_thing : MethodName := ⟨RX7, "thing", "(II)I"⟩
abbrev cX7_of : ByteArray := prog_1_method_5_code
def yX7_of : MethodName := ⟨RX7, "of", "(II)I"⟩
abbrev cX7_change : ByteArray := prog_1_method_6_code
def yX7_change : MethodName := ⟨RX7, "change", "(III)I"⟩
abbrev cX7_rain : ByteArray := prog_1_method_7_code
def yX7_rain : MethodName := ⟨RX7, "rain", "(I)I"⟩
abbrev cX7_go : ByteArray := prog_1_method_8_code
def yX7_go : MethodName := ⟨RX7, "go", "(I)I"⟩
abbrev cX7_now : ByteArray := prog_1_method_9_code
def yX7_now : MethodName := ⟨RX7, "now", "(I)I"⟩
abbrev cX7_chain : ByteArray := prog_1_method_10_code
def yX7_chain : MethodName := ⟨RX7, "chain", "(III)I"⟩
abbrev cX7_through : ByteArray := prog_1_method_11_code
def yX7_through : MethodName := ⟨RX7, "through", "(II)I"⟩
abbrev cX7_upright : ByteArray := prog_1_method_12_code
def yX7_upright : MethodName := ⟨RX7, "upright", "(I)I"⟩
abbrev cX7_large : ByteArray := prog_1_method_13_code
def yX7_large : MethodName := ⟨RX7, "large", "(III)I"⟩
abbrev cX7_round : ByteArray := prog_1_method_14_code
def yX7_round : MethodName := ⟨RX7, "round", "(I)I"⟩
abbrev cX7_rounds : ByteArray := prog_1_method_15_code
def yX7_rounds : MethodName := ⟨RX7, "rounds", "()I"⟩
abbrev cX7_before : ByteArray := prog_1_method_16_code
def yX7_before : MethodName := ⟨RX7, "before", "(I)I"⟩
abbrev cX7_shownBy : ByteArray := prog_1_method_17_code
def yX7_shownBy : MethodName := ⟨RX7, "shownBy", "(I)I"⟩
abbrev cX7_ahead : ByteArray := prog_1_method_18_code
def yX7_ahead : MethodName := ⟨RX7, "ahead", "(II)I"⟩
abbrev cX7_comes : ByteArray := prog_1_method_19_code
def yX7_comes : MethodName := ⟨RX7, "comes", "(II)I"⟩
abbrev cX7_seen : ByteArray := prog_1_method_20_code
def yX7_seen : MethodName := ⟨RX7, "seen", "(II)I"⟩
abbrev cX7_meet : ByteArray := prog_1_method_21_code
def yX7_meet : MethodName := ⟨RX7, "meet", "(II)I"⟩
abbrev cX7_cast : ByteArray := prog_1_method_22_code
def yX7_cast : MethodName := ⟨RX7, "cast", "(II)I"⟩
abbrev cX7_kindFor : ByteArray := prog_1_method_23_code
def yX7_kindFor : MethodName := ⟨RX7, "kindFor", "(I)I"⟩
abbrev cX7_fits : ByteArray := prog_1_method_24_code
def yX7_fits : MethodName := ⟨RX7, "fits", "(II)I"⟩
abbrev cX7_lens : ByteArray := prog_1_method_25_code
def yX7_lens : MethodName := ⟨RX7, "lens", "(II)I"⟩
abbrev cX7_which : ByteArray := prog_1_method_26_code
def yX7_which : MethodName := ⟨RX7, "which", "(I)I"⟩
abbrev cX7_eyes : ByteArray := prog_1_method_27_code
def yX7_eyes : MethodName := ⟨RX7, "eyes", "()I"⟩
abbrev cX7_dredge : ByteArray := prog_1_method_28_code
def yX7_dredge : MethodName := ⟨RX7, "dredge", "(II)I"⟩
abbrev cX7_watch : ByteArray := prog_1_method_29_code
def yX7_watch : MethodName := ⟨RX7, "watch", "(I)I"⟩
abbrev cX7_falls : ByteArray := prog_1_method_30_code
def yX7_falls : MethodName := ⟨RX7, "falls", "(I)I"⟩
abbrev cX7_odds : ByteArray := prog_1_method_31_code
def yX7_odds : MethodName := ⟨RX7, "odds", "(II)J"⟩
abbrev cX7_seed : ByteArray := prog_1_method_32_code
def yX7_seed : MethodName := ⟨RX7, "seed", "(I)I"⟩
abbrev cX7_feed : ByteArray := prog_1_method_33_code
def yX7_feed : MethodName := ⟨RX7, "feed", "(II)I"⟩
abbrev cX7_wipe : ByteArray := prog_1_method_34_code
def yX7_wipe : MethodName := ⟨RX7, "wipe", "()I"⟩
abbrev cX7_text : ByteArray := prog_1_method_35_code
def yX7_text : MethodName := ⟨RX7, "text", "()I"⟩
abbrev cX7_hold : ByteArray := prog_1_method_36_code
def yX7_hold : MethodName := ⟨RX7, "hold", "(II)I"⟩
abbrev cX7_as : ByteArray := prog_1_method_37_code
def yX7_as : MethodName := ⟨RX7, "as", "(II)I"⟩
abbrev cX7_sheet : ByteArray := prog_1_method_38_code
def yX7_sheet : MethodName := ⟨RX7, "sheet", "(III)I"⟩
abbrev cX7_write : ByteArray := prog_1_method_39_code
def yX7_write : MethodName := ⟨RX7, "write", "(III)I"⟩
abbrev cX7_copy : ByteArray := prog_1_method_40_code
def yX7_copy : MethodName := ⟨RX7, "copy", "(IIIII)I"⟩
abbrev cX7_load : ByteArray := prog_1_method_41_code
def yX7_load : MethodName := ⟨RX7, "load", "(I)I"⟩
abbrev cX7_judge : ByteArray := prog_1_method_42_code
def yX7_judge : MethodName := ⟨RX7, "judge", "(I)I"⟩
abbrev cX7_image : ByteArray := prog_1_method_43_code
def yX7_image : MethodName := ⟨RX7, "image", "()I"⟩
abbrev cX7_undo : ByteArray := prog_1_method_44_code
def yX7_undo : MethodName := ⟨RX7, "undo", "()I"⟩
abbrev cX7_tear : ByteArray := prog_1_method_45_code
def yX7_tear : MethodName := ⟨RX7, "tear", "()I"⟩
abbrev cX7_count : ByteArray := prog_1_method_46_code
def yX7_count : MethodName := ⟨RX7, "count", "(I)I"⟩
abbrev cX7_status : ByteArray := prog_1_method_47_code
def yX7_status : MethodName := ⟨RX7, "status", "(I)I"⟩
abbrev cX7_finding : ByteArray := prog_1_method_48_code
def yX7_finding : MethodName := ⟨RX7, "finding", "(I)I"⟩
abbrev cX7_findingOrAnswer : ByteArray := prog_1_method_49_code
def yX7_findingOrAnswer : MethodName := ⟨RX7, "findingOrAnswer", "(I)I"⟩
abbrev cX7_lackOfSheet : ByteArray := prog_1_method_50_code
def yX7_lackOfSheet : MethodName := ⟨RX7, "lackOfSheet", "(I)I"⟩
abbrev cX7_lackOfSight : ByteArray := prog_1_method_51_code
def yX7_lackOfSight : MethodName := ⟨RX7, "lackOfSight", "(II)I"⟩
abbrev cX7_lensesFor : ByteArray := prog_1_method_52_code
def yX7_lensesFor : MethodName := ⟨RX7, "lensesFor", "(LPondLenses$Sheet;I)I"⟩
abbrev cX7_isPond : ByteArray := prog_1_method_53_code
def yX7_isPond : MethodName := ⟨RX7, "isPond", "(I)Z"⟩
abbrev cX7_isKind : ByteArray := prog_1_method_54_code
def yX7_isKind : MethodName := ⟨RX7, "isKind", "(I)Z"⟩
abbrev cX7_isSpot : ByteArray := prog_1_method_55_code
def yX7_isSpot : MethodName := ⟨RX7, "isSpot", "(I)Z"⟩
abbrev cX7_isSheet : ByteArray := prog_1_method_56_code
def yX7_isSheet : MethodName := ⟨RX7, "isSheet", "(I)Z"⟩
abbrev cX7_isBits : ByteArray := prog_1_method_57_code
def yX7_isBits : MethodName := ⟨RX7, "isBits", "(I)Z"⟩
abbrev cX7_isSteps : ByteArray := prog_1_method_58_code
def yX7_isSteps : MethodName := ⟨RX7, "isSteps", "(I)Z"⟩
abbrev cX7_fitsPond : ByteArray := prog_1_method_59_code
def yX7_fitsPond : MethodName := ⟨RX7, "fitsPond", "(III)Z"⟩
abbrev cX7_fitsThing : ByteArray := prog_1_method_60_code
def yX7_fitsThing : MethodName := ⟨RX7, "fitsThing", "(II)Z"⟩
abbrev cX7_fitsDepth : ByteArray := prog_1_method_61_code
def yX7_fitsDepth : MethodName := ⟨RX7, "fitsDepth", "(II)Z"⟩
def RX8 : String := "PondLensesModel"
def TX8 : u_T := fun k => match k with
  | 0 => ("PondLensesModel", "s", "[I", true)
  | 1 => ("PondLensesModel", "kept", "[I", true)
  | 2 => ("PondLensesModel", "aside", "[I", true)
  | 3 => ("PondLensesModel", "isKept", "Z", false)
  | 4 => ("PondLensesModel", "found", "[I", true)
  | 5 => ("PondLensesModel", "ends", "I", false)
  | 6 => ("PondLensesModel", "size", "I", false)
  | 7 => ("PondLensesModel", "turned", "I", false)
  | 8 => ("PondLensesModel", "flipped", "I", false)
  | 9 => ("PondLensesModel", "counts", "[I", true)
  | 10 => ("PondLensesModel", "tape", "[I", true)
  | 11 => ("PondLensesModel", "taped", "I", false)
  | 12 => ("PondLensesModel", "token", "I", false)
  | 13 => ("PondLensesModel", "begun", "I", false)
  | 14 => ("PondLensesModel", "ended", "I", false)
  | 15 => ("PondLensesModel", "value", "J", false)
  | 16 => ("PondLensesModel", "letters", "[C", true)
  | 17 => ("PondLensesModel", "more", "[C", true)
  | 18 => ("PondLensesModel", "others", "[C", true)
  | 19 => ("PondLensesModel", "about", "[C", true)
  | 20 => ("PondLensesModel", "widths", "[I", true)
  | 21 => ("PondLensesModel", "sizes", "[I", true)
  | 22 => ("PondLensesModel", "cells", "[I", true)
  | _ => ("PondLensesModel", "carried", "[I", true)
def tyX8 : Nat → FieldType := fun k => match k with
  | 0 => .array .int
  | 1 => .array .int
  | 2 => .array .int
  | 3 => .boolean
  | 4 => .array .int
  | 5 => .int
  | 6 => .int
  | 7 => .int
  | 8 => .int
  | 9 => .array .int
  | 10 => .array .int
  | 11 => .int
  | 12 => .int
  | 13 => .int
  | 14 => .int
  | 15 => .long
  | 16 => .array .char
  | 17 => .array .char
  | 18 => .array .char
  | 19 => .array .char
  | 20 => .array .int
  | 21 => .array .int
  | 22 => .array .int
  | _ => .array .int
abbrev wsX80 : List Cond := u_ws RX8 TX8 24
theorem nmX8 : ∀ a, a < 24 → ∀ b, b < 24 → a ≠ b → (TX8 a).2.1 ≠ (TX8 b).2.1 := by decide +kernel
theorem tyX8_ok : ∀ k, k < 24 → parseFieldDescriptor (TX8 k).2.2.1 = some (tyX8 k) := by decide +kernel
abbrev cX8_init : ByteArray := prog_10_method_1_code
def yX8_init : MethodName := ⟨RX8, "<init>", "()V"⟩
abbrev cX8_no : ByteArray := prog_10_method_2_code
def yX8_no : MethodName := ⟨RX8, "no", "(I)I"⟩
abbrev cX8_in1 : ByteArray := prog_10_method_3_code
def yX8_in1 : MethodName := ⟨RX8, "in1", "(III)Z"⟩
abbrev cX8_less : ByteArray := prog_10_method_4_code
def yX8_less : MethodName := ⟨RX8, "less", "(II)I"⟩
abbrev cX8_bits : ByteArray := prog_10_method_5_code
def yX8_bits : MethodName := ⟨RX8, "bits", "(I)I"⟩
abbrev cX8_isPond : ByteArray := prog_10_method_6_code
def yX8_isPond : MethodName := ⟨RX8, "isPond", "(I)Z"⟩
abbrev cX8_isThing : ByteArray := prog_10_method_7_code
def yX8_isThing : MethodName := ⟨RX8, "isThing", "(I)Z"⟩
abbrev cX8_of1 : ByteArray := prog_10_method_8_code
def yX8_of1 : MethodName := ⟨RX8, "of1", "(II)I"⟩
abbrev cX8_lays1 : ByteArray := prog_10_method_9_code
def yX8_lays1 : MethodName := ⟨RX8, "lays1", "(III)V"⟩
abbrev cX8_get : ByteArray := prog_10_method_10_code
def yX8_get : MethodName := ⟨RX8, "get", "(II)I"⟩
abbrev cX8_puts : ByteArray := prog_10_method_11_code
def yX8_puts : MethodName := ⟨RX8, "puts", "(III)V"⟩
abbrev cX8_setsAside : ByteArray := prog_10_method_12_code
def yX8_setsAside : MethodName := ⟨RX8, "setsAside", "()V"⟩
abbrev cX8_laysBack : ByteArray := prog_10_method_13_code
def yX8_laysBack : MethodName := ⟨RX8, "laysBack", "()V"⟩
abbrev cX8_inside : ByteArray := prog_10_method_14_code
def yX8_inside : MethodName := ⟨RX8, "inside", "(I)I"⟩
abbrev cX8_seenIn : ByteArray := prog_10_method_15_code
def yX8_seenIn : MethodName := ⟨RX8, "seenIn", "(I)I"⟩
abbrev cX8_pondsWith : ByteArray := prog_10_method_16_code
def yX8_pondsWith : MethodName := ⟨RX8, "pondsWith", "(Z)I"⟩
abbrev cX8_showing : ByteArray := prog_10_method_17_code
def yX8_showing : MethodName := ⟨RX8, "showing", "(I)I"⟩
abbrev cX8_lengths : ByteArray := prog_10_method_18_code
def yX8_lengths : MethodName := ⟨RX8, "lengths", "()I"⟩
abbrev cX8_hasFish : ByteArray := prog_10_method_19_code
def yX8_hasFish : MethodName := ⟨RX8, "hasFish", "(II)Z"⟩
abbrev cX8_asFrog : ByteArray := prog_10_method_20_code
def yX8_asFrog : MethodName := ⟨RX8, "asFrog", "(I)I"⟩
abbrev cX8_asHeron : ByteArray := prog_10_method_21_code
def yX8_asHeron : MethodName := ⟨RX8, "asHeron", "(I)I"⟩
abbrev cX8_dryNext : ByteArray := prog_10_method_22_code
def yX8_dryNext : MethodName := ⟨RX8, "dryNext", "(I)I"⟩
abbrev cX8_nextOf : ByteArray := prog_10_method_23_code
def yX8_nextOf : MethodName := ⟨RX8, "nextOf", "(I)I"⟩
abbrev cX8_minute : ByteArray := prog_10_method_24_code
def yX8_minute : MethodName := ⟨RX8, "minute", "()V"⟩
abbrev cX8_pond : ByteArray := prog_10_method_25_code
def yX8_pond : MethodName := ⟨RX8, "pond", "(II)I"⟩
abbrev cX8_isOfPond : ByteArray := prog_10_method_26_code
def yX8_isOfPond : MethodName := ⟨RX8, "isOfPond", "(III)Z"⟩
abbrev cX8_dig : ByteArray := prog_10_method_27_code
def yX8_dig : MethodName := ⟨RX8, "dig", "(III)I"⟩
abbrev cX8_addsThing : ByteArray := prog_10_method_28_code
def yX8_addsThing : MethodName := ⟨RX8, "addsThing", "(II)V"⟩
abbrev cX8_thing : ByteArray := prog_10_method_29_code
def yX8_thing : MethodName := ⟨RX8, "thing", "(II)I"⟩
abbrev cX8_of : ByteArray := prog_10_method_30_code
def yX8_of : MethodName := ⟨RX8, "of", "(II)I"⟩
abbrev cX8_change : ByteArray := prog_10_method_31_code
def yX8_change : MethodName := ⟨RX8, "change", "(III)I"⟩
abbrev cX8_rain : ByteArray := prog_10_method_32_code
def yX8_rain : MethodName := ⟨RX8, "rain", "(I)I"⟩
abbrev cX8_go : ByteArray := prog_10_method_33_code
def yX8_go : MethodName := ⟨RX8, "go", "(I)I"⟩
abbrev cX8_now : ByteArray := prog_10_method_34_code
def yX8_now : MethodName := ⟨RX8, "now", "(I)I"⟩
abbrev cX8_begins : ByteArray := prog_10_method_35_code
def yX8_begins : MethodName := ⟨RX8, "begins", "(I)V"⟩
abbrev cX8_steps : ByteArray := prog_10_method_36_code
def yX8_steps : MethodName := ⟨RX8, "steps", "()V"⟩
abbrev cX8_goesThrough : ByteArray := prog_10_method_37_code
def yX8_goesThrough : MethodName := ⟨RX8, "goesThrough", "(II)V"⟩
abbrev cX8_chain : ByteArray := prog_10_method_38_code
def yX8_chain : MethodName := ⟨RX8, "chain", "(III)I"⟩
abbrev cX8_through : ByteArray := prog_10_method_39_code
def yX8_through : MethodName := ⟨RX8, "through", "(II)I"⟩
abbrev cX8_upright : ByteArray := prog_10_method_40_code
def yX8_upright : MethodName := ⟨RX8, "upright", "(I)I"⟩
abbrev cX8_large : ByteArray := prog_10_method_41_code
def yX8_large : MethodName := ⟨RX8, "large", "(III)I"⟩
abbrev cX8_isRound : ByteArray := prog_10_method_42_code
def yX8_isRound : MethodName := ⟨RX8, "isRound", "(I)Z"⟩
abbrev cX8_aheadOf : ByteArray := prog_10_method_43_code
def yX8_aheadOf : MethodName := ⟨RX8, "aheadOf", "(I)I"⟩
abbrev cX8_roundOf : ByteArray := prog_10_method_44_code
def yX8_roundOf : MethodName := ⟨RX8, "roundOf", "(I)I"⟩
abbrev cX8_round : ByteArray := prog_10_method_45_code
def yX8_round : MethodName := ⟨RX8, "round", "(I)I"⟩
abbrev cX8_rounds : ByteArray := prog_10_method_46_code
def yX8_rounds : MethodName := ⟨RX8, "rounds", "()I"⟩
abbrev cX8_before : ByteArray := prog_10_method_47_code
def yX8_before : MethodName := ⟨RX8, "before", "(I)I"⟩
abbrev cX8_shownBy : ByteArray := prog_10_method_48_code
def yX8_shownBy : MethodName := ⟨RX8, "shownBy", "(I)I"⟩
abbrev cX8_ahead : ByteArray := prog_10_method_49_code
def yX8_ahead : MethodName := ⟨RX8, "ahead", "(II)I"⟩
abbrev cX8_firstBy : ByteArray := prog_10_method_50_code
def yX8_firstBy : MethodName := ⟨RX8, "firstBy", "(III)I"⟩
abbrev cX8_comes : ByteArray := prog_10_method_51_code
def yX8_comes : MethodName := ⟨RX8, "comes", "(II)I"⟩
abbrev cX8_seen : ByteArray := prog_10_method_52_code
def yX8_seen : MethodName := ⟨RX8, "seen", "(II)I"⟩
abbrev cX8_meet : ByteArray := prog_10_method_53_code
def yX8_meet : MethodName := ⟨RX8, "meet", "(II)I"⟩
abbrev cX8_mostOf : ByteArray := prog_10_method_54_code
def yX8_mostOf : MethodName := ⟨RX8, "mostOf", "()I"⟩
abbrev cX8_countsNone : ByteArray := prog_10_method_55_code
def yX8_countsNone : MethodName := ⟨RX8, "countsNone", "()V"⟩
abbrev cX8_cast : ByteArray := prog_10_method_56_code
def yX8_cast : MethodName := ⟨RX8, "cast", "(II)I"⟩
abbrev cX8_kindFor : ByteArray := prog_10_method_57_code
def yX8_kindFor : MethodName := ⟨RX8, "kindFor", "(I)I"⟩
abbrev cX8_isSheet : ByteArray := prog_10_method_58_code
def yX8_isSheet : MethodName := ⟨RX8, "isSheet", "(I)Z"⟩
abbrev cX8_wrongSheet : ByteArray := prog_10_method_59_code
def yX8_wrongSheet : MethodName := ⟨RX8, "wrongSheet", "(I)I"⟩
abbrev cX8_wrongSight : ByteArray := prog_10_method_60_code
def yX8_wrongSight : MethodName := ⟨RX8, "wrongSight", "(II)I"⟩
abbrev cX8_told : ByteArray := prog_10_method_61_code
def yX8_told : MethodName := ⟨RX8, "told", "(II)I"⟩
abbrev cX8_fitsAs : ByteArray := prog_10_method_62_code
def yX8_fitsAs : MethodName := ⟨RX8, "fitsAs", "(III)Z"⟩
abbrev cX8_fits : ByteArray := prog_10_method_63_code
def yX8_fits : MethodName := ⟨RX8, "fits", "(II)I"⟩
abbrev cX8_lens : ByteArray := prog_10_method_64_code
def yX8_lens : MethodName := ⟨RX8, "lens", "(II)I"⟩
abbrev cX8_which : ByteArray := prog_10_method_65_code
def yX8_which : MethodName := ⟨RX8, "which", "(I)I"⟩
abbrev cX8_eyes : ByteArray := prog_10_method_66_code
def yX8_eyes : MethodName := ⟨RX8, "eyes", "()I"⟩
abbrev cX8_dredge : ByteArray := prog_10_method_67_code
def yX8_dredge : MethodName := ⟨RX8, "dredge", "(II)I"⟩
abbrev cX8_watch : ByteArray := prog_10_method_68_code
def yX8_watch : MethodName := ⟨RX8, "watch", "(I)I"⟩
abbrev cX8_draw : ByteArray := prog_10_method_69_code
def yX8_draw : MethodName := ⟨RX8, "draw", "()I"⟩
abbrev cX8_falls : ByteArray := prog_10_method_70_code
def yX8_falls : MethodName := ⟨RX8, "falls", "(I)I"⟩
abbrev cX8_odds : ByteArray := prog_10_method_71_code
def yX8_odds : MethodName := ⟨RX8, "odds", "(II)J"⟩
abbrev cX8_seed : ByteArray := prog_10_method_72_code
def yX8_seed : MethodName := ⟨RX8, "seed", "(I)I"⟩
abbrev cX8_feed : ByteArray := prog_10_method_73_code
def yX8_feed : MethodName := ⟨RX8, "feed", "(II)I"⟩
abbrev cX8_wipe : ByteArray := prog_10_method_74_code
def yX8_wipe : MethodName := ⟨RX8, "wipe", "()I"⟩
abbrev cX8_isLetter : ByteArray := prog_10_method_75_code
def yX8_isLetter : MethodName := ⟨RX8, "isLetter", "(I)Z"⟩
abbrev cX8_isDigit : ByteArray := prog_10_method_76_code
def yX8_isDigit : MethodName := ⟨RX8, "isDigit", "(I)Z"⟩
abbrev cX8_nextToken : ByteArray := prog_10_method_77_code
def yX8_nextToken : MethodName := ⟨RX8, "nextToken", "()V"⟩
abbrev cX8_wordOf : ByteArray := prog_10_method_78_code
def yX8_wordOf : MethodName := ⟨RX8, "wordOf", "([C)I"⟩
abbrev cX8_takesNumber : ByteArray := prog_10_method_79_code
def yX8_takesNumber : MethodName := ⟨RX8, "takesNumber", "(II)I"⟩
abbrev cX8_readsThing : ByteArray := prog_10_method_80_code
def yX8_readsThing : MethodName := ⟨RX8, "readsThing", "(I)Z"⟩
abbrev cX8_readsPond : ByteArray := prog_10_method_81_code
def yX8_readsPond : MethodName := ⟨RX8, "readsPond", "()Z"⟩
abbrev cX8_readsItem : ByteArray := prog_10_method_82_code
def yX8_readsItem : MethodName := ⟨RX8, "readsItem", "()Z"⟩
abbrev cX8_text : ByteArray := prog_10_method_83_code
def yX8_text : MethodName := ⟨RX8, "text", "()I"⟩
abbrev cX8_isSpot : ByteArray := prog_10_method_84_code
def yX8_isSpot : MethodName := ⟨RX8, "isSpot", "(I)Z"⟩
abbrev cX8_hold : ByteArray := prog_10_method_85_code
def yX8_hold : MethodName := ⟨RX8, "hold", "(II)I"⟩
abbrev cX8_above : ByteArray := prog_10_method_86_code
def yX8_above : MethodName := ⟨RX8, "above", "(I)I"⟩
abbrev cX8_as : ByteArray := prog_10_method_87_code
def yX8_as : MethodName := ⟨RX8, "as", "(II)I"⟩
abbrev cX8_sheet : ByteArray := prog_10_method_88_code
def yX8_sheet : MethodName := ⟨RX8, "sheet", "(III)I"⟩
abbrev cX8_write : ByteArray := prog_10_method_89_code
def yX8_write : MethodName := ⟨RX8, "write", "(III)I"⟩
abbrev cX8_copy : ByteArray := prog_10_method_90_code
def yX8_copy : MethodName := ⟨RX8, "copy", "(IIIII)I"⟩
abbrev cX8_load : ByteArray := prog_10_method_91_code
def yX8_load : MethodName := ⟨RX8, "load", "(I)I"⟩
abbrev cX8_judge : ByteArray := prog_10_method_92_code
def yX8_judge : MethodName := ⟨RX8, "judge", "(I)I"⟩
abbrev cX8_image : ByteArray := prog_10_method_93_code
def yX8_image : MethodName := ⟨RX8, "image", "()I"⟩
abbrev cX8_undo : ByteArray := prog_10_method_94_code
def yX8_undo : MethodName := ⟨RX8, "undo", "()I"⟩
abbrev cX8_tear : ByteArray := prog_10_method_95_code
def yX8_tear : MethodName := ⟨RX8, "tear", "()I"⟩
abbrev cX8_count : ByteArray := prog_10_method_96_code
def yX8_count : MethodName := ⟨RX8, "count", "(I)I"⟩
abbrev cX8_status : ByteArray := prog_10_method_97_code
def yX8_status : MethodName := ⟨RX8, "status", "(I)I"⟩
def RJ6 : String := "java/lang/Integer"
def TJ6 : u_T := fun k => match k with
  | _ => ("", "", "", false)
def tyJ6 : Nat → FieldType := fun k => match k with
  | _ => .int
abbrev wsJ60 : List Cond := u_ws RJ6 TJ6 0
theorem nmJ6 : ∀ a, a < 0 → ∀ b, b < 0 → a ≠ b → (TJ6 a).2.1 ≠ (TJ6 b).2.1 := by decide +kernel
theorem tyJ6_ok : ∀ k, k < 0 → parseFieldDescriptor (TJ6 k).2.2.1 = some (tyJ6 k) := by decide +kernel
abbrev cJ6_lowestOneBit_0f7a4 : ByteArray := prog_11_method_46_code
def yJ6_lowestOneBit_0f7a4 : MethodName := ⟨RJ6, "lowestOneBit", "(I)I"⟩
abbrev cJ6_numberOfTrailingZeros_0f7a4 : ByteArray := prog_11_method_48_code
def yJ6_numberOfTrailingZeros_0f7a4 : MethodName := ⟨RJ6, "numberOfTrailingZeros", "(I)I"⟩
abbrev cJ6_bitCount_0f7a4 : ByteArray := prog_11_method_49_code
def yJ6_bitCount_0f7a4 : MethodName := ⟨RJ6, "bitCount", "(I)I"⟩
def RJ9 : String := "java/lang/Math"
def TJ9 : u_T := fun k => match k with
  | _ => ("", "", "", false)
def tyJ9 : Nat → FieldType := fun k => match k with
  | _ => .int
abbrev wsJ90 : List Cond := u_ws RJ9 TJ9 0
theorem nmJ9 : ∀ a, a < 0 → ∀ b, b < 0 → a ≠ b → (TJ9 a).2.1 ≠ (TJ9 b).2.1 := by decide +kernel
theorem tyJ9_ok : ∀ k, k < 0 → parseFieldDescriptor (TJ9 k).2.2.1 = some (tyJ9 k) := by decide +kernel
abbrev cJ9_floorMod_7cf53 : ByteArray := prog_12_method_50_code
def yJ9_floorMod_7cf53 : MethodName := ⟨RJ9, "floorMod", "(II)I"⟩
abbrev cJ9_min_7cf53 : ByteArray := prog_12_method_69_code
def yJ9_min_7cf53 : MethodName := ⟨RJ9, "min", "(II)I"⟩
def RJ0 : String := "java/lang/String"
def TJ0 : u_T := fun k => match k with
  | _ => ("", "", "", false)
def tyJ0 : Nat → FieldType := fun k => match k with
  | _ => .int
abbrev wsJ00 : List Cond := u_ws RJ0 TJ0 0
theorem nmJ0 : ∀ a, a < 0 → ∀ b, b < 0 → a ≠ b → (TJ0 a).2.1 ≠ (TJ0 b).2.1 := by decide +kernel
theorem tyJ0_ok : ∀ k, k < 0 → parseFieldDescriptor (TJ0 k).2.2.1 = some (tyJ0 k) := by decide +kernel
abbrev cJ0_length_8abf5 : ByteArray := prog_13_method_54_code
def yJ0_length_8abf5 : MethodName := ⟨RJ0, "length", "()I"⟩
abbrev cJ0_charAt_5068e : ByteArray := prog_13_method_56_code
def yJ0_charAt_5068e : MethodName := ⟨RJ0, "charAt", "(I)C"⟩
abbrev cJ0_coder_7d493 : ByteArray := prog_13_method_152_code
def yJ0_coder_7d493 : MethodName := ⟨RJ0, "coder", "()B"⟩
abbrev cJ0_isLatin1_aae02 : ByteArray := prog_13_method_154_code
def yJ0_isLatin1_aae02 : MethodName := ⟨RJ0, "isLatin1", "()Z"⟩
abbrev cJ0_checkIndex_df160 : ByteArray := prog_13_method_155_code
def yJ0_checkIndex_df160 : MethodName := ⟨RJ0, "checkIndex", "(II)V"⟩
def RJ1 : String := "java/lang/StringLatin1"
def TJ1 : u_T := fun k => match k with
  | _ => ("", "", "", false)
def tyJ1 : Nat → FieldType := fun k => match k with
  | _ => .int
abbrev wsJ10 : List Cond := u_ws RJ1 TJ1 0
theorem nmJ1 : ∀ a, a < 0 → ∀ b, b < 0 → a ≠ b → (TJ1 a).2.1 ≠ (TJ1 b).2.1 := by decide +kernel
theorem tyJ1_ok : ∀ k, k < 0 → parseFieldDescriptor (TJ1 k).2.2.1 = some (tyJ1 k) := by decide +kernel
abbrev cJ1_charAt_3b067 : ByteArray := prog_14_method_2_code
def yJ1_charAt_3b067 : MethodName := ⟨RJ1, "charAt", "([BI)C"⟩
def RJ2 : String := "java/lang/StringUTF16"
def TJ2 : u_T := fun k => match k with
  | _ => ("", "", "", false)
def tyJ2 : Nat → FieldType := fun k => match k with
  | _ => .int
abbrev wsJ20 : List Cond := u_ws RJ2 TJ2 0
theorem nmJ2 : ∀ a, a < 0 → ∀ b, b < 0 → a ≠ b → (TJ2 a).2.1 ≠ (TJ2 b).2.1 := by decide +kernel
theorem tyJ2_ok : ∀ k, k < 0 → parseFieldDescriptor (TJ2 k).2.2.1 = some (tyJ2 k) := by decide +kernel
abbrev cJ2_getChar_3b067 : ByteArray := prog_15_method_5_code
def yJ2_getChar_3b067 : MethodName := ⟨RJ2, "getChar", "([BI)C"⟩
abbrev cJ2_length_9d52b : ByteArray := prog_15_method_6_code
def yJ2_length_9d52b : MethodName := ⟨RJ2, "length", "([B)I"⟩
abbrev cJ2_charAt_3b067 : ByteArray := prog_15_method_83_code
def yJ2_charAt_3b067 : MethodName := ⟨RJ2, "charAt", "([BI)C"⟩
abbrev cJ2_checkIndex_2214a : ByteArray := prog_15_method_91_code
def yJ2_checkIndex_2214a : MethodName := ⟨RJ2, "checkIndex", "(I[B)V"⟩
def RJ10 : String := "java/lang/System"
def TJ10 : u_T := fun k => match k with
  | _ => ("", "", "", false)
def tyJ10 : Nat → FieldType := fun k => match k with
  | _ => .int
abbrev wsJ100 : List Cond := u_ws RJ10 TJ10 0
theorem nmJ10 : ∀ a, a < 0 → ∀ b, b < 0 → a ≠ b → (TJ10 a).2.1 ≠ (TJ10 b).2.1 := by decide +kernel
theorem tyJ10_ok : ∀ k, k < 0 → parseFieldDescriptor (TJ10 k).2.2.1 = some (tyJ10 k) := by decide +kernel
def RJ3 : String := "jdk/internal/util/Preconditions"
def TJ3 : u_T := fun k => match k with
  | _ => ("", "", "", false)
def tyJ3 : Nat → FieldType := fun k => match k with
  | _ => .int
abbrev wsJ30 : List Cond := u_ws RJ3 TJ3 0
theorem nmJ3 : ∀ a, a < 0 → ∀ b, b < 0 → a ≠ b → (TJ3 a).2.1 ≠ (TJ3 b).2.1 := by decide +kernel
theorem tyJ3_ok : ∀ k, k < 0 → parseFieldDescriptor (TJ3 k).2.2.1 = some (tyJ3 k) := by decide +kernel
abbrev cJ3_checkIndex_8e157 : ByteArray := prog_17_method_11_code
def yJ3_checkIndex_8e157 : MethodName := ⟨RJ3, "checkIndex", "(IILjava/util/function/BiFunction;)I"⟩
def RL : String := "PondLensesLaw"
abbrev cL_law : ByteArray := code
def yL_law : MethodName := ⟨RL, "law", "([I)Z"⟩
