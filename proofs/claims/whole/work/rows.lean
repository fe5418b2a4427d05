section
-- ===== PART A: goes FIRST, ahead of the names: the tables' words, and 'selects' of the private methods out of them =====
/-- a private method of a class that the tables say can be made, by its rows of tables_1 -/
def lw_okq (q : MethodName × Nat) : Prop := (q.1.cls ≠ "java/lang/invoke/MethodHandle" ∧ q.1.cls ≠ "java/lang/invoke/VarHandle") ∧ Cond.instantiable q.1.cls q.2 ∈ tables_1 ∧ Cond.privateMethod q.1 ∈ tables_1 ∧ Cond.instanceMethod q.1 ∈ tables_1
theorem lw_p0 : lw_okq (⟨"PondLenses", "finding", "(I)I"⟩, 10) := ⟨⟨by decide +kernel, by decide +kernel⟩, List.mem_of_getElem? (i := 18) (by decide +kernel), List.mem_of_getElem? (i := 210) (by decide +kernel), List.mem_of_getElem? (i := 211) (by decide +kernel)⟩
theorem lw_p1 : lw_okq (⟨"PondLenses$Fen", "nextOfFrog", "(I)I"⟩, 7) := ⟨⟨by decide +kernel, by decide +kernel⟩, List.mem_of_getElem? (i := 26) (by decide +kernel), List.mem_of_getElem? (i := 262) (by decide +kernel), List.mem_of_getElem? (i := 263) (by decide +kernel)⟩
theorem lw_p2 : lw_okq (⟨"PondLenses$Fen", "nextOfHeron", "(I)I"⟩, 7) := ⟨⟨by decide +kernel, by decide +kernel⟩, List.mem_of_getElem? (i := 26) (by decide +kernel), List.mem_of_getElem? (i := 266) (by decide +kernel), List.mem_of_getElem? (i := 267) (by decide +kernel)⟩
theorem lw_p3 : lw_okq (⟨"PondLenses$Fen", "hasFishIn", "(I)Z"⟩, 7) := ⟨⟨by decide +kernel, by decide +kernel⟩, List.mem_of_getElem? (i := 26) (by decide +kernel), List.mem_of_getElem? (i := 270) (by decide +kernel), List.mem_of_getElem? (i := 271) (by decide +kernel)⟩
theorem lw_p4 : lw_okq (⟨"PondLenses$Fen", "nextOfPike", "(I)I"⟩, 7) := ⟨⟨by decide +kernel, by decide +kernel⟩, List.mem_of_getElem? (i := 26) (by decide +kernel), List.mem_of_getElem? (i := 276) (by decide +kernel), List.mem_of_getElem? (i := 277) (by decide +kernel)⟩
theorem lw_p5 : lw_okq (⟨"PondLenses", "findingOrAnswer", "(I)I"⟩, 10) := ⟨⟨by decide +kernel, by decide +kernel⟩, List.mem_of_getElem? (i := 18) (by decide +kernel), List.mem_of_getElem? (i := 424) (by decide +kernel), List.mem_of_getElem? (i := 425) (by decide +kernel)⟩
theorem lw_p6 : lw_okq (⟨"PondLenses$Foresight", "clearTally", "()V"⟩, 1) := ⟨⟨by decide +kernel, by decide +kernel⟩, List.mem_of_getElem? (i := 92) (by decide +kernel), List.mem_of_getElem? (i := 448) (by decide +kernel), List.mem_of_getElem? (i := 449) (by decide +kernel)⟩
theorem lw_p7 : lw_okq (⟨"PondLenses$Foresight", "leastOfMost", "()I"⟩, 1) := ⟨⟨by decide +kernel, by decide +kernel⟩, List.mem_of_getElem? (i := 92) (by decide +kernel), List.mem_of_getElem? (i := 452) (by decide +kernel), List.mem_of_getElem? (i := 453) (by decide +kernel)⟩
theorem lw_p8 : lw_okq (⟨"PondLenses", "lackOfSight", "(II)I"⟩, 10) := ⟨⟨by decide +kernel, by decide +kernel⟩, List.mem_of_getElem? (i := 18) (by decide +kernel), List.mem_of_getElem? (i := 474) (by decide +kernel), List.mem_of_getElem? (i := 475) (by decide +kernel)⟩
theorem lw_p9 : lw_okq (⟨"PondLenses", "lackOfSheet", "(I)I"⟩, 10) := ⟨⟨by decide +kernel, by decide +kernel⟩, List.mem_of_getElem? (i := 18) (by decide +kernel), List.mem_of_getElem? (i := 478) (by decide +kernel), List.mem_of_getElem? (i := 479) (by decide +kernel)⟩
theorem lw_p10 : lw_okq (⟨"PondLenses", "lensesFor", "(LPondLenses$Sheet;I)I"⟩, 10) := ⟨⟨by decide +kernel, by decide +kernel⟩, List.mem_of_getElem? (i := 18) (by decide +kernel), List.mem_of_getElem? (i := 490) (by decide +kernel), List.mem_of_getElem? (i := 491) (by decide +kernel)⟩
theorem lw_p11 : lw_okq (⟨"PondLenses$Fen", "draw", "()I"⟩, 7) := ⟨⟨by decide +kernel, by decide +kernel⟩, List.mem_of_getElem? (i := 26) (by decide +kernel), List.mem_of_getElem? (i := 544) (by decide +kernel), List.mem_of_getElem? (i := 545) (by decide +kernel)⟩
theorem lw_p12 : lw_okq (⟨"PondLenses$Tokens", "takeOne", "(LPondLenses$Tape;II)I"⟩, 4) := ⟨⟨by decide +kernel, by decide +kernel⟩, List.mem_of_getElem? (i := 123) (by decide +kernel), List.mem_of_getElem? (i := 585) (by decide +kernel), List.mem_of_getElem? (i := 586) (by decide +kernel)⟩
theorem lw_p13 : lw_okq (⟨"PondLenses$TextReader", "readItem", "(LPondLenses$Fen;)V"⟩, 2) := ⟨⟨by decide +kernel, by decide +kernel⟩, List.mem_of_getElem? (i := 117) (by decide +kernel), List.mem_of_getElem? (i := 673) (by decide +kernel), List.mem_of_getElem? (i := 674) (by decide +kernel)⟩
theorem lw_p14 : lw_okq (⟨"PondLenses$TextReader", "hasKind", "()Z"⟩, 2) := ⟨⟨by decide +kernel, by decide +kernel⟩, List.mem_of_getElem? (i := 117) (by decide +kernel), List.mem_of_getElem? (i := 677) (by decide +kernel), List.mem_of_getElem? (i := 678) (by decide +kernel)⟩
theorem lw_p15 : lw_okq (⟨"PondLenses$TextReader", "readThing", "(LPondLenses$Fen;)V"⟩, 2) := ⟨⟨by decide +kernel, by decide +kernel⟩, List.mem_of_getElem? (i := 117) (by decide +kernel), List.mem_of_getElem? (i := 689) (by decide +kernel), List.mem_of_getElem? (i := 690) (by decide +kernel)⟩
def lw_privs_1 : List (MethodName × Nat) := [(⟨"PondLenses", "finding", "(I)I"⟩, 10), (⟨"PondLenses$Fen", "nextOfFrog", "(I)I"⟩, 7), (⟨"PondLenses$Fen", "nextOfHeron", "(I)I"⟩, 7), (⟨"PondLenses$Fen", "hasFishIn", "(I)Z"⟩, 7), (⟨"PondLenses$Fen", "nextOfPike", "(I)I"⟩, 7), (⟨"PondLenses", "findingOrAnswer", "(I)I"⟩, 10), (⟨"PondLenses$Foresight", "clearTally", "()V"⟩, 1), (⟨"PondLenses$Foresight", "leastOfMost", "()I"⟩, 1), (⟨"PondLenses", "lackOfSight", "(II)I"⟩, 10), (⟨"PondLenses", "lackOfSheet", "(I)I"⟩, 10), (⟨"PondLenses", "lensesFor", "(LPondLenses$Sheet;I)I"⟩, 10), (⟨"PondLenses$Fen", "draw", "()I"⟩, 7), (⟨"PondLenses$Tokens", "takeOne", "(LPondLenses$Tape;II)I"⟩, 4), (⟨"PondLenses$TextReader", "readItem", "(LPondLenses$Fen;)V"⟩, 2), (⟨"PondLenses$TextReader", "hasKind", "()Z"⟩, 2), (⟨"PondLenses$TextReader", "readThing", "(LPondLenses$Fen;)V"⟩, 2)]
theorem lw_r1 : ∀ q ∈ lw_privs_1, lw_okq q := List.forall_mem_cons.mpr ⟨lw_p0, List.forall_mem_cons.mpr ⟨lw_p1, List.forall_mem_cons.mpr ⟨lw_p2, List.forall_mem_cons.mpr ⟨lw_p3, List.forall_mem_cons.mpr ⟨lw_p4, List.forall_mem_cons.mpr ⟨lw_p5, List.forall_mem_cons.mpr ⟨lw_p6, List.forall_mem_cons.mpr ⟨lw_p7, List.forall_mem_cons.mpr ⟨lw_p8, List.forall_mem_cons.mpr ⟨lw_p9, List.forall_mem_cons.mpr ⟨lw_p10, List.forall_mem_cons.mpr ⟨lw_p11, List.forall_mem_cons.mpr ⟨lw_p12, List.forall_mem_cons.mpr ⟨lw_p13, List.forall_mem_cons.mpr ⟨lw_p14, List.forall_mem_cons.mpr ⟨lw_p15, fun _ h => absurd h List.not_mem_nil⟩⟩⟩⟩⟩⟩⟩⟩⟩⟩⟩⟩⟩⟩⟩⟩
theorem lw_p16 : lw_okq (⟨"PondLenses$TextReader", "fail", "()V"⟩, 2) := ⟨⟨by decide +kernel, by decide +kernel⟩, List.mem_of_getElem? (i := 117) (by decide +kernel), List.mem_of_getElem? (i := 694) (by decide +kernel), List.mem_of_getElem? (i := 695) (by decide +kernel)⟩
theorem lw_p17 : lw_okq (⟨"PondLenses$TextReader", "hasWord", "(I)Z"⟩, 2) := ⟨⟨by decide +kernel, by decide +kernel⟩, List.mem_of_getElem? (i := 117) (by decide +kernel), List.mem_of_getElem? (i := 706) (by decide +kernel), List.mem_of_getElem? (i := 707) (by decide +kernel)⟩
theorem lw_p18 : lw_okq (⟨"PondLenses$TextReader", "readNumber", "(III)I"⟩, 2) := ⟨⟨by decide +kernel, by decide +kernel⟩, List.mem_of_getElem? (i := 117) (by decide +kernel), List.mem_of_getElem? (i := 716) (by decide +kernel), List.mem_of_getElem? (i := 717) (by decide +kernel)⟩
theorem lw_p19 : lw_okq (⟨"PondLenses$TextReader", "hasNumber", "()Z"⟩, 2) := ⟨⟨by decide +kernel, by decide +kernel⟩, List.mem_of_getElem? (i := 117) (by decide +kernel), List.mem_of_getElem? (i := 720) (by decide +kernel), List.mem_of_getElem? (i := 721) (by decide +kernel)⟩
theorem lw_p20 : lw_okq (⟨"PondLenses$TextReader", "readPond", "(LPondLenses$Fen;)V"⟩, 2) := ⟨⟨by decide +kernel, by decide +kernel⟩, List.mem_of_getElem? (i := 117) (by decide +kernel), List.mem_of_getElem? (i := 725) (by decide +kernel), List.mem_of_getElem? (i := 726) (by decide +kernel)⟩
theorem lw_p21 : lw_okq (⟨"PondLenses$TextReader", "readTrait", "(II)I"⟩, 2) := ⟨⟨by decide +kernel, by decide +kernel⟩, List.mem_of_getElem? (i := 117) (by decide +kernel), List.mem_of_getElem? (i := 729) (by decide +kernel), List.mem_of_getElem? (i := 730) (by decide +kernel)⟩
theorem lw_p22 : lw_okq (⟨"PondLenses$TextReader", "hasSign", "()Z"⟩, 2) := ⟨⟨by decide +kernel, by decide +kernel⟩, List.mem_of_getElem? (i := 117) (by decide +kernel), List.mem_of_getElem? (i := 735) (by decide +kernel), List.mem_of_getElem? (i := 736) (by decide +kernel)⟩
theorem lw_p23 : lw_okq (⟨"PondLensesModel", "lays1", "(III)V"⟩, 24) := ⟨⟨by decide +kernel, by decide +kernel⟩, List.mem_of_getElem? (i := 820) (by decide +kernel), List.mem_of_getElem? (i := 826) (by decide +kernel), List.mem_of_getElem? (i := 827) (by decide +kernel)⟩
theorem lw_p24 : lw_okq (⟨"PondLensesModel", "no", "(I)I"⟩, 24) := ⟨⟨by decide +kernel, by decide +kernel⟩, List.mem_of_getElem? (i := 820) (by decide +kernel), List.mem_of_getElem? (i := 914) (by decide +kernel), List.mem_of_getElem? (i := 915) (by decide +kernel)⟩
theorem lw_p25 : lw_okq (⟨"PondLensesModel", "of1", "(II)I"⟩, 24) := ⟨⟨by decide +kernel, by decide +kernel⟩, List.mem_of_getElem? (i := 820) (by decide +kernel), List.mem_of_getElem? (i := 919) (by decide +kernel), List.mem_of_getElem? (i := 920) (by decide +kernel)⟩
theorem lw_p26 : lw_okq (⟨"PondLensesModel", "inside", "(I)I"⟩, 24) := ⟨⟨by decide +kernel, by decide +kernel⟩, List.mem_of_getElem? (i := 820) (by decide +kernel), List.mem_of_getElem? (i := 923) (by decide +kernel), List.mem_of_getElem? (i := 924) (by decide +kernel)⟩
theorem lw_p27 : lw_okq (⟨"PondLensesModel", "get", "(II)I"⟩, 24) := ⟨⟨by decide +kernel, by decide +kernel⟩, List.mem_of_getElem? (i := 820) (by decide +kernel), List.mem_of_getElem? (i := 927) (by decide +kernel), List.mem_of_getElem? (i := 928) (by decide +kernel)⟩
theorem lw_p28 : lw_okq (⟨"PondLensesModel", "seenIn", "(I)I"⟩, 24) := ⟨⟨by decide +kernel, by decide +kernel⟩, List.mem_of_getElem? (i := 820) (by decide +kernel), List.mem_of_getElem? (i := 931) (by decide +kernel), List.mem_of_getElem? (i := 932) (by decide +kernel)⟩
theorem lw_p29 : lw_okq (⟨"PondLensesModel", "addsThing", "(II)V"⟩, 24) := ⟨⟨by decide +kernel, by decide +kernel⟩, List.mem_of_getElem? (i := 820) (by decide +kernel), List.mem_of_getElem? (i := 946) (by decide +kernel), List.mem_of_getElem? (i := 947) (by decide +kernel)⟩
theorem lw_p30 : lw_okq (⟨"PondLensesModel", "puts", "(III)V"⟩, 24) := ⟨⟨by decide +kernel, by decide +kernel⟩, List.mem_of_getElem? (i := 820) (by decide +kernel), List.mem_of_getElem? (i := 950) (by decide +kernel), List.mem_of_getElem? (i := 951) (by decide +kernel)⟩
theorem lw_p31 : lw_okq (⟨"PondLensesModel", "isThing", "(I)Z"⟩, 24) := ⟨⟨by decide +kernel, by decide +kernel⟩, List.mem_of_getElem? (i := 820) (by decide +kernel), List.mem_of_getElem? (i := 958) (by decide +kernel), List.mem_of_getElem? (i := 959) (by decide +kernel)⟩
def lw_privs_2 : List (MethodName × Nat) := [(⟨"PondLenses$TextReader", "fail", "()V"⟩, 2), (⟨"PondLenses$TextReader", "hasWord", "(I)Z"⟩, 2), (⟨"PondLenses$TextReader", "readNumber", "(III)I"⟩, 2), (⟨"PondLenses$TextReader", "hasNumber", "()Z"⟩, 2), (⟨"PondLenses$TextReader", "readPond", "(LPondLenses$Fen;)V"⟩, 2), (⟨"PondLenses$TextReader", "readTrait", "(II)I"⟩, 2), (⟨"PondLenses$TextReader", "hasSign", "()Z"⟩, 2), (⟨"PondLensesModel", "lays1", "(III)V"⟩, 24), (⟨"PondLensesModel", "no", "(I)I"⟩, 24), (⟨"PondLensesModel", "of1", "(II)I"⟩, 24), (⟨"PondLensesModel", "inside", "(I)I"⟩, 24), (⟨"PondLensesModel", "get", "(II)I"⟩, 24), (⟨"PondLensesModel", "seenIn", "(I)I"⟩, 24), (⟨"PondLensesModel", "addsThing", "(II)V"⟩, 24), (⟨"PondLensesModel", "puts", "(III)V"⟩, 24), (⟨"PondLensesModel", "isThing", "(I)Z"⟩, 24)]
theorem lw_r2 : ∀ q ∈ lw_privs_2, lw_okq q := List.forall_mem_cons.mpr ⟨lw_p16, List.forall_mem_cons.mpr ⟨lw_p17, List.forall_mem_cons.mpr ⟨lw_p18, List.forall_mem_cons.mpr ⟨lw_p19, List.forall_mem_cons.mpr ⟨lw_p20, List.forall_mem_cons.mpr ⟨lw_p21, List.forall_mem_cons.mpr ⟨lw_p22, List.forall_mem_cons.mpr ⟨lw_p23, List.forall_mem_cons.mpr ⟨lw_p24, List.forall_mem_cons.mpr ⟨lw_p25, List.forall_mem_cons.mpr ⟨lw_p26, List.forall_mem_cons.mpr ⟨lw_p27, List.forall_mem_cons.mpr ⟨lw_p28, List.forall_mem_cons.mpr ⟨lw_p29, List.forall_mem_cons.mpr ⟨lw_p30, List.forall_mem_cons.mpr ⟨lw_p31, fun _ h => absurd h List.not_mem_nil⟩⟩⟩⟩⟩⟩⟩⟩⟩⟩⟩⟩⟩⟩⟩⟩
theorem lw_p32 : lw_okq (⟨"PondLensesModel", "nextOf", "(I)I"⟩, 24) := ⟨⟨by decide +kernel, by decide +kernel⟩, List.mem_of_getElem? (i := 820) (by decide +kernel), List.mem_of_getElem? (i := 962) (by decide +kernel), List.mem_of_getElem? (i := 963) (by decide +kernel)⟩
theorem lw_p33 : lw_okq (⟨"PondLensesModel", "dryNext", "(I)I"⟩, 24) := ⟨⟨by decide +kernel, by decide +kernel⟩, List.mem_of_getElem? (i := 820) (by decide +kernel), List.mem_of_getElem? (i := 966) (by decide +kernel), List.mem_of_getElem? (i := 967) (by decide +kernel)⟩
theorem lw_p34 : lw_okq (⟨"PondLensesModel", "asFrog", "(I)I"⟩, 24) := ⟨⟨by decide +kernel, by decide +kernel⟩, List.mem_of_getElem? (i := 820) (by decide +kernel), List.mem_of_getElem? (i := 970) (by decide +kernel), List.mem_of_getElem? (i := 971) (by decide +kernel)⟩
theorem lw_p35 : lw_okq (⟨"PondLensesModel", "asHeron", "(I)I"⟩, 24) := ⟨⟨by decide +kernel, by decide +kernel⟩, List.mem_of_getElem? (i := 820) (by decide +kernel), List.mem_of_getElem? (i := 974) (by decide +kernel), List.mem_of_getElem? (i := 975) (by decide +kernel)⟩
theorem lw_p36 : lw_okq (⟨"PondLensesModel", "showing", "(I)I"⟩, 24) := ⟨⟨by decide +kernel, by decide +kernel⟩, List.mem_of_getElem? (i := 820) (by decide +kernel), List.mem_of_getElem? (i := 978) (by decide +kernel), List.mem_of_getElem? (i := 979) (by decide +kernel)⟩
theorem lw_p37 : lw_okq (⟨"PondLensesModel", "hasFish", "(II)Z"⟩, 24) := ⟨⟨by decide +kernel, by decide +kernel⟩, List.mem_of_getElem? (i := 820) (by decide +kernel), List.mem_of_getElem? (i := 982) (by decide +kernel), List.mem_of_getElem? (i := 983) (by decide +kernel)⟩
theorem lw_p38 : lw_okq (⟨"PondLensesModel", "minute", "()V"⟩, 24) := ⟨⟨by decide +kernel, by decide +kernel⟩, List.mem_of_getElem? (i := 820) (by decide +kernel), List.mem_of_getElem? (i := 999) (by decide +kernel), List.mem_of_getElem? (i := 1000) (by decide +kernel)⟩
theorem lw_p39 : lw_okq (⟨"PondLensesModel", "pondsWith", "(Z)I"⟩, 24) := ⟨⟨by decide +kernel, by decide +kernel⟩, List.mem_of_getElem? (i := 820) (by decide +kernel), List.mem_of_getElem? (i := 1010) (by decide +kernel), List.mem_of_getElem? (i := 1011) (by decide +kernel)⟩
theorem lw_p40 : lw_okq (⟨"PondLensesModel", "lengths", "()I"⟩, 24) := ⟨⟨by decide +kernel, by decide +kernel⟩, List.mem_of_getElem? (i := 820) (by decide +kernel), List.mem_of_getElem? (i := 1014) (by decide +kernel), List.mem_of_getElem? (i := 1015) (by decide +kernel)⟩
theorem lw_p41 : lw_okq (⟨"PondLensesModel", "goesThrough", "(II)V"⟩, 24) := ⟨⟨by decide +kernel, by decide +kernel⟩, List.mem_of_getElem? (i := 820) (by decide +kernel), List.mem_of_getElem? (i := 1022) (by decide +kernel), List.mem_of_getElem? (i := 1023) (by decide +kernel)⟩
theorem lw_p42 : lw_okq (⟨"PondLensesModel", "begins", "(I)V"⟩, 24) := ⟨⟨by decide +kernel, by decide +kernel⟩, List.mem_of_getElem? (i := 820) (by decide +kernel), List.mem_of_getElem? (i := 1026) (by decide +kernel), List.mem_of_getElem? (i := 1027) (by decide +kernel)⟩
theorem lw_p43 : lw_okq (⟨"PondLensesModel", "steps", "()V"⟩, 24) := ⟨⟨by decide +kernel, by decide +kernel⟩, List.mem_of_getElem? (i := 820) (by decide +kernel), List.mem_of_getElem? (i := 1030) (by decide +kernel), List.mem_of_getElem? (i := 1031) (by decide +kernel)⟩
theorem lw_p44 : lw_okq (⟨"PondLensesModel", "roundOf", "(I)I"⟩, 24) := ⟨⟨by decide +kernel, by decide +kernel⟩, List.mem_of_getElem? (i := 820) (by decide +kernel), List.mem_of_getElem? (i := 1050) (by decide +kernel), List.mem_of_getElem? (i := 1051) (by decide +kernel)⟩
theorem lw_p45 : lw_okq (⟨"PondLensesModel", "isRound", "(I)Z"⟩, 24) := ⟨⟨by decide +kernel, by decide +kernel⟩, List.mem_of_getElem? (i := 820) (by decide +kernel), List.mem_of_getElem? (i := 1061) (by decide +kernel), List.mem_of_getElem? (i := 1062) (by decide +kernel)⟩
theorem lw_p46 : lw_okq (⟨"PondLensesModel", "aheadOf", "(I)I"⟩, 24) := ⟨⟨by decide +kernel, by decide +kernel⟩, List.mem_of_getElem? (i := 820) (by decide +kernel), List.mem_of_getElem? (i := 1069) (by decide +kernel), List.mem_of_getElem? (i := 1070) (by decide +kernel)⟩
theorem lw_p47 : lw_okq (⟨"PondLensesModel", "setsAside", "()V"⟩, 24) := ⟨⟨by decide +kernel, by decide +kernel⟩, List.mem_of_getElem? (i := 820) (by decide +kernel), List.mem_of_getElem? (i := 1081) (by decide +kernel), List.mem_of_getElem? (i := 1082) (by decide +kernel)⟩
def lw_privs_3 : List (MethodName × Nat) := [(⟨"PondLensesModel", "nextOf", "(I)I"⟩, 24), (⟨"PondLensesModel", "dryNext", "(I)I"⟩, 24), (⟨"PondLensesModel", "asFrog", "(I)I"⟩, 24), (⟨"PondLensesModel", "asHeron", "(I)I"⟩, 24), (⟨"PondLensesModel", "showing", "(I)I"⟩, 24), (⟨"PondLensesModel", "hasFish", "(II)Z"⟩, 24), (⟨"PondLensesModel", "minute", "()V"⟩, 24), (⟨"PondLensesModel", "pondsWith", "(Z)I"⟩, 24), (⟨"PondLensesModel", "lengths", "()I"⟩, 24), (⟨"PondLensesModel", "goesThrough", "(II)V"⟩, 24), (⟨"PondLensesModel", "begins", "(I)V"⟩, 24), (⟨"PondLensesModel", "steps", "()V"⟩, 24), (⟨"PondLensesModel", "roundOf", "(I)I"⟩, 24), (⟨"PondLensesModel", "isRound", "(I)Z"⟩, 24), (⟨"PondLensesModel", "aheadOf", "(I)I"⟩, 24), (⟨"PondLensesModel", "setsAside", "()V"⟩, 24)]
theorem lw_r3 : ∀ q ∈ lw_privs_3, lw_okq q := List.forall_mem_cons.mpr ⟨lw_p32, List.forall_mem_cons.mpr ⟨lw_p33, List.forall_mem_cons.mpr ⟨lw_p34, List.forall_mem_cons.mpr ⟨lw_p35, List.forall_mem_cons.mpr ⟨lw_p36, List.forall_mem_cons.mpr ⟨lw_p37, List.forall_mem_cons.mpr ⟨lw_p38, List.forall_mem_cons.mpr ⟨lw_p39, List.forall_mem_cons.mpr ⟨lw_p40, List.forall_mem_cons.mpr ⟨lw_p41, List.forall_mem_cons.mpr ⟨lw_p42, List.forall_mem_cons.mpr ⟨lw_p43, List.forall_mem_cons.mpr ⟨lw_p44, List.forall_mem_cons.mpr ⟨lw_p45, List.forall_mem_cons.mpr ⟨lw_p46, List.forall_mem_cons.mpr ⟨lw_p47, fun _ h => absurd h List.not_mem_nil⟩⟩⟩⟩⟩⟩⟩⟩⟩⟩⟩⟩⟩⟩⟩⟩
theorem lw_p48 : lw_okq (⟨"PondLensesModel", "laysBack", "()V"⟩, 24) := ⟨⟨by decide +kernel, by decide +kernel⟩, List.mem_of_getElem? (i := 820) (by decide +kernel), List.mem_of_getElem? (i := 1085) (by decide +kernel), List.mem_of_getElem? (i := 1086) (by decide +kernel)⟩
theorem lw_p49 : lw_okq (⟨"PondLensesModel", "firstBy", "(III)I"⟩, 24) := ⟨⟨by decide +kernel, by decide +kernel⟩, List.mem_of_getElem? (i := 820) (by decide +kernel), List.mem_of_getElem? (i := 1093) (by decide +kernel), List.mem_of_getElem? (i := 1094) (by decide +kernel)⟩
theorem lw_p50 : lw_okq (⟨"PondLensesModel", "countsNone", "()V"⟩, 24) := ⟨⟨by decide +kernel, by decide +kernel⟩, List.mem_of_getElem? (i := 820) (by decide +kernel), List.mem_of_getElem? (i := 1109) (by decide +kernel), List.mem_of_getElem? (i := 1110) (by decide +kernel)⟩
theorem lw_p51 : lw_okq (⟨"PondLensesModel", "mostOf", "()I"⟩, 24) := ⟨⟨by decide +kernel, by decide +kernel⟩, List.mem_of_getElem? (i := 820) (by decide +kernel), List.mem_of_getElem? (i := 1113) (by decide +kernel), List.mem_of_getElem? (i := 1114) (by decide +kernel)⟩
theorem lw_p52 : lw_okq (⟨"PondLensesModel", "wrongSight", "(II)I"⟩, 24) := ⟨⟨by decide +kernel, by decide +kernel⟩, List.mem_of_getElem? (i := 820) (by decide +kernel), List.mem_of_getElem? (i := 1125) (by decide +kernel), List.mem_of_getElem? (i := 1126) (by decide +kernel)⟩
theorem lw_p53 : lw_okq (⟨"PondLensesModel", "wrongSheet", "(I)I"⟩, 24) := ⟨⟨by decide +kernel, by decide +kernel⟩, List.mem_of_getElem? (i := 820) (by decide +kernel), List.mem_of_getElem? (i := 1129) (by decide +kernel), List.mem_of_getElem? (i := 1130) (by decide +kernel)⟩
theorem lw_p54 : lw_okq (⟨"PondLensesModel", "fitsAs", "(III)Z"⟩, 24) := ⟨⟨by decide +kernel, by decide +kernel⟩, List.mem_of_getElem? (i := 820) (by decide +kernel), List.mem_of_getElem? (i := 1136) (by decide +kernel), List.mem_of_getElem? (i := 1137) (by decide +kernel)⟩
theorem lw_p55 : lw_okq (⟨"PondLensesModel", "told", "(II)I"⟩, 24) := ⟨⟨by decide +kernel, by decide +kernel⟩, List.mem_of_getElem? (i := 820) (by decide +kernel), List.mem_of_getElem? (i := 1140) (by decide +kernel), List.mem_of_getElem? (i := 1141) (by decide +kernel)⟩
theorem lw_p56 : lw_okq (⟨"PondLensesModel", "draw", "()I"⟩, 24) := ⟨⟨by decide +kernel, by decide +kernel⟩, List.mem_of_getElem? (i := 820) (by decide +kernel), List.mem_of_getElem? (i := 1169) (by decide +kernel), List.mem_of_getElem? (i := 1170) (by decide +kernel)⟩
theorem lw_p57 : lw_okq (⟨"PondLensesModel", "nextToken", "()V"⟩, 24) := ⟨⟨by decide +kernel, by decide +kernel⟩, List.mem_of_getElem? (i := 820) (by decide +kernel), List.mem_of_getElem? (i := 1195) (by decide +kernel), List.mem_of_getElem? (i := 1196) (by decide +kernel)⟩
theorem lw_p58 : lw_okq (⟨"PondLensesModel", "readsItem", "()Z"⟩, 24) := ⟨⟨by decide +kernel, by decide +kernel⟩, List.mem_of_getElem? (i := 820) (by decide +kernel), List.mem_of_getElem? (i := 1211) (by decide +kernel), List.mem_of_getElem? (i := 1212) (by decide +kernel)⟩
theorem lw_p59 : lw_okq (⟨"PondLensesModel", "wordOf", "([C)I"⟩, 24) := ⟨⟨by decide +kernel, by decide +kernel⟩, List.mem_of_getElem? (i := 820) (by decide +kernel), List.mem_of_getElem? (i := 1215) (by decide +kernel), List.mem_of_getElem? (i := 1216) (by decide +kernel)⟩
theorem lw_p60 : lw_okq (⟨"PondLensesModel", "readsThing", "(I)Z"⟩, 24) := ⟨⟨by decide +kernel, by decide +kernel⟩, List.mem_of_getElem? (i := 820) (by decide +kernel), List.mem_of_getElem? (i := 1219) (by decide +kernel), List.mem_of_getElem? (i := 1220) (by decide +kernel)⟩
theorem lw_p61 : lw_okq (⟨"PondLensesModel", "takesNumber", "(II)I"⟩, 24) := ⟨⟨by decide +kernel, by decide +kernel⟩, List.mem_of_getElem? (i := 820) (by decide +kernel), List.mem_of_getElem? (i := 1223) (by decide +kernel), List.mem_of_getElem? (i := 1224) (by decide +kernel)⟩
theorem lw_p62 : lw_okq (⟨"PondLensesModel", "readsPond", "()Z"⟩, 24) := ⟨⟨by decide +kernel, by decide +kernel⟩, List.mem_of_getElem? (i := 820) (by decide +kernel), List.mem_of_getElem? (i := 1227) (by decide +kernel), List.mem_of_getElem? (i := 1228) (by decide +kernel)⟩
def lw_privs_4 : List (MethodName × Nat) := [(⟨"PondLensesModel", "laysBack", "()V"⟩, 24), (⟨"PondLensesModel", "firstBy", "(III)I"⟩, 24), (⟨"PondLensesModel", "countsNone", "()V"⟩, 24), (⟨"PondLensesModel", "mostOf", "()I"⟩, 24), (⟨"PondLensesModel", "wrongSight", "(II)I"⟩, 24), (⟨"PondLensesModel", "wrongSheet", "(I)I"⟩, 24), (⟨"PondLensesModel", "fitsAs", "(III)Z"⟩, 24), (⟨"PondLensesModel", "told", "(II)I"⟩, 24), (⟨"PondLensesModel", "draw", "()I"⟩, 24), (⟨"PondLensesModel", "nextToken", "()V"⟩, 24), (⟨"PondLensesModel", "readsItem", "()Z"⟩, 24), (⟨"PondLensesModel", "wordOf", "([C)I"⟩, 24), (⟨"PondLensesModel", "readsThing", "(I)Z"⟩, 24), (⟨"PondLensesModel", "takesNumber", "(II)I"⟩, 24), (⟨"PondLensesModel", "readsPond", "()Z"⟩, 24)]
theorem lw_r4 : ∀ q ∈ lw_privs_4, lw_okq q := List.forall_mem_cons.mpr ⟨lw_p48, List.forall_mem_cons.mpr ⟨lw_p49, List.forall_mem_cons.mpr ⟨lw_p50, List.forall_mem_cons.mpr ⟨lw_p51, List.forall_mem_cons.mpr ⟨lw_p52, List.forall_mem_cons.mpr ⟨lw_p53, List.forall_mem_cons.mpr ⟨lw_p54, List.forall_mem_cons.mpr ⟨lw_p55, List.forall_mem_cons.mpr ⟨lw_p56, List.forall_mem_cons.mpr ⟨lw_p57, List.forall_mem_cons.mpr ⟨lw_p58, List.forall_mem_cons.mpr ⟨lw_p59, List.forall_mem_cons.mpr ⟨lw_p60, List.forall_mem_cons.mpr ⟨lw_p61, List.forall_mem_cons.mpr ⟨lw_p62, fun _ h => absurd h List.not_mem_nil⟩⟩⟩⟩⟩⟩⟩⟩⟩⟩⟩⟩⟩⟩⟩
def lw_privs : List (MethodName × Nat) := lw_privs_1 ++ (lw_privs_2 ++ (lw_privs_3 ++ (lw_privs_4)))
def lw_tbl : List Cond := k2_sels lw_privs ++ tables_1
theorem lw_privs_ok : ∀ q ∈ lw_privs, lw_okq q := by
  show ∀ q ∈ lw_privs_1 ++ (lw_privs_2 ++ (lw_privs_3 ++ (lw_privs_4))), lw_okq q
  exact List.forall_mem_append.mpr ⟨lw_r1, List.forall_mem_append.mpr ⟨lw_r2, List.forall_mem_append.mpr ⟨lw_r3, lw_r4⟩⟩⟩
def RX0 : String := "PondLenses$Chain"
def TX0 : u_T := fun k => match k with
  | 0 => ("PondLenses$Chain", "end", "I", false)
  | 1 => ("PondLenses$Chain", "size", "I", false)
  | 2 => ("PondLenses$Chain", "turned", "I", false)
  | _ => ("PondLenses$Chain", "flipped", "I", false)
def tyX0 : Nat → FieldType := fun k => match k with
  | 0 => .int
  | 1 => .int
  | 2 => .int
  | _ => .int
abbrev wsX00 : List Cond := u_ws RX0 TX0 4
theorem nmX0 : ∀ a, a < 4 → ∀ b, b < 4 → a ≠ b → (TX0 a).2.1 ≠ (TX0 b).2.1 := by decide +kernel
theorem tyX0_ok : ∀ k, k < 4 → parseFieldDescriptor (TX0 k).2.2.1 = some (tyX0 k) := by decide +kernel
abbrev cX0_init : ByteArray := prog_2_method_1_code
def yX0_init : MethodName := ⟨RX0, "<init>", "()V"⟩
abbrev cX0_begin : ByteArray := prog_2_method_2_code
def yX0_begin : MethodName := ⟨RX0, "begin", "(I)V"⟩
abbrev cX0_step : ByteArray := prog_2_method_3_code
def yX0_step : MethodName := ⟨RX0, "step", "(LPondLenses$Fen;)V"⟩
abbrev cX0_take : ByteArray := prog_2_method_4_code
def yX0_take : MethodName := ⟨RX0, "take", "(LPondLenses$Fen;II)V"⟩
def RX1 : String := "PondLenses$Fen"
def TX1 : u_T := fun k => match k with
  | 0 => ("PondLenses$Fen", "ponds", "[[I", true)
  | 1 => ("PondLenses$Fen", "things", "[[I", true)
  | 2 => ("PondLenses$Fen", "spots", "[I", true)
  | 3 => ("PondLenses$Fen", "size", "I", false)
  | 4 => ("PondLenses$Fen", "rain", "I", false)
  | 5 => ("PondLenses$Fen", "minute", "I", false)
  | _ => ("PondLenses$Fen", "z", "I", false)
def tyX1 : Nat → FieldType := fun k => match k with
  | 0 => .array (.array .int)
  | 1 => .array (.array .int)
  | 2 => .array .int
  | 3 => .int
  | 4 => .int
  | 5 => .int
  | _ => .int
abbrev wsX10 : List Cond := u_ws RX1 TX1 7
theorem nmX1 : ∀ a, a < 7 → ∀ b, b < 7 → a ≠ b → (TX1 a).2.1 ≠ (TX1 b).2.1 := by decide +kernel
theorem tyX1_ok : ∀ k, k < 7 → parseFieldDescriptor (TX1 k).2.2.1 = some (tyX1 k) := by decide +kernel
abbrev cX1_init : ByteArray := prog_3_method_1_code
def yX1_init : MethodName := ⟨RX1, "<init>", "()V"⟩
abbrev cX1_become : ByteArray := prog_3_method_2_code
def yX1_become : MethodName := ⟨RX1, "become", "(LPondLenses$Fen;)V"⟩
abbrev cX1_has : ByteArray := prog_3_method_3_code
def yX1_has : MethodName := ⟨RX1, "has", "(I)Z"⟩
abbrev cX1_isFull : ByteArray := prog_3_method_4_code
def yX1_isFull : MethodName := ⟨RX1, "isFull", "()Z"⟩
abbrev cX1_add : ByteArray := prog_3_method_5_code
def yX1_add : MethodName := ⟨RX1, "add", "(III)I"⟩
abbrev cX1_isOfKind : ByteArray := prog_3_method_6_code
def yX1_isOfKind : MethodName := ⟨RX1, "isOfKind", "(II)Z"⟩
abbrev cX1_thingsIn : ByteArray := prog_3_method_7_code
def yX1_thingsIn : MethodName := ⟨RX1, "thingsIn", "(I)I"⟩
abbrev cX1_thingsSeenIn : ByteArray := prog_3_method_8_code
def yX1_thingsSeenIn : MethodName := ⟨RX1, "thingsSeenIn", "(I)I"⟩
abbrev cX1_showersOf : ByteArray := prog_3_method_9_code
def yX1_showersOf : MethodName := ⟨RX1, "showersOf", "(I)I"⟩
abbrev cX1_pondsWithThings : ByteArray := prog_3_method_10_code
def yX1_pondsWithThings : MethodName := ⟨RX1, "pondsWithThings", "()I"⟩
abbrev cX1_pondsWithSights : ByteArray := prog_3_method_11_code
def yX1_pondsWithSights : MethodName := ⟨RX1, "pondsWithSights", "()I"⟩
abbrev cX1_lengths : ByteArray := prog_3_method_12_code
def yX1_lengths : MethodName := ⟨RX1, "lengths", "()I"⟩
abbrev cX1_spotsInUse : ByteArray := prog_3_method_13_code
def yX1_spotsInUse : MethodName := ⟨RX1, "spotsInUse", "()I"⟩
abbrev cX1_passMinute : ByteArray := prog_3_method_14_code
def yX1_passMinute : MethodName := ⟨RX1, "passMinute", "()V"⟩
abbrev cX1_nextPond : ByteArray := prog_3_method_15_code
def yX1_nextPond : MethodName := ⟨RX1, "nextPond", "(I)I"⟩
abbrev cX1_nextOfFrog : ByteArray := prog_3_method_16_code
def yX1_nextOfFrog : MethodName := ⟨RX1, "nextOfFrog", "(I)I"⟩
abbrev cX1_nextOfHeron : ByteArray := prog_3_method_17_code
def yX1_nextOfHeron : MethodName := ⟨RX1, "nextOfHeron", "(I)I"⟩
abbrev cX1_nextOfPike : ByteArray := prog_3_method_18_code
def yX1_nextOfPike : MethodName := ⟨RX1, "nextOfPike", "(I)I"⟩
abbrev cX1_hasFishIn : ByteArray := prog_3_method_19_code
def yX1_hasFishIn : MethodName := ⟨RX1, "hasFishIn", "(I)Z"⟩
abbrev cX1_draw : ByteArray := prog_3_method_20_code
def yX1_draw : MethodName := ⟨RX1, "draw", "()I"⟩
abbrev cX1_dropOne : ByteArray := prog_3_method_21_code
def yX1_dropOne : MethodName := ⟨RX1, "dropOne", "()V"⟩
abbrev cX1_chainEnd : ByteArray := prog_3_method_22_code
def yX1_chainEnd : MethodName := ⟨RX1, "chainEnd", "(II)I"⟩
abbrev cX1_chainComes : ByteArray := prog_3_method_23_code
def yX1_chainComes : MethodName := ⟨RX1, "chainComes", "(II)Z"⟩
abbrev cX1_roundLength : ByteArray := prog_3_method_24_code
def yX1_roundLength : MethodName := ⟨RX1, "roundLength", "(I)I"⟩
abbrev cX1_isLeastOfRound : ByteArray := prog_3_method_25_code
def yX1_isLeastOfRound : MethodName := ⟨RX1, "isLeastOfRound", "(I)Z"⟩
def RX2 : String := "PondLenses$Foresight"
def TX2 : u_T := fun k => match k with
  | _ => ("PondLenses$Foresight", "tally", "[I", true)
def tyX2 : Nat → FieldType := fun k => match k with
  | _ => .array .int
abbrev wsX20 : List Cond := u_ws RX2 TX2 1
theorem nmX2 : ∀ a, a < 1 → ∀ b, b < 1 → a ≠ b → (TX2 a).2.1 ≠ (TX2 b).2.1 := by decide +kernel
theorem tyX2_ok : ∀ k, k < 1 → parseFieldDescriptor (TX2 k).2.2.1 = some (tyX2 k) := by decide +kernel
abbrev cX2_init : ByteArray := prog_4_method_1_code
def yX2_init : MethodName := ⟨RX2, "<init>", "()V"⟩
abbrev cX2_minutesTo : ByteArray := prog_4_method_2_code
def yX2_minutesTo : MethodName := ⟨RX2, "minutesTo", "(LPondLenses$Fen;II)I"⟩
abbrev cX2_minutesToMeeting : ByteArray := prog_4_method_3_code
def yX2_minutesToMeeting : MethodName := ⟨RX2, "minutesToMeeting", "(LPondLenses$Fen;II)I"⟩
abbrev cX2_usualPond : ByteArray := prog_4_method_4_code
def yX2_usualPond : MethodName := ⟨RX2, "usualPond", "(LPondLenses$Fen;II)I"⟩
abbrev cX2_pondsVisited : ByteArray := prog_4_method_5_code
def yX2_pondsVisited : MethodName := ⟨RX2, "pondsVisited", "(LPondLenses$Fen;I)I"⟩
abbrev cX2_showsAsTold : ByteArray := prog_4_method_6_code
def yX2_showsAsTold : MethodName := ⟨RX2, "showsAsTold", "(LPondLenses$Fen;ILPondLenses$Sheet;)Z"⟩
abbrev cX2_thingsOnCourse : ByteArray := prog_4_method_7_code
def yX2_thingsOnCourse : MethodName := ⟨RX2, "thingsOnCourse", "(LPondLenses$Fen;LPondLenses$Sheet;)I"⟩
abbrev cX2_busiestPond : ByteArray := prog_4_method_8_code
def yX2_busiestPond : MethodName := ⟨RX2, "busiestPond", "(LPondLenses$Fen;I)I"⟩
abbrev cX2_clearTally : ByteArray := prog_4_method_9_code
def yX2_clearTally : MethodName := ⟨RX2, "clearTally", "()V"⟩
abbrev cX2_leastOfMost : ByteArray := prog_4_method_10_code
def yX2_leastOfMost : MethodName := ⟨RX2, "leastOfMost", "()I"⟩
def RX3 : String := "PondLenses$Sheet"
def TX3 : u_T := fun k => match k with
  | 0 => ("PondLenses$Sheet", "numbers", "[I", true)
  | 1 => ("PondLenses$Sheet", "bits", "I", false)
  | _ => ("PondLenses$Sheet", "length", "I", false)
def tyX3 : Nat → FieldType := fun k => match k with
  | 0 => .array .int
  | 1 => .int
  | _ => .int
abbrev wsX30 : List Cond := u_ws RX3 TX3 3
theorem nmX3 : ∀ a, a < 3 → ∀ b, b < 3 → a ≠ b → (TX3 a).2.1 ≠ (TX3 b).2.1 := by decide +kernel
theorem tyX3_ok : ∀ k, k < 3 → parseFieldDescriptor (TX3 k).2.2.1 = some (tyX3 k) := by decide +kernel
abbrev cX3_init : ByteArray := prog_5_method_1_code
def yX3_init : MethodName := ⟨RX3, "<init>", "()V"⟩
abbrev cX3_isMissing : ByteArray := prog_5_method_2_code
def yX3_isMissing : MethodName := ⟨RX3, "isMissing", "()Z"⟩
abbrev cX3_clear : ByteArray := prog_5_method_3_code
def yX3_clear : MethodName := ⟨RX3, "clear", "(II)V"⟩
abbrev cX3_put : ByteArray := prog_5_method_4_code
def yX3_put : MethodName := ⟨RX3, "put", "(II)V"⟩
abbrev cX3_reaches : ByteArray := prog_5_method_5_code
def yX3_reaches : MethodName := ⟨RX3, "reaches", "(II)Z"⟩
def RX4 : String := "PondLenses$Tape"
def TX4 : u_T := fun k => match k with
  | 0 => ("PondLenses$Tape", "bytes", "[I", true)
  | _ => ("PondLenses$Tape", "length", "I", false)
def tyX4 : Nat → FieldType := fun k => match k with
  | 0 => .array .int
  | _ => .int
abbrev wsX40 : List Cond := u_ws RX4 TX4 2
theorem nmX4 : ∀ a, a < 2 → ∀ b, b < 2 → a ≠ b → (TX4 a).2.1 ≠ (TX4 b).2.1 := by decide +kernel
theorem tyX4_ok : ∀ k, k < 2 → parseFieldDescriptor (TX4 k).2.2.1 = some (tyX4 k) := by decide +kernel
abbrev cX4_init : ByteArray := prog_6_method_1_code
def yX4_init : MethodName := ⟨RX4, "<init>", "()V"⟩
abbrev cX4_append : ByteArray := prog_6_method_2_code
def yX4_append : MethodName := ⟨RX4, "append", "(I)V"⟩
abbrev cX4_at : ByteArray := prog_6_method_3_code
def yX4_at : MethodName := ⟨RX4, "at", "(I)I"⟩
abbrev cX4_says : ByteArray := prog_6_method_4_code
def yX4_says : MethodName := ⟨RX4, "says", "(Ljava/lang/String;II)Z"⟩
def RX5 : String := "PondLenses$TextReader"
def TX5 : u_T := fun k => match k with
  | 0 => ("PondLenses$TextReader", "tokens", "LPondLenses$Tokens;", true)
  | _ => ("PondLenses$TextReader", "fault", "I", false)
def tyX5 : Nat → FieldType := fun k => match k with
  | 0 => .object "PondLenses$Tokens"
  | _ => .int
abbrev wsX50 : List Cond := u_ws RX5 TX5 2
theorem nmX5 : ∀ a, a < 2 → ∀ b, b < 2 → a ≠ b → (TX5 a).2.1 ≠ (TX5 b).2.1 := by decide +kernel
theorem tyX5_ok : ∀ k, k < 2 → parseFieldDescriptor (TX5 k).2.2.1 = some (tyX5 k) := by decide +kernel
abbrev cX5_init : ByteArray := prog_7_method_1_code
def yX5_init : MethodName := ⟨RX5, "<init>", "()V"⟩
abbrev cX5_read : ByteArray := prog_7_method_2_code
def yX5_read : MethodName := ⟨RX5, "read", "(LPondLenses$Tape;LPondLenses$Fen;)I"⟩
abbrev cX5_readItem : ByteArray := prog_7_method_3_code
def yX5_readItem : MethodName := ⟨RX5, "readItem", "(LPondLenses$Fen;)V"⟩
abbrev cX5_readThing : ByteArray := prog_7_method_4_code
def yX5_readThing : MethodName := ⟨RX5, "readThing", "(LPondLenses$Fen;)V"⟩
abbrev cX5_readPond : ByteArray := prog_7_method_5_code
def yX5_readPond : MethodName := ⟨RX5, "readPond", "(LPondLenses$Fen;)V"⟩
abbrev cX5_readTrait : ByteArray := prog_7_method_6_code
def yX5_readTrait : MethodName := ⟨RX5, "readTrait", "(II)I"⟩
abbrev cX5_readNumber : ByteArray := prog_7_method_7_code
def yX5_readNumber : MethodName := ⟨RX5, "readNumber", "(III)I"⟩
abbrev cX5_hasWord : ByteArray := prog_7_method_8_code
def yX5_hasWord : MethodName := ⟨RX5, "hasWord", "(I)Z"⟩
abbrev cX5_hasKind : ByteArray := prog_7_method_9_code
def yX5_hasKind : MethodName := ⟨RX5, "hasKind", "()Z"⟩
abbrev cX5_hasNumber : ByteArray := prog_7_method_10_code
def yX5_hasNumber : MethodName := ⟨RX5, "hasNumber", "()Z"⟩
abbrev cX5_hasSign : ByteArray := prog_7_method_11_code
def yX5_hasSign : MethodName := ⟨RX5, "hasSign", "()Z"⟩
abbrev cX5_fail : ByteArray := prog_7_method_12_code
def yX5_fail : MethodName := ⟨RX5, "fail", "()V"⟩
def RX6 : String := "PondLenses$Tokens"
def TX6 : u_T := fun k => match k with
  | 0 => ("PondLenses$Tokens", "sorts", "[I", true)
  | 1 => ("PondLenses$Tokens", "begins", "[I", true)
  | 2 => ("PondLenses$Tokens", "values", "[I", true)
  | _ => ("PondLenses$Tokens", "at", "I", false)
def tyX6 : Nat → FieldType := fun k => match k with
  | 0 => .array .int
  | 1 => .array .int
  | 2 => .array .int
  | _ => .int
abbrev wsX60 : List Cond := u_ws RX6 TX6 4
theorem nmX6 : ∀ a, a < 4 → ∀ b, b < 4 → a ≠ b → (TX6 a).2.1 ≠ (TX6 b).2.1 := by decide +kernel
theorem tyX6_ok : ∀ k, k < 4 → parseFieldDescriptor (TX6 k).2.2.1 = some (tyX6 k) := by decide +kernel
abbrev cX6_init : ByteArray := prog_8_method_1_code
def yX6_init : MethodName := ⟨RX6, "<init>", "()V"⟩
abbrev cX6_take : ByteArray := prog_8_method_2_code
def yX6_take : MethodName := ⟨RX6, "take", "(LPondLenses$Tape;)V"⟩
abbrev cX6_begin : ByteArray := prog_8_method_3_code
def yX6_begin : MethodName := ⟨RX6, "begin", "()I"⟩
abbrev cX6_value : ByteArray := prog_8_method_4_code
def yX6_value : MethodName := ⟨RX6, "value", "()I"⟩
abbrev cX6_isSort : ByteArray := prog_8_method_5_code
def yX6_isSort : MethodName := ⟨RX6, "isSort", "(I)Z"⟩
abbrev cX6_isWord : ByteArray := prog_8_method_6_code
def yX6_isWord : MethodName := ⟨RX6, "isWord", "(I)Z"⟩
abbrev cX6_advance : ByteArray := prog_8_method_7_code
def yX6_advance : MethodName := ⟨RX6, "advance", "()V"⟩
abbrev cX6_takeOne : ByteArray := prog_8_method_8_code
def yX6_takeOne : MethodName := ⟨RX6, "takeOne", "(LPondLenses$Tape;II)I"⟩
abbrev cX6_isLetter : ByteArray := prog_8_method_9_code
def yX6_isLetter : MethodName := ⟨RX6, "isLetter", "(I)Z"⟩
abbrev cX6_isDigit : ByteArray := prog_8_method_10_code
def yX6_isDigit : MethodName := ⟨RX6, "isDigit", "(I)Z"⟩
abbrev cX6_wordAt : ByteArray := prog_8_method_11_code
def yX6_wordAt : MethodName := ⟨RX6, "wordAt", "(LPondLenses$Tape;II)I"⟩
abbrev cX6_nameOf : ByteArray := prog_8_method_12_code
def yX6_nameOf : MethodName := ⟨RX6, "nameOf", "(I)Ljava/lang/String;"⟩
def RX7 : String := "PondLenses"
def TX7 : u_T := fun k => match k with
  | 0 => ("PondLenses", "fen", "LPondLenses$Fen;", true)
  | 1 => ("PondLenses", "draft", "LPondLenses$Fen;", true)
  | 2 => ("PondLenses", "kept", "LPondLenses$Fen;", true)
  | 3 => ("PondLenses", "keeps", "Z", false)
  | 4 => ("PondLenses", "walk", "LPondLenses$Chain;", true)
  | 5 => ("PondLenses", "foresight", "LPondLenses$Foresight;", true)
  | 6 => ("PondLenses", "tape", "LPondLenses$Tape;", true)
  | 7 => ("PondLenses", "reader", "LPondLenses$TextReader;", true)
  | 8 => ("PondLenses", "sheets", "[LPondLenses$Sheet;", true)
  | _ => ("PondLenses", "found", "[I", true)
def tyX7 : Nat → FieldType := fun k => match k with
  | 0 => .object "PondLenses$Fen"
  | 1 => .object "PondLenses$Fen"
  | 2 => .object "PondLenses$Fen"
  | 3 => .boolean
  | 4 => .object "PondLenses$Chain"
  | 5 => .object "PondLenses$Foresight"
  | 6 => .object "PondLenses$Tape"
  | 7 => .object "PondLenses$TextReader"
  | 8 => .array (.object "PondLenses$Sheet")
  | _ => .array .int
abbrev wsX70 : List Cond := u_ws RX7 TX7 10
theorem nmX7 : ∀ a, a < 10 → ∀ b, b < 10 → a ≠ b → (TX7 a).2.1 ≠ (TX7 b).2.1 := by decide +kernel
theorem tyX7_ok : ∀ k, k < 10 → parseFieldDescriptor (TX7 k).2.2.1 = some (tyX7 k) := by decide +kernel
abbrev cX7_init : ByteArray := prog_1_method_1_code
def yX7_init : MethodName := ⟨RX7, "<init>", "()V"⟩
abbrev cX7_pond : ByteArray := prog_1_method_2_code
def yX7_pond : MethodName := ⟨RX7, "pond", "(II)I"⟩
abbrev cX7_dig : ByteArray := prog_1_method_3_code
def yX7_dig : MethodName := ⟨RX7, "dig", "(III)I"⟩
abbrev cX7_thing : ByteArray := prog_1_method_4_code
def yX7_thing : MethodName := ⟨RX7, "thing", "(II)I"⟩
abbrev cX7_of : ByteArray := prog_1_method_5_code
def yX7_of : MethodName := ⟨RX7, "of", "(II)I"⟩
abbrev cX7_change : ByteArray := prog_1_method_6_code
def yX7_change : MethodName := ⟨RX7, "change", "(III)I"⟩
abbrev cX7_rain : ByteArray := prog_1_method_7_code
def yX7_rain : MethodName := ⟨RX7, "rain", "(I)I"⟩
abbrev cX7_go : ByteArray := prog_1_method_8_code
def yX7_go : MethodName := ⟨RX7, "go", "(I)I"⟩
abbrev cX7_now : ByteArray := prog_1_method_9_code
def yX7_now : MethodName := ⟨RX7, "now", "(I)I"⟩
abbrev cX7_chain : ByteArray := prog_1_method_10_code
def yX7_chain : MethodName := ⟨RX7, "chain", "(III)I"⟩
abbrev cX7_through : ByteArray := prog_1_method_11_code
def yX7_through : MethodName := ⟨RX7, "through", "(II)I"⟩
abbrev cX7_upright : ByteArray := prog_1_method_12_code
def yX7_upright : MethodName := ⟨RX7, "upright", "(I)I"⟩
abbrev cX7_large : ByteArray := prog_1_method_13_code
def yX7_large : MethodName := ⟨RX7, "large", "(III)I"⟩
abbrev cX7_round : ByteArray := prog_1_method_14_code
def yX7_round : MethodName := ⟨RX7, "round", "(I)I"⟩
abbrev cX7_rounds : ByteArray := prog_1_method_15_code
def yX7_rounds : MethodName := ⟨RX7, "rounds", "()I"⟩
abbrev cX7_before : ByteArray := prog_1_method_16_code
def yX7_before : MethodName := ⟨RX7, "before", "(I)I"⟩
abbrev cX7_shownBy : ByteArray := prog_1_method_17_code
def yX7_shownBy : MethodName := ⟨RX7, "shownBy", "(I)I"⟩
abbrev cX7_ahead : ByteArray := prog_1_method_18_code
def yX7_ahead : MethodName := ⟨RX7, "ahead", "(II)I"⟩
abbrev cX7_comes : ByteArray := prog_1_method_19_code
def yX7_comes : MethodName := ⟨RX7, "comes", "(II)I"⟩
abbrev cX7_seen : ByteArray := prog_1_method_20_code
def yX7_seen : MethodName := ⟨RX7, "seen", "(II)I"⟩
abbrev cX7_meet : ByteArray := prog_1_method_21_code
def yX7_meet : MethodName := ⟨RX7, "meet", "(II)I"⟩
abbrev cX7_cast : ByteArray := prog_1_method_22_code
def yX7_cast : MethodName := ⟨RX7, "cast", "(II)I"⟩
abbrev cX7_kindFor : ByteArray := prog_1_method_23_code
def yX7_kindFor : MethodName := ⟨RX7, "kindFor", "(I)I"⟩
abbrev cX7_fits : ByteArray := prog_1_method_24_code
def yX7_fits : MethodName := ⟨RX7, "fits", "(II)I"⟩
abbrev cX7_lens : ByteArray := prog_1_method_25_code
def yX7_lens : MethodName := ⟨RX7, "lens", "(II)I"⟩
abbrev cX7_which : ByteArray := prog_1_method_26_code
def yX7_which : MethodName := ⟨RX7, "which", "(I)I"⟩
abbrev cX7_eyes : ByteArray := prog_1_method_27_code
def yX7_eyes : MethodName := ⟨RX7, "eyes", "()I"⟩
abbrev cX7_dredge : ByteArray := prog_1_method_28_code
def yX7_dredge : MethodName := ⟨RX7, "dredge", "(II)I"⟩
abbrev cX7_watch : ByteArray := prog_1_method_29_code
def yX7_watch : MethodName := ⟨RX7, "watch", "(I)I"⟩
abbrev cX7_falls : ByteArray := prog_1_method_30_code
def yX7_falls : MethodName := ⟨RX7, "falls", "(I)I"⟩
abbrev cX7_odds : ByteArray := prog_1_method_31_code
def yX7_odds : MethodName := ⟨RX7, "odds", "(II)J"⟩
abbrev cX7_seed : ByteArray := prog_1_method_32_code
def yX7_seed : MethodName := ⟨RX7, "seed", "(I)I"⟩
abbrev cX7_feed : ByteArray := prog_1_method_33_code
def yX7_feed : MethodName := ⟨RX7, "feed", "(II)I"⟩
abbrev cX7_wipe : ByteArray := prog_1_method_34_code
def yX7_wipe : MethodName := ⟨RX7, "wipe", "()I"⟩
abbrev cX7_text : ByteArray := prog_1_method_35_code
def yX7_text : MethodName := ⟨RX7, "text", "()I"⟩
abbrev cX7_hold : ByteArray := prog_1_method_36_code
def yX7_hold : MethodName := ⟨RX7, "hold", "(II)I"⟩
abbrev cX7_as : ByteArray := prog_1_method_37_code
def yX7_as : MethodName := ⟨RX7, "as", "(II)I"⟩
abbrev cX7_sheet : ByteArray := prog_1_method_38_code
def yX7_sheet : MethodName := ⟨RX7, "sheet", "(III)I"⟩
abbrev cX7_write : ByteArray := prog_1_method_39_code
def yX7_write : MethodName := ⟨RX7, "write", "(III)I"⟩
abbrev cX7_copy : ByteArray := prog_1_method_40_code
def yX7_copy : MethodName := ⟨RX7, "copy", "(IIIII)I"⟩
abbrev cX7_load : ByteArray := prog_1_method_41_code
def yX7_load : MethodName := ⟨RX7, "load", "(I)I"⟩
abbrev cX7_judge : ByteArray := prog_1_method_42_code
def yX7_judge : MethodName := ⟨RX7, "judge", "(I)I"⟩
abbrev cX7_image : ByteArray := prog_1_method_43_code
def yX7_image : MethodName := ⟨RX7, "image", "()I"⟩
abbrev cX7_undo : ByteArray := prog_1_method_44_code
def yX7_undo : MethodName := ⟨RX7, "undo", "()I"⟩
abbrev cX7_tear : ByteArray := prog_1_method_45_code
def yX7_tear : MethodName := ⟨RX7, "tear", "()I"⟩
abbrev cX7_count : ByteArray := prog_1_method_46_code
def yX7_count : MethodName := ⟨RX7, "count", "(I)I"⟩
abbrev cX7_status : ByteArray := prog_1_method_47_code
def yX7_status : MethodName := ⟨RX7, "status", "(I)I"⟩
abbrev cX7_finding : ByteArray := prog_1_method_48_code
def yX7_finding : MethodName := ⟨RX7, "finding", "(I)I"⟩
abbrev cX7_findingOrAnswer : ByteArray := prog_1_method_49_code
def yX7_findingOrAnswer : MethodName := ⟨RX7, "findingOrAnswer", "(I)I"⟩
abbrev cX7_lackOfSheet : ByteArray := prog_1_method_50_code
def yX7_lackOfSheet : MethodName := ⟨RX7, "lackOfSheet", "(I)I"⟩
abbrev cX7_lackOfSight : ByteArray := prog_1_method_51_code
def yX7_lackOfSight : MethodName := ⟨RX7, "lackOfSight", "(II)I"⟩
abbrev cX7_lensesFor : ByteArray := prog_1_method_52_code
def yX7_lensesFor : MethodName := ⟨RX7, "lensesFor", "(LPondLenses$Sheet;I)I"⟩
abbrev cX7_isPond : ByteArray := prog_1_method_53_code
def yX7_isPond : MethodName := ⟨RX7, "isPond", "(I)Z"⟩
abbrev cX7_isKind : ByteArray := prog_1_method_54_code
def yX7_isKind : MethodName := ⟨RX7, "isKind", "(I)Z"⟩
abbrev cX7_isSpot : ByteArray := prog_1_method_55_code
def yX7_isSpot : MethodName := ⟨RX7, "isSpot", "(I)Z"⟩
abbrev cX7_isSheet : ByteArray := prog_1_method_56_code
def yX7_isSheet : MethodName := ⟨RX7, "isSheet", "(I)Z"⟩
abbrev cX7_isBits : ByteArray := prog_1_method_57_code
def yX7_isBits : MethodName := ⟨RX7, "isBits", "(I)Z"⟩
abbrev cX7_isSteps : ByteArray := prog_1_method_58_code
def yX7_isSteps : MethodName := ⟨RX7, "isSteps", "(I)Z"⟩
abbrev cX7_fitsPond : ByteArray := prog_1_method_59_code
def yX7_fitsPond : MethodName := ⟨RX7, "fitsPond", "(III)Z"⟩
abbrev cX7_fitsThing : ByteArray := prog_1_method_60_code
def yX7_fitsThing : MethodName := ⟨RX7, "fitsThing", "(II)Z"⟩
abbrev cX7_fitsDepth : ByteArray := prog_1_method_61_code
def yX7_fitsDepth : MethodName := ⟨RX7, "fitsDepth", "(II)Z"⟩
def RX8 : String := "PondLensesModel"
def TX8 : u_T := fun k => match k with
  | 0 => ("PondLensesModel", "s", "[I", true)
  | 1 => ("PondLensesModel", "kept", "[I", true)
  | 2 => ("PondLensesModel", "aside", "[I", true)
  | 3 => ("PondLensesModel", "isKept", "Z", false)
  | 4 => ("PondLensesModel", "found", "[I", true)
  | 5 => ("PondLensesModel", "ends", "I", false)
  | 6 => ("PondLensesModel", "size", "I", false)
  | 7 => ("PondLensesModel", "turned", "I", false)
  | 8 => ("PondLensesModel", "flipped", "I", false)
  | 9 => ("PondLensesModel", "counts", "[I", true)
  | 10 => ("PondLensesModel", "tape", "[I", true)
  | 11 => ("PondLensesModel", "taped", "I", false)
  | 12 => ("PondLensesModel", "token", "I", false)
  | 13 => ("PondLensesModel", "begun", "I", false)
  | 14 => ("PondLensesModel", "ended", "I", false)
  | 15 => ("PondLensesModel", "value", "J", false)
  | 16 => ("PondLensesModel", "letters", "[C", true)
  | 17 => ("PondLensesModel", "more", "[C", true)
  | 18 => ("PondLensesModel", "others", "[C", true)
  | 19 => ("PondLensesModel", "about", "[C", true)
  | 20 => ("PondLensesModel", "widths", "[I", true)
  | 21 => ("PondLensesModel", "sizes", "[I", true)
  | 22 => ("PondLensesModel", "cells", "[I", true)
  | _ => ("PondLensesModel", "carried", "[I", true)
def tyX8 : Nat → FieldType := fun k => match k with
  | 0 => .array .int
  | 1 => .array .int
  | 2 => .array .int
  | 3 => .boolean
  | 4 => .array .int
  | 5 => .int
  | 6 => .int
  | 7 => .int
  | 8 => .int
  | 9 => .array .int
  | 10 => .array .int
  | 11 => .int
  | 12 => .int
  | 13 => .int
  | 14 => .int
  | 15 => .long
  | 16 => .array .char
  | 17 => .array .char
  | 18 => .array .char
  | 19 => .array .char
  | 20 => .array .int
  | 21 => .array .int
  | 22 => .array .int
  | _ => .array .int
abbrev wsX80 : List Cond := u_ws RX8 TX8 24
theorem nmX8 : ∀ a, a < 24 → ∀ b, b < 24 → a ≠ b → (TX8 a).2.1 ≠ (TX8 b).2.1 := by decide +kernel
theorem tyX8_ok : ∀ k, k < 24 → parseFieldDescriptor (TX8 k).2.2.1 = some (tyX8 k) := by decide +kernel
abbrev cX8_init : ByteArray := prog_10_method_1_code
def yX8_init : MethodName := ⟨RX8, "<init>", "()V"⟩
abbrev cX8_no : ByteArray := prog_10_method_2_code
def yX8_no : MethodName := ⟨RX8, "no", "(I)I"⟩
abbrev cX8_in1 : ByteArray := prog_10_method_3_code
def yX8_in1 : MethodName := ⟨RX8, "in1", "(III)Z"⟩
abbrev cX8_less : ByteArray := prog_10_method_4_code
def yX8_less : MethodName := ⟨RX8, "less", "(II)I"⟩
abbrev cX8_bits : ByteArray := prog_10_method_5_code
def yX8_bits : MethodName := ⟨RX8, "bits", "(I)I"⟩
abbrev cX8_isPond : ByteArray := prog_10_method_6_code
def yX8_isPond : MethodName := ⟨RX8, "isPond", "(I)Z"⟩
abbrev cX8_isThing : ByteArray := prog_10_method_7_code
def yX8_isThing : MethodName := ⟨RX8, "isThing", "(I)Z"⟩
abbrev cX8_of1 : ByteArray := prog_10_method_8_code
def yX8_of1 : MethodName := ⟨RX8, "of1", "(II)I"⟩
abbrev cX8_lays1 : ByteArray := prog_10_method_9_code
def yX8_lays1 : MethodName := ⟨RX8, "lays1", "(III)V"⟩
abbrev cX8_get : ByteArray := prog_10_method_10_code
def yX8_get : MethodName := ⟨RX8, "get", "(II)I"⟩
abbrev cX8_puts : ByteArray := prog_10_method_11_code
def yX8_puts : MethodName := ⟨RX8, "puts", "(III)V"⟩
abbrev cX8_setsAside : ByteArray := prog_10_method_12_code
def yX8_setsAside : MethodName := ⟨RX8, "setsAside", "()V"⟩
abbrev cX8_laysBack : ByteArray := prog_10_method_13_code
def yX8_laysBack : MethodName := ⟨RX8, "laysBack", "()V"⟩
abbrev cX8_inside : ByteArray := prog_10_method_14_code
def yX8_inside : MethodName := ⟨RX8, "inside", "(I)I"⟩
abbrev cX8_seenIn : ByteArray := prog_10_method_15_code
def yX8_seenIn : MethodName := ⟨RX8, "seenIn", "(I)I"⟩
abbrev cX8_pondsWith : ByteArray := prog_10_method_16_code
def yX8_pondsWith : MethodName := ⟨RX8, "pondsWith", "(Z)I"⟩
abbrev cX8_showing : ByteArray := prog_10_method_17_code
def yX8_showing : MethodName := ⟨RX8, "showing", "(I)I"⟩
abbrev cX8_lengths : ByteArray := prog_10_method_18_code
def yX8_lengths : MethodName := ⟨RX8, "lengths", "()I"⟩
abbrev cX8_hasFish : ByteArray := prog_10_method_19_code
def yX8_hasFish : MethodName := ⟨RX8, "hasFish", "(II)Z"⟩
abbrev cX8_asFrog : ByteArray := prog_10_method_20_code
def yX8_asFrog : MethodName := ⟨RX8, "asFrog", "(I)I"⟩
abbrev cX8_asHeron : ByteArray := prog_10_method_21_code
def yX8_asHeron : MethodName := ⟨RX8, "asHeron", "(I)I"⟩
abbrev cX8_dryNext : ByteArray := prog_10_method_22_code
def yX8_dryNext : MethodName := ⟨RX8, "dryNext", "(I)I"⟩
abbrev cX8_nextOf : ByteArray := prog_10_method_23_code
def yX8_nextOf : MethodName := ⟨RX8, "nextOf", "(I)I"⟩
abbrev cX8_minute : ByteArray := prog_10_method_24_code
def yX8_minute : MethodName := ⟨RX8, "minute", "()V"⟩
abbrev cX8_pond : ByteArray := prog_10_method_25_code
def yX8_pond : MethodName := ⟨RX8, "pond", "(II)I"⟩
abbrev cX8_isOfPond : ByteArray := prog_10_method_26_code
def yX8_isOfPond : MethodName := ⟨RX8, "isOfPond", "(III)Z"⟩
abbrev cX8_dig : ByteArray := prog_10_method_27_code
def yX8_dig : MethodName := ⟨RX8, "dig", "(III)I"⟩
abbrev cX8_addsThing : ByteArray := prog_10_method_28_code
def yX8_addsThing : MethodName := ⟨RX8, "addsThing", "(II)V"⟩
abbrev cX8_thing : ByteArray := prog_10_method_29_code
def yX8_thing : MethodName := ⟨RX8, "thing", "(II)I"⟩
abbrev cX8_of : ByteArray := prog_10_method_30_code
def yX8_of : MethodName := ⟨RX8, "of", "(II)I"⟩
abbrev cX8_change : ByteArray := prog_10_method_31_code
def yX8_change : MethodName := ⟨RX8, "change", "(III)I"⟩
abbrev cX8_rain : ByteArray := prog_10_method_32_code
def yX8_rain : MethodName := ⟨RX8, "rain", "(I)I"⟩
abbrev cX8_go : ByteArray := prog_10_method_33_code
def yX8_go : MethodName := ⟨RX8, "go", "(I)I"⟩
abbrev cX8_now : ByteArray := prog_10_method_34_code
def yX8_now : MethodName := ⟨RX8, "now", "(I)I"⟩
abbrev cX8_begins : ByteArray := prog_10_method_35_code
def yX8_begins : MethodName := ⟨RX8, "begins", "(I)V"⟩
abbrev cX8_steps : ByteArray := prog_10_method_36_code
def yX8_steps : MethodName := ⟨RX8, "steps", "()V"⟩
abbrev cX8_goesThrough : ByteArray := prog_10_method_37_code
def yX8_goesThrough : MethodName := ⟨RX8, "goesThrough", "(II)V"⟩
abbrev cX8_chain : ByteArray := prog_10_method_38_code
def yX8_chain : MethodName := ⟨RX8, "chain", "(III)I"⟩
abbrev cX8_through : ByteArray := prog_10_method_39_code
def yX8_through : MethodName := ⟨RX8, "through", "(II)I"⟩
abbrev cX8_upright : ByteArray := prog_10_method_40_code
def yX8_upright : MethodName := ⟨RX8, "upright", "(I)I"⟩
abbrev cX8_large : ByteArray := prog_10_method_41_code
def yX8_large : MethodName := ⟨RX8, "large", "(III)I"⟩
abbrev cX8_isRound : ByteArray := prog_10_method_42_code
def yX8_isRound : MethodName := ⟨RX8, "isRound", "(I)Z"⟩
abbrev cX8_aheadOf : ByteArray := prog_10_method_43_code
def yX8_aheadOf : MethodName := ⟨RX8, "aheadOf", "(I)I"⟩
abbrev cX8_roundOf : ByteArray := prog_10_method_44_code
def yX8_roundOf : MethodName := ⟨RX8, "roundOf", "(I)I"⟩
abbrev cX8_round : ByteArray := prog_10_method_45_code
def yX8_round : MethodName := ⟨RX8, "round", "(I)I"⟩
abbrev cX8_rounds : ByteArray := prog_10_method_46_code
def yX8_rounds : MethodName := ⟨RX8, "rounds", "()I"⟩
abbrev cX8_before : ByteArray := prog_10_method_47_code
def yX8_before : MethodName := ⟨RX8, "before", "(I)I"⟩
abbrev cX8_shownBy : ByteArray := prog_10_method_48_code
def yX8_shownBy : MethodName := ⟨RX8, "shownBy", "(I)I"⟩
abbrev cX8_ahead : ByteArray := prog_10_method_49_code
def yX8_ahead : MethodName := ⟨RX8, "ahead", "(II)I"⟩
abbrev cX8_firstBy : ByteArray := prog_10_method_50_code
def yX8_firstBy : MethodName := ⟨RX8, "firstBy", "(III)I"⟩
abbrev cX8_comes : ByteArray := prog_10_method_51_code
def yX8_comes : MethodName := ⟨RX8, "comes", "(II)I"⟩
abbrev cX8_seen : ByteArray := prog_10_method_52_code
def yX8_seen : MethodName := ⟨RX8, "seen", "(II)I"⟩
abbrev cX8_meet : ByteArray := prog_10_method_53_code
def yX8_meet : MethodName := ⟨RX8, "meet", "(II)I"⟩
abbrev cX8_mostOf : ByteArray := prog_10_method_54_code
def yX8_mostOf : MethodName := ⟨RX8, "mostOf", "()I"⟩
abbrev cX8_countsNone : ByteArray := prog_10_method_55_code
def yX8_countsNone : MethodName := ⟨RX8, "countsNone", "()V"⟩
abbrev cX8_cast : ByteArray := prog_10_method_56_code
def yX8_cast : MethodName := ⟨RX8, "cast", "(II)I"⟩
abbrev cX8_kindFor : ByteArray := prog_10_method_57_code
def yX8_kindFor : MethodName := ⟨RX8, "kindFor", "(I)I"⟩
abbrev cX8_isSheet : ByteArray := prog_10_method_58_code
def yX8_isSheet : MethodName := ⟨RX8, "isSheet", "(I)Z"⟩
abbrev cX8_wrongSheet : ByteArray := prog_10_method_59_code
def yX8_wrongSheet : MethodName := ⟨RX8, "wrongSheet", "(I)I"⟩
abbrev cX8_wrongSight : ByteArray := prog_10_method_60_code
def yX8_wrongSight : MethodName := ⟨RX8, "wrongSight", "(II)I"⟩
abbrev cX8_told : ByteArray := prog_10_method_61_code
def yX8_told : MethodName := ⟨RX8, "told", "(II)I"⟩
abbrev cX8_fitsAs : ByteArray := prog_10_method_62_code
def yX8_fitsAs : MethodName := ⟨RX8, "fitsAs", "(III)Z"⟩
abbrev cX8_fits : ByteArray := prog_10_method_63_code
def yX8_fits : MethodName := ⟨RX8, "fits", "(II)I"⟩
abbrev cX8_lens : ByteArray := prog_10_method_64_code
def yX8_lens : MethodName := ⟨RX8, "lens", "(II)I"⟩
abbrev cX8_which : ByteArray := prog_10_method_65_code
def yX8_which : MethodName := ⟨RX8, "which", "(I)I"⟩
abbrev cX8_eyes : ByteArray := prog_10_method_66_code
def yX8_eyes : MethodName := ⟨RX8, "eyes", "()I"⟩
abbrev cX8_dredge : ByteArray := prog_10_method_67_code
def yX8_dredge : MethodName := ⟨RX8, "dredge", "(II)I"⟩
abbrev cX8_watch : ByteArray := prog_10_method_68_code
def yX8_watch : MethodName := ⟨RX8, "watch", "(I)I"⟩
abbrev cX8_draw : ByteArray := prog_10_method_69_code
def yX8_draw : MethodName := ⟨RX8, "draw", "()I"⟩
abbrev cX8_falls : ByteArray := prog_10_method_70_code
def yX8_falls : MethodName := ⟨RX8, "falls", "(I)I"⟩
abbrev cX8_odds : ByteArray := prog_10_method_71_code
def yX8_odds : MethodName := ⟨RX8, "odds", "(II)J"⟩
abbrev cX8_seed : ByteArray := prog_10_method_72_code
def yX8_seed : MethodName := ⟨RX8, "seed", "(I)I"⟩
abbrev cX8_feed : ByteArray := prog_10_method_73_code
def yX8_feed : MethodName := ⟨RX8, "feed", "(II)I"⟩
abbrev cX8_wipe : ByteArray := prog_10_method_74_code
def yX8_wipe : MethodName := ⟨RX8, "wipe", "()I"⟩
abbrev cX8_isLetter : ByteArray := prog_10_method_75_code
def yX8_isLetter : MethodName := ⟨RX8, "isLetter", "(I)Z"⟩
abbrev cX8_isDigit : ByteArray := prog_10_method_76_code
def yX8_isDigit : MethodName := ⟨RX8, "isDigit", "(I)Z"⟩
abbrev cX8_nextToken : ByteArray := prog_10_method_77_code
def yX8_nextToken : MethodName := ⟨RX8, "nextToken", "()V"⟩
abbrev cX8_wordOf : ByteArray := prog_10_method_78_code
def yX8_wordOf : MethodName := ⟨RX8, "wordOf", "([C)I"⟩
abbrev cX8_takesNumber : ByteArray := prog_10_method_79_code
def yX8_takesNumber : MethodName := ⟨RX8, "takesNumber", "(II)I"⟩
abbrev cX8_readsThing : ByteArray := prog_10_method_80_code
def yX8_readsThing : MethodName := ⟨RX8, "readsThing", "(I)Z"⟩
abbrev cX8_readsPond : ByteArray := prog_10_method_81_code
def yX8_readsPond : MethodName := ⟨RX8, "readsPond", "()Z"⟩
abbrev cX8_readsItem : ByteArray := prog_10_method_82_code
def yX8_readsItem : MethodName := ⟨RX8, "readsItem", "()Z"⟩
abbrev cX8_text : ByteArray := prog_10_method_83_code
def yX8_text : MethodName := ⟨RX8, "text", "()I"⟩
abbrev cX8_isSpot : ByteArray := prog_10_method_84_code
def yX8_isSpot : MethodName := ⟨RX8, "isSpot", "(I)Z"⟩
abbrev cX8_hold : ByteArray := prog_10_method_85_code
def yX8_hold : MethodName := ⟨RX8, "hold", "(II)I"⟩
abbrev cX8_above : ByteArray := prog_10_method_86_code
def yX8_above : MethodName := ⟨RX8, "above", "(I)I"⟩
abbrev cX8_as : ByteArray := prog_10_method_87_code
def yX8_as : MethodName := ⟨RX8, "as", "(II)I"⟩
abbrev cX8_sheet : ByteArray := prog_10_method_88_code
def yX8_sheet : MethodName := ⟨RX8, "sheet", "(III)I"⟩
abbrev cX8_write : ByteArray := prog_10_method_89_code
def yX8_write : MethodName := ⟨RX8, "write", "(III)I"⟩
abbrev cX8_copy : ByteArray := prog_10_method_90_code
def yX8_copy : MethodName := ⟨RX8, "copy", "(IIIII)I"⟩
abbrev cX8_load : ByteArray := prog_10_method_91_code
def yX8_load : MethodName := ⟨RX8, "load", "(I)I"⟩
abbrev cX8_judge : ByteArray := prog_10_method_92_code
def yX8_judge : MethodName := ⟨RX8, "judge", "(I)I"⟩
abbrev cX8_image : ByteArray := prog_10_method_93_code
def yX8_image : MethodName := ⟨RX8, "image", "()I"⟩
abbrev cX8_undo : ByteArray := prog_10_method_94_code
def yX8_undo : MethodName := ⟨RX8, "undo", "()I"⟩
abbrev cX8_tear : ByteArray := prog_10_method_95_code
def yX8_tear : MethodName := ⟨RX8, "tear", "()I"⟩
abbrev cX8_count : ByteArray := prog_10_method_96_code
def yX8_count : MethodName := ⟨RX8, "count", "(I)I"⟩
abbrev cX8_status : ByteArray := prog_10_method_97_code
def yX8_status : MethodName := ⟨RX8, "status", "(I)I"⟩
def RJ6 : String := "java/lang/Integer"
def TJ6 : u_T := fun k => match k with
  | _ => ("", "", "", false)
def tyJ6 : Nat → FieldType := fun k => match k with
  | _ => .int
abbrev wsJ60 : List Cond := u_ws RJ6 TJ6 0
theorem nmJ6 : ∀ a, a < 0 → ∀ b, b < 0 → a ≠ b → (TJ6 a).2.1 ≠ (TJ6 b).2.1 := by decide +kernel
theorem tyJ6_ok : ∀ k, k < 0 → parseFieldDescriptor (TJ6 k).2.2.1 = some (tyJ6 k) := by decide +kernel
abbrev cJ6_lowestOneBit_0f7a4 : ByteArray := prog_11_method_46_code
def yJ6_lowestOneBit_0f7a4 : MethodName := ⟨RJ6, "lowestOneBit", "(I)I"⟩
abbrev cJ6_numberOfTrailingZeros_0f7a4 : ByteArray := prog_11_method_48_code
def yJ6_numberOfTrailingZeros_0f7a4 : MethodName := ⟨RJ6, "numberOfTrailingZeros", "(I)I"⟩
abbrev cJ6_bitCount_0f7a4 : ByteArray := prog_11_method_49_code
def yJ6_bitCount_0f7a4 : MethodName := ⟨RJ6, "bitCount", "(I)I"⟩
def RJ9 : String := "java/lang/Math"
def TJ9 : u_T := fun k => match k with
  | _ => ("", "", "", false)
def tyJ9 : Nat → FieldType := fun k => match k with
  | _ => .int
abbrev wsJ90 : List Cond := u_ws RJ9 TJ9 0
theorem nmJ9 : ∀ a, a < 0 → ∀ b, b < 0 → a ≠ b → (TJ9 a).2.1 ≠ (TJ9 b).2.1 := by decide +kernel
theorem tyJ9_ok : ∀ k, k < 0 → parseFieldDescriptor (TJ9 k).2.2.1 = some (tyJ9 k) := by decide +kernel
abbrev cJ9_floorMod_7cf53 : ByteArray := prog_12_method_50_code
def yJ9_floorMod_7cf53 : MethodName := ⟨RJ9, "floorMod", "(II)I"⟩
abbrev cJ9_min_7cf53 : ByteArray := prog_12_method_69_code
def yJ9_min_7cf53 : MethodName := ⟨RJ9, "min", "(II)I"⟩
def RJ0 : String := "java/lang/String"
def TJ0 : u_T := fun k => match k with
  | _ => ("", "", "", false)
def tyJ0 : Nat → FieldType := fun k => match k with
  | _ => .int
abbrev wsJ00 : List Cond := u_ws RJ0 TJ0 0
theorem nmJ0 : ∀ a, a < 0 → ∀ b, b < 0 → a ≠ b → (TJ0 a).2.1 ≠ (TJ0 b).2.1 := by decide +kernel
theorem tyJ0_ok : ∀ k, k < 0 → parseFieldDescriptor (TJ0 k).2.2.1 = some (tyJ0 k) := by decide +kernel
abbrev cJ0_length_8abf5 : ByteArray := prog_13_method_54_code
def yJ0_length_8abf5 : MethodName := ⟨RJ0, "length", "()I"⟩
abbrev cJ0_charAt_5068e : ByteArray := prog_13_method_56_code
def yJ0_charAt_5068e : MethodName := ⟨RJ0, "charAt", "(I)C"⟩
abbrev cJ0_coder_7d493 : ByteArray := prog_13_method_152_code
def yJ0_coder_7d493 : MethodName := ⟨RJ0, "coder", "()B"⟩
abbrev cJ0_isLatin1_aae02 : ByteArray := prog_13_method_154_code
def yJ0_isLatin1_aae02 : MethodName := ⟨RJ0, "isLatin1", "()Z"⟩
abbrev cJ0_checkIndex_df160 : ByteArray := prog_13_method_155_code
def yJ0_checkIndex_df160 : MethodName := ⟨RJ0, "checkIndex", "(II)V"⟩
def RJ1 : String := "java/lang/StringLatin1"
def TJ1 : u_T := fun k => match k with
  | _ => ("", "", "", false)
def tyJ1 : Nat → FieldType := fun k => match k with
  | _ => .int
abbrev wsJ10 : List Cond := u_ws RJ1 TJ1 0
theorem nmJ1 : ∀ a, a < 0 → ∀ b, b < 0 → a ≠ b → (TJ1 a).2.1 ≠ (TJ1 b).2.1 := by decide +kernel
theorem tyJ1_ok : ∀ k, k < 0 → parseFieldDescriptor (TJ1 k).2.2.1 = some (tyJ1 k) := by decide +kernel
abbrev cJ1_charAt_3b067 : ByteArray := prog_14_method_2_code
def yJ1_charAt_3b067 : MethodName := ⟨RJ1, "charAt", "([BI)C"⟩
def RJ2 : String := "java/lang/StringUTF16"
def TJ2 : u_T := fun k => match k with
  | _ => ("", "", "", false)
def tyJ2 : Nat → FieldType := fun k => match k with
  | _ => .int
abbrev wsJ20 : List Cond := u_ws RJ2 TJ2 0
theorem nmJ2 : ∀ a, a < 0 → ∀ b, b < 0 → a ≠ b → (TJ2 a).2.1 ≠ (TJ2 b).2.1 := by decide +kernel
theorem tyJ2_ok : ∀ k, k < 0 → parseFieldDescriptor (TJ2 k).2.2.1 = some (tyJ2 k) := by decide +kernel
abbrev cJ2_getChar_3b067 : ByteArray := prog_15_method_5_code
def yJ2_getChar_3b067 : MethodName := ⟨RJ2, "getChar", "([BI)C"⟩
abbrev cJ2_length_9d52b : ByteArray := prog_15_method_6_code
def yJ2_length_9d52b : MethodName := ⟨RJ2, "length", "([B)I"⟩
abbrev cJ2_charAt_3b067 : ByteArray := prog_15_method_83_code
def yJ2_charAt_3b067 : MethodName := ⟨RJ2, "charAt", "([BI)C"⟩
abbrev cJ2_checkIndex_2214a : ByteArray := prog_15_method_91_code
def yJ2_checkIndex_2214a : MethodName := ⟨RJ2, "checkIndex", "(I[B)V"⟩
def RJ10 : String := "java/lang/System"
def TJ10 : u_T := fun k => match k with
  | _ => ("", "", "", false)
def tyJ10 : Nat → FieldType := fun k => match k with
  | _ => .int
abbrev wsJ100 : List Cond := u_ws RJ10 TJ10 0
theorem nmJ10 : ∀ a, a < 0 → ∀ b, b < 0 → a ≠ b → (TJ10 a).2.1 ≠ (TJ10 b).2.1 := by decide +kernel
theorem tyJ10_ok : ∀ k, k < 0 → parseFieldDescriptor (TJ10 k).2.2.1 = some (tyJ10 k) := by decide +kernel
def RJ3 : String := "jdk/internal/util/Preconditions"
def TJ3 : u_T := fun k => match k with
  | _ => ("", "", "", false)
def tyJ3 : Nat → FieldType := fun k => match k with
  | _ => .int
abbrev wsJ30 : List Cond := u_ws RJ3 TJ3 0
theorem nmJ3 : ∀ a, a < 0 → ∀ b, b < 0 → a ≠ b → (TJ3 a).2.1 ≠ (TJ3 b).2.1 := by decide +kernel
theorem tyJ3_ok : ∀ k, k < 0 → parseFieldDescriptor (TJ3 k).2.2.1 = some (tyJ3 k) := by decide +kernel
abbrev cJ3_checkIndex_8e157 : ByteArray := prog_17_method_11_code
def yJ3_checkIndex_8e157 : MethodName := ⟨RJ3, "checkIndex", "(IILjava/util/function/BiFunction;)I"⟩
def RL : String := "PondLensesLaw"
abbrev cL_law : ByteArray := code
def yL_law : MethodName := ⟨RL, "law", "([I)Z"⟩
end
section
def W0 : List Cond := lw_tbl.filter goodWord
theorem W0_tbl : ∀ w ∈ W0, w ∈ lw_tbl := fun w h => (List.mem_filter.mp h).1
theorem W0_good : ∀ w ∈ W0, goodWord w = true := fun w h => (List.mem_filter.mp h).2
theorem W0_in {big : List Cond} (h : ∀ w ∈ W0, w ∈ big) : GoodIn big W0 := fun w hw => ⟨h w hw, good_of_word (W0_good w hw)⟩
theorem W0_t {w : Cond} {i : Nat} (h : tables_1[i]? = some w) (g : goodWord w = true) : w ∈ W0 := List.mem_filter.mpr ⟨List.mem_append_right _ (List.mem_of_getElem? h), g⟩
theorem W0_p {w : Cond} {i : Nat} (h : (k2_sels lw_privs)[i]? = some w) (g : goodWord w = true) : w ∈ W0 := List.mem_filter.mpr ⟨List.mem_append_left _ (List.mem_of_getElem? h), g⟩
theorem wN_RL : Cond.initialized RL ∈ W0 := W0_t (i := 0) (by decide +kernel) (by decide +kernel)
theorem wN_RX7 : Cond.initialized RX7 ∈ W0 := W0_t (i := 1) (by decide +kernel) (by decide +kernel)
theorem wN_RX1 : Cond.initialized RX1 ∈ W0 := W0_t (i := 2) (by decide +kernel) (by decide +kernel)
theorem wN_RX0 : Cond.initialized RX0 ∈ W0 := W0_t (i := 3) (by decide +kernel) (by decide +kernel)
theorem wN_RX2 : Cond.initialized RX2 ∈ W0 := W0_t (i := 4) (by decide +kernel) (by decide +kernel)
theorem wN_RX4 : Cond.initialized RX4 ∈ W0 := W0_t (i := 5) (by decide +kernel) (by decide +kernel)
theorem wN_RX5 : Cond.initialized RX5 ∈ W0 := W0_t (i := 6) (by decide +kernel) (by decide +kernel)
theorem wN_RX6 : Cond.initialized RX6 ∈ W0 := W0_t (i := 7) (by decide +kernel) (by decide +kernel)
theorem wN_RX3 : Cond.initialized RX3 ∈ W0 := W0_t (i := 8) (by decide +kernel) (by decide +kernel)
theorem wN_RX8 : Cond.initialized RX8 ∈ W0 := W0_t (i := 9) (by decide +kernel) (by decide +kernel)
theorem wN_RJ9 : Cond.initialized RJ9 ∈ W0 := W0_t (i := 10) (by decide +kernel) (by decide +kernel)
theorem wN_RJ10 : Cond.initialized RJ10 ∈ W0 := W0_t (i := 11) (by decide +kernel) (by decide +kernel)
theorem wN_RJ6 : Cond.initialized RJ6 ∈ W0 := W0_t (i := 12) (by decide +kernel) (by decide +kernel)
theorem wN_RJ0 : Cond.initialized RJ0 ∈ W0 := W0_t (i := 13) (by decide +kernel) (by decide +kernel)
theorem wN_RJ1 : Cond.initialized RJ1 ∈ W0 := W0_t (i := 14) (by decide +kernel) (by decide +kernel)
theorem wN_RJ3 : Cond.initialized RJ3 ∈ W0 := W0_t (i := 15) (by decide +kernel) (by decide +kernel)
theorem wN_RJ2 : Cond.initialized RJ2 ∈ W0 := W0_t (i := 16) (by decide +kernel) (by decide +kernel)
theorem wL_RL_7 : Cond.classLink RL 7 RX7 ∈ W0 := W0_t (i := 17) (by decide +kernel) (by decide +kernel)
theorem wT_RX7 : Cond.instantiable RX7 10 ∈ W0 := W0_t (i := 18) (by decide +kernel) (by decide +kernel)
theorem wM_RL_9 : Cond.methodLink RL 9 yX7_init ∈ W0 := W0_t (i := 19) (by decide +kernel) (by decide +kernel)
theorem wI_yX7_init : Cond.instanceMethod yX7_init ∈ W0 := W0_t (i := 20) (by decide +kernel) (by decide +kernel)
set_option maxRecDepth 100000 in
theorem wC_yX7_init : Cond.code yX7_init prog_1_method_1_code 1 (Option.none : Option Jvm.ClassFile.FieldType) ∈ W0 := W0_t (i := 21) rfl rfl
theorem wM_RX7_3 : Cond.methodLink RX7 3 (⟨"java/lang/Object", "<init>", "()V"⟩ : MethodName) ∈ W0 := W0_t (i := 22) (by decide +kernel) (by decide +kernel)
theorem wI_java_lang_Object_init_V_MethodName : Cond.instanceMethod (⟨"java/lang/Object", "<init>", "()V"⟩ : MethodName) ∈ W0 := W0_t (i := 23) (by decide +kernel) (by decide +kernel)
set_option maxRecDepth 100000 in
theorem wC_java_lang_Object_init_V_MethodName : Cond.code (⟨"java/lang/Object", "<init>", "()V"⟩ : MethodName) object_method_1_code 1 (Option.none : Option Jvm.ClassFile.FieldType) ∈ W0 := W0_t (i := 24) rfl rfl
theorem wL_RX7_9 : Cond.classLink RX7 9 RX1 ∈ W0 := W0_t (i := 25) (by decide +kernel) (by decide +kernel)
theorem wT_RX1 : Cond.instantiable RX1 7 ∈ W0 := W0_t (i := 26) (by decide +kernel) (by decide +kernel)
theorem wM_RX7_11 : Cond.methodLink RX7 11 yX1_init ∈ W0 := W0_t (i := 27) (by decide +kernel) (by decide +kernel)
theorem wI_yX1_init : Cond.instanceMethod yX1_init ∈ W0 := W0_t (i := 28) (by decide +kernel) (by decide +kernel)
set_option maxRecDepth 100000 in
theorem wC_yX1_init : Cond.code yX1_init prog_3_method_1_code 2 (Option.none : Option Jvm.ClassFile.FieldType) ∈ W0 := W0_t (i := 29) rfl rfl
theorem wM_RX1_3 : Cond.methodLink RX1 3 (⟨"java/lang/Object", "<init>", "()V"⟩ : MethodName) ∈ W0 := W0_t (i := 30) (by decide +kernel) (by decide +kernel)
theorem wL_RX1_9 : Cond.classLink RX1 9 "[[I" ∈ W0 := W0_t (i := 31) (by decide +kernel) (by decide +kernel)
theorem wF_RX1_11 : Cond.fieldLink RX1 11 "PondLenses$Fen" "ponds" "[[I" ∈ W0 := W0_t (i := 33) (by decide +kernel) (by decide +kernel)
theorem wF_RX7_80 : Cond.fieldLink RX7 80 "PondLenses$Fen" "ponds" "[[I" ∈ W0 := W0_t (i := 34) (by decide +kernel) (by decide +kernel)
theorem wF_RX0_24 : Cond.fieldLink RX0 24 "PondLenses$Fen" "ponds" "[[I" ∈ W0 := W0_t (i := 35) (by decide +kernel) (by decide +kernel)
theorem wF_RX5_82 : Cond.fieldLink RX5 82 "PondLenses$Fen" "ponds" "[[I" ∈ W0 := W0_t (i := 36) (by decide +kernel) (by decide +kernel)
theorem wF_RX1_16 : Cond.fieldLink RX1 16 "PondLenses$Fen" "things" "[[I" ∈ W0 := W0_t (i := 37) (by decide +kernel) (by decide +kernel)
theorem wF_RX2_15 : Cond.fieldLink RX2 15 "PondLenses$Fen" "things" "[[I" ∈ W0 := W0_t (i := 38) (by decide +kernel) (by decide +kernel)
theorem wF_RX7_106 : Cond.fieldLink RX7 106 "PondLenses$Fen" "things" "[[I" ∈ W0 := W0_t (i := 39) (by decide +kernel) (by decide +kernel)
theorem wF_RX1_19 : Cond.fieldLink RX1 19 "PondLenses$Fen" "spots" "[I" ∈ W0 := W0_t (i := 40) (by decide +kernel) (by decide +kernel)
theorem wF_RX7_246 : Cond.fieldLink RX7 246 "PondLenses$Fen" "spots" "[I" ∈ W0 := W0_t (i := 41) (by decide +kernel) (by decide +kernel)
theorem wF_RX1_23 : Cond.fieldLink RX1 23 "PondLenses$Fen" "size" "I" ∈ W0 := W0_t (i := 42) (by decide +kernel) (by decide +kernel)
theorem wF_RX2_45 : Cond.fieldLink RX2 45 "PondLenses$Fen" "size" "I" ∈ W0 := W0_t (i := 43) (by decide +kernel) (by decide +kernel)
theorem wF_RX7_290 : Cond.fieldLink RX7 290 "PondLenses$Fen" "size" "I" ∈ W0 := W0_t (i := 44) (by decide +kernel) (by decide +kernel)
theorem wF_RX1_27 : Cond.fieldLink RX1 27 "PondLenses$Fen" "rain" "I" ∈ W0 := W0_t (i := 45) (by decide +kernel) (by decide +kernel)
theorem wF_RX5_56 : Cond.fieldLink RX5 56 "PondLenses$Fen" "rain" "I" ∈ W0 := W0_t (i := 46) (by decide +kernel) (by decide +kernel)
theorem wF_RX7_116 : Cond.fieldLink RX7 116 "PondLenses$Fen" "rain" "I" ∈ W0 := W0_t (i := 47) (by decide +kernel) (by decide +kernel)
theorem wF_RX1_30 : Cond.fieldLink RX1 30 "PondLenses$Fen" "minute" "I" ∈ W0 := W0_t (i := 48) (by decide +kernel) (by decide +kernel)
theorem wF_RX7_120 : Cond.fieldLink RX7 120 "PondLenses$Fen" "minute" "I" ∈ W0 := W0_t (i := 49) (by decide +kernel) (by decide +kernel)
theorem wF_RX1_33 : Cond.fieldLink RX1 33 "PondLenses$Fen" "z" "I" ∈ W0 := W0_t (i := 50) (by decide +kernel) (by decide +kernel)
theorem wF_RX7_230 : Cond.fieldLink RX7 230 "PondLenses$Fen" "z" "I" ∈ W0 := W0_t (i := 51) (by decide +kernel) (by decide +kernel)
theorem wY_RX1_ponds : Cond.laysFinal "PondLenses$Fen" "PondLenses$Fen" "ponds" "[[I" ∈ W0 := W0_t (i := 52) (by decide +kernel) (by decide +kernel)
theorem wY_RX1_things : Cond.laysFinal "PondLenses$Fen" "PondLenses$Fen" "things" "[[I" ∈ W0 := W0_t (i := 54) (by decide +kernel) (by decide +kernel)
theorem wY_RX1_spots : Cond.laysFinal "PondLenses$Fen" "PondLenses$Fen" "spots" "[I" ∈ W0 := W0_t (i := 56) (by decide +kernel) (by decide +kernel)
theorem wY_RX1_size : Cond.lays "PondLenses$Fen" "PondLenses$Fen" "size" "I" ∈ W0 := W0_t (i := 58) (by decide +kernel) (by decide +kernel)
theorem wY_RX1_rain : Cond.lays "PondLenses$Fen" "PondLenses$Fen" "rain" "I" ∈ W0 := W0_t (i := 60) (by decide +kernel) (by decide +kernel)
theorem wY_RX1_minute : Cond.lays "PondLenses$Fen" "PondLenses$Fen" "minute" "I" ∈ W0 := W0_t (i := 62) (by decide +kernel) (by decide +kernel)
theorem wY_RX1_z : Cond.lays "PondLenses$Fen" "PondLenses$Fen" "z" "I" ∈ W0 := W0_t (i := 64) (by decide +kernel) (by decide +kernel)
theorem wL_RX7_26 : Cond.classLink RX7 26 RX0 ∈ W0 := W0_t (i := 68) (by decide +kernel) (by decide +kernel)
theorem wT_RX0 : Cond.instantiable RX0 4 ∈ W0 := W0_t (i := 69) (by decide +kernel) (by decide +kernel)
theorem wI_yX0_init : Cond.instanceMethod yX0_init ∈ W0 := W0_t (i := 71) (by decide +kernel) (by decide +kernel)
set_option maxRecDepth 100000 in
theorem wC_yX0_init : Cond.code yX0_init prog_2_method_1_code 1 (Option.none : Option Jvm.ClassFile.FieldType) ∈ W0 := W0_t (i := 72) rfl rfl
theorem wM_RX0_3 : Cond.methodLink RX0 3 (⟨"java/lang/Object", "<init>", "()V"⟩ : MethodName) ∈ W0 := W0_t (i := 73) (by decide +kernel) (by decide +kernel)
theorem wF_RX0_9 : Cond.fieldLink RX0 9 "PondLenses$Chain" "end" "I" ∈ W0 := W0_t (i := 74) (by decide +kernel) (by decide +kernel)
theorem wF_RX7_145 : Cond.fieldLink RX7 145 "PondLenses$Chain" "end" "I" ∈ W0 := W0_t (i := 75) (by decide +kernel) (by decide +kernel)
theorem wF_RX0_15 : Cond.fieldLink RX0 15 "PondLenses$Chain" "size" "I" ∈ W0 := W0_t (i := 76) (by decide +kernel) (by decide +kernel)
theorem wF_RX7_148 : Cond.fieldLink RX7 148 "PondLenses$Chain" "size" "I" ∈ W0 := W0_t (i := 77) (by decide +kernel) (by decide +kernel)
theorem wF_RX0_18 : Cond.fieldLink RX0 18 "PondLenses$Chain" "turned" "I" ∈ W0 := W0_t (i := 78) (by decide +kernel) (by decide +kernel)
theorem wF_RX7_151 : Cond.fieldLink RX7 151 "PondLenses$Chain" "turned" "I" ∈ W0 := W0_t (i := 79) (by decide +kernel) (by decide +kernel)
theorem wF_RX0_21 : Cond.fieldLink RX0 21 "PondLenses$Chain" "flipped" "I" ∈ W0 := W0_t (i := 80) (by decide +kernel) (by decide +kernel)
theorem wF_RX7_154 : Cond.fieldLink RX7 154 "PondLenses$Chain" "flipped" "I" ∈ W0 := W0_t (i := 81) (by decide +kernel) (by decide +kernel)
theorem wY_RX0_end : Cond.lays "PondLenses$Chain" "PondLenses$Chain" "end" "I" ∈ W0 := W0_t (i := 82) (by decide +kernel) (by decide +kernel)
theorem wY_RX0_size : Cond.lays "PondLenses$Chain" "PondLenses$Chain" "size" "I" ∈ W0 := W0_t (i := 84) (by decide +kernel) (by decide +kernel)
theorem wY_RX0_turned : Cond.lays "PondLenses$Chain" "PondLenses$Chain" "turned" "I" ∈ W0 := W0_t (i := 86) (by decide +kernel) (by decide +kernel)
theorem wY_RX0_flipped : Cond.lays "PondLenses$Chain" "PondLenses$Chain" "flipped" "I" ∈ W0 := W0_t (i := 88) (by decide +kernel) (by decide +kernel)
theorem wL_RX7_33 : Cond.classLink RX7 33 RX2 ∈ W0 := W0_t (i := 91) (by decide +kernel) (by decide +kernel)
theorem wT_RX2 : Cond.instantiable RX2 1 ∈ W0 := W0_t (i := 92) (by decide +kernel) (by decide +kernel)
theorem wI_yX2_init : Cond.instanceMethod yX2_init ∈ W0 := W0_t (i := 94) (by decide +kernel) (by decide +kernel)
set_option maxRecDepth 100000 in
theorem wC_yX2_init : Cond.code yX2_init prog_4_method_1_code 1 (Option.none : Option Jvm.ClassFile.FieldType) ∈ W0 := W0_t (i := 95) rfl rfl
theorem wM_RX2_3 : Cond.methodLink RX2 3 (⟨"java/lang/Object", "<init>", "()V"⟩ : MethodName) ∈ W0 := W0_t (i := 96) (by decide +kernel) (by decide +kernel)
theorem wF_RX2_9 : Cond.fieldLink RX2 9 "PondLenses$Foresight" "tally" "[I" ∈ W0 := W0_t (i := 97) (by decide +kernel) (by decide +kernel)
theorem wY_RX2_tally : Cond.laysFinal "PondLenses$Foresight" "PondLenses$Foresight" "tally" "[I" ∈ W0 := W0_t (i := 98) (by decide +kernel) (by decide +kernel)
theorem wL_RX7_40 : Cond.classLink RX7 40 RX4 ∈ W0 := W0_t (i := 101) (by decide +kernel) (by decide +kernel)
theorem wT_RX4 : Cond.instantiable RX4 2 ∈ W0 := W0_t (i := 102) (by decide +kernel) (by decide +kernel)
theorem wI_yX4_init : Cond.instanceMethod yX4_init ∈ W0 := W0_t (i := 104) (by decide +kernel) (by decide +kernel)
set_option maxRecDepth 100000 in
theorem wC_yX4_init : Cond.code yX4_init prog_6_method_1_code 1 (Option.none : Option Jvm.ClassFile.FieldType) ∈ W0 := W0_t (i := 105) rfl rfl
theorem wM_RX4_3 : Cond.methodLink RX4 3 (⟨"java/lang/Object", "<init>", "()V"⟩ : MethodName) ∈ W0 := W0_t (i := 106) (by decide +kernel) (by decide +kernel)
theorem wF_RX4_9 : Cond.fieldLink RX4 9 "PondLenses$Tape" "bytes" "[I" ∈ W0 := W0_t (i := 107) (by decide +kernel) (by decide +kernel)
theorem wF_RX4_15 : Cond.fieldLink RX4 15 "PondLenses$Tape" "length" "I" ∈ W0 := W0_t (i := 108) (by decide +kernel) (by decide +kernel)
theorem wF_RX6_25 : Cond.fieldLink RX6 25 "PondLenses$Tape" "length" "I" ∈ W0 := W0_t (i := 109) (by decide +kernel) (by decide +kernel)
theorem wF_RX7_233 : Cond.fieldLink RX7 233 "PondLenses$Tape" "length" "I" ∈ W0 := W0_t (i := 110) (by decide +kernel) (by decide +kernel)
theorem wY_RX4_bytes : Cond.laysFinal "PondLenses$Tape" "PondLenses$Tape" "bytes" "[I" ∈ W0 := W0_t (i := 111) (by decide +kernel) (by decide +kernel)
theorem wY_RX4_length : Cond.lays "PondLenses$Tape" "PondLenses$Tape" "length" "I" ∈ W0 := W0_t (i := 113) (by decide +kernel) (by decide +kernel)
theorem wL_RX7_47 : Cond.classLink RX7 47 RX5 ∈ W0 := W0_t (i := 116) (by decide +kernel) (by decide +kernel)
theorem wT_RX5 : Cond.instantiable RX5 2 ∈ W0 := W0_t (i := 117) (by decide +kernel) (by decide +kernel)
theorem wI_yX5_init : Cond.instanceMethod yX5_init ∈ W0 := W0_t (i := 119) (by decide +kernel) (by decide +kernel)
set_option maxRecDepth 100000 in
theorem wC_yX5_init : Cond.code yX5_init prog_7_method_1_code 1 (Option.none : Option Jvm.ClassFile.FieldType) ∈ W0 := W0_t (i := 120) rfl rfl
theorem wM_RX5_3 : Cond.methodLink RX5 3 (⟨"java/lang/Object", "<init>", "()V"⟩ : MethodName) ∈ W0 := W0_t (i := 121) (by decide +kernel) (by decide +kernel)
theorem wL_RX5_9 : Cond.classLink RX5 9 RX6 ∈ W0 := W0_t (i := 122) (by decide +kernel) (by decide +kernel)
theorem wT_RX6 : Cond.instantiable RX6 4 ∈ W0 := W0_t (i := 123) (by decide +kernel) (by decide +kernel)
theorem wI_yX6_init : Cond.instanceMethod yX6_init ∈ W0 := W0_t (i := 125) (by decide +kernel) (by decide +kernel)
set_option maxRecDepth 100000 in
theorem wC_yX6_init : Cond.code yX6_init prog_8_method_1_code 1 (Option.none : Option Jvm.ClassFile.FieldType) ∈ W0 := W0_t (i := 126) rfl rfl
theorem wM_RX6_5 : Cond.methodLink RX6 5 (⟨"java/lang/Object", "<init>", "()V"⟩ : MethodName) ∈ W0 := W0_t (i := 127) (by decide +kernel) (by decide +kernel)
theorem wF_RX6_11 : Cond.fieldLink RX6 11 "PondLenses$Tokens" "sorts" "[I" ∈ W0 := W0_t (i := 128) (by decide +kernel) (by decide +kernel)
theorem wF_RX6_15 : Cond.fieldLink RX6 15 "PondLenses$Tokens" "begins" "[I" ∈ W0 := W0_t (i := 129) (by decide +kernel) (by decide +kernel)
theorem wF_RX6_18 : Cond.fieldLink RX6 18 "PondLenses$Tokens" "values" "[I" ∈ W0 := W0_t (i := 130) (by decide +kernel) (by decide +kernel)
theorem wF_RX6_21 : Cond.fieldLink RX6 21 "PondLenses$Tokens" "at" "I" ∈ W0 := W0_t (i := 131) (by decide +kernel) (by decide +kernel)
theorem wY_RX6_sorts : Cond.laysFinal "PondLenses$Tokens" "PondLenses$Tokens" "sorts" "[I" ∈ W0 := W0_t (i := 132) (by decide +kernel) (by decide +kernel)
theorem wY_RX6_begins : Cond.laysFinal "PondLenses$Tokens" "PondLenses$Tokens" "begins" "[I" ∈ W0 := W0_t (i := 134) (by decide +kernel) (by decide +kernel)
theorem wY_RX6_values : Cond.laysFinal "PondLenses$Tokens" "PondLenses$Tokens" "values" "[I" ∈ W0 := W0_t (i := 136) (by decide +kernel) (by decide +kernel)
theorem wY_RX6_at : Cond.lays "PondLenses$Tokens" "PondLenses$Tokens" "at" "I" ∈ W0 := W0_t (i := 138) (by decide +kernel) (by decide +kernel)
theorem wF_RX5_12 : Cond.fieldLink RX5 12 "PondLenses$TextReader" "tokens" "LPondLenses$Tokens;" ∈ W0 := W0_t (i := 141) (by decide +kernel) (by decide +kernel)
theorem wF_RX5_18 : Cond.fieldLink RX5 18 "PondLenses$TextReader" "fault" "I" ∈ W0 := W0_t (i := 142) (by decide +kernel) (by decide +kernel)
theorem wY_RX5_tokens : Cond.laysFinal "PondLenses$TextReader" "PondLenses$TextReader" "tokens" "LPondLenses$Tokens;" ∈ W0 := W0_t (i := 143) (by decide +kernel) (by decide +kernel)
theorem wY_RX5_fault : Cond.lays "PondLenses$TextReader" "PondLenses$TextReader" "fault" "I" ∈ W0 := W0_t (i := 145) (by decide +kernel) (by decide +kernel)
theorem wL_RX7_54 : Cond.classLink RX7 54 RX3 ∈ W0 := W0_t (i := 148) (by decide +kernel) (by decide +kernel)
theorem wT_RX3 : Cond.instantiable RX3 3 ∈ W0 := W0_t (i := 150) (by decide +kernel) (by decide +kernel)
theorem wI_yX3_init : Cond.instanceMethod yX3_init ∈ W0 := W0_t (i := 152) (by decide +kernel) (by decide +kernel)
set_option maxRecDepth 100000 in
theorem wC_yX3_init : Cond.code yX3_init prog_5_method_1_code 1 (Option.none : Option Jvm.ClassFile.FieldType) ∈ W0 := W0_t (i := 153) rfl rfl
theorem wM_RX3_3 : Cond.methodLink RX3 3 (⟨"java/lang/Object", "<init>", "()V"⟩ : MethodName) ∈ W0 := W0_t (i := 154) (by decide +kernel) (by decide +kernel)
theorem wF_RX3_9 : Cond.fieldLink RX3 9 "PondLenses$Sheet" "numbers" "[I" ∈ W0 := W0_t (i := 155) (by decide +kernel) (by decide +kernel)
theorem wF_RX2_38 : Cond.fieldLink RX2 38 "PondLenses$Sheet" "numbers" "[I" ∈ W0 := W0_t (i := 156) (by decide +kernel) (by decide +kernel)
theorem wF_RX7_278 : Cond.fieldLink RX7 278 "PondLenses$Sheet" "numbers" "[I" ∈ W0 := W0_t (i := 157) (by decide +kernel) (by decide +kernel)
theorem wF_RX3_15 : Cond.fieldLink RX3 15 "PondLenses$Sheet" "bits" "I" ∈ W0 := W0_t (i := 158) (by decide +kernel) (by decide +kernel)
theorem wF_RX7_272 : Cond.fieldLink RX7 272 "PondLenses$Sheet" "bits" "I" ∈ W0 := W0_t (i := 159) (by decide +kernel) (by decide +kernel)
theorem wF_RX3_19 : Cond.fieldLink RX3 19 "PondLenses$Sheet" "length" "I" ∈ W0 := W0_t (i := 160) (by decide +kernel) (by decide +kernel)
theorem wF_RX2_32 : Cond.fieldLink RX2 32 "PondLenses$Sheet" "length" "I" ∈ W0 := W0_t (i := 161) (by decide +kernel) (by decide +kernel)
theorem wF_RX7_265 : Cond.fieldLink RX7 265 "PondLenses$Sheet" "length" "I" ∈ W0 := W0_t (i := 162) (by decide +kernel) (by decide +kernel)
theorem wY_RX3_numbers : Cond.laysFinal "PondLenses$Sheet" "PondLenses$Sheet" "numbers" "[I" ∈ W0 := W0_t (i := 163) (by decide +kernel) (by decide +kernel)
theorem wY_RX3_bits : Cond.lays "PondLenses$Sheet" "PondLenses$Sheet" "bits" "I" ∈ W0 := W0_t (i := 165) (by decide +kernel) (by decide +kernel)
theorem wY_RX3_length : Cond.lays "PondLenses$Sheet" "PondLenses$Sheet" "length" "I" ∈ W0 := W0_t (i := 167) (by decide +kernel) (by decide +kernel)
theorem wF_RX7_12 : Cond.fieldLink RX7 12 "PondLenses" "fen" "LPondLenses$Fen;" ∈ W0 := W0_t (i := 170) (by decide +kernel) (by decide +kernel)
theorem wF_RX7_16 : Cond.fieldLink RX7 16 "PondLenses" "draft" "LPondLenses$Fen;" ∈ W0 := W0_t (i := 171) (by decide +kernel) (by decide +kernel)
theorem wF_RX7_19 : Cond.fieldLink RX7 19 "PondLenses" "kept" "LPondLenses$Fen;" ∈ W0 := W0_t (i := 172) (by decide +kernel) (by decide +kernel)
theorem wF_RX7_22 : Cond.fieldLink RX7 22 "PondLenses" "keeps" "Z" ∈ W0 := W0_t (i := 173) (by decide +kernel) (by decide +kernel)
theorem wF_RX7_29 : Cond.fieldLink RX7 29 "PondLenses" "walk" "LPondLenses$Chain;" ∈ W0 := W0_t (i := 174) (by decide +kernel) (by decide +kernel)
theorem wF_RX7_36 : Cond.fieldLink RX7 36 "PondLenses" "foresight" "LPondLenses$Foresight;" ∈ W0 := W0_t (i := 175) (by decide +kernel) (by decide +kernel)
theorem wF_RX7_43 : Cond.fieldLink RX7 43 "PondLenses" "tape" "LPondLenses$Tape;" ∈ W0 := W0_t (i := 176) (by decide +kernel) (by decide +kernel)
theorem wF_RX7_50 : Cond.fieldLink RX7 50 "PondLenses" "reader" "LPondLenses$TextReader;" ∈ W0 := W0_t (i := 177) (by decide +kernel) (by decide +kernel)
theorem wF_RX7_57 : Cond.fieldLink RX7 57 "PondLenses" "sheets" "[LPondLenses$Sheet;" ∈ W0 := W0_t (i := 178) (by decide +kernel) (by decide +kernel)
theorem wF_RX7_61 : Cond.fieldLink RX7 61 "PondLenses" "found" "[I" ∈ W0 := W0_t (i := 179) (by decide +kernel) (by decide +kernel)
theorem wY_RX7_fen : Cond.laysFinal "PondLenses" "PondLenses" "fen" "LPondLenses$Fen;" ∈ W0 := W0_t (i := 180) (by decide +kernel) (by decide +kernel)
theorem wY_RX7_draft : Cond.laysFinal "PondLenses" "PondLenses" "draft" "LPondLenses$Fen;" ∈ W0 := W0_t (i := 182) (by decide +kernel) (by decide +kernel)
theorem wY_RX7_kept : Cond.laysFinal "PondLenses" "PondLenses" "kept" "LPondLenses$Fen;" ∈ W0 := W0_t (i := 184) (by decide +kernel) (by decide +kernel)
theorem wY_RX7_keeps : Cond.lays "PondLenses" "PondLenses" "keeps" "Z" ∈ W0 := W0_t (i := 186) (by decide +kernel) (by decide +kernel)
theorem wY_RX7_walk : Cond.laysFinal "PondLenses" "PondLenses" "walk" "LPondLenses$Chain;" ∈ W0 := W0_t (i := 188) (by decide +kernel) (by decide +kernel)
theorem wY_RX7_foresight : Cond.laysFinal "PondLenses" "PondLenses" "foresight" "LPondLenses$Foresight;" ∈ W0 := W0_t (i := 190) (by decide +kernel) (by decide +kernel)
theorem wY_RX7_tape : Cond.laysFinal "PondLenses" "PondLenses" "tape" "LPondLenses$Tape;" ∈ W0 := W0_t (i := 192) (by decide +kernel) (by decide +kernel)
theorem wY_RX7_reader : Cond.laysFinal "PondLenses" "PondLenses" "reader" "LPondLenses$TextReader;" ∈ W0 := W0_t (i := 194) (by decide +kernel) (by decide +kernel)
theorem wY_RX7_sheets : Cond.laysFinal "PondLenses" "PondLenses" "sheets" "[LPondLenses$Sheet;" ∈ W0 := W0_t (i := 196) (by decide +kernel) (by decide +kernel)
theorem wY_RX7_found : Cond.laysFinal "PondLenses" "PondLenses" "found" "[I" ∈ W0 := W0_t (i := 198) (by decide +kernel) (by decide +kernel)
theorem wM_RL_13 : Cond.methodLink RL 13 yX7_pond ∈ W0 := W0_t (i := 201) (by decide +kernel) (by decide +kernel)
theorem wI_yX7_pond : Cond.instanceMethod yX7_pond ∈ W0 := W0_t (i := 202) (by decide +kernel) (by decide +kernel)
theorem wE_yX7_pond : Cond.selects RX7 yX7_pond yX7_pond ∈ W0 := W0_t (i := 203) (by decide +kernel) (by decide +kernel)
set_option maxRecDepth 100000 in
theorem wC_yX7_pond : Cond.code yX7_pond prog_1_method_2_code 3 (Option.some Jvm.ClassFile.FieldType.int) ∈ W0 := W0_t (i := 204) rfl rfl
theorem wM_RX7_65 : Cond.methodLink RX7 65 yX7_isPond ∈ W0 := W0_t (i := 205) (by decide +kernel) (by decide +kernel)
theorem wS_yX7_isPond : Cond.static yX7_isPond ∈ W0 := W0_t (i := 206) (by decide +kernel) (by decide +kernel)
set_option maxRecDepth 100000 in
theorem wC_yX7_isPond : Cond.code yX7_isPond prog_1_method_53_code 1 (Option.some Jvm.ClassFile.FieldType.boolean) ∈ W0 := W0_t (i := 207) rfl rfl
theorem wK_RX7_69 : Cond.constant RX7 69 (-1000001) ∈ W0 := W0_t (i := 208) (by decide +kernel) (by decide +kernel)
theorem wM_RX7_70 : Cond.methodLink RX7 70 yX7_finding ∈ W0 := W0_t (i := 209) (by decide +kernel) (by decide +kernel)
theorem wI_yX7_finding : Cond.instanceMethod yX7_finding ∈ W0 := W0_t (i := 211) (by decide +kernel) (by decide +kernel)
set_option maxRecDepth 100000 in
theorem wC_yX7_finding : Cond.code yX7_finding prog_1_method_48_code 3 (Option.some Jvm.ClassFile.FieldType.int) ∈ W0 := W0_t (i := 212) rfl rfl
theorem wM_RX7_74 : Cond.methodLink RX7 74 yX1_thingsIn ∈ W0 := W0_t (i := 213) (by decide +kernel) (by decide +kernel)
theorem wI_yX1_thingsIn : Cond.instanceMethod yX1_thingsIn ∈ W0 := W0_t (i := 214) (by decide +kernel) (by decide +kernel)
theorem wE_yX1_thingsIn : Cond.selects RX1 yX1_thingsIn yX1_thingsIn ∈ W0 := W0_t (i := 215) (by decide +kernel) (by decide +kernel)
set_option maxRecDepth 100000 in
theorem wC_yX1_thingsIn : Cond.code yX1_thingsIn prog_3_method_7_code 4 (Option.some Jvm.ClassFile.FieldType.int) ∈ W0 := W0_t (i := 216) rfl rfl
theorem wM_RX7_77 : Cond.methodLink RX7 77 yX1_thingsSeenIn ∈ W0 := W0_t (i := 217) (by decide +kernel) (by decide +kernel)
theorem wI_yX1_thingsSeenIn : Cond.instanceMethod yX1_thingsSeenIn ∈ W0 := W0_t (i := 218) (by decide +kernel) (by decide +kernel)
theorem wE_yX1_thingsSeenIn : Cond.selects RX1 yX1_thingsSeenIn yX1_thingsSeenIn ∈ W0 := W0_t (i := 219) (by decide +kernel) (by decide +kernel)
set_option maxRecDepth 100000 in
theorem wC_yX1_thingsSeenIn : Cond.code yX1_thingsSeenIn prog_3_method_8_code 2 (Option.some Jvm.ClassFile.FieldType.int) ∈ W0 := W0_t (i := 220) rfl rfl
theorem wM_RX1_45 : Cond.methodLink RX1 45 yX1_thingsIn ∈ W0 := W0_t (i := 221) (by decide +kernel) (by decide +kernel)
theorem wM_RL_18 : Cond.methodLink RL 18 yX7_dig ∈ W0 := W0_t (i := 222) (by decide +kernel) (by decide +kernel)
theorem wI_yX7_dig : Cond.instanceMethod yX7_dig ∈ W0 := W0_t (i := 223) (by decide +kernel) (by decide +kernel)
theorem wE_yX7_dig : Cond.selects RX7 yX7_dig yX7_dig ∈ W0 := W0_t (i := 224) (by decide +kernel) (by decide +kernel)
set_option maxRecDepth 100000 in
theorem wC_yX7_dig : Cond.code yX7_dig prog_1_method_3_code 5 (Option.some Jvm.ClassFile.FieldType.int) ∈ W0 := W0_t (i := 225) rfl rfl
theorem wM_RX7_84 : Cond.methodLink RX7 84 yX7_fitsPond ∈ W0 := W0_t (i := 226) (by decide +kernel) (by decide +kernel)
theorem wS_yX7_fitsPond : Cond.static yX7_fitsPond ∈ W0 := W0_t (i := 227) (by decide +kernel) (by decide +kernel)
set_option maxRecDepth 100000 in
theorem wC_yX7_fitsPond : Cond.code yX7_fitsPond prog_1_method_59_code 3 (Option.some Jvm.ClassFile.FieldType.boolean) ∈ W0 := W0_t (i := 228) rfl rfl
theorem wF_RX7_298 : Cond.fieldLink RX7 298 "PondLenses" "POND_LEAST" "[I" ∈ W0 := W0_t (i := 229) (by decide +kernel) (by decide +kernel)
theorem wF_RX7_301 : Cond.fieldLink RX7 301 "PondLenses" "POND_MOST" "[I" ∈ W0 := W0_t (i := 231) (by decide +kernel) (by decide +kernel)
theorem wM_RL_23 : Cond.methodLink RL 23 yX7_thing ∈ W0 := W0_t (i := 233) (by decide +kernel) (by decide +kernel)
theorem wI_yX7_thing : Cond.instanceMethod yX7_thing ∈ W0 := W0_t (i := 234) (by decide +kernel) (by decide +kernel)
theorem wE_yX7_thing : Cond.selects RX7 yX7_thing yX7_thing ∈ W0 := W0_t (i := 235) (by decide +kernel) (by decide +kernel)
set_option maxRecDepth 100000 in
theorem wC_yX7_thing : Cond.code yX7_thing prog_1_method_4_code 3 (Option.some Jvm.ClassFile.FieldType.int) ∈ W0 := W0_t (i := 236) rfl rfl
theorem wM_RX7_88 : Cond.methodLink RX7 88 yX7_isKind ∈ W0 := W0_t (i := 237) (by decide +kernel) (by decide +kernel)
theorem wS_yX7_isKind : Cond.static yX7_isKind ∈ W0 := W0_t (i := 238) (by decide +kernel) (by decide +kernel)
set_option maxRecDepth 100000 in
theorem wC_yX7_isKind : Cond.code yX7_isKind prog_1_method_54_code 1 (Option.some Jvm.ClassFile.FieldType.boolean) ∈ W0 := W0_t (i := 239) rfl rfl
theorem wM_RX7_91 : Cond.methodLink RX7 91 yX1_isFull ∈ W0 := W0_t (i := 240) (by decide +kernel) (by decide +kernel)
theorem wI_yX1_isFull : Cond.instanceMethod yX1_isFull ∈ W0 := W0_t (i := 241) (by decide +kernel) (by decide +kernel)
theorem wE_yX1_isFull : Cond.selects RX1 yX1_isFull yX1_isFull ∈ W0 := W0_t (i := 242) (by decide +kernel) (by decide +kernel)
set_option maxRecDepth 100000 in
theorem wC_yX1_isFull : Cond.code yX1_isFull prog_3_method_4_code 1 (Option.some Jvm.ClassFile.FieldType.boolean) ∈ W0 := W0_t (i := 243) rfl rfl
theorem wK_RX7_95 : Cond.constant RX7 95 (-1000002) ∈ W0 := W0_t (i := 244) (by decide +kernel) (by decide +kernel)
theorem wM_RX7_96 : Cond.methodLink RX7 96 yX1_add ∈ W0 := W0_t (i := 245) (by decide +kernel) (by decide +kernel)
theorem wI_yX1_add : Cond.instanceMethod yX1_add ∈ W0 := W0_t (i := 246) (by decide +kernel) (by decide +kernel)
theorem wE_yX1_add : Cond.selects RX1 yX1_add yX1_add ∈ W0 := W0_t (i := 247) (by decide +kernel) (by decide +kernel)
set_option maxRecDepth 100000 in
theorem wC_yX1_add : Cond.code yX1_add prog_3_method_5_code 5 (Option.some Jvm.ClassFile.FieldType.int) ∈ W0 := W0_t (i := 248) rfl rfl
theorem wM_RL_27 : Cond.methodLink RL 27 yX7_of ∈ W0 := W0_t (i := 249) (by decide +kernel) (by decide +kernel)
theorem wI_yX7_of : Cond.instanceMethod yX7_of ∈ W0 := W0_t (i := 250) (by decide +kernel) (by decide +kernel)
theorem wE_yX7_of : Cond.selects RX7 yX7_of yX7_of ∈ W0 := W0_t (i := 251) (by decide +kernel) (by decide +kernel)
set_option maxRecDepth 100000 in
theorem wC_yX7_of : Cond.code yX7_of prog_1_method_5_code 3 (Option.some Jvm.ClassFile.FieldType.int) ∈ W0 := W0_t (i := 252) rfl rfl
theorem wM_RX7_100 : Cond.methodLink RX7 100 yX1_has ∈ W0 := W0_t (i := 253) (by decide +kernel) (by decide +kernel)
theorem wI_yX1_has : Cond.instanceMethod yX1_has ∈ W0 := W0_t (i := 254) (by decide +kernel) (by decide +kernel)
theorem wE_yX1_has : Cond.selects RX1 yX1_has yX1_has ∈ W0 := W0_t (i := 255) (by decide +kernel) (by decide +kernel)
set_option maxRecDepth 100000 in
theorem wC_yX1_has : Cond.code yX1_has prog_3_method_3_code 2 (Option.some Jvm.ClassFile.FieldType.boolean) ∈ W0 := W0_t (i := 256) rfl rfl
theorem wM_RX7_103 : Cond.methodLink RX7 103 yX1_nextPond ∈ W0 := W0_t (i := 257) (by decide +kernel) (by decide +kernel)
theorem wI_yX1_nextPond : Cond.instanceMethod yX1_nextPond ∈ W0 := W0_t (i := 258) (by decide +kernel) (by decide +kernel)
theorem wE_yX1_nextPond : Cond.selects RX1 yX1_nextPond yX1_nextPond ∈ W0 := W0_t (i := 259) (by decide +kernel) (by decide +kernel)
set_option maxRecDepth 100000 in
theorem wC_yX1_nextPond : Cond.code yX1_nextPond prog_3_method_15_code 4 (Option.some Jvm.ClassFile.FieldType.int) ∈ W0 := W0_t (i := 260) rfl rfl
theorem wM_RX1_63 : Cond.methodLink RX1 63 yX1_nextOfFrog ∈ W0 := W0_t (i := 261) (by decide +kernel) (by decide +kernel)
theorem wI_yX1_nextOfFrog : Cond.instanceMethod yX1_nextOfFrog ∈ W0 := W0_t (i := 263) (by decide +kernel) (by decide +kernel)
set_option maxRecDepth 100000 in
theorem wC_yX1_nextOfFrog : Cond.code yX1_nextOfFrog prog_3_method_16_code 2 (Option.some Jvm.ClassFile.FieldType.int) ∈ W0 := W0_t (i := 264) rfl rfl
theorem wM_RX1_66 : Cond.methodLink RX1 66 yX1_nextOfHeron ∈ W0 := W0_t (i := 265) (by decide +kernel) (by decide +kernel)
theorem wI_yX1_nextOfHeron : Cond.instanceMethod yX1_nextOfHeron ∈ W0 := W0_t (i := 267) (by decide +kernel) (by decide +kernel)
set_option maxRecDepth 100000 in
theorem wC_yX1_nextOfHeron : Cond.code yX1_nextOfHeron prog_3_method_17_code 3 (Option.some Jvm.ClassFile.FieldType.int) ∈ W0 := W0_t (i := 268) rfl rfl
theorem wM_RX1_72 : Cond.methodLink RX1 72 yX1_hasFishIn ∈ W0 := W0_t (i := 269) (by decide +kernel) (by decide +kernel)
theorem wI_yX1_hasFishIn : Cond.instanceMethod yX1_hasFishIn ∈ W0 := W0_t (i := 271) (by decide +kernel) (by decide +kernel)
set_option maxRecDepth 100000 in
theorem wC_yX1_hasFishIn : Cond.code yX1_hasFishIn prog_3_method_19_code 4 (Option.some Jvm.ClassFile.FieldType.boolean) ∈ W0 := W0_t (i := 272) rfl rfl
theorem wM_RX1_69 : Cond.methodLink RX1 69 yX1_nextOfPike ∈ W0 := W0_t (i := 275) (by decide +kernel) (by decide +kernel)
theorem wI_yX1_nextOfPike : Cond.instanceMethod yX1_nextOfPike ∈ W0 := W0_t (i := 277) (by decide +kernel) (by decide +kernel)
set_option maxRecDepth 100000 in
theorem wC_yX1_nextOfPike : Cond.code yX1_nextOfPike prog_3_method_18_code 3 (Option.some Jvm.ClassFile.FieldType.int) ∈ W0 := W0_t (i := 278) rfl rfl
theorem wM_RX7_109 : Cond.methodLink RX7 109 yX1_showersOf ∈ W0 := W0_t (i := 279) (by decide +kernel) (by decide +kernel)
theorem wI_yX1_showersOf : Cond.instanceMethod yX1_showersOf ∈ W0 := W0_t (i := 280) (by decide +kernel) (by decide +kernel)
theorem wE_yX1_showersOf : Cond.selects RX1 yX1_showersOf yX1_showersOf ∈ W0 := W0_t (i := 281) (by decide +kernel) (by decide +kernel)
set_option maxRecDepth 100000 in
theorem wC_yX1_showersOf : Cond.code yX1_showersOf prog_3_method_9_code 4 (Option.some Jvm.ClassFile.FieldType.int) ∈ W0 := W0_t (i := 282) rfl rfl
theorem wM_RL_31 : Cond.methodLink RL 31 yX7_change ∈ W0 := W0_t (i := 283) (by decide +kernel) (by decide +kernel)
theorem wI_yX7_change : Cond.instanceMethod yX7_change ∈ W0 := W0_t (i := 284) (by decide +kernel) (by decide +kernel)
theorem wE_yX7_change : Cond.selects RX7 yX7_change yX7_change ∈ W0 := W0_t (i := 285) (by decide +kernel) (by decide +kernel)
set_option maxRecDepth 100000 in
theorem wC_yX7_change : Cond.code yX7_change prog_1_method_6_code 5 (Option.some Jvm.ClassFile.FieldType.int) ∈ W0 := W0_t (i := 286) rfl rfl
theorem wM_RX7_112 : Cond.methodLink RX7 112 yX7_fitsThing ∈ W0 := W0_t (i := 287) (by decide +kernel) (by decide +kernel)
theorem wS_yX7_fitsThing : Cond.static yX7_fitsThing ∈ W0 := W0_t (i := 288) (by decide +kernel) (by decide +kernel)
set_option maxRecDepth 100000 in
theorem wC_yX7_fitsThing : Cond.code yX7_fitsThing prog_1_method_60_code 2 (Option.some Jvm.ClassFile.FieldType.boolean) ∈ W0 := W0_t (i := 289) rfl rfl
theorem wF_RX7_304 : Cond.fieldLink RX7 304 "PondLenses" "THING_LEAST" "[I" ∈ W0 := W0_t (i := 290) (by decide +kernel) (by decide +kernel)
theorem wF_RX7_307 : Cond.fieldLink RX7 307 "PondLenses" "THING_MOST" "[I" ∈ W0 := W0_t (i := 292) (by decide +kernel) (by decide +kernel)
theorem wM_RL_35 : Cond.methodLink RL 35 yX7_rain ∈ W0 := W0_t (i := 294) (by decide +kernel) (by decide +kernel)
theorem wI_yX7_rain : Cond.instanceMethod yX7_rain ∈ W0 := W0_t (i := 295) (by decide +kernel) (by decide +kernel)
theorem wE_yX7_rain : Cond.selects RX7 yX7_rain yX7_rain ∈ W0 := W0_t (i := 296) (by decide +kernel) (by decide +kernel)
set_option maxRecDepth 100000 in
theorem wC_yX7_rain : Cond.code yX7_rain prog_1_method_7_code 3 (Option.some Jvm.ClassFile.FieldType.int) ∈ W0 := W0_t (i := 297) rfl rfl
theorem wM_RL_40 : Cond.methodLink RL 40 yX7_go ∈ W0 := W0_t (i := 298) (by decide +kernel) (by decide +kernel)
theorem wI_yX7_go : Cond.instanceMethod yX7_go ∈ W0 := W0_t (i := 299) (by decide +kernel) (by decide +kernel)
theorem wE_yX7_go : Cond.selects RX7 yX7_go yX7_go ∈ W0 := W0_t (i := 300) (by decide +kernel) (by decide +kernel)
set_option maxRecDepth 100000 in
theorem wC_yX7_go : Cond.code yX7_go prog_1_method_8_code 3 (Option.some Jvm.ClassFile.FieldType.int) ∈ W0 := W0_t (i := 301) rfl rfl
theorem wK_RX7_123 : Cond.constant RX7 123 (99999) ∈ W0 := W0_t (i := 302) (by decide +kernel) (by decide +kernel)
theorem wK_RX7_124 : Cond.constant RX7 124 (-1000005) ∈ W0 := W0_t (i := 303) (by decide +kernel) (by decide +kernel)
theorem wM_RX7_125 : Cond.methodLink RX7 125 yX1_passMinute ∈ W0 := W0_t (i := 304) (by decide +kernel) (by decide +kernel)
theorem wI_yX1_passMinute : Cond.instanceMethod yX1_passMinute ∈ W0 := W0_t (i := 305) (by decide +kernel) (by decide +kernel)
theorem wE_yX1_passMinute : Cond.selects RX1 yX1_passMinute yX1_passMinute ∈ W0 := W0_t (i := 306) (by decide +kernel) (by decide +kernel)
set_option maxRecDepth 100000 in
theorem wC_yX1_passMinute : Cond.code yX1_passMinute prog_3_method_14_code 2 (Option.none : Option Jvm.ClassFile.FieldType) ∈ W0 := W0_t (i := 307) rfl rfl
theorem wM_RX1_53 : Cond.methodLink RX1 53 yX1_nextPond ∈ W0 := W0_t (i := 308) (by decide +kernel) (by decide +kernel)
theorem wK_RX1_56 : Cond.constant RX1 56 (99999) ∈ W0 := W0_t (i := 309) (by decide +kernel) (by decide +kernel)
theorem wM_RX1_57 : Cond.methodLink RX1 57 yJ9_min_7cf53 ∈ W0 := W0_t (i := 310) (by decide +kernel) (by decide +kernel)
theorem wS_yJ9_min_7cf53 : Cond.static yJ9_min_7cf53 ∈ W0 := W0_t (i := 311) (by decide +kernel) (by decide +kernel)
set_option maxRecDepth 100000 in
theorem wC_yJ9_min_7cf53 : Cond.code yJ9_min_7cf53 prog_12_method_69_code 2 (Option.some Jvm.ClassFile.FieldType.int) ∈ W0 := W0_t (i := 312) rfl rfl
theorem wM_RL_44 : Cond.methodLink RL 44 yX7_now ∈ W0 := W0_t (i := 313) (by decide +kernel) (by decide +kernel)
theorem wI_yX7_now : Cond.instanceMethod yX7_now ∈ W0 := W0_t (i := 314) (by decide +kernel) (by decide +kernel)
theorem wE_yX7_now : Cond.selects RX7 yX7_now yX7_now ∈ W0 := W0_t (i := 315) (by decide +kernel) (by decide +kernel)
set_option maxRecDepth 100000 in
theorem wC_yX7_now : Cond.code yX7_now prog_1_method_9_code 2 (Option.some Jvm.ClassFile.FieldType.int) ∈ W0 := W0_t (i := 316) rfl rfl
theorem wM_RX7_128 : Cond.methodLink RX7 128 yX1_pondsWithThings ∈ W0 := W0_t (i := 317) (by decide +kernel) (by decide +kernel)
theorem wI_yX1_pondsWithThings : Cond.instanceMethod yX1_pondsWithThings ∈ W0 := W0_t (i := 318) (by decide +kernel) (by decide +kernel)
theorem wE_yX1_pondsWithThings : Cond.selects RX1 yX1_pondsWithThings yX1_pondsWithThings ∈ W0 := W0_t (i := 319) (by decide +kernel) (by decide +kernel)
set_option maxRecDepth 100000 in
theorem wC_yX1_pondsWithThings : Cond.code yX1_pondsWithThings prog_3_method_10_code 3 (Option.some Jvm.ClassFile.FieldType.int) ∈ W0 := W0_t (i := 320) rfl rfl
theorem wM_RX7_132 : Cond.methodLink RX7 132 yX1_pondsWithSights ∈ W0 := W0_t (i := 321) (by decide +kernel) (by decide +kernel)
theorem wI_yX1_pondsWithSights : Cond.instanceMethod yX1_pondsWithSights ∈ W0 := W0_t (i := 322) (by decide +kernel) (by decide +kernel)
theorem wE_yX1_pondsWithSights : Cond.selects RX1 yX1_pondsWithSights yX1_pondsWithSights ∈ W0 := W0_t (i := 323) (by decide +kernel) (by decide +kernel)
set_option maxRecDepth 100000 in
theorem wC_yX1_pondsWithSights : Cond.code yX1_pondsWithSights prog_3_method_11_code 4 (Option.some Jvm.ClassFile.FieldType.int) ∈ W0 := W0_t (i := 324) rfl rfl
theorem wM_RX1_49 : Cond.methodLink RX1 49 yX1_pondsWithThings ∈ W0 := W0_t (i := 325) (by decide +kernel) (by decide +kernel)
theorem wM_RX7_135 : Cond.methodLink RX7 135 yX1_lengths ∈ W0 := W0_t (i := 326) (by decide +kernel) (by decide +kernel)
theorem wI_yX1_lengths : Cond.instanceMethod yX1_lengths ∈ W0 := W0_t (i := 327) (by decide +kernel) (by decide +kernel)
theorem wE_yX1_lengths : Cond.selects RX1 yX1_lengths yX1_lengths ∈ W0 := W0_t (i := 328) (by decide +kernel) (by decide +kernel)
set_option maxRecDepth 100000 in
theorem wC_yX1_lengths : Cond.code yX1_lengths prog_3_method_12_code 3 (Option.some Jvm.ClassFile.FieldType.int) ∈ W0 := W0_t (i := 329) rfl rfl
theorem wM_RL_48 : Cond.methodLink RL 48 yX7_chain ∈ W0 := W0_t (i := 330) (by decide +kernel) (by decide +kernel)
theorem wI_yX7_chain : Cond.instanceMethod yX7_chain ∈ W0 := W0_t (i := 331) (by decide +kernel) (by decide +kernel)
theorem wE_yX7_chain : Cond.selects RX7 yX7_chain yX7_chain ∈ W0 := W0_t (i := 332) (by decide +kernel) (by decide +kernel)
set_option maxRecDepth 100000 in
theorem wC_yX7_chain : Cond.code yX7_chain prog_1_method_10_code 4 (Option.some Jvm.ClassFile.FieldType.int) ∈ W0 := W0_t (i := 333) rfl rfl
theorem wM_RX7_138 : Cond.methodLink RX7 138 yX7_isSteps ∈ W0 := W0_t (i := 334) (by decide +kernel) (by decide +kernel)
theorem wS_yX7_isSteps : Cond.static yX7_isSteps ∈ W0 := W0_t (i := 335) (by decide +kernel) (by decide +kernel)
set_option maxRecDepth 100000 in
theorem wC_yX7_isSteps : Cond.code yX7_isSteps prog_1_method_58_code 1 (Option.some Jvm.ClassFile.FieldType.boolean) ∈ W0 := W0_t (i := 336) rfl rfl
theorem wM_RX7_141 : Cond.methodLink RX7 141 yX0_take ∈ W0 := W0_t (i := 337) (by decide +kernel) (by decide +kernel)
theorem wI_yX0_take : Cond.instanceMethod yX0_take ∈ W0 := W0_t (i := 338) (by decide +kernel) (by decide +kernel)
theorem wE_yX0_take : Cond.selects RX0 yX0_take yX0_take ∈ W0 := W0_t (i := 339) (by decide +kernel) (by decide +kernel)
set_option maxRecDepth 100000 in
theorem wC_yX0_take : Cond.code yX0_take prog_2_method_4_code 5 (Option.none : Option Jvm.ClassFile.FieldType) ∈ W0 := W0_t (i := 340) rfl rfl
theorem wM_RX0_40 : Cond.methodLink RX0 40 yX0_begin ∈ W0 := W0_t (i := 341) (by decide +kernel) (by decide +kernel)
theorem wI_yX0_begin : Cond.instanceMethod yX0_begin ∈ W0 := W0_t (i := 342) (by decide +kernel) (by decide +kernel)
theorem wE_yX0_begin : Cond.selects RX0 yX0_begin yX0_begin ∈ W0 := W0_t (i := 343) (by decide +kernel) (by decide +kernel)
set_option maxRecDepth 100000 in
theorem wC_yX0_begin : Cond.code yX0_begin prog_2_method_2_code 2 (Option.none : Option Jvm.ClassFile.FieldType) ∈ W0 := W0_t (i := 344) rfl rfl
theorem wM_RX0_44 : Cond.methodLink RX0 44 yX0_step ∈ W0 := W0_t (i := 345) (by decide +kernel) (by decide +kernel)
theorem wI_yX0_step : Cond.instanceMethod yX0_step ∈ W0 := W0_t (i := 346) (by decide +kernel) (by decide +kernel)
theorem wE_yX0_step : Cond.selects RX0 yX0_step yX0_step ∈ W0 := W0_t (i := 347) (by decide +kernel) (by decide +kernel)
set_option maxRecDepth 100000 in
theorem wC_yX0_step : Cond.code yX0_step prog_2_method_3_code 3 (Option.none : Option Jvm.ClassFile.FieldType) ∈ W0 := W0_t (i := 348) rfl rfl
theorem wK_RX0_30 : Cond.constant RX0 30 (99999) ∈ W0 := W0_t (i := 349) (by decide +kernel) (by decide +kernel)
theorem wM_RX0_31 : Cond.methodLink RX0 31 yJ9_min_7cf53 ∈ W0 := W0_t (i := 350) (by decide +kernel) (by decide +kernel)
theorem wM_RX0_37 : Cond.methodLink RX0 37 yJ9_floorMod_7cf53 ∈ W0 := W0_t (i := 351) (by decide +kernel) (by decide +kernel)
theorem wS_yJ9_floorMod_7cf53 : Cond.static yJ9_floorMod_7cf53 ∈ W0 := W0_t (i := 352) (by decide +kernel) (by decide +kernel)
set_option maxRecDepth 100000 in
theorem wC_yJ9_floorMod_7cf53 : Cond.code yJ9_floorMod_7cf53 prog_12_method_50_code 3 (Option.some Jvm.ClassFile.FieldType.int) ∈ W0 := W0_t (i := 353) rfl rfl
theorem wM_RL_52 : Cond.methodLink RL 52 yX7_through ∈ W0 := W0_t (i := 354) (by decide +kernel) (by decide +kernel)
theorem wI_yX7_through : Cond.instanceMethod yX7_through ∈ W0 := W0_t (i := 355) (by decide +kernel) (by decide +kernel)
theorem wE_yX7_through : Cond.selects RX7 yX7_through yX7_through ∈ W0 := W0_t (i := 356) (by decide +kernel) (by decide +kernel)
set_option maxRecDepth 100000 in
theorem wC_yX7_through : Cond.code yX7_through prog_1_method_11_code 4 (Option.some Jvm.ClassFile.FieldType.int) ∈ W0 := W0_t (i := 357) rfl rfl
theorem wM_RX7_157 : Cond.methodLink RX7 157 yX0_begin ∈ W0 := W0_t (i := 358) (by decide +kernel) (by decide +kernel)
theorem wM_RX7_161 : Cond.methodLink RX7 161 yX0_step ∈ W0 := W0_t (i := 359) (by decide +kernel) (by decide +kernel)
theorem wK_RX7_165 : Cond.constant RX7 165 (-1000004) ∈ W0 := W0_t (i := 360) (by decide +kernel) (by decide +kernel)
theorem wM_RL_56 : Cond.methodLink RL 56 yX7_upright ∈ W0 := W0_t (i := 361) (by decide +kernel) (by decide +kernel)
theorem wI_yX7_upright : Cond.instanceMethod yX7_upright ∈ W0 := W0_t (i := 362) (by decide +kernel) (by decide +kernel)
theorem wE_yX7_upright : Cond.selects RX7 yX7_upright yX7_upright ∈ W0 := W0_t (i := 363) (by decide +kernel) (by decide +kernel)
set_option maxRecDepth 100000 in
theorem wC_yX7_upright : Cond.code yX7_upright prog_1_method_12_code 3 (Option.some Jvm.ClassFile.FieldType.int) ∈ W0 := W0_t (i := 364) rfl rfl
theorem wM_RL_60 : Cond.methodLink RL 60 yX7_large ∈ W0 := W0_t (i := 365) (by decide +kernel) (by decide +kernel)
theorem wI_yX7_large : Cond.instanceMethod yX7_large ∈ W0 := W0_t (i := 366) (by decide +kernel) (by decide +kernel)
theorem wE_yX7_large : Cond.selects RX7 yX7_large yX7_large ∈ W0 := W0_t (i := 367) (by decide +kernel) (by decide +kernel)
set_option maxRecDepth 100000 in
theorem wC_yX7_large : Cond.code yX7_large prog_1_method_13_code 4 (Option.some Jvm.ClassFile.FieldType.int) ∈ W0 := W0_t (i := 368) rfl rfl
theorem wM_RL_64 : Cond.methodLink RL 64 yX7_round ∈ W0 := W0_t (i := 369) (by decide +kernel) (by decide +kernel)
theorem wI_yX7_round : Cond.instanceMethod yX7_round ∈ W0 := W0_t (i := 370) (by decide +kernel) (by decide +kernel)
theorem wE_yX7_round : Cond.selects RX7 yX7_round yX7_round ∈ W0 := W0_t (i := 371) (by decide +kernel) (by decide +kernel)
set_option maxRecDepth 100000 in
theorem wC_yX7_round : Cond.code yX7_round prog_1_method_14_code 2 (Option.some Jvm.ClassFile.FieldType.int) ∈ W0 := W0_t (i := 372) rfl rfl
theorem wM_RX7_166 : Cond.methodLink RX7 166 yX1_chainEnd ∈ W0 := W0_t (i := 373) (by decide +kernel) (by decide +kernel)
theorem wI_yX1_chainEnd : Cond.instanceMethod yX1_chainEnd ∈ W0 := W0_t (i := 374) (by decide +kernel) (by decide +kernel)
theorem wE_yX1_chainEnd : Cond.selects RX1 yX1_chainEnd yX1_chainEnd ∈ W0 := W0_t (i := 375) (by decide +kernel) (by decide +kernel)
set_option maxRecDepth 100000 in
theorem wC_yX1_chainEnd : Cond.code yX1_chainEnd prog_3_method_22_code 5 (Option.some Jvm.ClassFile.FieldType.int) ∈ W0 := W0_t (i := 376) rfl rfl
theorem wM_RX7_170 : Cond.methodLink RX7 170 yX1_roundLength ∈ W0 := W0_t (i := 377) (by decide +kernel) (by decide +kernel)
theorem wI_yX1_roundLength : Cond.instanceMethod yX1_roundLength ∈ W0 := W0_t (i := 378) (by decide +kernel) (by decide +kernel)
theorem wE_yX1_roundLength : Cond.selects RX1 yX1_roundLength yX1_roundLength ∈ W0 := W0_t (i := 379) (by decide +kernel) (by decide +kernel)
set_option maxRecDepth 100000 in
theorem wC_yX1_roundLength : Cond.code yX1_roundLength prog_3_method_24_code 4 (Option.some Jvm.ClassFile.FieldType.int) ∈ W0 := W0_t (i := 380) rfl rfl
theorem wM_RL_68 : Cond.methodLink RL 68 yX7_rounds ∈ W0 := W0_t (i := 381) (by decide +kernel) (by decide +kernel)
theorem wI_yX7_rounds : Cond.instanceMethod yX7_rounds ∈ W0 := W0_t (i := 382) (by decide +kernel) (by decide +kernel)
theorem wE_yX7_rounds : Cond.selects RX7 yX7_rounds yX7_rounds ∈ W0 := W0_t (i := 383) (by decide +kernel) (by decide +kernel)
set_option maxRecDepth 100000 in
theorem wC_yX7_rounds : Cond.code yX7_rounds prog_1_method_15_code 3 (Option.some Jvm.ClassFile.FieldType.int) ∈ W0 := W0_t (i := 384) rfl rfl
theorem wM_RX7_173 : Cond.methodLink RX7 173 yX1_isLeastOfRound ∈ W0 := W0_t (i := 385) (by decide +kernel) (by decide +kernel)
theorem wI_yX1_isLeastOfRound : Cond.instanceMethod yX1_isLeastOfRound ∈ W0 := W0_t (i := 386) (by decide +kernel) (by decide +kernel)
theorem wE_yX1_isLeastOfRound : Cond.selects RX1 yX1_isLeastOfRound yX1_isLeastOfRound ∈ W0 := W0_t (i := 387) (by decide +kernel) (by decide +kernel)
set_option maxRecDepth 100000 in
theorem wC_yX1_isLeastOfRound : Cond.code yX1_isLeastOfRound prog_3_method_25_code 5 (Option.some Jvm.ClassFile.FieldType.boolean) ∈ W0 := W0_t (i := 388) rfl rfl
theorem wM_RX1_80 : Cond.methodLink RX1 80 yX1_roundLength ∈ W0 := W0_t (i := 389) (by decide +kernel) (by decide +kernel)
theorem wM_RL_73 : Cond.methodLink RL 73 yX7_before ∈ W0 := W0_t (i := 390) (by decide +kernel) (by decide +kernel)
theorem wI_yX7_before : Cond.instanceMethod yX7_before ∈ W0 := W0_t (i := 391) (by decide +kernel) (by decide +kernel)
theorem wE_yX7_before : Cond.selects RX7 yX7_before yX7_before ∈ W0 := W0_t (i := 392) (by decide +kernel) (by decide +kernel)
set_option maxRecDepth 100000 in
theorem wC_yX7_before : Cond.code yX7_before prog_1_method_16_code 4 (Option.some Jvm.ClassFile.FieldType.int) ∈ W0 := W0_t (i := 393) rfl rfl
theorem wM_RL_77 : Cond.methodLink RL 77 yX7_shownBy ∈ W0 := W0_t (i := 394) (by decide +kernel) (by decide +kernel)
theorem wI_yX7_shownBy : Cond.instanceMethod yX7_shownBy ∈ W0 := W0_t (i := 395) (by decide +kernel) (by decide +kernel)
theorem wE_yX7_shownBy : Cond.selects RX7 yX7_shownBy yX7_shownBy ∈ W0 := W0_t (i := 396) (by decide +kernel) (by decide +kernel)
set_option maxRecDepth 100000 in
theorem wC_yX7_shownBy : Cond.code yX7_shownBy prog_1_method_17_code 4 (Option.some Jvm.ClassFile.FieldType.int) ∈ W0 := W0_t (i := 397) rfl rfl
theorem wM_RX7_176 : Cond.methodLink RX7 176 yX1_chainComes ∈ W0 := W0_t (i := 398) (by decide +kernel) (by decide +kernel)
theorem wI_yX1_chainComes : Cond.instanceMethod yX1_chainComes ∈ W0 := W0_t (i := 399) (by decide +kernel) (by decide +kernel)
theorem wE_yX1_chainComes : Cond.selects RX1 yX1_chainComes yX1_chainComes ∈ W0 := W0_t (i := 400) (by decide +kernel) (by decide +kernel)
set_option maxRecDepth 100000 in
theorem wC_yX1_chainComes : Cond.code yX1_chainComes prog_3_method_23_code 5 (Option.some Jvm.ClassFile.FieldType.boolean) ∈ W0 := W0_t (i := 401) rfl rfl
theorem wM_RL_81 : Cond.methodLink RL 81 yX7_ahead ∈ W0 := W0_t (i := 402) (by decide +kernel) (by decide +kernel)
theorem wI_yX7_ahead : Cond.instanceMethod yX7_ahead ∈ W0 := W0_t (i := 403) (by decide +kernel) (by decide +kernel)
theorem wE_yX7_ahead : Cond.selects RX7 yX7_ahead yX7_ahead ∈ W0 := W0_t (i := 404) (by decide +kernel) (by decide +kernel)
set_option maxRecDepth 100000 in
theorem wC_yX7_ahead : Cond.code yX7_ahead prog_1_method_18_code 4 (Option.some Jvm.ClassFile.FieldType.int) ∈ W0 := W0_t (i := 405) rfl rfl
theorem wM_RX7_179 : Cond.methodLink RX7 179 yX1_become ∈ W0 := W0_t (i := 406) (by decide +kernel) (by decide +kernel)
theorem wI_yX1_become : Cond.instanceMethod yX1_become ∈ W0 := W0_t (i := 407) (by decide +kernel) (by decide +kernel)
theorem wE_yX1_become : Cond.selects RX1 yX1_become yX1_become ∈ W0 := W0_t (i := 408) (by decide +kernel) (by decide +kernel)
set_option maxRecDepth 100000 in
theorem wC_yX1_become : Cond.code yX1_become prog_3_method_2_code 3 (Option.none : Option Jvm.ClassFile.FieldType) ∈ W0 := W0_t (i := 409) rfl rfl
theorem wM_RX1_36 : Cond.methodLink RX1 36 (⟨"java/lang/System", "arraycopy", "(Ljava/lang/Object;ILjava/lang/Object;II)V"⟩ : MethodName) ∈ W0 := W0_t (i := 410) (by decide +kernel) (by decide +kernel)
theorem wS_java_lang_System_arraycopy_Ljava_lang_Object_ILjava_lang_Object_II_V_MethodName : Cond.static (⟨"java/lang/System", "arraycopy", "(Ljava/lang/Object;ILjava/lang/Object;II)V"⟩ : MethodName) ∈ W0 := W0_t (i := 411) (by decide +kernel) (by decide +kernel)
theorem wV_java_lang_System_arraycopy_Ljava_lang_Object_ILjava_lang_Object_II_V_MethodName : Cond.native (⟨"java/lang/System", "arraycopy", "(Ljava/lang/Object;ILjava/lang/Object;II)V"⟩ : MethodName) ∈ W0 := W0_t (i := 412) (by decide +kernel) (by decide +kernel)
theorem wM_RL_85 : Cond.methodLink RL 85 yX7_comes ∈ W0 := W0_t (i := 413) (by decide +kernel) (by decide +kernel)
theorem wI_yX7_comes : Cond.instanceMethod yX7_comes ∈ W0 := W0_t (i := 414) (by decide +kernel) (by decide +kernel)
theorem wE_yX7_comes : Cond.selects RX7 yX7_comes yX7_comes ∈ W0 := W0_t (i := 415) (by decide +kernel) (by decide +kernel)
set_option maxRecDepth 100000 in
theorem wC_yX7_comes : Cond.code yX7_comes prog_1_method_19_code 3 (Option.some Jvm.ClassFile.FieldType.int) ∈ W0 := W0_t (i := 416) rfl rfl
theorem wM_RX7_182 : Cond.methodLink RX7 182 yX2_minutesTo ∈ W0 := W0_t (i := 417) (by decide +kernel) (by decide +kernel)
theorem wI_yX2_minutesTo : Cond.instanceMethod yX2_minutesTo ∈ W0 := W0_t (i := 418) (by decide +kernel) (by decide +kernel)
theorem wE_yX2_minutesTo : Cond.selects RX2 yX2_minutesTo yX2_minutesTo ∈ W0 := W0_t (i := 419) (by decide +kernel) (by decide +kernel)
set_option maxRecDepth 100000 in
theorem wC_yX2_minutesTo : Cond.code yX2_minutesTo prog_4_method_2_code 5 (Option.some Jvm.ClassFile.FieldType.int) ∈ W0 := W0_t (i := 420) rfl rfl
theorem wM_RX2_21 : Cond.methodLink RX2 21 yX1_passMinute ∈ W0 := W0_t (i := 421) (by decide +kernel) (by decide +kernel)
theorem wK_RX2_24 : Cond.constant RX2 24 (-1000004) ∈ W0 := W0_t (i := 422) (by decide +kernel) (by decide +kernel)
theorem wM_RX7_186 : Cond.methodLink RX7 186 yX7_findingOrAnswer ∈ W0 := W0_t (i := 423) (by decide +kernel) (by decide +kernel)
theorem wI_yX7_findingOrAnswer : Cond.instanceMethod yX7_findingOrAnswer ∈ W0 := W0_t (i := 425) (by decide +kernel) (by decide +kernel)
set_option maxRecDepth 100000 in
theorem wC_yX7_findingOrAnswer : Cond.code yX7_findingOrAnswer prog_1_method_49_code 2 (Option.some Jvm.ClassFile.FieldType.int) ∈ W0 := W0_t (i := 426) rfl rfl
theorem wM_RL_89 : Cond.methodLink RL 89 yX7_seen ∈ W0 := W0_t (i := 427) (by decide +kernel) (by decide +kernel)
theorem wI_yX7_seen : Cond.instanceMethod yX7_seen ∈ W0 := W0_t (i := 428) (by decide +kernel) (by decide +kernel)
theorem wE_yX7_seen : Cond.selects RX7 yX7_seen yX7_seen ∈ W0 := W0_t (i := 429) (by decide +kernel) (by decide +kernel)
set_option maxRecDepth 100000 in
theorem wC_yX7_seen : Cond.code yX7_seen prog_1_method_20_code 3 (Option.some Jvm.ClassFile.FieldType.int) ∈ W0 := W0_t (i := 430) rfl rfl
theorem wM_RL_93 : Cond.methodLink RL 93 yX7_meet ∈ W0 := W0_t (i := 431) (by decide +kernel) (by decide +kernel)
theorem wI_yX7_meet : Cond.instanceMethod yX7_meet ∈ W0 := W0_t (i := 432) (by decide +kernel) (by decide +kernel)
theorem wE_yX7_meet : Cond.selects RX7 yX7_meet yX7_meet ∈ W0 := W0_t (i := 433) (by decide +kernel) (by decide +kernel)
set_option maxRecDepth 100000 in
theorem wC_yX7_meet : Cond.code yX7_meet prog_1_method_21_code 3 (Option.some Jvm.ClassFile.FieldType.int) ∈ W0 := W0_t (i := 434) rfl rfl
theorem wM_RX7_189 : Cond.methodLink RX7 189 yX2_minutesToMeeting ∈ W0 := W0_t (i := 435) (by decide +kernel) (by decide +kernel)
theorem wI_yX2_minutesToMeeting : Cond.instanceMethod yX2_minutesToMeeting ∈ W0 := W0_t (i := 436) (by decide +kernel) (by decide +kernel)
theorem wE_yX2_minutesToMeeting : Cond.selects RX2 yX2_minutesToMeeting yX2_minutesToMeeting ∈ W0 := W0_t (i := 437) (by decide +kernel) (by decide +kernel)
set_option maxRecDepth 100000 in
theorem wC_yX2_minutesToMeeting : Cond.code yX2_minutesToMeeting prog_4_method_3_code 5 (Option.some Jvm.ClassFile.FieldType.int) ∈ W0 := W0_t (i := 438) rfl rfl
theorem wM_RL_97 : Cond.methodLink RL 97 yX7_cast ∈ W0 := W0_t (i := 439) (by decide +kernel) (by decide +kernel)
theorem wI_yX7_cast : Cond.instanceMethod yX7_cast ∈ W0 := W0_t (i := 440) (by decide +kernel) (by decide +kernel)
theorem wE_yX7_cast : Cond.selects RX7 yX7_cast yX7_cast ∈ W0 := W0_t (i := 441) (by decide +kernel) (by decide +kernel)
set_option maxRecDepth 100000 in
theorem wC_yX7_cast : Cond.code yX7_cast prog_1_method_22_code 3 (Option.some Jvm.ClassFile.FieldType.int) ∈ W0 := W0_t (i := 442) rfl rfl
theorem wM_RX7_192 : Cond.methodLink RX7 192 yX2_usualPond ∈ W0 := W0_t (i := 443) (by decide +kernel) (by decide +kernel)
theorem wI_yX2_usualPond : Cond.instanceMethod yX2_usualPond ∈ W0 := W0_t (i := 444) (by decide +kernel) (by decide +kernel)
theorem wE_yX2_usualPond : Cond.selects RX2 yX2_usualPond yX2_usualPond ∈ W0 := W0_t (i := 445) (by decide +kernel) (by decide +kernel)
set_option maxRecDepth 100000 in
theorem wC_yX2_usualPond : Cond.code yX2_usualPond prog_4_method_4_code 5 (Option.some Jvm.ClassFile.FieldType.int) ∈ W0 := W0_t (i := 446) rfl rfl
theorem wM_RX2_25 : Cond.methodLink RX2 25 yX2_clearTally ∈ W0 := W0_t (i := 447) (by decide +kernel) (by decide +kernel)
theorem wI_yX2_clearTally : Cond.instanceMethod yX2_clearTally ∈ W0 := W0_t (i := 449) (by decide +kernel) (by decide +kernel)
set_option maxRecDepth 100000 in
theorem wC_yX2_clearTally : Cond.code yX2_clearTally prog_4_method_9_code 2 (Option.none : Option Jvm.ClassFile.FieldType) ∈ W0 := W0_t (i := 450) rfl rfl
theorem wM_RX2_28 : Cond.methodLink RX2 28 yX2_leastOfMost ∈ W0 := W0_t (i := 451) (by decide +kernel) (by decide +kernel)
theorem wI_yX2_leastOfMost : Cond.instanceMethod yX2_leastOfMost ∈ W0 := W0_t (i := 453) (by decide +kernel) (by decide +kernel)
set_option maxRecDepth 100000 in
theorem wC_yX2_leastOfMost : Cond.code yX2_leastOfMost prog_4_method_10_code 3 (Option.some Jvm.ClassFile.FieldType.int) ∈ W0 := W0_t (i := 454) rfl rfl
theorem wM_RL_101 : Cond.methodLink RL 101 yX7_kindFor ∈ W0 := W0_t (i := 455) (by decide +kernel) (by decide +kernel)
theorem wI_yX7_kindFor : Cond.instanceMethod yX7_kindFor ∈ W0 := W0_t (i := 456) (by decide +kernel) (by decide +kernel)
theorem wE_yX7_kindFor : Cond.selects RX7 yX7_kindFor yX7_kindFor ∈ W0 := W0_t (i := 457) (by decide +kernel) (by decide +kernel)
set_option maxRecDepth 100000 in
theorem wC_yX7_kindFor : Cond.code yX7_kindFor prog_1_method_23_code 6 (Option.some Jvm.ClassFile.FieldType.int) ∈ W0 := W0_t (i := 458) rfl rfl
theorem wM_RX7_195 : Cond.methodLink RX7 195 yX2_pondsVisited ∈ W0 := W0_t (i := 459) (by decide +kernel) (by decide +kernel)
theorem wI_yX2_pondsVisited : Cond.instanceMethod yX2_pondsVisited ∈ W0 := W0_t (i := 460) (by decide +kernel) (by decide +kernel)
theorem wE_yX2_pondsVisited : Cond.selects RX2 yX2_pondsVisited yX2_pondsVisited ∈ W0 := W0_t (i := 461) (by decide +kernel) (by decide +kernel)
set_option maxRecDepth 100000 in
theorem wC_yX2_pondsVisited : Cond.code yX2_pondsVisited prog_4_method_5_code 5 (Option.some Jvm.ClassFile.FieldType.int) ∈ W0 := W0_t (i := 462) rfl rfl
theorem wM_RX7_199 : Cond.methodLink RX7 199 yJ6_bitCount_0f7a4 ∈ W0 := W0_t (i := 463) (by decide +kernel) (by decide +kernel)
theorem wS_yJ6_bitCount_0f7a4 : Cond.static yJ6_bitCount_0f7a4 ∈ W0 := W0_t (i := 464) (by decide +kernel) (by decide +kernel)
set_option maxRecDepth 100000 in
theorem wC_yJ6_bitCount_0f7a4 : Cond.code yJ6_bitCount_0f7a4 prog_11_method_49_code 1 (Option.some Jvm.ClassFile.FieldType.int) ∈ W0 := W0_t (i := 465) rfl rfl
theorem wK_RJ6_265 : Cond.constant RJ6 265 (1431655765) ∈ W0 := W0_t (i := 466) (by decide +kernel) (by decide +kernel)
theorem wK_RJ6_266 : Cond.constant RJ6 266 (858993459) ∈ W0 := W0_t (i := 467) (by decide +kernel) (by decide +kernel)
theorem wK_RJ6_267 : Cond.constant RJ6 267 (252645135) ∈ W0 := W0_t (i := 468) (by decide +kernel) (by decide +kernel)
theorem wM_RL_105 : Cond.methodLink RL 105 yX7_fits ∈ W0 := W0_t (i := 469) (by decide +kernel) (by decide +kernel)
theorem wI_yX7_fits : Cond.instanceMethod yX7_fits ∈ W0 := W0_t (i := 470) (by decide +kernel) (by decide +kernel)
theorem wE_yX7_fits : Cond.selects RX7 yX7_fits yX7_fits ∈ W0 := W0_t (i := 471) (by decide +kernel) (by decide +kernel)
set_option maxRecDepth 100000 in
theorem wC_yX7_fits : Cond.code yX7_fits prog_1_method_24_code 4 (Option.some Jvm.ClassFile.FieldType.int) ∈ W0 := W0_t (i := 472) rfl rfl
theorem wM_RX7_204 : Cond.methodLink RX7 204 yX7_lackOfSight ∈ W0 := W0_t (i := 473) (by decide +kernel) (by decide +kernel)
theorem wI_yX7_lackOfSight : Cond.instanceMethod yX7_lackOfSight ∈ W0 := W0_t (i := 475) (by decide +kernel) (by decide +kernel)
set_option maxRecDepth 100000 in
theorem wC_yX7_lackOfSight : Cond.code yX7_lackOfSight prog_1_method_51_code 4 (Option.some Jvm.ClassFile.FieldType.int) ∈ W0 := W0_t (i := 476) rfl rfl
theorem wM_RX7_214 : Cond.methodLink RX7 214 yX7_lackOfSheet ∈ W0 := W0_t (i := 477) (by decide +kernel) (by decide +kernel)
theorem wI_yX7_lackOfSheet : Cond.instanceMethod yX7_lackOfSheet ∈ W0 := W0_t (i := 479) (by decide +kernel) (by decide +kernel)
set_option maxRecDepth 100000 in
theorem wC_yX7_lackOfSheet : Cond.code yX7_lackOfSheet prog_1_method_50_code 2 (Option.some Jvm.ClassFile.FieldType.int) ∈ W0 := W0_t (i := 480) rfl rfl
theorem wM_RX7_254 : Cond.methodLink RX7 254 yX7_isSheet ∈ W0 := W0_t (i := 481) (by decide +kernel) (by decide +kernel)
theorem wS_yX7_isSheet : Cond.static yX7_isSheet ∈ W0 := W0_t (i := 482) (by decide +kernel) (by decide +kernel)
set_option maxRecDepth 100000 in
theorem wC_yX7_isSheet : Cond.code yX7_isSheet prog_1_method_56_code 1 (Option.some Jvm.ClassFile.FieldType.boolean) ∈ W0 := W0_t (i := 483) rfl rfl
theorem wM_RX7_269 : Cond.methodLink RX7 269 yX3_isMissing ∈ W0 := W0_t (i := 484) (by decide +kernel) (by decide +kernel)
theorem wI_yX3_isMissing : Cond.instanceMethod yX3_isMissing ∈ W0 := W0_t (i := 485) (by decide +kernel) (by decide +kernel)
theorem wE_yX3_isMissing : Cond.selects RX3 yX3_isMissing yX3_isMissing ∈ W0 := W0_t (i := 486) (by decide +kernel) (by decide +kernel)
set_option maxRecDepth 100000 in
theorem wC_yX3_isMissing : Cond.code yX3_isMissing prog_5_method_2_code 1 (Option.some Jvm.ClassFile.FieldType.boolean) ∈ W0 := W0_t (i := 487) rfl rfl
theorem wK_RX7_249 : Cond.constant RX7 249 (-1000006) ∈ W0 := W0_t (i := 488) (by decide +kernel) (by decide +kernel)
theorem wM_RX7_207 : Cond.methodLink RX7 207 yX7_lensesFor ∈ W0 := W0_t (i := 489) (by decide +kernel) (by decide +kernel)
theorem wI_yX7_lensesFor : Cond.instanceMethod yX7_lensesFor ∈ W0 := W0_t (i := 491) (by decide +kernel) (by decide +kernel)
set_option maxRecDepth 100000 in
theorem wC_yX7_lensesFor : Cond.code yX7_lensesFor prog_1_method_52_code 5 (Option.some Jvm.ClassFile.FieldType.int) ∈ W0 := W0_t (i := 492) rfl rfl
theorem wM_RX7_294 : Cond.methodLink RX7 294 yX2_showsAsTold ∈ W0 := W0_t (i := 493) (by decide +kernel) (by decide +kernel)
theorem wI_yX2_showsAsTold : Cond.instanceMethod yX2_showsAsTold ∈ W0 := W0_t (i := 494) (by decide +kernel) (by decide +kernel)
theorem wE_yX2_showsAsTold : Cond.selects RX2 yX2_showsAsTold yX2_showsAsTold ∈ W0 := W0_t (i := 495) (by decide +kernel) (by decide +kernel)
set_option maxRecDepth 100000 in
theorem wC_yX2_showsAsTold : Cond.code yX2_showsAsTold prog_4_method_6_code 6 (Option.some Jvm.ClassFile.FieldType.boolean) ∈ W0 := W0_t (i := 496) rfl rfl
theorem wM_RX2_41 : Cond.methodLink RX2 41 yX1_thingsSeenIn ∈ W0 := W0_t (i := 497) (by decide +kernel) (by decide +kernel)
theorem wM_RL_109 : Cond.methodLink RL 109 yX7_lens ∈ W0 := W0_t (i := 498) (by decide +kernel) (by decide +kernel)
theorem wI_yX7_lens : Cond.instanceMethod yX7_lens ∈ W0 := W0_t (i := 499) (by decide +kernel) (by decide +kernel)
theorem wE_yX7_lens : Cond.selects RX7 yX7_lens yX7_lens ∈ W0 := W0_t (i := 500) (by decide +kernel) (by decide +kernel)
set_option maxRecDepth 100000 in
theorem wC_yX7_lens : Cond.code yX7_lens prog_1_method_25_code 5 (Option.some Jvm.ClassFile.FieldType.int) ∈ W0 := W0_t (i := 501) rfl rfl
theorem wM_RX7_211 : Cond.methodLink RX7 211 yJ6_numberOfTrailingZeros_0f7a4 ∈ W0 := W0_t (i := 502) (by decide +kernel) (by decide +kernel)
theorem wS_yJ6_numberOfTrailingZeros_0f7a4 : Cond.static yJ6_numberOfTrailingZeros_0f7a4 ∈ W0 := W0_t (i := 503) (by decide +kernel) (by decide +kernel)
set_option maxRecDepth 100000 in
theorem wC_yJ6_numberOfTrailingZeros_0f7a4 : Cond.code yJ6_numberOfTrailingZeros_0f7a4 prog_11_method_48_code 2 (Option.some Jvm.ClassFile.FieldType.int) ∈ W0 := W0_t (i := 504) rfl rfl
theorem wK_RJ6_264 : Cond.constant RJ6 264 (65536) ∈ W0 := W0_t (i := 505) (by decide +kernel) (by decide +kernel)
theorem wM_RL_113 : Cond.methodLink RL 113 yX7_which ∈ W0 := W0_t (i := 506) (by decide +kernel) (by decide +kernel)
theorem wI_yX7_which : Cond.instanceMethod yX7_which ∈ W0 := W0_t (i := 507) (by decide +kernel) (by decide +kernel)
theorem wE_yX7_which : Cond.selects RX7 yX7_which yX7_which ∈ W0 := W0_t (i := 508) (by decide +kernel) (by decide +kernel)
set_option maxRecDepth 100000 in
theorem wC_yX7_which : Cond.code yX7_which prog_1_method_26_code 3 (Option.some Jvm.ClassFile.FieldType.int) ∈ W0 := W0_t (i := 509) rfl rfl
theorem wM_RX7_217 : Cond.methodLink RX7 217 yX2_thingsOnCourse ∈ W0 := W0_t (i := 510) (by decide +kernel) (by decide +kernel)
theorem wI_yX2_thingsOnCourse : Cond.instanceMethod yX2_thingsOnCourse ∈ W0 := W0_t (i := 511) (by decide +kernel) (by decide +kernel)
theorem wE_yX2_thingsOnCourse : Cond.selects RX2 yX2_thingsOnCourse yX2_thingsOnCourse ∈ W0 := W0_t (i := 512) (by decide +kernel) (by decide +kernel)
set_option maxRecDepth 100000 in
theorem wC_yX2_thingsOnCourse : Cond.code yX2_thingsOnCourse prog_4_method_7_code 6 (Option.some Jvm.ClassFile.FieldType.int) ∈ W0 := W0_t (i := 513) rfl rfl
theorem wM_RX2_48 : Cond.methodLink RX2 48 yX1_thingsIn ∈ W0 := W0_t (i := 514) (by decide +kernel) (by decide +kernel)
theorem wM_RL_117 : Cond.methodLink RL 117 yX7_eyes ∈ W0 := W0_t (i := 515) (by decide +kernel) (by decide +kernel)
theorem wI_yX7_eyes : Cond.instanceMethod yX7_eyes ∈ W0 := W0_t (i := 516) (by decide +kernel) (by decide +kernel)
theorem wE_yX7_eyes : Cond.selects RX7 yX7_eyes yX7_eyes ∈ W0 := W0_t (i := 517) (by decide +kernel) (by decide +kernel)
set_option maxRecDepth 100000 in
theorem wC_yX7_eyes : Cond.code yX7_eyes prog_1_method_27_code 5 (Option.some Jvm.ClassFile.FieldType.int) ∈ W0 := W0_t (i := 518) rfl rfl
theorem wM_RX7_221 : Cond.methodLink RX7 221 yJ6_lowestOneBit_0f7a4 ∈ W0 := W0_t (i := 519) (by decide +kernel) (by decide +kernel)
theorem wS_yJ6_lowestOneBit_0f7a4 : Cond.static yJ6_lowestOneBit_0f7a4 ∈ W0 := W0_t (i := 520) (by decide +kernel) (by decide +kernel)
set_option maxRecDepth 100000 in
theorem wC_yJ6_lowestOneBit_0f7a4 : Cond.code yJ6_lowestOneBit_0f7a4 prog_11_method_46_code 1 (Option.some Jvm.ClassFile.FieldType.int) ∈ W0 := W0_t (i := 521) rfl rfl
theorem wM_RL_121 : Cond.methodLink RL 121 yX7_dredge ∈ W0 := W0_t (i := 522) (by decide +kernel) (by decide +kernel)
theorem wI_yX7_dredge : Cond.instanceMethod yX7_dredge ∈ W0 := W0_t (i := 523) (by decide +kernel) (by decide +kernel)
theorem wE_yX7_dredge : Cond.selects RX7 yX7_dredge yX7_dredge ∈ W0 := W0_t (i := 524) (by decide +kernel) (by decide +kernel)
set_option maxRecDepth 100000 in
theorem wC_yX7_dredge : Cond.code yX7_dredge prog_1_method_28_code 7 (Option.some Jvm.ClassFile.FieldType.int) ∈ W0 := W0_t (i := 525) rfl rfl
theorem wM_RL_125 : Cond.methodLink RL 125 yX7_watch ∈ W0 := W0_t (i := 526) (by decide +kernel) (by decide +kernel)
theorem wI_yX7_watch : Cond.instanceMethod yX7_watch ∈ W0 := W0_t (i := 527) (by decide +kernel) (by decide +kernel)
theorem wE_yX7_watch : Cond.selects RX7 yX7_watch yX7_watch ∈ W0 := W0_t (i := 528) (by decide +kernel) (by decide +kernel)
set_option maxRecDepth 100000 in
theorem wC_yX7_watch : Cond.code yX7_watch prog_1_method_29_code 2 (Option.some Jvm.ClassFile.FieldType.int) ∈ W0 := W0_t (i := 529) rfl rfl
theorem wM_RX7_224 : Cond.methodLink RX7 224 yX2_busiestPond ∈ W0 := W0_t (i := 530) (by decide +kernel) (by decide +kernel)
theorem wI_yX2_busiestPond : Cond.instanceMethod yX2_busiestPond ∈ W0 := W0_t (i := 531) (by decide +kernel) (by decide +kernel)
theorem wE_yX2_busiestPond : Cond.selects RX2 yX2_busiestPond yX2_busiestPond ∈ W0 := W0_t (i := 532) (by decide +kernel) (by decide +kernel)
set_option maxRecDepth 100000 in
theorem wC_yX2_busiestPond : Cond.code yX2_busiestPond prog_4_method_8_code 5 (Option.some Jvm.ClassFile.FieldType.int) ∈ W0 := W0_t (i := 533) rfl rfl
theorem wM_RX2_51 : Cond.methodLink RX2 51 yJ6_bitCount_0f7a4 ∈ W0 := W0_t (i := 534) (by decide +kernel) (by decide +kernel)
theorem wM_RL_129 : Cond.methodLink RL 129 yX7_falls ∈ W0 := W0_t (i := 535) (by decide +kernel) (by decide +kernel)
theorem wI_yX7_falls : Cond.instanceMethod yX7_falls ∈ W0 := W0_t (i := 536) (by decide +kernel) (by decide +kernel)
theorem wE_yX7_falls : Cond.selects RX7 yX7_falls yX7_falls ∈ W0 := W0_t (i := 537) (by decide +kernel) (by decide +kernel)
set_option maxRecDepth 100000 in
theorem wC_yX7_falls : Cond.code yX7_falls prog_1_method_30_code 4 (Option.some Jvm.ClassFile.FieldType.int) ∈ W0 := W0_t (i := 538) rfl rfl
theorem wM_RX7_227 : Cond.methodLink RX7 227 yX1_dropOne ∈ W0 := W0_t (i := 539) (by decide +kernel) (by decide +kernel)
theorem wI_yX1_dropOne : Cond.instanceMethod yX1_dropOne ∈ W0 := W0_t (i := 540) (by decide +kernel) (by decide +kernel)
theorem wE_yX1_dropOne : Cond.selects RX1 yX1_dropOne yX1_dropOne ∈ W0 := W0_t (i := 541) (by decide +kernel) (by decide +kernel)
set_option maxRecDepth 100000 in
theorem wC_yX1_dropOne : Cond.code yX1_dropOne prog_3_method_21_code 2 (Option.none : Option Jvm.ClassFile.FieldType) ∈ W0 := W0_t (i := 542) rfl rfl
theorem wM_RX1_77 : Cond.methodLink RX1 77 yX1_draw ∈ W0 := W0_t (i := 543) (by decide +kernel) (by decide +kernel)
theorem wI_yX1_draw : Cond.instanceMethod yX1_draw ∈ W0 := W0_t (i := 545) (by decide +kernel) (by decide +kernel)
set_option maxRecDepth 100000 in
theorem wC_yX1_draw : Cond.code yX1_draw prog_3_method_20_code 1 (Option.some Jvm.ClassFile.FieldType.int) ∈ W0 := W0_t (i := 546) rfl rfl
theorem wK_RX1_76 : Cond.constant RX1 76 (1103515245) ∈ W0 := W0_t (i := 547) (by decide +kernel) (by decide +kernel)
theorem wM_RL_133 : Cond.methodLink RL 133 yX7_odds ∈ W0 := W0_t (i := 548) (by decide +kernel) (by decide +kernel)
theorem wI_yX7_odds : Cond.instanceMethod yX7_odds ∈ W0 := W0_t (i := 549) (by decide +kernel) (by decide +kernel)
theorem wE_yX7_odds : Cond.selects RX7 yX7_odds yX7_odds ∈ W0 := W0_t (i := 550) (by decide +kernel) (by decide +kernel)
set_option maxRecDepth 100000 in
theorem wC_yX7_odds : Cond.code yX7_odds prog_1_method_31_code 9 (Option.some Jvm.ClassFile.FieldType.long) ∈ W0 := W0_t (i := 551) rfl rfl
theorem wM_RL_138 : Cond.methodLink RL 138 yX7_seed ∈ W0 := W0_t (i := 552) (by decide +kernel) (by decide +kernel)
theorem wI_yX7_seed : Cond.instanceMethod yX7_seed ∈ W0 := W0_t (i := 553) (by decide +kernel) (by decide +kernel)
theorem wE_yX7_seed : Cond.selects RX7 yX7_seed yX7_seed ∈ W0 := W0_t (i := 554) (by decide +kernel) (by decide +kernel)
set_option maxRecDepth 100000 in
theorem wC_yX7_seed : Cond.code yX7_seed prog_1_method_32_code 3 (Option.some Jvm.ClassFile.FieldType.int) ∈ W0 := W0_t (i := 555) rfl rfl
theorem wM_RL_142 : Cond.methodLink RL 142 yX7_feed ∈ W0 := W0_t (i := 556) (by decide +kernel) (by decide +kernel)
theorem wI_yX7_feed : Cond.instanceMethod yX7_feed ∈ W0 := W0_t (i := 557) (by decide +kernel) (by decide +kernel)
theorem wE_yX7_feed : Cond.selects RX7 yX7_feed yX7_feed ∈ W0 := W0_t (i := 558) (by decide +kernel) (by decide +kernel)
set_option maxRecDepth 100000 in
theorem wC_yX7_feed : Cond.code yX7_feed prog_1_method_33_code 4 (Option.some Jvm.ClassFile.FieldType.int) ∈ W0 := W0_t (i := 559) rfl rfl
theorem wM_RX7_236 : Cond.methodLink RX7 236 yX4_append ∈ W0 := W0_t (i := 560) (by decide +kernel) (by decide +kernel)
theorem wI_yX4_append : Cond.instanceMethod yX4_append ∈ W0 := W0_t (i := 561) (by decide +kernel) (by decide +kernel)
theorem wE_yX4_append : Cond.selects RX4 yX4_append yX4_append ∈ W0 := W0_t (i := 562) (by decide +kernel) (by decide +kernel)
set_option maxRecDepth 100000 in
theorem wC_yX4_append : Cond.code yX4_append prog_6_method_2_code 2 (Option.none : Option Jvm.ClassFile.FieldType) ∈ W0 := W0_t (i := 563) rfl rfl
theorem wM_RL_146 : Cond.methodLink RL 146 yX7_wipe ∈ W0 := W0_t (i := 564) (by decide +kernel) (by decide +kernel)
theorem wI_yX7_wipe : Cond.instanceMethod yX7_wipe ∈ W0 := W0_t (i := 565) (by decide +kernel) (by decide +kernel)
theorem wE_yX7_wipe : Cond.selects RX7 yX7_wipe yX7_wipe ∈ W0 := W0_t (i := 566) (by decide +kernel) (by decide +kernel)
set_option maxRecDepth 100000 in
theorem wC_yX7_wipe : Cond.code yX7_wipe prog_1_method_34_code 2 (Option.some Jvm.ClassFile.FieldType.int) ∈ W0 := W0_t (i := 567) rfl rfl
theorem wM_RL_150 : Cond.methodLink RL 150 yX7_text ∈ W0 := W0_t (i := 568) (by decide +kernel) (by decide +kernel)
theorem wI_yX7_text : Cond.instanceMethod yX7_text ∈ W0 := W0_t (i := 569) (by decide +kernel) (by decide +kernel)
theorem wE_yX7_text : Cond.selects RX7 yX7_text yX7_text ∈ W0 := W0_t (i := 570) (by decide +kernel) (by decide +kernel)
set_option maxRecDepth 100000 in
theorem wC_yX7_text : Cond.code yX7_text prog_1_method_35_code 2 (Option.some Jvm.ClassFile.FieldType.int) ∈ W0 := W0_t (i := 571) rfl rfl
theorem wM_RX7_239 : Cond.methodLink RX7 239 yX5_read ∈ W0 := W0_t (i := 572) (by decide +kernel) (by decide +kernel)
theorem wI_yX5_read : Cond.instanceMethod yX5_read ∈ W0 := W0_t (i := 573) (by decide +kernel) (by decide +kernel)
theorem wE_yX5_read : Cond.selects RX5 yX5_read yX5_read ∈ W0 := W0_t (i := 574) (by decide +kernel) (by decide +kernel)
set_option maxRecDepth 100000 in
theorem wC_yX5_read : Cond.code yX5_read prog_7_method_2_code 4 (Option.some Jvm.ClassFile.FieldType.int) ∈ W0 := W0_t (i := 575) rfl rfl
theorem wM_RX5_22 : Cond.methodLink RX5 22 yX6_take ∈ W0 := W0_t (i := 576) (by decide +kernel) (by decide +kernel)
theorem wI_yX6_take : Cond.instanceMethod yX6_take ∈ W0 := W0_t (i := 577) (by decide +kernel) (by decide +kernel)
theorem wE_yX6_take : Cond.selects RX6 yX6_take yX6_take ∈ W0 := W0_t (i := 578) (by decide +kernel) (by decide +kernel)
set_option maxRecDepth 100000 in
theorem wC_yX6_take : Cond.code yX6_take prog_8_method_2_code 4 (Option.none : Option Jvm.ClassFile.FieldType) ∈ W0 := W0_t (i := 579) rfl rfl
theorem wM_RX6_30 : Cond.methodLink RX6 30 yX4_at ∈ W0 := W0_t (i := 580) (by decide +kernel) (by decide +kernel)
theorem wI_yX4_at : Cond.instanceMethod yX4_at ∈ W0 := W0_t (i := 581) (by decide +kernel) (by decide +kernel)
theorem wE_yX4_at : Cond.selects RX4 yX4_at yX4_at ∈ W0 := W0_t (i := 582) (by decide +kernel) (by decide +kernel)
set_option maxRecDepth 100000 in
theorem wC_yX4_at : Cond.code yX4_at prog_6_method_3_code 2 (Option.some Jvm.ClassFile.FieldType.int) ∈ W0 := W0_t (i := 583) rfl rfl
theorem wM_RX6_33 : Cond.methodLink RX6 33 yX6_takeOne ∈ W0 := W0_t (i := 584) (by decide +kernel) (by decide +kernel)
theorem wI_yX6_takeOne : Cond.instanceMethod yX6_takeOne ∈ W0 := W0_t (i := 586) (by decide +kernel) (by decide +kernel)
set_option maxRecDepth 100000 in
theorem wC_yX6_takeOne : Cond.code yX6_takeOne prog_8_method_8_code 7 (Option.some Jvm.ClassFile.FieldType.int) ∈ W0 := W0_t (i := 587) rfl rfl
theorem wM_RX6_37 : Cond.methodLink RX6 37 yX6_isLetter ∈ W0 := W0_t (i := 588) (by decide +kernel) (by decide +kernel)
theorem wS_yX6_isLetter : Cond.static yX6_isLetter ∈ W0 := W0_t (i := 589) (by decide +kernel) (by decide +kernel)
set_option maxRecDepth 100000 in
theorem wC_yX6_isLetter : Cond.code yX6_isLetter prog_8_method_9_code 1 (Option.some Jvm.ClassFile.FieldType.boolean) ∈ W0 := W0_t (i := 590) rfl rfl
theorem wM_RX6_41 : Cond.methodLink RX6 41 yX6_wordAt ∈ W0 := W0_t (i := 591) (by decide +kernel) (by decide +kernel)
theorem wS_yX6_wordAt : Cond.static yX6_wordAt ∈ W0 := W0_t (i := 592) (by decide +kernel) (by decide +kernel)
set_option maxRecDepth 100000 in
theorem wC_yX6_wordAt : Cond.code yX6_wordAt prog_8_method_11_code 4 (Option.some Jvm.ClassFile.FieldType.int) ∈ W0 := W0_t (i := 593) rfl rfl
theorem wM_RX6_53 : Cond.methodLink RX6 53 yX6_nameOf ∈ W0 := W0_t (i := 594) (by decide +kernel) (by decide +kernel)
theorem wS_yX6_nameOf : Cond.static yX6_nameOf ∈ W0 := W0_t (i := 595) (by decide +kernel) (by decide +kernel)
set_option maxRecDepth 100000 in
theorem wC_yX6_nameOf : Cond.code yX6_nameOf prog_8_method_12_code 1 (Option.some (Jvm.ClassFile.FieldType.object "java/lang/String")) ∈ W0 := W0_t (i := 596) rfl rfl
theorem wM_RX6_57 : Cond.methodLink RX6 57 yX4_says ∈ W0 := W0_t (i := 615) (by decide +kernel) (by decide +kernel)
theorem wI_yX4_says : Cond.instanceMethod yX4_says ∈ W0 := W0_t (i := 616) (by decide +kernel) (by decide +kernel)
theorem wE_yX4_says : Cond.selects RX4 yX4_says yX4_says ∈ W0 := W0_t (i := 617) (by decide +kernel) (by decide +kernel)
set_option maxRecDepth 100000 in
theorem wC_yX4_says : Cond.code yX4_says prog_6_method_4_code 5 (Option.some Jvm.ClassFile.FieldType.boolean) ∈ W0 := W0_t (i := 618) rfl rfl
theorem wM_RX4_19 : Cond.methodLink RX4 19 yJ0_length_8abf5 ∈ W0 := W0_t (i := 619) (by decide +kernel) (by decide +kernel)
theorem wI_yJ0_length_8abf5 : Cond.instanceMethod yJ0_length_8abf5 ∈ W0 := W0_t (i := 620) (by decide +kernel) (by decide +kernel)
theorem wE_yJ0_length_8abf5 : Cond.selects RJ0 yJ0_length_8abf5 yJ0_length_8abf5 ∈ W0 := W0_t (i := 621) (by decide +kernel) (by decide +kernel)
set_option maxRecDepth 100000 in
theorem wC_yJ0_length_8abf5 : Cond.code yJ0_length_8abf5 prog_13_method_54_code 1 (Option.some Jvm.ClassFile.FieldType.int) ∈ W0 := W0_t (i := 622) rfl rfl
theorem wM_RJ0_335 : Cond.methodLink RJ0 335 yJ0_coder_7d493 ∈ W0 := W0_t (i := 623) (by decide +kernel) (by decide +kernel)
theorem wI_yJ0_coder_7d493 : Cond.instanceMethod yJ0_coder_7d493 ∈ W0 := W0_t (i := 624) (by decide +kernel) (by decide +kernel)
theorem wE_yJ0_coder_7d493 : Cond.selects RJ0 yJ0_coder_7d493 yJ0_coder_7d493 ∈ W0 := W0_t (i := 625) (by decide +kernel) (by decide +kernel)
set_option maxRecDepth 100000 in
theorem wC_yJ0_coder_7d493 : Cond.code yJ0_coder_7d493 prog_13_method_152_code 1 (Option.some Jvm.ClassFile.FieldType.byte) ∈ W0 := W0_t (i := 626) rfl rfl
theorem wF_RJ0_38 : Cond.fieldLink RJ0 38 "java/lang/String" "COMPACT_STRINGS" "Z" ∈ W0 := W0_t (i := 627) (by decide +kernel) (by decide +kernel)
theorem wM_RX4_24 : Cond.methodLink RX4 24 yX4_at ∈ W0 := W0_t (i := 629) (by decide +kernel) (by decide +kernel)
theorem wM_RX4_28 : Cond.methodLink RX4 28 yJ0_charAt_5068e ∈ W0 := W0_t (i := 630) (by decide +kernel) (by decide +kernel)
theorem wI_yJ0_charAt_5068e : Cond.instanceMethod yJ0_charAt_5068e ∈ W0 := W0_t (i := 631) (by decide +kernel) (by decide +kernel)
theorem wE_yJ0_charAt_5068e : Cond.selects RJ0 yJ0_charAt_5068e yJ0_charAt_5068e ∈ W0 := W0_t (i := 632) (by decide +kernel) (by decide +kernel)
set_option maxRecDepth 100000 in
theorem wC_yJ0_charAt_5068e : Cond.code yJ0_charAt_5068e prog_13_method_56_code 2 (Option.some Jvm.ClassFile.FieldType.char) ∈ W0 := W0_t (i := 633) rfl rfl
theorem wM_RJ0_492 : Cond.methodLink RJ0 492 yJ0_isLatin1_aae02 ∈ W0 := W0_t (i := 634) (by decide +kernel) (by decide +kernel)
theorem wI_yJ0_isLatin1_aae02 : Cond.instanceMethod yJ0_isLatin1_aae02 ∈ W0 := W0_t (i := 635) (by decide +kernel) (by decide +kernel)
theorem wE_yJ0_isLatin1_aae02 : Cond.selects RJ0 yJ0_isLatin1_aae02 yJ0_isLatin1_aae02 ∈ W0 := W0_t (i := 636) (by decide +kernel) (by decide +kernel)
set_option maxRecDepth 100000 in
theorem wC_yJ0_isLatin1_aae02 : Cond.code yJ0_isLatin1_aae02 prog_13_method_154_code 1 (Option.some Jvm.ClassFile.FieldType.boolean) ∈ W0 := W0_t (i := 637) rfl rfl
theorem wM_RJ0_495 : Cond.methodLink RJ0 495 yJ1_charAt_3b067 ∈ W0 := W0_t (i := 638) (by decide +kernel) (by decide +kernel)
theorem wS_yJ1_charAt_3b067 : Cond.static yJ1_charAt_3b067 ∈ W0 := W0_t (i := 639) (by decide +kernel) (by decide +kernel)
set_option maxRecDepth 100000 in
theorem wC_yJ1_charAt_3b067 : Cond.code yJ1_charAt_3b067 prog_14_method_2_code 2 (Option.some Jvm.ClassFile.FieldType.char) ∈ W0 := W0_t (i := 640) rfl rfl
theorem wM_RJ1_9 : Cond.methodLink RJ1 9 yJ0_checkIndex_df160 ∈ W0 := W0_t (i := 641) (by decide +kernel) (by decide +kernel)
theorem wS_yJ0_checkIndex_df160 : Cond.static yJ0_checkIndex_df160 ∈ W0 := W0_t (i := 642) (by decide +kernel) (by decide +kernel)
set_option maxRecDepth 100000 in
theorem wC_yJ0_checkIndex_df160 : Cond.code yJ0_checkIndex_df160 prog_13_method_155_code 2 (Option.none : Option Jvm.ClassFile.FieldType) ∈ W0 := W0_t (i := 643) rfl rfl
theorem wF_RJ0_1053 : Cond.fieldLink RJ0 1053 "jdk/internal/util/Preconditions" "SIOOBE_FORMATTER" "Ljava/util/function/BiFunction;" ∈ W0 := W0_t (i := 644) (by decide +kernel) (by decide +kernel)
theorem wM_RJ0_1059 : Cond.methodLink RJ0 1059 yJ3_checkIndex_8e157 ∈ W0 := W0_t (i := 646) (by decide +kernel) (by decide +kernel)
theorem wS_yJ3_checkIndex_8e157 : Cond.static yJ3_checkIndex_8e157 ∈ W0 := W0_t (i := 647) (by decide +kernel) (by decide +kernel)
set_option maxRecDepth 100000 in
theorem wC_yJ3_checkIndex_8e157 : Cond.code yJ3_checkIndex_8e157 prog_17_method_11_code 3 (Option.some Jvm.ClassFile.FieldType.int) ∈ W0 := W0_t (i := 648) rfl rfl
theorem wM_RJ0_498 : Cond.methodLink RJ0 498 yJ2_charAt_3b067 ∈ W0 := W0_t (i := 649) (by decide +kernel) (by decide +kernel)
theorem wS_yJ2_charAt_3b067 : Cond.static yJ2_charAt_3b067 ∈ W0 := W0_t (i := 650) (by decide +kernel) (by decide +kernel)
set_option maxRecDepth 100000 in
theorem wC_yJ2_charAt_3b067 : Cond.code yJ2_charAt_3b067 prog_15_method_83_code 2 (Option.some Jvm.ClassFile.FieldType.char) ∈ W0 := W0_t (i := 651) rfl rfl
theorem wM_RJ2_67 : Cond.methodLink RJ2 67 yJ2_checkIndex_2214a ∈ W0 := W0_t (i := 652) (by decide +kernel) (by decide +kernel)
theorem wS_yJ2_checkIndex_2214a : Cond.static yJ2_checkIndex_2214a ∈ W0 := W0_t (i := 653) (by decide +kernel) (by decide +kernel)
set_option maxRecDepth 100000 in
theorem wC_yJ2_checkIndex_2214a : Cond.code yJ2_checkIndex_2214a prog_15_method_91_code 2 (Option.none : Option Jvm.ClassFile.FieldType) ∈ W0 := W0_t (i := 654) rfl rfl
theorem wM_RJ2_48 : Cond.methodLink RJ2 48 yJ2_length_9d52b ∈ W0 := W0_t (i := 655) (by decide +kernel) (by decide +kernel)
theorem wS_yJ2_length_9d52b : Cond.static yJ2_length_9d52b ∈ W0 := W0_t (i := 656) (by decide +kernel) (by decide +kernel)
set_option maxRecDepth 100000 in
theorem wC_yJ2_length_9d52b : Cond.code yJ2_length_9d52b prog_15_method_6_code 1 (Option.some Jvm.ClassFile.FieldType.int) ∈ W0 := W0_t (i := 657) rfl rfl
theorem wM_RJ2_414 : Cond.methodLink RJ2 414 yJ0_checkIndex_df160 ∈ W0 := W0_t (i := 658) (by decide +kernel) (by decide +kernel)
theorem wM_RJ2_71 : Cond.methodLink RJ2 71 yJ2_getChar_3b067 ∈ W0 := W0_t (i := 659) (by decide +kernel) (by decide +kernel)
theorem wS_yJ2_getChar_3b067 : Cond.static yJ2_getChar_3b067 ∈ W0 := W0_t (i := 660) (by decide +kernel) (by decide +kernel)
set_option maxRecDepth 100000 in
theorem wC_yJ2_getChar_3b067 : Cond.code yJ2_getChar_3b067 prog_15_method_5_code 2 (Option.some Jvm.ClassFile.FieldType.char) ∈ W0 := W0_t (i := 661) rfl rfl
theorem wF_RJ2_44 : Cond.fieldLink RJ2 44 "java/lang/StringUTF16" "$assertionsDisabled" "Z" ∈ W0 := W0_t (i := 662) (by decide +kernel) (by decide +kernel)
theorem wF_RJ2_59 : Cond.fieldLink RJ2 59 "java/lang/StringUTF16" "HI_BYTE_SHIFT" "I" ∈ W0 := W0_t (i := 664) (by decide +kernel) (by decide +kernel)
theorem wF_RJ2_63 : Cond.fieldLink RJ2 63 "java/lang/StringUTF16" "LO_BYTE_SHIFT" "I" ∈ W0 := W0_t (i := 666) (by decide +kernel) (by decide +kernel)
theorem wM_RX6_44 : Cond.methodLink RX6 44 yX6_isDigit ∈ W0 := W0_t (i := 668) (by decide +kernel) (by decide +kernel)
theorem wS_yX6_isDigit : Cond.static yX6_isDigit ∈ W0 := W0_t (i := 669) (by decide +kernel) (by decide +kernel)
set_option maxRecDepth 100000 in
theorem wC_yX6_isDigit : Cond.code yX6_isDigit prog_8_method_10_code 1 (Option.some Jvm.ClassFile.FieldType.boolean) ∈ W0 := W0_t (i := 670) rfl rfl
theorem wM_RX6_47 : Cond.methodLink RX6 47 yJ9_min_7cf53 ∈ W0 := W0_t (i := 671) (by decide +kernel) (by decide +kernel)
theorem wM_RX5_26 : Cond.methodLink RX5 26 yX5_readItem ∈ W0 := W0_t (i := 672) (by decide +kernel) (by decide +kernel)
theorem wI_yX5_readItem : Cond.instanceMethod yX5_readItem ∈ W0 := W0_t (i := 674) (by decide +kernel) (by decide +kernel)
set_option maxRecDepth 100000 in
theorem wC_yX5_readItem : Cond.code yX5_readItem prog_7_method_3_code 2 (Option.none : Option Jvm.ClassFile.FieldType) ∈ W0 := W0_t (i := 675) rfl rfl
theorem wM_RX5_44 : Cond.methodLink RX5 44 yX5_hasKind ∈ W0 := W0_t (i := 676) (by decide +kernel) (by decide +kernel)
theorem wI_yX5_hasKind : Cond.instanceMethod yX5_hasKind ∈ W0 := W0_t (i := 678) (by decide +kernel) (by decide +kernel)
set_option maxRecDepth 100000 in
theorem wC_yX5_hasKind : Cond.code yX5_hasKind prog_7_method_9_code 1 (Option.some Jvm.ClassFile.FieldType.boolean) ∈ W0 := W0_t (i := 679) rfl rfl
theorem wM_RX5_37 : Cond.methodLink RX5 37 yX6_isSort ∈ W0 := W0_t (i := 680) (by decide +kernel) (by decide +kernel)
theorem wI_yX6_isSort : Cond.instanceMethod yX6_isSort ∈ W0 := W0_t (i := 681) (by decide +kernel) (by decide +kernel)
theorem wE_yX6_isSort : Cond.selects RX6 yX6_isSort yX6_isSort ∈ W0 := W0_t (i := 682) (by decide +kernel) (by decide +kernel)
set_option maxRecDepth 100000 in
theorem wC_yX6_isSort : Cond.code yX6_isSort prog_8_method_5_code 2 (Option.some Jvm.ClassFile.FieldType.boolean) ∈ W0 := W0_t (i := 683) rfl rfl
theorem wM_RX5_64 : Cond.methodLink RX5 64 yX6_value ∈ W0 := W0_t (i := 684) (by decide +kernel) (by decide +kernel)
theorem wI_yX6_value : Cond.instanceMethod yX6_value ∈ W0 := W0_t (i := 685) (by decide +kernel) (by decide +kernel)
theorem wE_yX6_value : Cond.selects RX6 yX6_value yX6_value ∈ W0 := W0_t (i := 686) (by decide +kernel) (by decide +kernel)
set_option maxRecDepth 100000 in
theorem wC_yX6_value : Cond.code yX6_value prog_8_method_4_code 1 (Option.some Jvm.ClassFile.FieldType.int) ∈ W0 := W0_t (i := 687) rfl rfl
theorem wM_RX5_47 : Cond.methodLink RX5 47 yX5_readThing ∈ W0 := W0_t (i := 688) (by decide +kernel) (by decide +kernel)
theorem wI_yX5_readThing : Cond.instanceMethod yX5_readThing ∈ W0 := W0_t (i := 690) (by decide +kernel) (by decide +kernel)
set_option maxRecDepth 100000 in
theorem wC_yX5_readThing : Cond.code yX5_readThing prog_7_method_4_code 5 (Option.none : Option Jvm.ClassFile.FieldType) ∈ W0 := W0_t (i := 691) rfl rfl
theorem wM_RX5_61 : Cond.methodLink RX5 61 yX1_isFull ∈ W0 := W0_t (i := 692) (by decide +kernel) (by decide +kernel)
theorem wM_RX5_41 : Cond.methodLink RX5 41 yX5_fail ∈ W0 := W0_t (i := 693) (by decide +kernel) (by decide +kernel)
theorem wI_yX5_fail : Cond.instanceMethod yX5_fail ∈ W0 := W0_t (i := 695) (by decide +kernel) (by decide +kernel)
set_option maxRecDepth 100000 in
theorem wC_yX5_fail : Cond.code yX5_fail prog_7_method_12_code 1 (Option.none : Option Jvm.ClassFile.FieldType) ∈ W0 := W0_t (i := 696) rfl rfl
theorem wM_RX5_102 : Cond.methodLink RX5 102 yX6_begin ∈ W0 := W0_t (i := 697) (by decide +kernel) (by decide +kernel)
theorem wI_yX6_begin : Cond.instanceMethod yX6_begin ∈ W0 := W0_t (i := 698) (by decide +kernel) (by decide +kernel)
theorem wE_yX6_begin : Cond.selects RX6 yX6_begin yX6_begin ∈ W0 := W0_t (i := 699) (by decide +kernel) (by decide +kernel)
set_option maxRecDepth 100000 in
theorem wC_yX6_begin : Cond.code yX6_begin prog_8_method_3_code 1 (Option.some Jvm.ClassFile.FieldType.int) ∈ W0 := W0_t (i := 700) rfl rfl
theorem wM_RX5_34 : Cond.methodLink RX5 34 yX6_advance ∈ W0 := W0_t (i := 701) (by decide +kernel) (by decide +kernel)
theorem wI_yX6_advance : Cond.instanceMethod yX6_advance ∈ W0 := W0_t (i := 702) (by decide +kernel) (by decide +kernel)
theorem wE_yX6_advance : Cond.selects RX6 yX6_advance yX6_advance ∈ W0 := W0_t (i := 703) (by decide +kernel) (by decide +kernel)
set_option maxRecDepth 100000 in
theorem wC_yX6_advance : Cond.code yX6_advance prog_8_method_7_code 1 (Option.none : Option Jvm.ClassFile.FieldType) ∈ W0 := W0_t (i := 704) rfl rfl
theorem wM_RX5_50 : Cond.methodLink RX5 50 yX5_hasWord ∈ W0 := W0_t (i := 705) (by decide +kernel) (by decide +kernel)
theorem wI_yX5_hasWord : Cond.instanceMethod yX5_hasWord ∈ W0 := W0_t (i := 707) (by decide +kernel) (by decide +kernel)
set_option maxRecDepth 100000 in
theorem wC_yX5_hasWord : Cond.code yX5_hasWord prog_7_method_8_code 2 (Option.some Jvm.ClassFile.FieldType.boolean) ∈ W0 := W0_t (i := 708) rfl rfl
theorem wM_RX5_99 : Cond.methodLink RX5 99 yX6_isWord ∈ W0 := W0_t (i := 709) (by decide +kernel) (by decide +kernel)
theorem wI_yX6_isWord : Cond.instanceMethod yX6_isWord ∈ W0 := W0_t (i := 710) (by decide +kernel) (by decide +kernel)
theorem wE_yX6_isWord : Cond.selects RX6 yX6_isWord yX6_isWord ∈ W0 := W0_t (i := 711) (by decide +kernel) (by decide +kernel)
set_option maxRecDepth 100000 in
theorem wC_yX6_isWord : Cond.code yX6_isWord prog_8_method_6_code 2 (Option.some Jvm.ClassFile.FieldType.boolean) ∈ W0 := W0_t (i := 712) rfl rfl
theorem wM_RX5_75 : Cond.methodLink RX5 75 yX5_readNumber ∈ W0 := W0_t (i := 715) (by decide +kernel) (by decide +kernel)
theorem wI_yX5_readNumber : Cond.instanceMethod yX5_readNumber ∈ W0 := W0_t (i := 717) (by decide +kernel) (by decide +kernel)
set_option maxRecDepth 100000 in
theorem wC_yX5_readNumber : Cond.code yX5_readNumber prog_7_method_7_code 5 (Option.some Jvm.ClassFile.FieldType.int) ∈ W0 := W0_t (i := 718) rfl rfl
theorem wM_RX5_96 : Cond.methodLink RX5 96 yX5_hasNumber ∈ W0 := W0_t (i := 719) (by decide +kernel) (by decide +kernel)
theorem wI_yX5_hasNumber : Cond.instanceMethod yX5_hasNumber ∈ W0 := W0_t (i := 721) (by decide +kernel) (by decide +kernel)
set_option maxRecDepth 100000 in
theorem wC_yX5_hasNumber : Cond.code yX5_hasNumber prog_7_method_10_code 1 (Option.some Jvm.ClassFile.FieldType.boolean) ∈ W0 := W0_t (i := 722) rfl rfl
theorem wM_RX5_79 : Cond.methodLink RX5 79 yX1_add ∈ W0 := W0_t (i := 723) (by decide +kernel) (by decide +kernel)
theorem wM_RX5_53 : Cond.methodLink RX5 53 yX5_readPond ∈ W0 := W0_t (i := 724) (by decide +kernel) (by decide +kernel)
theorem wI_yX5_readPond : Cond.instanceMethod yX5_readPond ∈ W0 := W0_t (i := 726) (by decide +kernel) (by decide +kernel)
set_option maxRecDepth 100000 in
theorem wC_yX5_readPond : Cond.code yX5_readPond prog_7_method_5_code 4 (Option.none : Option Jvm.ClassFile.FieldType) ∈ W0 := W0_t (i := 727) rfl rfl
theorem wM_RX5_86 : Cond.methodLink RX5 86 yX5_readTrait ∈ W0 := W0_t (i := 728) (by decide +kernel) (by decide +kernel)
theorem wI_yX5_readTrait : Cond.instanceMethod yX5_readTrait ∈ W0 := W0_t (i := 730) (by decide +kernel) (by decide +kernel)
set_option maxRecDepth 100000 in
theorem wC_yX5_readTrait : Cond.code yX5_readTrait prog_7_method_6_code 3 (Option.some Jvm.ClassFile.FieldType.int) ∈ W0 := W0_t (i := 731) rfl rfl
theorem wM_RX5_30 : Cond.methodLink RX5 30 yX5_hasSign ∈ W0 := W0_t (i := 734) (by decide +kernel) (by decide +kernel)
theorem wI_yX5_hasSign : Cond.instanceMethod yX5_hasSign ∈ W0 := W0_t (i := 736) (by decide +kernel) (by decide +kernel)
set_option maxRecDepth 100000 in
theorem wC_yX5_hasSign : Cond.code yX5_hasSign prog_7_method_11_code 1 (Option.some Jvm.ClassFile.FieldType.boolean) ∈ W0 := W0_t (i := 737) rfl rfl
theorem wM_RL_154 : Cond.methodLink RL 154 yX7_hold ∈ W0 := W0_t (i := 739) (by decide +kernel) (by decide +kernel)
theorem wI_yX7_hold : Cond.instanceMethod yX7_hold ∈ W0 := W0_t (i := 740) (by decide +kernel) (by decide +kernel)
theorem wE_yX7_hold : Cond.selects RX7 yX7_hold yX7_hold ∈ W0 := W0_t (i := 741) (by decide +kernel) (by decide +kernel)
set_option maxRecDepth 100000 in
theorem wC_yX7_hold : Cond.code yX7_hold prog_1_method_36_code 3 (Option.some Jvm.ClassFile.FieldType.int) ∈ W0 := W0_t (i := 742) rfl rfl
theorem wM_RX7_243 : Cond.methodLink RX7 243 yX7_isSpot ∈ W0 := W0_t (i := 743) (by decide +kernel) (by decide +kernel)
theorem wS_yX7_isSpot : Cond.static yX7_isSpot ∈ W0 := W0_t (i := 744) (by decide +kernel) (by decide +kernel)
set_option maxRecDepth 100000 in
theorem wC_yX7_isSpot : Cond.code yX7_isSpot prog_1_method_55_code 1 (Option.some Jvm.ClassFile.FieldType.boolean) ∈ W0 := W0_t (i := 745) rfl rfl
theorem wM_RL_158 : Cond.methodLink RL 158 yX7_as ∈ W0 := W0_t (i := 746) (by decide +kernel) (by decide +kernel)
theorem wI_yX7_as : Cond.instanceMethod yX7_as ∈ W0 := W0_t (i := 747) (by decide +kernel) (by decide +kernel)
theorem wE_yX7_as : Cond.selects RX7 yX7_as yX7_as ∈ W0 := W0_t (i := 748) (by decide +kernel) (by decide +kernel)
set_option maxRecDepth 100000 in
theorem wC_yX7_as : Cond.code yX7_as prog_1_method_37_code 4 (Option.some Jvm.ClassFile.FieldType.int) ∈ W0 := W0_t (i := 749) rfl rfl
theorem wM_RX7_250 : Cond.methodLink RX7 250 yX1_isOfKind ∈ W0 := W0_t (i := 750) (by decide +kernel) (by decide +kernel)
theorem wI_yX1_isOfKind : Cond.instanceMethod yX1_isOfKind ∈ W0 := W0_t (i := 751) (by decide +kernel) (by decide +kernel)
theorem wE_yX1_isOfKind : Cond.selects RX1 yX1_isOfKind yX1_isOfKind ∈ W0 := W0_t (i := 752) (by decide +kernel) (by decide +kernel)
set_option maxRecDepth 100000 in
theorem wC_yX1_isOfKind : Cond.code yX1_isOfKind prog_3_method_6_code 3 (Option.some Jvm.ClassFile.FieldType.boolean) ∈ W0 := W0_t (i := 753) rfl rfl
theorem wK_RX7_253 : Cond.constant RX7 253 (-1000003) ∈ W0 := W0_t (i := 754) (by decide +kernel) (by decide +kernel)
theorem wM_RL_162 : Cond.methodLink RL 162 yX7_sheet ∈ W0 := W0_t (i := 755) (by decide +kernel) (by decide +kernel)
theorem wI_yX7_sheet : Cond.instanceMethod yX7_sheet ∈ W0 := W0_t (i := 756) (by decide +kernel) (by decide +kernel)
theorem wE_yX7_sheet : Cond.selects RX7 yX7_sheet yX7_sheet ∈ W0 := W0_t (i := 757) (by decide +kernel) (by decide +kernel)
set_option maxRecDepth 100000 in
theorem wC_yX7_sheet : Cond.code yX7_sheet prog_1_method_38_code 4 (Option.some Jvm.ClassFile.FieldType.int) ∈ W0 := W0_t (i := 758) rfl rfl
theorem wM_RX7_257 : Cond.methodLink RX7 257 yX7_isBits ∈ W0 := W0_t (i := 759) (by decide +kernel) (by decide +kernel)
theorem wS_yX7_isBits : Cond.static yX7_isBits ∈ W0 := W0_t (i := 760) (by decide +kernel) (by decide +kernel)
set_option maxRecDepth 100000 in
theorem wC_yX7_isBits : Cond.code yX7_isBits prog_1_method_57_code 1 (Option.some Jvm.ClassFile.FieldType.boolean) ∈ W0 := W0_t (i := 761) rfl rfl
theorem wK_RX7_260 : Cond.constant RX7 260 (-1000007) ∈ W0 := W0_t (i := 762) (by decide +kernel) (by decide +kernel)
theorem wM_RX7_261 : Cond.methodLink RX7 261 yX3_clear ∈ W0 := W0_t (i := 763) (by decide +kernel) (by decide +kernel)
theorem wI_yX3_clear : Cond.instanceMethod yX3_clear ∈ W0 := W0_t (i := 764) (by decide +kernel) (by decide +kernel)
theorem wE_yX3_clear : Cond.selects RX3 yX3_clear yX3_clear ∈ W0 := W0_t (i := 765) (by decide +kernel) (by decide +kernel)
set_option maxRecDepth 100000 in
theorem wC_yX3_clear : Cond.code yX3_clear prog_5_method_3_code 4 (Option.none : Option Jvm.ClassFile.FieldType) ∈ W0 := W0_t (i := 766) rfl rfl
theorem wM_RL_166 : Cond.methodLink RL 166 yX7_write ∈ W0 := W0_t (i := 767) (by decide +kernel) (by decide +kernel)
theorem wI_yX7_write : Cond.instanceMethod yX7_write ∈ W0 := W0_t (i := 768) (by decide +kernel) (by decide +kernel)
theorem wE_yX7_write : Cond.selects RX7 yX7_write yX7_write ∈ W0 := W0_t (i := 769) (by decide +kernel) (by decide +kernel)
set_option maxRecDepth 100000 in
theorem wC_yX7_write : Cond.code yX7_write prog_1_method_39_code 5 (Option.some Jvm.ClassFile.FieldType.int) ∈ W0 := W0_t (i := 770) rfl rfl
theorem wM_RX7_266 : Cond.methodLink RX7 266 yX3_put ∈ W0 := W0_t (i := 771) (by decide +kernel) (by decide +kernel)
theorem wI_yX3_put : Cond.instanceMethod yX3_put ∈ W0 := W0_t (i := 772) (by decide +kernel) (by decide +kernel)
theorem wE_yX3_put : Cond.selects RX3 yX3_put yX3_put ∈ W0 := W0_t (i := 773) (by decide +kernel) (by decide +kernel)
set_option maxRecDepth 100000 in
theorem wC_yX3_put : Cond.code yX3_put prog_5_method_4_code 3 (Option.none : Option Jvm.ClassFile.FieldType) ∈ W0 := W0_t (i := 774) rfl rfl
theorem wM_RL_170 : Cond.methodLink RL 170 yX7_copy ∈ W0 := W0_t (i := 775) (by decide +kernel) (by decide +kernel)
theorem wI_yX7_copy : Cond.instanceMethod yX7_copy ∈ W0 := W0_t (i := 776) (by decide +kernel) (by decide +kernel)
theorem wE_yX7_copy : Cond.selects RX7 yX7_copy yX7_copy ∈ W0 := W0_t (i := 777) (by decide +kernel) (by decide +kernel)
set_option maxRecDepth 100000 in
theorem wC_yX7_copy : Cond.code yX7_copy prog_1_method_40_code 8 (Option.some Jvm.ClassFile.FieldType.int) ∈ W0 := W0_t (i := 778) rfl rfl
theorem wM_RX7_275 : Cond.methodLink RX7 275 yX3_reaches ∈ W0 := W0_t (i := 779) (by decide +kernel) (by decide +kernel)
theorem wI_yX3_reaches : Cond.instanceMethod yX3_reaches ∈ W0 := W0_t (i := 780) (by decide +kernel) (by decide +kernel)
theorem wE_yX3_reaches : Cond.selects RX3 yX3_reaches yX3_reaches ∈ W0 := W0_t (i := 781) (by decide +kernel) (by decide +kernel)
set_option maxRecDepth 100000 in
theorem wC_yX3_reaches : Cond.code yX3_reaches prog_5_method_5_code 3 (Option.some Jvm.ClassFile.FieldType.boolean) ∈ W0 := W0_t (i := 782) rfl rfl
theorem wM_RX7_281 : Cond.methodLink RX7 281 (⟨"java/lang/System", "arraycopy", "(Ljava/lang/Object;ILjava/lang/Object;II)V"⟩ : MethodName) ∈ W0 := W0_t (i := 783) (by decide +kernel) (by decide +kernel)
theorem wM_RL_175 : Cond.methodLink RL 175 yX7_load ∈ W0 := W0_t (i := 784) (by decide +kernel) (by decide +kernel)
theorem wI_yX7_load : Cond.instanceMethod yX7_load ∈ W0 := W0_t (i := 785) (by decide +kernel) (by decide +kernel)
theorem wE_yX7_load : Cond.selects RX7 yX7_load yX7_load ∈ W0 := W0_t (i := 786) (by decide +kernel) (by decide +kernel)
set_option maxRecDepth 100000 in
theorem wC_yX7_load : Cond.code yX7_load prog_1_method_41_code 5 (Option.some Jvm.ClassFile.FieldType.int) ∈ W0 := W0_t (i := 787) rfl rfl
theorem wM_RX7_287 : Cond.methodLink RX7 287 yX7_fitsDepth ∈ W0 := W0_t (i := 788) (by decide +kernel) (by decide +kernel)
theorem wS_yX7_fitsDepth : Cond.static yX7_fitsDepth ∈ W0 := W0_t (i := 789) (by decide +kernel) (by decide +kernel)
set_option maxRecDepth 100000 in
theorem wC_yX7_fitsDepth : Cond.code yX7_fitsDepth prog_1_method_61_code 2 (Option.some Jvm.ClassFile.FieldType.boolean) ∈ W0 := W0_t (i := 790) rfl rfl
theorem wM_RL_179 : Cond.methodLink RL 179 yX7_judge ∈ W0 := W0_t (i := 791) (by decide +kernel) (by decide +kernel)
theorem wI_yX7_judge : Cond.instanceMethod yX7_judge ∈ W0 := W0_t (i := 792) (by decide +kernel) (by decide +kernel)
theorem wE_yX7_judge : Cond.selects RX7 yX7_judge yX7_judge ∈ W0 := W0_t (i := 793) (by decide +kernel) (by decide +kernel)
set_option maxRecDepth 100000 in
theorem wC_yX7_judge : Cond.code yX7_judge prog_1_method_42_code 6 (Option.some Jvm.ClassFile.FieldType.int) ∈ W0 := W0_t (i := 794) rfl rfl
theorem wM_RL_183 : Cond.methodLink RL 183 yX7_image ∈ W0 := W0_t (i := 795) (by decide +kernel) (by decide +kernel)
theorem wI_yX7_image : Cond.instanceMethod yX7_image ∈ W0 := W0_t (i := 796) (by decide +kernel) (by decide +kernel)
theorem wE_yX7_image : Cond.selects RX7 yX7_image yX7_image ∈ W0 := W0_t (i := 797) (by decide +kernel) (by decide +kernel)
set_option maxRecDepth 100000 in
theorem wC_yX7_image : Cond.code yX7_image prog_1_method_43_code 1 (Option.some Jvm.ClassFile.FieldType.int) ∈ W0 := W0_t (i := 798) rfl rfl
theorem wM_RL_187 : Cond.methodLink RL 187 yX7_undo ∈ W0 := W0_t (i := 799) (by decide +kernel) (by decide +kernel)
theorem wI_yX7_undo : Cond.instanceMethod yX7_undo ∈ W0 := W0_t (i := 800) (by decide +kernel) (by decide +kernel)
theorem wE_yX7_undo : Cond.selects RX7 yX7_undo yX7_undo ∈ W0 := W0_t (i := 801) (by decide +kernel) (by decide +kernel)
set_option maxRecDepth 100000 in
theorem wC_yX7_undo : Cond.code yX7_undo prog_1_method_44_code 1 (Option.some Jvm.ClassFile.FieldType.int) ∈ W0 := W0_t (i := 802) rfl rfl
theorem wM_RL_191 : Cond.methodLink RL 191 yX7_tear ∈ W0 := W0_t (i := 803) (by decide +kernel) (by decide +kernel)
theorem wI_yX7_tear : Cond.instanceMethod yX7_tear ∈ W0 := W0_t (i := 804) (by decide +kernel) (by decide +kernel)
theorem wE_yX7_tear : Cond.selects RX7 yX7_tear yX7_tear ∈ W0 := W0_t (i := 805) (by decide +kernel) (by decide +kernel)
set_option maxRecDepth 100000 in
theorem wC_yX7_tear : Cond.code yX7_tear prog_1_method_45_code 2 (Option.some Jvm.ClassFile.FieldType.int) ∈ W0 := W0_t (i := 806) rfl rfl
theorem wM_RL_195 : Cond.methodLink RL 195 yX7_count ∈ W0 := W0_t (i := 807) (by decide +kernel) (by decide +kernel)
theorem wI_yX7_count : Cond.instanceMethod yX7_count ∈ W0 := W0_t (i := 808) (by decide +kernel) (by decide +kernel)
theorem wE_yX7_count : Cond.selects RX7 yX7_count yX7_count ∈ W0 := W0_t (i := 809) (by decide +kernel) (by decide +kernel)
set_option maxRecDepth 100000 in
theorem wC_yX7_count : Cond.code yX7_count prog_1_method_46_code 2 (Option.some Jvm.ClassFile.FieldType.int) ∈ W0 := W0_t (i := 810) rfl rfl
theorem wM_RX7_291 : Cond.methodLink RX7 291 yX1_spotsInUse ∈ W0 := W0_t (i := 811) (by decide +kernel) (by decide +kernel)
theorem wI_yX1_spotsInUse : Cond.instanceMethod yX1_spotsInUse ∈ W0 := W0_t (i := 812) (by decide +kernel) (by decide +kernel)
theorem wE_yX1_spotsInUse : Cond.selects RX1 yX1_spotsInUse yX1_spotsInUse ∈ W0 := W0_t (i := 813) (by decide +kernel) (by decide +kernel)
set_option maxRecDepth 100000 in
theorem wC_yX1_spotsInUse : Cond.code yX1_spotsInUse prog_3_method_13_code 6 (Option.some Jvm.ClassFile.FieldType.int) ∈ W0 := W0_t (i := 814) rfl rfl
theorem wM_RL_199 : Cond.methodLink RL 199 yX7_status ∈ W0 := W0_t (i := 815) (by decide +kernel) (by decide +kernel)
theorem wI_yX7_status : Cond.instanceMethod yX7_status ∈ W0 := W0_t (i := 816) (by decide +kernel) (by decide +kernel)
theorem wE_yX7_status : Cond.selects RX7 yX7_status yX7_status ∈ W0 := W0_t (i := 817) (by decide +kernel) (by decide +kernel)
set_option maxRecDepth 100000 in
theorem wC_yX7_status : Cond.code yX7_status prog_1_method_47_code 7 (Option.some Jvm.ClassFile.FieldType.int) ∈ W0 := W0_t (i := 818) rfl rfl
theorem wL_RL_10 : Cond.classLink RL 10 RX8 ∈ W0 := W0_t (i := 819) (by decide +kernel) (by decide +kernel)
theorem wT_RX8 : Cond.instantiable RX8 24 ∈ W0 := W0_t (i := 820) (by decide +kernel) (by decide +kernel)
theorem wM_RL_12 : Cond.methodLink RL 12 yX8_init ∈ W0 := W0_t (i := 821) (by decide +kernel) (by decide +kernel)
theorem wI_yX8_init : Cond.instanceMethod yX8_init ∈ W0 := W0_t (i := 822) (by decide +kernel) (by decide +kernel)
set_option maxRecDepth 100000 in
theorem wC_yX8_init : Cond.code yX8_init prog_10_method_1_code 2 (Option.none : Option Jvm.ClassFile.FieldType) ∈ W0 := W0_t (i := 823) rfl rfl
theorem wM_RX8_1 : Cond.methodLink RX8 1 (⟨"java/lang/Object", "<init>", "()V"⟩ : MethodName) ∈ W0 := W0_t (i := 824) (by decide +kernel) (by decide +kernel)
theorem wM_RX8_53 : Cond.methodLink RX8 53 yX8_lays1 ∈ W0 := W0_t (i := 825) (by decide +kernel) (by decide +kernel)
theorem wI_yX8_lays1 : Cond.instanceMethod yX8_lays1 ∈ W0 := W0_t (i := 827) (by decide +kernel) (by decide +kernel)
set_option maxRecDepth 100000 in
theorem wC_yX8_lays1 : Cond.code yX8_lays1 prog_10_method_9_code 4 (Option.none : Option Jvm.ClassFile.FieldType) ∈ W0 := W0_t (i := 828) rfl rfl
theorem wF_RX8_9 : Cond.fieldLink RX8 9 "PondLensesModel" "s" "[I" ∈ W0 := W0_t (i := 829) (by decide +kernel) (by decide +kernel)
theorem wF_RX8_13 : Cond.fieldLink RX8 13 "PondLensesModel" "kept" "[I" ∈ W0 := W0_t (i := 830) (by decide +kernel) (by decide +kernel)
theorem wF_RX8_16 : Cond.fieldLink RX8 16 "PondLensesModel" "aside" "[I" ∈ W0 := W0_t (i := 831) (by decide +kernel) (by decide +kernel)
theorem wF_RX8_263 : Cond.fieldLink RX8 263 "PondLensesModel" "isKept" "Z" ∈ W0 := W0_t (i := 832) (by decide +kernel) (by decide +kernel)
theorem wF_RX8_19 : Cond.fieldLink RX8 19 "PondLensesModel" "found" "[I" ∈ W0 := W0_t (i := 833) (by decide +kernel) (by decide +kernel)
theorem wF_RX8_130 : Cond.fieldLink RX8 130 "PondLensesModel" "ends" "I" ∈ W0 := W0_t (i := 834) (by decide +kernel) (by decide +kernel)
theorem wF_RX8_134 : Cond.fieldLink RX8 134 "PondLensesModel" "size" "I" ∈ W0 := W0_t (i := 835) (by decide +kernel) (by decide +kernel)
theorem wF_RX8_137 : Cond.fieldLink RX8 137 "PondLensesModel" "turned" "I" ∈ W0 := W0_t (i := 836) (by decide +kernel) (by decide +kernel)
theorem wF_RX8_140 : Cond.fieldLink RX8 140 "PondLensesModel" "flipped" "I" ∈ W0 := W0_t (i := 837) (by decide +kernel) (by decide +kernel)
theorem wF_RX8_22 : Cond.fieldLink RX8 22 "PondLensesModel" "counts" "[I" ∈ W0 := W0_t (i := 838) (by decide +kernel) (by decide +kernel)
theorem wF_RX8_25 : Cond.fieldLink RX8 25 "PondLensesModel" "tape" "[I" ∈ W0 := W0_t (i := 839) (by decide +kernel) (by decide +kernel)
theorem wF_RX8_203 : Cond.fieldLink RX8 203 "PondLensesModel" "taped" "I" ∈ W0 := W0_t (i := 840) (by decide +kernel) (by decide +kernel)
theorem wF_RX8_216 : Cond.fieldLink RX8 216 "PondLensesModel" "token" "I" ∈ W0 := W0_t (i := 841) (by decide +kernel) (by decide +kernel)
theorem wF_RX8_209 : Cond.fieldLink RX8 209 "PondLensesModel" "begun" "I" ∈ W0 := W0_t (i := 842) (by decide +kernel) (by decide +kernel)
theorem wF_RX8_206 : Cond.fieldLink RX8 206 "PondLensesModel" "ended" "I" ∈ W0 := W0_t (i := 843) (by decide +kernel) (by decide +kernel)
theorem wF_RX8_212 : Cond.fieldLink RX8 212 "PondLensesModel" "value" "J" ∈ W0 := W0_t (i := 844) (by decide +kernel) (by decide +kernel)
theorem wF_RX8_28 : Cond.fieldLink RX8 28 "PondLensesModel" "letters" "[C" ∈ W0 := W0_t (i := 845) (by decide +kernel) (by decide +kernel)
theorem wF_RX8_32 : Cond.fieldLink RX8 32 "PondLensesModel" "more" "[C" ∈ W0 := W0_t (i := 846) (by decide +kernel) (by decide +kernel)
theorem wF_RX8_35 : Cond.fieldLink RX8 35 "PondLensesModel" "others" "[C" ∈ W0 := W0_t (i := 847) (by decide +kernel) (by decide +kernel)
theorem wF_RX8_38 : Cond.fieldLink RX8 38 "PondLensesModel" "about" "[C" ∈ W0 := W0_t (i := 848) (by decide +kernel) (by decide +kernel)
theorem wF_RX8_41 : Cond.fieldLink RX8 41 "PondLensesModel" "widths" "[I" ∈ W0 := W0_t (i := 849) (by decide +kernel) (by decide +kernel)
theorem wF_RX8_44 : Cond.fieldLink RX8 44 "PondLensesModel" "sizes" "[I" ∈ W0 := W0_t (i := 850) (by decide +kernel) (by decide +kernel)
theorem wF_RX8_47 : Cond.fieldLink RX8 47 "PondLensesModel" "cells" "[I" ∈ W0 := W0_t (i := 851) (by decide +kernel) (by decide +kernel)
theorem wF_RX8_50 : Cond.fieldLink RX8 50 "PondLensesModel" "carried" "[I" ∈ W0 := W0_t (i := 852) (by decide +kernel) (by decide +kernel)
theorem wY_RX8_s : Cond.laysFinal "PondLensesModel" "PondLensesModel" "s" "[I" ∈ W0 := W0_t (i := 853) (by decide +kernel) (by decide +kernel)
theorem wY_RX8_kept : Cond.laysFinal "PondLensesModel" "PondLensesModel" "kept" "[I" ∈ W0 := W0_t (i := 855) (by decide +kernel) (by decide +kernel)
theorem wY_RX8_aside : Cond.laysFinal "PondLensesModel" "PondLensesModel" "aside" "[I" ∈ W0 := W0_t (i := 857) (by decide +kernel) (by decide +kernel)
theorem wY_RX8_isKept : Cond.lays "PondLensesModel" "PondLensesModel" "isKept" "Z" ∈ W0 := W0_t (i := 859) (by decide +kernel) (by decide +kernel)
theorem wY_RX8_found : Cond.laysFinal "PondLensesModel" "PondLensesModel" "found" "[I" ∈ W0 := W0_t (i := 861) (by decide +kernel) (by decide +kernel)
theorem wY_RX8_ends : Cond.lays "PondLensesModel" "PondLensesModel" "ends" "I" ∈ W0 := W0_t (i := 863) (by decide +kernel) (by decide +kernel)
theorem wY_RX8_size : Cond.lays "PondLensesModel" "PondLensesModel" "size" "I" ∈ W0 := W0_t (i := 865) (by decide +kernel) (by decide +kernel)
theorem wY_RX8_turned : Cond.lays "PondLensesModel" "PondLensesModel" "turned" "I" ∈ W0 := W0_t (i := 867) (by decide +kernel) (by decide +kernel)
theorem wY_RX8_flipped : Cond.lays "PondLensesModel" "PondLensesModel" "flipped" "I" ∈ W0 := W0_t (i := 869) (by decide +kernel) (by decide +kernel)
theorem wY_RX8_counts : Cond.laysFinal "PondLensesModel" "PondLensesModel" "counts" "[I" ∈ W0 := W0_t (i := 871) (by decide +kernel) (by decide +kernel)
theorem wY_RX8_tape : Cond.laysFinal "PondLensesModel" "PondLensesModel" "tape" "[I" ∈ W0 := W0_t (i := 873) (by decide +kernel) (by decide +kernel)
theorem wY_RX8_taped : Cond.lays "PondLensesModel" "PondLensesModel" "taped" "I" ∈ W0 := W0_t (i := 875) (by decide +kernel) (by decide +kernel)
theorem wY_RX8_token : Cond.lays "PondLensesModel" "PondLensesModel" "token" "I" ∈ W0 := W0_t (i := 877) (by decide +kernel) (by decide +kernel)
theorem wY_RX8_begun : Cond.lays "PondLensesModel" "PondLensesModel" "begun" "I" ∈ W0 := W0_t (i := 879) (by decide +kernel) (by decide +kernel)
theorem wY_RX8_ended : Cond.lays "PondLensesModel" "PondLensesModel" "ended" "I" ∈ W0 := W0_t (i := 881) (by decide +kernel) (by decide +kernel)
theorem wY_RX8_value : Cond.lays "PondLensesModel" "PondLensesModel" "value" "J" ∈ W0 := W0_t (i := 883) (by decide +kernel) (by decide +kernel)
theorem wY_RX8_letters : Cond.laysFinal "PondLensesModel" "PondLensesModel" "letters" "[C" ∈ W0 := W0_t (i := 885) (by decide +kernel) (by decide +kernel)
theorem wY_RX8_more : Cond.laysFinal "PondLensesModel" "PondLensesModel" "more" "[C" ∈ W0 := W0_t (i := 887) (by decide +kernel) (by decide +kernel)
theorem wY_RX8_others : Cond.laysFinal "PondLensesModel" "PondLensesModel" "others" "[C" ∈ W0 := W0_t (i := 889) (by decide +kernel) (by decide +kernel)
theorem wY_RX8_about : Cond.laysFinal "PondLensesModel" "PondLensesModel" "about" "[C" ∈ W0 := W0_t (i := 891) (by decide +kernel) (by decide +kernel)
theorem wY_RX8_widths : Cond.laysFinal "PondLensesModel" "PondLensesModel" "widths" "[I" ∈ W0 := W0_t (i := 893) (by decide +kernel) (by decide +kernel)
theorem wY_RX8_sizes : Cond.laysFinal "PondLensesModel" "PondLensesModel" "sizes" "[I" ∈ W0 := W0_t (i := 895) (by decide +kernel) (by decide +kernel)
theorem wY_RX8_cells : Cond.laysFinal "PondLensesModel" "PondLensesModel" "cells" "[I" ∈ W0 := W0_t (i := 897) (by decide +kernel) (by decide +kernel)
theorem wY_RX8_carried : Cond.laysFinal "PondLensesModel" "PondLensesModel" "carried" "[I" ∈ W0 := W0_t (i := 899) (by decide +kernel) (by decide +kernel)
theorem wM_RL_17 : Cond.methodLink RL 17 yX8_pond ∈ W0 := W0_t (i := 903) (by decide +kernel) (by decide +kernel)
theorem wI_yX8_pond : Cond.instanceMethod yX8_pond ∈ W0 := W0_t (i := 904) (by decide +kernel) (by decide +kernel)
theorem wE_yX8_pond : Cond.selects RX8 yX8_pond yX8_pond ∈ W0 := W0_t (i := 905) (by decide +kernel) (by decide +kernel)
set_option maxRecDepth 100000 in
theorem wC_yX8_pond : Cond.code yX8_pond prog_10_method_25_code 3 (Option.some Jvm.ClassFile.FieldType.int) ∈ W0 := W0_t (i := 906) rfl rfl
theorem wM_RX8_102 : Cond.methodLink RX8 102 yX8_isPond ∈ W0 := W0_t (i := 907) (by decide +kernel) (by decide +kernel)
theorem wS_yX8_isPond : Cond.static yX8_isPond ∈ W0 := W0_t (i := 908) (by decide +kernel) (by decide +kernel)
set_option maxRecDepth 100000 in
theorem wC_yX8_isPond : Cond.code yX8_isPond prog_10_method_6_code 1 (Option.some Jvm.ClassFile.FieldType.boolean) ∈ W0 := W0_t (i := 909) rfl rfl
theorem wM_RX8_58 : Cond.methodLink RX8 58 yX8_in1 ∈ W0 := W0_t (i := 910) (by decide +kernel) (by decide +kernel)
theorem wS_yX8_in1 : Cond.static yX8_in1 ∈ W0 := W0_t (i := 911) (by decide +kernel) (by decide +kernel)
set_option maxRecDepth 100000 in
theorem wC_yX8_in1 : Cond.code yX8_in1 prog_10_method_3_code 3 (Option.some Jvm.ClassFile.FieldType.boolean) ∈ W0 := W0_t (i := 912) rfl rfl
theorem wM_RX8_106 : Cond.methodLink RX8 106 yX8_no ∈ W0 := W0_t (i := 913) (by decide +kernel) (by decide +kernel)
theorem wI_yX8_no : Cond.instanceMethod yX8_no ∈ W0 := W0_t (i := 915) (by decide +kernel) (by decide +kernel)
set_option maxRecDepth 100000 in
theorem wC_yX8_no : Cond.code yX8_no prog_10_method_2_code 2 (Option.some Jvm.ClassFile.FieldType.int) ∈ W0 := W0_t (i := 916) rfl rfl
theorem wK_RX8_57 : Cond.constant RX8 57 (-1000001) ∈ W0 := W0_t (i := 917) (by decide +kernel) (by decide +kernel)
theorem wM_RX8_66 : Cond.methodLink RX8 66 yX8_of1 ∈ W0 := W0_t (i := 918) (by decide +kernel) (by decide +kernel)
theorem wI_yX8_of1 : Cond.instanceMethod yX8_of1 ∈ W0 := W0_t (i := 920) (by decide +kernel) (by decide +kernel)
set_option maxRecDepth 100000 in
theorem wC_yX8_of1 : Cond.code yX8_of1 prog_10_method_8_code 3 (Option.some Jvm.ClassFile.FieldType.int) ∈ W0 := W0_t (i := 921) rfl rfl
theorem wM_RX8_69 : Cond.methodLink RX8 69 yX8_inside ∈ W0 := W0_t (i := 922) (by decide +kernel) (by decide +kernel)
theorem wI_yX8_inside : Cond.instanceMethod yX8_inside ∈ W0 := W0_t (i := 924) (by decide +kernel) (by decide +kernel)
set_option maxRecDepth 100000 in
theorem wC_yX8_inside : Cond.code yX8_inside prog_10_method_14_code 4 (Option.some Jvm.ClassFile.FieldType.int) ∈ W0 := W0_t (i := 925) rfl rfl
theorem wM_RX8_62 : Cond.methodLink RX8 62 yX8_get ∈ W0 := W0_t (i := 926) (by decide +kernel) (by decide +kernel)
theorem wI_yX8_get : Cond.instanceMethod yX8_get ∈ W0 := W0_t (i := 928) (by decide +kernel) (by decide +kernel)
set_option maxRecDepth 100000 in
theorem wC_yX8_get : Cond.code yX8_get prog_10_method_10_code 3 (Option.some Jvm.ClassFile.FieldType.int) ∈ W0 := W0_t (i := 929) rfl rfl
theorem wM_RX8_73 : Cond.methodLink RX8 73 yX8_seenIn ∈ W0 := W0_t (i := 930) (by decide +kernel) (by decide +kernel)
theorem wI_yX8_seenIn : Cond.instanceMethod yX8_seenIn ∈ W0 := W0_t (i := 932) (by decide +kernel) (by decide +kernel)
set_option maxRecDepth 100000 in
theorem wC_yX8_seenIn : Cond.code yX8_seenIn prog_10_method_15_code 2 (Option.some Jvm.ClassFile.FieldType.int) ∈ W0 := W0_t (i := 933) rfl rfl
theorem wM_RL_22 : Cond.methodLink RL 22 yX8_dig ∈ W0 := W0_t (i := 934) (by decide +kernel) (by decide +kernel)
theorem wI_yX8_dig : Cond.instanceMethod yX8_dig ∈ W0 := W0_t (i := 935) (by decide +kernel) (by decide +kernel)
theorem wE_yX8_dig : Cond.selects RX8 yX8_dig yX8_dig ∈ W0 := W0_t (i := 936) (by decide +kernel) (by decide +kernel)
set_option maxRecDepth 100000 in
theorem wC_yX8_dig : Cond.code yX8_dig prog_10_method_27_code 5 (Option.some Jvm.ClassFile.FieldType.int) ∈ W0 := W0_t (i := 937) rfl rfl
theorem wM_RX8_109 : Cond.methodLink RX8 109 yX8_isOfPond ∈ W0 := W0_t (i := 938) (by decide +kernel) (by decide +kernel)
theorem wS_yX8_isOfPond : Cond.static yX8_isOfPond ∈ W0 := W0_t (i := 939) (by decide +kernel) (by decide +kernel)
set_option maxRecDepth 100000 in
theorem wC_yX8_isOfPond : Cond.code yX8_isOfPond prog_10_method_26_code 4 (Option.some Jvm.ClassFile.FieldType.boolean) ∈ W0 := W0_t (i := 940) rfl rfl
theorem wM_RL_26 : Cond.methodLink RL 26 yX8_thing ∈ W0 := W0_t (i := 941) (by decide +kernel) (by decide +kernel)
theorem wI_yX8_thing : Cond.instanceMethod yX8_thing ∈ W0 := W0_t (i := 942) (by decide +kernel) (by decide +kernel)
theorem wE_yX8_thing : Cond.selects RX8 yX8_thing yX8_thing ∈ W0 := W0_t (i := 943) (by decide +kernel) (by decide +kernel)
set_option maxRecDepth 100000 in
theorem wC_yX8_thing : Cond.code yX8_thing prog_10_method_29_code 3 (Option.some Jvm.ClassFile.FieldType.int) ∈ W0 := W0_t (i := 944) rfl rfl
theorem wM_RX8_112 : Cond.methodLink RX8 112 yX8_addsThing ∈ W0 := W0_t (i := 945) (by decide +kernel) (by decide +kernel)
theorem wI_yX8_addsThing : Cond.instanceMethod yX8_addsThing ∈ W0 := W0_t (i := 947) (by decide +kernel) (by decide +kernel)
set_option maxRecDepth 100000 in
theorem wC_yX8_addsThing : Cond.code yX8_addsThing prog_10_method_28_code 4 (Option.none : Option Jvm.ClassFile.FieldType) ∈ W0 := W0_t (i := 948) rfl rfl
theorem wM_RX8_95 : Cond.methodLink RX8 95 yX8_puts ∈ W0 := W0_t (i := 949) (by decide +kernel) (by decide +kernel)
theorem wI_yX8_puts : Cond.instanceMethod yX8_puts ∈ W0 := W0_t (i := 951) (by decide +kernel) (by decide +kernel)
set_option maxRecDepth 100000 in
theorem wC_yX8_puts : Cond.code yX8_puts prog_10_method_11_code 4 (Option.none : Option Jvm.ClassFile.FieldType) ∈ W0 := W0_t (i := 952) rfl rfl
theorem wM_RL_30 : Cond.methodLink RL 30 yX8_of ∈ W0 := W0_t (i := 953) (by decide +kernel) (by decide +kernel)
theorem wI_yX8_of : Cond.instanceMethod yX8_of ∈ W0 := W0_t (i := 954) (by decide +kernel) (by decide +kernel)
theorem wE_yX8_of : Cond.selects RX8 yX8_of yX8_of ∈ W0 := W0_t (i := 955) (by decide +kernel) (by decide +kernel)
set_option maxRecDepth 100000 in
theorem wC_yX8_of : Cond.code yX8_of prog_10_method_30_code 3 (Option.some Jvm.ClassFile.FieldType.int) ∈ W0 := W0_t (i := 956) rfl rfl
theorem wM_RX8_116 : Cond.methodLink RX8 116 yX8_isThing ∈ W0 := W0_t (i := 957) (by decide +kernel) (by decide +kernel)
theorem wI_yX8_isThing : Cond.instanceMethod yX8_isThing ∈ W0 := W0_t (i := 959) (by decide +kernel) (by decide +kernel)
set_option maxRecDepth 100000 in
theorem wC_yX8_isThing : Cond.code yX8_isThing prog_10_method_7_code 2 (Option.some Jvm.ClassFile.FieldType.boolean) ∈ W0 := W0_t (i := 960) rfl rfl
theorem wM_RX8_92 : Cond.methodLink RX8 92 yX8_nextOf ∈ W0 := W0_t (i := 961) (by decide +kernel) (by decide +kernel)
theorem wI_yX8_nextOf : Cond.instanceMethod yX8_nextOf ∈ W0 := W0_t (i := 963) (by decide +kernel) (by decide +kernel)
set_option maxRecDepth 100000 in
theorem wC_yX8_nextOf : Cond.code yX8_nextOf prog_10_method_23_code 2 (Option.some Jvm.ClassFile.FieldType.int) ∈ W0 := W0_t (i := 964) rfl rfl
theorem wM_RX8_89 : Cond.methodLink RX8 89 yX8_dryNext ∈ W0 := W0_t (i := 965) (by decide +kernel) (by decide +kernel)
theorem wI_yX8_dryNext : Cond.instanceMethod yX8_dryNext ∈ W0 := W0_t (i := 967) (by decide +kernel) (by decide +kernel)
set_option maxRecDepth 100000 in
theorem wC_yX8_dryNext : Cond.code yX8_dryNext prog_10_method_22_code 5 (Option.some Jvm.ClassFile.FieldType.int) ∈ W0 := W0_t (i := 968) rfl rfl
theorem wM_RX8_83 : Cond.methodLink RX8 83 yX8_asFrog ∈ W0 := W0_t (i := 969) (by decide +kernel) (by decide +kernel)
theorem wI_yX8_asFrog : Cond.instanceMethod yX8_asFrog ∈ W0 := W0_t (i := 971) (by decide +kernel) (by decide +kernel)
set_option maxRecDepth 100000 in
theorem wC_yX8_asFrog : Cond.code yX8_asFrog prog_10_method_20_code 2 (Option.some Jvm.ClassFile.FieldType.int) ∈ W0 := W0_t (i := 972) rfl rfl
theorem wM_RX8_86 : Cond.methodLink RX8 86 yX8_asHeron ∈ W0 := W0_t (i := 973) (by decide +kernel) (by decide +kernel)
theorem wI_yX8_asHeron : Cond.instanceMethod yX8_asHeron ∈ W0 := W0_t (i := 975) (by decide +kernel) (by decide +kernel)
set_option maxRecDepth 100000 in
theorem wC_yX8_asHeron : Cond.code yX8_asHeron prog_10_method_21_code 4 (Option.some Jvm.ClassFile.FieldType.int) ∈ W0 := W0_t (i := 976) rfl rfl
theorem wM_RX8_76 : Cond.methodLink RX8 76 yX8_showing ∈ W0 := W0_t (i := 977) (by decide +kernel) (by decide +kernel)
theorem wI_yX8_showing : Cond.instanceMethod yX8_showing ∈ W0 := W0_t (i := 979) (by decide +kernel) (by decide +kernel)
set_option maxRecDepth 100000 in
theorem wC_yX8_showing : Cond.code yX8_showing prog_10_method_17_code 4 (Option.some Jvm.ClassFile.FieldType.int) ∈ W0 := W0_t (i := 980) rfl rfl
theorem wM_RX8_79 : Cond.methodLink RX8 79 yX8_hasFish ∈ W0 := W0_t (i := 981) (by decide +kernel) (by decide +kernel)
theorem wI_yX8_hasFish : Cond.instanceMethod yX8_hasFish ∈ W0 := W0_t (i := 983) (by decide +kernel) (by decide +kernel)
set_option maxRecDepth 100000 in
theorem wC_yX8_hasFish : Cond.code yX8_hasFish prog_10_method_19_code 6 (Option.some Jvm.ClassFile.FieldType.boolean) ∈ W0 := W0_t (i := 984) rfl rfl
theorem wM_RL_34 : Cond.methodLink RL 34 yX8_change ∈ W0 := W0_t (i := 985) (by decide +kernel) (by decide +kernel)
theorem wI_yX8_change : Cond.instanceMethod yX8_change ∈ W0 := W0_t (i := 986) (by decide +kernel) (by decide +kernel)
theorem wE_yX8_change : Cond.selects RX8 yX8_change yX8_change ∈ W0 := W0_t (i := 987) (by decide +kernel) (by decide +kernel)
set_option maxRecDepth 100000 in
theorem wC_yX8_change : Cond.code yX8_change prog_10_method_31_code 5 (Option.some Jvm.ClassFile.FieldType.int) ∈ W0 := W0_t (i := 988) rfl rfl
theorem wM_RL_39 : Cond.methodLink RL 39 yX8_rain ∈ W0 := W0_t (i := 989) (by decide +kernel) (by decide +kernel)
theorem wI_yX8_rain : Cond.instanceMethod yX8_rain ∈ W0 := W0_t (i := 990) (by decide +kernel) (by decide +kernel)
theorem wE_yX8_rain : Cond.selects RX8 yX8_rain yX8_rain ∈ W0 := W0_t (i := 991) (by decide +kernel) (by decide +kernel)
set_option maxRecDepth 100000 in
theorem wC_yX8_rain : Cond.code yX8_rain prog_10_method_32_code 3 (Option.some Jvm.ClassFile.FieldType.int) ∈ W0 := W0_t (i := 992) rfl rfl
theorem wM_RL_43 : Cond.methodLink RL 43 yX8_go ∈ W0 := W0_t (i := 993) (by decide +kernel) (by decide +kernel)
theorem wI_yX8_go : Cond.instanceMethod yX8_go ∈ W0 := W0_t (i := 994) (by decide +kernel) (by decide +kernel)
theorem wE_yX8_go : Cond.selects RX8 yX8_go yX8_go ∈ W0 := W0_t (i := 995) (by decide +kernel) (by decide +kernel)
set_option maxRecDepth 100000 in
theorem wC_yX8_go : Cond.code yX8_go prog_10_method_33_code 3 (Option.some Jvm.ClassFile.FieldType.int) ∈ W0 := W0_t (i := 996) rfl rfl
theorem wK_RX8_98 : Cond.constant RX8 98 (99999) ∈ W0 := W0_t (i := 997) (by decide +kernel) (by decide +kernel)
theorem wM_RX8_119 : Cond.methodLink RX8 119 yX8_minute ∈ W0 := W0_t (i := 998) (by decide +kernel) (by decide +kernel)
theorem wI_yX8_minute : Cond.instanceMethod yX8_minute ∈ W0 := W0_t (i := 1000) (by decide +kernel) (by decide +kernel)
set_option maxRecDepth 100000 in
theorem wC_yX8_minute : Cond.code yX8_minute prog_10_method_24_code 2 (Option.none : Option Jvm.ClassFile.FieldType) ∈ W0 := W0_t (i := 1001) rfl rfl
theorem wM_RX8_99 : Cond.methodLink RX8 99 yX8_less ∈ W0 := W0_t (i := 1002) (by decide +kernel) (by decide +kernel)
theorem wS_yX8_less : Cond.static yX8_less ∈ W0 := W0_t (i := 1003) (by decide +kernel) (by decide +kernel)
set_option maxRecDepth 100000 in
theorem wC_yX8_less : Cond.code yX8_less prog_10_method_4_code 2 (Option.some Jvm.ClassFile.FieldType.int) ∈ W0 := W0_t (i := 1004) rfl rfl
theorem wM_RL_47 : Cond.methodLink RL 47 yX8_now ∈ W0 := W0_t (i := 1005) (by decide +kernel) (by decide +kernel)
theorem wI_yX8_now : Cond.instanceMethod yX8_now ∈ W0 := W0_t (i := 1006) (by decide +kernel) (by decide +kernel)
theorem wE_yX8_now : Cond.selects RX8 yX8_now yX8_now ∈ W0 := W0_t (i := 1007) (by decide +kernel) (by decide +kernel)
set_option maxRecDepth 100000 in
theorem wC_yX8_now : Cond.code yX8_now prog_10_method_34_code 2 (Option.some Jvm.ClassFile.FieldType.int) ∈ W0 := W0_t (i := 1008) rfl rfl
theorem wM_RX8_122 : Cond.methodLink RX8 122 yX8_pondsWith ∈ W0 := W0_t (i := 1009) (by decide +kernel) (by decide +kernel)
theorem wI_yX8_pondsWith : Cond.instanceMethod yX8_pondsWith ∈ W0 := W0_t (i := 1011) (by decide +kernel) (by decide +kernel)
set_option maxRecDepth 100000 in
theorem wC_yX8_pondsWith : Cond.code yX8_pondsWith prog_10_method_16_code 4 (Option.some Jvm.ClassFile.FieldType.int) ∈ W0 := W0_t (i := 1012) rfl rfl
theorem wM_RX8_126 : Cond.methodLink RX8 126 yX8_lengths ∈ W0 := W0_t (i := 1013) (by decide +kernel) (by decide +kernel)
theorem wI_yX8_lengths : Cond.instanceMethod yX8_lengths ∈ W0 := W0_t (i := 1015) (by decide +kernel) (by decide +kernel)
set_option maxRecDepth 100000 in
theorem wC_yX8_lengths : Cond.code yX8_lengths prog_10_method_18_code 3 (Option.some Jvm.ClassFile.FieldType.int) ∈ W0 := W0_t (i := 1016) rfl rfl
theorem wM_RL_51 : Cond.methodLink RL 51 yX8_chain ∈ W0 := W0_t (i := 1017) (by decide +kernel) (by decide +kernel)
theorem wI_yX8_chain : Cond.instanceMethod yX8_chain ∈ W0 := W0_t (i := 1018) (by decide +kernel) (by decide +kernel)
theorem wE_yX8_chain : Cond.selects RX8 yX8_chain yX8_chain ∈ W0 := W0_t (i := 1019) (by decide +kernel) (by decide +kernel)
set_option maxRecDepth 100000 in
theorem wC_yX8_chain : Cond.code yX8_chain prog_10_method_38_code 4 (Option.some Jvm.ClassFile.FieldType.int) ∈ W0 := W0_t (i := 1020) rfl rfl
theorem wM_RX8_150 : Cond.methodLink RX8 150 yX8_goesThrough ∈ W0 := W0_t (i := 1021) (by decide +kernel) (by decide +kernel)
theorem wI_yX8_goesThrough : Cond.instanceMethod yX8_goesThrough ∈ W0 := W0_t (i := 1023) (by decide +kernel) (by decide +kernel)
set_option maxRecDepth 100000 in
theorem wC_yX8_goesThrough : Cond.code yX8_goesThrough prog_10_method_37_code 4 (Option.none : Option Jvm.ClassFile.FieldType) ∈ W0 := W0_t (i := 1024) rfl rfl
theorem wM_RX8_143 : Cond.methodLink RX8 143 yX8_begins ∈ W0 := W0_t (i := 1025) (by decide +kernel) (by decide +kernel)
theorem wI_yX8_begins : Cond.instanceMethod yX8_begins ∈ W0 := W0_t (i := 1027) (by decide +kernel) (by decide +kernel)
set_option maxRecDepth 100000 in
theorem wC_yX8_begins : Cond.code yX8_begins prog_10_method_35_code 2 (Option.none : Option Jvm.ClassFile.FieldType) ∈ W0 := W0_t (i := 1028) rfl rfl
theorem wM_RX8_147 : Cond.methodLink RX8 147 yX8_steps ∈ W0 := W0_t (i := 1029) (by decide +kernel) (by decide +kernel)
theorem wI_yX8_steps : Cond.instanceMethod yX8_steps ∈ W0 := W0_t (i := 1031) (by decide +kernel) (by decide +kernel)
set_option maxRecDepth 100000 in
theorem wC_yX8_steps : Cond.code yX8_steps prog_10_method_36_code 1 (Option.none : Option Jvm.ClassFile.FieldType) ∈ W0 := W0_t (i := 1032) rfl rfl
theorem wM_RL_55 : Cond.methodLink RL 55 yX8_through ∈ W0 := W0_t (i := 1033) (by decide +kernel) (by decide +kernel)
theorem wI_yX8_through : Cond.instanceMethod yX8_through ∈ W0 := W0_t (i := 1034) (by decide +kernel) (by decide +kernel)
theorem wE_yX8_through : Cond.selects RX8 yX8_through yX8_through ∈ W0 := W0_t (i := 1035) (by decide +kernel) (by decide +kernel)
set_option maxRecDepth 100000 in
theorem wC_yX8_through : Cond.code yX8_through prog_10_method_39_code 4 (Option.some Jvm.ClassFile.FieldType.int) ∈ W0 := W0_t (i := 1036) rfl rfl
theorem wM_RL_59 : Cond.methodLink RL 59 yX8_upright ∈ W0 := W0_t (i := 1037) (by decide +kernel) (by decide +kernel)
theorem wI_yX8_upright : Cond.instanceMethod yX8_upright ∈ W0 := W0_t (i := 1038) (by decide +kernel) (by decide +kernel)
theorem wE_yX8_upright : Cond.selects RX8 yX8_upright yX8_upright ∈ W0 := W0_t (i := 1039) (by decide +kernel) (by decide +kernel)
set_option maxRecDepth 100000 in
theorem wC_yX8_upright : Cond.code yX8_upright prog_10_method_40_code 3 (Option.some Jvm.ClassFile.FieldType.int) ∈ W0 := W0_t (i := 1040) rfl rfl
theorem wM_RL_63 : Cond.methodLink RL 63 yX8_large ∈ W0 := W0_t (i := 1041) (by decide +kernel) (by decide +kernel)
theorem wI_yX8_large : Cond.instanceMethod yX8_large ∈ W0 := W0_t (i := 1042) (by decide +kernel) (by decide +kernel)
theorem wE_yX8_large : Cond.selects RX8 yX8_large yX8_large ∈ W0 := W0_t (i := 1043) (by decide +kernel) (by decide +kernel)
set_option maxRecDepth 100000 in
theorem wC_yX8_large : Cond.code yX8_large prog_10_method_41_code 4 (Option.some Jvm.ClassFile.FieldType.int) ∈ W0 := W0_t (i := 1044) rfl rfl
theorem wM_RL_67 : Cond.methodLink RL 67 yX8_round ∈ W0 := W0_t (i := 1045) (by decide +kernel) (by decide +kernel)
theorem wI_yX8_round : Cond.instanceMethod yX8_round ∈ W0 := W0_t (i := 1046) (by decide +kernel) (by decide +kernel)
theorem wE_yX8_round : Cond.selects RX8 yX8_round yX8_round ∈ W0 := W0_t (i := 1047) (by decide +kernel) (by decide +kernel)
set_option maxRecDepth 100000 in
theorem wC_yX8_round : Cond.code yX8_round prog_10_method_45_code 2 (Option.some Jvm.ClassFile.FieldType.int) ∈ W0 := W0_t (i := 1048) rfl rfl
theorem wM_RX8_156 : Cond.methodLink RX8 156 yX8_roundOf ∈ W0 := W0_t (i := 1049) (by decide +kernel) (by decide +kernel)
theorem wI_yX8_roundOf : Cond.instanceMethod yX8_roundOf ∈ W0 := W0_t (i := 1051) (by decide +kernel) (by decide +kernel)
set_option maxRecDepth 100000 in
theorem wC_yX8_roundOf : Cond.code yX8_roundOf prog_10_method_44_code 5 (Option.some Jvm.ClassFile.FieldType.int) ∈ W0 := W0_t (i := 1052) rfl rfl
theorem wM_RX8_159 : Cond.methodLink RX8 159 yX8_bits ∈ W0 := W0_t (i := 1053) (by decide +kernel) (by decide +kernel)
theorem wS_yX8_bits : Cond.static yX8_bits ∈ W0 := W0_t (i := 1054) (by decide +kernel) (by decide +kernel)
set_option maxRecDepth 100000 in
theorem wC_yX8_bits : Cond.code yX8_bits prog_10_method_5_code 3 (Option.some Jvm.ClassFile.FieldType.int) ∈ W0 := W0_t (i := 1055) rfl rfl
theorem wM_RL_72 : Cond.methodLink RL 72 yX8_rounds ∈ W0 := W0_t (i := 1056) (by decide +kernel) (by decide +kernel)
theorem wI_yX8_rounds : Cond.instanceMethod yX8_rounds ∈ W0 := W0_t (i := 1057) (by decide +kernel) (by decide +kernel)
theorem wE_yX8_rounds : Cond.selects RX8 yX8_rounds yX8_rounds ∈ W0 := W0_t (i := 1058) (by decide +kernel) (by decide +kernel)
set_option maxRecDepth 100000 in
theorem wC_yX8_rounds : Cond.code yX8_rounds prog_10_method_46_code 4 (Option.some Jvm.ClassFile.FieldType.int) ∈ W0 := W0_t (i := 1059) rfl rfl
theorem wM_RX8_153 : Cond.methodLink RX8 153 yX8_isRound ∈ W0 := W0_t (i := 1060) (by decide +kernel) (by decide +kernel)
theorem wI_yX8_isRound : Cond.instanceMethod yX8_isRound ∈ W0 := W0_t (i := 1062) (by decide +kernel) (by decide +kernel)
set_option maxRecDepth 100000 in
theorem wC_yX8_isRound : Cond.code yX8_isRound prog_10_method_42_code 4 (Option.some Jvm.ClassFile.FieldType.boolean) ∈ W0 := W0_t (i := 1063) rfl rfl
theorem wM_RL_76 : Cond.methodLink RL 76 yX8_before ∈ W0 := W0_t (i := 1064) (by decide +kernel) (by decide +kernel)
theorem wI_yX8_before : Cond.instanceMethod yX8_before ∈ W0 := W0_t (i := 1065) (by decide +kernel) (by decide +kernel)
theorem wE_yX8_before : Cond.selects RX8 yX8_before yX8_before ∈ W0 := W0_t (i := 1066) (by decide +kernel) (by decide +kernel)
set_option maxRecDepth 100000 in
theorem wC_yX8_before : Cond.code yX8_before prog_10_method_47_code 2 (Option.some Jvm.ClassFile.FieldType.int) ∈ W0 := W0_t (i := 1067) rfl rfl
theorem wM_RX8_162 : Cond.methodLink RX8 162 yX8_aheadOf ∈ W0 := W0_t (i := 1068) (by decide +kernel) (by decide +kernel)
theorem wI_yX8_aheadOf : Cond.instanceMethod yX8_aheadOf ∈ W0 := W0_t (i := 1070) (by decide +kernel) (by decide +kernel)
set_option maxRecDepth 100000 in
theorem wC_yX8_aheadOf : Cond.code yX8_aheadOf prog_10_method_43_code 4 (Option.some Jvm.ClassFile.FieldType.int) ∈ W0 := W0_t (i := 1071) rfl rfl
theorem wM_RL_80 : Cond.methodLink RL 80 yX8_shownBy ∈ W0 := W0_t (i := 1072) (by decide +kernel) (by decide +kernel)
theorem wI_yX8_shownBy : Cond.instanceMethod yX8_shownBy ∈ W0 := W0_t (i := 1073) (by decide +kernel) (by decide +kernel)
theorem wE_yX8_shownBy : Cond.selects RX8 yX8_shownBy yX8_shownBy ∈ W0 := W0_t (i := 1074) (by decide +kernel) (by decide +kernel)
set_option maxRecDepth 100000 in
theorem wC_yX8_shownBy : Cond.code yX8_shownBy prog_10_method_48_code 6 (Option.some Jvm.ClassFile.FieldType.int) ∈ W0 := W0_t (i := 1075) rfl rfl
theorem wM_RL_84 : Cond.methodLink RL 84 yX8_ahead ∈ W0 := W0_t (i := 1076) (by decide +kernel) (by decide +kernel)
theorem wI_yX8_ahead : Cond.instanceMethod yX8_ahead ∈ W0 := W0_t (i := 1077) (by decide +kernel) (by decide +kernel)
theorem wE_yX8_ahead : Cond.selects RX8 yX8_ahead yX8_ahead ∈ W0 := W0_t (i := 1078) (by decide +kernel) (by decide +kernel)
set_option maxRecDepth 100000 in
theorem wC_yX8_ahead : Cond.code yX8_ahead prog_10_method_49_code 4 (Option.some Jvm.ClassFile.FieldType.int) ∈ W0 := W0_t (i := 1079) rfl rfl
theorem wM_RX8_165 : Cond.methodLink RX8 165 yX8_setsAside ∈ W0 := W0_t (i := 1080) (by decide +kernel) (by decide +kernel)
theorem wI_yX8_setsAside : Cond.instanceMethod yX8_setsAside ∈ W0 := W0_t (i := 1082) (by decide +kernel) (by decide +kernel)
set_option maxRecDepth 100000 in
theorem wC_yX8_setsAside : Cond.code yX8_setsAside prog_10_method_12_code 2 (Option.none : Option Jvm.ClassFile.FieldType) ∈ W0 := W0_t (i := 1083) rfl rfl
theorem wM_RX8_168 : Cond.methodLink RX8 168 yX8_laysBack ∈ W0 := W0_t (i := 1084) (by decide +kernel) (by decide +kernel)
theorem wI_yX8_laysBack : Cond.instanceMethod yX8_laysBack ∈ W0 := W0_t (i := 1086) (by decide +kernel) (by decide +kernel)
set_option maxRecDepth 100000 in
theorem wC_yX8_laysBack : Cond.code yX8_laysBack prog_10_method_13_code 2 (Option.none : Option Jvm.ClassFile.FieldType) ∈ W0 := W0_t (i := 1087) rfl rfl
theorem wM_RL_88 : Cond.methodLink RL 88 yX8_comes ∈ W0 := W0_t (i := 1088) (by decide +kernel) (by decide +kernel)
theorem wI_yX8_comes : Cond.instanceMethod yX8_comes ∈ W0 := W0_t (i := 1089) (by decide +kernel) (by decide +kernel)
theorem wE_yX8_comes : Cond.selects RX8 yX8_comes yX8_comes ∈ W0 := W0_t (i := 1090) (by decide +kernel) (by decide +kernel)
set_option maxRecDepth 100000 in
theorem wC_yX8_comes : Cond.code yX8_comes prog_10_method_51_code 3 (Option.some Jvm.ClassFile.FieldType.int) ∈ W0 := W0_t (i := 1091) rfl rfl
theorem wM_RX8_171 : Cond.methodLink RX8 171 yX8_firstBy ∈ W0 := W0_t (i := 1092) (by decide +kernel) (by decide +kernel)
theorem wI_yX8_firstBy : Cond.instanceMethod yX8_firstBy ∈ W0 := W0_t (i := 1094) (by decide +kernel) (by decide +kernel)
set_option maxRecDepth 100000 in
theorem wC_yX8_firstBy : Cond.code yX8_firstBy prog_10_method_50_code 7 (Option.some Jvm.ClassFile.FieldType.int) ∈ W0 := W0_t (i := 1095) rfl rfl
theorem wM_RL_92 : Cond.methodLink RL 92 yX8_seen ∈ W0 := W0_t (i := 1096) (by decide +kernel) (by decide +kernel)
theorem wI_yX8_seen : Cond.instanceMethod yX8_seen ∈ W0 := W0_t (i := 1097) (by decide +kernel) (by decide +kernel)
theorem wE_yX8_seen : Cond.selects RX8 yX8_seen yX8_seen ∈ W0 := W0_t (i := 1098) (by decide +kernel) (by decide +kernel)
set_option maxRecDepth 100000 in
theorem wC_yX8_seen : Cond.code yX8_seen prog_10_method_52_code 3 (Option.some Jvm.ClassFile.FieldType.int) ∈ W0 := W0_t (i := 1099) rfl rfl
theorem wM_RL_96 : Cond.methodLink RL 96 yX8_meet ∈ W0 := W0_t (i := 1100) (by decide +kernel) (by decide +kernel)
theorem wI_yX8_meet : Cond.instanceMethod yX8_meet ∈ W0 := W0_t (i := 1101) (by decide +kernel) (by decide +kernel)
theorem wE_yX8_meet : Cond.selects RX8 yX8_meet yX8_meet ∈ W0 := W0_t (i := 1102) (by decide +kernel) (by decide +kernel)
set_option maxRecDepth 100000 in
theorem wC_yX8_meet : Cond.code yX8_meet prog_10_method_53_code 3 (Option.some Jvm.ClassFile.FieldType.int) ∈ W0 := W0_t (i := 1103) rfl rfl
theorem wM_RL_100 : Cond.methodLink RL 100 yX8_cast ∈ W0 := W0_t (i := 1104) (by decide +kernel) (by decide +kernel)
theorem wI_yX8_cast : Cond.instanceMethod yX8_cast ∈ W0 := W0_t (i := 1105) (by decide +kernel) (by decide +kernel)
theorem wE_yX8_cast : Cond.selects RX8 yX8_cast yX8_cast ∈ W0 := W0_t (i := 1106) (by decide +kernel) (by decide +kernel)
set_option maxRecDepth 100000 in
theorem wC_yX8_cast : Cond.code yX8_cast prog_10_method_56_code 4 (Option.some Jvm.ClassFile.FieldType.int) ∈ W0 := W0_t (i := 1107) rfl rfl
theorem wM_RX8_175 : Cond.methodLink RX8 175 yX8_countsNone ∈ W0 := W0_t (i := 1108) (by decide +kernel) (by decide +kernel)
theorem wI_yX8_countsNone : Cond.instanceMethod yX8_countsNone ∈ W0 := W0_t (i := 1110) (by decide +kernel) (by decide +kernel)
set_option maxRecDepth 100000 in
theorem wC_yX8_countsNone : Cond.code yX8_countsNone prog_10_method_55_code 2 (Option.none : Option Jvm.ClassFile.FieldType) ∈ W0 := W0_t (i := 1111) rfl rfl
theorem wM_RX8_178 : Cond.methodLink RX8 178 yX8_mostOf ∈ W0 := W0_t (i := 1112) (by decide +kernel) (by decide +kernel)
theorem wI_yX8_mostOf : Cond.instanceMethod yX8_mostOf ∈ W0 := W0_t (i := 1114) (by decide +kernel) (by decide +kernel)
set_option maxRecDepth 100000 in
theorem wC_yX8_mostOf : Cond.code yX8_mostOf prog_10_method_54_code 3 (Option.some Jvm.ClassFile.FieldType.int) ∈ W0 := W0_t (i := 1115) rfl rfl
theorem wM_RL_104 : Cond.methodLink RL 104 yX8_kindFor ∈ W0 := W0_t (i := 1116) (by decide +kernel) (by decide +kernel)
theorem wI_yX8_kindFor : Cond.instanceMethod yX8_kindFor ∈ W0 := W0_t (i := 1117) (by decide +kernel) (by decide +kernel)
theorem wE_yX8_kindFor : Cond.selects RX8 yX8_kindFor yX8_kindFor ∈ W0 := W0_t (i := 1118) (by decide +kernel) (by decide +kernel)
set_option maxRecDepth 100000 in
theorem wC_yX8_kindFor : Cond.code yX8_kindFor prog_10_method_57_code 7 (Option.some Jvm.ClassFile.FieldType.int) ∈ W0 := W0_t (i := 1119) rfl rfl
theorem wM_RL_108 : Cond.methodLink RL 108 yX8_fits ∈ W0 := W0_t (i := 1120) (by decide +kernel) (by decide +kernel)
theorem wI_yX8_fits : Cond.instanceMethod yX8_fits ∈ W0 := W0_t (i := 1121) (by decide +kernel) (by decide +kernel)
theorem wE_yX8_fits : Cond.selects RX8 yX8_fits yX8_fits ∈ W0 := W0_t (i := 1122) (by decide +kernel) (by decide +kernel)
set_option maxRecDepth 100000 in
theorem wC_yX8_fits : Cond.code yX8_fits prog_10_method_63_code 6 (Option.some Jvm.ClassFile.FieldType.int) ∈ W0 := W0_t (i := 1123) rfl rfl
theorem wM_RX8_190 : Cond.methodLink RX8 190 yX8_wrongSight ∈ W0 := W0_t (i := 1124) (by decide +kernel) (by decide +kernel)
theorem wI_yX8_wrongSight : Cond.instanceMethod yX8_wrongSight ∈ W0 := W0_t (i := 1126) (by decide +kernel) (by decide +kernel)
set_option maxRecDepth 100000 in
theorem wC_yX8_wrongSight : Cond.code yX8_wrongSight prog_10_method_60_code 4 (Option.some Jvm.ClassFile.FieldType.int) ∈ W0 := W0_t (i := 1127) rfl rfl
theorem wM_RX8_184 : Cond.methodLink RX8 184 yX8_wrongSheet ∈ W0 := W0_t (i := 1128) (by decide +kernel) (by decide +kernel)
theorem wI_yX8_wrongSheet : Cond.instanceMethod yX8_wrongSheet ∈ W0 := W0_t (i := 1130) (by decide +kernel) (by decide +kernel)
set_option maxRecDepth 100000 in
theorem wC_yX8_wrongSheet : Cond.code yX8_wrongSheet prog_10_method_59_code 2 (Option.some Jvm.ClassFile.FieldType.int) ∈ W0 := W0_t (i := 1131) rfl rfl
theorem wM_RX8_181 : Cond.methodLink RX8 181 yX8_isSheet ∈ W0 := W0_t (i := 1132) (by decide +kernel) (by decide +kernel)
theorem wS_yX8_isSheet : Cond.static yX8_isSheet ∈ W0 := W0_t (i := 1133) (by decide +kernel) (by decide +kernel)
set_option maxRecDepth 100000 in
theorem wC_yX8_isSheet : Cond.code yX8_isSheet prog_10_method_58_code 1 (Option.some Jvm.ClassFile.FieldType.boolean) ∈ W0 := W0_t (i := 1134) rfl rfl
theorem wM_RX8_193 : Cond.methodLink RX8 193 yX8_fitsAs ∈ W0 := W0_t (i := 1135) (by decide +kernel) (by decide +kernel)
theorem wI_yX8_fitsAs : Cond.instanceMethod yX8_fitsAs ∈ W0 := W0_t (i := 1137) (by decide +kernel) (by decide +kernel)
set_option maxRecDepth 100000 in
theorem wC_yX8_fitsAs : Cond.code yX8_fitsAs prog_10_method_62_code 6 (Option.some Jvm.ClassFile.FieldType.boolean) ∈ W0 := W0_t (i := 1138) rfl rfl
theorem wM_RX8_187 : Cond.methodLink RX8 187 yX8_told ∈ W0 := W0_t (i := 1139) (by decide +kernel) (by decide +kernel)
theorem wI_yX8_told : Cond.instanceMethod yX8_told ∈ W0 := W0_t (i := 1141) (by decide +kernel) (by decide +kernel)
set_option maxRecDepth 100000 in
theorem wC_yX8_told : Cond.code yX8_told prog_10_method_61_code 3 (Option.some Jvm.ClassFile.FieldType.int) ∈ W0 := W0_t (i := 1142) rfl rfl
theorem wM_RL_112 : Cond.methodLink RL 112 yX8_lens ∈ W0 := W0_t (i := 1143) (by decide +kernel) (by decide +kernel)
theorem wI_yX8_lens : Cond.instanceMethod yX8_lens ∈ W0 := W0_t (i := 1144) (by decide +kernel) (by decide +kernel)
theorem wE_yX8_lens : Cond.selects RX8 yX8_lens yX8_lens ∈ W0 := W0_t (i := 1145) (by decide +kernel) (by decide +kernel)
set_option maxRecDepth 100000 in
theorem wC_yX8_lens : Cond.code yX8_lens prog_10_method_64_code 5 (Option.some Jvm.ClassFile.FieldType.int) ∈ W0 := W0_t (i := 1146) rfl rfl
theorem wM_RL_116 : Cond.methodLink RL 116 yX8_which ∈ W0 := W0_t (i := 1147) (by decide +kernel) (by decide +kernel)
theorem wI_yX8_which : Cond.instanceMethod yX8_which ∈ W0 := W0_t (i := 1148) (by decide +kernel) (by decide +kernel)
theorem wE_yX8_which : Cond.selects RX8 yX8_which yX8_which ∈ W0 := W0_t (i := 1149) (by decide +kernel) (by decide +kernel)
set_option maxRecDepth 100000 in
theorem wC_yX8_which : Cond.code yX8_which prog_10_method_65_code 6 (Option.some Jvm.ClassFile.FieldType.int) ∈ W0 := W0_t (i := 1150) rfl rfl
theorem wM_RL_120 : Cond.methodLink RL 120 yX8_eyes ∈ W0 := W0_t (i := 1151) (by decide +kernel) (by decide +kernel)
theorem wI_yX8_eyes : Cond.instanceMethod yX8_eyes ∈ W0 := W0_t (i := 1152) (by decide +kernel) (by decide +kernel)
theorem wE_yX8_eyes : Cond.selects RX8 yX8_eyes yX8_eyes ∈ W0 := W0_t (i := 1153) (by decide +kernel) (by decide +kernel)
set_option maxRecDepth 100000 in
theorem wC_yX8_eyes : Cond.code yX8_eyes prog_10_method_66_code 5 (Option.some Jvm.ClassFile.FieldType.int) ∈ W0 := W0_t (i := 1154) rfl rfl
theorem wK_RX8_196 : Cond.constant RX8 196 (65536) ∈ W0 := W0_t (i := 1155) (by decide +kernel) (by decide +kernel)
theorem wM_RL_124 : Cond.methodLink RL 124 yX8_dredge ∈ W0 := W0_t (i := 1156) (by decide +kernel) (by decide +kernel)
theorem wI_yX8_dredge : Cond.instanceMethod yX8_dredge ∈ W0 := W0_t (i := 1157) (by decide +kernel) (by decide +kernel)
theorem wE_yX8_dredge : Cond.selects RX8 yX8_dredge yX8_dredge ∈ W0 := W0_t (i := 1158) (by decide +kernel) (by decide +kernel)
set_option maxRecDepth 100000 in
theorem wC_yX8_dredge : Cond.code yX8_dredge prog_10_method_67_code 8 (Option.some Jvm.ClassFile.FieldType.int) ∈ W0 := W0_t (i := 1159) rfl rfl
theorem wM_RL_128 : Cond.methodLink RL 128 yX8_watch ∈ W0 := W0_t (i := 1160) (by decide +kernel) (by decide +kernel)
theorem wI_yX8_watch : Cond.instanceMethod yX8_watch ∈ W0 := W0_t (i := 1161) (by decide +kernel) (by decide +kernel)
theorem wE_yX8_watch : Cond.selects RX8 yX8_watch yX8_watch ∈ W0 := W0_t (i := 1162) (by decide +kernel) (by decide +kernel)
set_option maxRecDepth 100000 in
theorem wC_yX8_watch : Cond.code yX8_watch prog_10_method_68_code 4 (Option.some Jvm.ClassFile.FieldType.int) ∈ W0 := W0_t (i := 1163) rfl rfl
theorem wM_RL_132 : Cond.methodLink RL 132 yX8_falls ∈ W0 := W0_t (i := 1164) (by decide +kernel) (by decide +kernel)
theorem wI_yX8_falls : Cond.instanceMethod yX8_falls ∈ W0 := W0_t (i := 1165) (by decide +kernel) (by decide +kernel)
theorem wE_yX8_falls : Cond.selects RX8 yX8_falls yX8_falls ∈ W0 := W0_t (i := 1166) (by decide +kernel) (by decide +kernel)
set_option maxRecDepth 100000 in
theorem wC_yX8_falls : Cond.code yX8_falls prog_10_method_70_code 5 (Option.some Jvm.ClassFile.FieldType.int) ∈ W0 := W0_t (i := 1167) rfl rfl
theorem wM_RX8_198 : Cond.methodLink RX8 198 yX8_draw ∈ W0 := W0_t (i := 1168) (by decide +kernel) (by decide +kernel)
theorem wI_yX8_draw : Cond.instanceMethod yX8_draw ∈ W0 := W0_t (i := 1170) (by decide +kernel) (by decide +kernel)
set_option maxRecDepth 100000 in
theorem wC_yX8_draw : Cond.code yX8_draw prog_10_method_69_code 1 (Option.some Jvm.ClassFile.FieldType.int) ∈ W0 := W0_t (i := 1171) rfl rfl
theorem wK_RX8_197 : Cond.constant RX8 197 (1103515245) ∈ W0 := W0_t (i := 1172) (by decide +kernel) (by decide +kernel)
theorem wM_RL_137 : Cond.methodLink RL 137 yX8_odds ∈ W0 := W0_t (i := 1173) (by decide +kernel) (by decide +kernel)
theorem wI_yX8_odds : Cond.instanceMethod yX8_odds ∈ W0 := W0_t (i := 1174) (by decide +kernel) (by decide +kernel)
theorem wE_yX8_odds : Cond.selects RX8 yX8_odds yX8_odds ∈ W0 := W0_t (i := 1175) (by decide +kernel) (by decide +kernel)
set_option maxRecDepth 100000 in
theorem wC_yX8_odds : Cond.code yX8_odds prog_10_method_71_code 13 (Option.some Jvm.ClassFile.FieldType.long) ∈ W0 := W0_t (i := 1176) rfl rfl
theorem wKL_RX8_201 : Cond.constantLong RX8 201 (16) ∈ W0 := W0_t (i := 1177) (by decide +kernel) (by decide +kernel)
theorem wM_RL_141 : Cond.methodLink RL 141 yX8_seed ∈ W0 := W0_t (i := 1178) (by decide +kernel) (by decide +kernel)
theorem wI_yX8_seed : Cond.instanceMethod yX8_seed ∈ W0 := W0_t (i := 1179) (by decide +kernel) (by decide +kernel)
theorem wE_yX8_seed : Cond.selects RX8 yX8_seed yX8_seed ∈ W0 := W0_t (i := 1180) (by decide +kernel) (by decide +kernel)
set_option maxRecDepth 100000 in
theorem wC_yX8_seed : Cond.code yX8_seed prog_10_method_72_code 3 (Option.some Jvm.ClassFile.FieldType.int) ∈ W0 := W0_t (i := 1181) rfl rfl
theorem wM_RL_145 : Cond.methodLink RL 145 yX8_feed ∈ W0 := W0_t (i := 1182) (by decide +kernel) (by decide +kernel)
theorem wI_yX8_feed : Cond.instanceMethod yX8_feed ∈ W0 := W0_t (i := 1183) (by decide +kernel) (by decide +kernel)
theorem wE_yX8_feed : Cond.selects RX8 yX8_feed yX8_feed ∈ W0 := W0_t (i := 1184) (by decide +kernel) (by decide +kernel)
set_option maxRecDepth 100000 in
theorem wC_yX8_feed : Cond.code yX8_feed prog_10_method_73_code 4 (Option.some Jvm.ClassFile.FieldType.int) ∈ W0 := W0_t (i := 1185) rfl rfl
theorem wM_RL_149 : Cond.methodLink RL 149 yX8_wipe ∈ W0 := W0_t (i := 1186) (by decide +kernel) (by decide +kernel)
theorem wI_yX8_wipe : Cond.instanceMethod yX8_wipe ∈ W0 := W0_t (i := 1187) (by decide +kernel) (by decide +kernel)
theorem wE_yX8_wipe : Cond.selects RX8 yX8_wipe yX8_wipe ∈ W0 := W0_t (i := 1188) (by decide +kernel) (by decide +kernel)
set_option maxRecDepth 100000 in
theorem wC_yX8_wipe : Cond.code yX8_wipe prog_10_method_74_code 2 (Option.some Jvm.ClassFile.FieldType.int) ∈ W0 := W0_t (i := 1189) rfl rfl
theorem wM_RL_153 : Cond.methodLink RL 153 yX8_text ∈ W0 := W0_t (i := 1190) (by decide +kernel) (by decide +kernel)
theorem wI_yX8_text : Cond.instanceMethod yX8_text ∈ W0 := W0_t (i := 1191) (by decide +kernel) (by decide +kernel)
theorem wE_yX8_text : Cond.selects RX8 yX8_text yX8_text ∈ W0 := W0_t (i := 1192) (by decide +kernel) (by decide +kernel)
set_option maxRecDepth 100000 in
theorem wC_yX8_text : Cond.code yX8_text prog_10_method_83_code 3 (Option.some Jvm.ClassFile.FieldType.int) ∈ W0 := W0_t (i := 1193) rfl rfl
theorem wM_RX8_237 : Cond.methodLink RX8 237 yX8_nextToken ∈ W0 := W0_t (i := 1194) (by decide +kernel) (by decide +kernel)
theorem wI_yX8_nextToken : Cond.instanceMethod yX8_nextToken ∈ W0 := W0_t (i := 1196) (by decide +kernel) (by decide +kernel)
set_option maxRecDepth 100000 in
theorem wC_yX8_nextToken : Cond.code yX8_nextToken prog_10_method_77_code 1 (Option.none : Option Jvm.ClassFile.FieldType) ∈ W0 := W0_t (i := 1197) rfl rfl
theorem wM_RX8_219 : Cond.methodLink RX8 219 yX8_isLetter ∈ W0 := W0_t (i := 1198) (by decide +kernel) (by decide +kernel)
theorem wS_yX8_isLetter : Cond.static yX8_isLetter ∈ W0 := W0_t (i := 1199) (by decide +kernel) (by decide +kernel)
set_option maxRecDepth 100000 in
theorem wC_yX8_isLetter : Cond.code yX8_isLetter prog_10_method_75_code 1 (Option.some Jvm.ClassFile.FieldType.boolean) ∈ W0 := W0_t (i := 1200) rfl rfl
theorem wKL_RX8_222 : Cond.constantLong RX8 222 (9999999999999) ∈ W0 := W0_t (i := 1201) (by decide +kernel) (by decide +kernel)
theorem wKL_RX8_224 : Cond.constantLong RX8 224 (27) ∈ W0 := W0_t (i := 1202) (by decide +kernel) (by decide +kernel)
theorem wKL_RX8_226 : Cond.constantLong RX8 226 (96) ∈ W0 := W0_t (i := 1203) (by decide +kernel) (by decide +kernel)
theorem wM_RX8_228 : Cond.methodLink RX8 228 yX8_isDigit ∈ W0 := W0_t (i := 1204) (by decide +kernel) (by decide +kernel)
theorem wS_yX8_isDigit : Cond.static yX8_isDigit ∈ W0 := W0_t (i := 1205) (by decide +kernel) (by decide +kernel)
set_option maxRecDepth 100000 in
theorem wC_yX8_isDigit : Cond.code yX8_isDigit prog_10_method_76_code 1 (Option.some Jvm.ClassFile.FieldType.boolean) ∈ W0 := W0_t (i := 1206) rfl rfl
theorem wKL_RX8_231 : Cond.constantLong RX8 231 (999) ∈ W0 := W0_t (i := 1207) (by decide +kernel) (by decide +kernel)
theorem wKL_RX8_233 : Cond.constantLong RX8 233 (10) ∈ W0 := W0_t (i := 1208) (by decide +kernel) (by decide +kernel)
theorem wKL_RX8_235 : Cond.constantLong RX8 235 (48) ∈ W0 := W0_t (i := 1209) (by decide +kernel) (by decide +kernel)
theorem wM_RX8_254 : Cond.methodLink RX8 254 yX8_readsItem ∈ W0 := W0_t (i := 1210) (by decide +kernel) (by decide +kernel)
theorem wI_yX8_readsItem : Cond.instanceMethod yX8_readsItem ∈ W0 := W0_t (i := 1212) (by decide +kernel) (by decide +kernel)
set_option maxRecDepth 100000 in
theorem wC_yX8_readsItem : Cond.code yX8_readsItem prog_10_method_82_code 3 (Option.some Jvm.ClassFile.FieldType.boolean) ∈ W0 := W0_t (i := 1213) rfl rfl
theorem wM_RX8_240 : Cond.methodLink RX8 240 yX8_wordOf ∈ W0 := W0_t (i := 1214) (by decide +kernel) (by decide +kernel)
theorem wI_yX8_wordOf : Cond.instanceMethod yX8_wordOf ∈ W0 := W0_t (i := 1216) (by decide +kernel) (by decide +kernel)
set_option maxRecDepth 100000 in
theorem wC_yX8_wordOf : Cond.code yX8_wordOf prog_10_method_78_code 7 (Option.some Jvm.ClassFile.FieldType.int) ∈ W0 := W0_t (i := 1217) rfl rfl
theorem wM_RX8_247 : Cond.methodLink RX8 247 yX8_readsThing ∈ W0 := W0_t (i := 1218) (by decide +kernel) (by decide +kernel)
theorem wI_yX8_readsThing : Cond.instanceMethod yX8_readsThing ∈ W0 := W0_t (i := 1220) (by decide +kernel) (by decide +kernel)
set_option maxRecDepth 100000 in
theorem wC_yX8_readsThing : Cond.code yX8_readsThing prog_10_method_80_code 5 (Option.some Jvm.ClassFile.FieldType.boolean) ∈ W0 := W0_t (i := 1221) rfl rfl
theorem wM_RX8_244 : Cond.methodLink RX8 244 yX8_takesNumber ∈ W0 := W0_t (i := 1222) (by decide +kernel) (by decide +kernel)
theorem wI_yX8_takesNumber : Cond.instanceMethod yX8_takesNumber ∈ W0 := W0_t (i := 1224) (by decide +kernel) (by decide +kernel)
set_option maxRecDepth 100000 in
theorem wC_yX8_takesNumber : Cond.code yX8_takesNumber prog_10_method_79_code 4 (Option.some Jvm.ClassFile.FieldType.int) ∈ W0 := W0_t (i := 1225) rfl rfl
theorem wM_RX8_250 : Cond.methodLink RX8 250 yX8_readsPond ∈ W0 := W0_t (i := 1226) (by decide +kernel) (by decide +kernel)
theorem wI_yX8_readsPond : Cond.instanceMethod yX8_readsPond ∈ W0 := W0_t (i := 1228) (by decide +kernel) (by decide +kernel)
set_option maxRecDepth 100000 in
theorem wC_yX8_readsPond : Cond.code yX8_readsPond prog_10_method_81_code 5 (Option.some Jvm.ClassFile.FieldType.boolean) ∈ W0 := W0_t (i := 1229) rfl rfl
theorem wM_RL_157 : Cond.methodLink RL 157 yX8_hold ∈ W0 := W0_t (i := 1230) (by decide +kernel) (by decide +kernel)
theorem wI_yX8_hold : Cond.instanceMethod yX8_hold ∈ W0 := W0_t (i := 1231) (by decide +kernel) (by decide +kernel)
theorem wE_yX8_hold : Cond.selects RX8 yX8_hold yX8_hold ∈ W0 := W0_t (i := 1232) (by decide +kernel) (by decide +kernel)
set_option maxRecDepth 100000 in
theorem wC_yX8_hold : Cond.code yX8_hold prog_10_method_85_code 3 (Option.some Jvm.ClassFile.FieldType.int) ∈ W0 := W0_t (i := 1233) rfl rfl
theorem wM_RX8_257 : Cond.methodLink RX8 257 yX8_isSpot ∈ W0 := W0_t (i := 1234) (by decide +kernel) (by decide +kernel)
theorem wS_yX8_isSpot : Cond.static yX8_isSpot ∈ W0 := W0_t (i := 1235) (by decide +kernel) (by decide +kernel)
set_option maxRecDepth 100000 in
theorem wC_yX8_isSpot : Cond.code yX8_isSpot prog_10_method_84_code 1 (Option.some Jvm.ClassFile.FieldType.boolean) ∈ W0 := W0_t (i := 1236) rfl rfl
theorem wM_RL_161 : Cond.methodLink RL 161 yX8_as ∈ W0 := W0_t (i := 1237) (by decide +kernel) (by decide +kernel)
theorem wI_yX8_as : Cond.instanceMethod yX8_as ∈ W0 := W0_t (i := 1238) (by decide +kernel) (by decide +kernel)
theorem wE_yX8_as : Cond.selects RX8 yX8_as yX8_as ∈ W0 := W0_t (i := 1239) (by decide +kernel) (by decide +kernel)
set_option maxRecDepth 100000 in
theorem wC_yX8_as : Cond.code yX8_as prog_10_method_87_code 5 (Option.some Jvm.ClassFile.FieldType.int) ∈ W0 := W0_t (i := 1240) rfl rfl
theorem wM_RX8_260 : Cond.methodLink RX8 260 yX8_above ∈ W0 := W0_t (i := 1241) (by decide +kernel) (by decide +kernel)
theorem wS_yX8_above : Cond.static yX8_above ∈ W0 := W0_t (i := 1242) (by decide +kernel) (by decide +kernel)
set_option maxRecDepth 100000 in
theorem wC_yX8_above : Cond.code yX8_above prog_10_method_86_code 1 (Option.some Jvm.ClassFile.FieldType.int) ∈ W0 := W0_t (i := 1243) rfl rfl
theorem wM_RL_165 : Cond.methodLink RL 165 yX8_sheet ∈ W0 := W0_t (i := 1244) (by decide +kernel) (by decide +kernel)
theorem wI_yX8_sheet : Cond.instanceMethod yX8_sheet ∈ W0 := W0_t (i := 1245) (by decide +kernel) (by decide +kernel)
theorem wE_yX8_sheet : Cond.selects RX8 yX8_sheet yX8_sheet ∈ W0 := W0_t (i := 1246) (by decide +kernel) (by decide +kernel)
set_option maxRecDepth 100000 in
theorem wC_yX8_sheet : Cond.code yX8_sheet prog_10_method_88_code 5 (Option.some Jvm.ClassFile.FieldType.int) ∈ W0 := W0_t (i := 1247) rfl rfl
theorem wM_RL_169 : Cond.methodLink RL 169 yX8_write ∈ W0 := W0_t (i := 1248) (by decide +kernel) (by decide +kernel)
theorem wI_yX8_write : Cond.instanceMethod yX8_write ∈ W0 := W0_t (i := 1249) (by decide +kernel) (by decide +kernel)
theorem wE_yX8_write : Cond.selects RX8 yX8_write yX8_write ∈ W0 := W0_t (i := 1250) (by decide +kernel) (by decide +kernel)
set_option maxRecDepth 100000 in
theorem wC_yX8_write : Cond.code yX8_write prog_10_method_89_code 5 (Option.some Jvm.ClassFile.FieldType.int) ∈ W0 := W0_t (i := 1251) rfl rfl
theorem wM_RL_174 : Cond.methodLink RL 174 yX8_copy ∈ W0 := W0_t (i := 1252) (by decide +kernel) (by decide +kernel)
theorem wI_yX8_copy : Cond.instanceMethod yX8_copy ∈ W0 := W0_t (i := 1253) (by decide +kernel) (by decide +kernel)
theorem wE_yX8_copy : Cond.selects RX8 yX8_copy yX8_copy ∈ W0 := W0_t (i := 1254) (by decide +kernel) (by decide +kernel)
set_option maxRecDepth 100000 in
theorem wC_yX8_copy : Cond.code yX8_copy prog_10_method_90_code 7 (Option.some Jvm.ClassFile.FieldType.int) ∈ W0 := W0_t (i := 1255) rfl rfl
theorem wM_RL_178 : Cond.methodLink RL 178 yX8_load ∈ W0 := W0_t (i := 1256) (by decide +kernel) (by decide +kernel)
theorem wI_yX8_load : Cond.instanceMethod yX8_load ∈ W0 := W0_t (i := 1257) (by decide +kernel) (by decide +kernel)
theorem wE_yX8_load : Cond.selects RX8 yX8_load yX8_load ∈ W0 := W0_t (i := 1258) (by decide +kernel) (by decide +kernel)
set_option maxRecDepth 100000 in
theorem wC_yX8_load : Cond.code yX8_load prog_10_method_91_code 4 (Option.some Jvm.ClassFile.FieldType.int) ∈ W0 := W0_t (i := 1259) rfl rfl
theorem wM_RL_182 : Cond.methodLink RL 182 yX8_judge ∈ W0 := W0_t (i := 1260) (by decide +kernel) (by decide +kernel)
theorem wI_yX8_judge : Cond.instanceMethod yX8_judge ∈ W0 := W0_t (i := 1261) (by decide +kernel) (by decide +kernel)
theorem wE_yX8_judge : Cond.selects RX8 yX8_judge yX8_judge ∈ W0 := W0_t (i := 1262) (by decide +kernel) (by decide +kernel)
set_option maxRecDepth 100000 in
theorem wC_yX8_judge : Cond.code yX8_judge prog_10_method_92_code 5 (Option.some Jvm.ClassFile.FieldType.int) ∈ W0 := W0_t (i := 1263) rfl rfl
theorem wM_RL_186 : Cond.methodLink RL 186 yX8_image ∈ W0 := W0_t (i := 1264) (by decide +kernel) (by decide +kernel)
theorem wI_yX8_image : Cond.instanceMethod yX8_image ∈ W0 := W0_t (i := 1265) (by decide +kernel) (by decide +kernel)
theorem wE_yX8_image : Cond.selects RX8 yX8_image yX8_image ∈ W0 := W0_t (i := 1266) (by decide +kernel) (by decide +kernel)
set_option maxRecDepth 100000 in
theorem wC_yX8_image : Cond.code yX8_image prog_10_method_93_code 2 (Option.some Jvm.ClassFile.FieldType.int) ∈ W0 := W0_t (i := 1267) rfl rfl
theorem wM_RL_190 : Cond.methodLink RL 190 yX8_undo ∈ W0 := W0_t (i := 1268) (by decide +kernel) (by decide +kernel)
theorem wI_yX8_undo : Cond.instanceMethod yX8_undo ∈ W0 := W0_t (i := 1269) (by decide +kernel) (by decide +kernel)
theorem wE_yX8_undo : Cond.selects RX8 yX8_undo yX8_undo ∈ W0 := W0_t (i := 1270) (by decide +kernel) (by decide +kernel)
set_option maxRecDepth 100000 in
theorem wC_yX8_undo : Cond.code yX8_undo prog_10_method_94_code 2 (Option.some Jvm.ClassFile.FieldType.int) ∈ W0 := W0_t (i := 1271) rfl rfl
theorem wM_RL_194 : Cond.methodLink RL 194 yX8_tear ∈ W0 := W0_t (i := 1272) (by decide +kernel) (by decide +kernel)
theorem wI_yX8_tear : Cond.instanceMethod yX8_tear ∈ W0 := W0_t (i := 1273) (by decide +kernel) (by decide +kernel)
theorem wE_yX8_tear : Cond.selects RX8 yX8_tear yX8_tear ∈ W0 := W0_t (i := 1274) (by decide +kernel) (by decide +kernel)
set_option maxRecDepth 100000 in
theorem wC_yX8_tear : Cond.code yX8_tear prog_10_method_95_code 2 (Option.some Jvm.ClassFile.FieldType.int) ∈ W0 := W0_t (i := 1275) rfl rfl
theorem wM_RL_198 : Cond.methodLink RL 198 yX8_count ∈ W0 := W0_t (i := 1276) (by decide +kernel) (by decide +kernel)
theorem wI_yX8_count : Cond.instanceMethod yX8_count ∈ W0 := W0_t (i := 1277) (by decide +kernel) (by decide +kernel)
theorem wE_yX8_count : Cond.selects RX8 yX8_count yX8_count ∈ W0 := W0_t (i := 1278) (by decide +kernel) (by decide +kernel)
set_option maxRecDepth 100000 in
theorem wC_yX8_count : Cond.code yX8_count prog_10_method_96_code 4 (Option.some Jvm.ClassFile.FieldType.int) ∈ W0 := W0_t (i := 1279) rfl rfl
theorem wM_RL_202 : Cond.methodLink RL 202 yX8_status ∈ W0 := W0_t (i := 1280) (by decide +kernel) (by decide +kernel)
theorem wI_yX8_status : Cond.instanceMethod yX8_status ∈ W0 := W0_t (i := 1281) (by decide +kernel) (by decide +kernel)
theorem wE_yX8_status : Cond.selects RX8 yX8_status yX8_status ∈ W0 := W0_t (i := 1282) (by decide +kernel) (by decide +kernel)
set_option maxRecDepth 100000 in
theorem wC_yX8_status : Cond.code yX8_status prog_10_method_97_code 4 (Option.some Jvm.ClassFile.FieldType.int) ∈ W0 := W0_t (i := 1283) rfl rfl
theorem wF_RJ0_9 : Cond.fieldLink RJ0 9 "java/lang/String" "value" "[B" ∈ W0 := W0_t (i := 1284) (by decide +kernel) (by decide +kernel)
theorem wF_RJ0_15 : Cond.fieldLink RJ0 15 "java/lang/String" "coder" "B" ∈ W0 := W0_t (i := 1285) (by decide +kernel) (by decide +kernel)
theorem wE_yX7_finding : Cond.selects RX7 yX7_finding yX7_finding ∈ W0 := W0_p (i := 0) (by decide +kernel) (by decide +kernel)
theorem wE_yX1_nextOfFrog : Cond.selects RX1 yX1_nextOfFrog yX1_nextOfFrog ∈ W0 := W0_p (i := 1) (by decide +kernel) (by decide +kernel)
theorem wE_yX1_nextOfHeron : Cond.selects RX1 yX1_nextOfHeron yX1_nextOfHeron ∈ W0 := W0_p (i := 2) (by decide +kernel) (by decide +kernel)
theorem wE_yX1_hasFishIn : Cond.selects RX1 yX1_hasFishIn yX1_hasFishIn ∈ W0 := W0_p (i := 3) (by decide +kernel) (by decide +kernel)
theorem wE_yX1_nextOfPike : Cond.selects RX1 yX1_nextOfPike yX1_nextOfPike ∈ W0 := W0_p (i := 4) (by decide +kernel) (by decide +kernel)
theorem wE_yX7_findingOrAnswer : Cond.selects RX7 yX7_findingOrAnswer yX7_findingOrAnswer ∈ W0 := W0_p (i := 5) (by decide +kernel) (by decide +kernel)
theorem wE_yX2_clearTally : Cond.selects RX2 yX2_clearTally yX2_clearTally ∈ W0 := W0_p (i := 6) (by decide +kernel) (by decide +kernel)
theorem wE_yX2_leastOfMost : Cond.selects RX2 yX2_leastOfMost yX2_leastOfMost ∈ W0 := W0_p (i := 7) (by decide +kernel) (by decide +kernel)
theorem wE_yX7_lackOfSight : Cond.selects RX7 yX7_lackOfSight yX7_lackOfSight ∈ W0 := W0_p (i := 8) (by decide +kernel) (by decide +kernel)
theorem wE_yX7_lackOfSheet : Cond.selects RX7 yX7_lackOfSheet yX7_lackOfSheet ∈ W0 := W0_p (i := 9) (by decide +kernel) (by decide +kernel)
theorem wE_yX7_lensesFor : Cond.selects RX7 yX7_lensesFor yX7_lensesFor ∈ W0 := W0_p (i := 10) (by decide +kernel) (by decide +kernel)
theorem wE_yX1_draw : Cond.selects RX1 yX1_draw yX1_draw ∈ W0 := W0_p (i := 11) (by decide +kernel) (by decide +kernel)
theorem wE_yX6_takeOne : Cond.selects RX6 yX6_takeOne yX6_takeOne ∈ W0 := W0_p (i := 12) (by decide +kernel) (by decide +kernel)
theorem wE_yX5_readItem : Cond.selects RX5 yX5_readItem yX5_readItem ∈ W0 := W0_p (i := 13) (by decide +kernel) (by decide +kernel)
theorem wE_yX5_hasKind : Cond.selects RX5 yX5_hasKind yX5_hasKind ∈ W0 := W0_p (i := 14) (by decide +kernel) (by decide +kernel)
theorem wE_yX5_readThing : Cond.selects RX5 yX5_readThing yX5_readThing ∈ W0 := W0_p (i := 15) (by decide +kernel) (by decide +kernel)
theorem wE_yX5_fail : Cond.selects RX5 yX5_fail yX5_fail ∈ W0 := W0_p (i := 16) (by decide +kernel) (by decide +kernel)
theorem wE_yX5_hasWord : Cond.selects RX5 yX5_hasWord yX5_hasWord ∈ W0 := W0_p (i := 17) (by decide +kernel) (by decide +kernel)
theorem wE_yX5_readNumber : Cond.selects RX5 yX5_readNumber yX5_readNumber ∈ W0 := W0_p (i := 18) (by decide +kernel) (by decide +kernel)
theorem wE_yX5_hasNumber : Cond.selects RX5 yX5_hasNumber yX5_hasNumber ∈ W0 := W0_p (i := 19) (by decide +kernel) (by decide +kernel)
theorem wE_yX5_readPond : Cond.selects RX5 yX5_readPond yX5_readPond ∈ W0 := W0_p (i := 20) (by decide +kernel) (by decide +kernel)
theorem wE_yX5_readTrait : Cond.selects RX5 yX5_readTrait yX5_readTrait ∈ W0 := W0_p (i := 21) (by decide +kernel) (by decide +kernel)
theorem wE_yX5_hasSign : Cond.selects RX5 yX5_hasSign yX5_hasSign ∈ W0 := W0_p (i := 22) (by decide +kernel) (by decide +kernel)
theorem wE_yX8_lays1 : Cond.selects RX8 yX8_lays1 yX8_lays1 ∈ W0 := W0_p (i := 23) (by decide +kernel) (by decide +kernel)
theorem wE_yX8_no : Cond.selects RX8 yX8_no yX8_no ∈ W0 := W0_p (i := 24) (by decide +kernel) (by decide +kernel)
theorem wE_yX8_of1 : Cond.selects RX8 yX8_of1 yX8_of1 ∈ W0 := W0_p (i := 25) (by decide +kernel) (by decide +kernel)
theorem wE_yX8_inside : Cond.selects RX8 yX8_inside yX8_inside ∈ W0 := W0_p (i := 26) (by decide +kernel) (by decide +kernel)
theorem wE_yX8_get : Cond.selects RX8 yX8_get yX8_get ∈ W0 := W0_p (i := 27) (by decide +kernel) (by decide +kernel)
theorem wE_yX8_seenIn : Cond.selects RX8 yX8_seenIn yX8_seenIn ∈ W0 := W0_p (i := 28) (by decide +kernel) (by decide +kernel)
theorem wE_yX8_addsThing : Cond.selects RX8 yX8_addsThing yX8_addsThing ∈ W0 := W0_p (i := 29) (by decide +kernel) (by decide +kernel)
theorem wE_yX8_puts : Cond.selects RX8 yX8_puts yX8_puts ∈ W0 := W0_p (i := 30) (by decide +kernel) (by decide +kernel)
theorem wE_yX8_isThing : Cond.selects RX8 yX8_isThing yX8_isThing ∈ W0 := W0_p (i := 31) (by decide +kernel) (by decide +kernel)
theorem wE_yX8_nextOf : Cond.selects RX8 yX8_nextOf yX8_nextOf ∈ W0 := W0_p (i := 32) (by decide +kernel) (by decide +kernel)
theorem wE_yX8_dryNext : Cond.selects RX8 yX8_dryNext yX8_dryNext ∈ W0 := W0_p (i := 33) (by decide +kernel) (by decide +kernel)
theorem wE_yX8_asFrog : Cond.selects RX8 yX8_asFrog yX8_asFrog ∈ W0 := W0_p (i := 34) (by decide +kernel) (by decide +kernel)
theorem wE_yX8_asHeron : Cond.selects RX8 yX8_asHeron yX8_asHeron ∈ W0 := W0_p (i := 35) (by decide +kernel) (by decide +kernel)
theorem wE_yX8_showing : Cond.selects RX8 yX8_showing yX8_showing ∈ W0 := W0_p (i := 36) (by decide +kernel) (by decide +kernel)
theorem wE_yX8_hasFish : Cond.selects RX8 yX8_hasFish yX8_hasFish ∈ W0 := W0_p (i := 37) (by decide +kernel) (by decide +kernel)
theorem wE_yX8_minute : Cond.selects RX8 yX8_minute yX8_minute ∈ W0 := W0_p (i := 38) (by decide +kernel) (by decide +kernel)
theorem wE_yX8_pondsWith : Cond.selects RX8 yX8_pondsWith yX8_pondsWith ∈ W0 := W0_p (i := 39) (by decide +kernel) (by decide +kernel)
theorem wE_yX8_lengths : Cond.selects RX8 yX8_lengths yX8_lengths ∈ W0 := W0_p (i := 40) (by decide +kernel) (by decide +kernel)
theorem wE_yX8_goesThrough : Cond.selects RX8 yX8_goesThrough yX8_goesThrough ∈ W0 := W0_p (i := 41) (by decide +kernel) (by decide +kernel)
theorem wE_yX8_begins : Cond.selects RX8 yX8_begins yX8_begins ∈ W0 := W0_p (i := 42) (by decide +kernel) (by decide +kernel)
theorem wE_yX8_steps : Cond.selects RX8 yX8_steps yX8_steps ∈ W0 := W0_p (i := 43) (by decide +kernel) (by decide +kernel)
theorem wE_yX8_roundOf : Cond.selects RX8 yX8_roundOf yX8_roundOf ∈ W0 := W0_p (i := 44) (by decide +kernel) (by decide +kernel)
theorem wE_yX8_isRound : Cond.selects RX8 yX8_isRound yX8_isRound ∈ W0 := W0_p (i := 45) (by decide +kernel) (by decide +kernel)
theorem wE_yX8_aheadOf : Cond.selects RX8 yX8_aheadOf yX8_aheadOf ∈ W0 := W0_p (i := 46) (by decide +kernel) (by decide +kernel)
theorem wE_yX8_setsAside : Cond.selects RX8 yX8_setsAside yX8_setsAside ∈ W0 := W0_p (i := 47) (by decide +kernel) (by decide +kernel)
theorem wE_yX8_laysBack : Cond.selects RX8 yX8_laysBack yX8_laysBack ∈ W0 := W0_p (i := 48) (by decide +kernel) (by decide +kernel)
theorem wE_yX8_firstBy : Cond.selects RX8 yX8_firstBy yX8_firstBy ∈ W0 := W0_p (i := 49) (by decide +kernel) (by decide +kernel)
theorem wE_yX8_countsNone : Cond.selects RX8 yX8_countsNone yX8_countsNone ∈ W0 := W0_p (i := 50) (by decide +kernel) (by decide +kernel)
theorem wE_yX8_mostOf : Cond.selects RX8 yX8_mostOf yX8_mostOf ∈ W0 := W0_p (i := 51) (by decide +kernel) (by decide +kernel)
theorem wE_yX8_wrongSight : Cond.selects RX8 yX8_wrongSight yX8_wrongSight ∈ W0 := W0_p (i := 52) (by decide +kernel) (by decide +kernel)
theorem wE_yX8_wrongSheet : Cond.selects RX8 yX8_wrongSheet yX8_wrongSheet ∈ W0 := W0_p (i := 53) (by decide +kernel) (by decide +kernel)
theorem wE_yX8_fitsAs : Cond.selects RX8 yX8_fitsAs yX8_fitsAs ∈ W0 := W0_p (i := 54) (by decide +kernel) (by decide +kernel)
theorem wE_yX8_told : Cond.selects RX8 yX8_told yX8_told ∈ W0 := W0_p (i := 55) (by decide +kernel) (by decide +kernel)
theorem wE_yX8_draw : Cond.selects RX8 yX8_draw yX8_draw ∈ W0 := W0_p (i := 56) (by decide +kernel) (by decide +kernel)
theorem wE_yX8_nextToken : Cond.selects RX8 yX8_nextToken yX8_nextToken ∈ W0 := W0_p (i := 57) (by decide +kernel) (by decide +kernel)
theorem wE_yX8_readsItem : Cond.selects RX8 yX8_readsItem yX8_readsItem ∈ W0 := W0_p (i := 58) (by decide +kernel) (by decide +kernel)
theorem wE_yX8_wordOf : Cond.selects RX8 yX8_wordOf yX8_wordOf ∈ W0 := W0_p (i := 59) (by decide +kernel) (by decide +kernel)
theorem wE_yX8_readsThing : Cond.selects RX8 yX8_readsThing yX8_readsThing ∈ W0 := W0_p (i := 60) (by decide +kernel) (by decide +kernel)
theorem wE_yX8_takesNumber : Cond.selects RX8 yX8_takesNumber yX8_takesNumber ∈ W0 := W0_p (i := 61) (by decide +kernel) (by decide +kernel)
theorem wE_yX8_readsPond : Cond.selects RX8 yX8_readsPond yX8_readsPond ∈ W0 := W0_p (i := 62) (by decide +kernel) (by decide +kernel)
theorem inX0 : ∀ w ∈ wsX00, w ∈ W0 := fun w hw => List.mem_filter.mpr ⟨List.mem_append_right _ (by revert w; decide +kernel), by revert w; decide +kernel⟩
theorem inX1 : ∀ w ∈ wsX10, w ∈ W0 := fun w hw => List.mem_filter.mpr ⟨List.mem_append_right _ (by revert w; decide +kernel), by revert w; decide +kernel⟩
theorem inX2 : ∀ w ∈ wsX20, w ∈ W0 := fun w hw => List.mem_filter.mpr ⟨List.mem_append_right _ (by revert w; decide +kernel), by revert w; decide +kernel⟩
theorem inX3 : ∀ w ∈ wsX30, w ∈ W0 := fun w hw => List.mem_filter.mpr ⟨List.mem_append_right _ (by revert w; decide +kernel), by revert w; decide +kernel⟩
theorem inX4 : ∀ w ∈ wsX40, w ∈ W0 := fun w hw => List.mem_filter.mpr ⟨List.mem_append_right _ (by revert w; decide +kernel), by revert w; decide +kernel⟩
theorem inX5 : ∀ w ∈ wsX50, w ∈ W0 := fun w hw => List.mem_filter.mpr ⟨List.mem_append_right _ (by revert w; decide +kernel), by revert w; decide +kernel⟩
theorem inX6 : ∀ w ∈ wsX60, w ∈ W0 := fun w hw => List.mem_filter.mpr ⟨List.mem_append_right _ (by revert w; decide +kernel), by revert w; decide +kernel⟩
theorem inX7 : ∀ w ∈ wsX70, w ∈ W0 := fun w hw => List.mem_filter.mpr ⟨List.mem_append_right _ (by revert w; decide +kernel), by revert w; decide +kernel⟩
theorem inX8 : ∀ w ∈ wsX80, w ∈ W0 := fun w hw => List.mem_filter.mpr ⟨List.mem_append_right _ (by revert w; decide +kernel), by revert w; decide +kernel⟩
end
section
abbrev dT : Type := List (Nat × Instr × Nat)
theorem dAt {c : ByteArray} {l : dT} (h : l.all (fun q => decide (decode c q.1 = .ok q.2)) = true) (i : Nat) {q : Nat × Instr × Nat} (hi : l[i]? = some q) : decode c q.1 = .ok q.2 := by
  have h1 := List.all_eq_true.mp h q (List.mem_of_getElem? hi)
  simpa using h1
def TX0_init_0 : dT := [(0, .aload_n 0, 1), (1, .invokespecial 3, 3), (4, .aload_n 0, 1), (5, .iconst 0, 1), (6, .putfield 9, 3), (9, .aload_n 0, 1), (10, .bipush 81, 2), (12, .putfield 15, 3), (15, .aload_n 0, 1), (16, .iconst 0, 1), (17, .putfield 18, 3), (20, .aload_n 0, 1), (21, .iconst 0, 1), (22, .putfield 21, 3), (25, .return_, 1)]
set_option maxRecDepth 20000 in
theorem DX0_init_0 : TX0_init_0.all (fun q => decide (decode cX0_init q.1 = .ok q.2)) = true := by decide +kernel
def TX0_begin_0 : dT := [(0, .aload_n 0, 1), (1, .iload_n 1, 1), (2, .putfield 9, 3), (5, .aload_n 0, 1), (6, .bipush 81, 2), (8, .putfield 15, 3), (11, .aload_n 0, 1), (12, .iconst 0, 1), (13, .putfield 18, 3), (16, .aload_n 0, 1), (17, .iconst 0, 1), (18, .putfield 21, 3), (21, .return_, 1)]
set_option maxRecDepth 20000 in
theorem DX0_begin_0 : TX0_begin_0.all (fun q => decide (decode cX0_begin q.1 = .ok q.2)) = true := by decide +kernel
def TX0_step_0 : dT := [(0, .aload_n 1, 1), (1, .getfield 24, 3), (4, .iconst 2, 1), (5, .aaload, 1), (6, .aload_n 0, 1), (7, .getfield 9, 3), (10, .iaload, 1), (11, .istore_n 2, 1), (12, .aload_n 0, 1), (13, .aload_n 0, 1), (14, .getfield 15, 3), (17, .aload_n 1, 1), (18, .getfield 24, 3), (21, .iconst 1, 1), (22, .aaload, 1), (23, .aload_n 0, 1), (24, .getfield 9, 3), (27, .iaload, 1), (28, .imul, 1), (29, .iconst 3, 1), (30, .idiv, 1), (31, .ldc 30, 2), (33, .invokestatic 31, 3), (36, .putfield 15, 3), (39, .aload_n 0, 1), (40, .aload_n 0, 1), (41, .getfield 21, 3), (44, .iconst 1, 1), (45, .if_icmp .ne 12, 3), (48, .aload_n 0, 1), (49, .getfield 18, 3), (52, .iload_n 2, 1), (53, .isub, 1), (54, .goto 9, 3), (57, .aload_n 0, 1), (58, .getfield 18, 3), (61, .iload_n 2, 1), (62, .iadd, 1), (63, .iconst 4, 1), (64, .invokestatic 37, 3), (67, .putfield 18, 3), (70, .aload_n 0, 1), (71, .dup, 1), (72, .getfield 21, 3), (75, .aload_n 1, 1), (76, .getfield 24, 3), (79, .iconst 3, 1), (80, .aaload, 1), (81, .aload_n 0, 1), (82, .getfield 9, 3), (85, .iaload, 1), (86, .ixor, 1), (87, .putfield 21, 3), (90, .aload_n 0, 1), (91, .aload_n 1, 1), (92, .getfield 24, 3), (95, .iconst 0, 1), (96, .aaload, 1), (97, .aload_n 0, 1), (98, .getfield 9, 3), (101, .iaload, 1), (102, .putfield 9, 3), (105, .return_, 1)]
set_option maxRecDepth 20000 in
theorem DX0_step_0 : TX0_step_0.all (fun q => decide (decode cX0_step q.1 = .ok q.2)) = true := by decide +kernel
def TX0_take_0 : dT := [(0, .aload_n 0, 1), (1, .iload_n 2, 1), (2, .invokevirtual 40, 3), (5, .iconst 0, 1), (6, .istore 4, 2), (8, .iload 4, 2), (10, .iload_n 3, 1), (11, .if_icmp .ge 14, 3), (14, .aload_n 0, 1), (15, .aload_n 1, 1), (16, .invokevirtual 44, 3), (19, .iinc 4 1, 3), (22, .goto (-14), 3), (25, .return_, 1)]
set_option maxRecDepth 20000 in
theorem DX0_take_0 : TX0_take_0.all (fun q => decide (decode cX0_take q.1 = .ok q.2)) = true := by decide +kernel
def TX1_init_0 : dT := [(0, .aload_n 0, 1), (1, .invokespecial 3, 3), (4, .aload_n 0, 1), (5, .bipush 6, 2), (7, .bipush 16, 2), (9, .multianewarray 9 2, 4), (13, .putfield 11, 3), (16, .aload_n 0, 1), (17, .iconst 3, 1), (18, .bipush 8, 2), (20, .multianewarray 9 2, 4), (24, .putfield 16, 3), (27, .aload_n 0, 1), (28, .bipush 10, 2), (30, .newarray .int, 2), (32, .putfield 19, 3), (35, .aload_n 0, 1), (36, .iconst 0, 1), (37, .putfield 23, 3), (40, .aload_n 0, 1), (41, .iconst 0, 1), (42, .putfield 27, 3), (45, .aload_n 0, 1), (46, .iconst 0, 1), (47, .putfield 30, 3), (50, .aload_n 0, 1), (51, .iconst 1, 1), (52, .putfield 33, 3), (55, .iconst 0, 1), (56, .istore_n 1, 1), (57, .iload_n 1, 1), (58, .bipush 16, 2), (60, .if_icmp .ge 51, 3), (63, .aload_n 0, 1), (64, .getfield 11, 3), (67, .iconst 0, 1), (68, .aaload, 1), (69, .iload_n 1, 1), (70, .iload_n 1, 1), (71, .iconst 1, 1), (72, .iadd, 1), (73, .bipush 16, 2), (75, .irem, 1), (76, .iastore, 1), (77, .aload_n 0, 1), (78, .getfield 11, 3), (81, .iconst 1, 1), (82, .aaload, 1), (83, .iload_n 1, 1), (84, .iconst 3, 1), (85, .iastore, 1), (86, .aload_n 0, 1), (87, .getfield 11, 3), (90, .iconst 4, 1), (91, .aaload, 1), (92, .iload_n 1, 1), (93, .iload_n 1, 1), (94, .iastore, 1), (95, .aload_n 0, 1), (96, .getfield 11, 3), (99, .iconst 5, 1), (100, .aaload, 1), (101, .iload_n 1, 1), (102, .bipush 10, 2), (104, .iastore, 1), (105, .iinc 1 1, 3), (108, .goto (-51), 3), (111, .iconst 0, 1), (112, .istore_n 1, 1), (113, .iload_n 1, 1), (114, .bipush 10, 2), (116, .if_icmp .ge 16, 3), (119, .aload_n 0, 1), (120, .getfield 19, 3), (123, .iload_n 1, 1), (124, .iconst (-1), 1), (125, .iastore, 1), (126, .iinc 1 1, 3), (129, .goto (-16), 3), (132, .return_, 1)]
set_option maxRecDepth 20000 in
theorem DX1_init_0 : TX1_init_0.all (fun q => decide (decode cX1_init q.1 = .ok q.2)) = true := by decide +kernel
def TX1_become_0 : dT := [(0, .iconst 0, 1), (1, .istore_n 2, 1), (2, .iload_n 2, 1), (3, .iconst 5, 1), (4, .if_icmp .gt 28, 3), (7, .aload_n 1, 1), (8, .getfield 11, 3), (11, .iload_n 2, 1), (12, .aaload, 1), (13, .iconst 0, 1), (14, .aload_n 0, 1), (15, .getfield 11, 3), (18, .iload_n 2, 1), (19, .aaload, 1), (20, .iconst 0, 1), (21, .bipush 16, 2), (23, .invokestatic 36, 3), (26, .iinc 2 1, 3), (29, .goto (-27), 3), (32, .iconst 0, 1), (33, .istore_n 2, 1), (34, .iload_n 2, 1), (35, .iconst 2, 1), (36, .if_icmp .gt 28, 3), (39, .aload_n 1, 1), (40, .getfield 16, 3), (43, .iload_n 2, 1), (44, .aaload, 1), (45, .iconst 0, 1), (46, .aload_n 0, 1), (47, .getfield 16, 3), (50, .iload_n 2, 1), (51, .aaload, 1), (52, .iconst 0, 1), (53, .bipush 8, 2), (55, .invokestatic 36, 3), (58, .iinc 2 1, 3), (61, .goto (-27), 3), (64, .aload_n 1, 1), (65, .getfield 19, 3), (68, .iconst 0, 1), (69, .aload_n 0, 1), (70, .getfield 19, 3), (73, .iconst 0, 1), (74, .bipush 10, 2), (76, .invokestatic 36, 3), (79, .aload_n 0, 1), (80, .aload_n 1, 1), (81, .getfield 23, 3), (84, .putfield 23, 3), (87, .aload_n 0, 1), (88, .aload_n 1, 1), (89, .getfield 27, 3), (92, .putfield 27, 3), (95, .aload_n 0, 1), (96, .aload_n 1, 1), (97, .getfield 30, 3), (100, .putfield 30, 3), (103, .aload_n 0, 1), (104, .aload_n 1, 1), (105, .getfield 33, 3), (108, .putfield 33, 3), (111, .return_, 1)]
set_option maxRecDepth 20000 in
theorem DX1_become_0 : TX1_become_0.all (fun q => decide (decode cX1_become q.1 = .ok q.2)) = true := by decide +kernel
def TX1_has_0 : dT := [(0, .iload_n 1, 1), (1, .ifCond .lt 15, 3), (4, .iload_n 1, 1), (5, .aload_n 0, 1), (6, .getfield 23, 3), (9, .if_icmp .ge 7, 3), (12, .iconst 1, 1), (13, .goto 4, 3), (16, .iconst 0, 1), (17, .ireturn, 1)]
set_option maxRecDepth 20000 in
theorem DX1_has_0 : TX1_has_0.all (fun q => decide (decode cX1_has q.1 = .ok q.2)) = true := by decide +kernel
def TX1_isFull_0 : dT := [(0, .aload_n 0, 1), (1, .getfield 23, 3), (4, .bipush 8, 2), (6, .if_icmp .lt 7, 3), (9, .iconst 1, 1), (10, .goto 4, 3), (13, .iconst 0, 1), (14, .ireturn, 1)]
set_option maxRecDepth 20000 in
theorem DX1_isFull_0 : TX1_isFull_0.all (fun q => decide (decode cX1_isFull q.1 = .ok q.2)) = true := by decide +kernel
def TX1_add_0 : dT := [(0, .aload_n 0, 1), (1, .getfield 23, 3), (4, .istore 4, 2), (6, .iload 4, 2), (8, .bipush 8, 2), (10, .if_icmp .ge 43, 3), (13, .aload_n 0, 1), (14, .getfield 16, 3), (17, .iconst 0, 1), (18, .aaload, 1), (19, .iload 4, 2), (21, .iload_n 1, 1), (22, .iastore, 1), (23, .aload_n 0, 1), (24, .getfield 16, 3), (27, .iconst 1, 1), (28, .aaload, 1), (29, .iload 4, 2), (31, .iload_n 2, 1), (32, .iastore, 1), (33, .aload_n 0, 1), (34, .getfield 16, 3), (37, .iconst 2, 1), (38, .aaload, 1), (39, .iload 4, 2), (41, .iload_n 3, 1), (42, .iastore, 1), (43, .aload_n 0, 1), (44, .dup, 1), (45, .getfield 23, 3), (48, .iconst 1, 1), (49, .iadd, 1), (50, .putfield 23, 3), (53, .iload 4, 2), (55, .ireturn, 1)]
set_option maxRecDepth 20000 in
theorem DX1_add_0 : TX1_add_0.all (fun q => decide (decode cX1_add q.1 = .ok q.2)) = true := by decide +kernel
def TX1_isOfKind_0 : dT := [(0, .getstatic 42, 3), (3, .iload_n 2, 1), (4, .iaload, 1), (5, .aload_n 0, 1), (6, .getfield 16, 3), (9, .iconst 0, 1), (10, .aaload, 1), (11, .iload_n 1, 1), (12, .iaload, 1), (13, .ishr, 1), (14, .iconst 1, 1), (15, .iand, 1), (16, .ifCond .eq 7, 3), (19, .iconst 1, 1), (20, .goto 4, 3), (23, .iconst 0, 1), (24, .ireturn, 1)]
set_option maxRecDepth 20000 in
theorem DX1_isOfKind_0 : TX1_isOfKind_0.all (fun q => decide (decode cX1_isOfKind q.1 = .ok q.2)) = true := by decide +kernel
def TX1_thingsIn_0 : dT := [(0, .iconst 0, 1), (1, .istore_n 2, 1), (2, .iconst 0, 1), (3, .istore_n 3, 1), (4, .iload_n 3, 1), (5, .aload_n 0, 1), (6, .getfield 23, 3), (9, .if_icmp .ge 27, 3), (12, .aload_n 0, 1), (13, .getfield 16, 3), (16, .iconst 1, 1), (17, .aaload, 1), (18, .iload_n 3, 1), (19, .iaload, 1), (20, .iload_n 1, 1), (21, .if_icmp .ne 9, 3), (24, .iload_n 2, 1), (25, .iconst 1, 1), (26, .iload_n 3, 1), (27, .ishl, 1), (28, .ior, 1), (29, .istore_n 2, 1), (30, .iinc 3 1, 3), (33, .goto (-29), 3), (36, .iload_n 2, 1), (37, .ireturn, 1)]
set_option maxRecDepth 20000 in
theorem DX1_thingsIn_0 : TX1_thingsIn_0.all (fun q => decide (decode cX1_thingsIn q.1 = .ok q.2)) = true := by decide +kernel
def TX1_thingsSeenIn_0 : dT := [(0, .aload_n 0, 1), (1, .aload_n 0, 1), (2, .getfield 11, 3), (5, .iconst 0, 1), (6, .aaload, 1), (7, .iload_n 1, 1), (8, .iaload, 1), (9, .invokevirtual 45, 3), (12, .ireturn, 1)]
set_option maxRecDepth 20000 in
theorem DX1_thingsSeenIn_0 : TX1_thingsSeenIn_0.all (fun q => decide (decode cX1_thingsSeenIn q.1 = .ok q.2)) = true := by decide +kernel
def TX1_showersOf_0 : dT := [(0, .iconst 0, 1), (1, .istore_n 2, 1), (2, .iconst 0, 1), (3, .istore_n 3, 1), (4, .iload_n 3, 1), (5, .bipush 16, 2), (7, .if_icmp .ge 27, 3), (10, .aload_n 0, 1), (11, .getfield 11, 3), (14, .iconst 0, 1), (15, .aaload, 1), (16, .iload_n 3, 1), (17, .iaload, 1), (18, .iload_n 1, 1), (19, .if_icmp .ne 9, 3), (22, .iload_n 2, 1), (23, .iconst 1, 1), (24, .iload_n 3, 1), (25, .ishl, 1), (26, .ior, 1), (27, .istore_n 2, 1), (28, .iinc 3 1, 3), (31, .goto (-27), 3), (34, .iload_n 2, 1), (35, .ireturn, 1)]
set_option maxRecDepth 20000 in
theorem DX1_showersOf_0 : TX1_showersOf_0.all (fun q => decide (decode cX1_showersOf q.1 = .ok q.2)) = true := by decide +kernel
def TX1_pondsWithThings_0 : dT := [(0, .iconst 0, 1), (1, .istore_n 1, 1), (2, .iconst 0, 1), (3, .istore_n 2, 1), (4, .iload_n 2, 1), (5, .aload_n 0, 1), (6, .getfield 23, 3), (9, .if_icmp .ge 22, 3), (12, .iload_n 1, 1), (13, .iconst 1, 1), (14, .aload_n 0, 1), (15, .getfield 16, 3), (18, .iconst 1, 1), (19, .aaload, 1), (20, .iload_n 2, 1), (21, .iaload, 1), (22, .ishl, 1), (23, .ior, 1), (24, .istore_n 1, 1), (25, .iinc 2 1, 3), (28, .goto (-24), 3), (31, .iload_n 1, 1), (32, .ireturn, 1)]
set_option maxRecDepth 20000 in
theorem DX1_pondsWithThings_0 : TX1_pondsWithThings_0.all (fun q => decide (decode cX1_pondsWithThings q.1 = .ok q.2)) = true := by decide +kernel
def TX1_pondsWithSights_0 : dT := [(0, .aload_n 0, 1), (1, .invokevirtual 49, 3), (4, .istore_n 1, 1), (5, .iconst 0, 1), (6, .istore_n 2, 1), (7, .iconst 0, 1), (8, .istore_n 3, 1), (9, .iload_n 3, 1), (10, .bipush 16, 2), (12, .if_icmp .ge 30, 3), (15, .iload_n 1, 1), (16, .aload_n 0, 1), (17, .getfield 11, 3), (20, .iconst 0, 1), (21, .aaload, 1), (22, .iload_n 3, 1), (23, .iaload, 1), (24, .ishr, 1), (25, .iconst 1, 1), (26, .iand, 1), (27, .ifCond .eq 9, 3), (30, .iload_n 2, 1), (31, .iconst 1, 1), (32, .iload_n 3, 1), (33, .ishl, 1), (34, .ior, 1), (35, .istore_n 2, 1), (36, .iinc 3 1, 3), (39, .goto (-30), 3), (42, .iload_n 2, 1), (43, .ireturn, 1)]
set_option maxRecDepth 20000 in
theorem DX1_pondsWithSights_0 : TX1_pondsWithSights_0.all (fun q => decide (decode cX1_pondsWithSights q.1 = .ok q.2)) = true := by decide +kernel
def TX1_lengths_0 : dT := [(0, .iconst 0, 1), (1, .istore_n 1, 1), (2, .iconst 0, 1), (3, .istore_n 2, 1), (4, .iload_n 2, 1), (5, .aload_n 0, 1), (6, .getfield 23, 3), (9, .if_icmp .ge 20, 3), (12, .iload_n 1, 1), (13, .aload_n 0, 1), (14, .getfield 16, 3), (17, .iconst 2, 1), (18, .aaload, 1), (19, .iload_n 2, 1), (20, .iaload, 1), (21, .iadd, 1), (22, .istore_n 1, 1), (23, .iinc 2 1, 3), (26, .goto (-22), 3), (29, .iload_n 1, 1), (30, .ireturn, 1)]
set_option maxRecDepth 20000 in
theorem DX1_lengths_0 : TX1_lengths_0.all (fun q => decide (decode cX1_lengths q.1 = .ok q.2)) = true := by decide +kernel
def TX1_spotsInUse_0 : dT := [(0, .iconst 0, 1), (1, .istore_n 1, 1), (2, .aload_n 0, 1), (3, .getfield 19, 3), (6, .astore_n 2, 1), (7, .aload_n 2, 1), (8, .arraylength, 1), (9, .istore_n 3, 1), (10, .iconst 0, 1), (11, .istore 4, 2), (13, .iload 4, 2), (15, .iload_n 3, 1), (16, .if_icmp .ge 23, 3), (19, .aload_n 2, 1), (20, .iload 4, 2), (22, .iaload, 1), (23, .istore 5, 2), (25, .iload 5, 2), (27, .ifCond .lt 6, 3), (30, .iinc 1 1, 3), (33, .iinc 4 1, 3), (36, .goto (-23), 3), (39, .iload_n 1, 1), (40, .ireturn, 1)]
set_option maxRecDepth 20000 in
theorem DX1_spotsInUse_0 : TX1_spotsInUse_0.all (fun q => decide (decode cX1_spotsInUse q.1 = .ok q.2)) = true := by decide +kernel
def TX1_passMinute_0 : dT := [(0, .iconst 0, 1), (1, .istore_n 1, 1), (2, .iload_n 1, 1), (3, .aload_n 0, 1), (4, .getfield 23, 3), (7, .if_icmp .ge 22, 3), (10, .aload_n 0, 1), (11, .getfield 16, 3), (14, .iconst 1, 1), (15, .aaload, 1), (16, .iload_n 1, 1), (17, .aload_n 0, 1), (18, .iload_n 1, 1), (19, .invokevirtual 53, 3), (22, .iastore, 1), (23, .iinc 1 1, 3), (26, .goto (-24), 3), (29, .aload_n 0, 1), (30, .aload_n 0, 1), (31, .getfield 30, 3), (34, .iconst 1, 1), (35, .iadd, 1), (36, .ldc 56, 2), (38, .invokestatic 57, 3), (41, .putfield 30, 3), (44, .return_, 1)]
set_option maxRecDepth 20000 in
theorem DX1_passMinute_0 : TX1_passMinute_0.all (fun q => decide (decode cX1_passMinute q.1 = .ok q.2)) = true := by decide +kernel
def TX1_nextPond_0 : dT := [(0, .aload_n 0, 1), (1, .getfield 16, 3), (4, .iconst 1, 1), (5, .aaload, 1), (6, .iload_n 1, 1), (7, .iaload, 1), (8, .istore_n 2, 1), (9, .iload_n 2, 1), (10, .istore_n 3, 1), (11, .aload_n 0, 1), (12, .getfield 16, 3), (15, .iconst 0, 1), (16, .aaload, 1), (17, .iload_n 1, 1), (18, .iaload, 1), (19, .tableswitch 123 1 6 #[37, 49, 61, 70, 79, 114], 37), (56, .aload_n 0, 1), (57, .getfield 11, 3), (60, .iconst 4, 1), (61, .aaload, 1), (62, .iload_n 2, 1), (63, .iaload, 1), (64, .istore_n 3, 1), (65, .goto 77, 3), (68, .aload_n 0, 1), (69, .getfield 11, 3), (72, .iconst 0, 1), (73, .aaload, 1), (74, .iload_n 2, 1), (75, .iaload, 1), (76, .istore_n 3, 1), (77, .goto 65, 3), (80, .aload_n 0, 1), (81, .iload_n 2, 1), (82, .invokevirtual 63, 3), (85, .istore_n 3, 1), (86, .goto 56, 3), (89, .aload_n 0, 1), (90, .iload_n 2, 1), (91, .invokevirtual 66, 3), (94, .istore_n 3, 1), (95, .goto 47, 3), (98, .aload_n 0, 1), (99, .getfield 11, 3), (102, .iconst 5, 1), (103, .aaload, 1), (104, .iload_n 2, 1), (105, .iaload, 1), (106, .aload_n 0, 1), (107, .getfield 16, 3), (110, .iconst 2, 1), (111, .aaload, 1), (112, .iload_n 1, 1), (113, .iaload, 1), (114, .if_icmp .ge 14, 3), (117, .aload_n 0, 1), (118, .getfield 11, 3), (121, .iconst 4, 1), (122, .aaload, 1), (123, .iload_n 2, 1), (124, .iaload, 1), (125, .goto 4, 3), (128, .iload_n 2, 1), (129, .istore_n 3, 1), (130, .goto 12, 3), (133, .aload_n 0, 1), (134, .iload_n 2, 1), (135, .invokevirtual 69, 3), (138, .istore_n 3, 1), (139, .goto 3, 3), (142, .iload_n 3, 1), (143, .aload_n 0, 1), (144, .getfield 27, 3), (147, .iadd, 1), (148, .bipush 16, 2), (150, .irem, 1), (151, .ireturn, 1)]
set_option maxRecDepth 20000 in
theorem DX1_nextPond_0 : TX1_nextPond_0.all (fun q => decide (decode cX1_nextPond q.1 = .ok q.2)) = true := by decide +kernel
def TX1_nextOfFrog_0 : dT := [(0, .aload_n 0, 1), (1, .getfield 30, 3), (4, .iconst 2, 1), (5, .irem, 1), (6, .ifCond .ne 14, 3), (9, .aload_n 0, 1), (10, .getfield 11, 3), (13, .iconst 0, 1), (14, .aaload, 1), (15, .iload_n 1, 1), (16, .iaload, 1), (17, .goto 4, 3), (20, .iload_n 1, 1), (21, .ireturn, 1)]
set_option maxRecDepth 20000 in
theorem DX1_nextOfFrog_0 : TX1_nextOfFrog_0.all (fun q => decide (decode cX1_nextOfFrog q.1 = .ok q.2)) = true := by decide +kernel
def TX1_nextOfHeron_0 : dT := [(0, .iconst 0, 1), (1, .istore_n 2, 1), (2, .iload_n 2, 1), (3, .bipush 16, 2), (5, .if_icmp .ge 39, 3), (8, .aload_n 0, 1), (9, .getfield 11, 3), (12, .iconst 0, 1), (13, .aaload, 1), (14, .iload_n 2, 1), (15, .iaload, 1), (16, .iload_n 1, 1), (17, .if_icmp .ne 21, 3), (20, .aload_n 0, 1), (21, .iload_n 2, 1), (22, .invokevirtual 72, 3), (25, .ifCond .eq 7, 3), (28, .iload_n 2, 1), (29, .goto 8, 3), (32, .aload_n 0, 1), (33, .iload_n 1, 1), (34, .invokevirtual 63, 3), (37, .ireturn, 1), (38, .iinc 2 1, 3), (41, .goto (-39), 3), (44, .aload_n 0, 1), (45, .iload_n 1, 1), (46, .invokevirtual 63, 3), (49, .ireturn, 1)]
set_option maxRecDepth 20000 in
theorem DX1_nextOfHeron_0 : TX1_nextOfHeron_0.all (fun q => decide (decode cX1_nextOfHeron q.1 = .ok q.2)) = true := by decide +kernel
def TX1_nextOfPike_0 : dT := [(0, .aload_n 0, 1), (1, .getfield 11, 3), (4, .iconst 0, 1), (5, .aaload, 1), (6, .iload_n 1, 1), (7, .iaload, 1), (8, .istore_n 2, 1), (9, .aload_n 0, 1), (10, .iload_n 2, 1), (11, .invokevirtual 72, 3), (14, .ifCond .eq 7, 3), (17, .iload_n 2, 1), (18, .goto 11, 3), (21, .aload_n 0, 1), (22, .getfield 11, 3), (25, .iconst 4, 1), (26, .aaload, 1), (27, .iload_n 1, 1), (28, .iaload, 1), (29, .ireturn, 1)]
set_option maxRecDepth 20000 in
theorem DX1_nextOfPike_0 : TX1_nextOfPike_0.all (fun q => decide (decode cX1_nextOfPike q.1 = .ok q.2)) = true := by decide +kernel
def TX1_hasFishIn_0 : dT := [(0, .iconst 0, 1), (1, .istore_n 2, 1), (2, .iload_n 2, 1), (3, .aload_n 0, 1), (4, .getfield 23, 3), (7, .if_icmp .ge 52, 3), (10, .getstatic 42, 3), (13, .iconst 1, 1), (14, .iaload, 1), (15, .aload_n 0, 1), (16, .getfield 16, 3), (19, .iconst 0, 1), (20, .aaload, 1), (21, .iload_n 2, 1), (22, .iaload, 1), (23, .ishr, 1), (24, .iconst 1, 1), (25, .iand, 1), (26, .ifCond .eq 7, 3), (29, .iconst 1, 1), (30, .goto 4, 3), (33, .iconst 0, 1), (34, .istore_n 3, 1), (35, .iload_n 3, 1), (36, .ifCond .eq 17, 3), (39, .aload_n 0, 1), (40, .getfield 16, 3), (43, .iconst 1, 1), (44, .aaload, 1), (45, .iload_n 2, 1), (46, .iaload, 1), (47, .iload_n 1, 1), (48, .if_icmp .ne 5, 3), (51, .iconst 1, 1), (52, .ireturn, 1), (53, .iinc 2 1, 3), (56, .goto (-54), 3), (59, .iconst 0, 1), (60, .ireturn, 1)]
set_option maxRecDepth 20000 in
theorem DX1_hasFishIn_0 : TX1_hasFishIn_0.all (fun q => decide (decode cX1_hasFishIn q.1 = .ok q.2)) = true := by decide +kernel
def TX1_draw_0 : dT := [(0, .aload_n 0, 1), (1, .aload_n 0, 1), (2, .getfield 33, 3), (5, .ldc 76, 2), (7, .imul, 1), (8, .sipush 12345, 3), (11, .iadd, 1), (12, .putfield 33, 3), (15, .aload_n 0, 1), (16, .getfield 33, 3), (19, .bipush 8, 2), (21, .iushr, 1), (22, .ireturn, 1)]
set_option maxRecDepth 20000 in
theorem DX1_draw_0 : TX1_draw_0.all (fun q => decide (decode cX1_draw q.1 = .ok q.2)) = true := by decide +kernel
def TX1_dropOne_0 : dT := [(0, .aload_n 0, 1), (1, .getfield 23, 3), (4, .ifCond .le 28, 3), (7, .aload_n 0, 1), (8, .invokevirtual 77, 3), (11, .aload_n 0, 1), (12, .getfield 23, 3), (15, .irem, 1), (16, .istore_n 1, 1), (17, .aload_n 0, 1), (18, .getfield 16, 3), (21, .iconst 1, 1), (22, .aaload, 1), (23, .iload_n 1, 1), (24, .aload_n 0, 1), (25, .invokevirtual 77, 3), (28, .bipush 16, 2), (30, .irem, 1), (31, .iastore, 1), (32, .return_, 1)]
set_option maxRecDepth 20000 in
theorem DX1_dropOne_0 : TX1_dropOne_0.all (fun q => decide (decode cX1_dropOne q.1 = .ok q.2)) = true := by decide +kernel
def TX1_chainEnd_0 : dT := [(0, .iload_n 1, 1), (1, .istore_n 3, 1), (2, .iconst 0, 1), (3, .istore 4, 2), (5, .iload 4, 2), (7, .iload_n 2, 1), (8, .if_icmp .ge 18, 3), (11, .aload_n 0, 1), (12, .getfield 11, 3), (15, .iconst 0, 1), (16, .aaload, 1), (17, .iload_n 3, 1), (18, .iaload, 1), (19, .istore_n 3, 1), (20, .iinc 4 1, 3), (23, .goto (-18), 3), (26, .iload_n 3, 1), (27, .ireturn, 1)]
set_option maxRecDepth 20000 in
theorem DX1_chainEnd_0 : TX1_chainEnd_0.all (fun q => decide (decode cX1_chainEnd q.1 = .ok q.2)) = true := by decide +kernel
def TX1_chainComes_0 : dT := [(0, .iload_n 1, 1), (1, .istore_n 3, 1), (2, .iconst 0, 1), (3, .istore 4, 2), (5, .iload 4, 2), (7, .bipush 16, 2), (9, .if_icmp .ge 23, 3), (12, .iload_n 3, 1), (13, .iload_n 2, 1), (14, .if_icmp .eq 18, 3), (17, .aload_n 0, 1), (18, .getfield 11, 3), (21, .iconst 0, 1), (22, .aaload, 1), (23, .iload_n 3, 1), (24, .iaload, 1), (25, .istore_n 3, 1), (26, .iinc 4 1, 3), (29, .goto (-24), 3), (32, .iload_n 3, 1), (33, .iload_n 2, 1), (34, .if_icmp .ne 7, 3), (37, .iconst 1, 1), (38, .goto 4, 3), (41, .iconst 0, 1), (42, .ireturn, 1)]
set_option maxRecDepth 20000 in
theorem DX1_chainComes_0 : TX1_chainComes_0.all (fun q => decide (decode cX1_chainComes q.1 = .ok q.2)) = true := by decide +kernel
def TX1_roundLength_0 : dT := [(0, .iload_n 1, 1), (1, .istore_n 2, 1), (2, .iconst 1, 1), (3, .istore_n 3, 1), (4, .iload_n 3, 1), (5, .bipush 16, 2), (7, .if_icmp .gt 25, 3), (10, .aload_n 0, 1), (11, .getfield 11, 3), (14, .iconst 0, 1), (15, .aaload, 1), (16, .iload_n 2, 1), (17, .iaload, 1), (18, .istore_n 2, 1), (19, .iload_n 2, 1), (20, .iload_n 1, 1), (21, .if_icmp .ne 5, 3), (24, .iload_n 3, 1), (25, .ireturn, 1), (26, .iinc 3 1, 3), (29, .goto (-25), 3), (32, .iconst 0, 1), (33, .ireturn, 1)]
set_option maxRecDepth 20000 in
theorem DX1_roundLength_0 : TX1_roundLength_0.all (fun q => decide (decode cX1_roundLength q.1 = .ok q.2)) = true := by decide +kernel
def TX1_isLeastOfRound_0 : dT := [(0, .aload_n 0, 1), (1, .iload_n 1, 1), (2, .invokevirtual 80, 3), (5, .istore_n 2, 1), (6, .iload_n 1, 1), (7, .istore_n 3, 1), (8, .iconst 1, 1), (9, .istore 4, 2), (11, .iload 4, 2), (13, .iload_n 2, 1), (14, .if_icmp .ge 25, 3), (17, .aload_n 0, 1), (18, .getfield 11, 3), (21, .iconst 0, 1), (22, .aaload, 1), (23, .iload_n 3, 1), (24, .iaload, 1), (25, .istore_n 3, 1), (26, .iload_n 3, 1), (27, .iload_n 1, 1), (28, .if_icmp .ge 5, 3), (31, .iconst 0, 1), (32, .ireturn, 1), (33, .iinc 4 1, 3), (36, .goto (-25), 3), (39, .iload_n 2, 1), (40, .ifCond .le 7, 3), (43, .iconst 1, 1), (44, .goto 4, 3), (47, .iconst 0, 1), (48, .ireturn, 1)]
set_option maxRecDepth 20000 in
theorem DX1_isLeastOfRound_0 : TX1_isLeastOfRound_0.all (fun q => decide (decode cX1_isLeastOfRound q.1 = .ok q.2)) = true := by decide +kernel
def TX2_init_0 : dT := [(0, .aload_n 0, 1), (1, .invokespecial 3, 3), (4, .aload_n 0, 1), (5, .bipush 16, 2), (7, .newarray .int, 2), (9, .putfield 9, 3), (12, .return_, 1)]
set_option maxRecDepth 20000 in
theorem DX2_init_0 : TX2_init_0.all (fun q => decide (decode cX2_init q.1 = .ok q.2)) = true := by decide +kernel
def TX2_minutesTo_0 : dT := [(0, .iconst 0, 1), (1, .istore 4, 2), (3, .iload 4, 2), (5, .bipush 100, 2), (7, .if_icmp .gt 28, 3), (10, .aload_n 1, 1), (11, .getfield 15, 3), (14, .iconst 1, 1), (15, .aaload, 1), (16, .iload_n 2, 1), (17, .iaload, 1), (18, .iload_n 3, 1), (19, .if_icmp .ne 6, 3), (22, .iload 4, 2), (24, .ireturn, 1), (25, .aload_n 1, 1), (26, .invokevirtual 21, 3), (29, .iinc 4 1, 3), (32, .goto (-29), 3), (35, .ldc 24, 2), (37, .ireturn, 1)]
set_option maxRecDepth 20000 in
theorem DX2_minutesTo_0 : TX2_minutesTo_0.all (fun q => decide (decode cX2_minutesTo q.1 = .ok q.2)) = true := by decide +kernel
def TX2_minutesToMeeting_0 : dT := [(0, .iconst 0, 1), (1, .istore 4, 2), (3, .iload 4, 2), (5, .bipush 100, 2), (7, .if_icmp .gt 35, 3), (10, .aload_n 1, 1), (11, .getfield 15, 3), (14, .iconst 1, 1), (15, .aaload, 1), (16, .iload_n 2, 1), (17, .iaload, 1), (18, .aload_n 1, 1), (19, .getfield 15, 3), (22, .iconst 1, 1), (23, .aaload, 1), (24, .iload_n 3, 1), (25, .iaload, 1), (26, .if_icmp .ne 6, 3), (29, .iload 4, 2), (31, .ireturn, 1), (32, .aload_n 1, 1), (33, .invokevirtual 21, 3), (36, .iinc 4 1, 3), (39, .goto (-36), 3), (42, .ldc 24, 2), (44, .ireturn, 1)]
set_option maxRecDepth 20000 in
theorem DX2_minutesToMeeting_0 : TX2_minutesToMeeting_0.all (fun q => decide (decode cX2_minutesToMeeting q.1 = .ok q.2)) = true := by decide +kernel
def TX2_usualPond_0 : dT := [(0, .aload_n 0, 1), (1, .invokevirtual 25, 3), (4, .iconst 0, 1), (5, .istore 4, 2), (7, .iload 4, 2), (9, .iload_n 3, 1), (10, .if_icmp .ge 30, 3), (13, .aload_n 1, 1), (14, .invokevirtual 21, 3), (17, .aload_n 0, 1), (18, .getfield 9, 3), (21, .aload_n 1, 1), (22, .getfield 15, 3), (25, .iconst 1, 1), (26, .aaload, 1), (27, .iload_n 2, 1), (28, .iaload, 1), (29, .dup2, 1), (30, .iaload, 1), (31, .iconst 1, 1), (32, .iadd, 1), (33, .iastore, 1), (34, .iinc 4 1, 3), (37, .goto (-30), 3), (40, .aload_n 0, 1), (41, .invokevirtual 28, 3), (44, .ireturn, 1)]
set_option maxRecDepth 20000 in
theorem DX2_usualPond_0 : TX2_usualPond_0.all (fun q => decide (decode cX2_usualPond q.1 = .ok q.2)) = true := by decide +kernel
def TX2_pondsVisited_0 : dT := [(0, .iconst 1, 1), (1, .aload_n 1, 1), (2, .getfield 15, 3), (5, .iconst 1, 1), (6, .aaload, 1), (7, .iload_n 2, 1), (8, .iaload, 1), (9, .ishl, 1), (10, .istore_n 3, 1), (11, .iconst 0, 1), (12, .istore 4, 2), (14, .iload 4, 2), (16, .bipush 60, 2), (18, .if_icmp .ge 26, 3), (21, .aload_n 1, 1), (22, .invokevirtual 21, 3), (25, .iload_n 3, 1), (26, .iconst 1, 1), (27, .aload_n 1, 1), (28, .getfield 15, 3), (31, .iconst 1, 1), (32, .aaload, 1), (33, .iload_n 2, 1), (34, .iaload, 1), (35, .ishl, 1), (36, .ior, 1), (37, .istore_n 3, 1), (38, .iinc 4 1, 3), (41, .goto (-27), 3), (44, .iload_n 3, 1), (45, .ireturn, 1)]
set_option maxRecDepth 20000 in
theorem DX2_pondsVisited_0 : TX2_pondsVisited_0.all (fun q => decide (decode cX2_pondsVisited q.1 = .ok q.2)) = true := by decide +kernel
def TX2_showsAsTold_0 : dT := [(0, .iconst 0, 1), (1, .istore 4, 2), (3, .iload 4, 2), (5, .aload_n 3, 1), (6, .getfield 32, 3), (9, .if_icmp .ge 40, 3), (12, .aload_n 3, 1), (13, .getfield 38, 3), (16, .iload 4, 2), (18, .iaload, 1), (19, .istore 5, 2), (21, .iload 5, 2), (23, .iconst (-1), 1), (24, .if_icmp .eq 15, 3), (27, .iload 5, 2), (29, .aload_n 1, 1), (30, .iload_n 2, 1), (31, .invokevirtual 41, 3), (34, .if_icmp .eq 5, 3), (37, .iconst 0, 1), (38, .ireturn, 1), (39, .aload_n 1, 1), (40, .invokevirtual 21, 3), (43, .iinc 4 1, 3), (46, .goto (-43), 3), (49, .iconst 1, 1), (50, .ireturn, 1)]
set_option maxRecDepth 20000 in
theorem DX2_showsAsTold_0 : TX2_showsAsTold_0.all (fun q => decide (decode cX2_showsAsTold q.1 = .ok q.2)) = true := by decide +kernel
def TX2_thingsOnCourse_0 : dT := [(0, .iconst 1, 1), (1, .aload_n 1, 1), (2, .getfield 45, 3), (5, .ishl, 1), (6, .iconst 1, 1), (7, .isub, 1), (8, .istore_n 3, 1), (9, .iconst 0, 1), (10, .istore 4, 2), (12, .iload 4, 2), (14, .aload_n 2, 1), (15, .getfield 32, 3), (18, .if_icmp .ge 37, 3), (21, .aload_n 2, 1), (22, .getfield 38, 3), (25, .iload 4, 2), (27, .iaload, 1), (28, .istore 5, 2), (30, .iload 5, 2), (32, .iconst (-1), 1), (33, .if_icmp .eq 12, 3), (36, .iload_n 3, 1), (37, .aload_n 1, 1), (38, .iload 5, 2), (40, .invokevirtual 48, 3), (43, .iand, 1), (44, .istore_n 3, 1), (45, .aload_n 1, 1), (46, .invokevirtual 21, 3), (49, .iinc 4 1, 3), (52, .goto (-40), 3), (55, .iload_n 3, 1), (56, .ireturn, 1)]
set_option maxRecDepth 20000 in
theorem DX2_thingsOnCourse_0 : TX2_thingsOnCourse_0.all (fun q => decide (decode cX2_thingsOnCourse q.1 = .ok q.2)) = true := by decide +kernel
def TX2_busiestPond_0 : dT := [(0, .aload_n 0, 1), (1, .invokevirtual 25, 3), (4, .iconst 0, 1), (5, .istore_n 3, 1), (6, .iload_n 3, 1), (7, .iload_n 2, 1), (8, .if_icmp .ge 48, 3), (11, .aload_n 1, 1), (12, .invokevirtual 21, 3), (15, .iconst 0, 1), (16, .istore 4, 2), (18, .iload 4, 2), (20, .bipush 16, 2), (22, .if_icmp .ge 28, 3), (25, .aload_n 0, 1), (26, .getfield 9, 3), (29, .iload 4, 2), (31, .dup2, 1), (32, .iaload, 1), (33, .aload_n 1, 1), (34, .iload 4, 2), (36, .invokevirtual 41, 3), (39, .invokestatic 51, 3), (42, .iadd, 1), (43, .iastore, 1), (44, .iinc 4 1, 3), (47, .goto (-29), 3), (50, .iinc 3 1, 3), (53, .goto (-47), 3), (56, .aload_n 0, 1), (57, .invokevirtual 28, 3), (60, .ireturn, 1)]
set_option maxRecDepth 20000 in
theorem DX2_busiestPond_0 : TX2_busiestPond_0.all (fun q => decide (decode cX2_busiestPond q.1 = .ok q.2)) = true := by decide +kernel
def TX2_clearTally_0 : dT := [(0, .iconst 0, 1), (1, .istore_n 1, 1), (2, .iload_n 1, 1), (3, .bipush 16, 2), (5, .if_icmp .ge 16, 3), (8, .aload_n 0, 1), (9, .getfield 9, 3), (12, .iload_n 1, 1), (13, .iconst 0, 1), (14, .iastore, 1), (15, .iinc 1 1, 3), (18, .goto (-16), 3), (21, .return_, 1)]
set_option maxRecDepth 20000 in
theorem DX2_clearTally_0 : TX2_clearTally_0.all (fun q => decide (decode cX2_clearTally q.1 = .ok q.2)) = true := by decide +kernel
def TX2_leastOfMost_0 : dT := [(0, .iconst 0, 1), (1, .istore_n 1, 1), (2, .iconst 1, 1), (3, .istore_n 2, 1), (4, .iload_n 2, 1), (5, .bipush 16, 2), (7, .if_icmp .ge 26, 3), (10, .aload_n 0, 1), (11, .getfield 9, 3), (14, .iload_n 2, 1), (15, .iaload, 1), (16, .aload_n 0, 1), (17, .getfield 9, 3), (20, .iload_n 1, 1), (21, .iaload, 1), (22, .if_icmp .le 5, 3), (25, .iload_n 2, 1), (26, .istore_n 1, 1), (27, .iinc 2 1, 3), (30, .goto (-26), 3), (33, .iload_n 1, 1), (34, .ireturn, 1)]
set_option maxRecDepth 20000 in
theorem DX2_leastOfMost_0 : TX2_leastOfMost_0.all (fun q => decide (decode cX2_leastOfMost q.1 = .ok q.2)) = true := by decide +kernel
def TX3_init_0 : dT := [(0, .aload_n 0, 1), (1, .invokespecial 3, 3), (4, .aload_n 0, 1), (5, .bipush 40, 2), (7, .newarray .int, 2), (9, .putfield 9, 3), (12, .aload_n 0, 1), (13, .iconst 0, 1), (14, .putfield 15, 3), (17, .aload_n 0, 1), (18, .iconst 0, 1), (19, .putfield 19, 3), (22, .return_, 1)]
set_option maxRecDepth 20000 in
theorem DX3_init_0 : TX3_init_0.all (fun q => decide (decode cX3_init q.1 = .ok q.2)) = true := by decide +kernel
def TX3_isMissing_0 : dT := [(0, .aload_n 0, 1), (1, .getfield 15, 3), (4, .ifCond .ne 7, 3), (7, .iconst 1, 1), (8, .goto 4, 3), (11, .iconst 0, 1), (12, .ireturn, 1)]
set_option maxRecDepth 20000 in
theorem DX3_isMissing_0 : TX3_isMissing_0.all (fun q => decide (decode cX3_isMissing q.1 = .ok q.2)) = true := by decide +kernel
def TX3_clear_0 : dT := [(0, .iconst 0, 1), (1, .istore_n 3, 1), (2, .iload_n 3, 1), (3, .bipush 40, 2), (5, .if_icmp .ge 16, 3), (8, .aload_n 0, 1), (9, .getfield 9, 3), (12, .iload_n 3, 1), (13, .iconst 0, 1), (14, .iastore, 1), (15, .iinc 3 1, 3), (18, .goto (-16), 3), (21, .aload_n 0, 1), (22, .iload_n 1, 1), (23, .putfield 15, 3), (26, .aload_n 0, 1), (27, .iload_n 1, 1), (28, .ifCond .ne 7, 3), (31, .iconst 0, 1), (32, .goto 4, 3), (35, .iload_n 2, 1), (36, .putfield 19, 3), (39, .return_, 1)]
set_option maxRecDepth 20000 in
theorem DX3_clear_0 : TX3_clear_0.all (fun q => decide (decode cX3_clear q.1 = .ok q.2)) = true := by decide +kernel
def TX3_put_0 : dT := [(0, .aload_n 0, 1), (1, .getfield 15, 3), (4, .lookupswitch 50 #[(8, 28), (16, 39)], 28), (32, .aload_n 0, 1), (33, .getfield 9, 3), (36, .iload_n 1, 1), (37, .iload_n 2, 1), (38, .i2b, 1), (39, .iastore, 1), (40, .goto 21, 3), (43, .aload_n 0, 1), (44, .getfield 9, 3), (47, .iload_n 1, 1), (48, .iload_n 2, 1), (49, .i2s, 1), (50, .iastore, 1), (51, .goto 10, 3), (54, .aload_n 0, 1), (55, .getfield 9, 3), (58, .iload_n 1, 1), (59, .iload_n 2, 1), (60, .iastore, 1), (61, .return_, 1)]
set_option maxRecDepth 20000 in
theorem DX3_put_0 : TX3_put_0.all (fun q => decide (decode cX3_put q.1 = .ok q.2)) = true := by decide +kernel
def TX3_reaches_0 : dT := [(0, .iload_n 1, 1), (1, .ifCond .lt 29, 3), (4, .iload_n 2, 1), (5, .ifCond .lt 25, 3), (8, .iload_n 1, 1), (9, .aload_n 0, 1), (10, .getfield 19, 3), (13, .if_icmp .gt 17, 3), (16, .iload_n 2, 1), (17, .aload_n 0, 1), (18, .getfield 19, 3), (21, .iload_n 1, 1), (22, .isub, 1), (23, .if_icmp .gt 7, 3), (26, .iconst 1, 1), (27, .goto 4, 3), (30, .iconst 0, 1), (31, .ireturn, 1)]
set_option maxRecDepth 20000 in
theorem DX3_reaches_0 : TX3_reaches_0.all (fun q => decide (decode cX3_reaches q.1 = .ok q.2)) = true := by decide +kernel
def TX4_init_0 : dT := [(0, .aload_n 0, 1), (1, .invokespecial 3, 3), (4, .aload_n 0, 1), (5, .bipush 120, 2), (7, .newarray .int, 2), (9, .putfield 9, 3), (12, .aload_n 0, 1), (13, .iconst 0, 1), (14, .putfield 15, 3), (17, .return_, 1)]
set_option maxRecDepth 20000 in
theorem DX4_init_0 : TX4_init_0.all (fun q => decide (decode cX4_init q.1 = .ok q.2)) = true := by decide +kernel
def TX4_append_0 : dT := [(0, .aload_n 0, 1), (1, .getfield 15, 3), (4, .bipush 120, 2), (6, .if_icmp .ge 23, 3), (9, .aload_n 0, 1), (10, .getfield 9, 3), (13, .aload_n 0, 1), (14, .getfield 15, 3), (17, .iload_n 1, 1), (18, .iastore, 1), (19, .aload_n 0, 1), (20, .dup, 1), (21, .getfield 15, 3), (24, .iconst 1, 1), (25, .iadd, 1), (26, .putfield 15, 3), (29, .return_, 1)]
set_option maxRecDepth 20000 in
theorem DX4_append_0 : TX4_append_0.all (fun q => decide (decode cX4_append q.1 = .ok q.2)) = true := by decide +kernel
def TX4_at_0 : dT := [(0, .iload_n 1, 1), (1, .ifCond .lt 20, 3), (4, .iload_n 1, 1), (5, .aload_n 0, 1), (6, .getfield 15, 3), (9, .if_icmp .ge 12, 3), (12, .aload_n 0, 1), (13, .getfield 9, 3), (16, .iload_n 1, 1), (17, .iaload, 1), (18, .goto 4, 3), (21, .iconst (-1), 1), (22, .ireturn, 1)]
set_option maxRecDepth 20000 in
theorem DX4_at_0 : TX4_at_0.all (fun q => decide (decode cX4_at q.1 = .ok q.2)) = true := by decide +kernel
def TX4_says_0 : dT := [(0, .iload_n 3, 1), (1, .iload_n 2, 1), (2, .isub, 1), (3, .aload_n 1, 1), (4, .invokevirtual 19, 3), (7, .if_icmp .eq 5, 3), (10, .iconst 0, 1), (11, .ireturn, 1), (12, .iconst 0, 1), (13, .istore 4, 2), (15, .iload 4, 2), (17, .aload_n 1, 1), (18, .invokevirtual 19, 3), (21, .if_icmp .ge 28, 3), (24, .aload_n 0, 1), (25, .iload_n 2, 1), (26, .iload 4, 2), (28, .iadd, 1), (29, .invokevirtual 24, 3), (32, .aload_n 1, 1), (33, .iload 4, 2), (35, .invokevirtual 28, 3), (38, .if_icmp .eq 5, 3), (41, .iconst 0, 1), (42, .ireturn, 1), (43, .iinc 4 1, 3), (46, .goto (-31), 3), (49, .iconst 1, 1), (50, .ireturn, 1)]
set_option maxRecDepth 20000 in
theorem DX4_says_0 : TX4_says_0.all (fun q => decide (decode cX4_says q.1 = .ok q.2)) = true := by decide +kernel
def TX5_init_0 : dT := [(0, .aload_n 0, 1), (1, .invokespecial 3, 3), (4, .aload_n 0, 1), (5, .new 9, 3), (8, .dup, 1), (9, .invokespecial 11, 3), (12, .putfield 12, 3), (15, .aload_n 0, 1), (16, .iconst (-1), 1), (17, .putfield 18, 3), (20, .return_, 1)]
set_option maxRecDepth 20000 in
theorem DX5_init_0 : TX5_init_0.all (fun q => decide (decode cX5_init q.1 = .ok q.2)) = true := by decide +kernel
def TX5_read_0 : dT := [(0, .aload_n 0, 1), (1, .iconst (-1), 1), (2, .putfield 18, 3), (5, .aload_n 0, 1), (6, .getfield 12, 3), (9, .aload_n 1, 1), (10, .invokevirtual 22, 3), (13, .aload_n 0, 1), (14, .aload_n 2, 1), (15, .invokevirtual 26, 3), (18, .iconst 1, 1), (19, .istore_n 3, 1), (20, .aload_n 0, 1), (21, .invokevirtual 30, 3), (24, .ifCond .eq 27, 3), (27, .iload_n 3, 1), (28, .bipush 120, 2), (30, .if_icmp .gt 21, 3), (33, .aload_n 0, 1), (34, .getfield 12, 3), (37, .invokevirtual 34, 3), (40, .aload_n 0, 1), (41, .aload_n 2, 1), (42, .invokevirtual 26, 3), (45, .iinc 3 1, 3), (48, .goto (-28), 3), (51, .aload_n 0, 1), (52, .getfield 12, 3), (55, .iconst 0, 1), (56, .invokevirtual 37, 3), (59, .ifCond .ne 7, 3), (62, .aload_n 0, 1), (63, .invokevirtual 41, 3), (66, .aload_n 0, 1), (67, .getfield 18, 3), (70, .ifCond .lt 12, 3), (73, .iconst (-1), 1), (74, .aload_n 0, 1), (75, .getfield 18, 3), (78, .isub, 1), (79, .goto 4, 3), (82, .iload_n 3, 1), (83, .ireturn, 1)]
set_option maxRecDepth 20000 in
theorem DX5_read_0 : TX5_read_0.all (fun q => decide (decode cX5_read q.1 = .ok q.2)) = true := by decide +kernel
def TX5_readItem_0 : dT := [(0, .aload_n 0, 1), (1, .invokevirtual 44, 3), (4, .ifCond .eq 11, 3), (7, .aload_n 0, 1), (8, .aload_n 1, 1), (9, .invokevirtual 47, 3), (12, .goto 79, 3), (15, .aload_n 0, 1), (16, .bipush 15, 2), (18, .invokevirtual 50, 3), (21, .ifCond .eq 18, 3), (24, .aload_n 0, 1), (25, .getfield 12, 3), (28, .invokevirtual 34, 3), (31, .aload_n 0, 1), (32, .aload_n 1, 1), (33, .invokevirtual 53, 3), (36, .goto 55, 3), (39, .aload_n 0, 1), (40, .bipush 16, 2), (42, .invokevirtual 50, 3), (45, .ifCond .eq 18, 3), (48, .aload_n 0, 1), (49, .getfield 12, 3), (52, .invokevirtual 34, 3), (55, .aload_n 1, 1), (56, .iconst 1, 1), (57, .putfield 56, 3), (60, .goto 31, 3), (63, .aload_n 0, 1), (64, .bipush 17, 2), (66, .invokevirtual 50, 3), (69, .ifCond .eq 18, 3), (72, .aload_n 0, 1), (73, .getfield 12, 3), (76, .invokevirtual 34, 3), (79, .aload_n 1, 1), (80, .iconst 0, 1), (81, .putfield 56, 3), (84, .goto 7, 3), (87, .aload_n 0, 1), (88, .invokevirtual 41, 3), (91, .return_, 1)]
set_option maxRecDepth 20000 in
theorem DX5_readItem_0 : TX5_readItem_0.all (fun q => decide (decode cX5_readItem q.1 = .ok q.2)) = true := by decide +kernel
def TX5_readThing_0 : dT := [(0, .aload_n 1, 1), (1, .invokevirtual 61, 3), (4, .ifCond .eq 8, 3), (7, .aload_n 0, 1), (8, .invokevirtual 41, 3), (11, .return_, 1), (12, .aload_n 0, 1), (13, .getfield 12, 3), (16, .invokevirtual 64, 3), (19, .istore_n 2, 1), (20, .iconst 0, 1), (21, .istore_n 3, 1), (22, .bipush 9, 2), (24, .istore 4, 2), (26, .aload_n 0, 1), (27, .getfield 12, 3), (30, .invokevirtual 34, 3), (33, .aload_n 0, 1), (34, .bipush 13, 2), (36, .invokevirtual 50, 3), (39, .ifCond .eq 26, 3), (42, .aload_n 0, 1), (43, .getfield 12, 3), (46, .invokevirtual 34, 3), (49, .aload_n 0, 1), (50, .getstatic 68, 3), (53, .iconst 1, 1), (54, .iaload, 1), (55, .getstatic 72, 3), (58, .iconst 1, 1), (59, .iaload, 1), (60, .iconst (-1), 1), (61, .invokevirtual 75, 3), (64, .istore_n 3, 1), (65, .aload_n 0, 1), (66, .bipush 14, 2), (68, .invokevirtual 50, 3), (71, .ifCond .eq 27, 3), (74, .aload_n 0, 1), (75, .getfield 12, 3), (78, .invokevirtual 34, 3), (81, .aload_n 0, 1), (82, .getstatic 68, 3), (85, .iconst 2, 1), (86, .iaload, 1), (87, .getstatic 72, 3), (90, .iconst 2, 1), (91, .iaload, 1), (92, .iconst (-1), 1), (93, .invokevirtual 75, 3), (96, .istore 4, 2), (98, .aload_n 1, 1), (99, .iload_n 2, 1), (100, .iload_n 3, 1), (101, .iload 4, 2), (103, .invokevirtual 79, 3), (106, .pop, 1), (107, .return_, 1)]
set_option maxRecDepth 20000 in
theorem DX5_readThing_0 : TX5_readThing_0.all (fun q => decide (decode cX5_readThing q.1 = .ok q.2)) = true := by decide +kernel
def TX5_readPond_0 : dT := [(0, .aload_n 0, 1), (1, .iconst 0, 1), (2, .bipush 15, 2), (4, .iconst (-1), 1), (5, .invokevirtual 75, 3), (8, .istore_n 2, 1), (9, .iconst 0, 1), (10, .istore_n 3, 1), (11, .iload_n 3, 1), (12, .iconst 5, 1), (13, .if_icmp .gt 41, 3), (16, .aload_n 0, 1), (17, .bipush 7, 2), (19, .iload_n 3, 1), (20, .iadd, 1), (21, .invokevirtual 50, 3), (24, .ifCond .eq 24, 3), (27, .aload_n 0, 1), (28, .getfield 12, 3), (31, .invokevirtual 34, 3), (34, .aload_n 1, 1), (35, .getfield 82, 3), (38, .iload_n 3, 1), (39, .aaload, 1), (40, .iload_n 2, 1), (41, .aload_n 0, 1), (42, .iload_n 3, 1), (43, .iload_n 2, 1), (44, .invokevirtual 86, 3), (47, .iastore, 1), (48, .iinc 3 1, 3), (51, .goto (-40), 3), (54, .return_, 1)]
set_option maxRecDepth 20000 in
theorem DX5_readPond_0 : TX5_readPond_0.all (fun q => decide (decode cX5_readPond q.1 = .ok q.2)) = true := by decide +kernel
def TX5_readTrait_0 : dT := [(0, .iload_n 1, 1), (1, .iconst 3, 1), (2, .if_icmp .ne 5, 3), (5, .iconst 1, 1), (6, .ireturn, 1), (7, .aload_n 0, 1), (8, .getstatic 90, 3), (11, .iload_n 1, 1), (12, .iaload, 1), (13, .getstatic 93, 3), (16, .iload_n 1, 1), (17, .iaload, 1), (18, .iload_n 1, 1), (19, .ifCond .ne 7, 3), (22, .iload_n 2, 1), (23, .goto 4, 3), (26, .iconst (-1), 1), (27, .invokevirtual 75, 3), (30, .ireturn, 1)]
set_option maxRecDepth 20000 in
theorem DX5_readTrait_0 : TX5_readTrait_0.all (fun q => decide (decode cX5_readTrait q.1 = .ok q.2)) = true := by decide +kernel
def TX5_readNumber_0 : dT := [(0, .aload_n 0, 1), (1, .getfield 12, 3), (4, .invokevirtual 64, 3), (7, .istore 4, 2), (9, .aload_n 0, 1), (10, .invokevirtual 96, 3), (13, .ifCond .eq 21, 3), (16, .iload 4, 2), (18, .iload_n 1, 1), (19, .if_icmp .lt 15, 3), (22, .iload 4, 2), (24, .iload_n 2, 1), (25, .if_icmp .gt 9, 3), (28, .iload 4, 2), (30, .iload_n 3, 1), (31, .if_icmp .ne 9, 3), (34, .aload_n 0, 1), (35, .invokevirtual 41, 3), (38, .iload_n 1, 1), (39, .ireturn, 1), (40, .aload_n 0, 1), (41, .getfield 12, 3), (44, .invokevirtual 34, 3), (47, .iload 4, 2), (49, .ireturn, 1)]
set_option maxRecDepth 20000 in
theorem DX5_readNumber_0 : TX5_readNumber_0.all (fun q => decide (decode cX5_readNumber q.1 = .ok q.2)) = true := by decide +kernel
def TX5_hasWord_0 : dT := [(0, .aload_n 0, 1), (1, .getfield 18, 3), (4, .ifCond .ge 18, 3), (7, .aload_n 0, 1), (8, .getfield 12, 3), (11, .iload_n 1, 1), (12, .invokevirtual 99, 3), (15, .ifCond .eq 7, 3), (18, .iconst 1, 1), (19, .goto 4, 3), (22, .iconst 0, 1), (23, .ireturn, 1)]
set_option maxRecDepth 20000 in
theorem DX5_hasWord_0 : TX5_hasWord_0.all (fun q => decide (decode cX5_hasWord q.1 = .ok q.2)) = true := by decide +kernel
def TX5_hasKind_0 : dT := [(0, .aload_n 0, 1), (1, .getfield 18, 3), (4, .ifCond .ge 30, 3), (7, .aload_n 0, 1), (8, .getfield 12, 3), (11, .iconst 1, 1), (12, .invokevirtual 37, 3), (15, .ifCond .eq 19, 3), (18, .aload_n 0, 1), (19, .getfield 12, 3), (22, .invokevirtual 64, 3), (25, .bipush 7, 2), (27, .if_icmp .ge 7, 3), (30, .iconst 1, 1), (31, .goto 4, 3), (34, .iconst 0, 1), (35, .ireturn, 1)]
set_option maxRecDepth 20000 in
theorem DX5_hasKind_0 : TX5_hasKind_0.all (fun q => decide (decode cX5_hasKind q.1 = .ok q.2)) = true := by decide +kernel
def TX5_hasNumber_0 : dT := [(0, .aload_n 0, 1), (1, .getfield 18, 3), (4, .ifCond .ge 18, 3), (7, .aload_n 0, 1), (8, .getfield 12, 3), (11, .iconst 2, 1), (12, .invokevirtual 37, 3), (15, .ifCond .eq 7, 3), (18, .iconst 1, 1), (19, .goto 4, 3), (22, .iconst 0, 1), (23, .ireturn, 1)]
set_option maxRecDepth 20000 in
theorem DX5_hasNumber_0 : TX5_hasNumber_0.all (fun q => decide (decode cX5_hasNumber q.1 = .ok q.2)) = true := by decide +kernel
def TX5_hasSign_0 : dT := [(0, .aload_n 0, 1), (1, .getfield 18, 3), (4, .ifCond .ge 18, 3), (7, .aload_n 0, 1), (8, .getfield 12, 3), (11, .iconst 3, 1), (12, .invokevirtual 37, 3), (15, .ifCond .eq 7, 3), (18, .iconst 1, 1), (19, .goto 4, 3), (22, .iconst 0, 1), (23, .ireturn, 1)]
set_option maxRecDepth 20000 in
theorem DX5_hasSign_0 : TX5_hasSign_0.all (fun q => decide (decode cX5_hasSign q.1 = .ok q.2)) = true := by decide +kernel
def TX5_fail_0 : dT := [(0, .aload_n 0, 1), (1, .getfield 18, 3), (4, .ifCond .ge 14, 3), (7, .aload_n 0, 1), (8, .aload_n 0, 1), (9, .getfield 12, 3), (12, .invokevirtual 102, 3), (15, .putfield 18, 3), (18, .return_, 1)]
set_option maxRecDepth 20000 in
theorem DX5_fail_0 : TX5_fail_0.all (fun q => decide (decode cX5_fail q.1 = .ok q.2)) = true := by decide +kernel
def TX6_init_0 : dT := [(0, .aload_n 0, 1), (1, .invokespecial 5, 3), (4, .aload_n 0, 1), (5, .bipush 121, 2), (7, .newarray .int, 2), (9, .putfield 11, 3), (12, .aload_n 0, 1), (13, .bipush 121, 2), (15, .newarray .int, 2), (17, .putfield 15, 3), (20, .aload_n 0, 1), (21, .bipush 121, 2), (23, .newarray .int, 2), (25, .putfield 18, 3), (28, .aload_n 0, 1), (29, .iconst 0, 1), (30, .putfield 21, 3), (33, .return_, 1)]
set_option maxRecDepth 20000 in
theorem DX6_init_0 : TX6_init_0.all (fun q => decide (decode cX6_init q.1 = .ok q.2)) = true := by decide +kernel
def TX6_take_0 : dT := [(0, .iconst 0, 1), (1, .istore_n 2, 1), (2, .iconst 0, 1), (3, .istore_n 3, 1), (4, .iload_n 3, 1), (5, .aload_n 1, 1), (6, .getfield 25, 3), (9, .if_icmp .ge 46, 3), (12, .iload_n 2, 1), (13, .bipush 120, 2), (15, .if_icmp .ge 40, 3), (18, .aload_n 1, 1), (19, .iload_n 3, 1), (20, .invokevirtual 30, 3), (23, .bipush 32, 2), (25, .if_icmp .ne 9, 3), (28, .iinc 3 1, 3), (31, .goto (-27), 3), (34, .aload_n 0, 1), (35, .getfield 15, 3), (38, .iload_n 2, 1), (39, .iload_n 3, 1), (40, .iastore, 1), (41, .aload_n 0, 1), (42, .aload_n 1, 1), (43, .iload_n 3, 1), (44, .iload_n 2, 1), (45, .invokevirtual 33, 3), (48, .istore_n 3, 1), (49, .iinc 2 1, 3), (52, .goto (-48), 3), (55, .aload_n 0, 1), (56, .getfield 11, 3), (59, .iload_n 2, 1), (60, .iconst 0, 1), (61, .iastore, 1), (62, .aload_n 0, 1), (63, .getfield 15, 3), (66, .iload_n 2, 1), (67, .aload_n 1, 1), (68, .getfield 25, 3), (71, .iastore, 1), (72, .aload_n 0, 1), (73, .iconst 0, 1), (74, .putfield 21, 3), (77, .return_, 1)]
set_option maxRecDepth 20000 in
theorem DX6_take_0 : TX6_take_0.all (fun q => decide (decode cX6_take q.1 = .ok q.2)) = true := by decide +kernel
def TX6_begin_0 : dT := [(0, .aload_n 0, 1), (1, .getfield 15, 3), (4, .aload_n 0, 1), (5, .getfield 21, 3), (8, .iaload, 1), (9, .ireturn, 1)]
set_option maxRecDepth 20000 in
theorem DX6_begin_0 : TX6_begin_0.all (fun q => decide (decode cX6_begin q.1 = .ok q.2)) = true := by decide +kernel
def TX6_value_0 : dT := [(0, .aload_n 0, 1), (1, .getfield 18, 3), (4, .aload_n 0, 1), (5, .getfield 21, 3), (8, .iaload, 1), (9, .ireturn, 1)]
set_option maxRecDepth 20000 in
theorem DX6_value_0 : TX6_value_0.all (fun q => decide (decode cX6_value q.1 = .ok q.2)) = true := by decide +kernel
def TX6_isSort_0 : dT := [(0, .aload_n 0, 1), (1, .getfield 11, 3), (4, .aload_n 0, 1), (5, .getfield 21, 3), (8, .iaload, 1), (9, .iload_n 1, 1), (10, .if_icmp .ne 7, 3), (13, .iconst 1, 1), (14, .goto 4, 3), (17, .iconst 0, 1), (18, .ireturn, 1)]
set_option maxRecDepth 20000 in
theorem DX6_isSort_0 : TX6_isSort_0.all (fun q => decide (decode cX6_isSort q.1 = .ok q.2)) = true := by decide +kernel
def TX6_isWord_0 : dT := [(0, .aload_n 0, 1), (1, .getfield 11, 3), (4, .aload_n 0, 1), (5, .getfield 21, 3), (8, .iaload, 1), (9, .iconst 1, 1), (10, .if_icmp .ne 20, 3), (13, .aload_n 0, 1), (14, .getfield 18, 3), (17, .aload_n 0, 1), (18, .getfield 21, 3), (21, .iaload, 1), (22, .iload_n 1, 1), (23, .if_icmp .ne 7, 3), (26, .iconst 1, 1), (27, .goto 4, 3), (30, .iconst 0, 1), (31, .ireturn, 1)]
set_option maxRecDepth 20000 in
theorem DX6_isWord_0 : TX6_isWord_0.all (fun q => decide (decode cX6_isWord q.1 = .ok q.2)) = true := by decide +kernel
def TX6_advance_0 : dT := [(0, .aload_n 0, 1), (1, .getfield 11, 3), (4, .aload_n 0, 1), (5, .getfield 21, 3), (8, .iaload, 1), (9, .ifCond .eq 22, 3), (12, .aload_n 0, 1), (13, .getfield 21, 3), (16, .bipush 120, 2), (18, .if_icmp .ge 13, 3), (21, .aload_n 0, 1), (22, .dup, 1), (23, .getfield 21, 3), (26, .iconst 1, 1), (27, .iadd, 1), (28, .putfield 21, 3), (31, .return_, 1)]
set_option maxRecDepth 20000 in
theorem DX6_advance_0 : TX6_advance_0.all (fun q => decide (decode cX6_advance q.1 = .ok q.2)) = true := by decide +kernel
def TX6_takeOne_0 : dT := [(0, .aload_n 1, 1), (1, .iload_n 2, 1), (2, .invokevirtual 30, 3), (5, .istore 4, 2), (7, .iload_n 2, 1), (8, .iconst 1, 1), (9, .iadd, 1), (10, .istore 5, 2), (12, .iload 4, 2), (14, .invokestatic 37, 3), (17, .ifCond .eq 51, 3), (20, .aload_n 1, 1), (21, .iload 5, 2), (23, .invokevirtual 30, 3), (26, .invokestatic 37, 3), (29, .ifCond .eq 16, 3), (32, .iload 5, 2), (34, .bipush 120, 2), (36, .if_icmp .ge 9, 3), (39, .iinc 5 1, 3), (42, .goto (-22), 3), (45, .aload_n 0, 1), (46, .getfield 11, 3), (49, .iload_n 3, 1), (50, .iconst 1, 1), (51, .iastore, 1), (52, .aload_n 0, 1), (53, .getfield 18, 3), (56, .iload_n 3, 1), (57, .aload_n 1, 1), (58, .iload_n 2, 1), (59, .iload 5, 2), (61, .invokestatic 41, 3), (64, .iastore, 1), (65, .goto 102, 3), (68, .iload 4, 2), (70, .invokestatic 44, 3), (73, .ifCond .eq 76, 3), (76, .iload 4, 2), (78, .bipush 48, 2), (80, .isub, 1), (81, .istore 6, 2), (83, .aload_n 1, 1), (84, .iload 5, 2), (86, .invokevirtual 30, 3), (89, .invokestatic 44, 3), (92, .ifCond .eq 39, 3), (95, .iload 5, 2), (97, .bipush 120, 2), (99, .if_icmp .ge 32, 3), (102, .iload 6, 2), (104, .bipush 10, 2), (106, .imul, 1), (107, .aload_n 1, 1), (108, .iload 5, 2), (110, .invokevirtual 30, 3), (113, .iadd, 1), (114, .bipush 48, 2), (116, .isub, 1), (117, .sipush 1000, 3), (120, .invokestatic 47, 3), (123, .istore 6, 2), (125, .iinc 5 1, 3), (128, .goto (-45), 3), (131, .aload_n 0, 1), (132, .getfield 11, 3), (135, .iload_n 3, 1), (136, .iconst 2, 1), (137, .iastore, 1), (138, .aload_n 0, 1), (139, .getfield 18, 3), (142, .iload_n 3, 1), (143, .iload 6, 2), (145, .iastore, 1), (146, .goto 21, 3), (149, .aload_n 0, 1), (150, .getfield 11, 3), (153, .iload_n 3, 1), (154, .iload 4, 2), (156, .bipush 59, 2), (158, .if_icmp .ne 7, 3), (161, .iconst 3, 1), (162, .goto 4, 3), (165, .iconst 4, 1), (166, .iastore, 1), (167, .iload 5, 2), (169, .ireturn, 1)]
set_option maxRecDepth 20000 in
theorem DX6_takeOne_0 : TX6_takeOne_0.all (fun q => decide (decode cX6_takeOne q.1 = .ok q.2)) = true := by decide +kernel
def TX6_isLetter_0 : dT := [(0, .iload_n 0, 1), (1, .bipush 97, 2), (3, .if_icmp .lt 13, 3), (6, .iload_n 0, 1), (7, .bipush 122, 2), (9, .if_icmp .gt 7, 3), (12, .iconst 1, 1), (13, .goto 4, 3), (16, .iconst 0, 1), (17, .ireturn, 1)]
set_option maxRecDepth 20000 in
theorem DX6_isLetter_0 : TX6_isLetter_0.all (fun q => decide (decode cX6_isLetter q.1 = .ok q.2)) = true := by decide +kernel
def TX6_isDigit_0 : dT := [(0, .iload_n 0, 1), (1, .bipush 48, 2), (3, .if_icmp .lt 13, 3), (6, .iload_n 0, 1), (7, .bipush 57, 2), (9, .if_icmp .gt 7, 3), (12, .iconst 1, 1), (13, .goto 4, 3), (16, .iconst 0, 1), (17, .ireturn, 1)]
set_option maxRecDepth 20000 in
theorem DX6_isDigit_0 : TX6_isDigit_0.all (fun q => decide (decode cX6_isDigit q.1 = .ok q.2)) = true := by decide +kernel
def TX6_wordAt_0 : dT := [(0, .iconst 0, 1), (1, .istore_n 3, 1), (2, .iload_n 3, 1), (3, .bipush 18, 2), (5, .if_icmp .ge 22, 3), (8, .aload_n 0, 1), (9, .iload_n 3, 1), (10, .invokestatic 53, 3), (13, .iload_n 1, 1), (14, .iload_n 2, 1), (15, .invokevirtual 57, 3), (18, .ifCond .ne 9, 3), (21, .iinc 3 1, 3), (24, .goto (-22), 3), (27, .iload_n 3, 1), (28, .ireturn, 1)]
set_option maxRecDepth 20000 in
theorem DX6_wordAt_0 : TX6_wordAt_0.all (fun q => decide (decode cX6_wordAt q.1 = .ok q.2)) = true := by decide +kernel
def TX6_nameOf_0 : dT := [(0, .iload_n 0, 1), (1, .tableswitch 134 1 17 #[83, 86, 89, 92, 95, 98, 101, 104, 107, 110, 113, 116, 119, 122, 125, 128, 131], 83), (84, .ldc 61, 2), (86, .areturn, 1), (87, .ldc 63, 2), (89, .areturn, 1), (90, .ldc 65, 2), (92, .areturn, 1), (93, .ldc 67, 2), (95, .areturn, 1), (96, .ldc 69, 2), (98, .areturn, 1), (99, .ldc 71, 2), (101, .areturn, 1), (102, .ldc 73, 2), (104, .areturn, 1), (105, .ldc 75, 2), (107, .areturn, 1), (108, .ldc 77, 2), (110, .areturn, 1), (111, .ldc 79, 2), (113, .areturn, 1), (114, .ldc 81, 2), (116, .areturn, 1), (117, .ldc 83, 2), (119, .areturn, 1), (120, .ldc 85, 2), (122, .areturn, 1), (123, .ldc 87, 2), (125, .areturn, 1), (126, .ldc 89, 2), (128, .areturn, 1), (129, .ldc 91, 2), (131, .areturn, 1), (132, .ldc 93, 2), (134, .areturn, 1), (135, .ldc 95, 2), (137, .areturn, 1)]
set_option maxRecDepth 20000 in
theorem DX6_nameOf_0 : TX6_nameOf_0.all (fun q => decide (decode cX6_nameOf q.1 = .ok q.2)) = true := by decide +kernel
def TX7_init_0 : dT := [(0, .aload_n 0, 1), (1, .invokespecial 3, 3), (4, .aload_n 0, 1), (5, .new 9, 3), (8, .dup, 1), (9, .invokespecial 11, 3), (12, .putfield 12, 3), (15, .aload_n 0, 1), (16, .new 9, 3), (19, .dup, 1), (20, .invokespecial 11, 3), (23, .putfield 16, 3), (26, .aload_n 0, 1), (27, .new 9, 3), (30, .dup, 1), (31, .invokespecial 11, 3), (34, .putfield 19, 3), (37, .aload_n 0, 1), (38, .iconst 0, 1), (39, .putfield 22, 3), (42, .aload_n 0, 1), (43, .new 26, 3), (46, .dup, 1), (47, .invokespecial 28, 3), (50, .putfield 29, 3), (53, .aload_n 0, 1), (54, .new 33, 3), (57, .dup, 1), (58, .invokespecial 35, 3), (61, .putfield 36, 3), (64, .aload_n 0, 1), (65, .new 40, 3), (68, .dup, 1), (69, .invokespecial 42, 3), (72, .putfield 43, 3), (75, .aload_n 0, 1), (76, .new 47, 3), (79, .dup, 1), (80, .invokespecial 49, 3), (83, .putfield 50, 3), (86, .aload_n 0, 1), (87, .iconst 4, 1), (88, .anewarray 54, 3), (91, .dup, 1), (92, .iconst 0, 1), (93, .new 54, 3), (96, .dup, 1), (97, .invokespecial 56, 3), (100, .aastore, 1), (101, .dup, 1), (102, .iconst 1, 1), (103, .new 54, 3), (106, .dup, 1), (107, .invokespecial 56, 3), (110, .aastore, 1), (111, .dup, 1), (112, .iconst 2, 1), (113, .new 54, 3), (116, .dup, 1), (117, .invokespecial 56, 3), (120, .aastore, 1), (121, .dup, 1), (122, .iconst 3, 1), (123, .new 54, 3), (126, .dup, 1), (127, .invokespecial 56, 3), (130, .aastore, 1), (131, .putfield 57, 3), (134, .aload_n 0, 1), (135, .bipush 7, 2), (137, .newarray .int, 2), (139, .putfield 61, 3), (142, .return_, 1)]
set_option maxRecDepth 20000 in
theorem DX7_init_0 : TX7_init_0.all (fun q => decide (decode cX7_init q.1 = .ok q.2)) = true := by decide +kernel
def TX7_pond_0 : dT := [(0, .iload_n 1, 1), (1, .invokestatic 65, 3), (4, .ifCond .eq 13, 3), (7, .iload_n 2, 1), (8, .ifCond .lt 9, 3), (11, .iload_n 2, 1), (12, .bipush 7, 2), (14, .if_icmp .le 10, 3), (17, .aload_n 0, 1), (18, .ldc 69, 2), (20, .invokevirtual 70, 3), (23, .ireturn, 1), (24, .iload_n 2, 1), (25, .bipush 6, 2), (27, .if_icmp .ne 12, 3), (30, .aload_n 0, 1), (31, .getfield 12, 3), (34, .iload_n 1, 1), (35, .invokevirtual 74, 3), (38, .ireturn, 1), (39, .iload_n 2, 1), (40, .bipush 7, 2), (42, .if_icmp .ne 12, 3), (45, .aload_n 0, 1), (46, .getfield 12, 3), (49, .iload_n 1, 1), (50, .invokevirtual 77, 3), (53, .ireturn, 1), (54, .aload_n 0, 1), (55, .getfield 12, 3), (58, .getfield 80, 3), (61, .iload_n 2, 1), (62, .aaload, 1), (63, .iload_n 1, 1), (64, .iaload, 1), (65, .ireturn, 1)]
set_option maxRecDepth 20000 in
theorem DX7_pond_0 : TX7_pond_0.all (fun q => decide (decode cX7_pond q.1 = .ok q.2)) = true := by decide +kernel
def TX7_dig_0 : dT := [(0, .iload_n 1, 1), (1, .invokestatic 65, 3), (4, .ifCond .eq 12, 3), (7, .iload_n 1, 1), (8, .iload_n 2, 1), (9, .iload_n 3, 1), (10, .invokestatic 84, 3), (13, .ifCond .ne 10, 3), (16, .aload_n 0, 1), (17, .ldc 69, 2), (19, .invokevirtual 70, 3), (22, .ireturn, 1), (23, .aload_n 0, 1), (24, .getfield 12, 3), (27, .getfield 80, 3), (30, .iload_n 2, 1), (31, .aaload, 1), (32, .iload_n 1, 1), (33, .iaload, 1), (34, .istore 4, 2), (36, .aload_n 0, 1), (37, .getfield 12, 3), (40, .getfield 80, 3), (43, .iload_n 2, 1), (44, .aaload, 1), (45, .iload_n 1, 1), (46, .iload_n 3, 1), (47, .iastore, 1), (48, .iload 4, 2), (50, .ireturn, 1)]
set_option maxRecDepth 20000 in
theorem DX7_dig_0 : TX7_dig_0.all (fun q => decide (decode cX7_dig q.1 = .ok q.2)) = true := by decide +kernel
def TX7_thing_0 : dT := [(0, .iload_n 1, 1), (1, .invokestatic 88, 3), (4, .ifCond .eq 10, 3), (7, .iload_n 2, 1), (8, .invokestatic 65, 3), (11, .ifCond .ne 10, 3), (14, .aload_n 0, 1), (15, .ldc 69, 2), (17, .invokevirtual 70, 3), (20, .ireturn, 1), (21, .aload_n 0, 1), (22, .getfield 12, 3), (25, .invokevirtual 91, 3), (28, .ifCond .eq 10, 3), (31, .aload_n 0, 1), (32, .ldc 95, 2), (34, .invokevirtual 70, 3), (37, .ireturn, 1), (38, .aload_n 0, 1), (39, .getfield 12, 3), (42, .iload_n 1, 1), (43, .iload_n 2, 1), (44, .bipush 9, 2), (46, .invokevirtual 96, 3), (49, .ireturn, 1)]
set_option maxRecDepth 20000 in
theorem DX7_thing_0 : TX7_thing_0.all (fun q => decide (decode cX7_thing q.1 = .ok q.2)) = true := by decide +kernel
def TX7_of_0 : dT := [(0, .aload_n 0, 1), (1, .getfield 12, 3), (4, .iload_n 1, 1), (5, .invokevirtual 100, 3), (8, .ifCond .eq 12, 3), (11, .iload_n 2, 1), (12, .ifCond .lt 8, 3), (15, .iload_n 2, 1), (16, .iconst 4, 1), (17, .if_icmp .le 10, 3), (20, .aload_n 0, 1), (21, .ldc 69, 2), (23, .invokevirtual 70, 3), (26, .ireturn, 1), (27, .iload_n 2, 1), (28, .iconst 3, 1), (29, .if_icmp .ne 12, 3), (32, .aload_n 0, 1), (33, .getfield 12, 3), (36, .iload_n 1, 1), (37, .invokevirtual 103, 3), (40, .ireturn, 1), (41, .iload_n 2, 1), (42, .iconst 4, 1), (43, .if_icmp .ne 22, 3), (46, .aload_n 0, 1), (47, .getfield 12, 3), (50, .aload_n 0, 1), (51, .getfield 12, 3), (54, .getfield 106, 3), (57, .iconst 1, 1), (58, .aaload, 1), (59, .iload_n 1, 1), (60, .iaload, 1), (61, .invokevirtual 109, 3), (64, .ireturn, 1), (65, .aload_n 0, 1), (66, .getfield 12, 3), (69, .getfield 106, 3), (72, .iload_n 2, 1), (73, .aaload, 1), (74, .iload_n 1, 1), (75, .iaload, 1), (76, .ireturn, 1)]
set_option maxRecDepth 20000 in
theorem DX7_of_0 : TX7_of_0.all (fun q => decide (decode cX7_of q.1 = .ok q.2)) = true := by decide +kernel
def TX7_change_0 : dT := [(0, .aload_n 0, 1), (1, .getfield 12, 3), (4, .iload_n 1, 1), (5, .invokevirtual 100, 3), (8, .ifCond .eq 11, 3), (11, .iload_n 2, 1), (12, .iload_n 3, 1), (13, .invokestatic 112, 3), (16, .ifCond .ne 10, 3), (19, .aload_n 0, 1), (20, .ldc 69, 2), (22, .invokevirtual 70, 3), (25, .ireturn, 1), (26, .aload_n 0, 1), (27, .getfield 12, 3), (30, .getfield 106, 3), (33, .iload_n 2, 1), (34, .aaload, 1), (35, .iload_n 1, 1), (36, .iaload, 1), (37, .istore 4, 2), (39, .aload_n 0, 1), (40, .getfield 12, 3), (43, .getfield 106, 3), (46, .iload_n 2, 1), (47, .aaload, 1), (48, .iload_n 1, 1), (49, .iload_n 3, 1), (50, .iastore, 1), (51, .iload 4, 2), (53, .ireturn, 1)]
set_option maxRecDepth 20000 in
theorem DX7_change_0 : TX7_change_0.all (fun q => decide (decode cX7_change q.1 = .ok q.2)) = true := by decide +kernel
def TX7_rain_0 : dT := [(0, .iload_n 1, 1), (1, .ifCond .lt 8, 3), (4, .iload_n 1, 1), (5, .iconst 1, 1), (6, .if_icmp .le 10, 3), (9, .aload_n 0, 1), (10, .ldc 69, 2), (12, .invokevirtual 70, 3), (15, .ireturn, 1), (16, .aload_n 0, 1), (17, .getfield 12, 3), (20, .getfield 116, 3), (23, .istore_n 2, 1), (24, .aload_n 0, 1), (25, .getfield 12, 3), (28, .iload_n 1, 1), (29, .putfield 116, 3), (32, .iload_n 2, 1), (33, .ireturn, 1)]
set_option maxRecDepth 20000 in
theorem DX7_rain_0 : TX7_rain_0.all (fun q => decide (decode cX7_rain q.1 = .ok q.2)) = true := by decide +kernel
def TX7_go_0 : dT := [(0, .iload_n 1, 1), (1, .iconst 1, 1), (2, .if_icmp .lt 9, 3), (5, .iload_n 1, 1), (6, .bipush 60, 2), (8, .if_icmp .le 10, 3), (11, .aload_n 0, 1), (12, .ldc 69, 2), (14, .invokevirtual 70, 3), (17, .ireturn, 1), (18, .aload_n 0, 1), (19, .getfield 12, 3), (22, .getfield 120, 3), (25, .ldc 123, 2), (27, .iload_n 1, 1), (28, .isub, 1), (29, .if_icmp .le 10, 3), (32, .aload_n 0, 1), (33, .ldc 124, 2), (35, .invokevirtual 70, 3), (38, .ireturn, 1), (39, .iconst 0, 1), (40, .istore_n 2, 1), (41, .iload_n 2, 1), (42, .iload_n 1, 1), (43, .if_icmp .ge 16, 3), (46, .aload_n 0, 1), (47, .getfield 12, 3), (50, .invokevirtual 125, 3), (53, .iinc 2 1, 3), (56, .goto (-15), 3), (59, .aload_n 0, 1), (60, .getfield 12, 3), (63, .getfield 120, 3), (66, .ireturn, 1)]
set_option maxRecDepth 20000 in
theorem DX7_go_0 : TX7_go_0.all (fun q => decide (decode cX7_go q.1 = .ok q.2)) = true := by decide +kernel
def TX7_now_0 : dT := [(0, .iload_n 1, 1), (1, .tableswitch 75 0 4 #[35, 43, 51, 59, 67], 35), (36, .aload_n 0, 1), (37, .getfield 12, 3), (40, .getfield 120, 3), (43, .ireturn, 1), (44, .aload_n 0, 1), (45, .getfield 12, 3), (48, .invokevirtual 128, 3), (51, .ireturn, 1), (52, .aload_n 0, 1), (53, .getfield 12, 3), (56, .invokevirtual 132, 3), (59, .ireturn, 1), (60, .aload_n 0, 1), (61, .getfield 12, 3), (64, .getfield 116, 3), (67, .ireturn, 1), (68, .aload_n 0, 1), (69, .getfield 12, 3), (72, .invokevirtual 135, 3), (75, .ireturn, 1), (76, .aload_n 0, 1), (77, .ldc 69, 2), (79, .invokevirtual 70, 3), (82, .ireturn, 1)]
set_option maxRecDepth 20000 in
theorem DX7_now_0 : TX7_now_0.all (fun q => decide (decode cX7_now q.1 = .ok q.2)) = true := by decide +kernel
def TX7_chain_0 : dT := [(0, .iload_n 1, 1), (1, .invokestatic 65, 3), (4, .ifCond .eq 19, 3), (7, .iload_n 2, 1), (8, .invokestatic 138, 3), (11, .ifCond .eq 12, 3), (14, .iload_n 3, 1), (15, .ifCond .lt 8, 3), (18, .iload_n 3, 1), (19, .iconst 3, 1), (20, .if_icmp .le 10, 3), (23, .aload_n 0, 1), (24, .ldc 69, 2), (26, .invokevirtual 70, 3), (29, .ireturn, 1), (30, .aload_n 0, 1), (31, .getfield 29, 3), (34, .aload_n 0, 1), (35, .getfield 12, 3), (38, .iload_n 1, 1), (39, .iload_n 2, 1), (40, .invokevirtual 141, 3), (43, .iload_n 3, 1), (44, .tableswitch 52 0 2 #[28, 36, 44], 28), (72, .aload_n 0, 1), (73, .getfield 29, 3), (76, .getfield 145, 3), (79, .ireturn, 1), (80, .aload_n 0, 1), (81, .getfield 29, 3), (84, .getfield 148, 3), (87, .ireturn, 1), (88, .aload_n 0, 1), (89, .getfield 29, 3), (92, .getfield 151, 3), (95, .ireturn, 1), (96, .aload_n 0, 1), (97, .getfield 29, 3), (100, .getfield 154, 3), (103, .ireturn, 1)]
set_option maxRecDepth 20000 in
theorem DX7_chain_0 : TX7_chain_0.all (fun q => decide (decode cX7_chain q.1 = .ok q.2)) = true := by decide +kernel
def TX7_through_0 : dT := [(0, .iload_n 1, 1), (1, .invokestatic 65, 3), (4, .ifCond .eq 14, 3), (7, .aload_n 0, 1), (8, .getfield 12, 3), (11, .iload_n 2, 1), (12, .invokevirtual 100, 3), (15, .ifCond .ne 10, 3), (18, .aload_n 0, 1), (19, .ldc 69, 2), (21, .invokevirtual 70, 3), (24, .ireturn, 1), (25, .aload_n 0, 1), (26, .getfield 29, 3), (29, .iload_n 1, 1), (30, .invokevirtual 157, 3), (33, .iconst 1, 1), (34, .istore_n 3, 1), (35, .iload_n 3, 1), (36, .bipush 16, 2), (38, .if_icmp .gt 43, 3), (41, .aload_n 0, 1), (42, .getfield 29, 3), (45, .aload_n 0, 1), (46, .getfield 12, 3), (49, .invokevirtual 161, 3), (52, .aload_n 0, 1), (53, .getfield 29, 3), (56, .getfield 145, 3), (59, .aload_n 0, 1), (60, .getfield 12, 3), (63, .getfield 106, 3), (66, .iconst 1, 1), (67, .aaload, 1), (68, .iload_n 2, 1), (69, .iaload, 1), (70, .if_icmp .ne 5, 3), (73, .iload_n 3, 1), (74, .ireturn, 1), (75, .iinc 3 1, 3), (78, .goto (-43), 3), (81, .aload_n 0, 1), (82, .ldc 165, 2), (84, .invokevirtual 70, 3), (87, .ireturn, 1)]
set_option maxRecDepth 20000 in
theorem DX7_through_0 : TX7_through_0.all (fun q => decide (decode cX7_through q.1 = .ok q.2)) = true := by decide +kernel
def TX7_upright_0 : dT := [(0, .iload_n 1, 1), (1, .invokestatic 65, 3), (4, .ifCond .ne 10, 3), (7, .aload_n 0, 1), (8, .ldc 69, 2), (10, .invokevirtual 70, 3), (13, .ireturn, 1), (14, .aload_n 0, 1), (15, .getfield 29, 3), (18, .iload_n 1, 1), (19, .invokevirtual 157, 3), (22, .iconst 1, 1), (23, .istore_n 2, 1), (24, .iload_n 2, 1), (25, .bipush 16, 2), (27, .if_icmp .gt 42, 3), (30, .aload_n 0, 1), (31, .getfield 29, 3), (34, .aload_n 0, 1), (35, .getfield 12, 3), (38, .invokevirtual 161, 3), (41, .aload_n 0, 1), (42, .getfield 29, 3), (45, .getfield 151, 3), (48, .ifCond .ne 15, 3), (51, .aload_n 0, 1), (52, .getfield 29, 3), (55, .getfield 154, 3), (58, .ifCond .ne 5, 3), (61, .iload_n 2, 1), (62, .ireturn, 1), (63, .iinc 2 1, 3), (66, .goto (-42), 3), (69, .aload_n 0, 1), (70, .ldc 165, 2), (72, .invokevirtual 70, 3), (75, .ireturn, 1)]
set_option maxRecDepth 20000 in
theorem DX7_upright_0 : TX7_upright_0.all (fun q => decide (decode cX7_upright q.1 = .ok q.2)) = true := by decide +kernel
def TX7_large_0 : dT := [(0, .iload_n 1, 1), (1, .invokestatic 65, 3), (4, .ifCond .eq 21, 3), (7, .iload_n 2, 1), (8, .invokestatic 138, 3), (11, .ifCond .eq 14, 3), (14, .aload_n 0, 1), (15, .getfield 12, 3), (18, .iload_n 3, 1), (19, .invokevirtual 100, 3), (22, .ifCond .ne 10, 3), (25, .aload_n 0, 1), (26, .ldc 69, 2), (28, .invokevirtual 70, 3), (31, .ireturn, 1), (32, .aload_n 0, 1), (33, .getfield 29, 3), (36, .aload_n 0, 1), (37, .getfield 12, 3), (40, .iload_n 1, 1), (41, .iload_n 2, 1), (42, .invokevirtual 141, 3), (45, .aload_n 0, 1), (46, .getfield 29, 3), (49, .getfield 145, 3), (52, .aload_n 0, 1), (53, .getfield 12, 3), (56, .getfield 106, 3), (59, .iconst 1, 1), (60, .aaload, 1), (61, .iload_n 3, 1), (62, .iaload, 1), (63, .if_icmp .eq 10, 3), (66, .aload_n 0, 1), (67, .ldc 124, 2), (69, .invokevirtual 70, 3), (72, .ireturn, 1), (73, .aload_n 0, 1), (74, .getfield 12, 3), (77, .getfield 106, 3), (80, .iconst 2, 1), (81, .aaload, 1), (82, .iload_n 3, 1), (83, .iaload, 1), (84, .aload_n 0, 1), (85, .getfield 29, 3), (88, .getfield 148, 3), (91, .imul, 1), (92, .bipush 81, 2), (94, .idiv, 1), (95, .ireturn, 1)]
set_option maxRecDepth 20000 in
theorem DX7_large_0 : TX7_large_0.all (fun q => decide (decode cX7_large q.1 = .ok q.2)) = true := by decide +kernel
def TX7_round_0 : dT := [(0, .iload_n 1, 1), (1, .invokestatic 65, 3), (4, .ifCond .ne 10, 3), (7, .aload_n 0, 1), (8, .ldc 69, 2), (10, .invokevirtual 70, 3), (13, .ireturn, 1), (14, .aload_n 0, 1), (15, .getfield 12, 3), (18, .aload_n 0, 1), (19, .getfield 12, 3), (22, .iload_n 1, 1), (23, .bipush 16, 2), (25, .invokevirtual 166, 3), (28, .invokevirtual 170, 3), (31, .ireturn, 1)]
set_option maxRecDepth 20000 in
theorem DX7_round_0 : TX7_round_0.all (fun q => decide (decode cX7_round q.1 = .ok q.2)) = true := by decide +kernel
def TX7_rounds_0 : dT := [(0, .iconst 0, 1), (1, .istore_n 1, 1), (2, .iconst 0, 1), (3, .istore_n 2, 1), (4, .iload_n 2, 1), (5, .bipush 16, 2), (7, .if_icmp .ge 23, 3), (10, .aload_n 0, 1), (11, .getfield 12, 3), (14, .iload_n 2, 1), (15, .invokevirtual 173, 3), (18, .ifCond .eq 6, 3), (21, .iinc 1 1, 3), (24, .iinc 2 1, 3), (27, .goto (-23), 3), (30, .iload_n 1, 1), (31, .ireturn, 1)]
set_option maxRecDepth 20000 in
theorem DX7_rounds_0 : TX7_rounds_0.all (fun q => decide (decode cX7_rounds q.1 = .ok q.2)) = true := by decide +kernel
def TX7_before_0 : dT := [(0, .iload_n 1, 1), (1, .invokestatic 65, 3), (4, .ifCond .ne 10, 3), (7, .aload_n 0, 1), (8, .ldc 69, 2), (10, .invokevirtual 70, 3), (13, .ireturn, 1), (14, .iload_n 1, 1), (15, .istore_n 2, 1), (16, .iconst 0, 1), (17, .istore_n 3, 1), (18, .iload_n 3, 1), (19, .bipush 16, 2), (21, .if_icmp .ge 32, 3), (24, .aload_n 0, 1), (25, .getfield 12, 3), (28, .iload_n 2, 1), (29, .invokevirtual 170, 3), (32, .ifCond .ne 21, 3), (35, .aload_n 0, 1), (36, .getfield 12, 3), (39, .getfield 80, 3), (42, .iconst 0, 1), (43, .aaload, 1), (44, .iload_n 2, 1), (45, .iaload, 1), (46, .istore_n 2, 1), (47, .iinc 3 1, 3), (50, .goto (-32), 3), (53, .iload_n 3, 1), (54, .ireturn, 1)]
set_option maxRecDepth 20000 in
theorem DX7_before_0 : TX7_before_0.all (fun q => decide (decode cX7_before q.1 = .ok q.2)) = true := by decide +kernel
def TX7_shownBy_0 : dT := [(0, .iload_n 1, 1), (1, .invokestatic 65, 3), (4, .ifCond .ne 10, 3), (7, .aload_n 0, 1), (8, .ldc 69, 2), (10, .invokevirtual 70, 3), (13, .ireturn, 1), (14, .iconst 0, 1), (15, .istore_n 2, 1), (16, .iconst 0, 1), (17, .istore_n 3, 1), (18, .iload_n 3, 1), (19, .bipush 16, 2), (21, .if_icmp .ge 27, 3), (24, .aload_n 0, 1), (25, .getfield 12, 3), (28, .iload_n 3, 1), (29, .iload_n 1, 1), (30, .invokevirtual 176, 3), (33, .ifCond .eq 9, 3), (36, .iload_n 2, 1), (37, .iconst 1, 1), (38, .iload_n 3, 1), (39, .ishl, 1), (40, .ior, 1), (41, .istore_n 2, 1), (42, .iinc 3 1, 3), (45, .goto (-27), 3), (48, .iload_n 2, 1), (49, .ireturn, 1)]
set_option maxRecDepth 20000 in
theorem DX7_shownBy_0 : TX7_shownBy_0.all (fun q => decide (decode cX7_shownBy q.1 = .ok q.2)) = true := by decide +kernel
def TX7_ahead_0 : dT := [(0, .aload_n 0, 1), (1, .getfield 12, 3), (4, .iload_n 1, 1), (5, .invokevirtual 100, 3), (8, .ifCond .eq 13, 3), (11, .iload_n 2, 1), (12, .ifCond .lt 9, 3), (15, .iload_n 2, 1), (16, .bipush 100, 2), (18, .if_icmp .le 10, 3), (21, .aload_n 0, 1), (22, .ldc 69, 2), (24, .invokevirtual 70, 3), (27, .ireturn, 1), (28, .aload_n 0, 1), (29, .getfield 16, 3), (32, .aload_n 0, 1), (33, .getfield 12, 3), (36, .invokevirtual 179, 3), (39, .iconst 0, 1), (40, .istore_n 3, 1), (41, .iload_n 3, 1), (42, .iload_n 2, 1), (43, .if_icmp .ge 16, 3), (46, .aload_n 0, 1), (47, .getfield 16, 3), (50, .invokevirtual 125, 3), (53, .iinc 3 1, 3), (56, .goto (-15), 3), (59, .aload_n 0, 1), (60, .getfield 16, 3), (63, .getfield 106, 3), (66, .iconst 1, 1), (67, .aaload, 1), (68, .iload_n 1, 1), (69, .iaload, 1), (70, .ireturn, 1)]
set_option maxRecDepth 20000 in
theorem DX7_ahead_0 : TX7_ahead_0.all (fun q => decide (decode cX7_ahead q.1 = .ok q.2)) = true := by decide +kernel
def TX7_comes_0 : dT := [(0, .aload_n 0, 1), (1, .getfield 12, 3), (4, .iload_n 1, 1), (5, .invokevirtual 100, 3), (8, .ifCond .eq 10, 3), (11, .iload_n 2, 1), (12, .invokestatic 65, 3), (15, .ifCond .ne 10, 3), (18, .aload_n 0, 1), (19, .ldc 69, 2), (21, .invokevirtual 70, 3), (24, .ireturn, 1), (25, .aload_n 0, 1), (26, .getfield 16, 3), (29, .aload_n 0, 1), (30, .getfield 12, 3), (33, .invokevirtual 179, 3), (36, .aload_n 0, 1), (37, .aload_n 0, 1), (38, .getfield 36, 3), (41, .aload_n 0, 1), (42, .getfield 16, 3), (45, .iload_n 1, 1), (46, .iload_n 2, 1), (47, .invokevirtual 182, 3), (50, .invokevirtual 186, 3), (53, .ireturn, 1)]
set_option maxRecDepth 20000 in
theorem DX7_comes_0 : TX7_comes_0.all (fun q => decide (decode cX7_comes q.1 = .ok q.2)) = true := by decide +kernel
def TX7_seen_0 : dT := [(0, .aload_n 0, 1), (1, .getfield 12, 3), (4, .iload_n 1, 1), (5, .invokevirtual 100, 3), (8, .ifCond .eq 10, 3), (11, .iload_n 2, 1), (12, .invokestatic 65, 3), (15, .ifCond .ne 10, 3), (18, .aload_n 0, 1), (19, .ldc 69, 2), (21, .invokevirtual 70, 3), (24, .ireturn, 1), (25, .aload_n 0, 1), (26, .getfield 16, 3), (29, .aload_n 0, 1), (30, .getfield 12, 3), (33, .invokevirtual 179, 3), (36, .aload_n 0, 1), (37, .aload_n 0, 1), (38, .getfield 36, 3), (41, .aload_n 0, 1), (42, .getfield 16, 3), (45, .iload_n 1, 1), (46, .aload_n 0, 1), (47, .getfield 12, 3), (50, .getfield 80, 3), (53, .iconst 0, 1), (54, .aaload, 1), (55, .iload_n 2, 1), (56, .iaload, 1), (57, .invokevirtual 182, 3), (60, .invokevirtual 186, 3), (63, .ireturn, 1)]
set_option maxRecDepth 20000 in
theorem DX7_seen_0 : TX7_seen_0.all (fun q => decide (decode cX7_seen q.1 = .ok q.2)) = true := by decide +kernel
def TX7_meet_0 : dT := [(0, .aload_n 0, 1), (1, .getfield 12, 3), (4, .iload_n 1, 1), (5, .invokevirtual 100, 3), (8, .ifCond .eq 19, 3), (11, .aload_n 0, 1), (12, .getfield 12, 3), (15, .iload_n 2, 1), (16, .invokevirtual 100, 3), (19, .ifCond .eq 8, 3), (22, .iload_n 1, 1), (23, .iload_n 2, 1), (24, .if_icmp .ne 10, 3), (27, .aload_n 0, 1), (28, .ldc 69, 2), (30, .invokevirtual 70, 3), (33, .ireturn, 1), (34, .aload_n 0, 1), (35, .getfield 16, 3), (38, .aload_n 0, 1), (39, .getfield 12, 3), (42, .invokevirtual 179, 3), (45, .aload_n 0, 1), (46, .aload_n 0, 1), (47, .getfield 36, 3), (50, .aload_n 0, 1), (51, .getfield 16, 3), (54, .iload_n 1, 1), (55, .iload_n 2, 1), (56, .invokevirtual 189, 3), (59, .invokevirtual 186, 3), (62, .ireturn, 1)]
set_option maxRecDepth 20000 in
theorem DX7_meet_0 : TX7_meet_0.all (fun q => decide (decode cX7_meet q.1 = .ok q.2)) = true := by decide +kernel
def TX7_cast_0 : dT := [(0, .aload_n 0, 1), (1, .getfield 12, 3), (4, .iload_n 1, 1), (5, .invokevirtual 100, 3), (8, .ifCond .eq 14, 3), (11, .iload_n 2, 1), (12, .iconst 1, 1), (13, .if_icmp .lt 9, 3), (16, .iload_n 2, 1), (17, .bipush 100, 2), (19, .if_icmp .le 10, 3), (22, .aload_n 0, 1), (23, .ldc 69, 2), (25, .invokevirtual 70, 3), (28, .ireturn, 1), (29, .aload_n 0, 1), (30, .getfield 16, 3), (33, .aload_n 0, 1), (34, .getfield 12, 3), (37, .invokevirtual 179, 3), (40, .aload_n 0, 1), (41, .getfield 36, 3), (44, .aload_n 0, 1), (45, .getfield 16, 3), (48, .iload_n 1, 1), (49, .iload_n 2, 1), (50, .invokevirtual 192, 3), (53, .ireturn, 1)]
set_option maxRecDepth 20000 in
theorem DX7_cast_0 : TX7_cast_0.all (fun q => decide (decode cX7_cast q.1 = .ok q.2)) = true := by decide +kernel
def TX7_kindFor_0 : dT := [(0, .aload_n 0, 1), (1, .getfield 12, 3), (4, .iload_n 1, 1), (5, .invokevirtual 100, 3), (8, .ifCond .ne 10, 3), (11, .aload_n 0, 1), (12, .ldc 69, 2), (14, .invokevirtual 70, 3), (17, .ireturn, 1), (18, .iconst 0, 1), (19, .istore_n 2, 1), (20, .iconst (-1), 1), (21, .istore_n 3, 1), (22, .iconst 0, 1), (23, .istore 4, 2), (25, .iload 4, 2), (27, .bipush 7, 2), (29, .if_icmp .ge 62, 3), (32, .aload_n 0, 1), (33, .getfield 16, 3), (36, .aload_n 0, 1), (37, .getfield 12, 3), (40, .invokevirtual 179, 3), (43, .aload_n 0, 1), (44, .getfield 16, 3), (47, .getfield 106, 3), (50, .iconst 0, 1), (51, .aaload, 1), (52, .iload_n 1, 1), (53, .iload 4, 2), (55, .iastore, 1), (56, .aload_n 0, 1), (57, .getfield 36, 3), (60, .aload_n 0, 1), (61, .getfield 16, 3), (64, .iload_n 1, 1), (65, .invokevirtual 195, 3), (68, .invokestatic 199, 3), (71, .istore 5, 2), (73, .iload 5, 2), (75, .iload_n 3, 1), (76, .if_icmp .le 9, 3), (79, .iload 5, 2), (81, .istore_n 3, 1), (82, .iload 4, 2), (84, .istore_n 2, 1), (85, .iinc 4 1, 3), (88, .goto (-63), 3), (91, .iload_n 2, 1), (92, .ireturn, 1)]
set_option maxRecDepth 20000 in
theorem DX7_kindFor_0 : TX7_kindFor_0.all (fun q => decide (decode cX7_kindFor q.1 = .ok q.2)) = true := by decide +kernel
def TX7_fits_0 : dT := [(0, .aload_n 0, 1), (1, .iload_n 1, 1), (2, .iload_n 2, 1), (3, .invokevirtual 204, 3), (6, .istore_n 3, 1), (7, .iload_n 3, 1), (8, .ifCond .eq 9, 3), (11, .aload_n 0, 1), (12, .iload_n 3, 1), (13, .invokevirtual 70, 3), (16, .ireturn, 1), (17, .aload_n 0, 1), (18, .aload_n 0, 1), (19, .getfield 57, 3), (22, .iload_n 1, 1), (23, .aaload, 1), (24, .iload_n 2, 1), (25, .invokevirtual 207, 3), (28, .invokestatic 199, 3), (31, .ireturn, 1)]
set_option maxRecDepth 20000 in
theorem DX7_fits_0 : TX7_fits_0.all (fun q => decide (decode cX7_fits q.1 = .ok q.2)) = true := by decide +kernel
def TX7_lens_0 : dT := [(0, .aload_n 0, 1), (1, .iload_n 1, 1), (2, .iload_n 2, 1), (3, .invokevirtual 204, 3), (6, .istore_n 3, 1), (7, .iload_n 3, 1), (8, .ifCond .eq 9, 3), (11, .aload_n 0, 1), (12, .iload_n 3, 1), (13, .invokevirtual 70, 3), (16, .ireturn, 1), (17, .aload_n 0, 1), (18, .aload_n 0, 1), (19, .getfield 57, 3), (22, .iload_n 1, 1), (23, .aaload, 1), (24, .iload_n 2, 1), (25, .invokevirtual 207, 3), (28, .istore 4, 2), (30, .iload 4, 2), (32, .ifCond .ne 10, 3), (35, .aload_n 0, 1), (36, .ldc 165, 2), (38, .invokevirtual 70, 3), (41, .ireturn, 1), (42, .iload 4, 2), (44, .invokestatic 211, 3), (47, .ireturn, 1)]
set_option maxRecDepth 20000 in
theorem DX7_lens_0 : TX7_lens_0.all (fun q => decide (decode cX7_lens q.1 = .ok q.2)) = true := by decide +kernel
def TX7_which_0 : dT := [(0, .aload_n 0, 1), (1, .iload_n 1, 1), (2, .invokevirtual 214, 3), (5, .istore_n 2, 1), (6, .iload_n 2, 1), (7, .ifCond .eq 9, 3), (10, .aload_n 0, 1), (11, .iload_n 2, 1), (12, .invokevirtual 70, 3), (15, .ireturn, 1), (16, .aload_n 0, 1), (17, .getfield 16, 3), (20, .aload_n 0, 1), (21, .getfield 12, 3), (24, .invokevirtual 179, 3), (27, .aload_n 0, 1), (28, .getfield 36, 3), (31, .aload_n 0, 1), (32, .getfield 16, 3), (35, .aload_n 0, 1), (36, .getfield 57, 3), (39, .iload_n 1, 1), (40, .aaload, 1), (41, .invokevirtual 217, 3), (44, .ireturn, 1)]
set_option maxRecDepth 20000 in
theorem DX7_which_0 : TX7_which_0.all (fun q => decide (decode cX7_which q.1 = .ok q.2)) = true := by decide +kernel
def TX7_eyes_0 : dT := [(0, .aload_n 0, 1), (1, .getfield 12, 3), (4, .invokevirtual 128, 3), (7, .istore_n 1, 1), (8, .iconst 0, 1), (9, .istore_n 2, 1), (10, .iconst 0, 1), (11, .istore_n 3, 1), (12, .iload_n 3, 1), (13, .bipush 16, 2), (15, .if_icmp .ge 47, 3), (18, .iload_n 1, 1), (19, .iload_n 3, 1), (20, .ishr, 1), (21, .iconst 1, 1), (22, .iand, 1), (23, .ifCond .eq 33, 3), (26, .aload_n 0, 1), (27, .getfield 12, 3), (30, .iload_n 3, 1), (31, .invokevirtual 109, 3), (34, .istore 4, 2), (36, .iload 4, 2), (38, .ifCond .ne 10, 3), (41, .aload_n 0, 1), (42, .ldc 165, 2), (44, .invokevirtual 70, 3), (47, .ireturn, 1), (48, .iload_n 2, 1), (49, .iload 4, 2), (51, .invokestatic 221, 3), (54, .ior, 1), (55, .istore_n 2, 1), (56, .iinc 3 1, 3), (59, .goto (-47), 3), (62, .iload_n 2, 1), (63, .ireturn, 1)]
set_option maxRecDepth 20000 in
theorem DX7_eyes_0 : TX7_eyes_0.all (fun q => decide (decode cX7_eyes q.1 = .ok q.2)) = true := by decide +kernel
def TX7_dredge_0 : dT := [(0, .aload_n 0, 1), (1, .getfield 12, 3), (4, .iload_n 1, 1), (5, .invokevirtual 100, 3), (8, .ifCond .eq 12, 3), (11, .iload_n 2, 1), (12, .ifCond .lt 8, 3), (15, .iload_n 2, 1), (16, .iconst 1, 1), (17, .if_icmp .le 10, 3), (20, .aload_n 0, 1), (21, .ldc 69, 2), (23, .invokevirtual 70, 3), (26, .ireturn, 1), (27, .aload_n 0, 1), (28, .getfield 12, 3), (31, .aload_n 0, 1), (32, .getfield 12, 3), (35, .getfield 106, 3), (38, .iconst 1, 1), (39, .aaload, 1), (40, .iload_n 1, 1), (41, .iaload, 1), (42, .invokevirtual 109, 3), (45, .istore_n 3, 1), (46, .iconst 0, 1), (47, .istore 4, 2), (49, .iconst 0, 1), (50, .istore 5, 2), (52, .iconst 0, 1), (53, .istore 6, 2), (55, .iload 6, 2), (57, .bipush 16, 2), (59, .if_icmp .ge 48, 3), (62, .aload_n 0, 1), (63, .getfield 12, 3), (66, .iload 6, 2), (68, .invokevirtual 109, 3), (71, .iload_n 3, 1), (72, .if_icmp .ne 29, 3), (75, .iload 4, 2), (77, .iconst 1, 1), (78, .iload 6, 2), (80, .ishl, 1), (81, .ior, 1), (82, .istore 4, 2), (84, .iload 5, 2), (86, .aload_n 0, 1), (87, .getfield 12, 3), (90, .getfield 80, 3), (93, .iconst 5, 1), (94, .aaload, 1), (95, .iload 6, 2), (97, .iaload, 1), (98, .iadd, 1), (99, .istore 5, 2), (101, .iinc 6 1, 3), (104, .goto (-49), 3), (107, .iload_n 2, 1), (108, .ifCond .ne 8, 3), (111, .iload 4, 2), (113, .goto 5, 3), (116, .iload 5, 2), (118, .ireturn, 1)]
set_option maxRecDepth 20000 in
theorem DX7_dredge_0 : TX7_dredge_0.all (fun q => decide (decode cX7_dredge q.1 = .ok q.2)) = true := by decide +kernel
def TX7_watch_0 : dT := [(0, .iload_n 1, 1), (1, .iconst 1, 1), (2, .if_icmp .lt 9, 3), (5, .iload_n 1, 1), (6, .bipush 40, 2), (8, .if_icmp .le 10, 3), (11, .aload_n 0, 1), (12, .ldc 69, 2), (14, .invokevirtual 70, 3), (17, .ireturn, 1), (18, .aload_n 0, 1), (19, .getfield 16, 3), (22, .aload_n 0, 1), (23, .getfield 12, 3), (26, .invokevirtual 179, 3), (29, .aload_n 0, 1), (30, .getfield 36, 3), (33, .aload_n 0, 1), (34, .getfield 16, 3), (37, .iload_n 1, 1), (38, .invokevirtual 224, 3), (41, .ireturn, 1)]
set_option maxRecDepth 20000 in
theorem DX7_watch_0 : TX7_watch_0.all (fun q => decide (decode cX7_watch q.1 = .ok q.2)) = true := by decide +kernel
def TX7_falls_0 : dT := [(0, .iload_n 1, 1), (1, .iconst 1, 1), (2, .if_icmp .lt 9, 3), (5, .iload_n 1, 1), (6, .bipush 20, 2), (8, .if_icmp .le 10, 3), (11, .aload_n 0, 1), (12, .ldc 69, 2), (14, .invokevirtual 70, 3), (17, .ireturn, 1), (18, .aload_n 0, 1), (19, .getfield 12, 3), (22, .getfield 120, 3), (25, .ldc 123, 2), (27, .iload_n 1, 1), (28, .isub, 1), (29, .if_icmp .le 10, 3), (32, .aload_n 0, 1), (33, .ldc 124, 2), (35, .invokevirtual 70, 3), (38, .ireturn, 1), (39, .iconst 0, 1), (40, .istore_n 2, 1), (41, .iconst 0, 1), (42, .istore_n 3, 1), (43, .iload_n 3, 1), (44, .iload_n 1, 1), (45, .if_icmp .ge 36, 3), (48, .aload_n 0, 1), (49, .getfield 12, 3), (52, .invokevirtual 227, 3), (55, .aload_n 0, 1), (56, .getfield 12, 3), (59, .invokevirtual 125, 3), (62, .iload_n 2, 1), (63, .aload_n 0, 1), (64, .getfield 12, 3), (67, .invokevirtual 132, 3), (70, .invokestatic 199, 3), (73, .iadd, 1), (74, .istore_n 2, 1), (75, .iinc 3 1, 3), (78, .goto (-35), 3), (81, .iload_n 2, 1), (82, .ireturn, 1)]
set_option maxRecDepth 20000 in
theorem DX7_falls_0 : TX7_falls_0.all (fun q => decide (decode cX7_falls q.1 = .ok q.2)) = true := by decide +kernel
def TX7_odds_0 : dT := [(0, .iload_n 1, 1), (1, .ifCond .lt 18, 3), (4, .iload_n 1, 1), (5, .bipush 12, 2), (7, .if_icmp .gt 12, 3), (10, .iload_n 2, 1), (11, .ifCond .lt 8, 3), (14, .iload_n 2, 1), (15, .iconst 1, 1), (16, .if_icmp .le 11, 3), (19, .aload_n 0, 1), (20, .ldc 69, 2), (22, .invokevirtual 70, 3), (25, .i2l, 1), (26, .lreturn, 1), (27, .bipush 16, 2), (29, .aload_n 0, 1), (30, .getfield 12, 3), (33, .invokevirtual 132, 3), (36, .invokestatic 199, 3), (39, .isub, 1), (40, .istore_n 3, 1), (41, .bipush 16, 2), (43, .istore 4, 2), (45, .iload 4, 2), (47, .iconst 1, 1), (48, .if_icmp .le 22, 3), (51, .iload_n 3, 1), (52, .iconst 2, 1), (53, .irem, 1), (54, .ifCond .ne 16, 3), (57, .iload_n 3, 1), (58, .iconst 2, 1), (59, .idiv, 1), (60, .istore_n 3, 1), (61, .iload 4, 2), (63, .iconst 2, 1), (64, .idiv, 1), (65, .istore 4, 2), (67, .goto (-22), 3), (70, .iload_n 2, 1), (71, .ifCond .ne 7, 3), (74, .iload_n 3, 1), (75, .goto 5, 3), (78, .iload 4, 2), (80, .istore 5, 2), (82, .lconst 1, 1), (83, .lstore 6, 2), (85, .iconst 0, 1), (86, .istore 8, 2), (88, .iload 8, 2), (90, .iload_n 1, 1), (91, .if_icmp .ge 17, 3), (94, .lload 6, 2), (96, .iload 5, 2), (98, .i2l, 1), (99, .lmul, 1), (100, .lstore 6, 2), (102, .iinc 8 1, 3), (105, .goto (-17), 3), (108, .lload 6, 2), (110, .lreturn, 1)]
set_option maxRecDepth 20000 in
theorem DX7_odds_0 : TX7_odds_0.all (fun q => decide (decode cX7_odds q.1 = .ok q.2)) = true := by decide +kernel
def TX7_seed_0 : dT := [(0, .aload_n 0, 1), (1, .getfield 12, 3), (4, .getfield 230, 3), (7, .istore_n 2, 1), (8, .aload_n 0, 1), (9, .getfield 12, 3), (12, .iload_n 1, 1), (13, .putfield 230, 3), (16, .iload_n 2, 1), (17, .ireturn, 1)]
set_option maxRecDepth 20000 in
theorem DX7_seed_0 : TX7_seed_0.all (fun q => decide (decode cX7_seed q.1 = .ok q.2)) = true := by decide +kernel
def TX7_feed_0 : dT := [(0, .iload_n 2, 1), (1, .iconst 1, 1), (2, .if_icmp .lt 8, 3), (5, .iload_n 2, 1), (6, .iconst 4, 1), (7, .if_icmp .le 10, 3), (10, .aload_n 0, 1), (11, .ldc 69, 2), (13, .invokevirtual 70, 3), (16, .ireturn, 1), (17, .iload_n 2, 1), (18, .bipush 120, 2), (20, .aload_n 0, 1), (21, .getfield 43, 3), (24, .getfield 233, 3), (27, .isub, 1), (28, .if_icmp .le 10, 3), (31, .aload_n 0, 1), (32, .ldc 95, 2), (34, .invokevirtual 70, 3), (37, .ireturn, 1), (38, .iload_n 2, 1), (39, .iconst 1, 1), (40, .isub, 1), (41, .istore_n 3, 1), (42, .iload_n 3, 1), (43, .ifCond .lt 26, 3), (46, .aload_n 0, 1), (47, .getfield 43, 3), (50, .iload_n 1, 1), (51, .bipush 8, 2), (53, .iload_n 3, 1), (54, .imul, 1), (55, .iushr, 1), (56, .sipush 255, 3), (59, .iand, 1), (60, .invokevirtual 236, 3), (63, .iinc 3 (-1), 3), (66, .goto (-24), 3), (69, .aload_n 0, 1), (70, .getfield 43, 3), (73, .getfield 233, 3), (76, .ireturn, 1)]
set_option maxRecDepth 20000 in
theorem DX7_feed_0 : TX7_feed_0.all (fun q => decide (decode cX7_feed q.1 = .ok q.2)) = true := by decide +kernel
def TX7_wipe_0 : dT := [(0, .aload_n 0, 1), (1, .getfield 43, 3), (4, .getfield 233, 3), (7, .istore_n 1, 1), (8, .aload_n 0, 1), (9, .getfield 43, 3), (12, .iconst 0, 1), (13, .putfield 233, 3), (16, .iload_n 1, 1), (17, .ireturn, 1)]
set_option maxRecDepth 20000 in
theorem DX7_wipe_0 : TX7_wipe_0.all (fun q => decide (decode cX7_wipe q.1 = .ok q.2)) = true := by decide +kernel
def TX7_text_0 : dT := [(0, .aload_n 0, 1), (1, .getfield 16, 3), (4, .aload_n 0, 1), (5, .getfield 12, 3), (8, .invokevirtual 179, 3), (11, .aload_n 0, 1), (12, .getfield 50, 3), (15, .aload_n 0, 1), (16, .getfield 43, 3), (19, .aload_n 0, 1), (20, .getfield 16, 3), (23, .invokevirtual 239, 3), (26, .istore_n 1, 1), (27, .iload_n 1, 1), (28, .ifCond .le 14, 3), (31, .aload_n 0, 1), (32, .getfield 12, 3), (35, .aload_n 0, 1), (36, .getfield 16, 3), (39, .invokevirtual 179, 3), (42, .aload_n 0, 1), (43, .getfield 43, 3), (46, .iconst 0, 1), (47, .putfield 233, 3), (50, .iload_n 1, 1), (51, .ireturn, 1)]
set_option maxRecDepth 20000 in
theorem DX7_text_0 : TX7_text_0.all (fun q => decide (decode cX7_text q.1 = .ok q.2)) = true := by decide +kernel
def TX7_hold_0 : dT := [(0, .iload_n 1, 1), (1, .invokestatic 243, 3), (4, .ifCond .eq 19, 3), (7, .iload_n 2, 1), (8, .iconst (-1), 1), (9, .if_icmp .eq 21, 3), (12, .aload_n 0, 1), (13, .getfield 12, 3), (16, .iload_n 2, 1), (17, .invokevirtual 100, 3), (20, .ifCond .ne 10, 3), (23, .aload_n 0, 1), (24, .ldc 69, 2), (26, .invokevirtual 70, 3), (29, .ireturn, 1), (30, .aload_n 0, 1), (31, .getfield 12, 3), (34, .getfield 246, 3), (37, .iload_n 1, 1), (38, .iload_n 2, 1), (39, .iastore, 1), (40, .iconst 1, 1), (41, .ireturn, 1)]
set_option maxRecDepth 20000 in
theorem DX7_hold_0 : TX7_hold_0.all (fun q => decide (decode cX7_hold q.1 = .ok q.2)) = true := by decide +kernel
def TX7_as_0 : dT := [(0, .iload_n 1, 1), (1, .invokestatic 243, 3), (4, .ifCond .eq 10, 3), (7, .iload_n 2, 1), (8, .invokestatic 88, 3), (11, .ifCond .ne 10, 3), (14, .aload_n 0, 1), (15, .ldc 69, 2), (17, .invokevirtual 70, 3), (20, .ireturn, 1), (21, .aload_n 0, 1), (22, .getfield 12, 3), (25, .getfield 246, 3), (28, .iload_n 1, 1), (29, .iaload, 1), (30, .istore_n 3, 1), (31, .aload_n 0, 1), (32, .getfield 12, 3), (35, .iload_n 3, 1), (36, .invokevirtual 100, 3), (39, .ifCond .ne 10, 3), (42, .aload_n 0, 1), (43, .ldc 249, 2), (45, .invokevirtual 70, 3), (48, .ireturn, 1), (49, .aload_n 0, 1), (50, .getfield 12, 3), (53, .iload_n 3, 1), (54, .iload_n 2, 1), (55, .invokevirtual 250, 3), (58, .ifCond .ne 10, 3), (61, .aload_n 0, 1), (62, .ldc 253, 2), (64, .invokevirtual 70, 3), (67, .ireturn, 1), (68, .iload_n 3, 1), (69, .ireturn, 1)]
set_option maxRecDepth 20000 in
theorem DX7_as_0 : TX7_as_0.all (fun q => decide (decode cX7_as q.1 = .ok q.2)) = true := by decide +kernel
def TX7_sheet_0 : dT := [(0, .iload_n 1, 1), (1, .invokestatic 254, 3), (4, .ifCond .eq 10, 3), (7, .iload_n 2, 1), (8, .invokestatic 257, 3), (11, .ifCond .ne 10, 3), (14, .aload_n 0, 1), (15, .ldc 69, 2), (17, .invokevirtual 70, 3), (20, .ireturn, 1), (21, .iload_n 3, 1), (22, .ifCond .ge 11, 3), (25, .aload_n 0, 1), (26, .ldc_w 260, 3), (29, .invokevirtual 70, 3), (32, .ireturn, 1), (33, .iload_n 3, 1), (34, .bipush 40, 2), (36, .if_icmp .le 10, 3), (39, .aload_n 0, 1), (40, .ldc 69, 2), (42, .invokevirtual 70, 3), (45, .ireturn, 1), (46, .aload_n 0, 1), (47, .getfield 57, 3), (50, .iload_n 1, 1), (51, .aaload, 1), (52, .iload_n 2, 1), (53, .iload_n 3, 1), (54, .invokevirtual 261, 3), (57, .aload_n 0, 1), (58, .getfield 57, 3), (61, .iload_n 1, 1), (62, .aaload, 1), (63, .getfield 265, 3), (66, .ireturn, 1)]
set_option maxRecDepth 20000 in
theorem DX7_sheet_0 : TX7_sheet_0.all (fun q => decide (decode cX7_sheet q.1 = .ok q.2)) = true := by decide +kernel
def TX7_write_0 : dT := [(0, .aload_n 0, 1), (1, .iload_n 1, 1), (2, .invokevirtual 214, 3), (5, .istore 4, 2), (7, .iload 4, 2), (9, .ifCond .ne 24, 3), (12, .iload_n 2, 1), (13, .ifCond .lt 16, 3), (16, .iload_n 2, 1), (17, .aload_n 0, 1), (18, .getfield 57, 3), (21, .iload_n 1, 1), (22, .aaload, 1), (23, .getfield 265, 3), (26, .if_icmp .lt 7, 3), (29, .ldc 69, 2), (31, .istore 4, 2), (33, .iload 4, 2), (35, .ifCond .eq 10, 3), (38, .aload_n 0, 1), (39, .iload 4, 2), (41, .invokevirtual 70, 3), (44, .ireturn, 1), (45, .aload_n 0, 1), (46, .getfield 57, 3), (49, .iload_n 1, 1), (50, .aaload, 1), (51, .iload_n 2, 1), (52, .iload_n 3, 1), (53, .invokevirtual 266, 3), (56, .iconst 1, 1), (57, .ireturn, 1)]
set_option maxRecDepth 20000 in
theorem DX7_write_0 : TX7_write_0.all (fun q => decide (decode cX7_write q.1 = .ok q.2)) = true := by decide +kernel
def TX7_copy_0 : dT := [(0, .iload_n 1, 1), (1, .invokestatic 254, 3), (4, .ifCond .eq 10, 3), (7, .iload_n 3, 1), (8, .invokestatic 254, 3), (11, .ifCond .ne 10, 3), (14, .aload_n 0, 1), (15, .ldc 69, 2), (17, .invokevirtual 70, 3), (20, .ireturn, 1), (21, .aload_n 0, 1), (22, .getfield 57, 3), (25, .iload_n 1, 1), (26, .aaload, 1), (27, .astore 6, 2), (29, .aload_n 0, 1), (30, .getfield 57, 3), (33, .iload_n 3, 1), (34, .aaload, 1), (35, .astore 7, 2), (37, .aload 6, 2), (39, .invokevirtual 269, 3), (42, .ifCond .ne 11, 3), (45, .aload 7, 2), (47, .invokevirtual 269, 3), (50, .ifCond .eq 10, 3), (53, .aload_n 0, 1), (54, .ldc 249, 2), (56, .invokevirtual 70, 3), (59, .ireturn, 1), (60, .aload 6, 2), (62, .getfield 272, 3), (65, .aload 7, 2), (67, .getfield 272, 3), (70, .if_icmp .eq 10, 3), (73, .aload_n 0, 1), (74, .ldc 253, 2), (76, .invokevirtual 70, 3), (79, .ireturn, 1), (80, .aload 6, 2), (82, .iload_n 2, 1), (83, .iload 5, 2), (85, .invokevirtual 275, 3), (88, .ifCond .eq 15, 3), (91, .aload 7, 2), (93, .iload 4, 2), (95, .iload 5, 2), (97, .invokevirtual 275, 3), (100, .ifCond .ne 10, 3), (103, .aload_n 0, 1), (104, .ldc 69, 2), (106, .invokevirtual 70, 3), (109, .ireturn, 1), (110, .aload 6, 2), (112, .getfield 278, 3), (115, .iload_n 2, 1), (116, .aload 7, 2), (118, .getfield 278, 3), (121, .iload 4, 2), (123, .iload 5, 2), (125, .invokestatic 281, 3), (128, .iload 5, 2), (130, .ireturn, 1)]
set_option maxRecDepth 20000 in
theorem DX7_copy_0 : TX7_copy_0.all (fun q => decide (decode cX7_copy q.1 = .ok q.2)) = true := by decide +kernel
def TX7_load_0 : dT := [(0, .aload_n 0, 1), (1, .iload_n 1, 1), (2, .invokevirtual 214, 3), (5, .istore_n 2, 1), (6, .iload_n 2, 1), (7, .ifCond .eq 9, 3), (10, .aload_n 0, 1), (11, .iload_n 2, 1), (12, .invokevirtual 70, 3), (15, .ireturn, 1), (16, .aload_n 0, 1), (17, .getfield 57, 3), (20, .iload_n 1, 1), (21, .aaload, 1), (22, .astore_n 3, 1), (23, .iconst 0, 1), (24, .istore 4, 2), (26, .iload 4, 2), (28, .aload_n 3, 1), (29, .getfield 265, 3), (32, .if_icmp .ge 43, 3), (35, .iload 4, 2), (37, .aload_n 3, 1), (38, .getfield 278, 3), (41, .iload 4, 2), (43, .iaload, 1), (44, .invokestatic 287, 3), (47, .ifCond .eq 28, 3), (50, .aload_n 0, 1), (51, .getfield 12, 3), (54, .getfield 80, 3), (57, .iconst 5, 1), (58, .aaload, 1), (59, .iload 4, 2), (61, .aload_n 3, 1), (62, .getfield 278, 3), (65, .iload 4, 2), (67, .iaload, 1), (68, .iastore, 1), (69, .iinc 4 1, 3), (72, .goto (-46), 3), (75, .iload 4, 2), (77, .ireturn, 1)]
set_option maxRecDepth 20000 in
theorem DX7_load_0 : TX7_load_0.all (fun q => decide (decode cX7_load q.1 = .ok q.2)) = true := by decide +kernel
def TX7_judge_0 : dT := [(0, .aload_n 0, 1), (1, .iload_n 1, 1), (2, .invokevirtual 214, 3), (5, .istore_n 2, 1), (6, .iload_n 2, 1), (7, .ifCond .eq 9, 3), (10, .aload_n 0, 1), (11, .iload_n 2, 1), (12, .invokevirtual 70, 3), (15, .ireturn, 1), (16, .aload_n 0, 1), (17, .getfield 57, 3), (20, .iload_n 1, 1), (21, .aaload, 1), (22, .astore_n 3, 1), (23, .iconst 0, 1), (24, .istore 4, 2), (26, .iload 4, 2), (28, .aload_n 3, 1), (29, .getfield 265, 3), (32, .if_icmp .ge 60, 3), (35, .aload_n 3, 1), (36, .getfield 278, 3), (39, .iload 4, 2), (41, .iaload, 1), (42, .istore 5, 2), (44, .iload 5, 2), (46, .invokestatic 65, 3), (49, .ifCond .eq 32, 3), (52, .iload 4, 2), (54, .ifCond .le 32, 3), (57, .aload_n 0, 1), (58, .getfield 12, 3), (61, .getfield 80, 3), (64, .iconst 0, 1), (65, .aaload, 1), (66, .aload_n 3, 1), (67, .getfield 278, 3), (70, .iload 4, 2), (72, .iconst 1, 1), (73, .isub, 1), (74, .iaload, 1), (75, .iaload, 1), (76, .iload 5, 2), (78, .if_icmp .eq 8, 3), (81, .iconst 1, 1), (82, .iload 4, 2), (84, .iadd, 1), (85, .ireturn, 1), (86, .iinc 4 1, 3), (89, .goto (-63), 3), (92, .iconst 0, 1), (93, .ireturn, 1)]
set_option maxRecDepth 20000 in
theorem DX7_judge_0 : TX7_judge_0.all (fun q => decide (decode cX7_judge q.1 = .ok q.2)) = true := by decide +kernel
def TX7_image_0 : dT := [(0, .aload_n 0, 1), (1, .getfield 19, 3), (4, .aload_n 0, 1), (5, .getfield 12, 3), (8, .invokevirtual 179, 3), (11, .aload_n 0, 1), (12, .iconst 1, 1), (13, .putfield 22, 3), (16, .iconst 1, 1), (17, .ireturn, 1)]
set_option maxRecDepth 20000 in
theorem DX7_image_0 : TX7_image_0.all (fun q => decide (decode cX7_image q.1 = .ok q.2)) = true := by decide +kernel
def TX7_undo_0 : dT := [(0, .aload_n 0, 1), (1, .getfield 22, 3), (4, .ifCond .ne 10, 3), (7, .aload_n 0, 1), (8, .ldc 165, 2), (10, .invokevirtual 70, 3), (13, .ireturn, 1), (14, .aload_n 0, 1), (15, .getfield 12, 3), (18, .aload_n 0, 1), (19, .getfield 19, 3), (22, .invokevirtual 179, 3), (25, .aload_n 0, 1), (26, .getfield 12, 3), (29, .getfield 120, 3), (32, .ireturn, 1)]
set_option maxRecDepth 20000 in
theorem DX7_undo_0 : TX7_undo_0.all (fun q => decide (decode cX7_undo q.1 = .ok q.2)) = true := by decide +kernel
def TX7_tear_0 : dT := [(0, .aload_n 0, 1), (1, .getfield 22, 3), (4, .ifCond .eq 7, 3), (7, .iconst 1, 1), (8, .goto 4, 3), (11, .iconst 0, 1), (12, .istore_n 1, 1), (13, .aload_n 0, 1), (14, .iconst 0, 1), (15, .putfield 22, 3), (18, .iload_n 1, 1), (19, .ireturn, 1)]
set_option maxRecDepth 20000 in
theorem DX7_tear_0 : TX7_tear_0.all (fun q => decide (decode cX7_tear q.1 = .ok q.2)) = true := by decide +kernel
def TX7_count_0 : dT := [(0, .iload_n 1, 1), (1, .tableswitch 117 0 7 #[47, 55, 63, 74, 85, 93, 101, 109], 47), (48, .aload_n 0, 1), (49, .getfield 12, 3), (52, .getfield 120, 3), (55, .ireturn, 1), (56, .aload_n 0, 1), (57, .getfield 12, 3), (60, .getfield 290, 3), (63, .ireturn, 1), (64, .aload_n 0, 1), (65, .getfield 12, 3), (68, .invokevirtual 128, 3), (71, .invokestatic 199, 3), (74, .ireturn, 1), (75, .aload_n 0, 1), (76, .getfield 12, 3), (79, .invokevirtual 132, 3), (82, .invokestatic 199, 3), (85, .ireturn, 1), (86, .aload_n 0, 1), (87, .getfield 12, 3), (90, .invokevirtual 135, 3), (93, .ireturn, 1), (94, .aload_n 0, 1), (95, .getfield 43, 3), (98, .getfield 233, 3), (101, .ireturn, 1), (102, .aload_n 0, 1), (103, .getfield 12, 3), (106, .getfield 230, 3), (109, .ireturn, 1), (110, .aload_n 0, 1), (111, .getfield 12, 3), (114, .invokevirtual 291, 3), (117, .ireturn, 1), (118, .aload_n 0, 1), (119, .ldc 69, 2), (121, .invokevirtual 70, 3), (124, .ireturn, 1)]
set_option maxRecDepth 20000 in
theorem DX7_count_0 : TX7_count_0.all (fun q => decide (decode cX7_count q.1 = .ok q.2)) = true := by decide +kernel
def TX7_status_0 : dT := [(0, .iload_n 1, 1), (1, .iconst (-1), 1), (2, .if_icmp .lt 9, 3), (5, .iload_n 1, 1), (6, .bipush 7, 2), (8, .if_icmp .lt 10, 3), (11, .aload_n 0, 1), (12, .ldc 69, 2), (14, .invokevirtual 70, 3), (17, .ireturn, 1), (18, .iload_n 1, 1), (19, .ifCond .lt 10, 3), (22, .aload_n 0, 1), (23, .getfield 61, 3), (26, .iload_n 1, 1), (27, .iaload, 1), (28, .ireturn, 1), (29, .iconst 0, 1), (30, .istore_n 2, 1), (31, .aload_n 0, 1), (32, .getfield 61, 3), (35, .astore_n 3, 1), (36, .aload_n 3, 1), (37, .arraylength, 1), (38, .istore 4, 2), (40, .iconst 0, 1), (41, .istore 5, 2), (43, .iload 5, 2), (45, .iload 4, 2), (47, .if_icmp .ge 20, 3), (50, .aload_n 3, 1), (51, .iload 5, 2), (53, .iaload, 1), (54, .istore 6, 2), (56, .iload_n 2, 1), (57, .iload 6, 2), (59, .iadd, 1), (60, .istore_n 2, 1), (61, .iinc 5 1, 3), (64, .goto (-21), 3), (67, .iload_n 2, 1), (68, .ireturn, 1)]
set_option maxRecDepth 20000 in
theorem DX7_status_0 : TX7_status_0.all (fun q => decide (decode cX7_status q.1 = .ok q.2)) = true := by decide +kernel
def TX7_finding_0 : dT := [(0, .ldc 69, 2), (2, .iload_n 1, 1), (3, .isub, 1), (4, .istore_n 2, 1), (5, .iload_n 2, 1), (6, .ifCond .lt 19, 3), (9, .iload_n 2, 1), (10, .bipush 7, 2), (12, .if_icmp .ge 13, 3), (15, .aload_n 0, 1), (16, .getfield 61, 3), (19, .iload_n 2, 1), (20, .dup2, 1), (21, .iaload, 1), (22, .iconst 1, 1), (23, .iadd, 1), (24, .iastore, 1), (25, .iload_n 1, 1), (26, .ireturn, 1)]
set_option maxRecDepth 20000 in
theorem DX7_finding_0 : TX7_finding_0.all (fun q => decide (decode cX7_finding q.1 = .ok q.2)) = true := by decide +kernel
def TX7_findingOrAnswer_0 : dT := [(0, .iload_n 1, 1), (1, .ldc 165, 2), (3, .if_icmp .ne 12, 3), (6, .aload_n 0, 1), (7, .ldc 165, 2), (9, .invokevirtual 70, 3), (12, .goto 4, 3), (15, .iload_n 1, 1), (16, .ireturn, 1)]
set_option maxRecDepth 20000 in
theorem DX7_findingOrAnswer_0 : TX7_findingOrAnswer_0.all (fun q => decide (decode cX7_findingOrAnswer q.1 = .ok q.2)) = true := by decide +kernel
def TX7_lackOfSheet_0 : dT := [(0, .iload_n 1, 1), (1, .invokestatic 254, 3), (4, .ifCond .ne 6, 3), (7, .ldc 69, 2), (9, .ireturn, 1), (10, .aload_n 0, 1), (11, .getfield 57, 3), (14, .iload_n 1, 1), (15, .aaload, 1), (16, .invokevirtual 269, 3), (19, .ifCond .eq 8, 3), (22, .ldc 249, 2), (24, .goto 4, 3), (27, .iconst 0, 1), (28, .ireturn, 1)]
set_option maxRecDepth 20000 in
theorem DX7_lackOfSheet_0 : TX7_lackOfSheet_0.all (fun q => decide (decode cX7_lackOfSheet q.1 = .ok q.2)) = true := by decide +kernel
def TX7_lackOfSight_0 : dT := [(0, .aload_n 0, 1), (1, .iload_n 1, 1), (2, .invokevirtual 214, 3), (5, .istore_n 3, 1), (6, .iload_n 3, 1), (7, .ifCond .ne 15, 3), (10, .iload_n 2, 1), (11, .invokestatic 65, 3), (14, .ifCond .ne 8, 3), (17, .ldc 69, 2), (19, .goto 4, 3), (22, .iload_n 3, 1), (23, .ireturn, 1)]
set_option maxRecDepth 20000 in
theorem DX7_lackOfSight_0 : TX7_lackOfSight_0.all (fun q => decide (decode cX7_lackOfSight q.1 = .ok q.2)) = true := by decide +kernel
def TX7_lensesFor_0 : dT := [(0, .iconst 0, 1), (1, .istore_n 3, 1), (2, .iconst 0, 1), (3, .istore 4, 2), (5, .iload 4, 2), (7, .bipush 16, 2), (9, .if_icmp .ge 62, 3), (12, .iload 4, 2), (14, .iload_n 2, 1), (15, .if_icmp .eq 50, 3), (18, .aload_n 0, 1), (19, .getfield 16, 3), (22, .aload_n 0, 1), (23, .getfield 12, 3), (26, .invokevirtual 179, 3), (29, .aload_n 0, 1), (30, .getfield 16, 3), (33, .getfield 80, 3), (36, .iconst 0, 1), (37, .aaload, 1), (38, .iload_n 2, 1), (39, .iload 4, 2), (41, .iastore, 1), (42, .aload_n 0, 1), (43, .getfield 36, 3), (46, .aload_n 0, 1), (47, .getfield 16, 3), (50, .iload_n 2, 1), (51, .aload_n 1, 1), (52, .invokevirtual 294, 3), (55, .ifCond .eq 10, 3), (58, .iload_n 3, 1), (59, .iconst 1, 1), (60, .iload 4, 2), (62, .ishl, 1), (63, .ior, 1), (64, .istore_n 3, 1), (65, .iinc 4 1, 3), (68, .goto (-63), 3), (71, .iload_n 3, 1), (72, .ireturn, 1)]
set_option maxRecDepth 20000 in
theorem DX7_lensesFor_0 : TX7_lensesFor_0.all (fun q => decide (decode cX7_lensesFor q.1 = .ok q.2)) = true := by decide +kernel
def TX7_isPond_0 : dT := [(0, .iload_n 0, 1), (1, .ifCond .lt 13, 3), (4, .iload_n 0, 1), (5, .bipush 16, 2), (7, .if_icmp .ge 7, 3), (10, .iconst 1, 1), (11, .goto 4, 3), (14, .iconst 0, 1), (15, .ireturn, 1)]
set_option maxRecDepth 20000 in
theorem DX7_isPond_0 : TX7_isPond_0.all (fun q => decide (decode cX7_isPond q.1 = .ok q.2)) = true := by decide +kernel
def TX7_isKind_0 : dT := [(0, .iload_n 0, 1), (1, .ifCond .lt 13, 3), (4, .iload_n 0, 1), (5, .bipush 7, 2), (7, .if_icmp .ge 7, 3), (10, .iconst 1, 1), (11, .goto 4, 3), (14, .iconst 0, 1), (15, .ireturn, 1)]
set_option maxRecDepth 20000 in
theorem DX7_isKind_0 : TX7_isKind_0.all (fun q => decide (decode cX7_isKind q.1 = .ok q.2)) = true := by decide +kernel
def TX7_isSpot_0 : dT := [(0, .iload_n 0, 1), (1, .ifCond .lt 13, 3), (4, .iload_n 0, 1), (5, .bipush 10, 2), (7, .if_icmp .ge 7, 3), (10, .iconst 1, 1), (11, .goto 4, 3), (14, .iconst 0, 1), (15, .ireturn, 1)]
set_option maxRecDepth 20000 in
theorem DX7_isSpot_0 : TX7_isSpot_0.all (fun q => decide (decode cX7_isSpot q.1 = .ok q.2)) = true := by decide +kernel
def TX7_isSheet_0 : dT := [(0, .iload_n 0, 1), (1, .ifCond .lt 12, 3), (4, .iload_n 0, 1), (5, .iconst 4, 1), (6, .if_icmp .ge 7, 3), (9, .iconst 1, 1), (10, .goto 4, 3), (13, .iconst 0, 1), (14, .ireturn, 1)]
set_option maxRecDepth 20000 in
theorem DX7_isSheet_0 : TX7_isSheet_0.all (fun q => decide (decode cX7_isSheet q.1 = .ok q.2)) = true := by decide +kernel
def TX7_isBits_0 : dT := [(0, .iload_n 0, 1), (1, .ifCond .eq 21, 3), (4, .iload_n 0, 1), (5, .bipush 8, 2), (7, .if_icmp .eq 15, 3), (10, .iload_n 0, 1), (11, .bipush 16, 2), (13, .if_icmp .eq 9, 3), (16, .iload_n 0, 1), (17, .bipush 32, 2), (19, .if_icmp .ne 7, 3), (22, .iconst 1, 1), (23, .goto 4, 3), (26, .iconst 0, 1), (27, .ireturn, 1)]
set_option maxRecDepth 20000 in
theorem DX7_isBits_0 : TX7_isBits_0.all (fun q => decide (decode cX7_isBits q.1 = .ok q.2)) = true := by decide +kernel
def TX7_isSteps_0 : dT := [(0, .iload_n 0, 1), (1, .ifCond .lt 13, 3), (4, .iload_n 0, 1), (5, .bipush 16, 2), (7, .if_icmp .gt 7, 3), (10, .iconst 1, 1), (11, .goto 4, 3), (14, .iconst 0, 1), (15, .ireturn, 1)]
set_option maxRecDepth 20000 in
theorem DX7_isSteps_0 : TX7_isSteps_0.all (fun q => decide (decode cX7_isSteps q.1 = .ok q.2)) = true := by decide +kernel
def TX7_fitsPond_0 : dT := [(0, .iload_n 1, 1), (1, .ifCond .lt 8, 3), (4, .iload_n 1, 1), (5, .iconst 5, 1), (6, .if_icmp .le 5, 3), (9, .iconst 0, 1), (10, .ireturn, 1), (11, .iload_n 1, 1), (12, .ifCond .ne 10, 3), (15, .iload_n 2, 1), (16, .iload_n 0, 1), (17, .if_icmp .ne 5, 3), (20, .iconst 0, 1), (21, .ireturn, 1), (22, .iload_n 2, 1), (23, .getstatic 298, 3), (26, .iload_n 1, 1), (27, .iaload, 1), (28, .if_icmp .lt 16, 3), (31, .iload_n 2, 1), (32, .getstatic 301, 3), (35, .iload_n 1, 1), (36, .iaload, 1), (37, .if_icmp .gt 7, 3), (40, .iconst 1, 1), (41, .goto 4, 3), (44, .iconst 0, 1), (45, .ireturn, 1)]
set_option maxRecDepth 20000 in
theorem DX7_fitsPond_0 : TX7_fitsPond_0.all (fun q => decide (decode cX7_fitsPond q.1 = .ok q.2)) = true := by decide +kernel
def TX7_fitsThing_0 : dT := [(0, .iload_n 0, 1), (1, .ifCond .lt 8, 3), (4, .iload_n 0, 1), (5, .iconst 2, 1), (6, .if_icmp .le 5, 3), (9, .iconst 0, 1), (10, .ireturn, 1), (11, .iload_n 1, 1), (12, .getstatic 304, 3), (15, .iload_n 0, 1), (16, .iaload, 1), (17, .if_icmp .lt 16, 3), (20, .iload_n 1, 1), (21, .getstatic 307, 3), (24, .iload_n 0, 1), (25, .iaload, 1), (26, .if_icmp .gt 7, 3), (29, .iconst 1, 1), (30, .goto 4, 3), (33, .iconst 0, 1), (34, .ireturn, 1)]
set_option maxRecDepth 20000 in
theorem DX7_fitsThing_0 : TX7_fitsThing_0.all (fun q => decide (decode cX7_fitsThing q.1 = .ok q.2)) = true := by decide +kernel
def TX7_fitsDepth_0 : dT := [(0, .iload_n 0, 1), (1, .invokestatic 65, 3), (4, .ifCond .eq 16, 3), (7, .iload_n 0, 1), (8, .iconst 5, 1), (9, .iload_n 1, 1), (10, .invokestatic 84, 3), (13, .ifCond .eq 7, 3), (16, .iconst 1, 1), (17, .goto 4, 3), (20, .iconst 0, 1), (21, .ireturn, 1)]
set_option maxRecDepth 20000 in
theorem DX7_fitsDepth_0 : TX7_fitsDepth_0.all (fun q => decide (decode cX7_fitsDepth q.1 = .ok q.2)) = true := by decide +kernel
def TX8_init_0 : dT := [(0, .aload_n 0, 1), (1, .invokespecial 1, 3), (4, .aload_n 0, 1), (5, .sipush 134, 3), (8, .newarray .int, 2), (10, .putfield 9, 3), (13, .aload_n 0, 1), (14, .sipush 134, 3), (17, .newarray .int, 2), (19, .putfield 13, 3), (22, .aload_n 0, 1), (23, .sipush 134, 3), (26, .newarray .int, 2), (28, .putfield 16, 3), (31, .aload_n 0, 1), (32, .bipush 7, 2), (34, .newarray .int, 2), (36, .putfield 19, 3), (39, .aload_n 0, 1), (40, .bipush 16, 2), (42, .newarray .int, 2), (44, .putfield 22, 3), (47, .aload_n 0, 1), (48, .bipush 120, 2), (50, .newarray .int, 2), (52, .putfield 25, 3), (55, .aload_n 0, 1), (56, .bipush 56, 2), (58, .newarray .char, 2), (60, .dup, 1), (61, .iconst 0, 1), (62, .bipush 116, 2), (64, .castore, 1), (65, .dup, 1), (66, .iconst 1, 1), (67, .bipush 104, 2), (69, .castore, 1), (70, .dup, 1), (71, .iconst 2, 1), (72, .bipush 105, 2), (74, .castore, 1), (75, .dup, 1), (76, .iconst 3, 1), (77, .bipush 110, 2), (79, .castore, 1), (80, .dup, 1), (81, .iconst 4, 1), (82, .bipush 103, 2), (84, .castore, 1), (85, .dup, 1), (86, .iconst 5, 1), (87, .bipush 32, 2), (89, .castore, 1), (90, .dup, 1), (91, .bipush 6, 2), (93, .bipush 32, 2), (95, .castore, 1), (96, .dup, 1), (97, .bipush 7, 2), (99, .bipush 32, 2), (101, .castore, 1), (102, .dup, 1), (103, .bipush 8, 2), (105, .bipush 102, 2), (107, .castore, 1), (108, .dup, 1), (109, .bipush 9, 2), (111, .bipush 105, 2), (113, .castore, 1), (114, .dup, 1), (115, .bipush 10, 2), (117, .bipush 115, 2), (119, .castore, 1), (120, .dup, 1), (121, .bipush 11, 2), (123, .bipush 104, 2), (125, .castore, 1), (126, .dup, 1), (127, .bipush 12, 2), (129, .bipush 32, 2), (131, .castore, 1), (132, .dup, 1), (133, .bipush 13, 2), (135, .bipush 32, 2), (137, .castore, 1), (138, .dup, 1), (139, .bipush 14, 2), (141, .bipush 32, 2), (143, .castore, 1), (144, .dup, 1), (145, .bipush 15, 2), (147, .bipush 32, 2), (149, .castore, 1), (150, .dup, 1), (151, .bipush 16, 2), (153, .bipush 100, 2), (155, .castore, 1), (156, .dup, 1), (157, .bipush 17, 2), (159, .bipush 117, 2), (161, .castore, 1), (162, .dup, 1), (163, .bipush 18, 2), (165, .bipush 99, 2), (167, .castore, 1), (168, .dup, 1), (169, .bipush 19, 2), (171, .bipush 107, 2), (173, .castore, 1), (174, .dup, 1), (175, .bipush 20, 2), (177, .bipush 32, 2), (179, .castore, 1), (180, .dup, 1), (181, .bipush 21, 2), (183, .bipush 32, 2), (185, .castore, 1), (186, .dup, 1), (187, .bipush 22, 2), (189, .bipush 32, 2)]
set_option maxRecDepth 20000 in
theorem DX8_init_0 : TX8_init_0.all (fun q => decide (decode cX8_init q.1 = .ok q.2)) = true := by decide +kernel
def TX8_init_1 : dT := [(191, .castore, 1), (192, .dup, 1), (193, .bipush 23, 2), (195, .bipush 32, 2), (197, .castore, 1), (198, .dup, 1), (199, .bipush 24, 2), (201, .bipush 102, 2), (203, .castore, 1), (204, .dup, 1), (205, .bipush 25, 2), (207, .bipush 114, 2), (209, .castore, 1), (210, .dup, 1), (211, .bipush 26, 2), (213, .bipush 111, 2), (215, .castore, 1), (216, .dup, 1), (217, .bipush 27, 2), (219, .bipush 103, 2), (221, .castore, 1), (222, .dup, 1), (223, .bipush 28, 2), (225, .bipush 32, 2), (227, .castore, 1), (228, .dup, 1), (229, .bipush 29, 2), (231, .bipush 32, 2), (233, .castore, 1), (234, .dup, 1), (235, .bipush 30, 2), (237, .bipush 32, 2), (239, .castore, 1), (240, .dup, 1), (241, .bipush 31, 2), (243, .bipush 32, 2), (245, .castore, 1), (246, .dup, 1), (247, .bipush 32, 2), (249, .bipush 104, 2), (251, .castore, 1), (252, .dup, 1), (253, .bipush 33, 2), (255, .bipush 101, 2), (257, .castore, 1), (258, .dup, 1), (259, .bipush 34, 2), (261, .bipush 114, 2), (263, .castore, 1), (264, .dup, 1), (265, .bipush 35, 2), (267, .bipush 111, 2), (269, .castore, 1), (270, .dup, 1), (271, .bipush 36, 2), (273, .bipush 110, 2), (275, .castore, 1), (276, .dup, 1), (277, .bipush 37, 2), (279, .bipush 32, 2), (281, .castore, 1), (282, .dup, 1), (283, .bipush 38, 2), (285, .bipush 32, 2), (287, .castore, 1), (288, .dup, 1), (289, .bipush 39, 2), (291, .bipush 32, 2), (293, .castore, 1), (294, .dup, 1), (295, .bipush 40, 2), (297, .bipush 99, 2), (299, .castore, 1), (300, .dup, 1), (301, .bipush 41, 2), (303, .bipush 111, 2), (305, .castore, 1), (306, .dup, 1), (307, .bipush 42, 2), (309, .bipush 114, 2), (311, .castore, 1), (312, .dup, 1), (313, .bipush 43, 2), (315, .bipush 107, 2), (317, .castore, 1), (318, .dup, 1), (319, .bipush 44, 2), (321, .bipush 32, 2), (323, .castore, 1), (324, .dup, 1), (325, .bipush 45, 2), (327, .bipush 32, 2), (329, .castore, 1), (330, .dup, 1), (331, .bipush 46, 2), (333, .bipush 32, 2), (335, .castore, 1), (336, .dup, 1), (337, .bipush 47, 2), (339, .bipush 32, 2), (341, .castore, 1), (342, .dup, 1), (343, .bipush 48, 2), (345, .bipush 112, 2), (347, .castore, 1), (348, .dup, 1), (349, .bipush 49, 2), (351, .bipush 105, 2), (353, .castore, 1), (354, .dup, 1), (355, .bipush 50, 2), (357, .bipush 107, 2), (359, .castore, 1), (360, .dup, 1), (361, .bipush 51, 2), (363, .bipush 101, 2), (365, .castore, 1), (366, .dup, 1), (367, .bipush 52, 2), (369, .bipush 32, 2)]
set_option maxRecDepth 20000 in
theorem DX8_init_1 : TX8_init_1.all (fun q => decide (decode cX8_init q.1 = .ok q.2)) = true := by decide +kernel
def TX8_init_2 : dT := [(371, .castore, 1), (372, .dup, 1), (373, .bipush 53, 2), (375, .bipush 32, 2), (377, .castore, 1), (378, .dup, 1), (379, .bipush 54, 2), (381, .bipush 32, 2), (383, .castore, 1), (384, .dup, 1), (385, .bipush 55, 2), (387, .bipush 32, 2), (389, .castore, 1), (390, .putfield 28, 3), (393, .aload_n 0, 1), (394, .bipush 16, 2), (396, .newarray .char, 2), (398, .dup, 1), (399, .iconst 0, 1), (400, .bipush 105, 2), (402, .castore, 1), (403, .dup, 1), (404, .iconst 1, 1), (405, .bipush 110, 2), (407, .castore, 1), (408, .dup, 1), (409, .iconst 2, 1), (410, .bipush 32, 2), (412, .castore, 1), (413, .dup, 1), (414, .iconst 3, 1), (415, .bipush 32, 2), (417, .castore, 1), (418, .dup, 1), (419, .iconst 4, 1), (420, .bipush 32, 2), (422, .castore, 1), (423, .dup, 1), (424, .iconst 5, 1), (425, .bipush 32, 2), (427, .castore, 1), (428, .dup, 1), (429, .bipush 6, 2), (431, .bipush 32, 2), (433, .castore, 1), (434, .dup, 1), (435, .bipush 7, 2), (437, .bipush 32, 2), (439, .castore, 1), (440, .dup, 1), (441, .bipush 8, 2), (443, .bipush 108, 2), (445, .castore, 1), (446, .dup, 1), (447, .bipush 9, 2), (449, .bipush 111, 2), (451, .castore, 1), (452, .dup, 1), (453, .bipush 10, 2), (455, .bipush 110, 2), (457, .castore, 1), (458, .dup, 1), (459, .bipush 11, 2), (461, .bipush 103, 2), (463, .castore, 1), (464, .dup, 1), (465, .bipush 12, 2), (467, .bipush 32, 2), (469, .castore, 1), (470, .dup, 1), (471, .bipush 13, 2), (473, .bipush 32, 2), (475, .castore, 1), (476, .dup, 1), (477, .bipush 14, 2), (479, .bipush 32, 2), (481, .castore, 1), (482, .dup, 1), (483, .bipush 15, 2), (485, .bipush 32, 2), (487, .castore, 1), (488, .putfield 32, 3), (491, .aload_n 0, 1), (492, .bipush 24, 2), (494, .newarray .char, 2), (496, .dup, 1), (497, .iconst 0, 1), (498, .bipush 112, 2), (500, .castore, 1), (501, .dup, 1), (502, .iconst 1, 1), (503, .bipush 111, 2), (505, .castore, 1), (506, .dup, 1), (507, .iconst 2, 1), (508, .bipush 110, 2), (510, .castore, 1), (511, .dup, 1), (512, .iconst 3, 1), (513, .bipush 100, 2), (515, .castore, 1), (516, .dup, 1), (517, .iconst 4, 1), (518, .bipush 32, 2), (520, .castore, 1), (521, .dup, 1), (522, .iconst 5, 1), (523, .bipush 32, 2), (525, .castore, 1), (526, .dup, 1), (527, .bipush 6, 2), (529, .bipush 32, 2), (531, .castore, 1), (532, .dup, 1), (533, .bipush 7, 2), (535, .bipush 32, 2), (537, .castore, 1), (538, .dup, 1), (539, .bipush 8, 2), (541, .bipush 114, 2)]
set_option maxRecDepth 20000 in
theorem DX8_init_2 : TX8_init_2.all (fun q => decide (decode cX8_init q.1 = .ok q.2)) = true := by decide +kernel
def TX8_init_3 : dT := [(543, .castore, 1), (544, .dup, 1), (545, .bipush 9, 2), (547, .bipush 97, 2), (549, .castore, 1), (550, .dup, 1), (551, .bipush 10, 2), (553, .bipush 105, 2), (555, .castore, 1), (556, .dup, 1), (557, .bipush 11, 2), (559, .bipush 110, 2), (561, .castore, 1), (562, .dup, 1), (563, .bipush 12, 2), (565, .bipush 32, 2), (567, .castore, 1), (568, .dup, 1), (569, .bipush 13, 2), (571, .bipush 32, 2), (573, .castore, 1), (574, .dup, 1), (575, .bipush 14, 2), (577, .bipush 32, 2), (579, .castore, 1), (580, .dup, 1), (581, .bipush 15, 2), (583, .bipush 32, 2), (585, .castore, 1), (586, .dup, 1), (587, .bipush 16, 2), (589, .bipush 100, 2), (591, .castore, 1), (592, .dup, 1), (593, .bipush 17, 2), (595, .bipush 114, 2), (597, .castore, 1), (598, .dup, 1), (599, .bipush 18, 2), (601, .bipush 121, 2), (603, .castore, 1), (604, .dup, 1), (605, .bipush 19, 2), (607, .bipush 32, 2), (609, .castore, 1), (610, .dup, 1), (611, .bipush 20, 2), (613, .bipush 32, 2), (615, .castore, 1), (616, .dup, 1), (617, .bipush 21, 2), (619, .bipush 32, 2), (621, .castore, 1), (622, .dup, 1), (623, .bipush 22, 2), (625, .bipush 32, 2), (627, .castore, 1), (628, .dup, 1), (629, .bipush 23, 2), (631, .bipush 32, 2), (633, .castore, 1), (634, .putfield 35, 3), (637, .aload_n 0, 1), (638, .bipush 48, 2), (640, .newarray .char, 2), (642, .dup, 1), (643, .iconst 0, 1), (644, .bipush 115, 2), (646, .castore, 1), (647, .dup, 1), (648, .iconst 1, 1), (649, .bipush 104, 2), (651, .castore, 1), (652, .dup, 1), (653, .iconst 2, 1), (654, .bipush 111, 2), (656, .castore, 1), (657, .dup, 1), (658, .iconst 3, 1), (659, .bipush 119, 2), (661, .castore, 1), (662, .dup, 1), (663, .iconst 4, 1), (664, .bipush 115, 2), (666, .castore, 1), (667, .dup, 1), (668, .iconst 5, 1), (669, .bipush 32, 2), (671, .castore, 1), (672, .dup, 1), (673, .bipush 6, 2), (675, .bipush 32, 2), (677, .castore, 1), (678, .dup, 1), (679, .bipush 7, 2), (681, .bipush 32, 2), (683, .castore, 1), (684, .dup, 1), (685, .bipush 8, 2), (687, .bipush 115, 2), (689, .castore, 1), (690, .dup, 1), (691, .bipush 9, 2), (693, .bipush 105, 2), (695, .castore, 1), (696, .dup, 1), (697, .bipush 10, 2), (699, .bipush 122, 2), (701, .castore, 1), (702, .dup, 1), (703, .bipush 11, 2), (705, .bipush 101, 2), (707, .castore, 1), (708, .dup, 1), (709, .bipush 12, 2), (711, .bipush 32, 2), (713, .castore, 1), (714, .dup, 1), (715, .bipush 13, 2), (717, .bipush 32, 2)]
set_option maxRecDepth 20000 in
theorem DX8_init_3 : TX8_init_3.all (fun q => decide (decode cX8_init q.1 = .ok q.2)) = true := by decide +kernel
def TX8_init_4 : dT := [(719, .castore, 1), (720, .dup, 1), (721, .bipush 14, 2), (723, .bipush 32, 2), (725, .castore, 1), (726, .dup, 1), (727, .bipush 15, 2), (729, .bipush 32, 2), (731, .castore, 1), (732, .dup, 1), (733, .bipush 16, 2), (735, .bipush 116, 2), (737, .castore, 1), (738, .dup, 1), (739, .bipush 17, 2), (741, .bipush 117, 2), (743, .castore, 1), (744, .dup, 1), (745, .bipush 18, 2), (747, .bipush 114, 2), (749, .castore, 1), (750, .dup, 1), (751, .bipush 19, 2), (753, .bipush 110, 2), (755, .castore, 1), (756, .dup, 1), (757, .bipush 20, 2), (759, .bipush 101, 2), (761, .castore, 1), (762, .dup, 1), (763, .bipush 21, 2), (765, .bipush 100, 2), (767, .castore, 1), (768, .dup, 1), (769, .bipush 22, 2), (771, .bipush 32, 2), (773, .castore, 1), (774, .dup, 1), (775, .bipush 23, 2), (777, .bipush 32, 2), (779, .castore, 1), (780, .dup, 1), (781, .bipush 24, 2), (783, .bipush 102, 2), (785, .castore, 1), (786, .dup, 1), (787, .bipush 25, 2), (789, .bipush 108, 2), (791, .castore, 1), (792, .dup, 1), (793, .bipush 26, 2), (795, .bipush 105, 2), (797, .castore, 1), (798, .dup, 1), (799, .bipush 27, 2), (801, .bipush 112, 2), (803, .castore, 1), (804, .dup, 1), (805, .bipush 28, 2), (807, .bipush 112, 2), (809, .castore, 1), (810, .dup, 1), (811, .bipush 29, 2), (813, .bipush 101, 2), (815, .castore, 1), (816, .dup, 1), (817, .bipush 30, 2), (819, .bipush 100, 2), (821, .castore, 1), (822, .dup, 1), (823, .bipush 31, 2), (825, .bipush 32, 2), (827, .castore, 1), (828, .dup, 1), (829, .bipush 32, 2), (831, .bipush 100, 2), (833, .castore, 1), (834, .dup, 1), (835, .bipush 33, 2), (837, .bipush 105, 2), (839, .castore, 1), (840, .dup, 1), (841, .bipush 34, 2), (843, .bipush 116, 2), (845, .castore, 1), (846, .dup, 1), (847, .bipush 35, 2), (849, .bipush 99, 2), (851, .castore, 1), (852, .dup, 1), (853, .bipush 36, 2), (855, .bipush 104, 2), (857, .castore, 1), (858, .dup, 1), (859, .bipush 37, 2), (861, .bipush 32, 2), (863, .castore, 1), (864, .dup, 1), (865, .bipush 38, 2), (867, .bipush 32, 2), (869, .castore, 1), (870, .dup, 1), (871, .bipush 39, 2), (873, .bipush 32, 2), (875, .castore, 1), (876, .dup, 1), (877, .bipush 40, 2), (879, .bipush 100, 2), (881, .castore, 1), (882, .dup, 1), (883, .bipush 41, 2), (885, .bipush 101, 2), (887, .castore, 1), (888, .dup, 1), (889, .bipush 42, 2), (891, .bipush 112, 2), (893, .castore, 1), (894, .dup, 1), (895, .bipush 43, 2), (897, .bipush 116, 2)]
set_option maxRecDepth 20000 in
theorem DX8_init_4 : TX8_init_4.all (fun q => decide (decode cX8_init q.1 = .ok q.2)) = true := by decide +kernel
def TX8_init_5 : dT := [(899, .castore, 1), (900, .dup, 1), (901, .bipush 44, 2), (903, .bipush 104, 2), (905, .castore, 1), (906, .dup, 1), (907, .bipush 45, 2), (909, .bipush 32, 2), (911, .castore, 1), (912, .dup, 1), (913, .bipush 46, 2), (915, .bipush 32, 2), (917, .castore, 1), (918, .dup, 1), (919, .bipush 47, 2), (921, .bipush 32, 2), (923, .castore, 1), (924, .putfield 38, 3), (927, .aload_n 0, 1), (928, .iconst 4, 1), (929, .newarray .int, 2), (931, .putfield 41, 3), (934, .aload_n 0, 1), (935, .iconst 4, 1), (936, .newarray .int, 2), (938, .putfield 44, 3), (941, .aload_n 0, 1), (942, .sipush 160, 3), (945, .newarray .int, 2), (947, .putfield 47, 3), (950, .aload_n 0, 1), (951, .bipush 40, 2), (953, .newarray .int, 2), (955, .putfield 50, 3), (958, .aload_n 0, 1), (959, .getfield 9, 3), (962, .iconst 2, 1), (963, .iconst 1, 1), (964, .iastore, 1), (965, .iconst 0, 1), (966, .istore_n 1, 1), (967, .iload_n 1, 1), (968, .bipush 16, 2), (970, .if_icmp .ge 43, 3), (973, .aload_n 0, 1), (974, .iload_n 1, 1), (975, .iconst 0, 1), (976, .iload_n 1, 1), (977, .iconst 1, 1), (978, .iadd, 1), (979, .bipush 16, 2), (981, .irem, 1), (982, .invokevirtual 53, 3), (985, .aload_n 0, 1), (986, .iload_n 1, 1), (987, .iconst 1, 1), (988, .iconst 3, 1), (989, .invokevirtual 53, 3), (992, .aload_n 0, 1), (993, .iload_n 1, 1), (994, .iconst 4, 1), (995, .iload_n 1, 1), (996, .invokevirtual 53, 3), (999, .aload_n 0, 1), (1000, .iload_n 1, 1), (1001, .iconst 5, 1), (1002, .bipush 10, 2), (1004, .invokevirtual 53, 3), (1007, .iinc 1 1, 3), (1010, .goto (-43), 3), (1013, .iconst 0, 1), (1014, .istore_n 1, 1), (1015, .iload_n 1, 1), (1016, .bipush 10, 2), (1018, .if_icmp .ge 19, 3), (1021, .aload_n 0, 1), (1022, .getfield 9, 3), (1025, .bipush 124, 2), (1027, .iload_n 1, 1), (1028, .iadd, 1), (1029, .iconst (-1), 1), (1030, .iastore, 1), (1031, .iinc 1 1, 3), (1034, .goto (-19), 3), (1037, .return_, 1)]
set_option maxRecDepth 20000 in
theorem DX8_init_5 : TX8_init_5.all (fun q => decide (decode cX8_init q.1 = .ok q.2)) = true := by decide +kernel
def TX8_no_0 : dT := [(0, .aload_n 0, 1), (1, .getfield 19, 3), (4, .iload_n 1, 1), (5, .dup2, 1), (6, .iaload, 1), (7, .iconst 1, 1), (8, .iadd, 1), (9, .iastore, 1), (10, .ldc 57, 2), (12, .iload_n 1, 1), (13, .isub, 1), (14, .ireturn, 1)]
set_option maxRecDepth 20000 in
theorem DX8_no_0 : TX8_no_0.all (fun q => decide (decode cX8_no q.1 = .ok q.2)) = true := by decide +kernel
def TX8_in1_0 : dT := [(0, .iload_n 0, 1), (1, .iload_n 1, 1), (2, .if_icmp .lt 12, 3), (5, .iload_n 0, 1), (6, .iload_n 2, 1), (7, .if_icmp .gt 7, 3), (10, .iconst 1, 1), (11, .goto 4, 3), (14, .iconst 0, 1), (15, .ireturn, 1)]
set_option maxRecDepth 20000 in
theorem DX8_in1_0 : TX8_in1_0.all (fun q => decide (decode cX8_in1 q.1 = .ok q.2)) = true := by decide +kernel
def TX8_less_0 : dT := [(0, .iload_n 0, 1), (1, .iload_n 1, 1), (2, .if_icmp .ge 7, 3), (5, .iload_n 0, 1), (6, .goto 4, 3), (9, .iload_n 1, 1), (10, .ireturn, 1)]
set_option maxRecDepth 20000 in
theorem DX8_less_0 : TX8_less_0.all (fun q => decide (decode cX8_less q.1 = .ok q.2)) = true := by decide +kernel
def TX8_bits_0 : dT := [(0, .iconst 0, 1), (1, .istore_n 1, 1), (2, .iload_n 0, 1), (3, .istore_n 2, 1), (4, .iload_n 2, 1), (5, .ifCond .eq 15, 3), (8, .iinc 1 1, 3), (11, .iload_n 2, 1), (12, .iload_n 2, 1), (13, .iconst 1, 1), (14, .isub, 1), (15, .iand, 1), (16, .istore_n 2, 1), (17, .goto (-13), 3), (20, .iload_n 1, 1), (21, .ireturn, 1)]
set_option maxRecDepth 20000 in
theorem DX8_bits_0 : TX8_bits_0.all (fun q => decide (decode cX8_bits q.1 = .ok q.2)) = true := by decide +kernel
def TX8_isPond_0 : dT := [(0, .iload_n 0, 1), (1, .iconst 0, 1), (2, .bipush 15, 2), (4, .invokestatic 58, 3), (7, .ireturn, 1)]
set_option maxRecDepth 20000 in
theorem DX8_isPond_0 : TX8_isPond_0.all (fun q => decide (decode cX8_isPond q.1 = .ok q.2)) = true := by decide +kernel
def TX8_isThing_0 : dT := [(0, .iload_n 1, 1), (1, .iconst 0, 1), (2, .aload_n 0, 1), (3, .getfield 9, 3), (6, .iconst 1, 1), (7, .iaload, 1), (8, .iconst 1, 1), (9, .isub, 1), (10, .invokestatic 58, 3), (13, .ireturn, 1)]
set_option maxRecDepth 20000 in
theorem DX8_isThing_0 : TX8_isThing_0.all (fun q => decide (decode cX8_isThing q.1 = .ok q.2)) = true := by decide +kernel
def TX8_of1_0 : dT := [(0, .aload_n 0, 1), (1, .getfield 9, 3), (4, .iconst 4, 1), (5, .bipush 6, 2), (7, .iload_n 1, 1), (8, .imul, 1), (9, .iadd, 1), (10, .iload_n 2, 1), (11, .iadd, 1), (12, .iaload, 1), (13, .ireturn, 1)]
set_option maxRecDepth 20000 in
theorem DX8_of1_0 : TX8_of1_0.all (fun q => decide (decode cX8_of1 q.1 = .ok q.2)) = true := by decide +kernel
def TX8_lays1_0 : dT := [(0, .aload_n 0, 1), (1, .getfield 9, 3), (4, .iconst 4, 1), (5, .bipush 6, 2), (7, .iload_n 1, 1), (8, .imul, 1), (9, .iadd, 1), (10, .iload_n 2, 1), (11, .iadd, 1), (12, .iload_n 3, 1), (13, .iastore, 1), (14, .return_, 1)]
set_option maxRecDepth 20000 in
theorem DX8_lays1_0 : TX8_lays1_0.all (fun q => decide (decode cX8_lays1 q.1 = .ok q.2)) = true := by decide +kernel
def TX8_get_0 : dT := [(0, .aload_n 0, 1), (1, .getfield 9, 3), (4, .bipush 100, 2), (6, .iconst 3, 1), (7, .iload_n 1, 1), (8, .imul, 1), (9, .iadd, 1), (10, .iload_n 2, 1), (11, .iadd, 1), (12, .iaload, 1), (13, .ireturn, 1)]
set_option maxRecDepth 20000 in
theorem DX8_get_0 : TX8_get_0.all (fun q => decide (decode cX8_get q.1 = .ok q.2)) = true := by decide +kernel
def TX8_puts_0 : dT := [(0, .aload_n 0, 1), (1, .getfield 9, 3), (4, .bipush 100, 2), (6, .iconst 3, 1), (7, .iload_n 1, 1), (8, .imul, 1), (9, .iadd, 1), (10, .iload_n 2, 1), (11, .iadd, 1), (12, .iload_n 3, 1), (13, .iastore, 1), (14, .return_, 1)]
set_option maxRecDepth 20000 in
theorem DX8_puts_0 : TX8_puts_0.all (fun q => decide (decode cX8_puts q.1 = .ok q.2)) = true := by decide +kernel
def TX8_setsAside_0 : dT := [(0, .iconst 0, 1), (1, .istore_n 1, 1), (2, .iload_n 1, 1), (3, .sipush 134, 3), (6, .if_icmp .ge 21, 3), (9, .aload_n 0, 1), (10, .getfield 16, 3), (13, .iload_n 1, 1), (14, .aload_n 0, 1), (15, .getfield 9, 3), (18, .iload_n 1, 1), (19, .iaload, 1), (20, .iastore, 1), (21, .iinc 1 1, 3), (24, .goto (-22), 3), (27, .return_, 1)]
set_option maxRecDepth 20000 in
theorem DX8_setsAside_0 : TX8_setsAside_0.all (fun q => decide (decode cX8_setsAside q.1 = .ok q.2)) = true := by decide +kernel
def TX8_laysBack_0 : dT := [(0, .iconst 0, 1), (1, .istore_n 1, 1), (2, .iload_n 1, 1), (3, .sipush 134, 3), (6, .if_icmp .ge 21, 3), (9, .aload_n 0, 1), (10, .getfield 9, 3), (13, .iload_n 1, 1), (14, .aload_n 0, 1), (15, .getfield 16, 3), (18, .iload_n 1, 1), (19, .iaload, 1), (20, .iastore, 1), (21, .iinc 1 1, 3), (24, .goto (-22), 3), (27, .return_, 1)]
set_option maxRecDepth 20000 in
theorem DX8_laysBack_0 : TX8_laysBack_0.all (fun q => decide (decode cX8_laysBack q.1 = .ok q.2)) = true := by decide +kernel
def TX8_inside_0 : dT := [(0, .iconst 0, 1), (1, .istore_n 2, 1), (2, .iconst 0, 1), (3, .istore_n 3, 1), (4, .iload_n 3, 1), (5, .aload_n 0, 1), (6, .getfield 9, 3), (9, .iconst 1, 1), (10, .iaload, 1), (11, .if_icmp .ge 29, 3), (14, .iload_n 2, 1), (15, .aload_n 0, 1), (16, .iload_n 3, 1), (17, .iconst 1, 1), (18, .invokevirtual 62, 3), (21, .iload_n 1, 1), (22, .if_icmp .ne 9, 3), (25, .iconst 1, 1), (26, .iload_n 3, 1), (27, .ishl, 1), (28, .goto 4, 3), (31, .iconst 0, 1), (32, .ior, 1), (33, .istore_n 2, 1), (34, .iinc 3 1, 3), (37, .goto (-33), 3), (40, .iload_n 2, 1), (41, .ireturn, 1)]
set_option maxRecDepth 20000 in
theorem DX8_inside_0 : TX8_inside_0.all (fun q => decide (decode cX8_inside q.1 = .ok q.2)) = true := by decide +kernel
def TX8_seenIn_0 : dT := [(0, .aload_n 0, 1), (1, .aload_n 0, 1), (2, .iload_n 1, 1), (3, .iconst 0, 1), (4, .invokevirtual 66, 3), (7, .invokevirtual 69, 3), (10, .ireturn, 1)]
set_option maxRecDepth 20000 in
theorem DX8_seenIn_0 : TX8_seenIn_0.all (fun q => decide (decode cX8_seenIn q.1 = .ok q.2)) = true := by decide +kernel
def TX8_pondsWith_0 : dT := [(0, .iconst 0, 1), (1, .istore_n 2, 1), (2, .iconst 0, 1), (3, .istore_n 3, 1), (4, .iload_n 3, 1), (5, .bipush 16, 2), (7, .if_icmp .ge 39, 3), (10, .iload_n 2, 1), (11, .iload_n 1, 1), (12, .ifCond .eq 11, 3), (15, .aload_n 0, 1), (16, .iload_n 3, 1), (17, .invokevirtual 73, 3), (20, .goto 8, 3), (23, .aload_n 0, 1), (24, .iload_n 3, 1), (25, .invokevirtual 69, 3), (28, .ifCond .eq 9, 3), (31, .iconst 1, 1), (32, .iload_n 3, 1), (33, .ishl, 1), (34, .goto 4, 3), (37, .iconst 0, 1), (38, .ior, 1), (39, .istore_n 2, 1), (40, .iinc 3 1, 3), (43, .goto (-39), 3), (46, .iload_n 2, 1), (47, .ireturn, 1)]
set_option maxRecDepth 20000 in
theorem DX8_pondsWith_0 : TX8_pondsWith_0.all (fun q => decide (decode cX8_pondsWith q.1 = .ok q.2)) = true := by decide +kernel
def TX8_showing_0 : dT := [(0, .iconst 0, 1), (1, .istore_n 2, 1), (2, .iconst 0, 1), (3, .istore_n 3, 1), (4, .iload_n 3, 1), (5, .bipush 16, 2), (7, .if_icmp .ge 29, 3), (10, .iload_n 2, 1), (11, .aload_n 0, 1), (12, .iload_n 3, 1), (13, .iconst 0, 1), (14, .invokevirtual 66, 3), (17, .iload_n 1, 1), (18, .if_icmp .ne 9, 3), (21, .iconst 1, 1), (22, .iload_n 3, 1), (23, .ishl, 1), (24, .goto 4, 3), (27, .iconst 0, 1), (28, .ior, 1), (29, .istore_n 2, 1), (30, .iinc 3 1, 3), (33, .goto (-29), 3), (36, .iload_n 2, 1), (37, .ireturn, 1)]
set_option maxRecDepth 20000 in
theorem DX8_showing_0 : TX8_showing_0.all (fun q => decide (decode cX8_showing q.1 = .ok q.2)) = true := by decide +kernel
def TX8_lengths_0 : dT := [(0, .iconst 0, 1), (1, .istore_n 1, 1), (2, .iconst 0, 1), (3, .istore_n 2, 1), (4, .iload_n 2, 1), (5, .aload_n 0, 1), (6, .getfield 9, 3), (9, .iconst 1, 1), (10, .iaload, 1), (11, .if_icmp .ge 18, 3), (14, .iload_n 1, 1), (15, .aload_n 0, 1), (16, .iload_n 2, 1), (17, .iconst 2, 1), (18, .invokevirtual 62, 3), (21, .iadd, 1), (22, .istore_n 1, 1), (23, .iinc 2 1, 3), (26, .goto (-22), 3), (29, .iload_n 1, 1), (30, .ireturn, 1)]
set_option maxRecDepth 20000 in
theorem DX8_lengths_0 : TX8_lengths_0.all (fun q => decide (decode cX8_lengths q.1 = .ok q.2)) = true := by decide +kernel
def TX8_hasFish_0 : dT := [(0, .iconst 0, 1), (1, .istore_n 3, 1), (2, .iconst 0, 1), (3, .istore 4, 2), (5, .iload 4, 2), (7, .aload_n 0, 1), (8, .getfield 9, 3), (11, .iconst 1, 1), (12, .iaload, 1), (13, .if_icmp .ge 71, 3), (16, .aload_n 0, 1), (17, .iload 4, 2), (19, .iconst 0, 1), (20, .invokevirtual 62, 3), (23, .iconst 1, 1), (24, .if_icmp .eq 15, 3), (27, .aload_n 0, 1), (28, .iload 4, 2), (30, .iconst 0, 1), (31, .invokevirtual 62, 3), (34, .bipush 6, 2), (36, .if_icmp .ne 7, 3), (39, .iconst 1, 1), (40, .goto 4, 3), (43, .iconst 0, 1), (44, .istore 5, 2), (46, .iload_n 3, 1), (47, .ifCond .ne 25, 3), (50, .iload 5, 2), (52, .ifCond .eq 24, 3), (55, .iload 4, 2), (57, .iload_n 2, 1), (58, .if_icmp .eq 18, 3), (61, .aload_n 0, 1), (62, .iload 4, 2), (64, .iconst 1, 1), (65, .invokevirtual 62, 3), (68, .iload_n 1, 1), (69, .if_icmp .ne 7, 3), (72, .iconst 1, 1), (73, .goto 4, 3), (76, .iconst 0, 1), (77, .istore_n 3, 1), (78, .iinc 4 1, 3), (81, .goto (-76), 3), (84, .iload_n 3, 1), (85, .ireturn, 1)]
set_option maxRecDepth 20000 in
theorem DX8_hasFish_0 : TX8_hasFish_0.all (fun q => decide (decode cX8_hasFish q.1 = .ok q.2)) = true := by decide +kernel
def TX8_asFrog_0 : dT := [(0, .aload_n 0, 1), (1, .getfield 9, 3), (4, .iconst 0, 1), (5, .iaload, 1), (6, .iconst 2, 1), (7, .irem, 1), (8, .ifCond .ne 12, 3), (11, .aload_n 0, 1), (12, .iload_n 1, 1), (13, .iconst 0, 1), (14, .invokevirtual 66, 3), (17, .goto 4, 3), (20, .iload_n 1, 1), (21, .ireturn, 1)]
set_option maxRecDepth 20000 in
theorem DX8_asFrog_0 : TX8_asFrog_0.all (fun q => decide (decode cX8_asFrog q.1 = .ok q.2)) = true := by decide +kernel
def TX8_asHeron_0 : dT := [(0, .aload_n 0, 1), (1, .iload_n 1, 1), (2, .invokevirtual 76, 3), (5, .istore_n 2, 1), (6, .iconst 0, 1), (7, .istore_n 3, 1), (8, .iload_n 2, 1), (9, .ifCond .eq 17, 3), (12, .iload_n 2, 1), (13, .iload_n 3, 1), (14, .ishr, 1), (15, .iconst 1, 1), (16, .iand, 1), (17, .ifCond .ne 9, 3), (20, .iinc 3 1, 3), (23, .goto (-15), 3), (26, .iload_n 2, 1), (27, .ifCond .eq 16, 3), (30, .aload_n 0, 1), (31, .iload_n 3, 1), (32, .iconst (-1), 1), (33, .invokevirtual 79, 3), (36, .ifCond .eq 7, 3), (39, .iload_n 3, 1), (40, .goto 8, 3), (43, .aload_n 0, 1), (44, .iload_n 1, 1), (45, .invokevirtual 83, 3), (48, .ireturn, 1)]
set_option maxRecDepth 20000 in
theorem DX8_asHeron_0 : TX8_asHeron_0.all (fun q => decide (decode cX8_asHeron q.1 = .ok q.2)) = true := by decide +kernel
def TX8_dryNext_0 : dT := [(0, .aload_n 0, 1), (1, .iload_n 1, 1), (2, .iconst 1, 1), (3, .invokevirtual 62, 3), (6, .istore_n 2, 1), (7, .aload_n 0, 1), (8, .iload_n 2, 1), (9, .iconst 0, 1), (10, .invokevirtual 66, 3), (13, .istore_n 3, 1), (14, .aload_n 0, 1), (15, .iload_n 2, 1), (16, .iconst 4, 1), (17, .invokevirtual 66, 3), (20, .istore 4, 2), (22, .aload_n 0, 1), (23, .iload_n 1, 1), (24, .iconst 0, 1), (25, .invokevirtual 62, 3), (28, .tableswitch 95 1 6 #[40, 43, 45, 51, 57, 79], 40), (68, .iload 4, 2), (70, .ireturn, 1), (71, .iload_n 3, 1), (72, .ireturn, 1), (73, .aload_n 0, 1), (74, .iload_n 2, 1), (75, .invokevirtual 83, 3), (78, .ireturn, 1), (79, .aload_n 0, 1), (80, .iload_n 2, 1), (81, .invokevirtual 86, 3), (84, .ireturn, 1), (85, .aload_n 0, 1), (86, .iload_n 2, 1), (87, .iconst 5, 1), (88, .invokevirtual 66, 3), (91, .aload_n 0, 1), (92, .iload_n 1, 1), (93, .iconst 2, 1), (94, .invokevirtual 62, 3), (97, .if_icmp .ge 8, 3), (100, .iload 4, 2), (102, .goto 4, 3), (105, .iload_n 2, 1), (106, .ireturn, 1), (107, .aload_n 0, 1), (108, .iload_n 3, 1), (109, .iload_n 1, 1), (110, .invokevirtual 79, 3), (113, .ifCond .eq 7, 3), (116, .iload_n 3, 1), (117, .goto 5, 3), (120, .iload 4, 2), (122, .ireturn, 1), (123, .iload_n 2, 1), (124, .ireturn, 1)]
set_option maxRecDepth 20000 in
theorem DX8_dryNext_0 : TX8_dryNext_0.all (fun q => decide (decode cX8_dryNext q.1 = .ok q.2)) = true := by decide +kernel
def TX8_nextOf_0 : dT := [(0, .aload_n 0, 1), (1, .iload_n 1, 1), (2, .invokevirtual 89, 3), (5, .aload_n 0, 1), (6, .getfield 9, 3), (9, .iconst 3, 1), (10, .iaload, 1), (11, .iadd, 1), (12, .bipush 16, 2), (14, .irem, 1), (15, .ireturn, 1)]
set_option maxRecDepth 20000 in
theorem DX8_nextOf_0 : TX8_nextOf_0.all (fun q => decide (decode cX8_nextOf q.1 = .ok q.2)) = true := by decide +kernel
def TX8_minute_0 : dT := [(0, .iconst 0, 1), (1, .istore_n 1, 1), (2, .iload_n 1, 1), (3, .aload_n 0, 1), (4, .getfield 9, 3), (7, .iconst 1, 1), (8, .iaload, 1), (9, .if_icmp .ge 20, 3), (12, .aload_n 0, 1), (13, .iload_n 1, 1), (14, .iconst 1, 1), (15, .aload_n 0, 1), (16, .iload_n 1, 1), (17, .invokevirtual 92, 3), (20, .invokevirtual 95, 3), (23, .iinc 1 1, 3), (26, .goto (-24), 3), (29, .aload_n 0, 1), (30, .getfield 9, 3), (33, .iconst 0, 1), (34, .ldc 98, 2), (36, .aload_n 0, 1), (37, .getfield 9, 3), (40, .iconst 0, 1), (41, .iaload, 1), (42, .iconst 1, 1), (43, .iadd, 1), (44, .invokestatic 99, 3), (47, .iastore, 1), (48, .return_, 1)]
set_option maxRecDepth 20000 in
theorem DX8_minute_0 : TX8_minute_0.all (fun q => decide (decode cX8_minute q.1 = .ok q.2)) = true := by decide +kernel
def TX8_pond_0 : dT := [(0, .iload_n 1, 1), (1, .invokestatic 102, 3), (4, .ifCond .eq 13, 3), (7, .iload_n 2, 1), (8, .iconst 0, 1), (9, .bipush 7, 2), (11, .invokestatic 58, 3), (14, .ifCond .ne 9, 3), (17, .aload_n 0, 1), (18, .iconst 0, 1), (19, .invokevirtual 106, 3), (22, .ireturn, 1), (23, .iload_n 2, 1), (24, .bipush 6, 2), (26, .if_icmp .ge 12, 3), (29, .aload_n 0, 1), (30, .iload_n 1, 1), (31, .iload_n 2, 1), (32, .invokevirtual 66, 3), (35, .goto 22, 3), (38, .iload_n 2, 1), (39, .bipush 6, 2), (41, .if_icmp .ne 11, 3), (44, .aload_n 0, 1), (45, .iload_n 1, 1), (46, .invokevirtual 69, 3), (49, .goto 8, 3), (52, .aload_n 0, 1), (53, .iload_n 1, 1), (54, .invokevirtual 73, 3), (57, .ireturn, 1)]
set_option maxRecDepth 20000 in
theorem DX8_pond_0 : TX8_pond_0.all (fun q => decide (decode cX8_pond q.1 = .ok q.2)) = true := by decide +kernel
def TX8_isOfPond_0 : dT := [(0, .iload_n 1, 1), (1, .iconst 1, 1), (2, .if_icmp .ne 8, 3), (5, .bipush 9, 2), (7, .goto 33, 3), (10, .iload_n 1, 1), (11, .iconst 2, 1), (12, .if_icmp .ne 7, 3), (15, .iconst 3, 1), (16, .goto 24, 3), (19, .iload_n 1, 1), (20, .iconst 3, 1), (21, .if_icmp .ne 7, 3), (24, .iconst 1, 1), (25, .goto 15, 3), (28, .iload_n 1, 1), (29, .iconst 5, 1), (30, .if_icmp .ne 8, 3), (33, .bipush 99, 2), (35, .goto 5, 3), (38, .bipush 15, 2), (40, .istore_n 3, 1), (41, .iload_n 2, 1), (42, .iload_n 1, 1), (43, .iconst 1, 1), (44, .if_icmp .ne 7, 3), (47, .iconst 1, 1), (48, .goto 4, 3), (51, .iconst 0, 1), (52, .iload_n 3, 1), (53, .invokestatic 58, 3), (56, .ifCond .eq 16, 3), (59, .iload_n 1, 1), (60, .ifCond .ne 8, 3), (63, .iload_n 2, 1), (64, .iload_n 0, 1), (65, .if_icmp .eq 7, 3), (68, .iconst 1, 1), (69, .goto 4, 3), (72, .iconst 0, 1), (73, .ireturn, 1)]
set_option maxRecDepth 20000 in
theorem DX8_isOfPond_0 : TX8_isOfPond_0.all (fun q => decide (decode cX8_isOfPond q.1 = .ok q.2)) = true := by decide +kernel
def TX8_dig_0 : dT := [(0, .iload_n 1, 1), (1, .invokestatic 102, 3), (4, .ifCond .eq 21, 3), (7, .iload_n 2, 1), (8, .iconst 0, 1), (9, .iconst 5, 1), (10, .invokestatic 58, 3), (13, .ifCond .eq 12, 3), (16, .iload_n 1, 1), (17, .iload_n 2, 1), (18, .iload_n 3, 1), (19, .invokestatic 109, 3), (22, .ifCond .ne 9, 3), (25, .aload_n 0, 1), (26, .iconst 0, 1), (27, .invokevirtual 106, 3), (30, .ireturn, 1), (31, .aload_n 0, 1), (32, .iload_n 1, 1), (33, .iload_n 2, 1), (34, .invokevirtual 66, 3), (37, .istore 4, 2), (39, .aload_n 0, 1), (40, .iload_n 1, 1), (41, .iload_n 2, 1), (42, .iload_n 3, 1), (43, .invokevirtual 53, 3), (46, .iload 4, 2), (48, .ireturn, 1)]
set_option maxRecDepth 20000 in
theorem DX8_dig_0 : TX8_dig_0.all (fun q => decide (decode cX8_dig q.1 = .ok q.2)) = true := by decide +kernel
def TX8_addsThing_0 : dT := [(0, .aload_n 0, 1), (1, .getfield 9, 3), (4, .iconst 1, 1), (5, .iaload, 1), (6, .istore_n 3, 1), (7, .aload_n 0, 1), (8, .iload_n 3, 1), (9, .iconst 0, 1), (10, .iload_n 1, 1), (11, .invokevirtual 95, 3), (14, .aload_n 0, 1), (15, .iload_n 3, 1), (16, .iconst 1, 1), (17, .iload_n 2, 1), (18, .invokevirtual 95, 3), (21, .aload_n 0, 1), (22, .iload_n 3, 1), (23, .iconst 2, 1), (24, .bipush 9, 2), (26, .invokevirtual 95, 3), (29, .aload_n 0, 1), (30, .getfield 9, 3), (33, .iconst 1, 1), (34, .dup2, 1), (35, .iaload, 1), (36, .iconst 1, 1), (37, .iadd, 1), (38, .iastore, 1), (39, .return_, 1)]
set_option maxRecDepth 20000 in
theorem DX8_addsThing_0 : TX8_addsThing_0.all (fun q => decide (decode cX8_addsThing q.1 = .ok q.2)) = true := by decide +kernel
def TX8_thing_0 : dT := [(0, .iload_n 1, 1), (1, .iconst 0, 1), (2, .bipush 6, 2), (4, .invokestatic 58, 3), (7, .ifCond .eq 10, 3), (10, .iload_n 2, 1), (11, .invokestatic 102, 3), (14, .ifCond .ne 9, 3), (17, .aload_n 0, 1), (18, .iconst 0, 1), (19, .invokevirtual 106, 3), (22, .ireturn, 1), (23, .aload_n 0, 1), (24, .getfield 9, 3), (27, .iconst 1, 1), (28, .iaload, 1), (29, .bipush 8, 2), (31, .if_icmp .ne 9, 3), (34, .aload_n 0, 1), (35, .iconst 1, 1), (36, .invokevirtual 106, 3), (39, .ireturn, 1), (40, .aload_n 0, 1), (41, .iload_n 1, 1), (42, .iload_n 2, 1), (43, .invokevirtual 112, 3), (46, .aload_n 0, 1), (47, .getfield 9, 3), (50, .iconst 1, 1), (51, .iaload, 1), (52, .iconst 1, 1), (53, .isub, 1), (54, .ireturn, 1)]
set_option maxRecDepth 20000 in
theorem DX8_thing_0 : TX8_thing_0.all (fun q => decide (decode cX8_thing q.1 = .ok q.2)) = true := by decide +kernel
def TX8_of_0 : dT := [(0, .aload_n 0, 1), (1, .iload_n 1, 1), (2, .invokevirtual 116, 3), (5, .ifCond .eq 12, 3), (8, .iload_n 2, 1), (9, .iconst 0, 1), (10, .iconst 4, 1), (11, .invokestatic 58, 3), (14, .ifCond .ne 9, 3), (17, .aload_n 0, 1), (18, .iconst 0, 1), (19, .invokevirtual 106, 3), (22, .ireturn, 1), (23, .iload_n 2, 1), (24, .iconst 3, 1), (25, .if_icmp .ge 12, 3), (28, .aload_n 0, 1), (29, .iload_n 1, 1), (30, .iload_n 2, 1), (31, .invokevirtual 62, 3), (34, .goto 26, 3), (37, .iload_n 2, 1), (38, .iconst 3, 1), (39, .if_icmp .ne 11, 3), (42, .aload_n 0, 1), (43, .iload_n 1, 1), (44, .invokevirtual 92, 3), (47, .goto 13, 3), (50, .aload_n 0, 1), (51, .aload_n 0, 1), (52, .iload_n 1, 1), (53, .iconst 1, 1), (54, .invokevirtual 62, 3), (57, .invokevirtual 76, 3), (60, .ireturn, 1)]
set_option maxRecDepth 20000 in
theorem DX8_of_0 : TX8_of_0.all (fun q => decide (decode cX8_of q.1 = .ok q.2)) = true := by decide +kernel
def TX8_change_0 : dT := [(0, .aload_n 0, 1), (1, .iload_n 1, 1), (2, .invokevirtual 116, 3), (5, .ifCond .eq 50, 3), (8, .iload_n 2, 1), (9, .iconst 0, 1), (10, .iconst 2, 1), (11, .invokestatic 58, 3), (14, .ifCond .eq 41, 3), (17, .iload_n 3, 1), (18, .iload_n 2, 1), (19, .iconst 2, 1), (20, .if_icmp .ne 7, 3), (23, .iconst 1, 1), (24, .goto 4, 3), (27, .iconst 0, 1), (28, .iload_n 2, 1), (29, .ifCond .ne 8, 3), (32, .bipush 6, 2), (34, .goto 15, 3), (37, .iload_n 2, 1), (38, .iconst 1, 1), (39, .if_icmp .ne 8, 3), (42, .bipush 15, 2), (44, .goto 5, 3), (47, .bipush 99, 2), (49, .invokestatic 58, 3), (52, .ifCond .ne 9, 3), (55, .aload_n 0, 1), (56, .iconst 0, 1), (57, .invokevirtual 106, 3), (60, .ireturn, 1), (61, .aload_n 0, 1), (62, .iload_n 1, 1), (63, .iload_n 2, 1), (64, .invokevirtual 62, 3), (67, .istore 4, 2), (69, .aload_n 0, 1), (70, .iload_n 1, 1), (71, .iload_n 2, 1), (72, .iload_n 3, 1), (73, .invokevirtual 95, 3), (76, .iload 4, 2), (78, .ireturn, 1)]
set_option maxRecDepth 20000 in
theorem DX8_change_0 : TX8_change_0.all (fun q => decide (decode cX8_change q.1 = .ok q.2)) = true := by decide +kernel
def TX8_rain_0 : dT := [(0, .iload_n 1, 1), (1, .iconst 0, 1), (2, .iconst 1, 1), (3, .invokestatic 58, 3), (6, .ifCond .ne 9, 3), (9, .aload_n 0, 1), (10, .iconst 0, 1), (11, .invokevirtual 106, 3), (14, .ireturn, 1), (15, .aload_n 0, 1), (16, .getfield 9, 3), (19, .iconst 3, 1), (20, .iaload, 1), (21, .istore_n 2, 1), (22, .aload_n 0, 1), (23, .getfield 9, 3), (26, .iconst 3, 1), (27, .iload_n 1, 1), (28, .iastore, 1), (29, .iload_n 2, 1), (30, .ireturn, 1)]
set_option maxRecDepth 20000 in
theorem DX8_rain_0 : TX8_rain_0.all (fun q => decide (decode cX8_rain q.1 = .ok q.2)) = true := by decide +kernel
def TX8_go_0 : dT := [(0, .iload_n 1, 1), (1, .iconst 1, 1), (2, .bipush 60, 2), (4, .invokestatic 58, 3), (7, .ifCond .ne 9, 3), (10, .aload_n 0, 1), (11, .iconst 0, 1), (12, .invokevirtual 106, 3), (15, .ireturn, 1), (16, .aload_n 0, 1), (17, .getfield 9, 3), (20, .iconst 0, 1), (21, .iaload, 1), (22, .iload_n 1, 1), (23, .iadd, 1), (24, .ldc 98, 2), (26, .if_icmp .le 9, 3), (29, .aload_n 0, 1), (30, .iconst 4, 1), (31, .invokevirtual 106, 3), (34, .ireturn, 1), (35, .iconst 0, 1), (36, .istore_n 2, 1), (37, .iload_n 2, 1), (38, .iload_n 1, 1), (39, .if_icmp .ge 13, 3), (42, .aload_n 0, 1), (43, .invokevirtual 119, 3), (46, .iinc 2 1, 3), (49, .goto (-12), 3), (52, .aload_n 0, 1), (53, .getfield 9, 3), (56, .iconst 0, 1), (57, .iaload, 1), (58, .ireturn, 1)]
set_option maxRecDepth 20000 in
theorem DX8_go_0 : TX8_go_0.all (fun q => decide (decode cX8_go q.1 = .ok q.2)) = true := by decide +kernel
def TX8_now_0 : dT := [(0, .iload_n 1, 1), (1, .tableswitch 66 0 4 #[35, 42, 48, 54, 61], 35), (36, .aload_n 0, 1), (37, .getfield 9, 3), (40, .iconst 0, 1), (41, .iaload, 1), (42, .ireturn, 1), (43, .aload_n 0, 1), (44, .iconst 0, 1), (45, .invokevirtual 122, 3), (48, .ireturn, 1), (49, .aload_n 0, 1), (50, .iconst 1, 1), (51, .invokevirtual 122, 3), (54, .ireturn, 1), (55, .aload_n 0, 1), (56, .getfield 9, 3), (59, .iconst 3, 1), (60, .iaload, 1), (61, .ireturn, 1), (62, .aload_n 0, 1), (63, .invokevirtual 126, 3), (66, .ireturn, 1), (67, .aload_n 0, 1), (68, .iconst 0, 1), (69, .invokevirtual 106, 3), (72, .ireturn, 1)]
set_option maxRecDepth 20000 in
theorem DX8_now_0 : TX8_now_0.all (fun q => decide (decode cX8_now q.1 = .ok q.2)) = true := by decide +kernel
def TX8_begins_0 : dT := [(0, .aload_n 0, 1), (1, .iload_n 1, 1), (2, .putfield 130, 3), (5, .aload_n 0, 1), (6, .bipush 81, 2), (8, .putfield 134, 3), (11, .aload_n 0, 1), (12, .iconst 0, 1), (13, .putfield 137, 3), (16, .aload_n 0, 1), (17, .iconst 0, 1), (18, .putfield 140, 3), (21, .return_, 1)]
set_option maxRecDepth 20000 in
theorem DX8_begins_0 : TX8_begins_0.all (fun q => decide (decode cX8_begins q.1 = .ok q.2)) = true := by decide +kernel
def TX8_steps_0 : dT := [(0, .aload_n 0, 1), (1, .ldc 98, 2), (3, .aload_n 0, 1), (4, .getfield 134, 3), (7, .aload_n 0, 1), (8, .aload_n 0, 1), (9, .getfield 130, 3), (12, .iconst 1, 1), (13, .invokevirtual 66, 3), (16, .imul, 1), (17, .iconst 3, 1), (18, .idiv, 1), (19, .invokestatic 99, 3), (22, .putfield 134, 3), (25, .aload_n 0, 1), (26, .aload_n 0, 1), (27, .getfield 137, 3), (30, .aload_n 0, 1), (31, .getfield 140, 3), (34, .ifCond .ne 15, 3), (37, .aload_n 0, 1), (38, .aload_n 0, 1), (39, .getfield 130, 3), (42, .iconst 2, 1), (43, .invokevirtual 66, 3), (46, .goto 14, 3), (49, .iconst 4, 1), (50, .aload_n 0, 1), (51, .aload_n 0, 1), (52, .getfield 130, 3), (55, .iconst 2, 1), (56, .invokevirtual 66, 3), (59, .isub, 1), (60, .iadd, 1), (61, .iconst 4, 1), (62, .irem, 1), (63, .putfield 137, 3), (66, .aload_n 0, 1), (67, .dup, 1), (68, .getfield 140, 3), (71, .aload_n 0, 1), (72, .aload_n 0, 1), (73, .getfield 130, 3), (76, .iconst 3, 1), (77, .invokevirtual 66, 3), (80, .ixor, 1), (81, .putfield 140, 3), (84, .aload_n 0, 1), (85, .aload_n 0, 1), (86, .aload_n 0, 1), (87, .getfield 130, 3), (90, .iconst 0, 1), (91, .invokevirtual 66, 3), (94, .putfield 130, 3), (97, .return_, 1)]
set_option maxRecDepth 20000 in
theorem DX8_steps_0 : TX8_steps_0.all (fun q => decide (decode cX8_steps q.1 = .ok q.2)) = true := by decide +kernel
def TX8_goesThrough_0 : dT := [(0, .aload_n 0, 1), (1, .iload_n 1, 1), (2, .invokevirtual 143, 3), (5, .iconst 0, 1), (6, .istore_n 3, 1), (7, .iload_n 3, 1), (8, .iload_n 2, 1), (9, .if_icmp .ge 13, 3), (12, .aload_n 0, 1), (13, .invokevirtual 147, 3), (16, .iinc 3 1, 3), (19, .goto (-12), 3), (22, .return_, 1)]
set_option maxRecDepth 20000 in
theorem DX8_goesThrough_0 : TX8_goesThrough_0.all (fun q => decide (decode cX8_goesThrough q.1 = .ok q.2)) = true := by decide +kernel
def TX8_chain_0 : dT := [(0, .iload_n 1, 1), (1, .invokestatic 102, 3), (4, .ifCond .eq 22, 3), (7, .iload_n 2, 1), (8, .iconst 0, 1), (9, .bipush 16, 2), (11, .invokestatic 58, 3), (14, .ifCond .eq 12, 3), (17, .iload_n 3, 1), (18, .iconst 0, 1), (19, .iconst 3, 1), (20, .invokestatic 58, 3), (23, .ifCond .ne 9, 3), (26, .aload_n 0, 1), (27, .iconst 0, 1), (28, .invokevirtual 106, 3), (31, .ireturn, 1), (32, .aload_n 0, 1), (33, .iload_n 1, 1), (34, .iload_n 2, 1), (35, .invokevirtual 150, 3), (38, .iload_n 3, 1), (39, .ifCond .ne 10, 3), (42, .aload_n 0, 1), (43, .getfield 130, 3), (46, .goto 31, 3), (49, .iload_n 3, 1), (50, .iconst 1, 1), (51, .if_icmp .ne 10, 3), (54, .aload_n 0, 1), (55, .getfield 134, 3), (58, .goto 19, 3), (61, .iload_n 3, 1), (62, .iconst 2, 1), (63, .if_icmp .ne 10, 3), (66, .aload_n 0, 1), (67, .getfield 137, 3), (70, .goto 7, 3), (73, .aload_n 0, 1), (74, .getfield 140, 3), (77, .ireturn, 1)]
set_option maxRecDepth 20000 in
theorem DX8_chain_0 : TX8_chain_0.all (fun q => decide (decode cX8_chain q.1 = .ok q.2)) = true := by decide +kernel
def TX8_through_0 : dT := [(0, .iload_n 1, 1), (1, .invokestatic 102, 3), (4, .ifCond .eq 11, 3), (7, .aload_n 0, 1), (8, .iload_n 2, 1), (9, .invokevirtual 116, 3), (12, .ifCond .ne 9, 3), (15, .aload_n 0, 1), (16, .iconst 0, 1), (17, .invokevirtual 106, 3), (20, .ireturn, 1), (21, .aload_n 0, 1), (22, .iload_n 1, 1), (23, .invokevirtual 143, 3), (26, .iconst 1, 1), (27, .istore_n 3, 1), (28, .iload_n 3, 1), (29, .bipush 16, 2), (31, .if_icmp .gt 28, 3), (34, .aload_n 0, 1), (35, .invokevirtual 147, 3), (38, .aload_n 0, 1), (39, .getfield 130, 3), (42, .aload_n 0, 1), (43, .iload_n 2, 1), (44, .iconst 1, 1), (45, .invokevirtual 62, 3), (48, .if_icmp .ne 5, 3), (51, .iload_n 3, 1), (52, .ireturn, 1), (53, .iinc 3 1, 3), (56, .goto (-28), 3), (59, .aload_n 0, 1), (60, .iconst 3, 1), (61, .invokevirtual 106, 3), (64, .ireturn, 1)]
set_option maxRecDepth 20000 in
theorem DX8_through_0 : TX8_through_0.all (fun q => decide (decode cX8_through q.1 = .ok q.2)) = true := by decide +kernel
def TX8_upright_0 : dT := [(0, .iload_n 1, 1), (1, .invokestatic 102, 3), (4, .ifCond .ne 9, 3), (7, .aload_n 0, 1), (8, .iconst 0, 1), (9, .invokevirtual 106, 3), (12, .ireturn, 1), (13, .aload_n 0, 1), (14, .iload_n 1, 1), (15, .invokevirtual 143, 3), (18, .iconst 1, 1), (19, .istore_n 2, 1), (20, .iload_n 2, 1), (21, .bipush 16, 2), (23, .if_icmp .gt 29, 3), (26, .aload_n 0, 1), (27, .invokevirtual 147, 3), (30, .aload_n 0, 1), (31, .getfield 137, 3), (34, .ifCond .ne 12, 3), (37, .aload_n 0, 1), (38, .getfield 140, 3), (41, .ifCond .ne 5, 3), (44, .iload_n 2, 1), (45, .ireturn, 1), (46, .iinc 2 1, 3), (49, .goto (-29), 3), (52, .aload_n 0, 1), (53, .iconst 3, 1), (54, .invokevirtual 106, 3), (57, .ireturn, 1)]
set_option maxRecDepth 20000 in
theorem DX8_upright_0 : TX8_upright_0.all (fun q => decide (decode cX8_upright q.1 = .ok q.2)) = true := by decide +kernel
def TX8_large_0 : dT := [(0, .iload_n 1, 1), (1, .invokestatic 102, 3), (4, .ifCond .eq 21, 3), (7, .iload_n 2, 1), (8, .iconst 0, 1), (9, .bipush 16, 2), (11, .invokestatic 58, 3), (14, .ifCond .eq 11, 3), (17, .aload_n 0, 1), (18, .iload_n 3, 1), (19, .invokevirtual 116, 3), (22, .ifCond .ne 9, 3), (25, .aload_n 0, 1), (26, .iconst 0, 1), (27, .invokevirtual 106, 3), (30, .ireturn, 1), (31, .aload_n 0, 1), (32, .iload_n 1, 1), (33, .iload_n 2, 1), (34, .invokevirtual 150, 3), (37, .aload_n 0, 1), (38, .getfield 130, 3), (41, .aload_n 0, 1), (42, .iload_n 3, 1), (43, .iconst 1, 1), (44, .invokevirtual 62, 3), (47, .if_icmp .ne 20, 3), (50, .aload_n 0, 1), (51, .iload_n 3, 1), (52, .iconst 2, 1), (53, .invokevirtual 62, 3), (56, .aload_n 0, 1), (57, .getfield 134, 3), (60, .imul, 1), (61, .bipush 81, 2), (63, .idiv, 1), (64, .goto 8, 3), (67, .aload_n 0, 1), (68, .iconst 4, 1), (69, .invokevirtual 106, 3), (72, .ireturn, 1)]
set_option maxRecDepth 20000 in
theorem DX8_large_0 : TX8_large_0.all (fun q => decide (decode cX8_large q.1 = .ok q.2)) = true := by decide +kernel
def TX8_isRound_0 : dT := [(0, .aload_n 0, 1), (1, .iload_n 1, 1), (2, .iconst 0, 1), (3, .invokevirtual 66, 3), (6, .istore_n 2, 1), (7, .iconst 1, 1), (8, .istore_n 3, 1), (9, .iload_n 3, 1), (10, .bipush 16, 2), (12, .if_icmp .ge 21, 3), (15, .iload_n 2, 1), (16, .iload_n 1, 1), (17, .if_icmp .eq 16, 3), (20, .aload_n 0, 1), (21, .iload_n 2, 1), (22, .iconst 0, 1), (23, .invokevirtual 66, 3), (26, .istore_n 2, 1), (27, .iinc 3 1, 3), (30, .goto (-21), 3), (33, .iload_n 2, 1), (34, .iload_n 1, 1), (35, .if_icmp .ne 7, 3), (38, .iconst 1, 1), (39, .goto 4, 3), (42, .iconst 0, 1), (43, .ireturn, 1)]
set_option maxRecDepth 20000 in
theorem DX8_isRound_0 : TX8_isRound_0.all (fun q => decide (decode cX8_isRound q.1 = .ok q.2)) = true := by decide +kernel
def TX8_aheadOf_0 : dT := [(0, .iconst 0, 1), (1, .istore_n 2, 1), (2, .iload_n 1, 1), (3, .istore_n 3, 1), (4, .aload_n 0, 1), (5, .iload_n 3, 1), (6, .invokevirtual 153, 3), (9, .ifCond .ne 16, 3), (12, .aload_n 0, 1), (13, .iload_n 3, 1), (14, .iconst 0, 1), (15, .invokevirtual 66, 3), (18, .istore_n 3, 1), (19, .iinc 2 1, 3), (22, .goto (-18), 3), (25, .iload_n 2, 1), (26, .ireturn, 1)]
set_option maxRecDepth 20000 in
theorem DX8_aheadOf_0 : TX8_aheadOf_0.all (fun q => decide (decode cX8_aheadOf q.1 = .ok q.2)) = true := by decide +kernel
def TX8_roundOf_0 : dT := [(0, .iload_n 1, 1), (1, .istore_n 2, 1), (2, .iconst 0, 1), (3, .istore_n 3, 1), (4, .iload_n 3, 1), (5, .bipush 16, 2), (7, .if_icmp .ge 16, 3), (10, .aload_n 0, 1), (11, .iload_n 2, 1), (12, .iconst 0, 1), (13, .invokevirtual 66, 3), (16, .istore_n 2, 1), (17, .iinc 3 1, 3), (20, .goto (-16), 3), (23, .iconst 0, 1), (24, .istore_n 3, 1), (25, .iconst 0, 1), (26, .istore 4, 2), (28, .iload 4, 2), (30, .bipush 16, 2), (32, .if_icmp .ge 22, 3), (35, .iload_n 3, 1), (36, .iconst 1, 1), (37, .iload_n 2, 1), (38, .ishl, 1), (39, .ior, 1), (40, .istore_n 3, 1), (41, .aload_n 0, 1), (42, .iload_n 2, 1), (43, .iconst 0, 1), (44, .invokevirtual 66, 3), (47, .istore_n 2, 1), (48, .iinc 4 1, 3), (51, .goto (-23), 3), (54, .iload_n 3, 1), (55, .ireturn, 1)]
set_option maxRecDepth 20000 in
theorem DX8_roundOf_0 : TX8_roundOf_0.all (fun q => decide (decode cX8_roundOf q.1 = .ok q.2)) = true := by decide +kernel
def TX8_round_0 : dT := [(0, .iload_n 1, 1), (1, .invokestatic 102, 3), (4, .ifCond .eq 14, 3), (7, .aload_n 0, 1), (8, .iload_n 1, 1), (9, .invokevirtual 156, 3), (12, .invokestatic 159, 3), (15, .goto 8, 3), (18, .aload_n 0, 1), (19, .iconst 0, 1), (20, .invokevirtual 106, 3), (23, .ireturn, 1)]
set_option maxRecDepth 20000 in
theorem DX8_round_0 : TX8_round_0.all (fun q => decide (decode cX8_round q.1 = .ok q.2)) = true := by decide +kernel
def TX8_rounds_0 : dT := [(0, .iconst 0, 1), (1, .istore_n 1, 1), (2, .iconst 0, 1), (3, .istore_n 2, 1), (4, .iload_n 2, 1), (5, .bipush 16, 2), (7, .if_icmp .ge 41, 3), (10, .aload_n 0, 1), (11, .iload_n 2, 1), (12, .invokevirtual 156, 3), (15, .iconst 1, 1), (16, .iload_n 2, 1), (17, .ishl, 1), (18, .iconst 1, 1), (19, .isub, 1), (20, .iand, 1), (21, .istore_n 3, 1), (22, .iload_n 1, 1), (23, .aload_n 0, 1), (24, .iload_n 2, 1), (25, .invokevirtual 153, 3), (28, .ifCond .eq 11, 3), (31, .iload_n 3, 1), (32, .ifCond .ne 7, 3), (35, .iconst 1, 1), (36, .goto 4, 3), (39, .iconst 0, 1), (40, .iadd, 1), (41, .istore_n 1, 1), (42, .iinc 2 1, 3), (45, .goto (-41), 3), (48, .iload_n 1, 1), (49, .ireturn, 1)]
set_option maxRecDepth 20000 in
theorem DX8_rounds_0 : TX8_rounds_0.all (fun q => decide (decode cX8_rounds q.1 = .ok q.2)) = true := by decide +kernel
def TX8_before_0 : dT := [(0, .iload_n 1, 1), (1, .invokestatic 102, 3), (4, .ifCond .eq 11, 3), (7, .aload_n 0, 1), (8, .iload_n 1, 1), (9, .invokevirtual 162, 3), (12, .goto 8, 3), (15, .aload_n 0, 1), (16, .iconst 0, 1), (17, .invokevirtual 106, 3), (20, .ireturn, 1)]
set_option maxRecDepth 20000 in
theorem DX8_before_0 : TX8_before_0.all (fun q => decide (decode cX8_before q.1 = .ok q.2)) = true := by decide +kernel
def TX8_shownBy_0 : dT := [(0, .iload_n 1, 1), (1, .invokestatic 102, 3), (4, .ifCond .ne 9, 3), (7, .aload_n 0, 1), (8, .iconst 0, 1), (9, .invokevirtual 106, 3), (12, .ireturn, 1), (13, .iconst 0, 1), (14, .istore_n 2, 1), (15, .iconst 0, 1), (16, .istore_n 3, 1), (17, .iload_n 3, 1), (18, .bipush 16, 2), (20, .if_icmp .ge 59, 3), (23, .iload_n 3, 1), (24, .istore 4, 2), (26, .iconst 0, 1), (27, .istore 5, 2), (29, .iload 5, 2), (31, .bipush 16, 2), (33, .if_icmp .ge 24, 3), (36, .iload 4, 2), (38, .iload_n 1, 1), (39, .if_icmp .eq 18, 3), (42, .aload_n 0, 1), (43, .iload 4, 2), (45, .iconst 0, 1), (46, .invokevirtual 66, 3), (49, .istore 4, 2), (51, .iinc 5 1, 3), (54, .goto (-25), 3), (57, .iload_n 2, 1), (58, .iload 4, 2), (60, .iload_n 1, 1), (61, .if_icmp .ne 9, 3), (64, .iconst 1, 1), (65, .iload_n 3, 1), (66, .ishl, 1), (67, .goto 4, 3), (70, .iconst 0, 1), (71, .ior, 1), (72, .istore_n 2, 1), (73, .iinc 3 1, 3), (76, .goto (-59), 3), (79, .iload_n 2, 1), (80, .ireturn, 1)]
set_option maxRecDepth 20000 in
theorem DX8_shownBy_0 : TX8_shownBy_0.all (fun q => decide (decode cX8_shownBy q.1 = .ok q.2)) = true := by decide +kernel
def TX8_ahead_0 : dT := [(0, .aload_n 0, 1), (1, .iload_n 1, 1), (2, .invokevirtual 116, 3), (5, .ifCond .eq 13, 3), (8, .iload_n 2, 1), (9, .iconst 0, 1), (10, .bipush 100, 2), (12, .invokestatic 58, 3), (15, .ifCond .ne 9, 3), (18, .aload_n 0, 1), (19, .iconst 0, 1), (20, .invokevirtual 106, 3), (23, .ireturn, 1), (24, .aload_n 0, 1), (25, .invokevirtual 165, 3), (28, .iconst 0, 1), (29, .istore_n 3, 1), (30, .iload_n 3, 1), (31, .iload_n 2, 1), (32, .if_icmp .ge 13, 3), (35, .aload_n 0, 1), (36, .invokevirtual 119, 3), (39, .iinc 3 1, 3), (42, .goto (-12), 3), (45, .aload_n 0, 1), (46, .iload_n 1, 1), (47, .iconst 1, 1), (48, .invokevirtual 62, 3), (51, .istore_n 3, 1), (52, .aload_n 0, 1), (53, .invokevirtual 168, 3), (56, .iload_n 3, 1), (57, .ireturn, 1)]
set_option maxRecDepth 20000 in
theorem DX8_ahead_0 : TX8_ahead_0.all (fun q => decide (decode cX8_ahead q.1 = .ok q.2)) = true := by decide +kernel
def TX8_firstBy_0 : dT := [(0, .aload_n 0, 1), (1, .invokevirtual 165, 3), (4, .iconst 0, 1), (5, .istore 4, 2), (7, .iconst 0, 1), (8, .istore 5, 2), (10, .iload 4, 2), (12, .bipush 100, 2), (14, .if_icmp .gt 71, 3), (17, .iload 5, 2), (19, .ifCond .ne 66, 3), (22, .aload_n 0, 1), (23, .iload_n 1, 1), (24, .iconst 1, 1), (25, .invokevirtual 62, 3), (28, .istore 6, 2), (30, .iload 6, 2), (32, .iload_n 3, 1), (33, .ifCond .ne 7, 3), (36, .iload_n 2, 1), (37, .goto 23, 3), (40, .iload_n 3, 1), (41, .iconst 1, 1), (42, .if_icmp .ne 12, 3), (45, .aload_n 0, 1), (46, .iload_n 2, 1), (47, .iconst 0, 1), (48, .invokevirtual 66, 3), (51, .goto 9, 3), (54, .aload_n 0, 1), (55, .iload_n 2, 1), (56, .iconst 1, 1), (57, .invokevirtual 62, 3), (60, .if_icmp .ne 7, 3), (63, .iconst 1, 1), (64, .goto 4, 3), (67, .iconst 0, 1), (68, .istore 5, 2), (70, .iload 5, 2), (72, .ifCond .ne 10, 3), (75, .aload_n 0, 1), (76, .invokevirtual 119, 3), (79, .iinc 4 1, 3), (82, .goto (-72), 3), (85, .aload_n 0, 1), (86, .invokevirtual 168, 3), (89, .iload 5, 2), (91, .ifCond .eq 8, 3), (94, .iload 4, 2), (96, .goto 8, 3), (99, .aload_n 0, 1), (100, .iconst 3, 1), (101, .invokevirtual 106, 3), (104, .ireturn, 1)]
set_option maxRecDepth 20000 in
theorem DX8_firstBy_0 : TX8_firstBy_0.all (fun q => decide (decode cX8_firstBy q.1 = .ok q.2)) = true := by decide +kernel
def TX8_comes_0 : dT := [(0, .aload_n 0, 1), (1, .iload_n 1, 1), (2, .invokevirtual 116, 3), (5, .ifCond .eq 20, 3), (8, .iload_n 2, 1), (9, .invokestatic 102, 3), (12, .ifCond .eq 13, 3), (15, .aload_n 0, 1), (16, .iload_n 1, 1), (17, .iload_n 2, 1), (18, .iconst 0, 1), (19, .invokevirtual 171, 3), (22, .goto 8, 3), (25, .aload_n 0, 1), (26, .iconst 0, 1), (27, .invokevirtual 106, 3), (30, .ireturn, 1)]
set_option maxRecDepth 20000 in
theorem DX8_comes_0 : TX8_comes_0.all (fun q => decide (decode cX8_comes q.1 = .ok q.2)) = true := by decide +kernel
def TX8_seen_0 : dT := [(0, .aload_n 0, 1), (1, .iload_n 1, 1), (2, .invokevirtual 116, 3), (5, .ifCond .eq 20, 3), (8, .iload_n 2, 1), (9, .invokestatic 102, 3), (12, .ifCond .eq 13, 3), (15, .aload_n 0, 1), (16, .iload_n 1, 1), (17, .iload_n 2, 1), (18, .iconst 1, 1), (19, .invokevirtual 171, 3), (22, .goto 8, 3), (25, .aload_n 0, 1), (26, .iconst 0, 1), (27, .invokevirtual 106, 3), (30, .ireturn, 1)]
set_option maxRecDepth 20000 in
theorem DX8_seen_0 : TX8_seen_0.all (fun q => decide (decode cX8_seen q.1 = .ok q.2)) = true := by decide +kernel
def TX8_meet_0 : dT := [(0, .aload_n 0, 1), (1, .iload_n 1, 1), (2, .invokevirtual 116, 3), (5, .ifCond .eq 26, 3), (8, .aload_n 0, 1), (9, .iload_n 2, 1), (10, .invokevirtual 116, 3), (13, .ifCond .eq 18, 3), (16, .iload_n 1, 1), (17, .iload_n 2, 1), (18, .if_icmp .eq 13, 3), (21, .aload_n 0, 1), (22, .iload_n 1, 1), (23, .iload_n 2, 1), (24, .iconst 2, 1), (25, .invokevirtual 171, 3), (28, .goto 8, 3), (31, .aload_n 0, 1), (32, .iconst 0, 1), (33, .invokevirtual 106, 3), (36, .ireturn, 1)]
set_option maxRecDepth 20000 in
theorem DX8_meet_0 : TX8_meet_0.all (fun q => decide (decode cX8_meet q.1 = .ok q.2)) = true := by decide +kernel
def TX8_mostOf_0 : dT := [(0, .iconst 0, 1), (1, .istore_n 1, 1), (2, .iconst 1, 1), (3, .istore_n 2, 1), (4, .iload_n 2, 1), (5, .bipush 16, 2), (7, .if_icmp .ge 30, 3), (10, .aload_n 0, 1), (11, .getfield 22, 3), (14, .iload_n 2, 1), (15, .iaload, 1), (16, .aload_n 0, 1), (17, .getfield 22, 3), (20, .iload_n 1, 1), (21, .iaload, 1), (22, .if_icmp .le 7, 3), (25, .iload_n 2, 1), (26, .goto 4, 3), (29, .iload_n 1, 1), (30, .istore_n 1, 1), (31, .iinc 2 1, 3), (34, .goto (-30), 3), (37, .iload_n 1, 1), (38, .ireturn, 1)]
set_option maxRecDepth 20000 in
theorem DX8_mostOf_0 : TX8_mostOf_0.all (fun q => decide (decode cX8_mostOf q.1 = .ok q.2)) = true := by decide +kernel
def TX8_countsNone_0 : dT := [(0, .iconst 0, 1), (1, .istore_n 1, 1), (2, .iload_n 1, 1), (3, .bipush 16, 2), (5, .if_icmp .ge 16, 3), (8, .aload_n 0, 1), (9, .getfield 22, 3), (12, .iload_n 1, 1), (13, .iconst 0, 1), (14, .iastore, 1), (15, .iinc 1 1, 3), (18, .goto (-16), 3), (21, .return_, 1)]
set_option maxRecDepth 20000 in
theorem DX8_countsNone_0 : TX8_countsNone_0.all (fun q => decide (decode cX8_countsNone q.1 = .ok q.2)) = true := by decide +kernel
def TX8_cast_0 : dT := [(0, .aload_n 0, 1), (1, .iload_n 1, 1), (2, .invokevirtual 116, 3), (5, .ifCond .eq 13, 3), (8, .iload_n 2, 1), (9, .iconst 1, 1), (10, .bipush 100, 2), (12, .invokestatic 58, 3), (15, .ifCond .ne 9, 3), (18, .aload_n 0, 1), (19, .iconst 0, 1), (20, .invokevirtual 106, 3), (23, .ireturn, 1), (24, .aload_n 0, 1), (25, .invokevirtual 165, 3), (28, .aload_n 0, 1), (29, .invokevirtual 175, 3), (32, .iconst 0, 1), (33, .istore_n 3, 1), (34, .iload_n 3, 1), (35, .iload_n 2, 1), (36, .if_icmp .ge 28, 3), (39, .aload_n 0, 1), (40, .invokevirtual 119, 3), (43, .aload_n 0, 1), (44, .getfield 22, 3), (47, .aload_n 0, 1), (48, .iload_n 1, 1), (49, .iconst 1, 1), (50, .invokevirtual 62, 3), (53, .dup2, 1), (54, .iaload, 1), (55, .iconst 1, 1), (56, .iadd, 1), (57, .iastore, 1), (58, .iinc 3 1, 3), (61, .goto (-27), 3), (64, .aload_n 0, 1), (65, .invokevirtual 168, 3), (68, .aload_n 0, 1), (69, .invokevirtual 178, 3), (72, .ireturn, 1)]
set_option maxRecDepth 20000 in
theorem DX8_cast_0 : TX8_cast_0.all (fun q => decide (decode cX8_cast q.1 = .ok q.2)) = true := by decide +kernel
def TX8_kindFor_0 : dT := [(0, .aload_n 0, 1), (1, .iload_n 1, 1), (2, .invokevirtual 116, 3), (5, .ifCond .ne 9, 3), (8, .aload_n 0, 1), (9, .iconst 0, 1), (10, .invokevirtual 106, 3), (13, .ireturn, 1), (14, .iconst 0, 1), (15, .istore_n 2, 1), (16, .iconst 0, 1), (17, .istore_n 3, 1), (18, .aload_n 0, 1), (19, .invokevirtual 165, 3), (22, .iconst 0, 1), (23, .istore 4, 2), (25, .iload 4, 2), (27, .bipush 6, 2), (29, .if_icmp .gt 99, 3), (32, .aload_n 0, 1), (33, .iload_n 1, 1), (34, .iconst 0, 1), (35, .iload 4, 2), (37, .invokevirtual 95, 3), (40, .iconst 1, 1), (41, .aload_n 0, 1), (42, .iload_n 1, 1), (43, .iconst 1, 1), (44, .invokevirtual 62, 3), (47, .ishl, 1), (48, .istore 5, 2), (50, .iconst 0, 1), (51, .istore 6, 2), (53, .iload 6, 2), (55, .bipush 60, 2), (57, .if_icmp .ge 26, 3), (60, .aload_n 0, 1), (61, .invokevirtual 119, 3), (64, .iload 5, 2), (66, .iconst 1, 1), (67, .aload_n 0, 1), (68, .iload_n 1, 1), (69, .iconst 1, 1), (70, .invokevirtual 62, 3), (73, .ishl, 1), (74, .ior, 1), (75, .istore 5, 2), (77, .iinc 6 1, 3), (80, .goto (-27), 3), (83, .aload_n 0, 1), (84, .invokevirtual 168, 3), (87, .iload 5, 2), (89, .invokestatic 159, 3), (92, .iload_n 3, 1), (93, .if_icmp .le 8, 3), (96, .iload 4, 2), (98, .goto 4, 3), (101, .iload_n 2, 1), (102, .istore_n 2, 1), (103, .iload 5, 2), (105, .invokestatic 159, 3), (108, .iload_n 3, 1), (109, .if_icmp .le 11, 3), (112, .iload 5, 2), (114, .invokestatic 159, 3), (117, .goto 4, 3), (120, .iload_n 3, 1), (121, .istore_n 3, 1), (122, .iinc 4 1, 3), (125, .goto (-100), 3), (128, .iload_n 2, 1), (129, .ireturn, 1)]
set_option maxRecDepth 20000 in
theorem DX8_kindFor_0 : TX8_kindFor_0.all (fun q => decide (decode cX8_kindFor q.1 = .ok q.2)) = true := by decide +kernel
def TX8_isSheet_0 : dT := [(0, .iload_n 0, 1), (1, .iconst 0, 1), (2, .iconst 3, 1), (3, .invokestatic 58, 3), (6, .ireturn, 1)]
set_option maxRecDepth 20000 in
theorem DX8_isSheet_0 : TX8_isSheet_0.all (fun q => decide (decode cX8_isSheet q.1 = .ok q.2)) = true := by decide +kernel
def TX8_wrongSheet_0 : dT := [(0, .iload_n 1, 1), (1, .invokestatic 181, 3), (4, .ifCond .ne 7, 3), (7, .iconst 0, 1), (8, .goto 17, 3), (11, .aload_n 0, 1), (12, .getfield 41, 3), (15, .iload_n 1, 1), (16, .iaload, 1), (17, .ifCond .ne 7, 3), (20, .iconst 5, 1), (21, .goto 4, 3), (24, .iconst (-1), 1), (25, .ireturn, 1)]
set_option maxRecDepth 20000 in
theorem DX8_wrongSheet_0 : TX8_wrongSheet_0.all (fun q => decide (decode cX8_wrongSheet q.1 = .ok q.2)) = true := by decide +kernel
def TX8_wrongSight_0 : dT := [(0, .aload_n 0, 1), (1, .iload_n 1, 1), (2, .invokevirtual 184, 3), (5, .istore_n 3, 1), (6, .iload_n 3, 1), (7, .ifCond .lt 7, 3), (10, .iload_n 3, 1), (11, .goto 15, 3), (14, .iload_n 2, 1), (15, .invokestatic 102, 3), (18, .ifCond .eq 7, 3), (21, .iconst (-1), 1), (22, .goto 4, 3), (25, .iconst 0, 1), (26, .ireturn, 1)]
set_option maxRecDepth 20000 in
theorem DX8_wrongSight_0 : TX8_wrongSight_0.all (fun q => decide (decode cX8_wrongSight q.1 = .ok q.2)) = true := by decide +kernel
def TX8_told_0 : dT := [(0, .aload_n 0, 1), (1, .getfield 47, 3), (4, .bipush 40, 2), (6, .iload_n 1, 1), (7, .imul, 1), (8, .iload_n 2, 1), (9, .iadd, 1), (10, .iaload, 1), (11, .ireturn, 1)]
set_option maxRecDepth 20000 in
theorem DX8_told_0 : TX8_told_0.all (fun q => decide (decode cX8_told q.1 = .ok q.2)) = true := by decide +kernel
def TX8_fitsAs_0 : dT := [(0, .aload_n 0, 1), (1, .invokevirtual 165, 3), (4, .aload_n 0, 1), (5, .iload_n 2, 1), (6, .iconst 0, 1), (7, .iload_n 3, 1), (8, .invokevirtual 53, 3), (11, .iconst 1, 1), (12, .istore 4, 2), (14, .iconst 0, 1), (15, .istore 5, 2), (17, .iload 5, 2), (19, .aload_n 0, 1), (20, .getfield 44, 3), (23, .iload_n 1, 1), (24, .iaload, 1), (25, .if_icmp .ge 51, 3), (28, .iload 4, 2), (30, .ifCond .eq 46, 3), (33, .aload_n 0, 1), (34, .iload_n 1, 1), (35, .iload 5, 2), (37, .invokevirtual 187, 3), (40, .iconst (-1), 1), (41, .if_icmp .eq 18, 3), (44, .aload_n 0, 1), (45, .iload_n 1, 1), (46, .iload 5, 2), (48, .invokevirtual 187, 3), (51, .aload_n 0, 1), (52, .iload_n 2, 1), (53, .invokevirtual 73, 3), (56, .if_icmp .ne 7, 3), (59, .iconst 1, 1), (60, .goto 4, 3), (63, .iconst 0, 1), (64, .istore 4, 2), (66, .aload_n 0, 1), (67, .invokevirtual 119, 3), (70, .iinc 5 1, 3), (73, .goto (-56), 3), (76, .aload_n 0, 1), (77, .invokevirtual 168, 3), (80, .iload 4, 2), (82, .ireturn, 1)]
set_option maxRecDepth 20000 in
theorem DX8_fitsAs_0 : TX8_fitsAs_0.all (fun q => decide (decode cX8_fitsAs q.1 = .ok q.2)) = true := by decide +kernel
def TX8_fits_0 : dT := [(0, .aload_n 0, 1), (1, .iload_n 1, 1), (2, .iload_n 2, 1), (3, .invokevirtual 190, 3), (6, .istore_n 3, 1), (7, .iload_n 3, 1), (8, .ifCond .lt 9, 3), (11, .aload_n 0, 1), (12, .iload_n 3, 1), (13, .invokevirtual 106, 3), (16, .ireturn, 1), (17, .iconst 0, 1), (18, .istore 4, 2), (20, .iconst 0, 1), (21, .istore 5, 2), (23, .iload 5, 2), (25, .bipush 16, 2), (27, .if_icmp .ge 36, 3), (30, .iload 4, 2), (32, .iload 5, 2), (34, .iload_n 2, 1), (35, .if_icmp .eq 18, 3), (38, .aload_n 0, 1), (39, .iload_n 1, 1), (40, .iload_n 2, 1), (41, .iload 5, 2), (43, .invokevirtual 193, 3), (46, .ifCond .eq 7, 3), (49, .iconst 1, 1), (50, .goto 4, 3), (53, .iconst 0, 1), (54, .iadd, 1), (55, .istore 4, 2), (57, .iinc 5 1, 3), (60, .goto (-37), 3), (63, .iload 4, 2), (65, .ireturn, 1)]
set_option maxRecDepth 20000 in
theorem DX8_fits_0 : TX8_fits_0.all (fun q => decide (decode cX8_fits q.1 = .ok q.2)) = true := by decide +kernel
def TX8_lens_0 : dT := [(0, .aload_n 0, 1), (1, .iload_n 1, 1), (2, .iload_n 2, 1), (3, .invokevirtual 190, 3), (6, .istore_n 3, 1), (7, .iload_n 3, 1), (8, .ifCond .lt 9, 3), (11, .aload_n 0, 1), (12, .iload_n 3, 1), (13, .invokevirtual 106, 3), (16, .ireturn, 1), (17, .iconst 0, 1), (18, .istore 4, 2), (20, .iload 4, 2), (22, .bipush 16, 2), (24, .if_icmp .ge 29, 3), (27, .iload 4, 2), (29, .iload_n 2, 1), (30, .if_icmp .eq 17, 3), (33, .aload_n 0, 1), (34, .iload_n 1, 1), (35, .iload_n 2, 1), (36, .iload 4, 2), (38, .invokevirtual 193, 3), (41, .ifCond .eq 6, 3), (44, .iload 4, 2), (46, .ireturn, 1), (47, .iinc 4 1, 3), (50, .goto (-30), 3), (53, .aload_n 0, 1), (54, .iconst 3, 1), (55, .invokevirtual 106, 3), (58, .ireturn, 1)]
set_option maxRecDepth 20000 in
theorem DX8_lens_0 : TX8_lens_0.all (fun q => decide (decode cX8_lens q.1 = .ok q.2)) = true := by decide +kernel
def TX8_which_0 : dT := [(0, .aload_n 0, 1), (1, .iload_n 1, 1), (2, .invokevirtual 184, 3), (5, .istore_n 2, 1), (6, .iload_n 2, 1), (7, .ifCond .lt 9, 3), (10, .aload_n 0, 1), (11, .iload_n 2, 1), (12, .invokevirtual 106, 3), (15, .ireturn, 1), (16, .iconst 1, 1), (17, .aload_n 0, 1), (18, .getfield 9, 3), (21, .iconst 1, 1), (22, .iaload, 1), (23, .ishl, 1), (24, .iconst 1, 1), (25, .isub, 1), (26, .istore_n 3, 1), (27, .aload_n 0, 1), (28, .invokevirtual 165, 3), (31, .iconst 0, 1), (32, .istore 4, 2), (34, .iload 4, 2), (36, .aload_n 0, 1), (37, .getfield 44, 3), (40, .iload_n 1, 1), (41, .iaload, 1), (42, .if_icmp .ge 74, 3), (45, .iconst 0, 1), (46, .istore 5, 2), (48, .iload 5, 2), (50, .aload_n 0, 1), (51, .getfield 9, 3), (54, .iconst 1, 1), (55, .iaload, 1), (56, .if_icmp .ge 50, 3), (59, .iload_n 3, 1), (60, .aload_n 0, 1), (61, .iload_n 1, 1), (62, .iload 4, 2), (64, .invokevirtual 187, 3), (67, .iconst (-1), 1), (68, .if_icmp .eq 20, 3), (71, .aload_n 0, 1), (72, .iload_n 1, 1), (73, .iload 4, 2), (75, .invokevirtual 187, 3), (78, .aload_n 0, 1), (79, .iload 5, 2), (81, .iconst 1, 1), (82, .invokevirtual 62, 3), (85, .if_icmp .ne 7, 3), (88, .iload_n 3, 1), (89, .goto 9, 3), (92, .iconst 1, 1), (93, .iload 5, 2), (95, .ishl, 1), (96, .iconst (-1), 1), (97, .ixor, 1), (98, .iand, 1), (99, .istore_n 3, 1), (100, .iinc 5 1, 3), (103, .goto (-55), 3), (106, .aload_n 0, 1), (107, .invokevirtual 119, 3), (110, .iinc 4 1, 3), (113, .goto (-79), 3), (116, .aload_n 0, 1), (117, .invokevirtual 168, 3), (120, .iload_n 3, 1), (121, .ireturn, 1)]
set_option maxRecDepth 20000 in
theorem DX8_which_0 : TX8_which_0.all (fun q => decide (decode cX8_which q.1 = .ok q.2)) = true := by decide +kernel
def TX8_eyes_0 : dT := [(0, .iconst (-1), 1), (1, .istore_n 1, 1), (2, .iconst 0, 1), (3, .istore_n 2, 1), (4, .iload_n 2, 1), (5, .ldc 196, 2), (7, .if_icmp .ge 82, 3), (10, .iload_n 1, 1), (11, .ifCond .lt 14, 3), (14, .iload_n 2, 1), (15, .invokestatic 159, 3), (18, .iload_n 1, 1), (19, .invokestatic 159, 3), (22, .if_icmp .ge 61, 3), (25, .iconst 1, 1), (26, .istore_n 3, 1), (27, .iconst 0, 1), (28, .istore 4, 2), (30, .iload 4, 2), (32, .aload_n 0, 1), (33, .getfield 9, 3), (36, .iconst 1, 1), (37, .iaload, 1), (38, .if_icmp .ge 35, 3), (41, .iload_n 3, 1), (42, .ifCond .eq 31, 3), (45, .aload_n 0, 1), (46, .aload_n 0, 1), (47, .iload 4, 2), (49, .iconst 1, 1), (50, .invokevirtual 62, 3), (53, .invokevirtual 76, 3), (56, .iload_n 2, 1), (57, .iand, 1), (58, .ifCond .eq 7, 3), (61, .iconst 1, 1), (62, .goto 4, 3), (65, .iconst 0, 1), (66, .istore_n 3, 1), (67, .iinc 4 1, 3), (70, .goto (-40), 3), (73, .iload_n 3, 1), (74, .ifCond .eq 7, 3), (77, .iload_n 2, 1), (78, .goto 4, 3), (81, .iload_n 1, 1), (82, .istore_n 1, 1), (83, .iinc 2 1, 3), (86, .goto (-82), 3), (89, .iload_n 1, 1), (90, .ifCond .ge 11, 3), (93, .aload_n 0, 1), (94, .iconst 3, 1), (95, .invokevirtual 106, 3), (98, .goto 4, 3), (101, .iload_n 1, 1), (102, .ireturn, 1)]
set_option maxRecDepth 20000 in
theorem DX8_eyes_0 : TX8_eyes_0.all (fun q => decide (decode cX8_eyes q.1 = .ok q.2)) = true := by decide +kernel
def TX8_dredge_0 : dT := [(0, .aload_n 0, 1), (1, .iload_n 1, 1), (2, .invokevirtual 116, 3), (5, .ifCond .eq 12, 3), (8, .iload_n 2, 1), (9, .iconst 0, 1), (10, .iconst 1, 1), (11, .invokestatic 58, 3), (14, .ifCond .ne 9, 3), (17, .aload_n 0, 1), (18, .iconst 0, 1), (19, .invokevirtual 106, 3), (22, .ireturn, 1), (23, .aload_n 0, 1), (24, .aload_n 0, 1), (25, .iload_n 1, 1), (26, .iconst 1, 1), (27, .invokevirtual 62, 3), (30, .invokevirtual 76, 3), (33, .istore_n 3, 1), (34, .iconst 0, 1), (35, .istore 4, 2), (37, .iconst 0, 1), (38, .istore 5, 2), (40, .iconst 0, 1), (41, .istore 6, 2), (43, .iload 6, 2), (45, .bipush 16, 2), (47, .if_icmp .ge 65, 3), (50, .aload_n 0, 1), (51, .iload 6, 2), (53, .invokevirtual 76, 3), (56, .iload_n 3, 1), (57, .if_icmp .ne 7, 3), (60, .iconst 1, 1), (61, .goto 4, 3), (64, .iconst 0, 1), (65, .istore 7, 2), (67, .iload 4, 2), (69, .iload 7, 2), (71, .ifCond .eq 10, 3), (74, .iconst 1, 1), (75, .iload 6, 2), (77, .ishl, 1), (78, .goto 4, 3), (81, .iconst 0, 1), (82, .ior, 1), (83, .istore 4, 2), (85, .iload 5, 2), (87, .iload 7, 2), (89, .ifCond .eq 13, 3), (92, .aload_n 0, 1), (93, .iload 6, 2), (95, .iconst 5, 1), (96, .invokevirtual 66, 3), (99, .goto 4, 3), (102, .iconst 0, 1), (103, .iadd, 1), (104, .istore 5, 2), (106, .iinc 6 1, 3), (109, .goto (-66), 3), (112, .iload_n 2, 1), (113, .ifCond .ne 8, 3), (116, .iload 4, 2), (118, .goto 5, 3), (121, .iload 5, 2), (123, .ireturn, 1)]
set_option maxRecDepth 20000 in
theorem DX8_dredge_0 : TX8_dredge_0.all (fun q => decide (decode cX8_dredge q.1 = .ok q.2)) = true := by decide +kernel
def TX8_watch_0 : dT := [(0, .iload_n 1, 1), (1, .iconst 1, 1), (2, .bipush 40, 2), (4, .invokestatic 58, 3), (7, .ifCond .ne 9, 3), (10, .aload_n 0, 1), (11, .iconst 0, 1), (12, .invokevirtual 106, 3), (15, .ireturn, 1), (16, .aload_n 0, 1), (17, .invokevirtual 165, 3), (20, .aload_n 0, 1), (21, .invokevirtual 175, 3), (24, .iconst 0, 1), (25, .istore_n 2, 1), (26, .iload_n 2, 1), (27, .iload_n 1, 1), (28, .if_icmp .ge 44, 3), (31, .aload_n 0, 1), (32, .invokevirtual 119, 3), (35, .iconst 0, 1), (36, .istore_n 3, 1), (37, .iload_n 3, 1), (38, .bipush 16, 2), (40, .if_icmp .ge 26, 3), (43, .aload_n 0, 1), (44, .getfield 22, 3), (47, .iload_n 3, 1), (48, .dup2, 1), (49, .iaload, 1), (50, .aload_n 0, 1), (51, .iload_n 3, 1), (52, .invokevirtual 73, 3), (55, .invokestatic 159, 3), (58, .iadd, 1), (59, .iastore, 1), (60, .iinc 3 1, 3), (63, .goto (-26), 3), (66, .iinc 2 1, 3), (69, .goto (-43), 3), (72, .aload_n 0, 1), (73, .invokevirtual 168, 3), (76, .aload_n 0, 1), (77, .invokevirtual 178, 3), (80, .ireturn, 1)]
set_option maxRecDepth 20000 in
theorem DX8_watch_0 : TX8_watch_0.all (fun q => decide (decode cX8_watch q.1 = .ok q.2)) = true := by decide +kernel
def TX8_draw_0 : dT := [(0, .aload_n 0, 1), (1, .getfield 9, 3), (4, .iconst 2, 1), (5, .aload_n 0, 1), (6, .getfield 9, 3), (9, .iconst 2, 1), (10, .iaload, 1), (11, .ldc 197, 2), (13, .imul, 1), (14, .sipush 12345, 3), (17, .iadd, 1), (18, .iastore, 1), (19, .aload_n 0, 1), (20, .getfield 9, 3), (23, .iconst 2, 1), (24, .iaload, 1), (25, .bipush 8, 2), (27, .iushr, 1), (28, .ireturn, 1)]
set_option maxRecDepth 20000 in
theorem DX8_draw_0 : TX8_draw_0.all (fun q => decide (decode cX8_draw q.1 = .ok q.2)) = true := by decide +kernel
def TX8_falls_0 : dT := [(0, .iload_n 1, 1), (1, .iconst 1, 1), (2, .bipush 20, 2), (4, .invokestatic 58, 3), (7, .ifCond .ne 9, 3), (10, .aload_n 0, 1), (11, .iconst 0, 1), (12, .invokevirtual 106, 3), (15, .ireturn, 1), (16, .aload_n 0, 1), (17, .getfield 9, 3), (20, .iconst 0, 1), (21, .iaload, 1), (22, .iload_n 1, 1), (23, .iadd, 1), (24, .ldc 98, 2), (26, .if_icmp .le 9, 3), (29, .aload_n 0, 1), (30, .iconst 4, 1), (31, .invokevirtual 106, 3), (34, .ireturn, 1), (35, .iconst 0, 1), (36, .istore_n 2, 1), (37, .iconst 0, 1), (38, .istore_n 3, 1), (39, .iload_n 3, 1), (40, .iload_n 1, 1), (41, .if_icmp .ge 60, 3), (44, .aload_n 0, 1), (45, .getfield 9, 3), (48, .iconst 1, 1), (49, .iaload, 1), (50, .ifCond .le 30, 3), (53, .aload_n 0, 1), (54, .invokevirtual 198, 3), (57, .aload_n 0, 1), (58, .getfield 9, 3), (61, .iconst 1, 1), (62, .iaload, 1), (63, .irem, 1), (64, .istore 4, 2), (66, .aload_n 0, 1), (67, .iload 4, 2), (69, .iconst 1, 1), (70, .aload_n 0, 1), (71, .invokevirtual 198, 3), (74, .bipush 16, 2), (76, .irem, 1), (77, .invokevirtual 95, 3), (80, .aload_n 0, 1), (81, .invokevirtual 119, 3), (84, .iload_n 2, 1), (85, .aload_n 0, 1), (86, .iconst 1, 1), (87, .invokevirtual 122, 3), (90, .invokestatic 159, 3), (93, .iadd, 1), (94, .istore_n 2, 1), (95, .iinc 3 1, 3), (98, .goto (-59), 3), (101, .iload_n 2, 1), (102, .ireturn, 1)]
set_option maxRecDepth 20000 in
theorem DX8_falls_0 : TX8_falls_0.all (fun q => decide (decode cX8_falls q.1 = .ok q.2)) = true := by decide +kernel
def TX8_odds_0 : dT := [(0, .iload_n 1, 1), (1, .iconst 0, 1), (2, .bipush 12, 2), (4, .invokestatic 58, 3), (7, .ifCond .eq 12, 3), (10, .iload_n 2, 1), (11, .iconst 0, 1), (12, .iconst 1, 1), (13, .invokestatic 58, 3), (16, .ifCond .ne 10, 3), (19, .aload_n 0, 1), (20, .iconst 0, 1), (21, .invokevirtual 106, 3), (24, .i2l, 1), (25, .lreturn, 1), (26, .lconst 1, 1), (27, .lstore_n 3, 1), (28, .lconst 1, 1), (29, .lstore 5, 2), (31, .iconst 0, 1), (32, .istore 7, 2), (34, .iload 7, 2), (36, .iload_n 1, 1), (37, .if_icmp .ge 33, 3), (40, .lload_n 3, 1), (41, .ldc2_w 201, 3), (44, .aload_n 0, 1), (45, .iconst 1, 1), (46, .invokevirtual 122, 3), (49, .invokestatic 159, 3), (52, .i2l, 1), (53, .lsub, 1), (54, .lmul, 1), (55, .lstore_n 3, 1), (56, .lload 5, 2), (58, .ldc2_w 201, 3), (61, .lmul, 1), (62, .lstore 5, 2), (64, .iinc 7 1, 3), (67, .goto (-33), 3), (70, .lload_n 3, 1), (71, .lstore 7, 2), (73, .lload 5, 2), (75, .lstore 9, 2), (77, .lload 9, 2), (79, .lconst 0, 1), (80, .lcmp, 1), (81, .ifCond .eq 21, 3), (84, .lload 7, 2), (86, .lload 9, 2), (88, .lrem, 1), (89, .lstore 11, 2), (91, .lload 9, 2), (93, .lstore 7, 2), (95, .lload 11, 2), (97, .lstore 9, 2), (99, .goto (-22), 3), (102, .iload_n 2, 1), (103, .ifCond .ne 10, 3), (106, .lload_n 3, 1), (107, .lload 7, 2), (109, .ldiv, 1), (110, .goto 8, 3), (113, .lload 5, 2), (115, .lload 7, 2), (117, .ldiv, 1), (118, .lreturn, 1)]
set_option maxRecDepth 20000 in
theorem DX8_odds_0 : TX8_odds_0.all (fun q => decide (decode cX8_odds q.1 = .ok q.2)) = true := by decide +kernel
def TX8_seed_0 : dT := [(0, .aload_n 0, 1), (1, .getfield 9, 3), (4, .iconst 2, 1), (5, .iaload, 1), (6, .istore_n 2, 1), (7, .aload_n 0, 1), (8, .getfield 9, 3), (11, .iconst 2, 1), (12, .iload_n 1, 1), (13, .iastore, 1), (14, .iload_n 2, 1), (15, .ireturn, 1)]
set_option maxRecDepth 20000 in
theorem DX8_seed_0 : TX8_seed_0.all (fun q => decide (decode cX8_seed q.1 = .ok q.2)) = true := by decide +kernel
def TX8_feed_0 : dT := [(0, .iload_n 2, 1), (1, .iconst 1, 1), (2, .iconst 4, 1), (3, .invokestatic 58, 3), (6, .ifCond .ne 9, 3), (9, .aload_n 0, 1), (10, .iconst 0, 1), (11, .invokevirtual 106, 3), (14, .ireturn, 1), (15, .aload_n 0, 1), (16, .getfield 203, 3), (19, .iload_n 2, 1), (20, .iadd, 1), (21, .bipush 120, 2), (23, .if_icmp .le 9, 3), (26, .aload_n 0, 1), (27, .iconst 1, 1), (28, .invokevirtual 106, 3), (31, .ireturn, 1), (32, .iload_n 2, 1), (33, .iconst 1, 1), (34, .isub, 1), (35, .istore_n 3, 1), (36, .iload_n 3, 1), (37, .ifCond .lt 38, 3), (40, .aload_n 0, 1), (41, .getfield 25, 3), (44, .aload_n 0, 1), (45, .getfield 203, 3), (48, .iload_n 1, 1), (49, .bipush 8, 2), (51, .iload_n 3, 1), (52, .imul, 1), (53, .ishr, 1), (54, .sipush 255, 3), (57, .iand, 1), (58, .iastore, 1), (59, .aload_n 0, 1), (60, .dup, 1), (61, .getfield 203, 3), (64, .iconst 1, 1), (65, .iadd, 1), (66, .putfield 203, 3), (69, .iinc 3 (-1), 3), (72, .goto (-36), 3), (75, .aload_n 0, 1), (76, .getfield 203, 3), (79, .ireturn, 1)]
set_option maxRecDepth 20000 in
theorem DX8_feed_0 : TX8_feed_0.all (fun q => decide (decode cX8_feed q.1 = .ok q.2)) = true := by decide +kernel
def TX8_wipe_0 : dT := [(0, .aload_n 0, 1), (1, .getfield 203, 3), (4, .istore_n 1, 1), (5, .aload_n 0, 1), (6, .iconst 0, 1), (7, .putfield 203, 3), (10, .iload_n 1, 1), (11, .ireturn, 1)]
set_option maxRecDepth 20000 in
theorem DX8_wipe_0 : TX8_wipe_0.all (fun q => decide (decode cX8_wipe q.1 = .ok q.2)) = true := by decide +kernel
def TX8_isLetter_0 : dT := [(0, .iload_n 0, 1), (1, .bipush 97, 2), (3, .bipush 122, 2), (5, .invokestatic 58, 3), (8, .ireturn, 1)]
set_option maxRecDepth 20000 in
theorem DX8_isLetter_0 : TX8_isLetter_0.all (fun q => decide (decode cX8_isLetter q.1 = .ok q.2)) = true := by decide +kernel
def TX8_isDigit_0 : dT := [(0, .iload_n 0, 1), (1, .bipush 48, 2), (3, .bipush 57, 2), (5, .invokestatic 58, 3), (8, .ireturn, 1)]
set_option maxRecDepth 20000 in
theorem DX8_isDigit_0 : TX8_isDigit_0.all (fun q => decide (decode cX8_isDigit q.1 = .ok q.2)) = true := by decide +kernel
def TX8_nextToken_0 : dT := [(0, .aload_n 0, 1), (1, .aload_n 0, 1), (2, .getfield 206, 3), (5, .putfield 209, 3), (8, .aload_n 0, 1), (9, .getfield 209, 3), (12, .aload_n 0, 1), (13, .getfield 203, 3), (16, .if_icmp .ge 30, 3), (19, .aload_n 0, 1), (20, .getfield 25, 3), (23, .aload_n 0, 1), (24, .getfield 209, 3), (27, .iaload, 1), (28, .bipush 32, 2), (30, .if_icmp .ne 16, 3), (33, .aload_n 0, 1), (34, .dup, 1), (35, .getfield 209, 3), (38, .iconst 1, 1), (39, .iadd, 1), (40, .putfield 209, 3), (43, .goto (-35), 3), (46, .aload_n 0, 1), (47, .aload_n 0, 1), (48, .getfield 209, 3), (51, .putfield 206, 3), (54, .aload_n 0, 1), (55, .lconst 0, 1), (56, .putfield 212, 3), (59, .aload_n 0, 1), (60, .getfield 209, 3), (63, .aload_n 0, 1), (64, .getfield 203, 3), (67, .if_icmp .ne 11, 3), (70, .aload_n 0, 1), (71, .iconst 0, 1), (72, .putfield 216, 3), (75, .goto 262, 3), (78, .aload_n 0, 1), (79, .getfield 25, 3), (82, .aload_n 0, 1), (83, .getfield 209, 3), (86, .iaload, 1), (87, .invokestatic 219, 3), (90, .ifCond .eq 92, 3), (93, .aload_n 0, 1), (94, .iconst 1, 1), (95, .putfield 216, 3), (98, .aload_n 0, 1), (99, .getfield 206, 3), (102, .aload_n 0, 1), (103, .getfield 203, 3), (106, .if_icmp .ge 231, 3), (109, .aload_n 0, 1), (110, .getfield 25, 3), (113, .aload_n 0, 1), (114, .getfield 206, 3), (117, .iaload, 1), (118, .invokestatic 219, 3), (121, .ifCond .eq 216, 3), (124, .aload_n 0, 1), (125, .aload_n 0, 1), (126, .getfield 212, 3), (129, .ldc2_w 222, 3), (132, .lcmp, 1), (133, .ifCond .le 10, 3), (136, .aload_n 0, 1), (137, .getfield 212, 3), (140, .goto 26, 3), (143, .aload_n 0, 1), (144, .getfield 212, 3), (147, .ldc2_w 224, 3), (150, .lmul, 1), (151, .aload_n 0, 1), (152, .getfield 25, 3), (155, .aload_n 0, 1), (156, .getfield 206, 3), (159, .iaload, 1), (160, .i2l, 1), (161, .ladd, 1), (162, .ldc2_w 226, 3), (165, .lsub, 1), (166, .putfield 212, 3), (169, .aload_n 0, 1), (170, .dup, 1), (171, .getfield 206, 3), (174, .iconst 1, 1), (175, .iadd, 1), (176, .putfield 206, 3), (179, .goto (-81), 3), (182, .aload_n 0, 1), (183, .getfield 25, 3), (186, .aload_n 0, 1), (187, .getfield 209, 3), (190, .iaload, 1), (191, .invokestatic 228, 3), (194, .ifCond .eq 110, 3), (197, .aload_n 0, 1), (198, .getfield 206, 3), (201, .aload_n 0, 1), (202, .getfield 203, 3), (205, .if_icmp .ge 76, 3), (208, .aload_n 0, 1), (209, .getfield 25, 3), (212, .aload_n 0, 1), (213, .getfield 206, 3), (216, .iaload, 1), (217, .invokestatic 228, 3), (220, .ifCond .eq 61, 3), (223, .aload_n 0, 1), (224, .aload_n 0, 1), (225, .getfield 212, 3), (228, .ldc2_w 231, 3), (231, .lcmp, 1), (232, .ifCond .le 10, 3), (235, .aload_n 0, 1), (236, .getfield 212, 3), (239, .goto 26, 3), (242, .aload_n 0, 1)]
set_option maxRecDepth 20000 in
theorem DX8_nextToken_0 : TX8_nextToken_0.all (fun q => decide (decode cX8_nextToken q.1 = .ok q.2)) = true := by decide +kernel
def TX8_nextToken_1 : dT := [(243, .getfield 212, 3), (246, .ldc2_w 233, 3), (249, .lmul, 1), (250, .aload_n 0, 1), (251, .getfield 25, 3), (254, .aload_n 0, 1), (255, .getfield 206, 3), (258, .iaload, 1), (259, .i2l, 1), (260, .ladd, 1), (261, .ldc2_w 235, 3), (264, .lsub, 1), (265, .putfield 212, 3), (268, .aload_n 0, 1), (269, .dup, 1), (270, .getfield 206, 3), (273, .iconst 1, 1), (274, .iadd, 1), (275, .putfield 206, 3), (278, .goto (-81), 3), (281, .aload_n 0, 1), (282, .aload_n 0, 1), (283, .getfield 212, 3), (286, .ldc2_w 231, 3), (289, .lcmp, 1), (290, .ifCond .le 7, 3), (293, .iconst 4, 1), (294, .goto 4, 3), (297, .iconst 2, 1), (298, .putfield 216, 3), (301, .goto 36, 3), (304, .aload_n 0, 1), (305, .aload_n 0, 1), (306, .getfield 25, 3), (309, .aload_n 0, 1), (310, .getfield 209, 3), (313, .iaload, 1), (314, .bipush 59, 2), (316, .if_icmp .ne 7, 3), (319, .iconst 3, 1), (320, .goto 4, 3), (323, .iconst 4, 1), (324, .putfield 216, 3), (327, .aload_n 0, 1), (328, .dup, 1), (329, .getfield 206, 3), (332, .iconst 1, 1), (333, .iadd, 1), (334, .putfield 206, 3), (337, .return_, 1)]
set_option maxRecDepth 20000 in
theorem DX8_nextToken_1 : TX8_nextToken_1.all (fun q => decide (decode cX8_nextToken q.1 = .ok q.2)) = true := by decide +kernel
def TX8_wordOf_0 : dT := [(0, .iconst (-1), 1), (1, .istore_n 2, 1), (2, .iconst 0, 1), (3, .istore_n 3, 1), (4, .iload_n 3, 1), (5, .aload_n 1, 1), (6, .arraylength, 1), (7, .bipush 8, 2), (9, .idiv, 1), (10, .if_icmp .ge 94, 3), (13, .aload_n 0, 1), (14, .getfield 216, 3), (17, .iconst 1, 1), (18, .if_icmp .ne 86, 3), (21, .lconst 0, 1), (22, .lstore 4, 2), (24, .iconst 0, 1), (25, .istore 6, 2), (27, .iload 6, 2), (29, .bipush 8, 2), (31, .if_icmp .ge 51, 3), (34, .aload_n 1, 1), (35, .bipush 8, 2), (37, .iload_n 3, 1), (38, .imul, 1), (39, .iload 6, 2), (41, .iadd, 1), (42, .caload, 1), (43, .bipush 32, 2), (45, .if_icmp .ne 8, 3), (48, .lload 4, 2), (50, .goto 24, 3), (53, .lload 4, 2), (55, .ldc2_w 224, 3), (58, .lmul, 1), (59, .aload_n 1, 1), (60, .bipush 8, 2), (62, .iload_n 3, 1), (63, .imul, 1), (64, .iload 6, 2), (66, .iadd, 1), (67, .caload, 1), (68, .i2l, 1), (69, .ladd, 1), (70, .ldc2_w 226, 3), (73, .lsub, 1), (74, .lstore 4, 2), (76, .iinc 6 1, 3), (79, .goto (-52), 3), (82, .lload 4, 2), (84, .aload_n 0, 1), (85, .getfield 212, 3), (88, .lcmp, 1), (89, .ifCond .ne 7, 3), (92, .iload_n 3, 1), (93, .goto 4, 3), (96, .iload_n 2, 1), (97, .istore_n 2, 1), (98, .iinc 3 1, 3), (101, .goto (-97), 3), (104, .iload_n 2, 1), (105, .ireturn, 1)]
set_option maxRecDepth 20000 in
theorem DX8_wordOf_0 : TX8_wordOf_0.all (fun q => decide (decode cX8_wordOf q.1 = .ok q.2)) = true := by decide +kernel
def TX8_takesNumber_0 : dT := [(0, .aload_n 0, 1), (1, .getfield 216, 3), (4, .iconst 2, 1), (5, .if_icmp .ne 24, 3), (8, .aload_n 0, 1), (9, .getfield 212, 3), (12, .l2i, 1), (13, .iload_n 1, 1), (14, .iload_n 2, 1), (15, .invokestatic 58, 3), (18, .ifCond .eq 11, 3), (21, .aload_n 0, 1), (22, .getfield 212, 3), (25, .l2i, 1), (26, .goto 4, 3), (29, .iconst (-1), 1), (30, .istore_n 3, 1), (31, .iload_n 3, 1), (32, .ifCond .lt 7, 3), (35, .aload_n 0, 1), (36, .invokevirtual 237, 3), (39, .iload_n 3, 1), (40, .ireturn, 1)]
set_option maxRecDepth 20000 in
theorem DX8_takesNumber_0 : TX8_takesNumber_0.all (fun q => decide (decode cX8_takesNumber q.1 = .ok q.2)) = true := by decide +kernel
def TX8_readsThing_0 : dT := [(0, .aload_n 0, 1), (1, .getfield 9, 3), (4, .iconst 1, 1), (5, .iaload, 1), (6, .bipush 8, 2), (8, .if_icmp .ne 5, 3), (11, .iconst 0, 1), (12, .ireturn, 1), (13, .aload_n 0, 1), (14, .getfield 9, 3), (17, .iconst 1, 1), (18, .iaload, 1), (19, .istore_n 2, 1), (20, .aload_n 0, 1), (21, .iload_n 1, 1), (22, .iconst 0, 1), (23, .invokevirtual 112, 3), (26, .aload_n 0, 1), (27, .invokevirtual 237, 3), (30, .iconst 0, 1), (31, .istore_n 3, 1), (32, .iload_n 3, 1), (33, .iconst 2, 1), (34, .if_icmp .ge 60, 3), (37, .aload_n 0, 1), (38, .aload_n 0, 1), (39, .getfield 32, 3), (42, .invokevirtual 240, 3), (45, .iload_n 3, 1), (46, .if_icmp .ne 42, 3), (49, .aload_n 0, 1), (50, .invokevirtual 237, 3), (53, .aload_n 0, 1), (54, .iload_n 3, 1), (55, .iload_n 3, 1), (56, .ifCond .ne 8, 3), (59, .bipush 15, 2), (61, .goto 5, 3), (64, .bipush 99, 2), (66, .invokevirtual 244, 3), (69, .istore 4, 2), (71, .iload 4, 2), (73, .ifCond .ge 5, 3), (76, .iconst 0, 1), (77, .ireturn, 1), (78, .aload_n 0, 1), (79, .iload_n 2, 1), (80, .iconst 1, 1), (81, .iload_n 3, 1), (82, .iadd, 1), (83, .iload 4, 2), (85, .invokevirtual 95, 3), (88, .iinc 3 1, 3), (91, .goto (-59), 3), (94, .iconst 1, 1), (95, .ireturn, 1)]
set_option maxRecDepth 20000 in
theorem DX8_readsThing_0 : TX8_readsThing_0.all (fun q => decide (decode cX8_readsThing q.1 = .ok q.2)) = true := by decide +kernel
def TX8_readsPond_0 : dT := [(0, .aload_n 0, 1), (1, .iconst 0, 1), (2, .bipush 15, 2), (4, .invokevirtual 244, 3), (7, .istore_n 1, 1), (8, .iload_n 1, 1), (9, .ifCond .ge 5, 3), (12, .iconst 0, 1), (13, .ireturn, 1), (14, .iconst 0, 1), (15, .istore_n 2, 1), (16, .iload_n 2, 1), (17, .bipush 6, 2), (19, .if_icmp .ge 132, 3), (22, .aload_n 0, 1), (23, .aload_n 0, 1), (24, .getfield 38, 3), (27, .invokevirtual 240, 3), (30, .iload_n 2, 1), (31, .if_icmp .ne 114, 3), (34, .aload_n 0, 1), (35, .invokevirtual 237, 3), (38, .iload_n 2, 1), (39, .ifCond .ne 25, 3), (42, .aload_n 0, 1), (43, .getfield 216, 3), (46, .iconst 2, 1), (47, .if_icmp .ne 17, 3), (50, .aload_n 0, 1), (51, .getfield 212, 3), (54, .iload_n 1, 1), (55, .i2l, 1), (56, .lcmp, 1), (57, .ifCond .ne 7, 3), (60, .iconst 1, 1), (61, .goto 4, 3), (64, .iconst 0, 1), (65, .istore_n 3, 1), (66, .iload_n 2, 1), (67, .iconst 3, 1), (68, .if_icmp .ne 7, 3), (71, .iconst 1, 1), (72, .goto 56, 3), (75, .iload_n 3, 1), (76, .ifCond .eq 7, 3), (79, .iconst (-1), 1), (80, .goto 48, 3), (83, .aload_n 0, 1), (84, .iload_n 2, 1), (85, .iconst 1, 1), (86, .if_icmp .ne 7, 3), (89, .iconst 1, 1), (90, .goto 4, 3), (93, .iconst 0, 1), (94, .iload_n 2, 1), (95, .iconst 1, 1), (96, .if_icmp .ne 8, 3), (99, .bipush 9, 2), (101, .goto 24, 3), (104, .iload_n 2, 1), (105, .iconst 2, 1), (106, .if_icmp .ne 7, 3), (109, .iconst 3, 1), (110, .goto 15, 3), (113, .iload_n 2, 1), (114, .iconst 5, 1), (115, .if_icmp .ne 8, 3), (118, .bipush 99, 2), (120, .goto 5, 3), (123, .bipush 15, 2), (125, .invokevirtual 244, 3), (128, .istore 4, 2), (130, .iload 4, 2), (132, .ifCond .ge 5, 3), (135, .iconst 0, 1), (136, .ireturn, 1), (137, .aload_n 0, 1), (138, .iload_n 1, 1), (139, .iload_n 2, 1), (140, .iload 4, 2), (142, .invokevirtual 53, 3), (145, .iinc 2 1, 3), (148, .goto (-132), 3), (151, .iconst 1, 1), (152, .ireturn, 1)]
set_option maxRecDepth 20000 in
theorem DX8_readsPond_0 : TX8_readsPond_0.all (fun q => decide (decode cX8_readsPond q.1 = .ok q.2)) = true := by decide +kernel
def TX8_readsItem_0 : dT := [(0, .aload_n 0, 1), (1, .aload_n 0, 1), (2, .getfield 28, 3), (5, .invokevirtual 240, 3), (8, .istore_n 1, 1), (9, .iload_n 1, 1), (10, .ifCond .lt 9, 3), (13, .aload_n 0, 1), (14, .iload_n 1, 1), (15, .invokevirtual 247, 3), (18, .ireturn, 1), (19, .aload_n 0, 1), (20, .aload_n 0, 1), (21, .getfield 35, 3), (24, .invokevirtual 240, 3), (27, .istore_n 2, 1), (28, .iload_n 2, 1), (29, .ifCond .ge 5, 3), (32, .iconst 0, 1), (33, .ireturn, 1), (34, .aload_n 0, 1), (35, .invokevirtual 237, 3), (38, .iload_n 2, 1), (39, .ifCond .ne 8, 3), (42, .aload_n 0, 1), (43, .invokevirtual 250, 3), (46, .ireturn, 1), (47, .aload_n 0, 1), (48, .getfield 9, 3), (51, .iconst 3, 1), (52, .iload_n 2, 1), (53, .iconst 1, 1), (54, .if_icmp .ne 7, 3), (57, .iconst 1, 1), (58, .goto 4, 3), (61, .iconst 0, 1), (62, .iastore, 1), (63, .iconst 1, 1), (64, .ireturn, 1)]
set_option maxRecDepth 20000 in
theorem DX8_readsItem_0 : TX8_readsItem_0.all (fun q => decide (decode cX8_readsItem q.1 = .ok q.2)) = true := by decide +kernel
def TX8_text_0 : dT := [(0, .aload_n 0, 1), (1, .invokevirtual 165, 3), (4, .aload_n 0, 1), (5, .iconst 0, 1), (6, .putfield 206, 3), (9, .aload_n 0, 1), (10, .invokevirtual 237, 3), (13, .iconst 1, 1), (14, .istore_n 1, 1), (15, .aload_n 0, 1), (16, .invokevirtual 254, 3), (19, .istore_n 2, 1), (20, .iload_n 2, 1), (21, .ifCond .eq 26, 3), (24, .aload_n 0, 1), (25, .getfield 216, 3), (28, .iconst 3, 1), (29, .if_icmp .ne 18, 3), (32, .aload_n 0, 1), (33, .invokevirtual 237, 3), (36, .aload_n 0, 1), (37, .invokevirtual 254, 3), (40, .istore_n 2, 1), (41, .iinc 1 1, 3), (44, .goto (-24), 3), (47, .iload_n 2, 1), (48, .ifCond .eq 14, 3), (51, .aload_n 0, 1), (52, .getfield 216, 3), (55, .ifCond .ne 7, 3), (58, .iconst 1, 1), (59, .goto 4, 3), (62, .iconst 0, 1), (63, .istore_n 2, 1), (64, .aload_n 0, 1), (65, .iconst 0, 1), (66, .putfield 203, 3), (69, .iload_n 2, 1), (70, .ifCond .ne 14, 3), (73, .aload_n 0, 1), (74, .invokevirtual 168, 3), (77, .iconst (-1), 1), (78, .aload_n 0, 1), (79, .getfield 209, 3), (82, .isub, 1), (83, .ireturn, 1), (84, .iload_n 1, 1), (85, .ireturn, 1)]
set_option maxRecDepth 20000 in
theorem DX8_text_0 : TX8_text_0.all (fun q => decide (decode cX8_text q.1 = .ok q.2)) = true := by decide +kernel
def TX8_isSpot_0 : dT := [(0, .iload_n 0, 1), (1, .iconst 0, 1), (2, .bipush 9, 2), (4, .invokestatic 58, 3), (7, .ireturn, 1)]
set_option maxRecDepth 20000 in
theorem DX8_isSpot_0 : TX8_isSpot_0.all (fun q => decide (decode cX8_isSpot q.1 = .ok q.2)) = true := by decide +kernel
def TX8_hold_0 : dT := [(0, .iload_n 1, 1), (1, .invokestatic 257, 3), (4, .ifCond .eq 16, 3), (7, .iload_n 2, 1), (8, .iconst (-1), 1), (9, .if_icmp .eq 17, 3), (12, .aload_n 0, 1), (13, .iload_n 2, 1), (14, .invokevirtual 116, 3), (17, .ifCond .ne 9, 3), (20, .aload_n 0, 1), (21, .iconst 0, 1), (22, .invokevirtual 106, 3), (25, .ireturn, 1), (26, .aload_n 0, 1), (27, .getfield 9, 3), (30, .bipush 124, 2), (32, .iload_n 1, 1), (33, .iadd, 1), (34, .iload_n 2, 1), (35, .iastore, 1), (36, .iconst 1, 1), (37, .ireturn, 1)]
set_option maxRecDepth 20000 in
theorem DX8_hold_0 : TX8_hold_0.all (fun q => decide (decode cX8_hold q.1 = .ok q.2)) = true := by decide +kernel
def TX8_above_0 : dT := [(0, .iload_n 0, 1), (1, .iconst 3, 1), (2, .if_icmp .ne 7, 3), (5, .iconst 2, 1), (6, .goto 23, 3), (9, .iload_n 0, 1), (10, .iconst 4, 1), (11, .if_icmp .ne 7, 3), (14, .iconst 3, 1), (15, .goto 14, 3), (18, .iload_n 0, 1), (19, .bipush 6, 2), (21, .if_icmp .ne 7, 3), (24, .iconst 1, 1), (25, .goto 4, 3), (28, .iconst 0, 1), (29, .ireturn, 1)]
set_option maxRecDepth 20000 in
theorem DX8_above_0 : TX8_above_0.all (fun q => decide (decode cX8_above q.1 = .ok q.2)) = true := by decide +kernel
def TX8_as_0 : dT := [(0, .iload_n 1, 1), (1, .invokestatic 257, 3), (4, .ifCond .eq 13, 3), (7, .iload_n 2, 1), (8, .iconst 0, 1), (9, .bipush 6, 2), (11, .invokestatic 58, 3), (14, .ifCond .ne 9, 3), (17, .aload_n 0, 1), (18, .iconst 0, 1), (19, .invokevirtual 106, 3), (22, .ireturn, 1), (23, .aload_n 0, 1), (24, .getfield 9, 3), (27, .bipush 124, 2), (29, .iload_n 1, 1), (30, .iadd, 1), (31, .iaload, 1), (32, .istore_n 3, 1), (33, .iload_n 3, 1), (34, .ifCond .ge 9, 3), (37, .aload_n 0, 1), (38, .iconst 5, 1), (39, .invokevirtual 106, 3), (42, .ireturn, 1), (43, .aload_n 0, 1), (44, .iload_n 3, 1), (45, .iconst 0, 1), (46, .invokevirtual 62, 3), (49, .istore 4, 2), (51, .iload 4, 2), (53, .iload_n 2, 1), (54, .if_icmp .eq 18, 3), (57, .iload 4, 2), (59, .ifCond .eq 13, 3), (62, .iload 4, 2), (64, .invokestatic 260, 3), (67, .istore 4, 2), (69, .goto (-18), 3), (72, .iload 4, 2), (74, .iload_n 2, 1), (75, .if_icmp .ne 7, 3), (78, .iload_n 3, 1), (79, .goto 8, 3), (82, .aload_n 0, 1), (83, .iconst 2, 1), (84, .invokevirtual 106, 3), (87, .ireturn, 1)]
set_option maxRecDepth 20000 in
theorem DX8_as_0 : TX8_as_0.all (fun q => decide (decode cX8_as q.1 = .ok q.2)) = true := by decide +kernel
def TX8_sheet_0 : dT := [(0, .iload_n 1, 1), (1, .invokestatic 181, 3), (4, .ifCond .eq 25, 3), (7, .iload_n 2, 1), (8, .ifCond .eq 27, 3), (11, .iload_n 2, 1), (12, .bipush 8, 2), (14, .if_icmp .eq 21, 3), (17, .iload_n 2, 1), (18, .bipush 16, 2), (20, .if_icmp .eq 15, 3), (23, .iload_n 2, 1), (24, .bipush 32, 2), (26, .if_icmp .eq 9, 3), (29, .aload_n 0, 1), (30, .iconst 0, 1), (31, .invokevirtual 106, 3), (34, .ireturn, 1), (35, .iload_n 3, 1), (36, .ifCond .ge 10, 3), (39, .aload_n 0, 1), (40, .bipush 6, 2), (42, .invokevirtual 106, 3), (45, .ireturn, 1), (46, .iload_n 3, 1), (47, .bipush 40, 2), (49, .if_icmp .le 9, 3), (52, .aload_n 0, 1), (53, .iconst 0, 1), (54, .invokevirtual 106, 3), (57, .ireturn, 1), (58, .aload_n 0, 1), (59, .getfield 41, 3), (62, .iload_n 1, 1), (63, .iload_n 2, 1), (64, .iastore, 1), (65, .aload_n 0, 1), (66, .getfield 44, 3), (69, .iload_n 1, 1), (70, .iload_n 2, 1), (71, .ifCond .ne 7, 3), (74, .iconst 0, 1), (75, .goto 4, 3), (78, .iload_n 3, 1), (79, .iastore, 1), (80, .iconst 0, 1), (81, .istore 4, 2), (83, .iload 4, 2), (85, .bipush 40, 2), (87, .if_icmp .ge 22, 3), (90, .aload_n 0, 1), (91, .getfield 47, 3), (94, .bipush 40, 2), (96, .iload_n 1, 1), (97, .imul, 1), (98, .iload 4, 2), (100, .iadd, 1), (101, .iconst 0, 1), (102, .iastore, 1), (103, .iinc 4 1, 3), (106, .goto (-23), 3), (109, .aload_n 0, 1), (110, .getfield 44, 3), (113, .iload_n 1, 1), (114, .iaload, 1), (115, .ireturn, 1)]
set_option maxRecDepth 20000 in
theorem DX8_sheet_0 : TX8_sheet_0.all (fun q => decide (decode cX8_sheet q.1 = .ok q.2)) = true := by decide +kernel
def TX8_write_0 : dT := [(0, .aload_n 0, 1), (1, .iload_n 1, 1), (2, .invokevirtual 184, 3), (5, .istore 4, 2), (7, .iload 4, 2), (9, .ifCond .ge 22, 3), (12, .iload_n 2, 1), (13, .iconst 0, 1), (14, .aload_n 0, 1), (15, .getfield 44, 3), (18, .iload_n 1, 1), (19, .iaload, 1), (20, .iconst 1, 1), (21, .isub, 1), (22, .invokestatic 58, 3), (25, .ifCond .ne 6, 3), (28, .iconst 0, 1), (29, .istore 4, 2), (31, .iload 4, 2), (33, .ifCond .lt 10, 3), (36, .aload_n 0, 1), (37, .iload 4, 2), (39, .invokevirtual 106, 3), (42, .ireturn, 1), (43, .aload_n 0, 1), (44, .getfield 47, 3), (47, .bipush 40, 2), (49, .iload_n 1, 1), (50, .imul, 1), (51, .iload_n 2, 1), (52, .iadd, 1), (53, .aload_n 0, 1), (54, .getfield 41, 3), (57, .iload_n 1, 1), (58, .iaload, 1), (59, .bipush 8, 2), (61, .if_icmp .ne 8, 3), (64, .iload_n 3, 1), (65, .i2b, 1), (66, .goto 20, 3), (69, .aload_n 0, 1), (70, .getfield 41, 3), (73, .iload_n 1, 1), (74, .iaload, 1), (75, .bipush 16, 2), (77, .if_icmp .ne 8, 3), (80, .iload_n 3, 1), (81, .i2s, 1), (82, .goto 4, 3), (85, .iload_n 3, 1), (86, .iastore, 1), (87, .iconst 1, 1), (88, .ireturn, 1)]
set_option maxRecDepth 20000 in
theorem DX8_write_0 : TX8_write_0.all (fun q => decide (decode cX8_write q.1 = .ok q.2)) = true := by decide +kernel
def TX8_copy_0 : dT := [(0, .iload_n 1, 1), (1, .invokestatic 181, 3), (4, .ifCond .eq 10, 3), (7, .iload_n 3, 1), (8, .invokestatic 181, 3), (11, .ifCond .ne 9, 3), (14, .aload_n 0, 1), (15, .iconst 0, 1), (16, .invokevirtual 106, 3), (19, .ireturn, 1), (20, .aload_n 0, 1), (21, .getfield 41, 3), (24, .iload_n 1, 1), (25, .iaload, 1), (26, .ifCond .eq 12, 3), (29, .aload_n 0, 1), (30, .getfield 41, 3), (33, .iload_n 3, 1), (34, .iaload, 1), (35, .ifCond .ne 9, 3), (38, .aload_n 0, 1), (39, .iconst 5, 1), (40, .invokevirtual 106, 3), (43, .ireturn, 1), (44, .aload_n 0, 1), (45, .getfield 41, 3), (48, .iload_n 1, 1), (49, .iaload, 1), (50, .aload_n 0, 1), (51, .getfield 41, 3), (54, .iload_n 3, 1), (55, .iaload, 1), (56, .if_icmp .eq 9, 3), (59, .aload_n 0, 1), (60, .iconst 2, 1), (61, .invokevirtual 106, 3), (64, .ireturn, 1), (65, .iload 5, 2), (67, .ifCond .lt 39, 3), (70, .iload_n 2, 1), (71, .ifCond .lt 35, 3), (74, .iload 4, 2), (76, .ifCond .lt 30, 3), (79, .iload_n 2, 1), (80, .aload_n 0, 1), (81, .getfield 44, 3), (84, .iload_n 1, 1), (85, .iaload, 1), (86, .iload 5, 2), (88, .isub, 1), (89, .if_icmp .gt 17, 3), (92, .iload 4, 2), (94, .aload_n 0, 1), (95, .getfield 44, 3), (98, .iload_n 3, 1), (99, .iaload, 1), (100, .iload 5, 2), (102, .isub, 1), (103, .if_icmp .le 9, 3), (106, .aload_n 0, 1), (107, .iconst 0, 1), (108, .invokevirtual 106, 3), (111, .ireturn, 1), (112, .iconst 0, 1), (113, .istore 6, 2), (115, .iload 6, 2), (117, .iload 5, 2), (119, .if_icmp .ge 30, 3), (122, .aload_n 0, 1), (123, .getfield 50, 3), (126, .iload 6, 2), (128, .aload_n 0, 1), (129, .getfield 47, 3), (132, .bipush 40, 2), (134, .iload_n 1, 1), (135, .imul, 1), (136, .iload_n 2, 1), (137, .iadd, 1), (138, .iload 6, 2), (140, .iadd, 1), (141, .iaload, 1), (142, .iastore, 1), (143, .iinc 6 1, 3), (146, .goto (-31), 3), (149, .iconst 0, 1), (150, .istore 6, 2), (152, .iload 6, 2), (154, .iload 5, 2), (156, .if_icmp .ge 31, 3), (159, .aload_n 0, 1), (160, .getfield 47, 3), (163, .bipush 40, 2), (165, .iload_n 3, 1), (166, .imul, 1), (167, .iload 4, 2), (169, .iadd, 1), (170, .iload 6, 2), (172, .iadd, 1), (173, .aload_n 0, 1), (174, .getfield 50, 3), (177, .iload 6, 2), (179, .iaload, 1), (180, .iastore, 1), (181, .iinc 6 1, 3), (184, .goto (-32), 3), (187, .iload 5, 2), (189, .ireturn, 1)]
set_option maxRecDepth 20000 in
theorem DX8_copy_0 : TX8_copy_0.all (fun q => decide (decode cX8_copy q.1 = .ok q.2)) = true := by decide +kernel
def TX8_load_0 : dT := [(0, .aload_n 0, 1), (1, .iload_n 1, 1), (2, .invokevirtual 184, 3), (5, .istore_n 2, 1), (6, .iload_n 2, 1), (7, .ifCond .lt 9, 3), (10, .aload_n 0, 1), (11, .iload_n 2, 1), (12, .invokevirtual 106, 3), (15, .ireturn, 1), (16, .iconst 0, 1), (17, .istore_n 3, 1), (18, .iload_n 3, 1), (19, .aload_n 0, 1), (20, .getfield 44, 3), (23, .iload_n 1, 1), (24, .iaload, 1), (25, .if_icmp .ge 42, 3), (28, .iload_n 3, 1), (29, .bipush 16, 2), (31, .if_icmp .ge 36, 3), (34, .aload_n 0, 1), (35, .iload_n 1, 1), (36, .iload_n 3, 1), (37, .invokevirtual 187, 3), (40, .iconst 0, 1), (41, .bipush 99, 2), (43, .invokestatic 58, 3), (46, .ifCond .eq 21, 3), (49, .aload_n 0, 1), (50, .iload_n 3, 1), (51, .iconst 5, 1), (52, .aload_n 0, 1), (53, .iload_n 1, 1), (54, .iload_n 3, 1), (55, .invokevirtual 187, 3), (58, .invokevirtual 53, 3), (61, .iinc 3 1, 3), (64, .goto (-46), 3), (67, .iload_n 3, 1), (68, .ireturn, 1)]
set_option maxRecDepth 20000 in
theorem DX8_load_0 : TX8_load_0.all (fun q => decide (decode cX8_load q.1 = .ok q.2)) = true := by decide +kernel
def TX8_judge_0 : dT := [(0, .aload_n 0, 1), (1, .iload_n 1, 1), (2, .invokevirtual 184, 3), (5, .istore_n 2, 1), (6, .iload_n 2, 1), (7, .ifCond .lt 9, 3), (10, .aload_n 0, 1), (11, .iload_n 2, 1), (12, .invokevirtual 106, 3), (15, .ireturn, 1), (16, .iconst 0, 1), (17, .istore_n 3, 1), (18, .iload_n 3, 1), (19, .aload_n 0, 1), (20, .getfield 44, 3), (23, .iload_n 1, 1), (24, .iaload, 1), (25, .if_icmp .ge 63, 3), (28, .aload_n 0, 1), (29, .iload_n 1, 1), (30, .iload_n 3, 1), (31, .invokevirtual 187, 3), (34, .invokestatic 102, 3), (37, .ifCond .eq 33, 3), (40, .iload_n 3, 1), (41, .ifCond .eq 25, 3), (44, .aload_n 0, 1), (45, .aload_n 0, 1), (46, .iload_n 1, 1), (47, .iload_n 3, 1), (48, .iconst 1, 1), (49, .isub, 1), (50, .invokevirtual 187, 3), (53, .iconst 0, 1), (54, .invokevirtual 66, 3), (57, .aload_n 0, 1), (58, .iload_n 1, 1), (59, .iload_n 3, 1), (60, .invokevirtual 187, 3), (63, .if_icmp .ne 7, 3), (66, .iconst 1, 1), (67, .goto 4, 3), (70, .iconst 0, 1), (71, .istore 4, 2), (73, .iload 4, 2), (75, .ifCond .ne 7, 3), (78, .iconst 1, 1), (79, .iload_n 3, 1), (80, .iadd, 1), (81, .ireturn, 1), (82, .iinc 3 1, 3), (85, .goto (-67), 3), (88, .iconst 0, 1), (89, .ireturn, 1)]
set_option maxRecDepth 20000 in
theorem DX8_judge_0 : TX8_judge_0.all (fun q => decide (decode cX8_judge q.1 = .ok q.2)) = true := by decide +kernel
def TX8_image_0 : dT := [(0, .iconst 0, 1), (1, .istore_n 1, 1), (2, .iload_n 1, 1), (3, .sipush 134, 3), (6, .if_icmp .ge 21, 3), (9, .aload_n 0, 1), (10, .getfield 13, 3), (13, .iload_n 1, 1), (14, .aload_n 0, 1), (15, .getfield 9, 3), (18, .iload_n 1, 1), (19, .iaload, 1), (20, .iastore, 1), (21, .iinc 1 1, 3), (24, .goto (-22), 3), (27, .aload_n 0, 1), (28, .iconst 1, 1), (29, .putfield 263, 3), (32, .iconst 1, 1), (33, .ireturn, 1)]
set_option maxRecDepth 20000 in
theorem DX8_image_0 : TX8_image_0.all (fun q => decide (decode cX8_image q.1 = .ok q.2)) = true := by decide +kernel
def TX8_undo_0 : dT := [(0, .aload_n 0, 1), (1, .getfield 263, 3), (4, .ifCond .ne 9, 3), (7, .aload_n 0, 1), (8, .iconst 3, 1), (9, .invokevirtual 106, 3), (12, .ireturn, 1), (13, .iconst 0, 1), (14, .istore_n 1, 1), (15, .iload_n 1, 1), (16, .sipush 134, 3), (19, .if_icmp .ge 21, 3), (22, .aload_n 0, 1), (23, .getfield 9, 3), (26, .iload_n 1, 1), (27, .aload_n 0, 1), (28, .getfield 13, 3), (31, .iload_n 1, 1), (32, .iaload, 1), (33, .iastore, 1), (34, .iinc 1 1, 3), (37, .goto (-22), 3), (40, .aload_n 0, 1), (41, .getfield 9, 3), (44, .iconst 0, 1), (45, .iaload, 1), (46, .ireturn, 1)]
set_option maxRecDepth 20000 in
theorem DX8_undo_0 : TX8_undo_0.all (fun q => decide (decode cX8_undo q.1 = .ok q.2)) = true := by decide +kernel
def TX8_tear_0 : dT := [(0, .aload_n 0, 1), (1, .getfield 263, 3), (4, .ifCond .eq 7, 3), (7, .iconst 1, 1), (8, .goto 4, 3), (11, .iconst 0, 1), (12, .istore_n 1, 1), (13, .aload_n 0, 1), (14, .iconst 0, 1), (15, .putfield 263, 3), (18, .iload_n 1, 1), (19, .ireturn, 1)]
set_option maxRecDepth 20000 in
theorem DX8_tear_0 : TX8_tear_0.all (fun q => decide (decode cX8_tear q.1 = .ok q.2)) = true := by decide +kernel
def TX8_count_0 : dT := [(0, .iconst 0, 1), (1, .istore_n 2, 1), (2, .iload_n 1, 1), (3, .tableswitch 130 0 7 #[45, 52, 59, 68, 77, 82, 87, 94], 45), (48, .aload_n 0, 1), (49, .getfield 9, 3), (52, .iconst 0, 1), (53, .iaload, 1), (54, .ireturn, 1), (55, .aload_n 0, 1), (56, .getfield 9, 3), (59, .iconst 1, 1), (60, .iaload, 1), (61, .ireturn, 1), (62, .aload_n 0, 1), (63, .iconst 0, 1), (64, .invokevirtual 122, 3), (67, .invokestatic 159, 3), (70, .ireturn, 1), (71, .aload_n 0, 1), (72, .iconst 1, 1), (73, .invokevirtual 122, 3), (76, .invokestatic 159, 3), (79, .ireturn, 1), (80, .aload_n 0, 1), (81, .invokevirtual 126, 3), (84, .ireturn, 1), (85, .aload_n 0, 1), (86, .getfield 203, 3), (89, .ireturn, 1), (90, .aload_n 0, 1), (91, .getfield 9, 3), (94, .iconst 2, 1), (95, .iaload, 1), (96, .ireturn, 1), (97, .iconst 0, 1), (98, .istore_n 3, 1), (99, .iload_n 3, 1), (100, .bipush 10, 2), (102, .if_icmp .ge 29, 3), (105, .iload_n 2, 1), (106, .aload_n 0, 1), (107, .getfield 9, 3), (110, .bipush 124, 2), (112, .iload_n 3, 1), (113, .iadd, 1), (114, .iaload, 1), (115, .ifCond .lt 7, 3), (118, .iconst 1, 1), (119, .goto 4, 3), (122, .iconst 0, 1), (123, .iadd, 1), (124, .istore_n 2, 1), (125, .iinc 3 1, 3), (128, .goto (-29), 3), (131, .iload_n 2, 1), (132, .ireturn, 1), (133, .aload_n 0, 1), (134, .iconst 0, 1), (135, .invokevirtual 106, 3), (138, .ireturn, 1)]
set_option maxRecDepth 20000 in
theorem DX8_count_0 : TX8_count_0.all (fun q => decide (decode cX8_count q.1 = .ok q.2)) = true := by decide +kernel
def TX8_status_0 : dT := [(0, .iload_n 1, 1), (1, .iconst (-1), 1), (2, .bipush 6, 2), (4, .invokestatic 58, 3), (7, .ifCond .ne 9, 3), (10, .aload_n 0, 1), (11, .iconst 0, 1), (12, .invokevirtual 106, 3), (15, .ireturn, 1), (16, .iconst 0, 1), (17, .istore_n 2, 1), (18, .iconst 0, 1), (19, .istore_n 3, 1), (20, .iload_n 3, 1), (21, .bipush 7, 2), (23, .if_icmp .ge 32, 3), (26, .iload_n 2, 1), (27, .iload_n 1, 1), (28, .iconst (-1), 1), (29, .if_icmp .eq 8, 3), (32, .iload_n 1, 1), (33, .iload_n 3, 1), (34, .if_icmp .ne 12, 3), (37, .aload_n 0, 1), (38, .getfield 19, 3), (41, .iload_n 3, 1), (42, .iaload, 1), (43, .goto 4, 3), (46, .iconst 0, 1), (47, .iadd, 1), (48, .istore_n 2, 1), (49, .iinc 3 1, 3), (52, .goto (-32), 3), (55, .iload_n 2, 1), (56, .ireturn, 1)]
set_option maxRecDepth 20000 in
theorem DX8_status_0 : TX8_status_0.all (fun q => decide (decode cX8_status q.1 = .ok q.2)) = true := by decide +kernel
def TJ6_lowestOneBit_0f7a4_0 : dT := [(0, .iload_n 0, 1), (1, .iload_n 0, 1), (2, .ineg, 1), (3, .iand, 1), (4, .ireturn, 1)]
set_option maxRecDepth 20000 in
theorem DJ6_lowestOneBit_0f7a4_0 : TJ6_lowestOneBit_0f7a4_0.all (fun q => decide (decode cJ6_lowestOneBit_0f7a4 q.1 = .ok q.2)) = true := by decide +kernel
def TJ6_numberOfTrailingZeros_0f7a4_0 : dT := [(0, .iload_n 0, 1), (1, .iconst (-1), 1), (2, .ixor, 1), (3, .iload_n 0, 1), (4, .iconst 1, 1), (5, .isub, 1), (6, .iand, 1), (7, .istore_n 0, 1), (8, .iload_n 0, 1), (9, .ifCond .gt 8, 3), (12, .iload_n 0, 1), (13, .bipush 32, 2), (15, .iand, 1), (16, .ireturn, 1), (17, .iconst 1, 1), (18, .istore_n 1, 1), (19, .iload_n 0, 1), (20, .ldc_w 264, 3), (23, .if_icmp .le 11, 3), (26, .iinc 1 16, 3), (29, .iload_n 0, 1), (30, .bipush 16, 2), (32, .iushr, 1), (33, .istore_n 0, 1), (34, .iload_n 0, 1), (35, .sipush 256, 3), (38, .if_icmp .le 11, 3), (41, .iinc 1 8, 3), (44, .iload_n 0, 1), (45, .bipush 8, 2), (47, .iushr, 1), (48, .istore_n 0, 1), (49, .iload_n 0, 1), (50, .bipush 16, 2), (52, .if_icmp .le 10, 3), (55, .iinc 1 4, 3), (58, .iload_n 0, 1), (59, .iconst 4, 1), (60, .iushr, 1), (61, .istore_n 0, 1), (62, .iload_n 0, 1), (63, .iconst 4, 1), (64, .if_icmp .le 10, 3), (67, .iinc 1 2, 3), (70, .iload_n 0, 1), (71, .iconst 2, 1), (72, .iushr, 1), (73, .istore_n 0, 1), (74, .iload_n 1, 1), (75, .iload_n 0, 1), (76, .iconst 1, 1), (77, .iushr, 1), (78, .iadd, 1), (79, .ireturn, 1)]
set_option maxRecDepth 20000 in
theorem DJ6_numberOfTrailingZeros_0f7a4_0 : TJ6_numberOfTrailingZeros_0f7a4_0.all (fun q => decide (decode cJ6_numberOfTrailingZeros_0f7a4 q.1 = .ok q.2)) = true := by decide +kernel
def TJ6_bitCount_0f7a4_0 : dT := [(0, .iload_n 0, 1), (1, .iload_n 0, 1), (2, .iconst 1, 1), (3, .iushr, 1), (4, .ldc_w 265, 3), (7, .iand, 1), (8, .isub, 1), (9, .istore_n 0, 1), (10, .iload_n 0, 1), (11, .ldc_w 266, 3), (14, .iand, 1), (15, .iload_n 0, 1), (16, .iconst 2, 1), (17, .iushr, 1), (18, .ldc_w 266, 3), (21, .iand, 1), (22, .iadd, 1), (23, .istore_n 0, 1), (24, .iload_n 0, 1), (25, .iload_n 0, 1), (26, .iconst 4, 1), (27, .iushr, 1), (28, .iadd, 1), (29, .ldc_w 267, 3), (32, .iand, 1), (33, .istore_n 0, 1), (34, .iload_n 0, 1), (35, .iload_n 0, 1), (36, .bipush 8, 2), (38, .iushr, 1), (39, .iadd, 1), (40, .istore_n 0, 1), (41, .iload_n 0, 1), (42, .iload_n 0, 1), (43, .bipush 16, 2), (45, .iushr, 1), (46, .iadd, 1), (47, .istore_n 0, 1), (48, .iload_n 0, 1), (49, .bipush 63, 2), (51, .iand, 1), (52, .ireturn, 1)]
set_option maxRecDepth 20000 in
theorem DJ6_bitCount_0f7a4_0 : TJ6_bitCount_0f7a4_0.all (fun q => decide (decode cJ6_bitCount_0f7a4 q.1 = .ok q.2)) = true := by decide +kernel
def TJ9_floorMod_7cf53_0 : dT := [(0, .iload_n 0, 1), (1, .iload_n 1, 1), (2, .irem, 1), (3, .istore_n 2, 1), (4, .iload_n 0, 1), (5, .iload_n 1, 1), (6, .ixor, 1), (7, .ifCond .ge 11, 3), (10, .iload_n 2, 1), (11, .ifCond .eq 7, 3), (14, .iload_n 2, 1), (15, .iload_n 1, 1), (16, .iadd, 1), (17, .ireturn, 1), (18, .iload_n 2, 1), (19, .ireturn, 1)]
set_option maxRecDepth 20000 in
theorem DJ9_floorMod_7cf53_0 : TJ9_floorMod_7cf53_0.all (fun q => decide (decode cJ9_floorMod_7cf53 q.1 = .ok q.2)) = true := by decide +kernel
def TJ9_min_7cf53_0 : dT := [(0, .iload_n 0, 1), (1, .iload_n 1, 1), (2, .if_icmp .gt 7, 3), (5, .iload_n 0, 1), (6, .goto 4, 3), (9, .iload_n 1, 1), (10, .ireturn, 1)]
set_option maxRecDepth 20000 in
theorem DJ9_min_7cf53_0 : TJ9_min_7cf53_0.all (fun q => decide (decode cJ9_min_7cf53 q.1 = .ok q.2)) = true := by decide +kernel
def TJ0_length_8abf5_0 : dT := [(0, .aload_n 0, 1), (1, .getfield 9, 3), (4, .arraylength, 1), (5, .aload_n 0, 1), (6, .invokevirtual 335, 3), (9, .ishr, 1), (10, .ireturn, 1)]
set_option maxRecDepth 20000 in
theorem DJ0_length_8abf5_0 : TJ0_length_8abf5_0.all (fun q => decide (decode cJ0_length_8abf5 q.1 = .ok q.2)) = true := by decide +kernel
def TJ0_charAt_5068e_0 : dT := [(0, .aload_n 0, 1), (1, .invokevirtual 492, 3), (4, .ifCond .eq 12, 3), (7, .aload_n 0, 1), (8, .getfield 9, 3), (11, .iload_n 1, 1), (12, .invokestatic 495, 3), (15, .ireturn, 1), (16, .aload_n 0, 1), (17, .getfield 9, 3), (20, .iload_n 1, 1), (21, .invokestatic 498, 3), (24, .ireturn, 1)]
set_option maxRecDepth 20000 in
theorem DJ0_charAt_5068e_0 : TJ0_charAt_5068e_0.all (fun q => decide (decode cJ0_charAt_5068e q.1 = .ok q.2)) = true := by decide +kernel
def TJ0_coder_7d493_0 : dT := [(0, .getstatic 38, 3), (3, .ifCond .eq 10, 3), (6, .aload_n 0, 1), (7, .getfield 15, 3), (10, .goto 4, 3), (13, .iconst 1, 1), (14, .ireturn, 1)]
set_option maxRecDepth 20000 in
theorem DJ0_coder_7d493_0 : TJ0_coder_7d493_0.all (fun q => decide (decode cJ0_coder_7d493 q.1 = .ok q.2)) = true := by decide +kernel
def TJ0_isLatin1_aae02_0 : dT := [(0, .getstatic 38, 3), (3, .ifCond .eq 14, 3), (6, .aload_n 0, 1), (7, .getfield 15, 3), (10, .ifCond .ne 7, 3), (13, .iconst 1, 1), (14, .goto 4, 3), (17, .iconst 0, 1), (18, .ireturn, 1)]
set_option maxRecDepth 20000 in
theorem DJ0_isLatin1_aae02_0 : TJ0_isLatin1_aae02_0.all (fun q => decide (decode cJ0_isLatin1_aae02 q.1 = .ok q.2)) = true := by decide +kernel
def TJ0_checkIndex_df160_0 : dT := [(0, .iload_n 0, 1), (1, .iload_n 1, 1), (2, .getstatic 1053, 3), (5, .invokestatic 1059, 3), (8, .pop, 1), (9, .return_, 1)]
set_option maxRecDepth 20000 in
theorem DJ0_checkIndex_df160_0 : TJ0_checkIndex_df160_0.all (fun q => decide (decode cJ0_checkIndex_df160 q.1 = .ok q.2)) = true := by decide +kernel
def TJ1_charAt_3b067_0 : dT := [(0, .iload_n 1, 1), (1, .aload_n 0, 1), (2, .arraylength, 1), (3, .invokestatic 9, 3), (6, .aload_n 0, 1), (7, .iload_n 1, 1), (8, .baload, 1), (9, .sipush 255, 3), (12, .iand, 1), (13, .i2c, 1), (14, .ireturn, 1)]
set_option maxRecDepth 20000 in
theorem DJ1_charAt_3b067_0 : TJ1_charAt_3b067_0.all (fun q => decide (decode cJ1_charAt_3b067 q.1 = .ok q.2)) = true := by decide +kernel
def TJ2_getChar_3b067_0 : dT := [(0, .getstatic 44, 3), (3, .ifCond .ne 25, 3), (6, .iload_n 1, 1), (7, .ifCond .lt 11, 3), (10, .iload_n 1, 1), (11, .aload_n 0, 1), (12, .invokestatic 48, 3), (15, .if_icmp .lt 13, 3), (18, .new 52, 3), (21, .dup, 1), (22, .ldc 54, 2), (24, .invokespecial 56, 3), (27, .athrow, 1), (28, .iload_n 1, 1), (29, .iconst 1, 1), (30, .ishl, 1), (31, .istore_n 1, 1), (32, .aload_n 0, 1), (33, .iload_n 1, 1), (34, .iinc 1 1, 3), (37, .baload, 1), (38, .sipush 255, 3), (41, .iand, 1), (42, .getstatic 59, 3), (45, .ishl, 1), (46, .aload_n 0, 1), (47, .iload_n 1, 1), (48, .baload, 1), (49, .sipush 255, 3), (52, .iand, 1), (53, .getstatic 63, 3), (56, .ishl, 1), (57, .ior, 1), (58, .i2c, 1), (59, .ireturn, 1)]
set_option maxRecDepth 20000 in
theorem DJ2_getChar_3b067_0 : TJ2_getChar_3b067_0.all (fun q => decide (decode cJ2_getChar_3b067 q.1 = .ok q.2)) = true := by decide +kernel
def TJ2_length_9d52b_0 : dT := [(0, .aload_n 0, 1), (1, .arraylength, 1), (2, .iconst 1, 1), (3, .ishr, 1), (4, .ireturn, 1)]
set_option maxRecDepth 20000 in
theorem DJ2_length_9d52b_0 : TJ2_length_9d52b_0.all (fun q => decide (decode cJ2_length_9d52b q.1 = .ok q.2)) = true := by decide +kernel
def TJ2_charAt_3b067_0 : dT := [(0, .iload_n 1, 1), (1, .aload_n 0, 1), (2, .invokestatic 67, 3), (5, .aload_n 0, 1), (6, .iload_n 1, 1), (7, .invokestatic 71, 3), (10, .ireturn, 1)]
set_option maxRecDepth 20000 in
theorem DJ2_charAt_3b067_0 : TJ2_charAt_3b067_0.all (fun q => decide (decode cJ2_charAt_3b067 q.1 = .ok q.2)) = true := by decide +kernel
def TJ2_checkIndex_2214a_0 : dT := [(0, .iload_n 0, 1), (1, .aload_n 1, 1), (2, .invokestatic 48, 3), (5, .invokestatic 414, 3), (8, .return_, 1)]
set_option maxRecDepth 20000 in
theorem DJ2_checkIndex_2214a_0 : TJ2_checkIndex_2214a_0.all (fun q => decide (decode cJ2_checkIndex_2214a q.1 = .ok q.2)) = true := by decide +kernel
def TJ3_checkIndex_8e157_0 : dT := [(0, .iload_n 0, 1), (1, .ifCond .lt 8, 3), (4, .iload_n 0, 1), (5, .iload_n 1, 1), (6, .if_icmp .lt 10, 3), (9, .aload_n 2, 1), (10, .iload_n 0, 1), (11, .iload_n 1, 1), (12, .invokestatic 95, 3), (15, .athrow, 1), (16, .iload_n 0, 1), (17, .ireturn, 1)]
set_option maxRecDepth 20000 in
theorem DJ3_checkIndex_8e157_0 : TJ3_checkIndex_8e157_0.all (fun q => decide (decode cJ3_checkIndex_8e157 q.1 = .ok q.2)) = true := by decide +kernel
def TL_law_0 : dT := [(0, .new 7, 3), (3, .dup, 1), (4, .invokespecial 9, 3), (7, .astore_n 1, 1), (8, .new 10, 3), (11, .dup, 1), (12, .invokespecial 12, 3), (15, .astore_n 2, 1), (16, .iconst 0, 1), (17, .istore_n 3, 1), (18, .iload_n 3, 1), (19, .aload_n 0, 1), (20, .arraylength, 1), (21, .bipush 6, 2), (23, .isub, 1), (24, .if_icmp .gt 1523, 3), (27, .aload_n 0, 1), (28, .iload_n 3, 1), (29, .iaload, 1), (30, .bipush 63, 2), (32, .iand, 1), (33, .tableswitch 1508 0 45 #[199, 232, 275, 308, 341, 384, 407, 430, 453, 496, 529, 552, 595, 618, 631, 654, 677, 710, 743, 776, 809, 842, 865, 898, 931, 954, 967, 1000, 1023, 1046, 1080, 1103, 1136, 1149, 1162, 1195, 1228, 1271, 1314, 1377, 1400, 1423, 1436, 1449, 1462, 1485], 199), (232, .aload_n 1, 1), (233, .aload_n 0, 1), (234, .iload_n 3, 1), (235, .iconst 1, 1), (236, .iadd, 1), (237, .iaload, 1), (238, .aload_n 0, 1), (239, .iload_n 3, 1), (240, .iconst 2, 1), (241, .iadd, 1), (242, .iaload, 1), (243, .invokevirtual 13, 3), (246, .aload_n 2, 1), (247, .aload_n 0, 1), (248, .iload_n 3, 1), (249, .iconst 1, 1), (250, .iadd, 1), (251, .iaload, 1), (252, .aload_n 0, 1), (253, .iload_n 3, 1), (254, .iconst 2, 1), (255, .iadd, 1), (256, .iaload, 1), (257, .invokevirtual 17, 3), (260, .if_icmp .eq 1281, 3), (263, .iconst 0, 1), (264, .ireturn, 1), (265, .aload_n 1, 1), (266, .aload_n 0, 1), (267, .iload_n 3, 1), (268, .iconst 1, 1), (269, .iadd, 1), (270, .iaload, 1), (271, .aload_n 0, 1), (272, .iload_n 3, 1), (273, .iconst 2, 1), (274, .iadd, 1), (275, .iaload, 1), (276, .aload_n 0, 1), (277, .iload_n 3, 1), (278, .iconst 3, 1), (279, .iadd, 1), (280, .iaload, 1), (281, .invokevirtual 18, 3), (284, .aload_n 2, 1), (285, .aload_n 0, 1), (286, .iload_n 3, 1), (287, .iconst 1, 1), (288, .iadd, 1), (289, .iaload, 1), (290, .aload_n 0, 1), (291, .iload_n 3, 1), (292, .iconst 2, 1), (293, .iadd, 1), (294, .iaload, 1), (295, .aload_n 0, 1), (296, .iload_n 3, 1), (297, .iconst 3, 1), (298, .iadd, 1), (299, .iaload, 1), (300, .invokevirtual 22, 3), (303, .if_icmp .eq 1238, 3), (306, .iconst 0, 1), (307, .ireturn, 1), (308, .aload_n 1, 1), (309, .aload_n 0, 1), (310, .iload_n 3, 1), (311, .iconst 1, 1), (312, .iadd, 1), (313, .iaload, 1), (314, .aload_n 0, 1), (315, .iload_n 3, 1), (316, .iconst 2, 1), (317, .iadd, 1), (318, .iaload, 1), (319, .invokevirtual 23, 3), (322, .aload_n 2, 1), (323, .aload_n 0, 1), (324, .iload_n 3, 1), (325, .iconst 1, 1), (326, .iadd, 1), (327, .iaload, 1), (328, .aload_n 0, 1), (329, .iload_n 3, 1), (330, .iconst 2, 1), (331, .iadd, 1), (332, .iaload, 1), (333, .invokevirtual 26, 3), (336, .if_icmp .eq 1205, 3), (339, .iconst 0, 1), (340, .ireturn, 1), (341, .aload_n 1, 1), (342, .aload_n 0, 1), (343, .iload_n 3, 1), (344, .iconst 1, 1), (345, .iadd, 1), (346, .iaload, 1), (347, .aload_n 0, 1)]
set_option maxRecDepth 20000 in
theorem DL_law_0 : TL_law_0.all (fun q => decide (decode code q.1 = .ok q.2)) = true := by decide +kernel
def TL_law_1 : dT := [(348, .iload_n 3, 1), (349, .iconst 2, 1), (350, .iadd, 1), (351, .iaload, 1), (352, .invokevirtual 27, 3), (355, .aload_n 2, 1), (356, .aload_n 0, 1), (357, .iload_n 3, 1), (358, .iconst 1, 1), (359, .iadd, 1), (360, .iaload, 1), (361, .aload_n 0, 1), (362, .iload_n 3, 1), (363, .iconst 2, 1), (364, .iadd, 1), (365, .iaload, 1), (366, .invokevirtual 30, 3), (369, .if_icmp .eq 1172, 3), (372, .iconst 0, 1), (373, .ireturn, 1), (374, .aload_n 1, 1), (375, .aload_n 0, 1), (376, .iload_n 3, 1), (377, .iconst 1, 1), (378, .iadd, 1), (379, .iaload, 1), (380, .aload_n 0, 1), (381, .iload_n 3, 1), (382, .iconst 2, 1), (383, .iadd, 1), (384, .iaload, 1), (385, .aload_n 0, 1), (386, .iload_n 3, 1), (387, .iconst 3, 1), (388, .iadd, 1), (389, .iaload, 1), (390, .invokevirtual 31, 3), (393, .aload_n 2, 1), (394, .aload_n 0, 1), (395, .iload_n 3, 1), (396, .iconst 1, 1), (397, .iadd, 1), (398, .iaload, 1), (399, .aload_n 0, 1), (400, .iload_n 3, 1), (401, .iconst 2, 1), (402, .iadd, 1), (403, .iaload, 1), (404, .aload_n 0, 1), (405, .iload_n 3, 1), (406, .iconst 3, 1), (407, .iadd, 1), (408, .iaload, 1), (409, .invokevirtual 34, 3), (412, .if_icmp .eq 1129, 3), (415, .iconst 0, 1), (416, .ireturn, 1), (417, .aload_n 1, 1), (418, .aload_n 0, 1), (419, .iload_n 3, 1), (420, .iconst 1, 1), (421, .iadd, 1), (422, .iaload, 1), (423, .invokevirtual 35, 3), (426, .aload_n 2, 1), (427, .aload_n 0, 1), (428, .iload_n 3, 1), (429, .iconst 1, 1), (430, .iadd, 1), (431, .iaload, 1), (432, .invokevirtual 39, 3), (435, .if_icmp .eq 1106, 3), (438, .iconst 0, 1), (439, .ireturn, 1), (440, .aload_n 1, 1), (441, .aload_n 0, 1), (442, .iload_n 3, 1), (443, .iconst 1, 1), (444, .iadd, 1), (445, .iaload, 1), (446, .invokevirtual 40, 3), (449, .aload_n 2, 1), (450, .aload_n 0, 1), (451, .iload_n 3, 1), (452, .iconst 1, 1), (453, .iadd, 1), (454, .iaload, 1), (455, .invokevirtual 43, 3), (458, .if_icmp .eq 1083, 3), (461, .iconst 0, 1), (462, .ireturn, 1), (463, .aload_n 1, 1), (464, .aload_n 0, 1), (465, .iload_n 3, 1), (466, .iconst 1, 1), (467, .iadd, 1), (468, .iaload, 1), (469, .invokevirtual 44, 3), (472, .aload_n 2, 1), (473, .aload_n 0, 1), (474, .iload_n 3, 1), (475, .iconst 1, 1), (476, .iadd, 1), (477, .iaload, 1), (478, .invokevirtual 47, 3), (481, .if_icmp .eq 1060, 3), (484, .iconst 0, 1), (485, .ireturn, 1), (486, .aload_n 1, 1), (487, .aload_n 0, 1), (488, .iload_n 3, 1), (489, .iconst 1, 1), (490, .iadd, 1), (491, .iaload, 1), (492, .aload_n 0, 1), (493, .iload_n 3, 1), (494, .iconst 2, 1), (495, .iadd, 1), (496, .iaload, 1), (497, .aload_n 0, 1)]
set_option maxRecDepth 20000 in
theorem DL_law_1 : TL_law_1.all (fun q => decide (decode code q.1 = .ok q.2)) = true := by decide +kernel
def TL_law_2 : dT := [(498, .iload_n 3, 1), (499, .iconst 3, 1), (500, .iadd, 1), (501, .iaload, 1), (502, .invokevirtual 48, 3), (505, .aload_n 2, 1), (506, .aload_n 0, 1), (507, .iload_n 3, 1), (508, .iconst 1, 1), (509, .iadd, 1), (510, .iaload, 1), (511, .aload_n 0, 1), (512, .iload_n 3, 1), (513, .iconst 2, 1), (514, .iadd, 1), (515, .iaload, 1), (516, .aload_n 0, 1), (517, .iload_n 3, 1), (518, .iconst 3, 1), (519, .iadd, 1), (520, .iaload, 1), (521, .invokevirtual 51, 3), (524, .if_icmp .eq 1017, 3), (527, .iconst 0, 1), (528, .ireturn, 1), (529, .aload_n 1, 1), (530, .aload_n 0, 1), (531, .iload_n 3, 1), (532, .iconst 1, 1), (533, .iadd, 1), (534, .iaload, 1), (535, .aload_n 0, 1), (536, .iload_n 3, 1), (537, .iconst 2, 1), (538, .iadd, 1), (539, .iaload, 1), (540, .invokevirtual 52, 3), (543, .aload_n 2, 1), (544, .aload_n 0, 1), (545, .iload_n 3, 1), (546, .iconst 1, 1), (547, .iadd, 1), (548, .iaload, 1), (549, .aload_n 0, 1), (550, .iload_n 3, 1), (551, .iconst 2, 1), (552, .iadd, 1), (553, .iaload, 1), (554, .invokevirtual 55, 3), (557, .if_icmp .eq 984, 3), (560, .iconst 0, 1), (561, .ireturn, 1), (562, .aload_n 1, 1), (563, .aload_n 0, 1), (564, .iload_n 3, 1), (565, .iconst 1, 1), (566, .iadd, 1), (567, .iaload, 1), (568, .invokevirtual 56, 3), (571, .aload_n 2, 1), (572, .aload_n 0, 1), (573, .iload_n 3, 1), (574, .iconst 1, 1), (575, .iadd, 1), (576, .iaload, 1), (577, .invokevirtual 59, 3), (580, .if_icmp .eq 961, 3), (583, .iconst 0, 1), (584, .ireturn, 1), (585, .aload_n 1, 1), (586, .aload_n 0, 1), (587, .iload_n 3, 1), (588, .iconst 1, 1), (589, .iadd, 1), (590, .iaload, 1), (591, .aload_n 0, 1), (592, .iload_n 3, 1), (593, .iconst 2, 1), (594, .iadd, 1), (595, .iaload, 1), (596, .aload_n 0, 1), (597, .iload_n 3, 1), (598, .iconst 3, 1), (599, .iadd, 1), (600, .iaload, 1), (601, .invokevirtual 60, 3), (604, .aload_n 2, 1), (605, .aload_n 0, 1), (606, .iload_n 3, 1), (607, .iconst 1, 1), (608, .iadd, 1), (609, .iaload, 1), (610, .aload_n 0, 1), (611, .iload_n 3, 1), (612, .iconst 2, 1), (613, .iadd, 1), (614, .iaload, 1), (615, .aload_n 0, 1), (616, .iload_n 3, 1), (617, .iconst 3, 1), (618, .iadd, 1), (619, .iaload, 1), (620, .invokevirtual 63, 3), (623, .if_icmp .eq 918, 3), (626, .iconst 0, 1), (627, .ireturn, 1), (628, .aload_n 1, 1), (629, .aload_n 0, 1), (630, .iload_n 3, 1), (631, .iconst 1, 1), (632, .iadd, 1), (633, .iaload, 1), (634, .invokevirtual 64, 3), (637, .aload_n 2, 1), (638, .aload_n 0, 1), (639, .iload_n 3, 1), (640, .iconst 1, 1), (641, .iadd, 1), (642, .iaload, 1), (643, .invokevirtual 67, 3)]
set_option maxRecDepth 20000 in
theorem DL_law_2 : TL_law_2.all (fun q => decide (decode code q.1 = .ok q.2)) = true := by decide +kernel
def TL_law_3 : dT := [(646, .if_icmp .eq 895, 3), (649, .iconst 0, 1), (650, .ireturn, 1), (651, .aload_n 1, 1), (652, .invokevirtual 68, 3), (655, .aload_n 2, 1), (656, .invokevirtual 72, 3), (659, .if_icmp .eq 882, 3), (662, .iconst 0, 1), (663, .ireturn, 1), (664, .aload_n 1, 1), (665, .aload_n 0, 1), (666, .iload_n 3, 1), (667, .iconst 1, 1), (668, .iadd, 1), (669, .iaload, 1), (670, .invokevirtual 73, 3), (673, .aload_n 2, 1), (674, .aload_n 0, 1), (675, .iload_n 3, 1), (676, .iconst 1, 1), (677, .iadd, 1), (678, .iaload, 1), (679, .invokevirtual 76, 3), (682, .if_icmp .eq 859, 3), (685, .iconst 0, 1), (686, .ireturn, 1), (687, .aload_n 1, 1), (688, .aload_n 0, 1), (689, .iload_n 3, 1), (690, .iconst 1, 1), (691, .iadd, 1), (692, .iaload, 1), (693, .invokevirtual 77, 3), (696, .aload_n 2, 1), (697, .aload_n 0, 1), (698, .iload_n 3, 1), (699, .iconst 1, 1), (700, .iadd, 1), (701, .iaload, 1), (702, .invokevirtual 80, 3), (705, .if_icmp .eq 836, 3), (708, .iconst 0, 1), (709, .ireturn, 1), (710, .aload_n 1, 1), (711, .aload_n 0, 1), (712, .iload_n 3, 1), (713, .iconst 1, 1), (714, .iadd, 1), (715, .iaload, 1), (716, .aload_n 0, 1), (717, .iload_n 3, 1), (718, .iconst 2, 1), (719, .iadd, 1), (720, .iaload, 1), (721, .invokevirtual 81, 3), (724, .aload_n 2, 1), (725, .aload_n 0, 1), (726, .iload_n 3, 1), (727, .iconst 1, 1), (728, .iadd, 1), (729, .iaload, 1), (730, .aload_n 0, 1), (731, .iload_n 3, 1), (732, .iconst 2, 1), (733, .iadd, 1), (734, .iaload, 1), (735, .invokevirtual 84, 3), (738, .if_icmp .eq 803, 3), (741, .iconst 0, 1), (742, .ireturn, 1), (743, .aload_n 1, 1), (744, .aload_n 0, 1), (745, .iload_n 3, 1), (746, .iconst 1, 1), (747, .iadd, 1), (748, .iaload, 1), (749, .aload_n 0, 1), (750, .iload_n 3, 1), (751, .iconst 2, 1), (752, .iadd, 1), (753, .iaload, 1), (754, .invokevirtual 85, 3), (757, .aload_n 2, 1), (758, .aload_n 0, 1), (759, .iload_n 3, 1), (760, .iconst 1, 1), (761, .iadd, 1), (762, .iaload, 1), (763, .aload_n 0, 1), (764, .iload_n 3, 1), (765, .iconst 2, 1), (766, .iadd, 1), (767, .iaload, 1), (768, .invokevirtual 88, 3), (771, .if_icmp .eq 770, 3), (774, .iconst 0, 1), (775, .ireturn, 1), (776, .aload_n 1, 1), (777, .aload_n 0, 1), (778, .iload_n 3, 1), (779, .iconst 1, 1), (780, .iadd, 1), (781, .iaload, 1), (782, .aload_n 0, 1), (783, .iload_n 3, 1), (784, .iconst 2, 1), (785, .iadd, 1), (786, .iaload, 1), (787, .invokevirtual 89, 3), (790, .aload_n 2, 1), (791, .aload_n 0, 1), (792, .iload_n 3, 1), (793, .iconst 1, 1), (794, .iadd, 1), (795, .iaload, 1), (796, .aload_n 0, 1), (797, .iload_n 3, 1), (798, .iconst 2, 1), (799, .iadd, 1)]
set_option maxRecDepth 20000 in
theorem DL_law_3 : TL_law_3.all (fun q => decide (decode code q.1 = .ok q.2)) = true := by decide +kernel
def TL_law_4 : dT := [(800, .iaload, 1), (801, .invokevirtual 92, 3), (804, .if_icmp .eq 737, 3), (807, .iconst 0, 1), (808, .ireturn, 1), (809, .aload_n 1, 1), (810, .aload_n 0, 1), (811, .iload_n 3, 1), (812, .iconst 1, 1), (813, .iadd, 1), (814, .iaload, 1), (815, .aload_n 0, 1), (816, .iload_n 3, 1), (817, .iconst 2, 1), (818, .iadd, 1), (819, .iaload, 1), (820, .invokevirtual 93, 3), (823, .aload_n 2, 1), (824, .aload_n 0, 1), (825, .iload_n 3, 1), (826, .iconst 1, 1), (827, .iadd, 1), (828, .iaload, 1), (829, .aload_n 0, 1), (830, .iload_n 3, 1), (831, .iconst 2, 1), (832, .iadd, 1), (833, .iaload, 1), (834, .invokevirtual 96, 3), (837, .if_icmp .eq 704, 3), (840, .iconst 0, 1), (841, .ireturn, 1), (842, .aload_n 1, 1), (843, .aload_n 0, 1), (844, .iload_n 3, 1), (845, .iconst 1, 1), (846, .iadd, 1), (847, .iaload, 1), (848, .aload_n 0, 1), (849, .iload_n 3, 1), (850, .iconst 2, 1), (851, .iadd, 1), (852, .iaload, 1), (853, .invokevirtual 97, 3), (856, .aload_n 2, 1), (857, .aload_n 0, 1), (858, .iload_n 3, 1), (859, .iconst 1, 1), (860, .iadd, 1), (861, .iaload, 1), (862, .aload_n 0, 1), (863, .iload_n 3, 1), (864, .iconst 2, 1), (865, .iadd, 1), (866, .iaload, 1), (867, .invokevirtual 100, 3), (870, .if_icmp .eq 671, 3), (873, .iconst 0, 1), (874, .ireturn, 1), (875, .aload_n 1, 1), (876, .aload_n 0, 1), (877, .iload_n 3, 1), (878, .iconst 1, 1), (879, .iadd, 1), (880, .iaload, 1), (881, .invokevirtual 101, 3), (884, .aload_n 2, 1), (885, .aload_n 0, 1), (886, .iload_n 3, 1), (887, .iconst 1, 1), (888, .iadd, 1), (889, .iaload, 1), (890, .invokevirtual 104, 3), (893, .if_icmp .eq 648, 3), (896, .iconst 0, 1), (897, .ireturn, 1), (898, .aload_n 1, 1), (899, .aload_n 0, 1), (900, .iload_n 3, 1), (901, .iconst 1, 1), (902, .iadd, 1), (903, .iaload, 1), (904, .aload_n 0, 1), (905, .iload_n 3, 1), (906, .iconst 2, 1), (907, .iadd, 1), (908, .iaload, 1), (909, .invokevirtual 105, 3), (912, .aload_n 2, 1), (913, .aload_n 0, 1), (914, .iload_n 3, 1), (915, .iconst 1, 1), (916, .iadd, 1), (917, .iaload, 1), (918, .aload_n 0, 1), (919, .iload_n 3, 1), (920, .iconst 2, 1), (921, .iadd, 1), (922, .iaload, 1), (923, .invokevirtual 108, 3), (926, .if_icmp .eq 615, 3), (929, .iconst 0, 1), (930, .ireturn, 1), (931, .aload_n 1, 1), (932, .aload_n 0, 1), (933, .iload_n 3, 1), (934, .iconst 1, 1), (935, .iadd, 1), (936, .iaload, 1), (937, .aload_n 0, 1), (938, .iload_n 3, 1), (939, .iconst 2, 1), (940, .iadd, 1), (941, .iaload, 1), (942, .invokevirtual 109, 3), (945, .aload_n 2, 1), (946, .aload_n 0, 1), (947, .iload_n 3, 1), (948, .iconst 1, 1), (949, .iadd, 1)]
set_option maxRecDepth 20000 in
theorem DL_law_4 : TL_law_4.all (fun q => decide (decode code q.1 = .ok q.2)) = true := by decide +kernel
def TL_law_5 : dT := [(950, .iaload, 1), (951, .aload_n 0, 1), (952, .iload_n 3, 1), (953, .iconst 2, 1), (954, .iadd, 1), (955, .iaload, 1), (956, .invokevirtual 112, 3), (959, .if_icmp .eq 582, 3), (962, .iconst 0, 1), (963, .ireturn, 1), (964, .aload_n 1, 1), (965, .aload_n 0, 1), (966, .iload_n 3, 1), (967, .iconst 1, 1), (968, .iadd, 1), (969, .iaload, 1), (970, .invokevirtual 113, 3), (973, .aload_n 2, 1), (974, .aload_n 0, 1), (975, .iload_n 3, 1), (976, .iconst 1, 1), (977, .iadd, 1), (978, .iaload, 1), (979, .invokevirtual 116, 3), (982, .if_icmp .eq 559, 3), (985, .iconst 0, 1), (986, .ireturn, 1), (987, .aload_n 1, 1), (988, .invokevirtual 117, 3), (991, .aload_n 2, 1), (992, .invokevirtual 120, 3), (995, .if_icmp .eq 546, 3), (998, .iconst 0, 1), (999, .ireturn, 1), (1000, .aload_n 1, 1), (1001, .aload_n 0, 1), (1002, .iload_n 3, 1), (1003, .iconst 1, 1), (1004, .iadd, 1), (1005, .iaload, 1), (1006, .aload_n 0, 1), (1007, .iload_n 3, 1), (1008, .iconst 2, 1), (1009, .iadd, 1), (1010, .iaload, 1), (1011, .invokevirtual 121, 3), (1014, .aload_n 2, 1), (1015, .aload_n 0, 1), (1016, .iload_n 3, 1), (1017, .iconst 1, 1), (1018, .iadd, 1), (1019, .iaload, 1), (1020, .aload_n 0, 1), (1021, .iload_n 3, 1), (1022, .iconst 2, 1), (1023, .iadd, 1), (1024, .iaload, 1), (1025, .invokevirtual 124, 3), (1028, .if_icmp .eq 513, 3), (1031, .iconst 0, 1), (1032, .ireturn, 1), (1033, .aload_n 1, 1), (1034, .aload_n 0, 1), (1035, .iload_n 3, 1), (1036, .iconst 1, 1), (1037, .iadd, 1), (1038, .iaload, 1), (1039, .invokevirtual 125, 3), (1042, .aload_n 2, 1), (1043, .aload_n 0, 1), (1044, .iload_n 3, 1), (1045, .iconst 1, 1), (1046, .iadd, 1), (1047, .iaload, 1), (1048, .invokevirtual 128, 3), (1051, .if_icmp .eq 490, 3), (1054, .iconst 0, 1), (1055, .ireturn, 1), (1056, .aload_n 1, 1), (1057, .aload_n 0, 1), (1058, .iload_n 3, 1), (1059, .iconst 1, 1), (1060, .iadd, 1), (1061, .iaload, 1), (1062, .invokevirtual 129, 3), (1065, .aload_n 2, 1), (1066, .aload_n 0, 1), (1067, .iload_n 3, 1), (1068, .iconst 1, 1), (1069, .iadd, 1), (1070, .iaload, 1), (1071, .invokevirtual 132, 3), (1074, .if_icmp .eq 467, 3), (1077, .iconst 0, 1), (1078, .ireturn, 1), (1079, .aload_n 1, 1), (1080, .aload_n 0, 1), (1081, .iload_n 3, 1), (1082, .iconst 1, 1), (1083, .iadd, 1), (1084, .iaload, 1), (1085, .aload_n 0, 1), (1086, .iload_n 3, 1), (1087, .iconst 2, 1), (1088, .iadd, 1), (1089, .iaload, 1), (1090, .invokevirtual 133, 3), (1093, .aload_n 2, 1), (1094, .aload_n 0, 1), (1095, .iload_n 3, 1), (1096, .iconst 1, 1), (1097, .iadd, 1), (1098, .iaload, 1), (1099, .aload_n 0, 1), (1100, .iload_n 3, 1), (1101, .iconst 2, 1), (1102, .iadd, 1), (1103, .iaload, 1), (1104, .invokevirtual 137, 3), (1107, .lcmp, 1)]
set_option maxRecDepth 20000 in
theorem DL_law_5 : TL_law_5.all (fun q => decide (decode code q.1 = .ok q.2)) = true := by decide +kernel
def TL_law_6 : dT := [(1108, .ifCond .eq 433, 3), (1111, .iconst 0, 1), (1112, .ireturn, 1), (1113, .aload_n 1, 1), (1114, .aload_n 0, 1), (1115, .iload_n 3, 1), (1116, .iconst 1, 1), (1117, .iadd, 1), (1118, .iaload, 1), (1119, .invokevirtual 138, 3), (1122, .aload_n 2, 1), (1123, .aload_n 0, 1), (1124, .iload_n 3, 1), (1125, .iconst 1, 1), (1126, .iadd, 1), (1127, .iaload, 1), (1128, .invokevirtual 141, 3), (1131, .if_icmp .eq 410, 3), (1134, .iconst 0, 1), (1135, .ireturn, 1), (1136, .aload_n 1, 1), (1137, .aload_n 0, 1), (1138, .iload_n 3, 1), (1139, .iconst 1, 1), (1140, .iadd, 1), (1141, .iaload, 1), (1142, .aload_n 0, 1), (1143, .iload_n 3, 1), (1144, .iconst 2, 1), (1145, .iadd, 1), (1146, .iaload, 1), (1147, .invokevirtual 142, 3), (1150, .aload_n 2, 1), (1151, .aload_n 0, 1), (1152, .iload_n 3, 1), (1153, .iconst 1, 1), (1154, .iadd, 1), (1155, .iaload, 1), (1156, .aload_n 0, 1), (1157, .iload_n 3, 1), (1158, .iconst 2, 1), (1159, .iadd, 1), (1160, .iaload, 1), (1161, .invokevirtual 145, 3), (1164, .if_icmp .eq 377, 3), (1167, .iconst 0, 1), (1168, .ireturn, 1), (1169, .aload_n 1, 1), (1170, .invokevirtual 146, 3), (1173, .aload_n 2, 1), (1174, .invokevirtual 149, 3), (1177, .if_icmp .eq 364, 3), (1180, .iconst 0, 1), (1181, .ireturn, 1), (1182, .aload_n 1, 1), (1183, .invokevirtual 150, 3), (1186, .aload_n 2, 1), (1187, .invokevirtual 153, 3), (1190, .if_icmp .eq 351, 3), (1193, .iconst 0, 1), (1194, .ireturn, 1), (1195, .aload_n 1, 1), (1196, .aload_n 0, 1), (1197, .iload_n 3, 1), (1198, .iconst 1, 1), (1199, .iadd, 1), (1200, .iaload, 1), (1201, .aload_n 0, 1), (1202, .iload_n 3, 1), (1203, .iconst 2, 1), (1204, .iadd, 1), (1205, .iaload, 1), (1206, .invokevirtual 154, 3), (1209, .aload_n 2, 1), (1210, .aload_n 0, 1), (1211, .iload_n 3, 1), (1212, .iconst 1, 1), (1213, .iadd, 1), (1214, .iaload, 1), (1215, .aload_n 0, 1), (1216, .iload_n 3, 1), (1217, .iconst 2, 1), (1218, .iadd, 1), (1219, .iaload, 1), (1220, .invokevirtual 157, 3), (1223, .if_icmp .eq 318, 3), (1226, .iconst 0, 1), (1227, .ireturn, 1), (1228, .aload_n 1, 1), (1229, .aload_n 0, 1), (1230, .iload_n 3, 1), (1231, .iconst 1, 1), (1232, .iadd, 1), (1233, .iaload, 1), (1234, .aload_n 0, 1), (1235, .iload_n 3, 1), (1236, .iconst 2, 1), (1237, .iadd, 1), (1238, .iaload, 1), (1239, .invokevirtual 158, 3), (1242, .aload_n 2, 1), (1243, .aload_n 0, 1), (1244, .iload_n 3, 1), (1245, .iconst 1, 1), (1246, .iadd, 1), (1247, .iaload, 1), (1248, .aload_n 0, 1), (1249, .iload_n 3, 1), (1250, .iconst 2, 1), (1251, .iadd, 1), (1252, .iaload, 1), (1253, .invokevirtual 161, 3), (1256, .if_icmp .eq 285, 3), (1259, .iconst 0, 1), (1260, .ireturn, 1), (1261, .aload_n 1, 1), (1262, .aload_n 0, 1), (1263, .iload_n 3, 1), (1264, .iconst 1, 1), (1265, .iadd, 1)]
set_option maxRecDepth 20000 in
theorem DL_law_6 : TL_law_6.all (fun q => decide (decode code q.1 = .ok q.2)) = true := by decide +kernel
def TL_law_7 : dT := [(1266, .iaload, 1), (1267, .aload_n 0, 1), (1268, .iload_n 3, 1), (1269, .iconst 2, 1), (1270, .iadd, 1), (1271, .iaload, 1), (1272, .aload_n 0, 1), (1273, .iload_n 3, 1), (1274, .iconst 3, 1), (1275, .iadd, 1), (1276, .iaload, 1), (1277, .invokevirtual 162, 3), (1280, .aload_n 2, 1), (1281, .aload_n 0, 1), (1282, .iload_n 3, 1), (1283, .iconst 1, 1), (1284, .iadd, 1), (1285, .iaload, 1), (1286, .aload_n 0, 1), (1287, .iload_n 3, 1), (1288, .iconst 2, 1), (1289, .iadd, 1), (1290, .iaload, 1), (1291, .aload_n 0, 1), (1292, .iload_n 3, 1), (1293, .iconst 3, 1), (1294, .iadd, 1), (1295, .iaload, 1), (1296, .invokevirtual 165, 3), (1299, .if_icmp .eq 242, 3), (1302, .iconst 0, 1), (1303, .ireturn, 1), (1304, .aload_n 1, 1), (1305, .aload_n 0, 1), (1306, .iload_n 3, 1), (1307, .iconst 1, 1), (1308, .iadd, 1), (1309, .iaload, 1), (1310, .aload_n 0, 1), (1311, .iload_n 3, 1), (1312, .iconst 2, 1), (1313, .iadd, 1), (1314, .iaload, 1), (1315, .aload_n 0, 1), (1316, .iload_n 3, 1), (1317, .iconst 3, 1), (1318, .iadd, 1), (1319, .iaload, 1), (1320, .invokevirtual 166, 3), (1323, .aload_n 2, 1), (1324, .aload_n 0, 1), (1325, .iload_n 3, 1), (1326, .iconst 1, 1), (1327, .iadd, 1), (1328, .iaload, 1), (1329, .aload_n 0, 1), (1330, .iload_n 3, 1), (1331, .iconst 2, 1), (1332, .iadd, 1), (1333, .iaload, 1), (1334, .aload_n 0, 1), (1335, .iload_n 3, 1), (1336, .iconst 3, 1), (1337, .iadd, 1), (1338, .iaload, 1), (1339, .invokevirtual 169, 3), (1342, .if_icmp .eq 199, 3), (1345, .iconst 0, 1), (1346, .ireturn, 1), (1347, .aload_n 1, 1), (1348, .aload_n 0, 1), (1349, .iload_n 3, 1), (1350, .iconst 1, 1), (1351, .iadd, 1), (1352, .iaload, 1), (1353, .aload_n 0, 1), (1354, .iload_n 3, 1), (1355, .iconst 2, 1), (1356, .iadd, 1), (1357, .iaload, 1), (1358, .aload_n 0, 1), (1359, .iload_n 3, 1), (1360, .iconst 3, 1), (1361, .iadd, 1), (1362, .iaload, 1), (1363, .aload_n 0, 1), (1364, .iload_n 3, 1), (1365, .iconst 4, 1), (1366, .iadd, 1), (1367, .iaload, 1), (1368, .aload_n 0, 1), (1369, .iload_n 3, 1), (1370, .iconst 5, 1), (1371, .iadd, 1), (1372, .iaload, 1), (1373, .invokevirtual 170, 3), (1376, .aload_n 2, 1), (1377, .aload_n 0, 1), (1378, .iload_n 3, 1), (1379, .iconst 1, 1), (1380, .iadd, 1), (1381, .iaload, 1), (1382, .aload_n 0, 1), (1383, .iload_n 3, 1), (1384, .iconst 2, 1), (1385, .iadd, 1), (1386, .iaload, 1), (1387, .aload_n 0, 1), (1388, .iload_n 3, 1), (1389, .iconst 3, 1), (1390, .iadd, 1), (1391, .iaload, 1), (1392, .aload_n 0, 1), (1393, .iload_n 3, 1), (1394, .iconst 4, 1), (1395, .iadd, 1), (1396, .iaload, 1), (1397, .aload_n 0, 1), (1398, .iload_n 3, 1), (1399, .iconst 5, 1)]
set_option maxRecDepth 20000 in
theorem DL_law_7 : TL_law_7.all (fun q => decide (decode code q.1 = .ok q.2)) = true := by decide +kernel
def TL_law_8 : dT := [(1400, .iadd, 1), (1401, .iaload, 1), (1402, .invokevirtual 174, 3), (1405, .if_icmp .eq 136, 3), (1408, .iconst 0, 1), (1409, .ireturn, 1), (1410, .aload_n 1, 1), (1411, .aload_n 0, 1), (1412, .iload_n 3, 1), (1413, .iconst 1, 1), (1414, .iadd, 1), (1415, .iaload, 1), (1416, .invokevirtual 175, 3), (1419, .aload_n 2, 1), (1420, .aload_n 0, 1), (1421, .iload_n 3, 1), (1422, .iconst 1, 1), (1423, .iadd, 1), (1424, .iaload, 1), (1425, .invokevirtual 178, 3), (1428, .if_icmp .eq 113, 3), (1431, .iconst 0, 1), (1432, .ireturn, 1), (1433, .aload_n 1, 1), (1434, .aload_n 0, 1), (1435, .iload_n 3, 1), (1436, .iconst 1, 1), (1437, .iadd, 1), (1438, .iaload, 1), (1439, .invokevirtual 179, 3), (1442, .aload_n 2, 1), (1443, .aload_n 0, 1), (1444, .iload_n 3, 1), (1445, .iconst 1, 1), (1446, .iadd, 1), (1447, .iaload, 1), (1448, .invokevirtual 182, 3), (1451, .if_icmp .eq 90, 3), (1454, .iconst 0, 1), (1455, .ireturn, 1), (1456, .aload_n 1, 1), (1457, .invokevirtual 183, 3), (1460, .aload_n 2, 1), (1461, .invokevirtual 186, 3), (1464, .if_icmp .eq 77, 3), (1467, .iconst 0, 1), (1468, .ireturn, 1), (1469, .aload_n 1, 1), (1470, .invokevirtual 187, 3), (1473, .aload_n 2, 1), (1474, .invokevirtual 190, 3), (1477, .if_icmp .eq 64, 3), (1480, .iconst 0, 1), (1481, .ireturn, 1), (1482, .aload_n 1, 1), (1483, .invokevirtual 191, 3), (1486, .aload_n 2, 1), (1487, .invokevirtual 194, 3), (1490, .if_icmp .eq 51, 3), (1493, .iconst 0, 1), (1494, .ireturn, 1), (1495, .aload_n 1, 1), (1496, .aload_n 0, 1), (1497, .iload_n 3, 1), (1498, .iconst 1, 1), (1499, .iadd, 1), (1500, .iaload, 1), (1501, .invokevirtual 195, 3), (1504, .aload_n 2, 1), (1505, .aload_n 0, 1), (1506, .iload_n 3, 1), (1507, .iconst 1, 1), (1508, .iadd, 1), (1509, .iaload, 1), (1510, .invokevirtual 198, 3), (1513, .if_icmp .eq 28, 3), (1516, .iconst 0, 1), (1517, .ireturn, 1), (1518, .aload_n 1, 1), (1519, .aload_n 0, 1), (1520, .iload_n 3, 1), (1521, .iconst 1, 1), (1522, .iadd, 1), (1523, .iaload, 1), (1524, .invokevirtual 199, 3), (1527, .aload_n 2, 1), (1528, .aload_n 0, 1), (1529, .iload_n 3, 1), (1530, .iconst 1, 1), (1531, .iadd, 1), (1532, .iaload, 1), (1533, .invokevirtual 202, 3), (1536, .if_icmp .eq 5, 3), (1539, .iconst 0, 1), (1540, .ireturn, 1), (1541, .iinc 3 6, 3), (1544, .goto (-1526), 3), (1547, .iconst 1, 1), (1548, .ireturn, 1)]
set_option maxRecDepth 20000 in
theorem DL_law_8 : TL_law_8.all (fun q => decide (decode code q.1 = .ok q.2)) = true := by decide +kernel
end
section
/-! THE WORLD: 75 cells, whose addresses are variables; what they hold lies in one flat memory M -/
abbrev jM : Type := Nat → Int32
/-- the classes' numbers and slots; the cells' addresses; the array types (int, char, int rows, Sheet); the static tables' addresses; the texts' and their rows' -/
abbrev jE : Type := (Nat → ClassId) × (Nat → Nat → Nat) × (Nat → Nat) × (Nat → ClassId) × (Nat → Nat) × (Nat → Nat) × (Nat → Nat)
def ja (E : jE) (k : Nat) : Nat := E.2.2.1 k
def jt (E : jE) (k : Nat) : Nat := E.2.2.2.2.1 k
abbrev jcl : List vw_C := [(RX0, TX0, 4), (RX1, TX1, 7), (RX2, TX2, 1), (RX3, TX3, 3), (RX4, TX4, 2), (RX5, TX5, 2), (RX6, TX6, 4), (RX7, TX7, 10), (RX8, TX8, 24)]
abbrev jty (E : jE) : List (ClassId × FieldType) := [(E.2.2.2.1 0, .int), (E.2.2.2.1 1, .char), (E.2.2.2.1 2, .array .int), (E.2.2.2.1 3, .object RX3)]
/-- a cell: a row of numbers (type, how many, first place, step), a row of cells (type, which), an object (number of its kind, fields: a cell, a place, two places for a long) -/
abbrev jd : Type := (Nat × Nat × Nat × Nat) ⊕ ((Nat × List Nat) ⊕ (Nat × List (Nat ⊕ (Nat ⊕ (Nat × Nat)))))
def jmk (a b : Int32) : Int64 := Int64.ofBitVec (a.toBitVec ++ b.toBitVec)
def jhi (x : Int64) : Int32 := Int32.ofBitVec (x.toBitVec.extractLsb' 32 32)
def jlo (x : Int64) : Int32 := Int32.ofBitVec (x.toBitVec.extractLsb' 0 32)
theorem jmk_hl (x : Int64) : jmk (jhi x) (jlo x) = x := by
  apply Int64.toBitVec_inj.mp
  show (x.toBitVec.extractLsb' 32 32 ++ x.toBitVec.extractLsb' 0 32) = x.toBitVec
  ext i hi
  simp only [BitVec.getElem_append, BitVec.getElem_extractLsb']
  by_cases h : i < 32
  · simp [h, BitVec.getLsbD_eq_getElem hi]
  · simp only [h, dite_false]
    rw [show 32 + (i - 32) = i by omega, BitVec.getLsbD_eq_getElem hi]
def jv (E : jE) (M : jM) : Nat ⊕ (Nat ⊕ (Nat × Nat)) → Value
  | .inl k => .ref (ja E k)
  | .inr (.inl a) => .int (M a)
  | .inr (.inr q) => .long (jmk (M q.1) (M q.2))
def jcA (M : jM) (n b s : Nat) : Nat → Int32 := fun i => if i < n then M (b + s * i) else 0
def jcR (E : jE) (ks : List Nat) : Nat → Option Nat := fun i => (ks[i]?).map (ja E)
def jc (E : jE) (M : jM) : jd → va_E
  | .inl d => .inl (E.2.2.2.1 d.1, d.2.1, .inl (jcA M d.2.1 d.2.2.1 d.2.2.2))
  | .inr (.inl d) => .inl (E.2.2.2.1 d.1, d.2.length, .inr (.inr (.inr (.inr (jcR E d.2)))))
  | .inr (.inr d) => .inr (d.1, d.2.map (jv E M))
def jL : List jd := [
  .inr (.inr (1, [.inl 1, .inl 8, .inl 12, .inr (.inl 1), .inr (.inl 3), .inr (.inl 0), .inr (.inl 2)])),
  .inr (.inl (2, [2, 3, 4, 5, 6, 7])),
  .inl (0, 16, 4, 6),
  .inl (0, 16, 5, 6),
  .inl (0, 16, 6, 6),
  .inl (0, 16, 7, 6),
  .inl (0, 16, 8, 6),
  .inl (0, 16, 9, 6),
  .inr (.inl (2, [9, 10, 11])),
  .inl (0, 8, 100, 3),
  .inl (0, 8, 101, 3),
  .inl (0, 8, 102, 3),
  .inl (0, 10, 124, 1),
  .inr (.inr (1, [.inl 14, .inl 21, .inl 25, .inr (.inl 135), .inr (.inl 137), .inr (.inl 134), .inr (.inl 136)])),
  .inr (.inl (2, [15, 16, 17, 18, 19, 20])),
  .inl (0, 16, 138, 6),
  .inl (0, 16, 139, 6),
  .inl (0, 16, 140, 6),
  .inl (0, 16, 141, 6),
  .inl (0, 16, 142, 6),
  .inl (0, 16, 143, 6),
  .inr (.inl (2, [22, 23, 24])),
  .inl (0, 8, 234, 3),
  .inl (0, 8, 235, 3),
  .inl (0, 8, 236, 3),
  .inl (0, 10, 258, 1),
  .inr (.inr (1, [.inl 27, .inl 34, .inl 38, .inr (.inl 269), .inr (.inl 271), .inr (.inl 268), .inr (.inl 270)])),
  .inr (.inl (2, [28, 29, 30, 31, 32, 33])),
  .inl (0, 16, 272, 6),
  .inl (0, 16, 273, 6),
  .inl (0, 16, 274, 6),
  .inl (0, 16, 275, 6),
  .inl (0, 16, 276, 6),
  .inl (0, 16, 277, 6),
  .inr (.inl (2, [35, 36, 37])),
  .inl (0, 8, 368, 3),
  .inl (0, 8, 369, 3),
  .inl (0, 8, 370, 3),
  .inl (0, 10, 392, 1),
  .inr (.inr (0, [.inr (.inl 402), .inr (.inl 403), .inr (.inl 404), .inr (.inl 405)])),
  .inr (.inr (2, [.inl 41])),
  .inl (0, 16, 406, 1),
  .inr (.inr (4, [.inl 43, .inr (.inl 422)])),
  .inl (0, 120, 423, 1),
  .inr (.inr (5, [.inl 45, .inr (.inl 543)])),
  .inr (.inr (6, [.inl 46, .inl 47, .inl 48, .inr (.inl 544)])),
  .inl (0, 121, 545, 1),
  .inl (0, 121, 666, 1),
  .inl (0, 121, 787, 1),
  .inr (.inl (3, [50, 51, 52, 53])),
  .inr (.inr (3, [.inl 54, .inr (.inl 908), .inr (.inl 909)])),
  .inr (.inr (3, [.inl 55, .inr (.inl 950), .inr (.inl 951)])),
  .inr (.inr (3, [.inl 56, .inr (.inl 992), .inr (.inl 993)])),
  .inr (.inr (3, [.inl 57, .inr (.inl 1034), .inr (.inl 1035)])),
  .inl (0, 40, 910, 1),
  .inl (0, 40, 952, 1),
  .inl (0, 40, 994, 1),
  .inl (0, 40, 1036, 1),
  .inl (0, 7, 1076, 1),
  .inr (.inr (7, [.inl 0, .inl 13, .inl 26, .inr (.inl 1083), .inl 39, .inl 40, .inl 42, .inl 44, .inl 49, .inl 58])),
  .inr (.inr (8, [.inl 61, .inl 62, .inl 63, .inr (.inl 1853), .inl 64, .inr (.inl 1854), .inr (.inl 1855), .inr (.inl 1856), .inr (.inl 1857), .inl 65, .inl 66, .inr (.inl 1858), .inr (.inl 1859), .inr (.inl 1860), .inr (.inl 1861), .inr (.inr (2006, 2007)), .inl 71, .inl 72, .inl 73, .inl 74, .inl 67, .inl 68, .inl 69, .inl 70])),
  .inl (0, 134, 1100, 1),
  .inl (0, 134, 1234, 1),
  .inl (0, 134, 1368, 1),
  .inl (0, 7, 1502, 1),
  .inl (0, 16, 1509, 1),
  .inl (0, 120, 1525, 1),
  .inl (0, 4, 1645, 1),
  .inl (0, 4, 1649, 1),
  .inl (0, 160, 1653, 1),
  .inl (0, 40, 1813, 1),
  .inl (1, 56, 1862, 1),
  .inl (1, 16, 1918, 1),
  .inl (1, 24, 1934, 1),
  .inl (1, 48, 1958, 1)]
def jW (E : jE) (M : jM) : va_W := jL.mapIdx (fun k d => (ja E k, jc E M d))
theorem jW_at {E : jE} {M : jM} {k : Nat} {d : jd} (h : jL[k]? = some d) : (jW E M)[k]? = some (ja E k, jc E M d) := by
  simp [jW, List.getElem?_mapIdx, h]
theorem jW_of {E : jE} {M : jM} {k : Nat} {q : Nat × va_E} (h : (jW E M)[k]? = some q) : ∃ d, jL[k]? = some d ∧ q = (ja E k, jc E M d) := by
  simp only [jW, List.getElem?_mapIdx] at h
  cases hd : jL[k]? with
  | none => simp [hd] at h
  | some d =>
    simp only [hd, Option.map_some, Option.some.injEq] at h
    exact ⟨d, rfl, h.symm⟩
/-- whose place a place is -/
def jown (a : Nat) : Nat := if a < 402 then (if a % 134 < 4 then 13 * (a / 134) else if a % 134 < 100 then 13 * (a / 134) + 2 + (a % 134 - 4) % 6 else if a % 134 < 124 then 13 * (a / 134) + 9 + (a % 134 - 100) % 3 else 13 * (a / 134) + 12) else if a < 406 then 39 else if a < 422 then 41 else if a < 423 then 42 else if a < 543 then 43 else if a < 544 then 44 else if a < 545 then 45 else if a < 666 then 46 else if a < 787 then 47 else if a < 908 then 48 else if a < 910 then 50 else if a < 950 then 54 else if a < 952 then 51 else if a < 992 then 55 else if a < 994 then 52 else if a < 1034 then 56 else if a < 1036 then 53 else if a < 1076 then 57 else if a < 1083 then 58 else if a < 1084 then 59 else if a < 1100 then 999 else if a < 1234 then 61 else if a < 1368 then 62 else if a < 1502 then 63 else if a < 1509 then 64 else if a < 1525 then 65 else if a < 1645 then 66 else if a < 1649 then 67 else if a < 1653 then 68 else if a < 1813 then 69 else if a < 1853 then 70 else if a < 1862 then 60 else if a < 1918 then 71 else if a < 1934 then 72 else if a < 1958 then 73 else if a < 2006 then 74 else if a < 2008 then 60 else 999
def jplS : Nat ⊕ (Nat ⊕ (Nat × Nat)) → List Nat
  | .inl _ => []
  | .inr (.inl a) => [a]
  | .inr (.inr q) => [q.1, q.2]
def jpl : jd → List Nat
  | .inl d => (List.range d.2.1).map (fun i => d.2.2.1 + d.2.2.2 * i)
  | .inr (.inl _) => []
  | .inr (.inr d) => d.2.flatMap jplS
theorem jown_all : (jL.zipIdx.all (fun q => (jpl q.1).all (fun a => jown a == q.2))) = true := by decide +kernel
theorem jown_of {k : Nat} {d : jd} (h : jL[k]? = some d) {a : Nat} (ha : a ∈ jpl d) : jown a = k := by
  have h1 := List.all_eq_true.mp jown_all (d, k) (List.mem_of_getElem? (i := k) (by simp [h]))
  have h2 := List.all_eq_true.mp h1 a ha
  simpa using h2
theorem jv_same {E : jE} {M M' : jM} {q : Nat ⊕ (Nat ⊕ (Nat × Nat))} (h : ∀ a ∈ jplS q, M' a = M a) : jv E M' q = jv E M q := by
  rcases q with k | a | ⟨a, b⟩
  · rfl
  · simp only [jv]; rw [h a (by simp [jplS])]
  · simp only [jv]; rw [h a (by simp [jplS]), h b (by simp [jplS])]
theorem jc_same {E : jE} {M M' : jM} {d : jd} (h : ∀ a ∈ jpl d, M' a = M a) : jc E M' d = jc E M d := by
  rcases d with ⟨t, n, b, s⟩ | ⟨t, ks⟩ | ⟨ci, sl⟩
  · have e : jcA M' n b s = jcA M n b s := by
      funext i
      unfold jcA
      by_cases hi : i < n
      · rw [if_pos hi, if_pos hi]
        exact h _ (List.mem_map.mpr ⟨i, List.mem_range.mpr hi, rfl⟩)
      · rw [if_neg hi, if_neg hi]
    simp only [jc, e]
  · rfl
  · have e : sl.map (jv E M') = sl.map (jv E M) := List.map_congr_left (fun q hq => jv_same (fun a ha => h a (List.mem_flatMap.mpr ⟨q, hq, ha⟩)))
    simp only [jc, e]
/-- a write to one cell's places changes that cell alone -/
theorem jW_set {E : jE} {M M' : jM} {k : Nat} {d : jd} (h : jL[k]? = some d) (hM : ∀ a, jown a ≠ k → M' a = M a) : (jW E M).set k (ja E k, jc E M' d) = jW E M' := by
  apply List.ext_getElem?
  intro j
  by_cases hj : k = j
  · subst hj
    rw [List.getElem?_set_self (List.getElem?_eq_some_iff.mp (jW_at (E := E) (M := M) h)).1, jW_at h]
  · rw [List.getElem?_set_ne hj]
    cases hd : jL[j]? with
    | none => simp [jW, List.getElem?_mapIdx, hd]
    | some d2 =>
      rw [jW_at hd, jW_at hd, jc_same (M := M) (M' := M') (fun a ha => hM a (by rw [jown_of hd ha]; exact fun z => hj z.symm))]
def jA (E : jE) (sz : Nat) : Nat → Prop := fun q => (∃ k, k < 75 ∧ q = ja E k) ∨ sz ≤ q
def jI (E : jE) : Prop := ∀ i j, i < 75 → j < 75 → ja E i = ja E j → i = j
theorem jL_len : jL.length = 75 := by decide +kernel
theorem jL_lt {k : Nat} {d : jd} (h : jL[k]? = some d) : k < 75 := by
  have := (List.getElem?_eq_some_iff.mp h).1
  rw [jL_len] at this
  exact this
theorem jD_of {E : jE} {A : Nat → Prop} {M : jM} (hI : jI E) (hA : ∀ k, k < 75 → A (ja E k)) : va_D A (jW E M) := by
  refine ⟨fun i j p q hi hj e => ?_, fun k q hk => ?_⟩
  · obtain ⟨d1, h1, rfl⟩ := jW_of hi
    obtain ⟨d2, h2, rfl⟩ := jW_of hj
    exact hI i j (jL_lt h1) (jL_lt h2) e
  · obtain ⟨d1, h1, rfl⟩ := jW_of hk
    exact hA k (jL_lt h1)
/-! the locals, place by place -/
def jlv : Nat → List (Option Value) → List (Nat × Value)
  | _, [] => []
  | i, none :: r => jlv (i + 1) r
  | i, some v :: r => (i, v) :: jlv (i + 1) r
theorem mem_jlv : ∀ (lv : List (Option Value)) (k : Nat) (q : Nat × Value), q ∈ jlv k lv ↔ ∃ j, lv[j]? = some (some q.2) ∧ q.1 = k + j
  | [], k, q => by simp [jlv]
  | none :: r, k, q => by
    simp only [jlv]
    rw [mem_jlv r (k + 1) q]
    constructor
    · rintro ⟨j, h1, h2⟩
      exact ⟨j + 1, by simpa using h1, by omega⟩
    · rintro ⟨j, h1, h2⟩
      cases j with
      | zero => simp at h1
      | succ j => exact ⟨j, by simpa using h1, by omega⟩
  | some v :: r, k, q => by
    simp only [jlv, List.mem_cons]
    rw [mem_jlv r (k + 1) q]
    constructor
    · rintro (h | ⟨j, h1, h2⟩)
      · subst h
        exact ⟨0, by simp, by simp⟩
      · exact ⟨j + 1, by simpa using h1, by omega⟩
    · rintro ⟨j, h1, h2⟩
      cases j with
      | zero =>
        simp at h1
        subst h1
        exact Or.inl (by cases q; simp_all)
      | succ j => exact Or.inr ⟨j, by simpa using h1, by omega⟩
theorem jget {ls : Array Slot} {n i : Nat} {lv : List (Option Value)} {v : Value} (h : lv_has ls n (jlv 0 lv)) (hi : lv[i]? = some (some v)) : ls[i]? = some (.val v) :=
  h.2.2 (i, v) ((mem_jlv lv 0 (i, v)).mpr ⟨i, hi, by simp⟩)
def jok (lv : List (Option Value)) : Nat → Bool
  | 0 => true
  | i + 1 => match lv[i]? with
    | some (some v) => v.category != 2
    | _ => true
theorem jset1 {ls : Array Slot} {n i : Nat} {lv : List (Option Value)} {v : Value} (hk : jok lv i = true) (h : lv_has ls n ((i, v) :: (jlv 0 lv).filter (fun q => !(q.1 == i) && !(q.1 + 1 == i && q.2.category == 2)))) : lv_has ls n (jlv 0 (lv.set i (some v))) := by
  refine ⟨h.1, h.2.1, fun q hq => h.2.2 q ?_⟩
  obtain ⟨j, h1, h2⟩ := (mem_jlv _ _ _).mp hq
  rw [Nat.zero_add] at h2
  subst h2
  by_cases hj : q.1 = i
  · have hl : i < lv.length := by
      have := (List.getElem?_eq_some_iff.mp h1).1
      rw [List.length_set, hj] at this
      exact this
    rw [hj, List.getElem?_set_self hl] at h1
    cases q
    simp at h1 hj
    subst h1; subst hj
    exact List.mem_cons_self
  · rw [List.getElem?_set_ne (fun z => hj z.symm)] at h1
    refine List.mem_cons_of_mem _ (List.mem_filter.mpr ⟨(mem_jlv _ _ _).mpr ⟨q.1, h1, by simp⟩, ?_⟩)
    by_cases hj1 : q.1 + 1 = i
    · subst hj1
      simp only [jok, h1] at hk
      simp at hk
      simp [hk]
    · simp [hj, hj1]
theorem jset2 {ls : Array Slot} {n i : Nat} {lv : List (Option Value)} {v : Value} (hk : jok lv i = true) (h : lv_has ls n ((i, v) :: (jlv 0 lv).filter (fun q => !(q.1 == i) && (!(q.1 == i + 1) && !(q.1 + 1 == i && q.2.category == 2))))) : lv_has ls n (jlv 0 ((lv.set i (some v)).set (i + 1) none)) := by
  refine ⟨h.1, h.2.1, fun q hq => h.2.2 q ?_⟩
  obtain ⟨j, h1, h2⟩ := (mem_jlv _ _ _).mp hq
  rw [Nat.zero_add] at h2
  subst h2
  have hj2 : q.1 ≠ i + 1 := by
    intro z
    have hl := (List.getElem?_eq_some_iff.mp h1).1
    rw [List.length_set, z] at hl
    rw [z, List.getElem?_set_self hl] at h1
    simp at h1
  rw [List.getElem?_set_ne (fun z => hj2 z.symm)] at h1
  by_cases hj : q.1 = i
  · have hl : i < lv.length := by
      have := (List.getElem?_eq_some_iff.mp h1).1
      rw [List.length_set, hj] at this
      exact this
    rw [hj, List.getElem?_set_self hl] at h1
    cases q
    simp at h1 hj
    subst h1; subst hj
    exact List.mem_cons_self
  · rw [List.getElem?_set_ne (fun z => hj z.symm)] at h1
    refine List.mem_cons_of_mem _ (List.mem_filter.mpr ⟨(mem_jlv _ _ _).mpr ⟨q.1, h1, by simp⟩, ?_⟩)
    by_cases hj1 : q.1 + 1 = i
    · subst hj1
      simp only [jok, h1] at hk
      simp at hk
      simp [hk]
      omega
    · simp [hj, hj1, hj2]
theorem jent : ∀ (vs : List Value) (k i : Nat), (∀ v ∈ vs, v.category = 1) → jlv i (vs.map some ++ List.replicate k none) = lv_args i vs
  | [], k, i, _ => by
    induction k generalizing i with
    | zero => rfl
    | succ k ih => simp only [List.map_nil, List.nil_append, List.replicate_succ, jlv, lv_args] at ih ⊢; exact ih (i + 1)
  | v :: vs, k, i, h => by
    have hv := h v List.mem_cons_self
    simp only [List.map_cons, List.cons_append, jlv, lv_args, hv]
    rw [jent vs k (i + 1) (fun w hw => h w (List.mem_cons_of_mem _ hw))]
    rfl
/-! what a machine's state gives beside the cells: static tables, texts, the words of nest mates -/
def jtN (k : Nat) : String := match k with
  | 0 => "POND_LEAST"
  | 1 => "POND_MOST"
  | 2 => "THING_LEAST"
  | 3 => "THING_MOST"
  | _ => "KINDS_OF"
def jtV (k : Nat) : List Int32 := match k with
  | 0 => [0, 1, 0, 0, 0, 0]
  | 1 => [15, 9, 3, 1, 15, 99]
  | 2 => [0, 0, 1]
  | 3 => [6, 15, 99]
  | _ => [127, 66, 28, 24, 16, 32, 64]
def jNF : List Cond := [.fieldLinkNest RX1 42 RX7 "KINDS_OF" "[I" RX7, .fieldLinkNest RX5 68 RX7 "THING_LEAST" "[I" RX7, .fieldLinkNest RX5 72 RX7 "THING_MOST" "[I" RX7, .fieldLinkNest RX5 90 RX7 "POND_LEAST" "[I" RX7, .fieldLinkNest RX5 93 RX7 "POND_MOST" "[I" RX7]
def jsB : List (List Int32) := [[116, 104, 105, 110, 103], [102, 105, 115, 104], [100, 117, 99, 107], [102, 114, 111, 103], [104, 101, 114, 111, 110], [99, 111, 114, 107], [112, 105, 107, 101], [115, 104, 111, 119, 115], [115, 105, 122, 101], [116, 117, 114, 110, 101, 100], [102, 108, 105, 112, 112, 101, 100], [100, 105, 116, 99, 104], [100, 101, 112, 116, 104], [105, 110], [108, 111, 110, 103], [112, 111, 110, 100], [114, 97, 105, 110], [100, 114, 121]]
def jsT : List (Nat × String) := [(95, "thing"), (61, "fish"), (63, "duck"), (65, "frog"), (67, "heron"), (69, "cork"), (71, "pike"), (73, "shows"), (75, "size"), (77, "turned"), (79, "flipped"), (81, "ditch"), (83, "depth"), (85, "in"), (87, "long"), (89, "pond"), (91, "rain"), (93, "dry")]
def jF (E : jE) (A : Nat → Prop) (U : State) (H : Heap) : Prop :=
  (∀ k, k < 5 → va_Z RX7 (jtN k) "[I" (.ref (jt E k)) A U H ∧ va_T .int (jt E k) (jtV k).length (fun j => .int ((jtV k).getD j 0)) A U H) ∧
  (∀ w ∈ jNF, va_Nw w U) ∧
  vk_S 18 (jsB.map List.length) jsB E.2.2.2.2.2.1 E.2.2.2.2.2.2 A U H ∧
  (∀ i, i < 18 → vk_R RX6 ((jsT.getD i (0, "")).1) ((jsT.getD i (0, "")).2) (E.2.2.2.2.2.1 i) U) ∧
  va_Z "java/lang/String" "COMPACT_STRINGS" "Z" (.int 1) A U H ∧
  va_Zq "jdk/internal/util/Preconditions" "SIOOBE_FORMATTER" "Ljava/util/function/BiFunction;" A U H
theorem jNw {w : Cond} (hw : w ∈ jNF) {s U : State} (hW : s.WarmedH U.vm) (h : va_Nw w s) : va_Nw w U := by
  simp only [jNF, List.mem_cons, List.not_mem_nil, or_false] at hw
  rcases hw with rfl | rfl | rfl | rfl | rfl <;> exact va_Nw.warmF hW h
theorem jF.go {E : jE} {A B : Nat → Prop} {s U : State} {H0 H : Heap} {locs : List Loc} (h : jF E A s H0) (hS : va_S A H0 H locs) (hAB : ∀ q, B q → A q) (hW : s.WarmedH U.vm) : jF E B U H := by
  obtain ⟨h1, h2, h3, h4, h5, h6⟩ := h
  have hq := hS.2.1
  have hv := hW.alike
  refine ⟨fun k hk => ⟨va_Z.moved hv (((h1 k hk).1.kept hq).narrow hAB), va_T.moved hv (((h1 k hk).2.kept hq).narrow hAB)⟩, fun w hw => jNw hw hW (h2 w hw), vk_S.moved hv ((h3.kept hq).narrow hAB), fun i hi => (h4 i hi).warm hW, va_Z.moved hv ((h5.kept hq).narrow hAB), va_Zq.moved hv ((h6.kept hq).narrow hAB)⟩
theorem jF.blind {E : jE} {A : Nat → Prop} {U : State} {H : Heap} (g : JFrame) (mk : MethodId) (a : Array Value) (h : jF E A U H) : jF E A (U.calling g mk a) H := by
  obtain ⟨h1, h2, h3, h4, h5, h6⟩ := h
  have hv : U.vm.Alike (U.calling g mk a).vm := Vm.Alike.refl U.vm
  refine ⟨fun k hk => ⟨va_Z.moved hv (h1 k hk).1, va_T.moved hv (h1 k hk).2⟩, fun w hw => va_Nw.same (u := U) (U := U.calling g mk a) ?_ rfl (h2 w hw), vk_S.moved hv h3, fun i hi => (h4 i hi).same rfl, va_Z.moved hv h5, va_Zq.moved hv h6⟩
  simp only [jNF, List.mem_cons, List.not_mem_nil, or_false] at hw
  rcases hw with rfl | rfl | rfl | rfl | rfl <;> rfl
end
section
abbrev jX : Type := Program × Launch × Env × Room × State × MethodId × Array Value × List Frame × Method × Code × Nat × Nat × (State → Prop) × (Nat → Prop)
abbrev xp (X : jX) : Program := X.1
abbrev xl (X : jX) : Launch := X.2.1
abbrev xe (X : jX) : Env := X.2.2.1
abbrev xR (X : jX) : Room := X.2.2.2.1
abbrev xs (X : jX) : State := X.2.2.2.2.1
abbrev xm (X : jX) : MethodId := X.2.2.2.2.2.1
abbrev xa (X : jX) : Array Value := X.2.2.2.2.2.2.1
abbrev xb (X : jX) : List Frame := X.2.2.2.2.2.2.2.1
abbrev xt (X : jX) : Method := X.2.2.2.2.2.2.2.2.1
abbrev xc (X : jX) : Code := X.2.2.2.2.2.2.2.2.2.1
abbrev xk (X : jX) : Nat := X.2.2.2.2.2.2.2.2.2.2.1
abbrev xn (X : jX) : Nat := X.2.2.2.2.2.2.2.2.2.2.2.1
abbrev xQ (X : jX) : State → Prop := X.2.2.2.2.2.2.2.2.2.2.2.2.1
abbrev xA (X : jX) : Nat → Prop := X.2.2.2.2.2.2.2.2.2.2.2.2.2
abbrev xW (X : jX) (H : Heap) (locs : List Loc) (g : JFrame) : Prop := W (xp X) (xl X) (xe X) (xR X) (xs X) (xm X) (xa X) (xb X) (xt X) (xc X) H locs (xk X) (xn X) (xQ X) g
/-- from here, with these locals, this stack, this memory, the machine comes to the end that X names -/
def J (E : jE) (X : jX) (pc : Nat) (lv : List (Option Value)) (st : List Value) (M : jM) : Prop := ∀ (H : Heap) (locs : List Loc) (ls : Array Slot), va_P (E.1, E.2.1) jcl (jW E M) H → va_S (xA X) (xs X).heap H locs → lv_has ls lv.length (jlv 0 lv) → xW X H locs (F0 (xm X) pc ls st)
/-- what holds all along one method's body -/
def jK (l : Launch) (E : jE) (X : jX) (own : String) (cc : ByteArray) (nL d : Nat) : Prop :=
  CallFix (xp X) (xm X) (xc X) cc nL (xs X) (xa X) W0 own ∧ va_K (E.1, E.2.1) jcl (jty E) (xs X) ∧ jF E (xA X) (xs X) (xs X).heap ∧ jI E ∧ (∀ k, k < 75 → xA X (ja E k)) ∧ (∀ q, (xs X).heap.size ≤ q → xA X q) ∧ d ≤ (xR X).frames ∧ 38 * d ≤ (xR X).locals ∧ xk X ≤ (xR X).cells ∧ xn X ≤ (xR X).slots ∧ xl X = l
def jQ (E : jE) (sz : Nat) (Post : Option Value → jM → Prop) : Array Value → State → Outcome → State → Prop := fun _ st oc t => (∃ (r : Option Value) (M' : jM), oc = .returned r ∧ Post r M' ∧ va_P (E.1, E.2.1) jcl (jW E M') t.heap) ∧ va_F (jA E sz) st t
def jB (E : jE) (sz : Nat) (M : jM) (U : State) : Prop := U.heap.size = sz ∧ va_P (E.1, E.2.1) jcl (jW E M) U.heap ∧ va_K (E.1, E.2.1) jcl (jty E) U ∧ jF E (jA E sz) U U.heap ∧ jI E
abbrev jw (y : MethodName) (b : ByteArray) (n : Nat) (ret : Option FieldType) : List Cond := Cond.code y b n ret :: W0
abbrev jr (d : Nat) : Room := { frames := d, cells := 0, slots := 0, locals := 38 * d }
/-- a method's contract, at arguments and a memory -/
def CT (l : Launch) (E : jE) (d : Nat) (y : MethodName) (b : ByteArray) (n : Nat) (ret : Option FieldType) (as : List Value) (M : jM) (Post : Option Value → jM → Prop) : Prop := ∀ sz : Nat, Met l y (jw y b n ret) (jr d) (va_Pc as (jB E sz M)) (jQ E sz Post) 0 0 (jA E sz)
def jR (E : jE) (X : jX) (Post : Option Value → jM → Prop) (ret : Option FieldType) : Prop := xQ X = MQ (xb X) (jQ E (xs X).heap.size Post) (xa X) (xs X) 0 0 (xA X) ∧ xA X = jA E (xs X).heap.size ∧ xk X = 0 ∧ xn X = 0 ∧ (xt X).sig.returnType = ret ∧ (xt X).locks = false
theorem good_W0 {w : Cond} (h : w ∈ W0) : w ∈ W0 ∧ ((w.onTables && w.keeps) = true ∨ ∃ ty, w = .arrayClass ty) := ⟨h, good_of_word (W0_good w h)⟩
theorem CT_intro {l : Launch} {E : jE} {d : Nat} {y : MethodName} {b : ByteArray} {n : Nat} {ret : Option FieldType} {as : List Value} {M : jM} {Post : Option Value → jM → Prop} {own : String} (hy : plainName y.cls = true) (hc : y.cls = own) (h1 : ∀ v ∈ as, v.category = 1) (h2 : (lg_sl as).length ≤ n) (h3 : (as.map some ++ List.replicate (n - as.length) none).length = n)
    (body : ∀ X : jX, jK l E X own b n d → jR E X Post ret → J E X 0 (as.map some ++ List.replicate (n - as.length) none) [] M) : CT l E d y b n ret as M Post := by
  intro sz
  refine Met.ofW (cc := b) (maxL := n) (ret := ret) hy rfl ?_
  intro p e s m args below meth c s₁ B hml hv
  obtain ⟨rfl, hsz, hP, hK, hF, hI⟩ := hv
  have hx := B.exec
  have hb := B.bytes
  have hr := B.returns
  have hts := atoms_spec (ws := jw y b n ret) B.pre
  have hown : s.vm.findClass own = some m.cls := hc ▸ findClass_of_methodNamed B.named
  have hlocks := B.notSynchronized
  subst hsz
  have hl := lv_entry as (n := n) h2
  rw [lg_entry_eq]
  generalize (lg_sl as ++ List.replicate (n - (lg_sl as).length) Slot.unset).toArray = ls at hl ⊢
  have hX := body (p, l, e, (headSpec (jw y b n ret) (jr d)).room, s, m, as.toArray, below, meth, c, 0, 0, MQ below (jQ E s.heap.size Post) as.toArray s 0 0 (jA E s.heap.size), jA E s.heap.size)
    ⟨⟨hx, hb, hml, hown, fun w hw => hts w (List.mem_cons_of_mem _ hw)⟩, hK, hF, hI, fun k hk => Or.inl ⟨k, hk, rfl⟩, fun q hq => Or.inr hq, Nat.le_refl d, Nat.le_refl _, Nat.zero_le _, Nat.zero_le _, rfl⟩ ⟨rfl, rfl, rfl, rfl, hr, hlocks⟩
  exact hX s.heap [] ls hP va_S.rf (by rw [h3, jent as _ 0 h1]; exact hl)
section JR
variable {l : Launch} {E : jE} {X : jX} {own : String} {cc : ByteArray} {nL d : Nat} {pc : Nat} {lv : List (Option Value)} {st : List Value} {M : jM}

theorem J_iconst (C : jK l E X own cc nL d) {n : Int} {v : Int32} (hd : decode cc pc = .ok (.iconst n, 1)) (hv : Int32.ofInt n = v) (k : J E X (pc + 1) lv (.int v :: st) M) : J E X pc lv (st) M :=
  fun H locs ls hP hS hl => lv_iconst C.1.1 C.1.2.1 hd hv (k H locs ls hP hS hl)
theorem J_bipush (C : jK l E X own cc nL d) {n : Int} {v : Int32} (hd : decode cc pc = .ok (.bipush n, 2)) (hv : (Int8.ofInt n).toInt32 = v) (k : J E X (pc + 2) lv (.int v :: st) M) : J E X pc lv (st) M :=
  fun H locs ls hP hS hl => lv_bipush C.1.1 C.1.2.1 hd hv (k H locs ls hP hS hl)
theorem J_sipush (C : jK l E X own cc nL d) {n : Int} {v : Int32} (hd : decode cc pc = .ok (.sipush n, 3)) (hv : (Int16.ofInt n).toInt32 = v) (k : J E X (pc + 3) lv (.int v :: st) M) : J E X pc lv (st) M :=
  fun H locs ls hP hS hl => lv_sipush C.1.1 C.1.2.1 hd hv (k H locs ls hP hS hl)
theorem J_lconst (C : jK l E X own cc nL d) {n : Fin 2} {v : Int64} (hd : decode cc pc = .ok (.lconst n, 1)) (hv : Int64.ofNat (n : Nat) = v) (k : J E X (pc + 1) lv (.long v :: st) M) : J E X pc lv (st) M :=
  fun H locs ls hP hS hl => lv_lconst C.1.1 C.1.2.1 hd hv (k H locs ls hP hS hl)
theorem J_iload_n (C : jK l E X own cc nL d) {i : Fin 4} {x : Int32} (hd : decode cc pc = .ok (.iload_n i, 1)) (h : lv[(i : Nat)]? = some (some (.int x))) (k : J E X (pc + 1) lv (.int x :: st) M) : J E X pc lv (st) M :=
  fun H locs ls hP hS hl => lv_iload_n C.1.1 C.1.2.1 hd rfl (jget hl h) (k H locs ls hP hS hl)
theorem J_iload (C : jK l E X own cc nL d) {i : Nat} {x : Int32} (hd : decode cc pc = .ok (.iload i, 2)) (h : lv[i]? = some (some (.int x))) (k : J E X (pc + 2) lv (.int x :: st) M) : J E X pc lv (st) M :=
  fun H locs ls hP hS hl => lv_iload C.1.1 C.1.2.1 hd (jget hl h) (k H locs ls hP hS hl)
theorem J_lload_n (C : jK l E X own cc nL d) {i : Fin 4} {x : Int64} (hd : decode cc pc = .ok (.lload_n i, 1)) (h : lv[(i : Nat)]? = some (some (.long x))) (k : J E X (pc + 1) lv (.long x :: st) M) : J E X pc lv (st) M :=
  fun H locs ls hP hS hl => lv_lload_n C.1.1 C.1.2.1 hd rfl (jget hl h) (k H locs ls hP hS hl)
theorem J_lload (C : jK l E X own cc nL d) {i : Nat} {x : Int64} (hd : decode cc pc = .ok (.lload i, 2)) (h : lv[i]? = some (some (.long x))) (k : J E X (pc + 2) lv (.long x :: st) M) : J E X pc lv (st) M :=
  fun H locs ls hP hS hl => lv_lload C.1.1 C.1.2.1 hd (jget hl h) (k H locs ls hP hS hl)
theorem J_aload_n (C : jK l E X own cc nL d) {i : Fin 4} {x : Nat} (hd : decode cc pc = .ok (.aload_n i, 1)) (h : lv[(i : Nat)]? = some (some (.ref x))) (k : J E X (pc + 1) lv (.ref x :: st) M) : J E X pc lv (st) M :=
  fun H locs ls hP hS hl => lv_aload_n C.1.1 C.1.2.1 hd rfl (jget hl h) (k H locs ls hP hS hl)
theorem J_aload (C : jK l E X own cc nL d) {i : Nat} {x : Nat} (hd : decode cc pc = .ok (.aload i, 2)) (h : lv[i]? = some (some (.ref x))) (k : J E X (pc + 2) lv (.ref x :: st) M) : J E X pc lv (st) M :=
  fun H locs ls hP hS hl => lv_aload C.1.1 C.1.2.1 hd (jget hl h) (k H locs ls hP hS hl)
theorem J_istore_n (C : jK l E X own cc nL d) {i : Fin 4} {x : Int32} (hd : decode cc pc = .ok (.istore_n i, 1)) (hk : jok lv i = true) (hn : (i : Nat) < lv.length) (k : J E X (pc + 1) (lv.set i (some (.int x))) st M) : J E X pc lv (.int x :: st) M :=
  fun H locs ls hP hS hl => lv_istore_n C.1.1 C.1.2.1 hd rfl hl hn rfl (fun ls2 hl2 => k H locs ls2 hP hS (by rw [List.length_set]; exact jset1 hk hl2))
theorem J_istore (C : jK l E X own cc nL d) {i : Nat} {x : Int32} (hd : decode cc pc = .ok (.istore i, 2)) (hk : jok lv i = true) (hn : i < lv.length) (k : J E X (pc + 2) (lv.set i (some (.int x))) st M) : J E X pc lv (.int x :: st) M :=
  fun H locs ls hP hS hl => lv_istore C.1.1 C.1.2.1 hd hl hn rfl (fun ls2 hl2 => k H locs ls2 hP hS (by rw [List.length_set]; exact jset1 hk hl2))
theorem J_astore_n (C : jK l E X own cc nL d) {i : Fin 4} {x : Nat} (hd : decode cc pc = .ok (.astore_n i, 1)) (hk : jok lv i = true) (hn : (i : Nat) < lv.length) (k : J E X (pc + 1) (lv.set i (some (.ref x))) st M) : J E X pc lv (.ref x :: st) M :=
  fun H locs ls hP hS hl => lv_astore_n C.1.1 C.1.2.1 hd rfl hl hn rfl (fun ls2 hl2 => k H locs ls2 hP hS (by rw [List.length_set]; exact jset1 hk hl2))
theorem J_astore (C : jK l E X own cc nL d) {i : Nat} {x : Nat} (hd : decode cc pc = .ok (.astore i, 2)) (hk : jok lv i = true) (hn : i < lv.length) (k : J E X (pc + 2) (lv.set i (some (.ref x))) st M) : J E X pc lv (.ref x :: st) M :=
  fun H locs ls hP hS hl => lv_astore C.1.1 C.1.2.1 hd hl hn rfl (fun ls2 hl2 => k H locs ls2 hP hS (by rw [List.length_set]; exact jset1 hk hl2))
theorem J_lstore_n (C : jK l E X own cc nL d) {i : Fin 4} {x : Int64} (hd : decode cc pc = .ok (.lstore_n i, 1)) (hk : jok lv i = true) (hn : (i : Nat) + 1 < lv.length) (k : J E X (pc + 1) ((lv.set i (some (.long x))).set (i + 1) none) st M) : J E X pc lv (.long x :: st) M :=
  fun H locs ls hP hS hl => lv_lstore_n C.1.1 C.1.2.1 hd rfl hl hn rfl (fun ls2 hl2 => k H locs ls2 hP hS (by rw [List.length_set, List.length_set]; exact jset2 hk hl2))
theorem J_lstore (C : jK l E X own cc nL d) {i : Nat} {x : Int64} (hd : decode cc pc = .ok (.lstore i, 2)) (hk : jok lv i = true) (hn : i + 1 < lv.length) (k : J E X (pc + 2) ((lv.set i (some (.long x))).set (i + 1) none) st M) : J E X pc lv (.long x :: st) M :=
  fun H locs ls hP hS hl => lv_lstore C.1.1 C.1.2.1 hd hl hn rfl (fun ls2 hl2 => k H locs ls2 hP hS (by rw [List.length_set, List.length_set]; exact jset2 hk hl2))
theorem J_iinc (C : jK l E X own cc nL d) {i : Nat} {n : Int} {x v : Int32} (hd : decode cc pc = .ok (.iinc i n, 3)) (h : lv[i]? = some (some (.int x))) (hv : x + Int32.ofInt n = v) (hk : jok lv i = true) (k : J E X (pc + 3) (lv.set i (some (.int v))) st M) : J E X pc lv st M := by
  intro H locs ls hP hS hl
  obtain ⟨q, hq⟩ := List.getElem?_of_mem ((mem_jlv lv 0 (i, .int x)).mpr ⟨i, h, by simp⟩)
  exact lv_iinc C.1.1 C.1.2.1 hd hl hq hv (List.getElem?_eq_some_iff.mp h).1 rfl (fun ls2 hl2 => k H locs ls2 hP hS (by rw [List.length_set]; exact jset1 hk hl2))
theorem J_iadd (C : jK l E X own cc nL d) {x y : Int32} (hd : decode cc pc = .ok (.iadd, 1)) (k : J E X (pc + 1) lv (.int (x + y) :: st) M) : J E X pc lv (.int y :: .int x :: st) M :=
  fun H locs ls hP hS hl => lv_iadd C.1.1 C.1.2.1 hd (k H locs ls hP hS hl)
theorem J_isub (C : jK l E X own cc nL d) {x y : Int32} (hd : decode cc pc = .ok (.isub, 1)) (k : J E X (pc + 1) lv (.int (x - y) :: st) M) : J E X pc lv (.int y :: .int x :: st) M :=
  fun H locs ls hP hS hl => lv_isub C.1.1 C.1.2.1 hd (k H locs ls hP hS hl)
theorem J_imul (C : jK l E X own cc nL d) {x y : Int32} (hd : decode cc pc = .ok (.imul, 1)) (k : J E X (pc + 1) lv (.int (x * y) :: st) M) : J E X pc lv (.int y :: .int x :: st) M :=
  fun H locs ls hP hS hl => lv_imul C.1.1 C.1.2.1 hd (k H locs ls hP hS hl)
theorem J_iand (C : jK l E X own cc nL d) {x y : Int32} (hd : decode cc pc = .ok (.iand, 1)) (k : J E X (pc + 1) lv (.int (x &&& y) :: st) M) : J E X pc lv (.int y :: .int x :: st) M :=
  fun H locs ls hP hS hl => lv_iand C.1.1 C.1.2.1 hd (k H locs ls hP hS hl)
theorem J_ior (C : jK l E X own cc nL d) {x y : Int32} (hd : decode cc pc = .ok (.ior, 1)) (k : J E X (pc + 1) lv (.int (x ||| y) :: st) M) : J E X pc lv (.int y :: .int x :: st) M :=
  fun H locs ls hP hS hl => lv_ior C.1.1 C.1.2.1 hd (k H locs ls hP hS hl)
theorem J_ixor (C : jK l E X own cc nL d) {x y : Int32} (hd : decode cc pc = .ok (.ixor, 1)) (k : J E X (pc + 1) lv (.int (x ^^^ y) :: st) M) : J E X pc lv (.int y :: .int x :: st) M :=
  fun H locs ls hP hS hl => lv_ixor C.1.1 C.1.2.1 hd (k H locs ls hP hS hl)
theorem J_ishl (C : jK l E X own cc nL d) {x y : Int32} (hd : decode cc pc = .ok (.ishl, 1)) (k : J E X (pc + 1) lv (.int (x <<< (y &&& 31)) :: st) M) : J E X pc lv (.int y :: .int x :: st) M :=
  fun H locs ls hP hS hl => lv_ishl C.1.1 C.1.2.1 hd (k H locs ls hP hS hl)
theorem J_ishr (C : jK l E X own cc nL d) {x y : Int32} (hd : decode cc pc = .ok (.ishr, 1)) (k : J E X (pc + 1) lv (.int (x >>> (y &&& 31)) :: st) M) : J E X pc lv (.int y :: .int x :: st) M :=
  fun H locs ls hP hS hl => lv_ishr C.1.1 C.1.2.1 hd (k H locs ls hP hS hl)
theorem J_idiv (C : jK l E X own cc nL d) {x y : Int32} (hd : decode cc pc = .ok (.idiv, 1)) (hne : ¬ y = 0) (k : J E X (pc + 1) lv (.int (x / y) :: st) M) : J E X pc lv (.int y :: .int x :: st) M :=
  fun H locs ls hP hS hl => lv_idiv C.1.1 C.1.2.1 hd hne (k H locs ls hP hS hl)
theorem J_irem (C : jK l E X own cc nL d) {x y : Int32} (hd : decode cc pc = .ok (.irem, 1)) (hne : ¬ y = 0) (k : J E X (pc + 1) lv (.int (x - x / y * y) :: st) M) : J E X pc lv (.int y :: .int x :: st) M :=
  fun H locs ls hP hS hl => lv_irem C.1.1 C.1.2.1 hd hne (k H locs ls hP hS hl)
theorem J_ineg (C : jK l E X own cc nL d) {x : Int32} (hd : decode cc pc = .ok (.ineg, 1)) (k : J E X (pc + 1) lv (.int (-x) :: st) M) : J E X pc lv (.int x :: st) M :=
  fun H locs ls hP hS hl => lv_ineg C.1.1 C.1.2.1 hd (k H locs ls hP hS hl)
theorem J_iushr (C : jK l E X own cc nL d) {x y : Int32} (hd : decode cc pc = .ok (.iushr, 1)) (k : J E X (pc + 1) lv (.int ((x.toUInt32 >>> (y.toUInt32 &&& Int32.toUInt32 31)).toInt32) :: st) M) : J E X pc lv (.int y :: .int x :: st) M :=
  fun H locs ls hP hS hl => lv_iushr C.1.1 C.1.2.1 hd rfl (k H locs ls hP hS hl)
theorem J_ladd (C : jK l E X own cc nL d) {x y : Int64} (hd : decode cc pc = .ok (.ladd, 1)) (k : J E X (pc + 1) lv (.long (x + y) :: st) M) : J E X pc lv (.long y :: .long x :: st) M :=
  fun H locs ls hP hS hl => lv_ladd C.1.1 C.1.2.1 hd (k H locs ls hP hS hl)
theorem J_lsub (C : jK l E X own cc nL d) {x y : Int64} (hd : decode cc pc = .ok (.lsub, 1)) (k : J E X (pc + 1) lv (.long (x - y) :: st) M) : J E X pc lv (.long y :: .long x :: st) M :=
  fun H locs ls hP hS hl => lv_lsub C.1.1 C.1.2.1 hd (k H locs ls hP hS hl)
theorem J_lmul (C : jK l E X own cc nL d) {x y : Int64} (hd : decode cc pc = .ok (.lmul, 1)) (k : J E X (pc + 1) lv (.long (x * y) :: st) M) : J E X pc lv (.long y :: .long x :: st) M :=
  fun H locs ls hP hS hl => lv_lmul C.1.1 C.1.2.1 hd (k H locs ls hP hS hl)
theorem J_land (C : jK l E X own cc nL d) {x y : Int64} (hd : decode cc pc = .ok (.land, 1)) (k : J E X (pc + 1) lv (.long (x &&& y) :: st) M) : J E X pc lv (.long y :: .long x :: st) M :=
  fun H locs ls hP hS hl => lv_land C.1.1 C.1.2.1 hd (k H locs ls hP hS hl)
theorem J_ldiv (C : jK l E X own cc nL d) {x y : Int64} (hd : decode cc pc = .ok (.ldiv, 1)) (hne : ¬ y = 0) (k : J E X (pc + 1) lv (.long (x / y) :: st) M) : J E X pc lv (.long y :: .long x :: st) M :=
  fun H locs ls hP hS hl => lv_ldiv C.1.1 C.1.2.1 hd hne (k H locs ls hP hS hl)
theorem J_lrem (C : jK l E X own cc nL d) {x y : Int64} (hd : decode cc pc = .ok (.lrem, 1)) (hne : ¬ y = 0) (k : J E X (pc + 1) lv (.long (x - x / y * y) :: st) M) : J E X pc lv (.long y :: .long x :: st) M :=
  fun H locs ls hP hS hl => lv_lrem C.1.1 C.1.2.1 hd hne (k H locs ls hP hS hl)
theorem J_i2l (C : jK l E X own cc nL d) {x : Int32} (hd : decode cc pc = .ok (.i2l, 1)) (k : J E X (pc + 1) lv (.long x.toInt64 :: st) M) : J E X pc lv (.int x :: st) M :=
  fun H locs ls hP hS hl => lv_i2l C.1.1 C.1.2.1 hd rfl (k H locs ls hP hS hl)
theorem J_l2i (C : jK l E X own cc nL d) {x : Int64} (hd : decode cc pc = .ok (.l2i, 1)) (k : J E X (pc + 1) lv (.int x.toInt32 :: st) M) : J E X pc lv (.long x :: st) M :=
  fun H locs ls hP hS hl => lv_l2i C.1.1 C.1.2.1 hd rfl (k H locs ls hP hS hl)
theorem J_i2b (C : jK l E X own cc nL d) {x : Int32} (hd : decode cc pc = .ok (.i2b, 1)) (k : J E X (pc + 1) lv (.int x.toInt8.toInt32 :: st) M) : J E X pc lv (.int x :: st) M :=
  fun H locs ls hP hS hl => lv_i2b C.1.1 C.1.2.1 hd rfl (k H locs ls hP hS hl)
theorem J_i2s (C : jK l E X own cc nL d) {x : Int32} (hd : decode cc pc = .ok (.i2s, 1)) (k : J E X (pc + 1) lv (.int x.toInt16.toInt32 :: st) M) : J E X pc lv (.int x :: st) M :=
  fun H locs ls hP hS hl => lv_i2s C.1.1 C.1.2.1 hd rfl (k H locs ls hP hS hl)
theorem J_lcmp (C : jK l E X own cc nL d) {x y : Int64} (hd : decode cc pc = .ok (.lcmp, 1)) (k : J E X (pc + 1) lv (.int (lg_cmp x y) :: st) M) : J E X pc lv (.long y :: .long x :: st) M :=
  fun H locs ls hP hS hl => W.lcmp C.1.1 C.1.2.1 hd (k H locs ls hP hS hl)
theorem J_dup (C : jK l E X own cc nL d) {v : Value} (hd : decode cc pc = .ok (.dup, 1)) (hc : v.category = 1) (k : J E X (pc + 1) lv (v :: v :: st) M) : J E X pc lv (v :: st) M :=
  fun H locs ls hP hS hl => lv_dup C.1.1 C.1.2.1 hd hc (k H locs ls hP hS hl)
theorem J_pop (C : jK l E X own cc nL d) {v : Value} (hd : decode cc pc = .ok (.pop, 1)) (hc : v.category = 1) (k : J E X (pc + 1) lv (st) M) : J E X pc lv (v :: st) M :=
  fun H locs ls hP hS hl => lv_pop C.1.1 C.1.2.1 hd hc (k H locs ls hP hS hl)
theorem J_dup_x1 (C : jK l E X own cc nL d) {v w : Value} (hd : decode cc pc = .ok (.dup_x1, 1)) (hc : v.category = 1) (hc2 : w.category = 1) (k : J E X (pc + 1) lv (v :: w :: v :: st) M) : J E X pc lv (v :: w :: st) M :=
  fun H locs ls hP hS hl => lv_dup_x1 C.1.1 C.1.2.1 hd hc hc2 (k H locs ls hP hS hl)
theorem J_dup2 (C : jK l E X own cc nL d) {v w : Value} (hd : decode cc pc = .ok (.dup2, 1)) (hc : v.category = 1) (hc2 : w.category = 1) (k : J E X (pc + 1) lv (v :: w :: v :: w :: st) M) : J E X pc lv (v :: w :: st) M :=
  fun H locs ls hP hS hl => lv_dup2_11 C.1.1 C.1.2.1 hd hc hc2 (k H locs ls hP hS hl)
theorem J_if_eq (C : jK l E X own cc nL d) {x : Int32} {off : Int} {tgt : Nat} (hd : decode cc pc = .ok (.ifCond .eq off, 3)) (ht : (pc : Int) + off = (tgt : Int)) (kt : x = 0 → J E X tgt lv st M) (kf : ¬ x = 0 → J E X (pc + 3) lv st M) : J E X pc lv (.int x :: st) M :=
  fun H locs ls hP hS hl => lv_if_eq C.1.1 C.1.2.1 hd ht (fun z => kt z H locs ls hP hS hl) (fun z => kf z H locs ls hP hS hl)
theorem J_icmp_eq (C : jK l E X own cc nL d) {x y : Int32} {off : Int} {tgt : Nat} (hd : decode cc pc = .ok (.if_icmp .eq off, 3)) (ht : (pc : Int) + off = (tgt : Int)) (kt : x = y → J E X tgt lv st M) (kf : ¬ x = y → J E X (pc + 3) lv st M) : J E X pc lv (.int y :: .int x :: st) M :=
  fun H locs ls hP hS hl => lv_icmp_eq C.1.1 C.1.2.1 hd ht (fun z => kt z H locs ls hP hS hl) (fun z => kf z H locs ls hP hS hl)
theorem J_if_ne (C : jK l E X own cc nL d) {x : Int32} {off : Int} {tgt : Nat} (hd : decode cc pc = .ok (.ifCond .ne off, 3)) (ht : (pc : Int) + off = (tgt : Int)) (kt : ¬ x = 0 → J E X tgt lv st M) (kf : x = 0 → J E X (pc + 3) lv st M) : J E X pc lv (.int x :: st) M :=
  fun H locs ls hP hS hl => lv_if_ne C.1.1 C.1.2.1 hd ht (fun z => kt z H locs ls hP hS hl) (fun z => kf z H locs ls hP hS hl)
theorem J_icmp_ne (C : jK l E X own cc nL d) {x y : Int32} {off : Int} {tgt : Nat} (hd : decode cc pc = .ok (.if_icmp .ne off, 3)) (ht : (pc : Int) + off = (tgt : Int)) (kt : ¬ x = y → J E X tgt lv st M) (kf : x = y → J E X (pc + 3) lv st M) : J E X pc lv (.int y :: .int x :: st) M :=
  fun H locs ls hP hS hl => lv_icmp_ne C.1.1 C.1.2.1 hd ht (fun z => kt z H locs ls hP hS hl) (fun z => kf z H locs ls hP hS hl)
theorem J_if_lt (C : jK l E X own cc nL d) {x : Int32} {off : Int} {tgt : Nat} (hd : decode cc pc = .ok (.ifCond .lt off, 3)) (ht : (pc : Int) + off = (tgt : Int)) (kt : x < 0 → J E X tgt lv st M) (kf : ¬ x < 0 → J E X (pc + 3) lv st M) : J E X pc lv (.int x :: st) M :=
  fun H locs ls hP hS hl => lv_if_lt C.1.1 C.1.2.1 hd ht (fun z => kt z H locs ls hP hS hl) (fun z => kf z H locs ls hP hS hl)
theorem J_icmp_lt (C : jK l E X own cc nL d) {x y : Int32} {off : Int} {tgt : Nat} (hd : decode cc pc = .ok (.if_icmp .lt off, 3)) (ht : (pc : Int) + off = (tgt : Int)) (kt : x < y → J E X tgt lv st M) (kf : ¬ x < y → J E X (pc + 3) lv st M) : J E X pc lv (.int y :: .int x :: st) M :=
  fun H locs ls hP hS hl => lv_icmp_lt C.1.1 C.1.2.1 hd ht (fun z => kt z H locs ls hP hS hl) (fun z => kf z H locs ls hP hS hl)
theorem J_if_ge (C : jK l E X own cc nL d) {x : Int32} {off : Int} {tgt : Nat} (hd : decode cc pc = .ok (.ifCond .ge off, 3)) (ht : (pc : Int) + off = (tgt : Int)) (kt : 0 ≤ x → J E X tgt lv st M) (kf : ¬ 0 ≤ x → J E X (pc + 3) lv st M) : J E X pc lv (.int x :: st) M :=
  fun H locs ls hP hS hl => lv_if_ge C.1.1 C.1.2.1 hd ht (fun z => kt z H locs ls hP hS hl) (fun z => kf z H locs ls hP hS hl)
theorem J_icmp_ge (C : jK l E X own cc nL d) {x y : Int32} {off : Int} {tgt : Nat} (hd : decode cc pc = .ok (.if_icmp .ge off, 3)) (ht : (pc : Int) + off = (tgt : Int)) (kt : y ≤ x → J E X tgt lv st M) (kf : ¬ y ≤ x → J E X (pc + 3) lv st M) : J E X pc lv (.int y :: .int x :: st) M :=
  fun H locs ls hP hS hl => lv_icmp_ge C.1.1 C.1.2.1 hd ht (fun z => kt z H locs ls hP hS hl) (fun z => kf z H locs ls hP hS hl)
theorem J_if_gt (C : jK l E X own cc nL d) {x : Int32} {off : Int} {tgt : Nat} (hd : decode cc pc = .ok (.ifCond .gt off, 3)) (ht : (pc : Int) + off = (tgt : Int)) (kt : 0 < x → J E X tgt lv st M) (kf : ¬ 0 < x → J E X (pc + 3) lv st M) : J E X pc lv (.int x :: st) M :=
  fun H locs ls hP hS hl => lv_if_gt C.1.1 C.1.2.1 hd ht (fun z => kt z H locs ls hP hS hl) (fun z => kf z H locs ls hP hS hl)
theorem J_icmp_gt (C : jK l E X own cc nL d) {x y : Int32} {off : Int} {tgt : Nat} (hd : decode cc pc = .ok (.if_icmp .gt off, 3)) (ht : (pc : Int) + off = (tgt : Int)) (kt : y < x → J E X tgt lv st M) (kf : ¬ y < x → J E X (pc + 3) lv st M) : J E X pc lv (.int y :: .int x :: st) M :=
  fun H locs ls hP hS hl => lv_icmp_gt C.1.1 C.1.2.1 hd ht (fun z => kt z H locs ls hP hS hl) (fun z => kf z H locs ls hP hS hl)
theorem J_if_le (C : jK l E X own cc nL d) {x : Int32} {off : Int} {tgt : Nat} (hd : decode cc pc = .ok (.ifCond .le off, 3)) (ht : (pc : Int) + off = (tgt : Int)) (kt : x ≤ 0 → J E X tgt lv st M) (kf : ¬ x ≤ 0 → J E X (pc + 3) lv st M) : J E X pc lv (.int x :: st) M :=
  fun H locs ls hP hS hl => lv_if_le C.1.1 C.1.2.1 hd ht (fun z => kt z H locs ls hP hS hl) (fun z => kf z H locs ls hP hS hl)
theorem J_icmp_le (C : jK l E X own cc nL d) {x y : Int32} {off : Int} {tgt : Nat} (hd : decode cc pc = .ok (.if_icmp .le off, 3)) (ht : (pc : Int) + off = (tgt : Int)) (kt : x ≤ y → J E X tgt lv st M) (kf : ¬ x ≤ y → J E X (pc + 3) lv st M) : J E X pc lv (.int y :: .int x :: st) M :=
  fun H locs ls hP hS hl => lv_icmp_le C.1.1 C.1.2.1 hd ht (fun z => kt z H locs ls hP hS hl) (fun z => kf z H locs ls hP hS hl)
theorem J_goto (C : jK l E X own cc nL d) {off : Int} {tgt : Nat} (hd : decode cc pc = .ok (.goto off, 3)) (ht : (pc : Int) + off = (tgt : Int)) (k : J E X tgt lv st M) : J E X pc lv st M :=
  fun H locs ls hP hS hl => lv_goto C.1.1 C.1.2.1 hd ht (k H locs ls hP hS hl)
theorem J_tabIn (C : jK l E X own cc nL d) {dflt lo hi : Int} {offs : Array Int} {len : Nat} {x : Int32} {off : Int} {tgt : Nat} (hd : decode cc pc = .ok (.tableswitch dflt lo hi offs, len)) (h1 : ¬ x.toInt < lo) (h2 : ¬ hi < x.toInt) (ho : offs[(x.toInt - lo).toNat]? = some off) (ht : (pc : Int) + off = (tgt : Int)) (k : J E X tgt lv st M) : J E X pc lv (.int x :: st) M :=
  fun H locs ls hP hS hl => lv_tableIn C.1.1 C.1.2.1 hd h1 h2 ho ht (k H locs ls hP hS hl)
theorem J_tabOut (C : jK l E X own cc nL d) {dflt lo hi : Int} {offs : Array Int} {len : Nat} {x : Int32} {tgt : Nat} (hd : decode cc pc = .ok (.tableswitch dflt lo hi offs, len)) (h : x.toInt < lo ∨ hi < x.toInt) (ht : (pc : Int) + dflt = (tgt : Int)) (k : J E X tgt lv st M) : J E X pc lv (.int x :: st) M :=
  fun H locs ls hP hS hl => lv_tableOut C.1.1 C.1.2.1 hd h ht (k H locs ls hP hS hl)
theorem J_lookup (C : jK l E X own cc nL d) {dflt : Int} {ps : Array (Int × Int)} {len : Nat} {x : Int32} {off : Int} {tgt : Nat} (hd : decode cc pc = .ok (.lookupswitch dflt ps, len)) (hp : (ps.toList.zip (ps.toList.drop 1)).all (fun (a, next) => a.1 < next.1) = true) (ho : Op.lookupswitch.offset ps.toList dflt x.toInt = off) (ht : (pc : Int) + off = (tgt : Int)) (k : J E X tgt lv st M) : J E X pc lv (.int x :: st) M :=
  fun H locs ls hP hS hl => lv_lookup C.1.1 C.1.2.1 hd hp ho ht (k H locs ls hP hS hl)
theorem J_ldc (C : jK l E X own cc nL d) {i : Nat} {v : Int32} (hw : Cond.constant own i v ∈ W0) (hd : decode cc pc = .ok (.ldc i, 2)) (k : J E X (pc + 2) lv (.int v :: st) M) : J E X pc lv st M :=
  fun H locs ls hP hS hl => lv_ldc C.1.1 C.1.2.1 C.1.2.2.2.1 (C.1.2.2.2.2 _ hw) hd (k H locs ls hP hS hl)
theorem J_ldc2 (C : jK l E X own cc nL d) {i : Nat} {v : Int64} (hw : Cond.constantLong own i v ∈ W0) (hd : decode cc pc = .ok (.ldc2_w i, 3)) (k : J E X (pc + 3) lv (.long v :: st) M) : J E X pc lv st M :=
  fun H locs ls hP hS hl => lv_ldc2 C.1.1 C.1.2.1 C.1.2.2.2.1 (C.1.2.2.2.2 _ hw) hd (k H locs ls hP hS hl)
theorem j_ix {i : Int32} {j n : Nat} (h : i = nI j) (hj : j < n) (hn : n < 2 ^ 31) : vp_in i n ∧ i.toNatClampNeg = j := by
  subst h
  exact ⟨vp_in_nI hj hn, nI_clamp (by omega)⟩
theorem J_iald (C : jK l E X own cc nL d) {k n b s j : Nat} {i : Int32} (hk : jL[k]? = some (.inl (0, n, b, s))) (hi : i = nI j) (hj : j < n) (hd : decode cc pc = .ok (.iaload, 1)) (kk : J E X (pc + 1) lv (.int (M (b + s * j)) :: st) M) (hn : n < 1000 := by decide) : J E X pc lv (.int i :: .ref (ja E k) :: st) M := by
  intro H locs ls hP hS hl
  obtain ⟨h1, h2⟩ := j_ix hi hj (by omega)
  have e : jcA M n b s i.toNatClampNeg = M (b + s * j) := by rw [h2]; exact if_pos hj
  exact va_iald C.1.1 C.1.2.1 C.2.1 hP k 0 (jW_at hk) rfl h1 hd (by rw [e]; exact kk H locs ls hP hS hl)
theorem J_cald (C : jK l E X own cc nL d) {k n b s j : Nat} {i : Int32} (hk : jL[k]? = some (.inl (1, n, b, s))) (hi : i = nI j) (hj : j < n) (hd : decode cc pc = .ok (.caload, 1)) (kk : J E X (pc + 1) lv (.int (M (b + s * j)) :: st) M) (hn : n < 1000 := by decide) : J E X pc lv (.int i :: .ref (ja E k) :: st) M := by
  intro H locs ls hP hS hl
  obtain ⟨h1, h2⟩ := j_ix hi hj (by omega)
  have e : jcA M n b s i.toNatClampNeg = M (b + s * j) := by rw [h2]; exact if_pos hj
  exact va_cald C.1.1 C.1.2.1 C.2.1 hP k 1 (jW_at hk) rfl h1 hd (by rw [e]; exact kk H locs ls hP hS hl)
theorem jcA_upd {n b s j : Nat} {x : Int32} (hj : j < n) (hs : 0 < s) : upd (jcA M n b s) j x = jcA (upd M (b + s * j) x) n b s := by
  funext q
  unfold upd jcA
  by_cases hq : q = j
  · subst hq
    simp [hj]
  · have : ¬ b + s * q = b + s * j := fun z => hq (Nat.eq_of_mul_eq_mul_left hs (by omega))
    rw [if_neg hq]
    show _ = if q < n then (if b + s * q = b + s * j then x else M (b + s * q)) else 0
    rw [if_neg this]
theorem J_iast (C : jK l E X own cc nL d) {k n b s j : Nat} {i x : Int32} (hk : jL[k]? = some (.inl (0, n, b, s))) (hi : i = nI j) (hj : j < n) (hd : decode cc pc = .ok (.iastore, 1)) (kk : J E X (pc + 1) lv st (upd M (b + s * j) x)) (hn : n < 1000 := by decide) (hs : 0 < s := by decide) : J E X pc lv (.int x :: .int i :: .ref (ja E k) :: st) M := by
  intro H locs ls hP hS hl
  obtain ⟨h1, h2⟩ := j_ix hi hj (by omega)
  refine va_iast C.1.1 C.1.2.1 C.2.1 hP (jD_of C.2.2.2.1 C.2.2.2.2.1) hS k 0 (jW_at hk) rfl h1 hd (fun H1 locs1 hP1 _ hS1 => ?_)
  have e : (jW E M).set k (ja E k, .inl (E.2.2.2.1 0, n, .inl (upd (jcA M n b s) i.toNatClampNeg x))) = jW E (upd M (b + s * j) x) := by
    have h := jW_set (E := E) (M := M) (M' := upd M (b + s * j) x) hk (fun a ha => pk_un (fun z => ha (by rw [z]; exact jown_of hk (List.mem_map.mpr ⟨j, List.mem_range.mpr hj, rfl⟩))))
    rw [h2, jcA_upd hj hs]
    exact h
  exact kk H1 locs1 ls (e ▸ hP1) hS1 hl
theorem J_aald (C : jK l E X own cc nL d) {k t j q : Nat} {ks : List Nat} {i : Int32} {ty : FieldType} {cA : ClassId} (hk : jL[k]? = some (.inr (.inl (t, ks)))) (ht : (jty E)[t]? = some (E.2.2.2.1 t, ty)) (hr : ty.isReference = true) (hi : i = nI j) (hq : ks[j]? = some q) (hd : decode cc pc = .ok (.aaload, 1)) (kk : J E X (pc + 1) lv (.ref (ja E q) :: st) M) (hn : ks.length < 1000 := by decide) : J E X pc lv (.int i :: .ref (ja E k) :: st) M := by
  intro H locs ls hP hS hl
  have hj : j < ks.length := (List.getElem?_eq_some_iff.mp hq).1
  obtain ⟨h1, h2⟩ := j_ix hi hj (by omega)
  have hlt : i.toNatClampNeg < ks.length := by rw [h2]; exact hj
  have e : va_rf (jcR E ks i.toNatClampNeg) = .ref (ja E q) := by rw [h2]; simp [jcR, hq, va_rf]
  have hat := hP k _ (jW_at hk)
  exact W.aald (v := va_rf (jcR E ks i.toNatClampNeg)) (ty := ty) C.1.1 C.1.2.1 hat ((C.2.1.2 t _ ht).1 ks.length (fun j => va_rf (jcR E ks j))) hr (fun q => by cases q) (by show ¬ (i < 0 ∨ (arrV _ _ _).slots.size ≤ _); rw [arrV_size]; exact h1) (by show (arrV _ _ _).slots[_]? = _; rw [arrV_read _ _ hlt]) rfl rfl hd (by rw [e]; exact kk H locs ls hP hS hl)
theorem J_alen (C : jK l E X own cc nL d) {k t n b s : Nat} {ty : FieldType} (hk : jL[k]? = some (.inl (t, n, b, s))) (ht : (jty E)[t]? = some (E.2.2.2.1 t, ty)) (hd : decode cc pc = .ok (.arraylength, 1)) (kk : J E X (pc + 1) lv (.int (nI n) :: st) M) : J E X pc lv (.ref (ja E k) :: st) M :=
  fun H locs ls hP hS hl => va_alen C.1.1 C.1.2.1 C.2.1 hP k t (jW_at hk) ht rfl hd (kk H locs ls hP hS hl)
theorem J_get (C : jK l E X own cc nL d) {k ci j i N : Nat} {T : u_T} {Cn : String} {sl : List (Nat ⊕ (Nat ⊕ (Nat × Nat)))} {q : Nat ⊕ (Nat ⊕ (Nat × Nat))} (hk : jL[k]? = some (.inr (.inr (ci, sl)))) (hin : ∀ w ∈ u_ws Cn T N, w ∈ W0) (hc : jcl[ci]? = some (Cn, T, N)) (hj : j < N) (hq : sl[j]? = some q) (hw : Cond.fieldLink own i (T j).1 (T j).2.1 (T j).2.2.1 ∈ W0) (hd : decode cc pc = .ok (.getfield i, 3)) (kk : J E X (pc + 3) lv (jv E M q :: st) M) : J E X pc lv (.ref (ja E k) :: st) M :=
  fun H locs ls hP hS hl => va_get (D := (E.1, E.2.1)) (ci := ci) (v := jv E M q) (C := Cn) (T := T) (N := N) C.1.1 C.1.2.1 C.1.2.2.2.2 hin C.1.2.2.2.1 C.2.1 hP k (jW_at hk) hc j hj (C.1.2.2.2.2 _ hw) (fun _ h9 => h9) (by simp [hq]) hd (kk H locs ls hP hS hl)
theorem jv_set {sl : List (Nat ⊕ (Nat ⊕ (Nat × Nat)))} {j : Nat} {q : Nat ⊕ (Nat ⊕ (Nat × Nat))} {M' : jM} (hq : sl[j]? = some q) (hM : ∀ i q', sl[i]? = some q' → i ≠ j → jv E M' q' = jv E M q') : (sl.map (jv E M)).set j (jv E M' q) = sl.map (jv E M') := by
  apply List.ext_getElem?
  intro i
  by_cases hi : j = i
  · subst hi
    rw [List.getElem?_set_self (by rw [List.length_map]; exact (List.getElem?_eq_some_iff.mp hq).1)]
    simp [hq]
  · rw [List.getElem?_set_ne hi, List.getElem?_map, List.getElem?_map]
    cases h : sl[i]? with
    | none => rfl
    | some q' => simp only [Option.map_some]; rw [hM i q' h (fun z => hi z.symm)]
/-- what is stored at a place of an object changes that place alone -/
theorem J_putG (C : jK l E X own cc nL d) {k ci j i N : Nat} {T : u_T} {ty0 : Nat → FieldType} {ty : FieldType} {Cn : String} {sl : List (Nat ⊕ (Nat ⊕ (Nat × Nat)))} {q : Nat ⊕ (Nat ⊕ (Nat × Nat))} {M' : jM} {v : Value} (hk : jL[k]? = some (.inr (.inr (ci, sl)))) (hin : ∀ w ∈ u_ws Cn T N, w ∈ W0) (hty : ∀ k, k < N → parseFieldDescriptor (T k).2.2.1 = some (ty0 k)) (hnm : ∀ a, a < N → ∀ b, b < N → a ≠ b → (T a).2.1 ≠ (T b).2.1) (hc : jcl[ci]? = some (Cn, T, N)) (hj : j < N) (hq : sl[j]? = some q) (hfin : (T j).2.2.2 = false) (hpd : parseFieldDescriptor (T j).2.2.1 = some ty) (hn : narrow ty v = v) (hfit : fits ty v = true) (hv : v = jv E M' q) (hM : ∀ a, jown a ≠ k → M' a = M a) (hM2 : ∀ i q', sl[i]? = some q' → i ≠ j → jv E M' q' = jv E M q') (hw : Cond.fieldLink own i (T j).1 (T j).2.1 (T j).2.2.1 ∈ W0) (hd : decode cc pc = .ok (.putfield i, 3)) (kk : J E X (pc + 3) lv st M') : J E X pc lv (v :: .ref (ja E k) :: st) M := by
  intro H locs ls hP hS hl
  refine va_put (D := (E.1, E.2.1)) (ci := ci) (v := v) (ty := ty) (C := Cn) (T := T) (N := N) C.1.1 C.1.2.1 C.1.2.2.2.2 hin ty0 hty hnm C.1.2.2.2.1 C.2.1 hP (jD_of C.2.2.2.1 C.2.2.2.2.1) hS k (jW_at hk) hc j hj (C.1.2.2.2.2 _ hw) (fun _ h9 => h9) hfin hpd hn hfit (by rw [List.length_map]; exact (List.getElem?_eq_some_iff.mp hq).1) hd (fun H1 locs1 hP1 _ hS1 => ?_)
  have e : (jW E M).set k (ja E k, .inr (ci, (sl.map (jv E M)).set j v)) = jW E M' := by
    have h := jW_set (E := E) (M := M) (M' := M') hk hM
    rw [hv, jv_set hq hM2]
    exact h
  exact kk H1 locs1 ls (e ▸ hP1) hS1 hl
theorem J_iret (C : jK l E X own cc nL d) {Post : Option Value → jM → Prop} (G : jR E X Post (some .int)) {v : Int32} (hd : decode cc pc = .ok (.ireturn, 1)) (hp : Post (some (.int v)) M) : J E X pc lv [.int v] M := by
  intro H locs ls hP hS hl
  obtain ⟨p, l', e, R, s, m, args, below, meth, c, cells, slots, Q, A⟩ := X
  obtain ⟨hQ, hA, hk, hn, hr, hlk⟩ := G
  dsimp only [xQ, xA, xk, xn, xb, xa, xs, xt] at hQ hA hk hn hr hlk hS
  subst hQ; subst hA; subst hk; subst hn
  exact W.iret (v := v) C.1.1 C.1.2.1 hr (fun t ht hW => ⟨⟨_, M, rfl, hp, by rw [ht]; exact hP⟩, hS.F ht⟩) hS.2.2 hd hlk
theorem J_zret (C : jK l E X own cc nL d) {Post : Option Value → jM → Prop} {ty : FieldType} (G : jR E X Post (some ty)) {v : Int32} (hn0 : narrow ty (.int v) = .int v) (hd : decode cc pc = .ok (.ireturn, 1)) (hp : Post (some (.int v)) M) : J E X pc lv [.int v] M := by
  intro H locs ls hP hS hl
  obtain ⟨p, l', e, R, s, m, args, below, meth, c, cells, slots, Q, A⟩ := X
  obtain ⟨hQ, hA, hk, hn, hr, hlk⟩ := G
  dsimp only [xQ, xA, xk, xn, xb, xa, xs, xt] at hQ hA hk hn hr hlk hS
  subst hQ; subst hA; subst hk; subst hn
  exact W.zret (v := v) C.1.1 C.1.2.1 hr hn0 (fun t ht hW => ⟨⟨_, M, rfl, hp, by rw [ht]; exact hP⟩, hS.F ht⟩) hS.2.2 hd hlk
theorem J_lret (C : jK l E X own cc nL d) {Post : Option Value → jM → Prop} (G : jR E X Post (some .long)) {v : Int64} (hd : decode cc pc = .ok (.lreturn, 1)) (hp : Post (some (.long v)) M) : J E X pc lv [.long v] M := by
  intro H locs ls hP hS hl
  obtain ⟨p, l', e, R, s, m, args, below, meth, c, cells, slots, Q, A⟩ := X
  obtain ⟨hQ, hA, hk, hn, hr, hlk⟩ := G
  dsimp only [xQ, xA, xk, xn, xb, xa, xs, xt] at hQ hA hk hn hr hlk hS
  subst hQ; subst hA; subst hk; subst hn
  exact W.lret (v := v) C.1.1 C.1.2.1 hr (fun t ht hW => ⟨⟨_, M, rfl, hp, by rw [ht]; exact hP⟩, hS.F ht⟩) hS.2.2 hd hlk
theorem J_vret (C : jK l E X own cc nL d) {Post : Option Value → jM → Prop} (G : jR E X Post none) (hd : decode cc pc = .ok (.return_, 1)) (hp : Post none M) : J E X pc lv [] M := by
  intro H locs ls hP hS hl
  obtain ⟨p, l', e, R, s, m, args, below, meth, c, cells, slots, Q, A⟩ := X
  obtain ⟨hQ, hA, hk, hn, hr, hlk⟩ := G
  dsimp only [xQ, xA, xk, xn, xb, xa, xs, xt] at hQ hA hk hn hr hlk hS
  subst hQ; subst hA; subst hk; subst hn
  exact W.vret C.1.1 C.1.2.1 hr (fun t ht hW => ⟨⟨_, M, rfl, hp, by rw [ht]; exact hP⟩, hS.F ht⟩) hS.2.2 hd hlk
theorem J_aret (C : jK l E X own cc nL d) {Post : Option Value → jM → Prop} {n : String} (G : jR E X Post (some (.object n))) {a : Nat} (hd : decode cc pc = .ok (.areturn, 1)) (hp : Post (some (.ref a)) M) : J E X pc lv [.ref a] M := by
  intro H locs ls hP hS hl
  obtain ⟨p, l', e, R, s, m, args, below, meth, c, cells, slots, Q, A⟩ := X
  obtain ⟨hQ, hA, hk, hn, hr, hlk⟩ := G
  dsimp only [xQ, xA, xk, xn, xb, xa, xs, xt] at hQ hA hk hn hr hlk hS
  subst hQ; subst hA; subst hk; subst hn
  exact W.aret (v := .ref a) C.1.1 C.1.2.1 hr (Or.inl ⟨n, rfl⟩) (Or.inr ⟨a, rfl⟩) (fun t ht hW => ⟨⟨_, M, rfl, hp, by rw [ht]; exact hP⟩, hS.F ht⟩) hS.2.2 hd hlk
theorem J_run (C : jK l E X own cc nL d) {Post : Option Value → jM → Prop} {a : Array Value} {st0 : List Value} (hr : ∀ (H : Heap) (locs : List Loc) (ls : Array Slot), va_P (E.1, E.2.1) jcl (jW E M) H → va_S (xA X) (xs X).heap H locs → lv_has ls lv.length (jlv 0 lv) → va_Run (xp X) (xl X) (xe X) (xR X) (xs X) (xm X) (xa X) (xb X) (xt X) (xc X) H locs (xk X) (xn X) 0 0 (F0 (xm X) pc ls st0) st (jQ E H.size Post a) (jA E H.size))
    (kk : ∀ r M', Post r M' → J E X (pc + 3) lv (r.toList ++ st) M') : J E X pc lv st0 M := by
  intro H locs ls hP hS hl T hT Y
  obtain ⟨v, st₀, t, T', L, h0, X', hL, e1, e2, ⟨⟨r, M', hv, hp, hPt⟩, hz, hk⟩, sg⟩ := hr H locs ls hP hS hl T hT Y
  cases hv
  rw [h0] at hz hk
  have hsub : ∀ q, jA E H.size q → xA X q := by
    intro q hq
    rcases hq with ⟨k, hk', rfl⟩ | hq
    · exact C.2.2.2.2.1 k hk'
    · exact C.2.2.2.2.2.1 q (Nat.le_trans hS.1 hq)
  obtain ⟨t2, a1, b1⟩ := kk _ M' hp T'.heap (locs ++ L) ls (by rw [e1]; exact hPt)
    ⟨Nat.le_trans hS.1 (by rw [e1]; exact hz), fun q h1 h2 => by rw [e1, hk q (Nat.lt_of_lt_of_le h1 hS.1) (fun z => h2 (hsub q z))]; exact hS.2.1 q h1 h2, fun q hq => by
      rcases List.mem_append.mp hq with h | h
      · exact hS.2.2 q h
      · exact hsub _ (hL q h)⟩ hl T' rfl X'
  exact ⟨t2, sg t2 a1, b1⟩
theorem jB_blind {sz : Nat} {as : List Value} : FrameBlind (va_Pc as (jB E sz M)) := by
  intro a U g mk h
  obtain ⟨h0, h1, h2, h3, h4, h5⟩ := h
  exact ⟨h0, h1, h2, va_K.moved (u := U) (U := U.calling g mk a) (Vm.Alike.refl U.vm) h3, jF.blind g mk a h4, h5⟩
theorem jB_of (C : jK l E X own cc nL d) {H : Heap} {locs : List Loc} (hP : va_P (E.1, E.2.1) jcl (jW E M) H) (hS : va_S (xA X) (xs X).heap H locs) {U : State} (hU : U.heap = H) (hW : (xs X).WarmedH U.vm) : jB E H.size M U := by
  refine ⟨by rw [hU], by rw [hU]; exact hP, va_K.moved hW.alike C.2.1, ?_, C.2.2.2.1⟩
  rw [hU]
  refine jF.go C.2.2.1 hS (fun q hq => ?_) hW
  rcases hq with ⟨k, hk', rfl⟩ | hq
  · exact C.2.2.2.2.1 k hk'
  · exact C.2.2.2.2.2.1 q (Nat.le_trans hS.1 hq)
/-- what a call of y by its own name needs: y's code, its kind, how many arguments -/
def jy (y : MethodName) (b : ByteArray) (n : Nat) (ret : Option FieldType) (ar : Nat) : Prop := Cond.code y b n ret ∈ W0 ∧ Cond.initialized y.cls ∈ W0 ∧ (y.cls ≠ "java/lang/invoke/MethodHandle" ∧ y.cls ≠ "java/lang/invoke/VarHandle" ∧ (parseMethodDescriptor y.desc).map (fun d => d.parameters.length) = some ar) ∧ n ≤ 19
theorem J_callV (C : jK l E X own cc nL d) {y : MethodName} {b : ByteArray} {n : Nat} {ret : Option FieldType} {d' k ci i N : Nat} {T : u_T} {Cn : String} {sl : List (Nat ⊕ (Nat ⊕ (Nat × Nat)))} {As st0 : List Value} {Post : Option Value → jM → Prop} (hM : CT l E d' y b n ret (.ref (ja E k) :: As) M Post) (hy : jy y b n ret As.length) (hi : Cond.instanceMethod y ∈ W0) (he : Cond.selects Cn y y ∈ W0) (hyc : y.cls = Cn) (hw : Cond.methodLink own i y ∈ W0) (hk : jL[k]? = some (.inr (.inr (ci, sl)))) (hc : jcl[ci]? = some (Cn, T, N)) (hdd : d' < d) (hd : decode cc pc = .ok (.invokevirtual i, 3)) (hn : lv.length = nL) (hs : st0 = As.reverse ++ .ref (ja E k) :: st) (hcat : (st.map fun v => v.category).sum ≤ 8) (kk : ∀ r M', Post r M' → J E X (pc + 3) lv (r.toList ++ st) M') : J E X pc lv st0 M := by
  subst hs
  subst hyc
  refine J_run C (a := (Value.ref (ja E k) :: As).toArray) (fun H locs ls hP hS hl => ?_) kk
  have hxl : xl X = l := C.2.2.2.2.2.2.2.2.2.2
  have hG : GoodIn W0 (wsV own i y.cls y (jw y b n ret)) := by
    intro w hw'
    simp only [wsV, jw, List.mem_append, List.mem_cons, List.not_mem_nil, or_false] at hw'
    rcases hw' with (rfl | rfl | rfl | rfl) | rfl | h
    · exact good_W0 hw
    · exact good_W0 hi
    · exact good_W0 he
    · exact good_W0 hy.2.1
    · exact good_W0 hy.1
    · exact good_W0 h
  refine va_runV (As := As) (rest := st) C.1 (hxl ▸ hM H.size) (cwV As.length C.1.2.2.2.2 hG rfl rfl rfl ⟨rfl, hy.2.2.1⟩ ⟨?_, ?_⟩) ⟨jB_blind, va_recv (q0 := k) C.2.1 hP hc (jW_at hk), fun U hU hW => ⟨rfl, jB_of C hP hS hU hW⟩⟩ rfl rfl (hl.1.trans hn) rfl (lv_room hcat) hd ⟨C.2.2.2.2.2.2.2.2.1, C.2.2.2.2.2.2.2.2.2.1⟩
  · have := C.2.2.2.2.2.2.1
    show d' + 1 ≤ _
    omega
  · have h1 := C.2.2.2.2.2.2.2.1
    have h2 := hy.2.2.2
    show 8 + (n + 11) + 38 * d' ≤ _
    omega
theorem J_callS (C : jK l E X own cc nL d) {y : MethodName} {b : ByteArray} {n : Nat} {ret : Option FieldType} {d' i : Nat} {As st0 : List Value} {Post : Option Value → jM → Prop} (hM : CT l E d' y b n ret As M Post) (hy : jy y b n ret As.length) (hi : Cond.static y ∈ W0) (hw : Cond.methodLink own i y ∈ W0) (hdd : d' < d) (hd : decode cc pc = .ok (.invokestatic i, 3)) (hn : lv.length = nL) (hs : st0 = As.reverse ++ st) (hcat : (st.map fun v => v.category).sum ≤ 8) (kk : ∀ r M', Post r M' → J E X (pc + 3) lv (r.toList ++ st) M') : J E X pc lv st0 M := by
  subst hs
  refine J_run C (a := As.toArray) (fun H locs ls hP hS hl => ?_) kk
  have hxl : xl X = l := C.2.2.2.2.2.2.2.2.2.2
  have hG : GoodIn W0 (va_wsS own i y (jw y b n ret)) := by
    intro w hw'
    simp only [va_wsS, jw, List.mem_append, List.mem_cons, List.not_mem_nil, or_false] at hw'
    rcases hw' with (rfl | rfl | rfl) | rfl | h
    · exact good_W0 hw
    · exact good_W0 hi
    · exact good_W0 hy.2.1
    · exact good_W0 hy.1
    · exact good_W0 h
  refine va_runS (As := As) (rest := st) C.1 (hxl ▸ hM H.size) (va_cwS As.length C.1.2.2.2.2 hG rfl rfl rfl hy.2.2.1 ⟨?_, ?_⟩) ⟨jB_blind, fun U hU hW => ⟨rfl, jB_of C hP hS hU hW⟩⟩ rfl rfl (hl.1.trans hn) rfl (lv_room hcat) hd ⟨C.2.2.2.2.2.2.2.2.1, C.2.2.2.2.2.2.2.2.2.1⟩
  · have := C.2.2.2.2.2.2.1
    show d' + 1 ≤ _
    omega
  · have h1 := C.2.2.2.2.2.2.2.1
    have h2 := hy.2.2.2
    show 8 + (n + 11) + 38 * d' ≤ _
    omega
end JR
end
section
section JS
variable {l : Launch} {E : jE} {X : jX} {own : String} {cc : ByteArray} {nL d : Nat} {pc : Nat} {lv : List (Option Value)} {st : List Value} {M : jM}
theorem dA {c : ByteArray} {l : dT} (h : l.all (fun q => decide (decode c q.1 = .ok q.2)) = true) (i : Nat) {pc len : Nat} {ins : Instr} (hi : l[i]? = some (pc, ins, len)) : decode c pc = .ok (ins, len) := dAt (q := (pc, ins, len)) h i hi
def jb (b : Bool) : Int32 := if b then 1 else 0
theorem jb_nI (b : Bool) : jb b = nI (if b then 1 else 0) := by cases b <;> rfl
theorem jb_t : nI 1 = jb true := rfl
theorem jb_f : nI 0 = jb false := rfl
theorem jb_z (b : Bool) : narrow .boolean (.int (jb b)) = .int (jb b) := by cases b <;> rfl

theorem J_ast_2_6 (C : jK l E X own cc nL d) {va vb vc vd ve vf : Option Value} {x : Nat} (hd : decode cc pc = .ok (.astore_n 2, 1)) (hk : jok [va, vb, vc, vd, ve, vf] 2 = true) (k : J E X (pc + 1) [va, vb, some (.ref x), vd, ve, vf] st M) : J E X pc [va, vb, vc, vd, ve, vf] (.ref x :: st) M := J_astore_n C hd hk (Nat.le_of_ble_eq_true rfl) k
theorem J_ast_3_5 (C : jK l E X own cc nL d) {va vb vc vd ve : Option Value} {x : Nat} (hd : decode cc pc = .ok (.astore_n 3, 1)) (hk : jok [va, vb, vc, vd, ve] 3 = true) (k : J E X (pc + 1) [va, vb, vc, some (.ref x), ve] st M) : J E X pc [va, vb, vc, vd, ve] (.ref x :: st) M := J_astore_n C hd hk (Nat.le_of_ble_eq_true rfl) k
theorem J_ast_3_6 (C : jK l E X own cc nL d) {va vb vc vd ve vf : Option Value} {x : Nat} (hd : decode cc pc = .ok (.astore_n 3, 1)) (hk : jok [va, vb, vc, vd, ve, vf] 3 = true) (k : J E X (pc + 1) [va, vb, vc, some (.ref x), ve, vf] st M) : J E X pc [va, vb, vc, vd, ve, vf] (.ref x :: st) M := J_astore_n C hd hk (Nat.le_of_ble_eq_true rfl) k
theorem J_ast_3_7 (C : jK l E X own cc nL d) {va vb vc vd ve vf vg : Option Value} {x : Nat} (hd : decode cc pc = .ok (.astore_n 3, 1)) (hk : jok [va, vb, vc, vd, ve, vf, vg] 3 = true) (k : J E X (pc + 1) [va, vb, vc, some (.ref x), ve, vf, vg] st M) : J E X pc [va, vb, vc, vd, ve, vf, vg] (.ref x :: st) M := J_astore_n C hd hk (Nat.le_of_ble_eq_true rfl) k
theorem J_ast_6_8 (C : jK l E X own cc nL d) {va vb vc vd ve vf vg vh : Option Value} {x : Nat} (hd : decode cc pc = .ok (.astore 6, 2)) (hk : jok [va, vb, vc, vd, ve, vf, vg, vh] 6 = true) (k : J E X (pc + 2) [va, vb, vc, vd, ve, vf, some (.ref x), vh] st M) : J E X pc [va, vb, vc, vd, ve, vf, vg, vh] (.ref x :: st) M := J_astore C hd hk (Nat.le_of_ble_eq_true rfl) k
theorem J_ast_7_8 (C : jK l E X own cc nL d) {va vb vc vd ve vf vg vh : Option Value} {x : Nat} (hd : decode cc pc = .ok (.astore 7, 2)) (hk : jok [va, vb, vc, vd, ve, vf, vg, vh] 7 = true) (k : J E X (pc + 2) [va, vb, vc, vd, ve, vf, vg, some (.ref x)] st M) : J E X pc [va, vb, vc, vd, ve, vf, vg, vh] (.ref x :: st) M := J_astore C hd hk (Nat.le_of_ble_eq_true rfl) k
theorem J_iinc_1_2 (C : jK l E X own cc nL d) {va : Option Value} {x : Int32} {q : Int} (hd : decode cc pc = .ok (.iinc 1 q, 3)) (hk : jok [va, some (.int x)] 1 = true) (k : J E X (pc + 3) [va, some (.int (x + Int32.ofInt q))] st M) : J E X pc [va, some (.int x)] st M := J_iinc C hd rfl rfl hk k
theorem J_inc1_1_2 (C : jK l E X own cc nL d) {va : Option Value} {x : Nat} (hd : decode cc pc = .ok (.iinc 1 1, 3)) (hk : jok [va, some (.int (nI x))] 1 = true) (k : J E X (pc + 3) [va, some (.int (nI (x + 1)))] st M) : J E X pc [va, some (.int (nI x))] st M := J_iinc C hd rfl (nI_1 x) hk k
theorem J_iinc_1_3 (C : jK l E X own cc nL d) {va vc : Option Value} {x : Int32} {q : Int} (hd : decode cc pc = .ok (.iinc 1 q, 3)) (hk : jok [va, some (.int x), vc] 1 = true) (k : J E X (pc + 3) [va, some (.int (x + Int32.ofInt q)), vc] st M) : J E X pc [va, some (.int x), vc] st M := J_iinc C hd rfl rfl hk k
theorem J_inc1_1_3 (C : jK l E X own cc nL d) {va vc : Option Value} {x : Nat} (hd : decode cc pc = .ok (.iinc 1 1, 3)) (hk : jok [va, some (.int (nI x)), vc] 1 = true) (k : J E X (pc + 3) [va, some (.int (nI (x + 1))), vc] st M) : J E X pc [va, some (.int (nI x)), vc] st M := J_iinc C hd rfl (nI_1 x) hk k
theorem J_iinc_1_6 (C : jK l E X own cc nL d) {va vc vd ve vf : Option Value} {x : Int32} {q : Int} (hd : decode cc pc = .ok (.iinc 1 q, 3)) (hk : jok [va, some (.int x), vc, vd, ve, vf] 1 = true) (k : J E X (pc + 3) [va, some (.int (x + Int32.ofInt q)), vc, vd, ve, vf] st M) : J E X pc [va, some (.int x), vc, vd, ve, vf] st M := J_iinc C hd rfl rfl hk k
theorem J_inc1_1_6 (C : jK l E X own cc nL d) {va vc vd ve vf : Option Value} {x : Nat} (hd : decode cc pc = .ok (.iinc 1 1, 3)) (hk : jok [va, some (.int (nI x)), vc, vd, ve, vf] 1 = true) (k : J E X (pc + 3) [va, some (.int (nI (x + 1))), vc, vd, ve, vf] st M) : J E X pc [va, some (.int (nI x)), vc, vd, ve, vf] st M := J_iinc C hd rfl (nI_1 x) hk k
theorem J_iinc_2_3 (C : jK l E X own cc nL d) {va vb : Option Value} {x : Int32} {q : Int} (hd : decode cc pc = .ok (.iinc 2 q, 3)) (hk : jok [va, vb, some (.int x)] 2 = true) (k : J E X (pc + 3) [va, vb, some (.int (x + Int32.ofInt q))] st M) : J E X pc [va, vb, some (.int x)] st M := J_iinc C hd rfl rfl hk k
theorem J_inc1_2_3 (C : jK l E X own cc nL d) {va vb : Option Value} {x : Nat} (hd : decode cc pc = .ok (.iinc 2 1, 3)) (hk : jok [va, vb, some (.int (nI x))] 2 = true) (k : J E X (pc + 3) [va, vb, some (.int (nI (x + 1)))] st M) : J E X pc [va, vb, some (.int (nI x))] st M := J_iinc C hd rfl (nI_1 x) hk k
theorem J_iinc_2_4 (C : jK l E X own cc nL d) {va vb vd : Option Value} {x : Int32} {q : Int} (hd : decode cc pc = .ok (.iinc 2 q, 3)) (hk : jok [va, vb, some (.int x), vd] 2 = true) (k : J E X (pc + 3) [va, vb, some (.int (x + Int32.ofInt q)), vd] st M) : J E X pc [va, vb, some (.int x), vd] st M := J_iinc C hd rfl rfl hk k
theorem J_inc1_2_4 (C : jK l E X own cc nL d) {va vb vd : Option Value} {x : Nat} (hd : decode cc pc = .ok (.iinc 2 1, 3)) (hk : jok [va, vb, some (.int (nI x)), vd] 2 = true) (k : J E X (pc + 3) [va, vb, some (.int (nI (x + 1))), vd] st M) : J E X pc [va, vb, some (.int (nI x)), vd] st M := J_iinc C hd rfl (nI_1 x) hk k
theorem J_iinc_2_5 (C : jK l E X own cc nL d) {va vb vd ve : Option Value} {x : Int32} {q : Int} (hd : decode cc pc = .ok (.iinc 2 q, 3)) (hk : jok [va, vb, some (.int x), vd, ve] 2 = true) (k : J E X (pc + 3) [va, vb, some (.int (x + Int32.ofInt q)), vd, ve] st M) : J E X pc [va, vb, some (.int x), vd, ve] st M := J_iinc C hd rfl rfl hk k
theorem J_inc1_2_5 (C : jK l E X own cc nL d) {va vb vd ve : Option Value} {x : Nat} (hd : decode cc pc = .ok (.iinc 2 1, 3)) (hk : jok [va, vb, some (.int (nI x)), vd, ve] 2 = true) (k : J E X (pc + 3) [va, vb, some (.int (nI (x + 1))), vd, ve] st M) : J E X pc [va, vb, some (.int (nI x)), vd, ve] st M := J_iinc C hd rfl (nI_1 x) hk k
theorem J_iinc_3_4 (C : jK l E X own cc nL d) {va vb vc : Option Value} {x : Int32} {q : Int} (hd : decode cc pc = .ok (.iinc 3 q, 3)) (hk : jok [va, vb, vc, some (.int x)] 3 = true) (k : J E X (pc + 3) [va, vb, vc, some (.int (x + Int32.ofInt q))] st M) : J E X pc [va, vb, vc, some (.int x)] st M := J_iinc C hd rfl rfl hk k
theorem J_inc1_3_4 (C : jK l E X own cc nL d) {va vb vc : Option Value} {x : Nat} (hd : decode cc pc = .ok (.iinc 3 1, 3)) (hk : jok [va, vb, vc, some (.int (nI x))] 3 = true) (k : J E X (pc + 3) [va, vb, vc, some (.int (nI (x + 1)))] st M) : J E X pc [va, vb, vc, some (.int (nI x))] st M := J_iinc C hd rfl (nI_1 x) hk k
theorem J_iinc_3_5 (C : jK l E X own cc nL d) {va vb vc ve : Option Value} {x : Int32} {q : Int} (hd : decode cc pc = .ok (.iinc 3 q, 3)) (hk : jok [va, vb, vc, some (.int x), ve] 3 = true) (k : J E X (pc + 3) [va, vb, vc, some (.int (x + Int32.ofInt q)), ve] st M) : J E X pc [va, vb, vc, some (.int x), ve] st M := J_iinc C hd rfl rfl hk k
theorem J_inc1_3_5 (C : jK l E X own cc nL d) {va vb vc ve : Option Value} {x : Nat} (hd : decode cc pc = .ok (.iinc 3 1, 3)) (hk : jok [va, vb, vc, some (.int (nI x)), ve] 3 = true) (k : J E X (pc + 3) [va, vb, vc, some (.int (nI (x + 1))), ve] st M) : J E X pc [va, vb, vc, some (.int (nI x)), ve] st M := J_iinc C hd rfl (nI_1 x) hk k
theorem J_iinc_3_6 (C : jK l E X own cc nL d) {va vb vc ve vf : Option Value} {x : Int32} {q : Int} (hd : decode cc pc = .ok (.iinc 3 q, 3)) (hk : jok [va, vb, vc, some (.int x), ve, vf] 3 = true) (k : J E X (pc + 3) [va, vb, vc, some (.int (x + Int32.ofInt q)), ve, vf] st M) : J E X pc [va, vb, vc, some (.int x), ve, vf] st M := J_iinc C hd rfl rfl hk k
theorem J_inc1_3_6 (C : jK l E X own cc nL d) {va vb vc ve vf : Option Value} {x : Nat} (hd : decode cc pc = .ok (.iinc 3 1, 3)) (hk : jok [va, vb, vc, some (.int (nI x)), ve, vf] 3 = true) (k : J E X (pc + 3) [va, vb, vc, some (.int (nI (x + 1))), ve, vf] st M) : J E X pc [va, vb, vc, some (.int (nI x)), ve, vf] st M := J_iinc C hd rfl (nI_1 x) hk k
theorem J_iinc_3_7 (C : jK l E X own cc nL d) {va vb vc ve vf vg : Option Value} {x : Int32} {q : Int} (hd : decode cc pc = .ok (.iinc 3 q, 3)) (hk : jok [va, vb, vc, some (.int x), ve, vf, vg] 3 = true) (k : J E X (pc + 3) [va, vb, vc, some (.int (x + Int32.ofInt q)), ve, vf, vg] st M) : J E X pc [va, vb, vc, some (.int x), ve, vf, vg] st M := J_iinc C hd rfl rfl hk k
theorem J_inc1_3_7 (C : jK l E X own cc nL d) {va vb vc ve vf vg : Option Value} {x : Nat} (hd : decode cc pc = .ok (.iinc 3 1, 3)) (hk : jok [va, vb, vc, some (.int (nI x)), ve, vf, vg] 3 = true) (k : J E X (pc + 3) [va, vb, vc, some (.int (nI (x + 1))), ve, vf, vg] st M) : J E X pc [va, vb, vc, some (.int (nI x)), ve, vf, vg] st M := J_iinc C hd rfl (nI_1 x) hk k
theorem J_iinc_4_5 (C : jK l E X own cc nL d) {va vb vc vd : Option Value} {x : Int32} {q : Int} (hd : decode cc pc = .ok (.iinc 4 q, 3)) (hk : jok [va, vb, vc, vd, some (.int x)] 4 = true) (k : J E X (pc + 3) [va, vb, vc, vd, some (.int (x + Int32.ofInt q))] st M) : J E X pc [va, vb, vc, vd, some (.int x)] st M := J_iinc C hd rfl rfl hk k
theorem J_inc1_4_5 (C : jK l E X own cc nL d) {va vb vc vd : Option Value} {x : Nat} (hd : decode cc pc = .ok (.iinc 4 1, 3)) (hk : jok [va, vb, vc, vd, some (.int (nI x))] 4 = true) (k : J E X (pc + 3) [va, vb, vc, vd, some (.int (nI (x + 1)))] st M) : J E X pc [va, vb, vc, vd, some (.int (nI x))] st M := J_iinc C hd rfl (nI_1 x) hk k
theorem J_iinc_4_6 (C : jK l E X own cc nL d) {va vb vc vd vf : Option Value} {x : Int32} {q : Int} (hd : decode cc pc = .ok (.iinc 4 q, 3)) (hk : jok [va, vb, vc, vd, some (.int x), vf] 4 = true) (k : J E X (pc + 3) [va, vb, vc, vd, some (.int (x + Int32.ofInt q)), vf] st M) : J E X pc [va, vb, vc, vd, some (.int x), vf] st M := J_iinc C hd rfl rfl hk k
theorem J_inc1_4_6 (C : jK l E X own cc nL d) {va vb vc vd vf : Option Value} {x : Nat} (hd : decode cc pc = .ok (.iinc 4 1, 3)) (hk : jok [va, vb, vc, vd, some (.int (nI x)), vf] 4 = true) (k : J E X (pc + 3) [va, vb, vc, vd, some (.int (nI (x + 1))), vf] st M) : J E X pc [va, vb, vc, vd, some (.int (nI x)), vf] st M := J_iinc C hd rfl (nI_1 x) hk k
theorem J_iinc_4_7 (C : jK l E X own cc nL d) {va vb vc vd vf vg : Option Value} {x : Int32} {q : Int} (hd : decode cc pc = .ok (.iinc 4 q, 3)) (hk : jok [va, vb, vc, vd, some (.int x), vf, vg] 4 = true) (k : J E X (pc + 3) [va, vb, vc, vd, some (.int (x + Int32.ofInt q)), vf, vg] st M) : J E X pc [va, vb, vc, vd, some (.int x), vf, vg] st M := J_iinc C hd rfl rfl hk k
theorem J_inc1_4_7 (C : jK l E X own cc nL d) {va vb vc vd vf vg : Option Value} {x : Nat} (hd : decode cc pc = .ok (.iinc 4 1, 3)) (hk : jok [va, vb, vc, vd, some (.int (nI x)), vf, vg] 4 = true) (k : J E X (pc + 3) [va, vb, vc, vd, some (.int (nI (x + 1))), vf, vg] st M) : J E X pc [va, vb, vc, vd, some (.int (nI x)), vf, vg] st M := J_iinc C hd rfl (nI_1 x) hk k
theorem J_iinc_5_6 (C : jK l E X own cc nL d) {va vb vc vd ve : Option Value} {x : Int32} {q : Int} (hd : decode cc pc = .ok (.iinc 5 q, 3)) (hk : jok [va, vb, vc, vd, ve, some (.int x)] 5 = true) (k : J E X (pc + 3) [va, vb, vc, vd, ve, some (.int (x + Int32.ofInt q))] st M) : J E X pc [va, vb, vc, vd, ve, some (.int x)] st M := J_iinc C hd rfl rfl hk k
theorem J_inc1_5_6 (C : jK l E X own cc nL d) {va vb vc vd ve : Option Value} {x : Nat} (hd : decode cc pc = .ok (.iinc 5 1, 3)) (hk : jok [va, vb, vc, vd, ve, some (.int (nI x))] 5 = true) (k : J E X (pc + 3) [va, vb, vc, vd, ve, some (.int (nI (x + 1)))] st M) : J E X pc [va, vb, vc, vd, ve, some (.int (nI x))] st M := J_iinc C hd rfl (nI_1 x) hk k
theorem J_iinc_5_7 (C : jK l E X own cc nL d) {va vb vc vd ve vg : Option Value} {x : Int32} {q : Int} (hd : decode cc pc = .ok (.iinc 5 q, 3)) (hk : jok [va, vb, vc, vd, ve, some (.int x), vg] 5 = true) (k : J E X (pc + 3) [va, vb, vc, vd, ve, some (.int (x + Int32.ofInt q)), vg] st M) : J E X pc [va, vb, vc, vd, ve, some (.int x), vg] st M := J_iinc C hd rfl rfl hk k
theorem J_inc1_5_7 (C : jK l E X own cc nL d) {va vb vc vd ve vg : Option Value} {x : Nat} (hd : decode cc pc = .ok (.iinc 5 1, 3)) (hk : jok [va, vb, vc, vd, ve, some (.int (nI x)), vg] 5 = true) (k : J E X (pc + 3) [va, vb, vc, vd, ve, some (.int (nI (x + 1))), vg] st M) : J E X pc [va, vb, vc, vd, ve, some (.int (nI x)), vg] st M := J_iinc C hd rfl (nI_1 x) hk k
theorem J_iinc_6_7 (C : jK l E X own cc nL d) {va vb vc vd ve vf : Option Value} {x : Int32} {q : Int} (hd : decode cc pc = .ok (.iinc 6 q, 3)) (hk : jok [va, vb, vc, vd, ve, vf, some (.int x)] 6 = true) (k : J E X (pc + 3) [va, vb, vc, vd, ve, vf, some (.int (x + Int32.ofInt q))] st M) : J E X pc [va, vb, vc, vd, ve, vf, some (.int x)] st M := J_iinc C hd rfl rfl hk k
theorem J_inc1_6_7 (C : jK l E X own cc nL d) {va vb vc vd ve vf : Option Value} {x : Nat} (hd : decode cc pc = .ok (.iinc 6 1, 3)) (hk : jok [va, vb, vc, vd, ve, vf, some (.int (nI x))] 6 = true) (k : J E X (pc + 3) [va, vb, vc, vd, ve, vf, some (.int (nI (x + 1)))] st M) : J E X pc [va, vb, vc, vd, ve, vf, some (.int (nI x))] st M := J_iinc C hd rfl (nI_1 x) hk k
theorem J_iinc_6_8 (C : jK l E X own cc nL d) {va vb vc vd ve vf vh : Option Value} {x : Int32} {q : Int} (hd : decode cc pc = .ok (.iinc 6 q, 3)) (hk : jok [va, vb, vc, vd, ve, vf, some (.int x), vh] 6 = true) (k : J E X (pc + 3) [va, vb, vc, vd, ve, vf, some (.int (x + Int32.ofInt q)), vh] st M) : J E X pc [va, vb, vc, vd, ve, vf, some (.int x), vh] st M := J_iinc C hd rfl rfl hk k
theorem J_inc1_6_8 (C : jK l E X own cc nL d) {va vb vc vd ve vf vh : Option Value} {x : Nat} (hd : decode cc pc = .ok (.iinc 6 1, 3)) (hk : jok [va, vb, vc, vd, ve, vf, some (.int (nI x)), vh] 6 = true) (k : J E X (pc + 3) [va, vb, vc, vd, ve, vf, some (.int (nI (x + 1))), vh] st M) : J E X pc [va, vb, vc, vd, ve, vf, some (.int (nI x)), vh] st M := J_iinc C hd rfl (nI_1 x) hk k
theorem J_iinc_7_13 (C : jK l E X own cc nL d) {va vb vc vd ve vf vg vi vj vk vl vm : Option Value} {x : Int32} {q : Int} (hd : decode cc pc = .ok (.iinc 7 q, 3)) (hk : jok [va, vb, vc, vd, ve, vf, vg, some (.int x), vi, vj, vk, vl, vm] 7 = true) (k : J E X (pc + 3) [va, vb, vc, vd, ve, vf, vg, some (.int (x + Int32.ofInt q)), vi, vj, vk, vl, vm] st M) : J E X pc [va, vb, vc, vd, ve, vf, vg, some (.int x), vi, vj, vk, vl, vm] st M := J_iinc C hd rfl rfl hk k
theorem J_inc1_7_13 (C : jK l E X own cc nL d) {va vb vc vd ve vf vg vi vj vk vl vm : Option Value} {x : Nat} (hd : decode cc pc = .ok (.iinc 7 1, 3)) (hk : jok [va, vb, vc, vd, ve, vf, vg, some (.int (nI x)), vi, vj, vk, vl, vm] 7 = true) (k : J E X (pc + 3) [va, vb, vc, vd, ve, vf, vg, some (.int (nI (x + 1))), vi, vj, vk, vl, vm] st M) : J E X pc [va, vb, vc, vd, ve, vf, vg, some (.int (nI x)), vi, vj, vk, vl, vm] st M := J_iinc C hd rfl (nI_1 x) hk k
theorem J_iinc_8_9 (C : jK l E X own cc nL d) {va vb vc vd ve vf vg vh : Option Value} {x : Int32} {q : Int} (hd : decode cc pc = .ok (.iinc 8 q, 3)) (hk : jok [va, vb, vc, vd, ve, vf, vg, vh, some (.int x)] 8 = true) (k : J E X (pc + 3) [va, vb, vc, vd, ve, vf, vg, vh, some (.int (x + Int32.ofInt q))] st M) : J E X pc [va, vb, vc, vd, ve, vf, vg, vh, some (.int x)] st M := J_iinc C hd rfl rfl hk k
theorem J_inc1_8_9 (C : jK l E X own cc nL d) {va vb vc vd ve vf vg vh : Option Value} {x : Nat} (hd : decode cc pc = .ok (.iinc 8 1, 3)) (hk : jok [va, vb, vc, vd, ve, vf, vg, vh, some (.int (nI x))] 8 = true) (k : J E X (pc + 3) [va, vb, vc, vd, ve, vf, vg, vh, some (.int (nI (x + 1)))] st M) : J E X pc [va, vb, vc, vd, ve, vf, vg, vh, some (.int (nI x))] st M := J_iinc C hd rfl (nI_1 x) hk k
theorem J_ist_0_1 (C : jK l E X own cc nL d) {va : Option Value} {x : Int32} (hd : decode cc pc = .ok (.istore_n 0, 1)) (hk : jok [va] 0 = true) (k : J E X (pc + 1) [some (.int x)] st M) : J E X pc [va] (.int x :: st) M := J_istore_n C hd hk (Nat.le_of_ble_eq_true rfl) k
theorem J_ist_0_2 (C : jK l E X own cc nL d) {va vb : Option Value} {x : Int32} (hd : decode cc pc = .ok (.istore_n 0, 1)) (hk : jok [va, vb] 0 = true) (k : J E X (pc + 1) [some (.int x), vb] st M) : J E X pc [va, vb] (.int x :: st) M := J_istore_n C hd hk (Nat.le_of_ble_eq_true rfl) k
theorem J_ist_1_2 (C : jK l E X own cc nL d) {va vb : Option Value} {x : Int32} (hd : decode cc pc = .ok (.istore_n 1, 1)) (hk : jok [va, vb] 1 = true) (k : J E X (pc + 1) [va, some (.int x)] st M) : J E X pc [va, vb] (.int x :: st) M := J_istore_n C hd hk (Nat.le_of_ble_eq_true rfl) k
theorem J_ist_1_3 (C : jK l E X own cc nL d) {va vb vc : Option Value} {x : Int32} (hd : decode cc pc = .ok (.istore_n 1, 1)) (hk : jok [va, vb, vc] 1 = true) (k : J E X (pc + 1) [va, some (.int x), vc] st M) : J E X pc [va, vb, vc] (.int x :: st) M := J_istore_n C hd hk (Nat.le_of_ble_eq_true rfl) k
theorem J_ist_1_4 (C : jK l E X own cc nL d) {va vb vc vd : Option Value} {x : Int32} (hd : decode cc pc = .ok (.istore_n 1, 1)) (hk : jok [va, vb, vc, vd] 1 = true) (k : J E X (pc + 1) [va, some (.int x), vc, vd] st M) : J E X pc [va, vb, vc, vd] (.int x :: st) M := J_istore_n C hd hk (Nat.le_of_ble_eq_true rfl) k
theorem J_ist_1_5 (C : jK l E X own cc nL d) {va vb vc vd ve : Option Value} {x : Int32} (hd : decode cc pc = .ok (.istore_n 1, 1)) (hk : jok [va, vb, vc, vd, ve] 1 = true) (k : J E X (pc + 1) [va, some (.int x), vc, vd, ve] st M) : J E X pc [va, vb, vc, vd, ve] (.int x :: st) M := J_istore_n C hd hk (Nat.le_of_ble_eq_true rfl) k
theorem J_ist_1_6 (C : jK l E X own cc nL d) {va vb vc vd ve vf : Option Value} {x : Int32} (hd : decode cc pc = .ok (.istore_n 1, 1)) (hk : jok [va, vb, vc, vd, ve, vf] 1 = true) (k : J E X (pc + 1) [va, some (.int x), vc, vd, ve, vf] st M) : J E X pc [va, vb, vc, vd, ve, vf] (.int x :: st) M := J_istore_n C hd hk (Nat.le_of_ble_eq_true rfl) k
theorem J_ist_2_3 (C : jK l E X own cc nL d) {va vb vc : Option Value} {x : Int32} (hd : decode cc pc = .ok (.istore_n 2, 1)) (hk : jok [va, vb, vc] 2 = true) (k : J E X (pc + 1) [va, vb, some (.int x)] st M) : J E X pc [va, vb, vc] (.int x :: st) M := J_istore_n C hd hk (Nat.le_of_ble_eq_true rfl) k
theorem J_ist_2_4 (C : jK l E X own cc nL d) {va vb vc vd : Option Value} {x : Int32} (hd : decode cc pc = .ok (.istore_n 2, 1)) (hk : jok [va, vb, vc, vd] 2 = true) (k : J E X (pc + 1) [va, vb, some (.int x), vd] st M) : J E X pc [va, vb, vc, vd] (.int x :: st) M := J_istore_n C hd hk (Nat.le_of_ble_eq_true rfl) k
theorem J_ist_2_5 (C : jK l E X own cc nL d) {va vb vc vd ve : Option Value} {x : Int32} (hd : decode cc pc = .ok (.istore_n 2, 1)) (hk : jok [va, vb, vc, vd, ve] 2 = true) (k : J E X (pc + 1) [va, vb, some (.int x), vd, ve] st M) : J E X pc [va, vb, vc, vd, ve] (.int x :: st) M := J_istore_n C hd hk (Nat.le_of_ble_eq_true rfl) k
theorem J_ist_2_6 (C : jK l E X own cc nL d) {va vb vc vd ve vf : Option Value} {x : Int32} (hd : decode cc pc = .ok (.istore_n 2, 1)) (hk : jok [va, vb, vc, vd, ve, vf] 2 = true) (k : J E X (pc + 1) [va, vb, some (.int x), vd, ve, vf] st M) : J E X pc [va, vb, vc, vd, ve, vf] (.int x :: st) M := J_istore_n C hd hk (Nat.le_of_ble_eq_true rfl) k
theorem J_ist_2_7 (C : jK l E X own cc nL d) {va vb vc vd ve vf vg : Option Value} {x : Int32} (hd : decode cc pc = .ok (.istore_n 2, 1)) (hk : jok [va, vb, vc, vd, ve, vf, vg] 2 = true) (k : J E X (pc + 1) [va, vb, some (.int x), vd, ve, vf, vg] st M) : J E X pc [va, vb, vc, vd, ve, vf, vg] (.int x :: st) M := J_istore_n C hd hk (Nat.le_of_ble_eq_true rfl) k
theorem J_ist_3_4 (C : jK l E X own cc nL d) {va vb vc vd : Option Value} {x : Int32} (hd : decode cc pc = .ok (.istore_n 3, 1)) (hk : jok [va, vb, vc, vd] 3 = true) (k : J E X (pc + 1) [va, vb, vc, some (.int x)] st M) : J E X pc [va, vb, vc, vd] (.int x :: st) M := J_istore_n C hd hk (Nat.le_of_ble_eq_true rfl) k
theorem J_ist_3_5 (C : jK l E X own cc nL d) {va vb vc vd ve : Option Value} {x : Int32} (hd : decode cc pc = .ok (.istore_n 3, 1)) (hk : jok [va, vb, vc, vd, ve] 3 = true) (k : J E X (pc + 1) [va, vb, vc, some (.int x), ve] st M) : J E X pc [va, vb, vc, vd, ve] (.int x :: st) M := J_istore_n C hd hk (Nat.le_of_ble_eq_true rfl) k
theorem J_ist_3_6 (C : jK l E X own cc nL d) {va vb vc vd ve vf : Option Value} {x : Int32} (hd : decode cc pc = .ok (.istore_n 3, 1)) (hk : jok [va, vb, vc, vd, ve, vf] 3 = true) (k : J E X (pc + 1) [va, vb, vc, some (.int x), ve, vf] st M) : J E X pc [va, vb, vc, vd, ve, vf] (.int x :: st) M := J_istore_n C hd hk (Nat.le_of_ble_eq_true rfl) k
theorem J_ist_3_7 (C : jK l E X own cc nL d) {va vb vc vd ve vf vg : Option Value} {x : Int32} (hd : decode cc pc = .ok (.istore_n 3, 1)) (hk : jok [va, vb, vc, vd, ve, vf, vg] 3 = true) (k : J E X (pc + 1) [va, vb, vc, some (.int x), ve, vf, vg] st M) : J E X pc [va, vb, vc, vd, ve, vf, vg] (.int x :: st) M := J_istore_n C hd hk (Nat.le_of_ble_eq_true rfl) k
theorem J_ist_3_8 (C : jK l E X own cc nL d) {va vb vc vd ve vf vg vh : Option Value} {x : Int32} (hd : decode cc pc = .ok (.istore_n 3, 1)) (hk : jok [va, vb, vc, vd, ve, vf, vg, vh] 3 = true) (k : J E X (pc + 1) [va, vb, vc, some (.int x), ve, vf, vg, vh] st M) : J E X pc [va, vb, vc, vd, ve, vf, vg, vh] (.int x :: st) M := J_istore_n C hd hk (Nat.le_of_ble_eq_true rfl) k
theorem J_ist_3_9 (C : jK l E X own cc nL d) {va vb vc vd ve vf vg vh vi : Option Value} {x : Int32} (hd : decode cc pc = .ok (.istore_n 3, 1)) (hk : jok [va, vb, vc, vd, ve, vf, vg, vh, vi] 3 = true) (k : J E X (pc + 1) [va, vb, vc, some (.int x), ve, vf, vg, vh, vi] st M) : J E X pc [va, vb, vc, vd, ve, vf, vg, vh, vi] (.int x :: st) M := J_istore_n C hd hk (Nat.le_of_ble_eq_true rfl) k
theorem J_ist_4_5 (C : jK l E X own cc nL d) {va vb vc vd ve : Option Value} {x : Int32} (hd : decode cc pc = .ok (.istore 4, 2)) (hk : jok [va, vb, vc, vd, ve] 4 = true) (k : J E X (pc + 2) [va, vb, vc, vd, some (.int x)] st M) : J E X pc [va, vb, vc, vd, ve] (.int x :: st) M := J_istore C hd hk (Nat.le_of_ble_eq_true rfl) k
theorem J_ist_4_6 (C : jK l E X own cc nL d) {va vb vc vd ve vf : Option Value} {x : Int32} (hd : decode cc pc = .ok (.istore 4, 2)) (hk : jok [va, vb, vc, vd, ve, vf] 4 = true) (k : J E X (pc + 2) [va, vb, vc, vd, some (.int x), vf] st M) : J E X pc [va, vb, vc, vd, ve, vf] (.int x :: st) M := J_istore C hd hk (Nat.le_of_ble_eq_true rfl) k
theorem J_ist_4_7 (C : jK l E X own cc nL d) {va vb vc vd ve vf vg : Option Value} {x : Int32} (hd : decode cc pc = .ok (.istore 4, 2)) (hk : jok [va, vb, vc, vd, ve, vf, vg] 4 = true) (k : J E X (pc + 2) [va, vb, vc, vd, some (.int x), vf, vg] st M) : J E X pc [va, vb, vc, vd, ve, vf, vg] (.int x :: st) M := J_istore C hd hk (Nat.le_of_ble_eq_true rfl) k
theorem J_ist_4_8 (C : jK l E X own cc nL d) {va vb vc vd ve vf vg vh : Option Value} {x : Int32} (hd : decode cc pc = .ok (.istore 4, 2)) (hk : jok [va, vb, vc, vd, ve, vf, vg, vh] 4 = true) (k : J E X (pc + 2) [va, vb, vc, vd, some (.int x), vf, vg, vh] st M) : J E X pc [va, vb, vc, vd, ve, vf, vg, vh] (.int x :: st) M := J_istore C hd hk (Nat.le_of_ble_eq_true rfl) k
theorem J_ist_4_9 (C : jK l E X own cc nL d) {va vb vc vd ve vf vg vh vi : Option Value} {x : Int32} (hd : decode cc pc = .ok (.istore 4, 2)) (hk : jok [va, vb, vc, vd, ve, vf, vg, vh, vi] 4 = true) (k : J E X (pc + 2) [va, vb, vc, vd, some (.int x), vf, vg, vh, vi] st M) : J E X pc [va, vb, vc, vd, ve, vf, vg, vh, vi] (.int x :: st) M := J_istore C hd hk (Nat.le_of_ble_eq_true rfl) k
theorem J_ist_5_6 (C : jK l E X own cc nL d) {va vb vc vd ve vf : Option Value} {x : Int32} (hd : decode cc pc = .ok (.istore 5, 2)) (hk : jok [va, vb, vc, vd, ve, vf] 5 = true) (k : J E X (pc + 2) [va, vb, vc, vd, ve, some (.int x)] st M) : J E X pc [va, vb, vc, vd, ve, vf] (.int x :: st) M := J_istore C hd hk (Nat.le_of_ble_eq_true rfl) k
theorem J_ist_5_7 (C : jK l E X own cc nL d) {va vb vc vd ve vf vg : Option Value} {x : Int32} (hd : decode cc pc = .ok (.istore 5, 2)) (hk : jok [va, vb, vc, vd, ve, vf, vg] 5 = true) (k : J E X (pc + 2) [va, vb, vc, vd, ve, some (.int x), vg] st M) : J E X pc [va, vb, vc, vd, ve, vf, vg] (.int x :: st) M := J_istore C hd hk (Nat.le_of_ble_eq_true rfl) k
theorem J_ist_5_8 (C : jK l E X own cc nL d) {va vb vc vd ve vf vg vh : Option Value} {x : Int32} (hd : decode cc pc = .ok (.istore 5, 2)) (hk : jok [va, vb, vc, vd, ve, vf, vg, vh] 5 = true) (k : J E X (pc + 2) [va, vb, vc, vd, ve, some (.int x), vg, vh] st M) : J E X pc [va, vb, vc, vd, ve, vf, vg, vh] (.int x :: st) M := J_istore C hd hk (Nat.le_of_ble_eq_true rfl) k
theorem J_ist_5_9 (C : jK l E X own cc nL d) {va vb vc vd ve vf vg vh vi : Option Value} {x : Int32} (hd : decode cc pc = .ok (.istore 5, 2)) (hk : jok [va, vb, vc, vd, ve, vf, vg, vh, vi] 5 = true) (k : J E X (pc + 2) [va, vb, vc, vd, ve, some (.int x), vg, vh, vi] st M) : J E X pc [va, vb, vc, vd, ve, vf, vg, vh, vi] (.int x :: st) M := J_istore C hd hk (Nat.le_of_ble_eq_true rfl) k
theorem J_ist_6_7 (C : jK l E X own cc nL d) {va vb vc vd ve vf vg : Option Value} {x : Int32} (hd : decode cc pc = .ok (.istore 6, 2)) (hk : jok [va, vb, vc, vd, ve, vf, vg] 6 = true) (k : J E X (pc + 2) [va, vb, vc, vd, ve, vf, some (.int x)] st M) : J E X pc [va, vb, vc, vd, ve, vf, vg] (.int x :: st) M := J_istore C hd hk (Nat.le_of_ble_eq_true rfl) k
theorem J_ist_6_8 (C : jK l E X own cc nL d) {va vb vc vd ve vf vg vh : Option Value} {x : Int32} (hd : decode cc pc = .ok (.istore 6, 2)) (hk : jok [va, vb, vc, vd, ve, vf, vg, vh] 6 = true) (k : J E X (pc + 2) [va, vb, vc, vd, ve, vf, some (.int x), vh] st M) : J E X pc [va, vb, vc, vd, ve, vf, vg, vh] (.int x :: st) M := J_istore C hd hk (Nat.le_of_ble_eq_true rfl) k
theorem J_ist_7_8 (C : jK l E X own cc nL d) {va vb vc vd ve vf vg vh : Option Value} {x : Int32} (hd : decode cc pc = .ok (.istore 7, 2)) (hk : jok [va, vb, vc, vd, ve, vf, vg, vh] 7 = true) (k : J E X (pc + 2) [va, vb, vc, vd, ve, vf, vg, some (.int x)] st M) : J E X pc [va, vb, vc, vd, ve, vf, vg, vh] (.int x :: st) M := J_istore C hd hk (Nat.le_of_ble_eq_true rfl) k
theorem J_ist_7_13 (C : jK l E X own cc nL d) {va vb vc vd ve vf vg vh vi vj vk vl vm : Option Value} {x : Int32} (hd : decode cc pc = .ok (.istore 7, 2)) (hk : jok [va, vb, vc, vd, ve, vf, vg, vh, vi, vj, vk, vl, vm] 7 = true) (k : J E X (pc + 2) [va, vb, vc, vd, ve, vf, vg, some (.int x), vi, vj, vk, vl, vm] st M) : J E X pc [va, vb, vc, vd, ve, vf, vg, vh, vi, vj, vk, vl, vm] (.int x :: st) M := J_istore C hd hk (Nat.le_of_ble_eq_true rfl) k
theorem J_ist_8_9 (C : jK l E X own cc nL d) {va vb vc vd ve vf vg vh vi : Option Value} {x : Int32} (hd : decode cc pc = .ok (.istore 8, 2)) (hk : jok [va, vb, vc, vd, ve, vf, vg, vh, vi] 8 = true) (k : J E X (pc + 2) [va, vb, vc, vd, ve, vf, vg, vh, some (.int x)] st M) : J E X pc [va, vb, vc, vd, ve, vf, vg, vh, vi] (.int x :: st) M := J_istore C hd hk (Nat.le_of_ble_eq_true rfl) k
theorem J_iadd_n (C : jK l E X own cc nL d) {a b : Nat} (hd : decode cc pc = .ok (.iadd, 1)) (k : J E X (pc + 1) lv (.int (nI (a + b)) :: st) M) : J E X pc lv (.int (nI b) :: .int (nI a) :: st) M := J_iadd C hd (by rw [nI_add]; exact k)
theorem J_imul_n (C : jK l E X own cc nL d) {a b : Nat} (hd : decode cc pc = .ok (.imul, 1)) (k : J E X (pc + 1) lv (.int (nI (a * b)) :: st) M) : J E X pc lv (.int (nI b) :: .int (nI a) :: st) M := J_imul C hd (by rw [pk_mul]; exact k)
theorem J_isub_n (C : jK l E X own cc nL d) {a b : Nat} (h : b ≤ a) (hd : decode cc pc = .ok (.isub, 1)) (k : J E X (pc + 1) lv (.int (nI (a - b)) :: st) M) : J E X pc lv (.int (nI b) :: .int (nI a) :: st) M := J_isub C hd (by rw [pk_sub h]; exact k)
theorem J_idiv_n (C : jK l E X own cc nL d) {a b : Nat} (ha : a < 2 ^ 31) (hb : 0 < b) (hb2 : b < 2 ^ 31) (hd : decode cc pc = .ok (.idiv, 1)) (k : J E X (pc + 1) lv (.int (nI (a / b)) :: st) M) : J E X pc lv (.int (nI b) :: .int (nI a) :: st) M := J_idiv C hd (nI_ne0 hb hb2) (by rw [pk_div ha hb hb2]; exact k)
theorem J_irem_n (C : jK l E X own cc nL d) {a b : Nat} (ha : a < 2 ^ 31) (hb : 0 < b) (hb2 : b < 2 ^ 31) (hd : decode cc pc = .ok (.irem, 1)) (k : J E X (pc + 1) lv (.int (nI (a % b)) :: st) M) : J E X pc lv (.int (nI b) :: .int (nI a) :: st) M := J_irem C hd (nI_ne0 hb hb2) (by rw [pk_rem ha hb hb2]; exact k)
theorem J_if_eq_b (C : jK l E X own cc nL d) {b : Bool} {off : Int} {tgt : Nat} (hd : decode cc pc = .ok (.ifCond .eq off, 3)) (ht : (pc : Int) + off = (tgt : Int)) (kt : b = false → J E X tgt lv st M) (kf : b = true → J E X (pc + 3) lv st M) : J E X pc lv (.int (jb b) :: st) M := J_if_eq C hd ht (fun z => kt (by cases b <;> first | rfl | cases z)) (fun z => kf (by cases b <;> first | rfl | exact absurd rfl z))
theorem J_if_ne_b (C : jK l E X own cc nL d) {b : Bool} {off : Int} {tgt : Nat} (hd : decode cc pc = .ok (.ifCond .ne off, 3)) (ht : (pc : Int) + off = (tgt : Int)) (kt : b = true → J E X tgt lv st M) (kf : b = false → J E X (pc + 3) lv st M) : J E X pc lv (.int (jb b) :: st) M := J_if_ne C hd ht (fun z => kt (by cases b <;> first | rfl | exact absurd rfl z)) (fun z => kf (by cases b <;> first | rfl | exact absurd z (by decide)))
theorem J_icmp_eq_n (C : jK l E X own cc nL d) {a b : Nat} (ha : a < 2 ^ 31) (hb : b < 2 ^ 31) {off : Int} {tgt : Nat} (hd : decode cc pc = .ok (.if_icmp .eq off, 3)) (ht : (pc : Int) + off = (tgt : Int)) (kt : a = b → J E X tgt lv st M) (kf : a ≠ b → J E X (pc + 3) lv st M) : J E X pc lv (.int (nI b) :: .int (nI a) :: st) M := by
  refine J_icmp_eq C hd ht (fun z => kt ?_) (fun z => kf ?_) <;> simp only [nI_eq ha hb, nI_eq hb ha, nI_ltI ha hb, nI_ltI hb ha, nI_leI ha hb, nI_leI hb ha] at z <;> first | exact z | omega
theorem J_icmp_ne_n (C : jK l E X own cc nL d) {a b : Nat} (ha : a < 2 ^ 31) (hb : b < 2 ^ 31) {off : Int} {tgt : Nat} (hd : decode cc pc = .ok (.if_icmp .ne off, 3)) (ht : (pc : Int) + off = (tgt : Int)) (kt : a ≠ b → J E X tgt lv st M) (kf : a = b → J E X (pc + 3) lv st M) : J E X pc lv (.int (nI b) :: .int (nI a) :: st) M := by
  refine J_icmp_ne C hd ht (fun z => kt ?_) (fun z => kf ?_) <;> simp only [nI_eq ha hb, nI_eq hb ha, nI_ltI ha hb, nI_ltI hb ha, nI_leI ha hb, nI_leI hb ha] at z <;> first | exact z | omega
theorem J_icmp_lt_n (C : jK l E X own cc nL d) {a b : Nat} (ha : a < 2 ^ 31) (hb : b < 2 ^ 31) {off : Int} {tgt : Nat} (hd : decode cc pc = .ok (.if_icmp .lt off, 3)) (ht : (pc : Int) + off = (tgt : Int)) (kt : a < b → J E X tgt lv st M) (kf : b ≤ a → J E X (pc + 3) lv st M) : J E X pc lv (.int (nI b) :: .int (nI a) :: st) M := by
  refine J_icmp_lt C hd ht (fun z => kt ?_) (fun z => kf ?_) <;> simp only [nI_eq ha hb, nI_eq hb ha, nI_ltI ha hb, nI_ltI hb ha, nI_leI ha hb, nI_leI hb ha] at z <;> first | exact z | omega
theorem J_icmp_ge_n (C : jK l E X own cc nL d) {a b : Nat} (ha : a < 2 ^ 31) (hb : b < 2 ^ 31) {off : Int} {tgt : Nat} (hd : decode cc pc = .ok (.if_icmp .ge off, 3)) (ht : (pc : Int) + off = (tgt : Int)) (kt : b ≤ a → J E X tgt lv st M) (kf : a < b → J E X (pc + 3) lv st M) : J E X pc lv (.int (nI b) :: .int (nI a) :: st) M := by
  refine J_icmp_ge C hd ht (fun z => kt ?_) (fun z => kf ?_) <;> simp only [nI_eq ha hb, nI_eq hb ha, nI_ltI ha hb, nI_ltI hb ha, nI_leI ha hb, nI_leI hb ha] at z <;> first | exact z | omega
theorem J_icmp_gt_n (C : jK l E X own cc nL d) {a b : Nat} (ha : a < 2 ^ 31) (hb : b < 2 ^ 31) {off : Int} {tgt : Nat} (hd : decode cc pc = .ok (.if_icmp .gt off, 3)) (ht : (pc : Int) + off = (tgt : Int)) (kt : b < a → J E X tgt lv st M) (kf : a ≤ b → J E X (pc + 3) lv st M) : J E X pc lv (.int (nI b) :: .int (nI a) :: st) M := by
  refine J_icmp_gt C hd ht (fun z => kt ?_) (fun z => kf ?_) <;> simp only [nI_eq ha hb, nI_eq hb ha, nI_ltI ha hb, nI_ltI hb ha, nI_leI ha hb, nI_leI hb ha] at z <;> first | exact z | omega
theorem J_icmp_le_n (C : jK l E X own cc nL d) {a b : Nat} (ha : a < 2 ^ 31) (hb : b < 2 ^ 31) {off : Int} {tgt : Nat} (hd : decode cc pc = .ok (.if_icmp .le off, 3)) (ht : (pc : Int) + off = (tgt : Int)) (kt : a ≤ b → J E X tgt lv st M) (kf : b < a → J E X (pc + 3) lv st M) : J E X pc lv (.int (nI b) :: .int (nI a) :: st) M := by
  refine J_icmp_le C hd ht (fun z => kt ?_) (fun z => kf ?_) <;> simp only [nI_eq ha hb, nI_eq hb ha, nI_ltI ha hb, nI_ltI hb ha, nI_leI ha hb, nI_leI hb ha] at z <;> first | exact z | omega
theorem J_if_eq_n (C : jK l E X own cc nL d) {a : Nat} (ha : a < 2 ^ 31) {off : Int} {tgt : Nat} (hd : decode cc pc = .ok (.ifCond .eq off, 3)) (ht : (pc : Int) + off = (tgt : Int)) (kt : a = 0 → J E X tgt lv st M) (kf : a ≠ 0 → J E X (pc + 3) lv st M) : J E X pc lv (.int (nI a) :: st) M := by
  refine J_if_eq C hd ht (fun z => kt ?_) (fun z => kf ?_) <;> rw [← nI_0] at z <;> simp only [nI_eq ha (show (0 : Nat) < 2 ^ 31 by decide), nI_ltI ha (show (0 : Nat) < 2 ^ 31 by decide), nI_ltI (show (0 : Nat) < 2 ^ 31 by decide) ha, nI_leI ha (show (0 : Nat) < 2 ^ 31 by decide), nI_leI (show (0 : Nat) < 2 ^ 31 by decide) ha] at z <;> first | trivial | exact z | omega
theorem J_if_ne_n (C : jK l E X own cc nL d) {a : Nat} (ha : a < 2 ^ 31) {off : Int} {tgt : Nat} (hd : decode cc pc = .ok (.ifCond .ne off, 3)) (ht : (pc : Int) + off = (tgt : Int)) (kt : a ≠ 0 → J E X tgt lv st M) (kf : a = 0 → J E X (pc + 3) lv st M) : J E X pc lv (.int (nI a) :: st) M := by
  refine J_if_ne C hd ht (fun z => kt ?_) (fun z => kf ?_) <;> rw [← nI_0] at z <;> simp only [nI_eq ha (show (0 : Nat) < 2 ^ 31 by decide), nI_ltI ha (show (0 : Nat) < 2 ^ 31 by decide), nI_ltI (show (0 : Nat) < 2 ^ 31 by decide) ha, nI_leI ha (show (0 : Nat) < 2 ^ 31 by decide), nI_leI (show (0 : Nat) < 2 ^ 31 by decide) ha] at z <;> first | trivial | exact z | omega
theorem J_if_lt_n (C : jK l E X own cc nL d) {a : Nat} (ha : a < 2 ^ 31) {off : Int} {tgt : Nat} (hd : decode cc pc = .ok (.ifCond .lt off, 3)) (ht : (pc : Int) + off = (tgt : Int)) (kt : False → J E X tgt lv st M) (kf : True → J E X (pc + 3) lv st M) : J E X pc lv (.int (nI a) :: st) M := by
  refine J_if_lt C hd ht (fun z => kt ?_) (fun z => kf ?_) <;> rw [← nI_0] at z <;> simp only [nI_eq ha (show (0 : Nat) < 2 ^ 31 by decide), nI_ltI ha (show (0 : Nat) < 2 ^ 31 by decide), nI_ltI (show (0 : Nat) < 2 ^ 31 by decide) ha, nI_leI ha (show (0 : Nat) < 2 ^ 31 by decide), nI_leI (show (0 : Nat) < 2 ^ 31 by decide) ha] at z <;> first | trivial | exact z | omega
theorem J_if_ge_n (C : jK l E X own cc nL d) {a : Nat} (ha : a < 2 ^ 31) {off : Int} {tgt : Nat} (hd : decode cc pc = .ok (.ifCond .ge off, 3)) (ht : (pc : Int) + off = (tgt : Int)) (kt : True → J E X tgt lv st M) (kf : False → J E X (pc + 3) lv st M) : J E X pc lv (.int (nI a) :: st) M := by
  refine J_if_ge C hd ht (fun z => kt ?_) (fun z => kf ?_) <;> rw [← nI_0] at z <;> simp only [nI_eq ha (show (0 : Nat) < 2 ^ 31 by decide), nI_ltI ha (show (0 : Nat) < 2 ^ 31 by decide), nI_ltI (show (0 : Nat) < 2 ^ 31 by decide) ha, nI_leI ha (show (0 : Nat) < 2 ^ 31 by decide), nI_leI (show (0 : Nat) < 2 ^ 31 by decide) ha] at z <;> first | trivial | exact z | omega
theorem J_if_gt_n (C : jK l E X own cc nL d) {a : Nat} (ha : a < 2 ^ 31) {off : Int} {tgt : Nat} (hd : decode cc pc = .ok (.ifCond .gt off, 3)) (ht : (pc : Int) + off = (tgt : Int)) (kt : 0 < a → J E X tgt lv st M) (kf : a = 0 → J E X (pc + 3) lv st M) : J E X pc lv (.int (nI a) :: st) M := by
  refine J_if_gt C hd ht (fun z => kt ?_) (fun z => kf ?_) <;> rw [← nI_0] at z <;> simp only [nI_eq ha (show (0 : Nat) < 2 ^ 31 by decide), nI_ltI ha (show (0 : Nat) < 2 ^ 31 by decide), nI_ltI (show (0 : Nat) < 2 ^ 31 by decide) ha, nI_leI ha (show (0 : Nat) < 2 ^ 31 by decide), nI_leI (show (0 : Nat) < 2 ^ 31 by decide) ha] at z <;> first | trivial | exact z | omega
theorem J_if_le_n (C : jK l E X own cc nL d) {a : Nat} (ha : a < 2 ^ 31) {off : Int} {tgt : Nat} (hd : decode cc pc = .ok (.ifCond .le off, 3)) (ht : (pc : Int) + off = (tgt : Int)) (kt : a = 0 → J E X tgt lv st M) (kf : 0 < a → J E X (pc + 3) lv st M) : J E X pc lv (.int (nI a) :: st) M := by
  refine J_if_le C hd ht (fun z => kt ?_) (fun z => kf ?_) <;> rw [← nI_0] at z <;> simp only [nI_eq ha (show (0 : Nat) < 2 ^ 31 by decide), nI_ltI ha (show (0 : Nat) < 2 ^ 31 by decide), nI_ltI (show (0 : Nat) < 2 ^ 31 by decide) ha, nI_leI ha (show (0 : Nat) < 2 ^ 31 by decide), nI_leI (show (0 : Nat) < 2 ^ 31 by decide) ha] at z <;> first | trivial | exact z | omega
def fo (f : Nat) : Nat := 13 * f
def fp (f : Nat) : Nat := 13 * f + 1
def fr (f w : Nat) : Nat := 13 * f + 2 + w
def ft (f : Nat) : Nat := 13 * f + 8
def fk (f w : Nat) : Nat := 13 * f + 9 + w
def fs (f : Nat) : Nat := 13 * f + 12
/-- a fen's first place -/
def fb (f : Nat) : Nat := 134 * f
def so (q : Nat) : Nat := 50 + q
def sn (q : Nat) : Nat := 54 + q
/-- a sheet's first place: bits, length, numbers -/
def sb (q : Nat) : Nat := 908 + 42 * q
theorem jL_fo : ∀ f, f < 3 → jL[fo f]? = some (.inr (.inr (1, [.inl (fp f), .inl (ft f), .inl (fs f), .inr (.inl (fb f + 1)), .inr (.inl (fb f + 3)), .inr (.inl (fb f)), .inr (.inl (fb f + 2))]))) := by intro f h; rcases f with _ | _ | _ | f <;> first | rfl | omega
theorem jL_fp : ∀ f, f < 3 → jL[fp f]? = some (.inr (.inl (2, [fr f 0, fr f 1, fr f 2, fr f 3, fr f 4, fr f 5]))) := by intro f h; rcases f with _ | _ | _ | f <;> first | rfl | omega
theorem jL_fr : ∀ f, f < 3 → ∀ w, w < 6 → jL[fr f w]? = some (.inl (0, 16, fb f + 4 + w, 6)) := by intro f h w h2; rcases f with _ | _ | _ | f <;> first | omega | (rcases w with _ | _ | _ | _ | _ | _ | w <;> first | rfl | omega)
theorem jL_ft : ∀ f, f < 3 → jL[ft f]? = some (.inr (.inl (2, [fk f 0, fk f 1, fk f 2]))) := by intro f h; rcases f with _ | _ | _ | f <;> first | rfl | omega
theorem jL_fk : ∀ f, f < 3 → ∀ w, w < 3 → jL[fk f w]? = some (.inl (0, 8, fb f + 100 + w, 3)) := by intro f h w h2; rcases f with _ | _ | _ | f <;> first | omega | (rcases w with _ | _ | _ | w <;> first | rfl | omega)
theorem jL_fs : ∀ f, f < 3 → jL[fs f]? = some (.inl (0, 10, fb f + 124, 1)) := by intro f h; rcases f with _ | _ | _ | f <;> first | rfl | omega
theorem jL_so : ∀ q, q < 4 → jL[so q]? = some (.inr (.inr (3, [.inl (sn q), .inr (.inl (sb q)), .inr (.inl (sb q + 1))]))) := by intro q h; rcases q with _ | _ | _ | _ | q <;> first | rfl | omega
theorem jL_sn : ∀ q, q < 4 → jL[sn q]? = some (.inl (0, 40, sb q + 2, 1)) := by intro q h; rcases q with _ | _ | _ | _ | q <;> first | rfl | omega
theorem jL_sh : jL[49]? = some (.inr (.inl (3, [so 0, so 1, so 2, so 3]))) := rfl
theorem jo_fo : ∀ f, f < 3 → ∀ j, j < 4 → jown (fb f + j) = fo f := by decide +kernel
theorem jo_so : ∀ q, q < 4 → ∀ j, j < 2 → jown (sb q + j) = so q := by decide +kernel
theorem R_fp (C : jK l E X own cc nL d) {f w : Nat} (hf : f < 3) {i : Int32} (hi : i = nI w) (hw : w < 6) (hd : decode cc pc = .ok (.aaload, 1)) (k : J E X (pc + 1) lv (.ref (ja E (fr f w)) :: st) M) : J E X pc lv (.int i :: .ref (ja E (fp f)) :: st) M :=
  J_aald C (jL_fp f hf) (ty := .array .int) (cA := 0) rfl rfl hi (q := fr f w) (by rcases w with _ | _ | _ | _ | _ | _ | w <;> first | rfl | omega) hd k (Nat.le_of_ble_eq_true rfl)
theorem R_ft (C : jK l E X own cc nL d) {f w : Nat} (hf : f < 3) {i : Int32} (hi : i = nI w) (hw : w < 3) (hd : decode cc pc = .ok (.aaload, 1)) (k : J E X (pc + 1) lv (.ref (ja E (fk f w)) :: st) M) : J E X pc lv (.int i :: .ref (ja E (ft f)) :: st) M :=
  J_aald C (jL_ft f hf) (ty := .array .int) (cA := 0) rfl rfl hi (q := fk f w) (by rcases w with _ | _ | _ | w <;> first | rfl | omega) hd k (Nat.le_of_ble_eq_true rfl)
theorem R_sh (C : jK l E X own cc nL d) {w : Nat} {i : Int32} (hi : i = nI w) (hw : w < 4) (hd : decode cc pc = .ok (.aaload, 1)) (k : J E X (pc + 1) lv (.ref (ja E (so w)) :: st) M) : J E X pc lv (.int i :: .ref (ja E 49) :: st) M :=
  J_aald C jL_sh (ty := .object RX3) (cA := 0) rfl rfl hi (q := so w) (by rcases w with _ | _ | _ | _ | w <;> first | rfl | omega) hd k (Nat.le_of_ble_eq_true rfl)
theorem R_fr (C : jK l E X own cc nL d) {f w j : Nat} (hf : f < 3) (hw : w < 6) {i : Int32} (hi : i = nI j) (hj : j < 16) (hd : decode cc pc = .ok (.iaload, 1)) (k : J E X (pc + 1) lv (.int (M (fb f + (4 + 6 * j + w))) :: st) M) : J E X pc lv (.int i :: .ref (ja E (fr f w)) :: st) M :=
  J_iald C (jL_fr f hf w hw) hi hj hd (by rw [show fb f + 4 + w + 6 * j = fb f + (4 + 6 * j + w) by omega]; exact k)
theorem R_fk (C : jK l E X own cc nL d) {f w j : Nat} (hf : f < 3) (hw : w < 3) {i : Int32} (hi : i = nI j) (hj : j < 8) (hd : decode cc pc = .ok (.iaload, 1)) (k : J E X (pc + 1) lv (.int (M (fb f + (100 + 3 * j + w))) :: st) M) : J E X pc lv (.int i :: .ref (ja E (fk f w)) :: st) M :=
  J_iald C (jL_fk f hf w hw) hi hj hd (by rw [show fb f + 100 + w + 3 * j = fb f + (100 + 3 * j + w) by omega]; exact k)
theorem R_fs (C : jK l E X own cc nL d) {f j : Nat} (hf : f < 3) {i : Int32} (hi : i = nI j) (hj : j < 10) (hd : decode cc pc = .ok (.iaload, 1)) (k : J E X (pc + 1) lv (.int (M (fb f + (124 + j))) :: st) M) : J E X pc lv (.int i :: .ref (ja E (fs f)) :: st) M :=
  J_iald C (jL_fs f hf) hi hj hd (by rw [show fb f + 124 + 1 * j = fb f + (124 + j) by omega]; exact k)
theorem R_sn (C : jK l E X own cc nL d) {q j : Nat} (hq : q < 4) {i : Int32} (hi : i = nI j) (hj : j < 40) (hd : decode cc pc = .ok (.iaload, 1)) (k : J E X (pc + 1) lv (.int (M (sb q + (2 + j))) :: st) M) : J E X pc lv (.int i :: .ref (ja E (sn q)) :: st) M :=
  J_iald C (jL_sn q hq) hi hj hd (by rw [show sb q + 2 + 1 * j = sb q + (2 + j) by omega]; exact k)
theorem R_1 (C : jK l E X own cc nL d) {k n b j : Nat} {i : Int32} (hk : jL[k]? = some (.inl (0, n, b, 1))) (hi : i = nI j) (hj : j < n) (hd : decode cc pc = .ok (.iaload, 1)) (kk : J E X (pc + 1) lv (.int (M (b + j)) :: st) M) (hn : n < 1000 := by decide) : J E X pc lv (.int i :: .ref (ja E k) :: st) M :=
  J_iald C hk hi hj hd (by rw [Nat.one_mul]; exact kk) hn
theorem S_fr (C : jK l E X own cc nL d) {f w j : Nat} (hf : f < 3) (hw : w < 6) {i x : Int32} (hi : i = nI j) (hj : j < 16) (hd : decode cc pc = .ok (.iastore, 1)) (k : J E X (pc + 1) lv st (upd M (fb f + (4 + 6 * j + w)) x)) : J E X pc lv (.int x :: .int i :: .ref (ja E (fr f w)) :: st) M :=
  J_iast C (jL_fr f hf w hw) hi hj hd (by rw [show fb f + 4 + w + 6 * j = fb f + (4 + 6 * j + w) by omega]; exact k)
theorem S_fk (C : jK l E X own cc nL d) {f w j : Nat} (hf : f < 3) (hw : w < 3) {i x : Int32} (hi : i = nI j) (hj : j < 8) (hd : decode cc pc = .ok (.iastore, 1)) (k : J E X (pc + 1) lv st (upd M (fb f + (100 + 3 * j + w)) x)) : J E X pc lv (.int x :: .int i :: .ref (ja E (fk f w)) :: st) M :=
  J_iast C (jL_fk f hf w hw) hi hj hd (by rw [show fb f + 100 + w + 3 * j = fb f + (100 + 3 * j + w) by omega]; exact k)
theorem S_fs (C : jK l E X own cc nL d) {f j : Nat} (hf : f < 3) {i x : Int32} (hi : i = nI j) (hj : j < 10) (hd : decode cc pc = .ok (.iastore, 1)) (k : J E X (pc + 1) lv st (upd M (fb f + (124 + j)) x)) : J E X pc lv (.int x :: .int i :: .ref (ja E (fs f)) :: st) M :=
  J_iast C (jL_fs f hf) hi hj hd (by rw [show fb f + 124 + 1 * j = fb f + (124 + j) by omega]; exact k)
theorem S_sn (C : jK l E X own cc nL d) {q j : Nat} (hq : q < 4) {i x : Int32} (hi : i = nI j) (hj : j < 40) (hd : decode cc pc = .ok (.iastore, 1)) (k : J E X (pc + 1) lv st (upd M (sb q + (2 + j)) x)) : J E X pc lv (.int x :: .int i :: .ref (ja E (sn q)) :: st) M :=
  J_iast C (jL_sn q hq) hi hj hd (by rw [show sb q + 2 + 1 * j = sb q + (2 + j) by omega]; exact k)
theorem S_1 (C : jK l E X own cc nL d) {k n b j : Nat} {i x : Int32} (hk : jL[k]? = some (.inl (0, n, b, 1))) (hi : i = nI j) (hj : j < n) (hd : decode cc pc = .ok (.iastore, 1)) (kk : J E X (pc + 1) lv st (upd M (b + j) x)) (hn : n < 1000 := by decide) : J E X pc lv (.int x :: .int i :: .ref (ja E k) :: st) M :=
  J_iast C hk hi hj hd (by rw [Nat.one_mul]; exact kk) hn
theorem jin {sl : List (Nat ⊕ (Nat ⊕ (Nat × Nat)))} {j a : Nat} {M : jM} {E : jE} {x : Int32} (h : ∀ i q', sl[i]? = some q' → i ≠ j → a ∉ jplS q') : ∀ i q', sl[i]? = some q' → i ≠ j → jv E (upd M a x) q' = jv E M q' := fun i q' h1 h2 => jv_same (fun b hb => pk_un (fun z => h i q' h1 h2 (z ▸ hb)))
theorem jno {sl : List (Nat ⊕ (Nat ⊕ (Nat × Nat)))} {j a : Nat} (h : (sl.zipIdx.all (fun q => q.2 == j || !(jplS q.1).contains a)) = true) : ∀ i q', sl[i]? = some q' → i ≠ j → a ∉ jplS q' := by
  intro i q' h1 h2 h3
  have h4 := List.all_eq_true.mp h (q', i) (List.mem_of_getElem? (i := i) (by simp [h1]))
  simp at h4
  rcases h4 with h4 | h4
  · exact h2 h4
  · exact h4 h3
theorem jL_X0 : jL[39]? = some (.inr (.inr (0, [.inr (.inl 402), .inr (.inl 403), .inr (.inl 404), .inr (.inl 405)]))) := rfl
theorem G_X0_end (C : jK l E X own cc nL d) {i : Nat} (hw : Cond.fieldLink own i "PondLenses$Chain" "end" "I" ∈ W0) (hd : decode cc pc = .ok (.getfield i, 3)) (k : J E X (pc + 3) lv (.int (M 402) :: st) M) : J E X pc lv (.ref (ja E 39) :: st) M := J_get C jL_X0 (T := TX0) (N := 4) (Cn := RX0) inX0 rfl (j := 0) (by decide) rfl hw hd k
theorem P_X0_end (C : jK l E X own cc nL d) {i : Nat} {x : Int32} (hw : Cond.fieldLink own i "PondLenses$Chain" "end" "I" ∈ W0) (hd : decode cc pc = .ok (.putfield i, 3)) (k : J E X (pc + 3) lv st (upd M 402 x)) : J E X pc lv (.int x :: .ref (ja E 39) :: st) M := J_putG C jL_X0 (T := TX0) (N := 4) (Cn := RX0) (ty := .int) (M' := upd M 402 x) inX0 tyX0_ok nmX0 rfl (j := 0) (by decide) rfl rfl (by decide +kernel) rfl rfl (by simp [jv, upd]) (fun a ha => pk_un (fun z => ha (by rw [z]; decide +kernel))) (jin (jno (by decide +kernel))) hw hd k
theorem G_X0_size (C : jK l E X own cc nL d) {i : Nat} (hw : Cond.fieldLink own i "PondLenses$Chain" "size" "I" ∈ W0) (hd : decode cc pc = .ok (.getfield i, 3)) (k : J E X (pc + 3) lv (.int (M 403) :: st) M) : J E X pc lv (.ref (ja E 39) :: st) M := J_get C jL_X0 (T := TX0) (N := 4) (Cn := RX0) inX0 rfl (j := 1) (by decide) rfl hw hd k
theorem P_X0_size (C : jK l E X own cc nL d) {i : Nat} {x : Int32} (hw : Cond.fieldLink own i "PondLenses$Chain" "size" "I" ∈ W0) (hd : decode cc pc = .ok (.putfield i, 3)) (k : J E X (pc + 3) lv st (upd M 403 x)) : J E X pc lv (.int x :: .ref (ja E 39) :: st) M := J_putG C jL_X0 (T := TX0) (N := 4) (Cn := RX0) (ty := .int) (M' := upd M 403 x) inX0 tyX0_ok nmX0 rfl (j := 1) (by decide) rfl rfl (by decide +kernel) rfl rfl (by simp [jv, upd]) (fun a ha => pk_un (fun z => ha (by rw [z]; decide +kernel))) (jin (jno (by decide +kernel))) hw hd k
theorem G_X0_turned (C : jK l E X own cc nL d) {i : Nat} (hw : Cond.fieldLink own i "PondLenses$Chain" "turned" "I" ∈ W0) (hd : decode cc pc = .ok (.getfield i, 3)) (k : J E X (pc + 3) lv (.int (M 404) :: st) M) : J E X pc lv (.ref (ja E 39) :: st) M := J_get C jL_X0 (T := TX0) (N := 4) (Cn := RX0) inX0 rfl (j := 2) (by decide) rfl hw hd k
theorem P_X0_turned (C : jK l E X own cc nL d) {i : Nat} {x : Int32} (hw : Cond.fieldLink own i "PondLenses$Chain" "turned" "I" ∈ W0) (hd : decode cc pc = .ok (.putfield i, 3)) (k : J E X (pc + 3) lv st (upd M 404 x)) : J E X pc lv (.int x :: .ref (ja E 39) :: st) M := J_putG C jL_X0 (T := TX0) (N := 4) (Cn := RX0) (ty := .int) (M' := upd M 404 x) inX0 tyX0_ok nmX0 rfl (j := 2) (by decide) rfl rfl (by decide +kernel) rfl rfl (by simp [jv, upd]) (fun a ha => pk_un (fun z => ha (by rw [z]; decide +kernel))) (jin (jno (by decide +kernel))) hw hd k
theorem G_X0_flipped (C : jK l E X own cc nL d) {i : Nat} (hw : Cond.fieldLink own i "PondLenses$Chain" "flipped" "I" ∈ W0) (hd : decode cc pc = .ok (.getfield i, 3)) (k : J E X (pc + 3) lv (.int (M 405) :: st) M) : J E X pc lv (.ref (ja E 39) :: st) M := J_get C jL_X0 (T := TX0) (N := 4) (Cn := RX0) inX0 rfl (j := 3) (by decide) rfl hw hd k
theorem P_X0_flipped (C : jK l E X own cc nL d) {i : Nat} {x : Int32} (hw : Cond.fieldLink own i "PondLenses$Chain" "flipped" "I" ∈ W0) (hd : decode cc pc = .ok (.putfield i, 3)) (k : J E X (pc + 3) lv st (upd M 405 x)) : J E X pc lv (.int x :: .ref (ja E 39) :: st) M := J_putG C jL_X0 (T := TX0) (N := 4) (Cn := RX0) (ty := .int) (M' := upd M 405 x) inX0 tyX0_ok nmX0 rfl (j := 3) (by decide) rfl rfl (by decide +kernel) rfl rfl (by simp [jv, upd]) (fun a ha => pk_un (fun z => ha (by rw [z]; decide +kernel))) (jin (jno (by decide +kernel))) hw hd k
theorem jL_X2 : jL[40]? = some (.inr (.inr (2, [.inl 41]))) := rfl
theorem G_X2_tally (C : jK l E X own cc nL d) {i : Nat} (hw : Cond.fieldLink own i "PondLenses$Foresight" "tally" "[I" ∈ W0) (hd : decode cc pc = .ok (.getfield i, 3)) (k : J E X (pc + 3) lv (.ref (ja E 41) :: st) M) : J E X pc lv (.ref (ja E 40) :: st) M := J_get C jL_X2 (T := TX2) (N := 1) (Cn := RX2) inX2 rfl (j := 0) (by decide) rfl hw hd k
theorem jL_X4 : jL[42]? = some (.inr (.inr (4, [.inl 43, .inr (.inl 422)]))) := rfl
theorem G_X4_bytes (C : jK l E X own cc nL d) {i : Nat} (hw : Cond.fieldLink own i "PondLenses$Tape" "bytes" "[I" ∈ W0) (hd : decode cc pc = .ok (.getfield i, 3)) (k : J E X (pc + 3) lv (.ref (ja E 43) :: st) M) : J E X pc lv (.ref (ja E 42) :: st) M := J_get C jL_X4 (T := TX4) (N := 2) (Cn := RX4) inX4 rfl (j := 0) (by decide) rfl hw hd k
theorem G_X4_length (C : jK l E X own cc nL d) {i : Nat} (hw : Cond.fieldLink own i "PondLenses$Tape" "length" "I" ∈ W0) (hd : decode cc pc = .ok (.getfield i, 3)) (k : J E X (pc + 3) lv (.int (M 422) :: st) M) : J E X pc lv (.ref (ja E 42) :: st) M := J_get C jL_X4 (T := TX4) (N := 2) (Cn := RX4) inX4 rfl (j := 1) (by decide) rfl hw hd k
theorem P_X4_length (C : jK l E X own cc nL d) {i : Nat} {x : Int32} (hw : Cond.fieldLink own i "PondLenses$Tape" "length" "I" ∈ W0) (hd : decode cc pc = .ok (.putfield i, 3)) (k : J E X (pc + 3) lv st (upd M 422 x)) : J E X pc lv (.int x :: .ref (ja E 42) :: st) M := J_putG C jL_X4 (T := TX4) (N := 2) (Cn := RX4) (ty := .int) (M' := upd M 422 x) inX4 tyX4_ok nmX4 rfl (j := 1) (by decide) rfl rfl (by decide +kernel) rfl rfl (by simp [jv, upd]) (fun a ha => pk_un (fun z => ha (by rw [z]; decide +kernel))) (jin (jno (by decide +kernel))) hw hd k
theorem jL_X5 : jL[44]? = some (.inr (.inr (5, [.inl 45, .inr (.inl 543)]))) := rfl
theorem G_X5_tokens (C : jK l E X own cc nL d) {i : Nat} (hw : Cond.fieldLink own i "PondLenses$TextReader" "tokens" "LPondLenses$Tokens;" ∈ W0) (hd : decode cc pc = .ok (.getfield i, 3)) (k : J E X (pc + 3) lv (.ref (ja E 45) :: st) M) : J E X pc lv (.ref (ja E 44) :: st) M := J_get C jL_X5 (T := TX5) (N := 2) (Cn := RX5) inX5 rfl (j := 0) (by decide) rfl hw hd k
theorem G_X5_fault (C : jK l E X own cc nL d) {i : Nat} (hw : Cond.fieldLink own i "PondLenses$TextReader" "fault" "I" ∈ W0) (hd : decode cc pc = .ok (.getfield i, 3)) (k : J E X (pc + 3) lv (.int (M 543) :: st) M) : J E X pc lv (.ref (ja E 44) :: st) M := J_get C jL_X5 (T := TX5) (N := 2) (Cn := RX5) inX5 rfl (j := 1) (by decide) rfl hw hd k
theorem P_X5_fault (C : jK l E X own cc nL d) {i : Nat} {x : Int32} (hw : Cond.fieldLink own i "PondLenses$TextReader" "fault" "I" ∈ W0) (hd : decode cc pc = .ok (.putfield i, 3)) (k : J E X (pc + 3) lv st (upd M 543 x)) : J E X pc lv (.int x :: .ref (ja E 44) :: st) M := J_putG C jL_X5 (T := TX5) (N := 2) (Cn := RX5) (ty := .int) (M' := upd M 543 x) inX5 tyX5_ok nmX5 rfl (j := 1) (by decide) rfl rfl (by decide +kernel) rfl rfl (by simp [jv, upd]) (fun a ha => pk_un (fun z => ha (by rw [z]; decide +kernel))) (jin (jno (by decide +kernel))) hw hd k
theorem jL_X6 : jL[45]? = some (.inr (.inr (6, [.inl 46, .inl 47, .inl 48, .inr (.inl 544)]))) := rfl
theorem G_X6_sorts (C : jK l E X own cc nL d) {i : Nat} (hw : Cond.fieldLink own i "PondLenses$Tokens" "sorts" "[I" ∈ W0) (hd : decode cc pc = .ok (.getfield i, 3)) (k : J E X (pc + 3) lv (.ref (ja E 46) :: st) M) : J E X pc lv (.ref (ja E 45) :: st) M := J_get C jL_X6 (T := TX6) (N := 4) (Cn := RX6) inX6 rfl (j := 0) (by decide) rfl hw hd k
theorem G_X6_begins (C : jK l E X own cc nL d) {i : Nat} (hw : Cond.fieldLink own i "PondLenses$Tokens" "begins" "[I" ∈ W0) (hd : decode cc pc = .ok (.getfield i, 3)) (k : J E X (pc + 3) lv (.ref (ja E 47) :: st) M) : J E X pc lv (.ref (ja E 45) :: st) M := J_get C jL_X6 (T := TX6) (N := 4) (Cn := RX6) inX6 rfl (j := 1) (by decide) rfl hw hd k
theorem G_X6_values (C : jK l E X own cc nL d) {i : Nat} (hw : Cond.fieldLink own i "PondLenses$Tokens" "values" "[I" ∈ W0) (hd : decode cc pc = .ok (.getfield i, 3)) (k : J E X (pc + 3) lv (.ref (ja E 48) :: st) M) : J E X pc lv (.ref (ja E 45) :: st) M := J_get C jL_X6 (T := TX6) (N := 4) (Cn := RX6) inX6 rfl (j := 2) (by decide) rfl hw hd k
theorem G_X6_at (C : jK l E X own cc nL d) {i : Nat} (hw : Cond.fieldLink own i "PondLenses$Tokens" "at" "I" ∈ W0) (hd : decode cc pc = .ok (.getfield i, 3)) (k : J E X (pc + 3) lv (.int (M 544) :: st) M) : J E X pc lv (.ref (ja E 45) :: st) M := J_get C jL_X6 (T := TX6) (N := 4) (Cn := RX6) inX6 rfl (j := 3) (by decide) rfl hw hd k
theorem P_X6_at (C : jK l E X own cc nL d) {i : Nat} {x : Int32} (hw : Cond.fieldLink own i "PondLenses$Tokens" "at" "I" ∈ W0) (hd : decode cc pc = .ok (.putfield i, 3)) (k : J E X (pc + 3) lv st (upd M 544 x)) : J E X pc lv (.int x :: .ref (ja E 45) :: st) M := J_putG C jL_X6 (T := TX6) (N := 4) (Cn := RX6) (ty := .int) (M' := upd M 544 x) inX6 tyX6_ok nmX6 rfl (j := 3) (by decide) rfl rfl (by decide +kernel) rfl rfl (by simp [jv, upd]) (fun a ha => pk_un (fun z => ha (by rw [z]; decide +kernel))) (jin (jno (by decide +kernel))) hw hd k
theorem jL_X7 : jL[59]? = some (.inr (.inr (7, [.inl 0, .inl 13, .inl 26, .inr (.inl 1083), .inl 39, .inl 40, .inl 42, .inl 44, .inl 49, .inl 58]))) := rfl
theorem G_X7_fen (C : jK l E X own cc nL d) {i : Nat} (hw : Cond.fieldLink own i "PondLenses" "fen" "LPondLenses$Fen;" ∈ W0) (hd : decode cc pc = .ok (.getfield i, 3)) (k : J E X (pc + 3) lv (.ref (ja E (fo 0)) :: st) M) : J E X pc lv (.ref (ja E 59) :: st) M := J_get C jL_X7 (T := TX7) (N := 10) (Cn := RX7) inX7 rfl (j := 0) (by decide) rfl hw hd k
theorem G_X7_draft (C : jK l E X own cc nL d) {i : Nat} (hw : Cond.fieldLink own i "PondLenses" "draft" "LPondLenses$Fen;" ∈ W0) (hd : decode cc pc = .ok (.getfield i, 3)) (k : J E X (pc + 3) lv (.ref (ja E (fo 1)) :: st) M) : J E X pc lv (.ref (ja E 59) :: st) M := J_get C jL_X7 (T := TX7) (N := 10) (Cn := RX7) inX7 rfl (j := 1) (by decide) rfl hw hd k
theorem G_X7_kept (C : jK l E X own cc nL d) {i : Nat} (hw : Cond.fieldLink own i "PondLenses" "kept" "LPondLenses$Fen;" ∈ W0) (hd : decode cc pc = .ok (.getfield i, 3)) (k : J E X (pc + 3) lv (.ref (ja E (fo 2)) :: st) M) : J E X pc lv (.ref (ja E 59) :: st) M := J_get C jL_X7 (T := TX7) (N := 10) (Cn := RX7) inX7 rfl (j := 2) (by decide) rfl hw hd k
theorem G_X7_keeps (C : jK l E X own cc nL d) {i : Nat} (hw : Cond.fieldLink own i "PondLenses" "keeps" "Z" ∈ W0) (hd : decode cc pc = .ok (.getfield i, 3)) (k : J E X (pc + 3) lv (.int (M 1083) :: st) M) : J E X pc lv (.ref (ja E 59) :: st) M := J_get C jL_X7 (T := TX7) (N := 10) (Cn := RX7) inX7 rfl (j := 3) (by decide) rfl hw hd k
theorem P_X7_keeps (C : jK l E X own cc nL d) {i : Nat} {x : Int32} (b : Bool) (hx : x = jb b) (hw : Cond.fieldLink own i "PondLenses" "keeps" "Z" ∈ W0) (hd : decode cc pc = .ok (.putfield i, 3)) (k : J E X (pc + 3) lv st (upd M 1083 x)) : J E X pc lv (.int x :: .ref (ja E 59) :: st) M := J_putG C jL_X7 (T := TX7) (N := 10) (Cn := RX7) (ty := .boolean) (M' := upd M 1083 x) inX7 tyX7_ok nmX7 rfl (j := 3) (by decide) rfl rfl (by decide +kernel) (by rw [hx]; exact jb_z b) (by rw [hx]; cases b <;> rfl) (by simp [jv, upd]) (fun a ha => pk_un (fun z => ha (by rw [z]; decide +kernel))) (jin (jno (by decide +kernel))) hw hd k
theorem G_X7_walk (C : jK l E X own cc nL d) {i : Nat} (hw : Cond.fieldLink own i "PondLenses" "walk" "LPondLenses$Chain;" ∈ W0) (hd : decode cc pc = .ok (.getfield i, 3)) (k : J E X (pc + 3) lv (.ref (ja E 39) :: st) M) : J E X pc lv (.ref (ja E 59) :: st) M := J_get C jL_X7 (T := TX7) (N := 10) (Cn := RX7) inX7 rfl (j := 4) (by decide) rfl hw hd k
theorem G_X7_foresight (C : jK l E X own cc nL d) {i : Nat} (hw : Cond.fieldLink own i "PondLenses" "foresight" "LPondLenses$Foresight;" ∈ W0) (hd : decode cc pc = .ok (.getfield i, 3)) (k : J E X (pc + 3) lv (.ref (ja E 40) :: st) M) : J E X pc lv (.ref (ja E 59) :: st) M := J_get C jL_X7 (T := TX7) (N := 10) (Cn := RX7) inX7 rfl (j := 5) (by decide) rfl hw hd k
theorem G_X7_tape (C : jK l E X own cc nL d) {i : Nat} (hw : Cond.fieldLink own i "PondLenses" "tape" "LPondLenses$Tape;" ∈ W0) (hd : decode cc pc = .ok (.getfield i, 3)) (k : J E X (pc + 3) lv (.ref (ja E 42) :: st) M) : J E X pc lv (.ref (ja E 59) :: st) M := J_get C jL_X7 (T := TX7) (N := 10) (Cn := RX7) inX7 rfl (j := 6) (by decide) rfl hw hd k
theorem G_X7_reader (C : jK l E X own cc nL d) {i : Nat} (hw : Cond.fieldLink own i "PondLenses" "reader" "LPondLenses$TextReader;" ∈ W0) (hd : decode cc pc = .ok (.getfield i, 3)) (k : J E X (pc + 3) lv (.ref (ja E 44) :: st) M) : J E X pc lv (.ref (ja E 59) :: st) M := J_get C jL_X7 (T := TX7) (N := 10) (Cn := RX7) inX7 rfl (j := 7) (by decide) rfl hw hd k
theorem G_X7_sheets (C : jK l E X own cc nL d) {i : Nat} (hw : Cond.fieldLink own i "PondLenses" "sheets" "[LPondLenses$Sheet;" ∈ W0) (hd : decode cc pc = .ok (.getfield i, 3)) (k : J E X (pc + 3) lv (.ref (ja E 49) :: st) M) : J E X pc lv (.ref (ja E 59) :: st) M := J_get C jL_X7 (T := TX7) (N := 10) (Cn := RX7) inX7 rfl (j := 8) (by decide) rfl hw hd k
theorem G_X7_found (C : jK l E X own cc nL d) {i : Nat} (hw : Cond.fieldLink own i "PondLenses" "found" "[I" ∈ W0) (hd : decode cc pc = .ok (.getfield i, 3)) (k : J E X (pc + 3) lv (.ref (ja E 58) :: st) M) : J E X pc lv (.ref (ja E 59) :: st) M := J_get C jL_X7 (T := TX7) (N := 10) (Cn := RX7) inX7 rfl (j := 9) (by decide) rfl hw hd k
theorem jL_X8 : jL[60]? = some (.inr (.inr (8, [.inl 61, .inl 62, .inl 63, .inr (.inl 1853), .inl 64, .inr (.inl 1854), .inr (.inl 1855), .inr (.inl 1856), .inr (.inl 1857), .inl 65, .inl 66, .inr (.inl 1858), .inr (.inl 1859), .inr (.inl 1860), .inr (.inl 1861), .inr (.inr (2006, 2007)), .inl 71, .inl 72, .inl 73, .inl 74, .inl 67, .inl 68, .inl 69, .inl 70]))) := rfl
theorem G_X8_s (C : jK l E X own cc nL d) {i : Nat} (hw : Cond.fieldLink own i "PondLensesModel" "s" "[I" ∈ W0) (hd : decode cc pc = .ok (.getfield i, 3)) (k : J E X (pc + 3) lv (.ref (ja E 61) :: st) M) : J E X pc lv (.ref (ja E 60) :: st) M := J_get C jL_X8 (T := TX8) (N := 24) (Cn := RX8) inX8 rfl (j := 0) (by decide) rfl hw hd k
theorem G_X8_kept (C : jK l E X own cc nL d) {i : Nat} (hw : Cond.fieldLink own i "PondLensesModel" "kept" "[I" ∈ W0) (hd : decode cc pc = .ok (.getfield i, 3)) (k : J E X (pc + 3) lv (.ref (ja E 62) :: st) M) : J E X pc lv (.ref (ja E 60) :: st) M := J_get C jL_X8 (T := TX8) (N := 24) (Cn := RX8) inX8 rfl (j := 1) (by decide) rfl hw hd k
theorem G_X8_aside (C : jK l E X own cc nL d) {i : Nat} (hw : Cond.fieldLink own i "PondLensesModel" "aside" "[I" ∈ W0) (hd : decode cc pc = .ok (.getfield i, 3)) (k : J E X (pc + 3) lv (.ref (ja E 63) :: st) M) : J E X pc lv (.ref (ja E 60) :: st) M := J_get C jL_X8 (T := TX8) (N := 24) (Cn := RX8) inX8 rfl (j := 2) (by decide) rfl hw hd k
theorem G_X8_isKept (C : jK l E X own cc nL d) {i : Nat} (hw : Cond.fieldLink own i "PondLensesModel" "isKept" "Z" ∈ W0) (hd : decode cc pc = .ok (.getfield i, 3)) (k : J E X (pc + 3) lv (.int (M 1853) :: st) M) : J E X pc lv (.ref (ja E 60) :: st) M := J_get C jL_X8 (T := TX8) (N := 24) (Cn := RX8) inX8 rfl (j := 3) (by decide) rfl hw hd k
theorem P_X8_isKept (C : jK l E X own cc nL d) {i : Nat} {x : Int32} (b : Bool) (hx : x = jb b) (hw : Cond.fieldLink own i "PondLensesModel" "isKept" "Z" ∈ W0) (hd : decode cc pc = .ok (.putfield i, 3)) (k : J E X (pc + 3) lv st (upd M 1853 x)) : J E X pc lv (.int x :: .ref (ja E 60) :: st) M := J_putG C jL_X8 (T := TX8) (N := 24) (Cn := RX8) (ty := .boolean) (M' := upd M 1853 x) inX8 tyX8_ok nmX8 rfl (j := 3) (by decide) rfl rfl (by decide +kernel) (by rw [hx]; exact jb_z b) (by rw [hx]; cases b <;> rfl) (by simp [jv, upd]) (fun a ha => pk_un (fun z => ha (by rw [z]; decide +kernel))) (jin (jno (by decide +kernel))) hw hd k
theorem G_X8_found (C : jK l E X own cc nL d) {i : Nat} (hw : Cond.fieldLink own i "PondLensesModel" "found" "[I" ∈ W0) (hd : decode cc pc = .ok (.getfield i, 3)) (k : J E X (pc + 3) lv (.ref (ja E 64) :: st) M) : J E X pc lv (.ref (ja E 60) :: st) M := J_get C jL_X8 (T := TX8) (N := 24) (Cn := RX8) inX8 rfl (j := 4) (by decide) rfl hw hd k
theorem G_X8_ends (C : jK l E X own cc nL d) {i : Nat} (hw : Cond.fieldLink own i "PondLensesModel" "ends" "I" ∈ W0) (hd : decode cc pc = .ok (.getfield i, 3)) (k : J E X (pc + 3) lv (.int (M 1854) :: st) M) : J E X pc lv (.ref (ja E 60) :: st) M := J_get C jL_X8 (T := TX8) (N := 24) (Cn := RX8) inX8 rfl (j := 5) (by decide) rfl hw hd k
theorem P_X8_ends (C : jK l E X own cc nL d) {i : Nat} {x : Int32} (hw : Cond.fieldLink own i "PondLensesModel" "ends" "I" ∈ W0) (hd : decode cc pc = .ok (.putfield i, 3)) (k : J E X (pc + 3) lv st (upd M 1854 x)) : J E X pc lv (.int x :: .ref (ja E 60) :: st) M := J_putG C jL_X8 (T := TX8) (N := 24) (Cn := RX8) (ty := .int) (M' := upd M 1854 x) inX8 tyX8_ok nmX8 rfl (j := 5) (by decide) rfl rfl (by decide +kernel) rfl rfl (by simp [jv, upd]) (fun a ha => pk_un (fun z => ha (by rw [z]; decide +kernel))) (jin (jno (by decide +kernel))) hw hd k
theorem G_X8_size (C : jK l E X own cc nL d) {i : Nat} (hw : Cond.fieldLink own i "PondLensesModel" "size" "I" ∈ W0) (hd : decode cc pc = .ok (.getfield i, 3)) (k : J E X (pc + 3) lv (.int (M 1855) :: st) M) : J E X pc lv (.ref (ja E 60) :: st) M := J_get C jL_X8 (T := TX8) (N := 24) (Cn := RX8) inX8 rfl (j := 6) (by decide) rfl hw hd k
theorem P_X8_size (C : jK l E X own cc nL d) {i : Nat} {x : Int32} (hw : Cond.fieldLink own i "PondLensesModel" "size" "I" ∈ W0) (hd : decode cc pc = .ok (.putfield i, 3)) (k : J E X (pc + 3) lv st (upd M 1855 x)) : J E X pc lv (.int x :: .ref (ja E 60) :: st) M := J_putG C jL_X8 (T := TX8) (N := 24) (Cn := RX8) (ty := .int) (M' := upd M 1855 x) inX8 tyX8_ok nmX8 rfl (j := 6) (by decide) rfl rfl (by decide +kernel) rfl rfl (by simp [jv, upd]) (fun a ha => pk_un (fun z => ha (by rw [z]; decide +kernel))) (jin (jno (by decide +kernel))) hw hd k
theorem G_X8_turned (C : jK l E X own cc nL d) {i : Nat} (hw : Cond.fieldLink own i "PondLensesModel" "turned" "I" ∈ W0) (hd : decode cc pc = .ok (.getfield i, 3)) (k : J E X (pc + 3) lv (.int (M 1856) :: st) M) : J E X pc lv (.ref (ja E 60) :: st) M := J_get C jL_X8 (T := TX8) (N := 24) (Cn := RX8) inX8 rfl (j := 7) (by decide) rfl hw hd k
theorem P_X8_turned (C : jK l E X own cc nL d) {i : Nat} {x : Int32} (hw : Cond.fieldLink own i "PondLensesModel" "turned" "I" ∈ W0) (hd : decode cc pc = .ok (.putfield i, 3)) (k : J E X (pc + 3) lv st (upd M 1856 x)) : J E X pc lv (.int x :: .ref (ja E 60) :: st) M := J_putG C jL_X8 (T := TX8) (N := 24) (Cn := RX8) (ty := .int) (M' := upd M 1856 x) inX8 tyX8_ok nmX8 rfl (j := 7) (by decide) rfl rfl (by decide +kernel) rfl rfl (by simp [jv, upd]) (fun a ha => pk_un (fun z => ha (by rw [z]; decide +kernel))) (jin (jno (by decide +kernel))) hw hd k
theorem G_X8_flipped (C : jK l E X own cc nL d) {i : Nat} (hw : Cond.fieldLink own i "PondLensesModel" "flipped" "I" ∈ W0) (hd : decode cc pc = .ok (.getfield i, 3)) (k : J E X (pc + 3) lv (.int (M 1857) :: st) M) : J E X pc lv (.ref (ja E 60) :: st) M := J_get C jL_X8 (T := TX8) (N := 24) (Cn := RX8) inX8 rfl (j := 8) (by decide) rfl hw hd k
theorem P_X8_flipped (C : jK l E X own cc nL d) {i : Nat} {x : Int32} (hw : Cond.fieldLink own i "PondLensesModel" "flipped" "I" ∈ W0) (hd : decode cc pc = .ok (.putfield i, 3)) (k : J E X (pc + 3) lv st (upd M 1857 x)) : J E X pc lv (.int x :: .ref (ja E 60) :: st) M := J_putG C jL_X8 (T := TX8) (N := 24) (Cn := RX8) (ty := .int) (M' := upd M 1857 x) inX8 tyX8_ok nmX8 rfl (j := 8) (by decide) rfl rfl (by decide +kernel) rfl rfl (by simp [jv, upd]) (fun a ha => pk_un (fun z => ha (by rw [z]; decide +kernel))) (jin (jno (by decide +kernel))) hw hd k
theorem G_X8_counts (C : jK l E X own cc nL d) {i : Nat} (hw : Cond.fieldLink own i "PondLensesModel" "counts" "[I" ∈ W0) (hd : decode cc pc = .ok (.getfield i, 3)) (k : J E X (pc + 3) lv (.ref (ja E 65) :: st) M) : J E X pc lv (.ref (ja E 60) :: st) M := J_get C jL_X8 (T := TX8) (N := 24) (Cn := RX8) inX8 rfl (j := 9) (by decide) rfl hw hd k
theorem G_X8_tape (C : jK l E X own cc nL d) {i : Nat} (hw : Cond.fieldLink own i "PondLensesModel" "tape" "[I" ∈ W0) (hd : decode cc pc = .ok (.getfield i, 3)) (k : J E X (pc + 3) lv (.ref (ja E 66) :: st) M) : J E X pc lv (.ref (ja E 60) :: st) M := J_get C jL_X8 (T := TX8) (N := 24) (Cn := RX8) inX8 rfl (j := 10) (by decide) rfl hw hd k
theorem G_X8_taped (C : jK l E X own cc nL d) {i : Nat} (hw : Cond.fieldLink own i "PondLensesModel" "taped" "I" ∈ W0) (hd : decode cc pc = .ok (.getfield i, 3)) (k : J E X (pc + 3) lv (.int (M 1858) :: st) M) : J E X pc lv (.ref (ja E 60) :: st) M := J_get C jL_X8 (T := TX8) (N := 24) (Cn := RX8) inX8 rfl (j := 11) (by decide) rfl hw hd k
theorem P_X8_taped (C : jK l E X own cc nL d) {i : Nat} {x : Int32} (hw : Cond.fieldLink own i "PondLensesModel" "taped" "I" ∈ W0) (hd : decode cc pc = .ok (.putfield i, 3)) (k : J E X (pc + 3) lv st (upd M 1858 x)) : J E X pc lv (.int x :: .ref (ja E 60) :: st) M := J_putG C jL_X8 (T := TX8) (N := 24) (Cn := RX8) (ty := .int) (M' := upd M 1858 x) inX8 tyX8_ok nmX8 rfl (j := 11) (by decide) rfl rfl (by decide +kernel) rfl rfl (by simp [jv, upd]) (fun a ha => pk_un (fun z => ha (by rw [z]; decide +kernel))) (jin (jno (by decide +kernel))) hw hd k
theorem G_X8_token (C : jK l E X own cc nL d) {i : Nat} (hw : Cond.fieldLink own i "PondLensesModel" "token" "I" ∈ W0) (hd : decode cc pc = .ok (.getfield i, 3)) (k : J E X (pc + 3) lv (.int (M 1859) :: st) M) : J E X pc lv (.ref (ja E 60) :: st) M := J_get C jL_X8 (T := TX8) (N := 24) (Cn := RX8) inX8 rfl (j := 12) (by decide) rfl hw hd k
theorem P_X8_token (C : jK l E X own cc nL d) {i : Nat} {x : Int32} (hw : Cond.fieldLink own i "PondLensesModel" "token" "I" ∈ W0) (hd : decode cc pc = .ok (.putfield i, 3)) (k : J E X (pc + 3) lv st (upd M 1859 x)) : J E X pc lv (.int x :: .ref (ja E 60) :: st) M := J_putG C jL_X8 (T := TX8) (N := 24) (Cn := RX8) (ty := .int) (M' := upd M 1859 x) inX8 tyX8_ok nmX8 rfl (j := 12) (by decide) rfl rfl (by decide +kernel) rfl rfl (by simp [jv, upd]) (fun a ha => pk_un (fun z => ha (by rw [z]; decide +kernel))) (jin (jno (by decide +kernel))) hw hd k
theorem G_X8_begun (C : jK l E X own cc nL d) {i : Nat} (hw : Cond.fieldLink own i "PondLensesModel" "begun" "I" ∈ W0) (hd : decode cc pc = .ok (.getfield i, 3)) (k : J E X (pc + 3) lv (.int (M 1860) :: st) M) : J E X pc lv (.ref (ja E 60) :: st) M := J_get C jL_X8 (T := TX8) (N := 24) (Cn := RX8) inX8 rfl (j := 13) (by decide) rfl hw hd k
theorem P_X8_begun (C : jK l E X own cc nL d) {i : Nat} {x : Int32} (hw : Cond.fieldLink own i "PondLensesModel" "begun" "I" ∈ W0) (hd : decode cc pc = .ok (.putfield i, 3)) (k : J E X (pc + 3) lv st (upd M 1860 x)) : J E X pc lv (.int x :: .ref (ja E 60) :: st) M := J_putG C jL_X8 (T := TX8) (N := 24) (Cn := RX8) (ty := .int) (M' := upd M 1860 x) inX8 tyX8_ok nmX8 rfl (j := 13) (by decide) rfl rfl (by decide +kernel) rfl rfl (by simp [jv, upd]) (fun a ha => pk_un (fun z => ha (by rw [z]; decide +kernel))) (jin (jno (by decide +kernel))) hw hd k
theorem G_X8_ended (C : jK l E X own cc nL d) {i : Nat} (hw : Cond.fieldLink own i "PondLensesModel" "ended" "I" ∈ W0) (hd : decode cc pc = .ok (.getfield i, 3)) (k : J E X (pc + 3) lv (.int (M 1861) :: st) M) : J E X pc lv (.ref (ja E 60) :: st) M := J_get C jL_X8 (T := TX8) (N := 24) (Cn := RX8) inX8 rfl (j := 14) (by decide) rfl hw hd k
theorem P_X8_ended (C : jK l E X own cc nL d) {i : Nat} {x : Int32} (hw : Cond.fieldLink own i "PondLensesModel" "ended" "I" ∈ W0) (hd : decode cc pc = .ok (.putfield i, 3)) (k : J E X (pc + 3) lv st (upd M 1861 x)) : J E X pc lv (.int x :: .ref (ja E 60) :: st) M := J_putG C jL_X8 (T := TX8) (N := 24) (Cn := RX8) (ty := .int) (M' := upd M 1861 x) inX8 tyX8_ok nmX8 rfl (j := 14) (by decide) rfl rfl (by decide +kernel) rfl rfl (by simp [jv, upd]) (fun a ha => pk_un (fun z => ha (by rw [z]; decide +kernel))) (jin (jno (by decide +kernel))) hw hd k
theorem G_X8_value (C : jK l E X own cc nL d) {i : Nat} (hw : Cond.fieldLink own i "PondLensesModel" "value" "J" ∈ W0) (hd : decode cc pc = .ok (.getfield i, 3)) (k : J E X (pc + 3) lv (.long (jmk (M 2006) (M 2007)) :: st) M) : J E X pc lv (.ref (ja E 60) :: st) M := J_get C jL_X8 (T := TX8) (N := 24) (Cn := RX8) inX8 rfl (j := 15) (by decide) rfl hw hd k
theorem G_X8_letters (C : jK l E X own cc nL d) {i : Nat} (hw : Cond.fieldLink own i "PondLensesModel" "letters" "[C" ∈ W0) (hd : decode cc pc = .ok (.getfield i, 3)) (k : J E X (pc + 3) lv (.ref (ja E 71) :: st) M) : J E X pc lv (.ref (ja E 60) :: st) M := J_get C jL_X8 (T := TX8) (N := 24) (Cn := RX8) inX8 rfl (j := 16) (by decide) rfl hw hd k
theorem G_X8_more (C : jK l E X own cc nL d) {i : Nat} (hw : Cond.fieldLink own i "PondLensesModel" "more" "[C" ∈ W0) (hd : decode cc pc = .ok (.getfield i, 3)) (k : J E X (pc + 3) lv (.ref (ja E 72) :: st) M) : J E X pc lv (.ref (ja E 60) :: st) M := J_get C jL_X8 (T := TX8) (N := 24) (Cn := RX8) inX8 rfl (j := 17) (by decide) rfl hw hd k
theorem G_X8_others (C : jK l E X own cc nL d) {i : Nat} (hw : Cond.fieldLink own i "PondLensesModel" "others" "[C" ∈ W0) (hd : decode cc pc = .ok (.getfield i, 3)) (k : J E X (pc + 3) lv (.ref (ja E 73) :: st) M) : J E X pc lv (.ref (ja E 60) :: st) M := J_get C jL_X8 (T := TX8) (N := 24) (Cn := RX8) inX8 rfl (j := 18) (by decide) rfl hw hd k
theorem G_X8_about (C : jK l E X own cc nL d) {i : Nat} (hw : Cond.fieldLink own i "PondLensesModel" "about" "[C" ∈ W0) (hd : decode cc pc = .ok (.getfield i, 3)) (k : J E X (pc + 3) lv (.ref (ja E 74) :: st) M) : J E X pc lv (.ref (ja E 60) :: st) M := J_get C jL_X8 (T := TX8) (N := 24) (Cn := RX8) inX8 rfl (j := 19) (by decide) rfl hw hd k
theorem G_X8_widths (C : jK l E X own cc nL d) {i : Nat} (hw : Cond.fieldLink own i "PondLensesModel" "widths" "[I" ∈ W0) (hd : decode cc pc = .ok (.getfield i, 3)) (k : J E X (pc + 3) lv (.ref (ja E 67) :: st) M) : J E X pc lv (.ref (ja E 60) :: st) M := J_get C jL_X8 (T := TX8) (N := 24) (Cn := RX8) inX8 rfl (j := 20) (by decide) rfl hw hd k
theorem G_X8_sizes (C : jK l E X own cc nL d) {i : Nat} (hw : Cond.fieldLink own i "PondLensesModel" "sizes" "[I" ∈ W0) (hd : decode cc pc = .ok (.getfield i, 3)) (k : J E X (pc + 3) lv (.ref (ja E 68) :: st) M) : J E X pc lv (.ref (ja E 60) :: st) M := J_get C jL_X8 (T := TX8) (N := 24) (Cn := RX8) inX8 rfl (j := 21) (by decide) rfl hw hd k
theorem G_X8_cells (C : jK l E X own cc nL d) {i : Nat} (hw : Cond.fieldLink own i "PondLensesModel" "cells" "[I" ∈ W0) (hd : decode cc pc = .ok (.getfield i, 3)) (k : J E X (pc + 3) lv (.ref (ja E 69) :: st) M) : J E X pc lv (.ref (ja E 60) :: st) M := J_get C jL_X8 (T := TX8) (N := 24) (Cn := RX8) inX8 rfl (j := 22) (by decide) rfl hw hd k
theorem G_X8_carried (C : jK l E X own cc nL d) {i : Nat} (hw : Cond.fieldLink own i "PondLensesModel" "carried" "[I" ∈ W0) (hd : decode cc pc = .ok (.getfield i, 3)) (k : J E X (pc + 3) lv (.ref (ja E 70) :: st) M) : J E X pc lv (.ref (ja E 60) :: st) M := J_get C jL_X8 (T := TX8) (N := 24) (Cn := RX8) inX8 rfl (j := 23) (by decide) rfl hw hd k
theorem G_X1_ponds (C : jK l E X own cc nL d) {i f : Nat} (hf : f < 3) (hw : Cond.fieldLink own i "PondLenses$Fen" "ponds" "[[I" ∈ W0) (hd : decode cc pc = .ok (.getfield i, 3)) (k : J E X (pc + 3) lv (.ref (ja E (fp f)) :: st) M) : J E X pc lv (.ref (ja E (fo f)) :: st) M := J_get C (jL_fo f hf) (T := TX1) (N := 7) (Cn := RX1) inX1 rfl (j := 0) (by decide) rfl hw hd k
theorem G_X1_things (C : jK l E X own cc nL d) {i f : Nat} (hf : f < 3) (hw : Cond.fieldLink own i "PondLenses$Fen" "things" "[[I" ∈ W0) (hd : decode cc pc = .ok (.getfield i, 3)) (k : J E X (pc + 3) lv (.ref (ja E (ft f)) :: st) M) : J E X pc lv (.ref (ja E (fo f)) :: st) M := J_get C (jL_fo f hf) (T := TX1) (N := 7) (Cn := RX1) inX1 rfl (j := 1) (by decide) rfl hw hd k
theorem G_X1_spots (C : jK l E X own cc nL d) {i f : Nat} (hf : f < 3) (hw : Cond.fieldLink own i "PondLenses$Fen" "spots" "[I" ∈ W0) (hd : decode cc pc = .ok (.getfield i, 3)) (k : J E X (pc + 3) lv (.ref (ja E (fs f)) :: st) M) : J E X pc lv (.ref (ja E (fo f)) :: st) M := J_get C (jL_fo f hf) (T := TX1) (N := 7) (Cn := RX1) inX1 rfl (j := 2) (by decide) rfl hw hd k
theorem G_X1_size (C : jK l E X own cc nL d) {i f : Nat} (hf : f < 3) (hw : Cond.fieldLink own i "PondLenses$Fen" "size" "I" ∈ W0) (hd : decode cc pc = .ok (.getfield i, 3)) (k : J E X (pc + 3) lv (.int (M (fb f + 1)) :: st) M) : J E X pc lv (.ref (ja E (fo f)) :: st) M := J_get C (jL_fo f hf) (T := TX1) (N := 7) (Cn := RX1) inX1 rfl (j := 3) (by decide) rfl hw hd k
theorem P_X1_size (C : jK l E X own cc nL d) {i f : Nat} (hf : f < 3) {x : Int32} (hw : Cond.fieldLink own i "PondLenses$Fen" "size" "I" ∈ W0) (hd : decode cc pc = .ok (.putfield i, 3)) (k : J E X (pc + 3) lv st (upd M (fb f + 1) x)) : J E X pc lv (.int x :: .ref (ja E (fo f)) :: st) M := J_putG C (jL_fo f hf) (T := TX1) (N := 7) (Cn := RX1) (ty := .int) (M' := upd M (fb f + 1) x) inX1 tyX1_ok nmX1 rfl (j := 3) (by decide) rfl rfl (by decide +kernel) rfl rfl (by simp [jv, upd]) (fun a ha => pk_un (fun z => ha (by rw [z]; exact jo_fo f hf 1 (by decide)))) (jin (jno (by simp [jplS, List.zipIdx]))) hw hd k
theorem G_X1_rain (C : jK l E X own cc nL d) {i f : Nat} (hf : f < 3) (hw : Cond.fieldLink own i "PondLenses$Fen" "rain" "I" ∈ W0) (hd : decode cc pc = .ok (.getfield i, 3)) (k : J E X (pc + 3) lv (.int (M (fb f + 3)) :: st) M) : J E X pc lv (.ref (ja E (fo f)) :: st) M := J_get C (jL_fo f hf) (T := TX1) (N := 7) (Cn := RX1) inX1 rfl (j := 4) (by decide) rfl hw hd k
theorem P_X1_rain (C : jK l E X own cc nL d) {i f : Nat} (hf : f < 3) {x : Int32} (hw : Cond.fieldLink own i "PondLenses$Fen" "rain" "I" ∈ W0) (hd : decode cc pc = .ok (.putfield i, 3)) (k : J E X (pc + 3) lv st (upd M (fb f + 3) x)) : J E X pc lv (.int x :: .ref (ja E (fo f)) :: st) M := J_putG C (jL_fo f hf) (T := TX1) (N := 7) (Cn := RX1) (ty := .int) (M' := upd M (fb f + 3) x) inX1 tyX1_ok nmX1 rfl (j := 4) (by decide) rfl rfl (by decide +kernel) rfl rfl (by simp [jv, upd]) (fun a ha => pk_un (fun z => ha (by rw [z]; exact jo_fo f hf 3 (by decide)))) (jin (jno (by simp [jplS, List.zipIdx]))) hw hd k
theorem G_X1_minute (C : jK l E X own cc nL d) {i f : Nat} (hf : f < 3) (hw : Cond.fieldLink own i "PondLenses$Fen" "minute" "I" ∈ W0) (hd : decode cc pc = .ok (.getfield i, 3)) (k : J E X (pc + 3) lv (.int (M (fb f)) :: st) M) : J E X pc lv (.ref (ja E (fo f)) :: st) M := J_get C (jL_fo f hf) (T := TX1) (N := 7) (Cn := RX1) inX1 rfl (j := 5) (by decide) rfl hw hd k
theorem P_X1_minute (C : jK l E X own cc nL d) {i f : Nat} (hf : f < 3) {x : Int32} (hw : Cond.fieldLink own i "PondLenses$Fen" "minute" "I" ∈ W0) (hd : decode cc pc = .ok (.putfield i, 3)) (k : J E X (pc + 3) lv st (upd M (fb f) x)) : J E X pc lv (.int x :: .ref (ja E (fo f)) :: st) M := J_putG C (jL_fo f hf) (T := TX1) (N := 7) (Cn := RX1) (ty := .int) (M' := upd M (fb f) x) inX1 tyX1_ok nmX1 rfl (j := 5) (by decide) rfl rfl (by decide +kernel) rfl rfl (by simp [jv, upd]) (fun a ha => pk_un (fun z => ha (by rw [z]; exact jo_fo f hf 0 (by decide)))) (jin (jno (by simp [jplS, List.zipIdx]))) hw hd k
theorem G_X1_z (C : jK l E X own cc nL d) {i f : Nat} (hf : f < 3) (hw : Cond.fieldLink own i "PondLenses$Fen" "z" "I" ∈ W0) (hd : decode cc pc = .ok (.getfield i, 3)) (k : J E X (pc + 3) lv (.int (M (fb f + 2)) :: st) M) : J E X pc lv (.ref (ja E (fo f)) :: st) M := J_get C (jL_fo f hf) (T := TX1) (N := 7) (Cn := RX1) inX1 rfl (j := 6) (by decide) rfl hw hd k
theorem P_X1_z (C : jK l E X own cc nL d) {i f : Nat} (hf : f < 3) {x : Int32} (hw : Cond.fieldLink own i "PondLenses$Fen" "z" "I" ∈ W0) (hd : decode cc pc = .ok (.putfield i, 3)) (k : J E X (pc + 3) lv st (upd M (fb f + 2) x)) : J E X pc lv (.int x :: .ref (ja E (fo f)) :: st) M := J_putG C (jL_fo f hf) (T := TX1) (N := 7) (Cn := RX1) (ty := .int) (M' := upd M (fb f + 2) x) inX1 tyX1_ok nmX1 rfl (j := 6) (by decide) rfl rfl (by decide +kernel) rfl rfl (by simp [jv, upd]) (fun a ha => pk_un (fun z => ha (by rw [z]; exact jo_fo f hf 2 (by decide)))) (jin (jno (by simp [jplS, List.zipIdx]))) hw hd k
theorem G_X3_numbers (C : jK l E X own cc nL d) {i q : Nat} (hq : q < 4) (hw : Cond.fieldLink own i "PondLenses$Sheet" "numbers" "[I" ∈ W0) (hd : decode cc pc = .ok (.getfield i, 3)) (k : J E X (pc + 3) lv (.ref (ja E (sn q)) :: st) M) : J E X pc lv (.ref (ja E (so q)) :: st) M := J_get C (jL_so q hq) (T := TX3) (N := 3) (Cn := RX3) inX3 rfl (j := 0) (by decide) rfl hw hd k
theorem G_X3_bits (C : jK l E X own cc nL d) {i q : Nat} (hq : q < 4) (hw : Cond.fieldLink own i "PondLenses$Sheet" "bits" "I" ∈ W0) (hd : decode cc pc = .ok (.getfield i, 3)) (k : J E X (pc + 3) lv (.int (M (sb q)) :: st) M) : J E X pc lv (.ref (ja E (so q)) :: st) M := J_get C (jL_so q hq) (T := TX3) (N := 3) (Cn := RX3) inX3 rfl (j := 1) (by decide) rfl hw hd k
theorem P_X3_bits (C : jK l E X own cc nL d) {i q : Nat} (hq : q < 4) {x : Int32} (hw : Cond.fieldLink own i "PondLenses$Sheet" "bits" "I" ∈ W0) (hd : decode cc pc = .ok (.putfield i, 3)) (k : J E X (pc + 3) lv st (upd M (sb q) x)) : J E X pc lv (.int x :: .ref (ja E (so q)) :: st) M := J_putG C (jL_so q hq) (T := TX3) (N := 3) (Cn := RX3) (ty := .int) (M' := upd M (sb q) x) inX3 tyX3_ok nmX3 rfl (j := 1) (by decide) rfl rfl (by decide +kernel) rfl rfl (by simp [jv, upd]) (fun a ha => pk_un (fun z => ha (by rw [z]; exact jo_so q hq 0 (by decide)))) (jin (jno (by simp [jplS, List.zipIdx]))) hw hd k
theorem G_X3_length (C : jK l E X own cc nL d) {i q : Nat} (hq : q < 4) (hw : Cond.fieldLink own i "PondLenses$Sheet" "length" "I" ∈ W0) (hd : decode cc pc = .ok (.getfield i, 3)) (k : J E X (pc + 3) lv (.int (M (sb q + 1)) :: st) M) : J E X pc lv (.ref (ja E (so q)) :: st) M := J_get C (jL_so q hq) (T := TX3) (N := 3) (Cn := RX3) inX3 rfl (j := 2) (by decide) rfl hw hd k
theorem P_X3_length (C : jK l E X own cc nL d) {i q : Nat} (hq : q < 4) {x : Int32} (hw : Cond.fieldLink own i "PondLenses$Sheet" "length" "I" ∈ W0) (hd : decode cc pc = .ok (.putfield i, 3)) (k : J E X (pc + 3) lv st (upd M (sb q + 1) x)) : J E X pc lv (.int x :: .ref (ja E (so q)) :: st) M := J_putG C (jL_so q hq) (T := TX3) (N := 3) (Cn := RX3) (ty := .int) (M' := upd M (sb q + 1) x) inX3 tyX3_ok nmX3 rfl (j := 2) (by decide) rfl rfl (by decide +kernel) rfl rfl (by simp [jv, upd]) (fun a ha => pk_un (fun z => ha (by rw [z]; exact jo_so q hq 1 (by decide)))) (jin (jno (by simp [jplS, List.zipIdx]))) hw hd k
end JS
end
section
section KC
variable {l : Launch} {E : jE} {X : jX} {own : String} {cc : ByteArray} {nL d : Nat} {pc : Nat} {lv : List (Option Value)} {st : List Value} {M : jM}
/-- a contract with one answer and one memory behind it -/
abbrev CI (l : Launch) (E : jE) (d : Nat) (y : MethodName) (b : ByteArray) (n : Nat) (ret : Option FieldType) (as : List Value) (M : jM) (v : Int32) (M' : jM) : Prop := CT l E d y b n ret as M (fun r m => r = some (.int v) ∧ m = M')
abbrev CV (l : Launch) (E : jE) (d : Nat) (y : MethodName) (b : ByteArray) (n : Nat) (ret : Option FieldType) (as : List Value) (M : jM) (M' : jM) : Prop := CT l E d y b n ret as M (fun r m => r = none ∧ m = M')
abbrev CL (l : Launch) (E : jE) (d : Nat) (y : MethodName) (b : ByteArray) (n : Nat) (ret : Option FieldType) (as : List Value) (M : jM) (v : Int64) (M' : jM) : Prop := CT l E d y b n ret as M (fun r m => r = some (.long v) ∧ m = M')
abbrev CR (l : Launch) (E : jE) (d : Nat) (y : MethodName) (b : ByteArray) (n : Nat) (ret : Option FieldType) (as : List Value) (M : jM) (v : Nat) (M' : jM) : Prop := CT l E d y b n ret as M (fun r m => r = some (.ref v) ∧ m = M')
abbrev K_X0_begin (l : Launch) (E : jE) (as : List Value) (M : jM) (M' : jM) : Prop := CV l E 0 yX0_begin cX0_begin 2 none as M M'
theorem ky_X0_begin : jy yX0_begin cX0_begin 2 none 1 := ⟨wC_yX0_begin, wN_RX0, ⟨by decide +kernel, by decide +kernel, by decide +kernel⟩, by decide⟩
theorem V_X0_begin (C : jK l E X own cc nL d) {i : Nat} {p0 : Int32} {M' : jM} (hM : K_X0_begin l E [.ref (ja E 39), .int p0] M M') (hw : Cond.methodLink own i yX0_begin ∈ W0) (hdd : 0 < d) (hd : decode cc pc = .ok (.invokevirtual i, 3)) (hn : lv.length = nL) (hcat : (st.map fun v => v.category).sum ≤ 8) (k : J E X (pc + 3) lv (st) M') : J E X pc lv (.int p0 :: .ref (ja E 39) :: st) M := J_callV C (T := TX0) (N := 4) hM ky_X0_begin wI_yX0_begin wE_yX0_begin rfl hw jL_X0 rfl hdd hd hn rfl hcat (fun r m h => by obtain ⟨rfl, rfl⟩ := h; exact k)
abbrev K_X0_step (l : Launch) (E : jE) (as : List Value) (M : jM) (M' : jM) : Prop := CV l E 1 yX0_step cX0_step 3 none as M M'
theorem ky_X0_step : jy yX0_step cX0_step 3 none 1 := ⟨wC_yX0_step, wN_RX0, ⟨by decide +kernel, by decide +kernel, by decide +kernel⟩, by decide⟩
theorem V_X0_step (C : jK l E X own cc nL d) {i : Nat} {p0 : Nat} {M' : jM} (hM : K_X0_step l E [.ref (ja E 39), .ref p0] M M') (hw : Cond.methodLink own i yX0_step ∈ W0) (hdd : 1 < d) (hd : decode cc pc = .ok (.invokevirtual i, 3)) (hn : lv.length = nL) (hcat : (st.map fun v => v.category).sum ≤ 8) (k : J E X (pc + 3) lv (st) M') : J E X pc lv (.ref p0 :: .ref (ja E 39) :: st) M := J_callV C (T := TX0) (N := 4) hM ky_X0_step wI_yX0_step wE_yX0_step rfl hw jL_X0 rfl hdd hd hn rfl hcat (fun r m h => by obtain ⟨rfl, rfl⟩ := h; exact k)
abbrev K_X0_take (l : Launch) (E : jE) (as : List Value) (M : jM) (M' : jM) : Prop := CV l E 2 yX0_take cX0_take 5 none as M M'
theorem ky_X0_take : jy yX0_take cX0_take 5 none 3 := ⟨wC_yX0_take, wN_RX0, ⟨by decide +kernel, by decide +kernel, by decide +kernel⟩, by decide⟩
theorem V_X0_take (C : jK l E X own cc nL d) {i : Nat} {p0 : Nat} {p1 : Int32} {p2 : Int32} {M' : jM} (hM : K_X0_take l E [.ref (ja E 39), .ref p0, .int p1, .int p2] M M') (hw : Cond.methodLink own i yX0_take ∈ W0) (hdd : 2 < d) (hd : decode cc pc = .ok (.invokevirtual i, 3)) (hn : lv.length = nL) (hcat : (st.map fun v => v.category).sum ≤ 8) (k : J E X (pc + 3) lv (st) M') : J E X pc lv (.int p2 :: .int p1 :: .ref p0 :: .ref (ja E 39) :: st) M := J_callV C (T := TX0) (N := 4) hM ky_X0_take wI_yX0_take wE_yX0_take rfl hw jL_X0 rfl hdd hd hn rfl hcat (fun r m h => by obtain ⟨rfl, rfl⟩ := h; exact k)
abbrev K_X1_become (l : Launch) (E : jE) (as : List Value) (M : jM) (M' : jM) : Prop := CV l E 1 yX1_become cX1_become 3 none as M M'
theorem ky_X1_become : jy yX1_become cX1_become 3 none 1 := ⟨wC_yX1_become, wN_RX1, ⟨by decide +kernel, by decide +kernel, by decide +kernel⟩, by decide⟩
theorem V_X1_become (C : jK l E X own cc nL d) {f : Nat} (hf : f < 3) {i : Nat} {p0 : Nat} {M' : jM} (hM : K_X1_become l E [.ref (ja E (fo f)), .ref p0] M M') (hw : Cond.methodLink own i yX1_become ∈ W0) (hdd : 1 < d) (hd : decode cc pc = .ok (.invokevirtual i, 3)) (hn : lv.length = nL) (hcat : (st.map fun v => v.category).sum ≤ 8) (k : J E X (pc + 3) lv (st) M') : J E X pc lv (.ref p0 :: .ref (ja E (fo f)) :: st) M := J_callV C (T := TX1) (N := 7) hM ky_X1_become wI_yX1_become wE_yX1_become rfl hw (jL_fo f hf) rfl hdd hd hn rfl hcat (fun r m h => by obtain ⟨rfl, rfl⟩ := h; exact k)
abbrev K_X1_has (l : Launch) (E : jE) (as : List Value) (M : jM) (v : Int32) (M' : jM) : Prop := CI l E 0 yX1_has cX1_has 2 (some .boolean) as M v M'
theorem ky_X1_has : jy yX1_has cX1_has 2 (some .boolean) 1 := ⟨wC_yX1_has, wN_RX1, ⟨by decide +kernel, by decide +kernel, by decide +kernel⟩, by decide⟩
theorem V_X1_has (C : jK l E X own cc nL d) {f : Nat} (hf : f < 3) {i : Nat} {p0 : Int32} {v : Int32} {M' : jM} (hM : K_X1_has l E [.ref (ja E (fo f)), .int p0] M v M') (hw : Cond.methodLink own i yX1_has ∈ W0) (hdd : 0 < d) (hd : decode cc pc = .ok (.invokevirtual i, 3)) (hn : lv.length = nL) (hcat : (st.map fun v => v.category).sum ≤ 8) (k : J E X (pc + 3) lv (.int v :: st) M') : J E X pc lv (.int p0 :: .ref (ja E (fo f)) :: st) M := J_callV C (T := TX1) (N := 7) hM ky_X1_has wI_yX1_has wE_yX1_has rfl hw (jL_fo f hf) rfl hdd hd hn rfl hcat (fun r m h => by obtain ⟨rfl, rfl⟩ := h; exact k)
abbrev K_X1_isFull (l : Launch) (E : jE) (as : List Value) (M : jM) (v : Int32) (M' : jM) : Prop := CI l E 0 yX1_isFull cX1_isFull 1 (some .boolean) as M v M'
theorem ky_X1_isFull : jy yX1_isFull cX1_isFull 1 (some .boolean) 0 := ⟨wC_yX1_isFull, wN_RX1, ⟨by decide +kernel, by decide +kernel, by decide +kernel⟩, by decide⟩
theorem V_X1_isFull (C : jK l E X own cc nL d) {f : Nat} (hf : f < 3) {i : Nat}  {v : Int32} {M' : jM} (hM : K_X1_isFull l E [.ref (ja E (fo f))] M v M') (hw : Cond.methodLink own i yX1_isFull ∈ W0) (hdd : 0 < d) (hd : decode cc pc = .ok (.invokevirtual i, 3)) (hn : lv.length = nL) (hcat : (st.map fun v => v.category).sum ≤ 8) (k : J E X (pc + 3) lv (.int v :: st) M') : J E X pc lv (.ref (ja E (fo f)) :: st) M := J_callV C (T := TX1) (N := 7) hM ky_X1_isFull wI_yX1_isFull wE_yX1_isFull rfl hw (jL_fo f hf) rfl hdd hd hn rfl hcat (fun r m h => by obtain ⟨rfl, rfl⟩ := h; exact k)
abbrev K_X1_add (l : Launch) (E : jE) (as : List Value) (M : jM) (v : Int32) (M' : jM) : Prop := CI l E 0 yX1_add cX1_add 5 (some .int) as M v M'
theorem ky_X1_add : jy yX1_add cX1_add 5 (some .int) 3 := ⟨wC_yX1_add, wN_RX1, ⟨by decide +kernel, by decide +kernel, by decide +kernel⟩, by decide⟩
theorem V_X1_add (C : jK l E X own cc nL d) {f : Nat} (hf : f < 3) {i : Nat} {p0 : Int32} {p1 : Int32} {p2 : Int32} {v : Int32} {M' : jM} (hM : K_X1_add l E [.ref (ja E (fo f)), .int p0, .int p1, .int p2] M v M') (hw : Cond.methodLink own i yX1_add ∈ W0) (hdd : 0 < d) (hd : decode cc pc = .ok (.invokevirtual i, 3)) (hn : lv.length = nL) (hcat : (st.map fun v => v.category).sum ≤ 8) (k : J E X (pc + 3) lv (.int v :: st) M') : J E X pc lv (.int p2 :: .int p1 :: .int p0 :: .ref (ja E (fo f)) :: st) M := J_callV C (T := TX1) (N := 7) hM ky_X1_add wI_yX1_add wE_yX1_add rfl hw (jL_fo f hf) rfl hdd hd hn rfl hcat (fun r m h => by obtain ⟨rfl, rfl⟩ := h; exact k)
abbrev K_X1_isOfKind (l : Launch) (E : jE) (as : List Value) (M : jM) (v : Int32) (M' : jM) : Prop := CI l E 0 yX1_isOfKind cX1_isOfKind 3 (some .boolean) as M v M'
theorem ky_X1_isOfKind : jy yX1_isOfKind cX1_isOfKind 3 (some .boolean) 2 := ⟨wC_yX1_isOfKind, wN_RX1, ⟨by decide +kernel, by decide +kernel, by decide +kernel⟩, by decide⟩
theorem V_X1_isOfKind (C : jK l E X own cc nL d) {f : Nat} (hf : f < 3) {i : Nat} {p0 : Int32} {p1 : Int32} {v : Int32} {M' : jM} (hM : K_X1_isOfKind l E [.ref (ja E (fo f)), .int p0, .int p1] M v M') (hw : Cond.methodLink own i yX1_isOfKind ∈ W0) (hdd : 0 < d) (hd : decode cc pc = .ok (.invokevirtual i, 3)) (hn : lv.length = nL) (hcat : (st.map fun v => v.category).sum ≤ 8) (k : J E X (pc + 3) lv (.int v :: st) M') : J E X pc lv (.int p1 :: .int p0 :: .ref (ja E (fo f)) :: st) M := J_callV C (T := TX1) (N := 7) hM ky_X1_isOfKind wI_yX1_isOfKind wE_yX1_isOfKind rfl hw (jL_fo f hf) rfl hdd hd hn rfl hcat (fun r m h => by obtain ⟨rfl, rfl⟩ := h; exact k)
abbrev K_X1_thingsIn (l : Launch) (E : jE) (as : List Value) (M : jM) (v : Int32) (M' : jM) : Prop := CI l E 0 yX1_thingsIn cX1_thingsIn 4 (some .int) as M v M'
theorem ky_X1_thingsIn : jy yX1_thingsIn cX1_thingsIn 4 (some .int) 1 := ⟨wC_yX1_thingsIn, wN_RX1, ⟨by decide +kernel, by decide +kernel, by decide +kernel⟩, by decide⟩
theorem V_X1_thingsIn (C : jK l E X own cc nL d) {f : Nat} (hf : f < 3) {i : Nat} {p0 : Int32} {v : Int32} {M' : jM} (hM : K_X1_thingsIn l E [.ref (ja E (fo f)), .int p0] M v M') (hw : Cond.methodLink own i yX1_thingsIn ∈ W0) (hdd : 0 < d) (hd : decode cc pc = .ok (.invokevirtual i, 3)) (hn : lv.length = nL) (hcat : (st.map fun v => v.category).sum ≤ 8) (k : J E X (pc + 3) lv (.int v :: st) M') : J E X pc lv (.int p0 :: .ref (ja E (fo f)) :: st) M := J_callV C (T := TX1) (N := 7) hM ky_X1_thingsIn wI_yX1_thingsIn wE_yX1_thingsIn rfl hw (jL_fo f hf) rfl hdd hd hn rfl hcat (fun r m h => by obtain ⟨rfl, rfl⟩ := h; exact k)
abbrev K_X1_thingsSeenIn (l : Launch) (E : jE) (as : List Value) (M : jM) (v : Int32) (M' : jM) : Prop := CI l E 1 yX1_thingsSeenIn cX1_thingsSeenIn 2 (some .int) as M v M'
theorem ky_X1_thingsSeenIn : jy yX1_thingsSeenIn cX1_thingsSeenIn 2 (some .int) 1 := ⟨wC_yX1_thingsSeenIn, wN_RX1, ⟨by decide +kernel, by decide +kernel, by decide +kernel⟩, by decide⟩
theorem V_X1_thingsSeenIn (C : jK l E X own cc nL d) {f : Nat} (hf : f < 3) {i : Nat} {p0 : Int32} {v : Int32} {M' : jM} (hM : K_X1_thingsSeenIn l E [.ref (ja E (fo f)), .int p0] M v M') (hw : Cond.methodLink own i yX1_thingsSeenIn ∈ W0) (hdd : 1 < d) (hd : decode cc pc = .ok (.invokevirtual i, 3)) (hn : lv.length = nL) (hcat : (st.map fun v => v.category).sum ≤ 8) (k : J E X (pc + 3) lv (.int v :: st) M') : J E X pc lv (.int p0 :: .ref (ja E (fo f)) :: st) M := J_callV C (T := TX1) (N := 7) hM ky_X1_thingsSeenIn wI_yX1_thingsSeenIn wE_yX1_thingsSeenIn rfl hw (jL_fo f hf) rfl hdd hd hn rfl hcat (fun r m h => by obtain ⟨rfl, rfl⟩ := h; exact k)
abbrev K_X1_showersOf (l : Launch) (E : jE) (as : List Value) (M : jM) (v : Int32) (M' : jM) : Prop := CI l E 0 yX1_showersOf cX1_showersOf 4 (some .int) as M v M'
theorem ky_X1_showersOf : jy yX1_showersOf cX1_showersOf 4 (some .int) 1 := ⟨wC_yX1_showersOf, wN_RX1, ⟨by decide +kernel, by decide +kernel, by decide +kernel⟩, by decide⟩
theorem V_X1_showersOf (C : jK l E X own cc nL d) {f : Nat} (hf : f < 3) {i : Nat} {p0 : Int32} {v : Int32} {M' : jM} (hM : K_X1_showersOf l E [.ref (ja E (fo f)), .int p0] M v M') (hw : Cond.methodLink own i yX1_showersOf ∈ W0) (hdd : 0 < d) (hd : decode cc pc = .ok (.invokevirtual i, 3)) (hn : lv.length = nL) (hcat : (st.map fun v => v.category).sum ≤ 8) (k : J E X (pc + 3) lv (.int v :: st) M') : J E X pc lv (.int p0 :: .ref (ja E (fo f)) :: st) M := J_callV C (T := TX1) (N := 7) hM ky_X1_showersOf wI_yX1_showersOf wE_yX1_showersOf rfl hw (jL_fo f hf) rfl hdd hd hn rfl hcat (fun r m h => by obtain ⟨rfl, rfl⟩ := h; exact k)
abbrev K_X1_pondsWithThings (l : Launch) (E : jE) (as : List Value) (M : jM) (v : Int32) (M' : jM) : Prop := CI l E 0 yX1_pondsWithThings cX1_pondsWithThings 3 (some .int) as M v M'
theorem ky_X1_pondsWithThings : jy yX1_pondsWithThings cX1_pondsWithThings 3 (some .int) 0 := ⟨wC_yX1_pondsWithThings, wN_RX1, ⟨by decide +kernel, by decide +kernel, by decide +kernel⟩, by decide⟩
theorem V_X1_pondsWithThings (C : jK l E X own cc nL d) {f : Nat} (hf : f < 3) {i : Nat}  {v : Int32} {M' : jM} (hM : K_X1_pondsWithThings l E [.ref (ja E (fo f))] M v M') (hw : Cond.methodLink own i yX1_pondsWithThings ∈ W0) (hdd : 0 < d) (hd : decode cc pc = .ok (.invokevirtual i, 3)) (hn : lv.length = nL) (hcat : (st.map fun v => v.category).sum ≤ 8) (k : J E X (pc + 3) lv (.int v :: st) M') : J E X pc lv (.ref (ja E (fo f)) :: st) M := J_callV C (T := TX1) (N := 7) hM ky_X1_pondsWithThings wI_yX1_pondsWithThings wE_yX1_pondsWithThings rfl hw (jL_fo f hf) rfl hdd hd hn rfl hcat (fun r m h => by obtain ⟨rfl, rfl⟩ := h; exact k)
abbrev K_X1_pondsWithSights (l : Launch) (E : jE) (as : List Value) (M : jM) (v : Int32) (M' : jM) : Prop := CI l E 1 yX1_pondsWithSights cX1_pondsWithSights 4 (some .int) as M v M'
theorem ky_X1_pondsWithSights : jy yX1_pondsWithSights cX1_pondsWithSights 4 (some .int) 0 := ⟨wC_yX1_pondsWithSights, wN_RX1, ⟨by decide +kernel, by decide +kernel, by decide +kernel⟩, by decide⟩
theorem V_X1_pondsWithSights (C : jK l E X own cc nL d) {f : Nat} (hf : f < 3) {i : Nat}  {v : Int32} {M' : jM} (hM : K_X1_pondsWithSights l E [.ref (ja E (fo f))] M v M') (hw : Cond.methodLink own i yX1_pondsWithSights ∈ W0) (hdd : 1 < d) (hd : decode cc pc = .ok (.invokevirtual i, 3)) (hn : lv.length = nL) (hcat : (st.map fun v => v.category).sum ≤ 8) (k : J E X (pc + 3) lv (.int v :: st) M') : J E X pc lv (.ref (ja E (fo f)) :: st) M := J_callV C (T := TX1) (N := 7) hM ky_X1_pondsWithSights wI_yX1_pondsWithSights wE_yX1_pondsWithSights rfl hw (jL_fo f hf) rfl hdd hd hn rfl hcat (fun r m h => by obtain ⟨rfl, rfl⟩ := h; exact k)
abbrev K_X1_lengths (l : Launch) (E : jE) (as : List Value) (M : jM) (v : Int32) (M' : jM) : Prop := CI l E 0 yX1_lengths cX1_lengths 3 (some .int) as M v M'
theorem ky_X1_lengths : jy yX1_lengths cX1_lengths 3 (some .int) 0 := ⟨wC_yX1_lengths, wN_RX1, ⟨by decide +kernel, by decide +kernel, by decide +kernel⟩, by decide⟩
theorem V_X1_lengths (C : jK l E X own cc nL d) {f : Nat} (hf : f < 3) {i : Nat}  {v : Int32} {M' : jM} (hM : K_X1_lengths l E [.ref (ja E (fo f))] M v M') (hw : Cond.methodLink own i yX1_lengths ∈ W0) (hdd : 0 < d) (hd : decode cc pc = .ok (.invokevirtual i, 3)) (hn : lv.length = nL) (hcat : (st.map fun v => v.category).sum ≤ 8) (k : J E X (pc + 3) lv (.int v :: st) M') : J E X pc lv (.ref (ja E (fo f)) :: st) M := J_callV C (T := TX1) (N := 7) hM ky_X1_lengths wI_yX1_lengths wE_yX1_lengths rfl hw (jL_fo f hf) rfl hdd hd hn rfl hcat (fun r m h => by obtain ⟨rfl, rfl⟩ := h; exact k)
abbrev K_X1_spotsInUse (l : Launch) (E : jE) (as : List Value) (M : jM) (v : Int32) (M' : jM) : Prop := CI l E 0 yX1_spotsInUse cX1_spotsInUse 6 (some .int) as M v M'
theorem ky_X1_spotsInUse : jy yX1_spotsInUse cX1_spotsInUse 6 (some .int) 0 := ⟨wC_yX1_spotsInUse, wN_RX1, ⟨by decide +kernel, by decide +kernel, by decide +kernel⟩, by decide⟩
theorem V_X1_spotsInUse (C : jK l E X own cc nL d) {f : Nat} (hf : f < 3) {i : Nat}  {v : Int32} {M' : jM} (hM : K_X1_spotsInUse l E [.ref (ja E (fo f))] M v M') (hw : Cond.methodLink own i yX1_spotsInUse ∈ W0) (hdd : 0 < d) (hd : decode cc pc = .ok (.invokevirtual i, 3)) (hn : lv.length = nL) (hcat : (st.map fun v => v.category).sum ≤ 8) (k : J E X (pc + 3) lv (.int v :: st) M') : J E X pc lv (.ref (ja E (fo f)) :: st) M := J_callV C (T := TX1) (N := 7) hM ky_X1_spotsInUse wI_yX1_spotsInUse wE_yX1_spotsInUse rfl hw (jL_fo f hf) rfl hdd hd hn rfl hcat (fun r m h => by obtain ⟨rfl, rfl⟩ := h; exact k)
abbrev K_X1_passMinute (l : Launch) (E : jE) (as : List Value) (M : jM) (M' : jM) : Prop := CV l E 3 yX1_passMinute cX1_passMinute 2 none as M M'
theorem ky_X1_passMinute : jy yX1_passMinute cX1_passMinute 2 none 0 := ⟨wC_yX1_passMinute, wN_RX1, ⟨by decide +kernel, by decide +kernel, by decide +kernel⟩, by decide⟩
theorem V_X1_passMinute (C : jK l E X own cc nL d) {f : Nat} (hf : f < 3) {i : Nat}  {M' : jM} (hM : K_X1_passMinute l E [.ref (ja E (fo f))] M M') (hw : Cond.methodLink own i yX1_passMinute ∈ W0) (hdd : 3 < d) (hd : decode cc pc = .ok (.invokevirtual i, 3)) (hn : lv.length = nL) (hcat : (st.map fun v => v.category).sum ≤ 8) (k : J E X (pc + 3) lv (st) M') : J E X pc lv (.ref (ja E (fo f)) :: st) M := J_callV C (T := TX1) (N := 7) hM ky_X1_passMinute wI_yX1_passMinute wE_yX1_passMinute rfl hw (jL_fo f hf) rfl hdd hd hn rfl hcat (fun r m h => by obtain ⟨rfl, rfl⟩ := h; exact k)
abbrev K_X1_nextPond (l : Launch) (E : jE) (as : List Value) (M : jM) (v : Int32) (M' : jM) : Prop := CI l E 2 yX1_nextPond cX1_nextPond 4 (some .int) as M v M'
theorem ky_X1_nextPond : jy yX1_nextPond cX1_nextPond 4 (some .int) 1 := ⟨wC_yX1_nextPond, wN_RX1, ⟨by decide +kernel, by decide +kernel, by decide +kernel⟩, by decide⟩
theorem V_X1_nextPond (C : jK l E X own cc nL d) {f : Nat} (hf : f < 3) {i : Nat} {p0 : Int32} {v : Int32} {M' : jM} (hM : K_X1_nextPond l E [.ref (ja E (fo f)), .int p0] M v M') (hw : Cond.methodLink own i yX1_nextPond ∈ W0) (hdd : 2 < d) (hd : decode cc pc = .ok (.invokevirtual i, 3)) (hn : lv.length = nL) (hcat : (st.map fun v => v.category).sum ≤ 8) (k : J E X (pc + 3) lv (.int v :: st) M') : J E X pc lv (.int p0 :: .ref (ja E (fo f)) :: st) M := J_callV C (T := TX1) (N := 7) hM ky_X1_nextPond wI_yX1_nextPond wE_yX1_nextPond rfl hw (jL_fo f hf) rfl hdd hd hn rfl hcat (fun r m h => by obtain ⟨rfl, rfl⟩ := h; exact k)
abbrev K_X1_nextOfFrog (l : Launch) (E : jE) (as : List Value) (M : jM) (v : Int32) (M' : jM) : Prop := CI l E 0 yX1_nextOfFrog cX1_nextOfFrog 2 (some .int) as M v M'
theorem ky_X1_nextOfFrog : jy yX1_nextOfFrog cX1_nextOfFrog 2 (some .int) 1 := ⟨wC_yX1_nextOfFrog, wN_RX1, ⟨by decide +kernel, by decide +kernel, by decide +kernel⟩, by decide⟩
theorem V_X1_nextOfFrog (C : jK l E X own cc nL d) {f : Nat} (hf : f < 3) {i : Nat} {p0 : Int32} {v : Int32} {M' : jM} (hM : K_X1_nextOfFrog l E [.ref (ja E (fo f)), .int p0] M v M') (hw : Cond.methodLink own i yX1_nextOfFrog ∈ W0) (hdd : 0 < d) (hd : decode cc pc = .ok (.invokevirtual i, 3)) (hn : lv.length = nL) (hcat : (st.map fun v => v.category).sum ≤ 8) (k : J E X (pc + 3) lv (.int v :: st) M') : J E X pc lv (.int p0 :: .ref (ja E (fo f)) :: st) M := J_callV C (T := TX1) (N := 7) hM ky_X1_nextOfFrog wI_yX1_nextOfFrog wE_yX1_nextOfFrog rfl hw (jL_fo f hf) rfl hdd hd hn rfl hcat (fun r m h => by obtain ⟨rfl, rfl⟩ := h; exact k)
abbrev K_X1_nextOfHeron (l : Launch) (E : jE) (as : List Value) (M : jM) (v : Int32) (M' : jM) : Prop := CI l E 1 yX1_nextOfHeron cX1_nextOfHeron 3 (some .int) as M v M'
theorem ky_X1_nextOfHeron : jy yX1_nextOfHeron cX1_nextOfHeron 3 (some .int) 1 := ⟨wC_yX1_nextOfHeron, wN_RX1, ⟨by decide +kernel, by decide +kernel, by decide +kernel⟩, by decide⟩
theorem V_X1_nextOfHeron (C : jK l E X own cc nL d) {f : Nat} (hf : f < 3) {i : Nat} {p0 : Int32} {v : Int32} {M' : jM} (hM : K_X1_nextOfHeron l E [.ref (ja E (fo f)), .int p0] M v M') (hw : Cond.methodLink own i yX1_nextOfHeron ∈ W0) (hdd : 1 < d) (hd : decode cc pc = .ok (.invokevirtual i, 3)) (hn : lv.length = nL) (hcat : (st.map fun v => v.category).sum ≤ 8) (k : J E X (pc + 3) lv (.int v :: st) M') : J E X pc lv (.int p0 :: .ref (ja E (fo f)) :: st) M := J_callV C (T := TX1) (N := 7) hM ky_X1_nextOfHeron wI_yX1_nextOfHeron wE_yX1_nextOfHeron rfl hw (jL_fo f hf) rfl hdd hd hn rfl hcat (fun r m h => by obtain ⟨rfl, rfl⟩ := h; exact k)
abbrev K_X1_nextOfPike (l : Launch) (E : jE) (as : List Value) (M : jM) (v : Int32) (M' : jM) : Prop := CI l E 1 yX1_nextOfPike cX1_nextOfPike 3 (some .int) as M v M'
theorem ky_X1_nextOfPike : jy yX1_nextOfPike cX1_nextOfPike 3 (some .int) 1 := ⟨wC_yX1_nextOfPike, wN_RX1, ⟨by decide +kernel, by decide +kernel, by decide +kernel⟩, by decide⟩
theorem V_X1_nextOfPike (C : jK l E X own cc nL d) {f : Nat} (hf : f < 3) {i : Nat} {p0 : Int32} {v : Int32} {M' : jM} (hM : K_X1_nextOfPike l E [.ref (ja E (fo f)), .int p0] M v M') (hw : Cond.methodLink own i yX1_nextOfPike ∈ W0) (hdd : 1 < d) (hd : decode cc pc = .ok (.invokevirtual i, 3)) (hn : lv.length = nL) (hcat : (st.map fun v => v.category).sum ≤ 8) (k : J E X (pc + 3) lv (.int v :: st) M') : J E X pc lv (.int p0 :: .ref (ja E (fo f)) :: st) M := J_callV C (T := TX1) (N := 7) hM ky_X1_nextOfPike wI_yX1_nextOfPike wE_yX1_nextOfPike rfl hw (jL_fo f hf) rfl hdd hd hn rfl hcat (fun r m h => by obtain ⟨rfl, rfl⟩ := h; exact k)
abbrev K_X1_hasFishIn (l : Launch) (E : jE) (as : List Value) (M : jM) (v : Int32) (M' : jM) : Prop := CI l E 0 yX1_hasFishIn cX1_hasFishIn 4 (some .boolean) as M v M'
theorem ky_X1_hasFishIn : jy yX1_hasFishIn cX1_hasFishIn 4 (some .boolean) 1 := ⟨wC_yX1_hasFishIn, wN_RX1, ⟨by decide +kernel, by decide +kernel, by decide +kernel⟩, by decide⟩
theorem V_X1_hasFishIn (C : jK l E X own cc nL d) {f : Nat} (hf : f < 3) {i : Nat} {p0 : Int32} {v : Int32} {M' : jM} (hM : K_X1_hasFishIn l E [.ref (ja E (fo f)), .int p0] M v M') (hw : Cond.methodLink own i yX1_hasFishIn ∈ W0) (hdd : 0 < d) (hd : decode cc pc = .ok (.invokevirtual i, 3)) (hn : lv.length = nL) (hcat : (st.map fun v => v.category).sum ≤ 8) (k : J E X (pc + 3) lv (.int v :: st) M') : J E X pc lv (.int p0 :: .ref (ja E (fo f)) :: st) M := J_callV C (T := TX1) (N := 7) hM ky_X1_hasFishIn wI_yX1_hasFishIn wE_yX1_hasFishIn rfl hw (jL_fo f hf) rfl hdd hd hn rfl hcat (fun r m h => by obtain ⟨rfl, rfl⟩ := h; exact k)
abbrev K_X1_draw (l : Launch) (E : jE) (as : List Value) (M : jM) (v : Int32) (M' : jM) : Prop := CI l E 0 yX1_draw cX1_draw 1 (some .int) as M v M'
theorem ky_X1_draw : jy yX1_draw cX1_draw 1 (some .int) 0 := ⟨wC_yX1_draw, wN_RX1, ⟨by decide +kernel, by decide +kernel, by decide +kernel⟩, by decide⟩
theorem V_X1_draw (C : jK l E X own cc nL d) {f : Nat} (hf : f < 3) {i : Nat}  {v : Int32} {M' : jM} (hM : K_X1_draw l E [.ref (ja E (fo f))] M v M') (hw : Cond.methodLink own i yX1_draw ∈ W0) (hdd : 0 < d) (hd : decode cc pc = .ok (.invokevirtual i, 3)) (hn : lv.length = nL) (hcat : (st.map fun v => v.category).sum ≤ 8) (k : J E X (pc + 3) lv (.int v :: st) M') : J E X pc lv (.ref (ja E (fo f)) :: st) M := J_callV C (T := TX1) (N := 7) hM ky_X1_draw wI_yX1_draw wE_yX1_draw rfl hw (jL_fo f hf) rfl hdd hd hn rfl hcat (fun r m h => by obtain ⟨rfl, rfl⟩ := h; exact k)
abbrev K_X1_dropOne (l : Launch) (E : jE) (as : List Value) (M : jM) (M' : jM) : Prop := CV l E 1 yX1_dropOne cX1_dropOne 2 none as M M'
theorem ky_X1_dropOne : jy yX1_dropOne cX1_dropOne 2 none 0 := ⟨wC_yX1_dropOne, wN_RX1, ⟨by decide +kernel, by decide +kernel, by decide +kernel⟩, by decide⟩
theorem V_X1_dropOne (C : jK l E X own cc nL d) {f : Nat} (hf : f < 3) {i : Nat}  {M' : jM} (hM : K_X1_dropOne l E [.ref (ja E (fo f))] M M') (hw : Cond.methodLink own i yX1_dropOne ∈ W0) (hdd : 1 < d) (hd : decode cc pc = .ok (.invokevirtual i, 3)) (hn : lv.length = nL) (hcat : (st.map fun v => v.category).sum ≤ 8) (k : J E X (pc + 3) lv (st) M') : J E X pc lv (.ref (ja E (fo f)) :: st) M := J_callV C (T := TX1) (N := 7) hM ky_X1_dropOne wI_yX1_dropOne wE_yX1_dropOne rfl hw (jL_fo f hf) rfl hdd hd hn rfl hcat (fun r m h => by obtain ⟨rfl, rfl⟩ := h; exact k)
abbrev K_X1_chainEnd (l : Launch) (E : jE) (as : List Value) (M : jM) (v : Int32) (M' : jM) : Prop := CI l E 0 yX1_chainEnd cX1_chainEnd 5 (some .int) as M v M'
theorem ky_X1_chainEnd : jy yX1_chainEnd cX1_chainEnd 5 (some .int) 2 := ⟨wC_yX1_chainEnd, wN_RX1, ⟨by decide +kernel, by decide +kernel, by decide +kernel⟩, by decide⟩
theorem V_X1_chainEnd (C : jK l E X own cc nL d) {f : Nat} (hf : f < 3) {i : Nat} {p0 : Int32} {p1 : Int32} {v : Int32} {M' : jM} (hM : K_X1_chainEnd l E [.ref (ja E (fo f)), .int p0, .int p1] M v M') (hw : Cond.methodLink own i yX1_chainEnd ∈ W0) (hdd : 0 < d) (hd : decode cc pc = .ok (.invokevirtual i, 3)) (hn : lv.length = nL) (hcat : (st.map fun v => v.category).sum ≤ 8) (k : J E X (pc + 3) lv (.int v :: st) M') : J E X pc lv (.int p1 :: .int p0 :: .ref (ja E (fo f)) :: st) M := J_callV C (T := TX1) (N := 7) hM ky_X1_chainEnd wI_yX1_chainEnd wE_yX1_chainEnd rfl hw (jL_fo f hf) rfl hdd hd hn rfl hcat (fun r m h => by obtain ⟨rfl, rfl⟩ := h; exact k)
abbrev K_X1_chainComes (l : Launch) (E : jE) (as : List Value) (M : jM) (v : Int32) (M' : jM) : Prop := CI l E 0 yX1_chainComes cX1_chainComes 5 (some .boolean) as M v M'
theorem ky_X1_chainComes : jy yX1_chainComes cX1_chainComes 5 (some .boolean) 2 := ⟨wC_yX1_chainComes, wN_RX1, ⟨by decide +kernel, by decide +kernel, by decide +kernel⟩, by decide⟩
theorem V_X1_chainComes (C : jK l E X own cc nL d) {f : Nat} (hf : f < 3) {i : Nat} {p0 : Int32} {p1 : Int32} {v : Int32} {M' : jM} (hM : K_X1_chainComes l E [.ref (ja E (fo f)), .int p0, .int p1] M v M') (hw : Cond.methodLink own i yX1_chainComes ∈ W0) (hdd : 0 < d) (hd : decode cc pc = .ok (.invokevirtual i, 3)) (hn : lv.length = nL) (hcat : (st.map fun v => v.category).sum ≤ 8) (k : J E X (pc + 3) lv (.int v :: st) M') : J E X pc lv (.int p1 :: .int p0 :: .ref (ja E (fo f)) :: st) M := J_callV C (T := TX1) (N := 7) hM ky_X1_chainComes wI_yX1_chainComes wE_yX1_chainComes rfl hw (jL_fo f hf) rfl hdd hd hn rfl hcat (fun r m h => by obtain ⟨rfl, rfl⟩ := h; exact k)
abbrev K_X1_roundLength (l : Launch) (E : jE) (as : List Value) (M : jM) (v : Int32) (M' : jM) : Prop := CI l E 0 yX1_roundLength cX1_roundLength 4 (some .int) as M v M'
theorem ky_X1_roundLength : jy yX1_roundLength cX1_roundLength 4 (some .int) 1 := ⟨wC_yX1_roundLength, wN_RX1, ⟨by decide +kernel, by decide +kernel, by decide +kernel⟩, by decide⟩
theorem V_X1_roundLength (C : jK l E X own cc nL d) {f : Nat} (hf : f < 3) {i : Nat} {p0 : Int32} {v : Int32} {M' : jM} (hM : K_X1_roundLength l E [.ref (ja E (fo f)), .int p0] M v M') (hw : Cond.methodLink own i yX1_roundLength ∈ W0) (hdd : 0 < d) (hd : decode cc pc = .ok (.invokevirtual i, 3)) (hn : lv.length = nL) (hcat : (st.map fun v => v.category).sum ≤ 8) (k : J E X (pc + 3) lv (.int v :: st) M') : J E X pc lv (.int p0 :: .ref (ja E (fo f)) :: st) M := J_callV C (T := TX1) (N := 7) hM ky_X1_roundLength wI_yX1_roundLength wE_yX1_roundLength rfl hw (jL_fo f hf) rfl hdd hd hn rfl hcat (fun r m h => by obtain ⟨rfl, rfl⟩ := h; exact k)
abbrev K_X1_isLeastOfRound (l : Launch) (E : jE) (as : List Value) (M : jM) (v : Int32) (M' : jM) : Prop := CI l E 1 yX1_isLeastOfRound cX1_isLeastOfRound 5 (some .boolean) as M v M'
theorem ky_X1_isLeastOfRound : jy yX1_isLeastOfRound cX1_isLeastOfRound 5 (some .boolean) 1 := ⟨wC_yX1_isLeastOfRound, wN_RX1, ⟨by decide +kernel, by decide +kernel, by decide +kernel⟩, by decide⟩
theorem V_X1_isLeastOfRound (C : jK l E X own cc nL d) {f : Nat} (hf : f < 3) {i : Nat} {p0 : Int32} {v : Int32} {M' : jM} (hM : K_X1_isLeastOfRound l E [.ref (ja E (fo f)), .int p0] M v M') (hw : Cond.methodLink own i yX1_isLeastOfRound ∈ W0) (hdd : 1 < d) (hd : decode cc pc = .ok (.invokevirtual i, 3)) (hn : lv.length = nL) (hcat : (st.map fun v => v.category).sum ≤ 8) (k : J E X (pc + 3) lv (.int v :: st) M') : J E X pc lv (.int p0 :: .ref (ja E (fo f)) :: st) M := J_callV C (T := TX1) (N := 7) hM ky_X1_isLeastOfRound wI_yX1_isLeastOfRound wE_yX1_isLeastOfRound rfl hw (jL_fo f hf) rfl hdd hd hn rfl hcat (fun r m h => by obtain ⟨rfl, rfl⟩ := h; exact k)
abbrev K_X2_minutesTo (l : Launch) (E : jE) (as : List Value) (M : jM) (v : Int32) (M' : jM) : Prop := CI l E 4 yX2_minutesTo cX2_minutesTo 5 (some .int) as M v M'
theorem ky_X2_minutesTo : jy yX2_minutesTo cX2_minutesTo 5 (some .int) 3 := ⟨wC_yX2_minutesTo, wN_RX2, ⟨by decide +kernel, by decide +kernel, by decide +kernel⟩, by decide⟩
theorem V_X2_minutesTo (C : jK l E X own cc nL d) {i : Nat} {p0 : Nat} {p1 : Int32} {p2 : Int32} {v : Int32} {M' : jM} (hM : K_X2_minutesTo l E [.ref (ja E 40), .ref p0, .int p1, .int p2] M v M') (hw : Cond.methodLink own i yX2_minutesTo ∈ W0) (hdd : 4 < d) (hd : decode cc pc = .ok (.invokevirtual i, 3)) (hn : lv.length = nL) (hcat : (st.map fun v => v.category).sum ≤ 8) (k : J E X (pc + 3) lv (.int v :: st) M') : J E X pc lv (.int p2 :: .int p1 :: .ref p0 :: .ref (ja E 40) :: st) M := J_callV C (T := TX2) (N := 1) hM ky_X2_minutesTo wI_yX2_minutesTo wE_yX2_minutesTo rfl hw jL_X2 rfl hdd hd hn rfl hcat (fun r m h => by obtain ⟨rfl, rfl⟩ := h; exact k)
abbrev K_X2_minutesToMeeting (l : Launch) (E : jE) (as : List Value) (M : jM) (v : Int32) (M' : jM) : Prop := CI l E 4 yX2_minutesToMeeting cX2_minutesToMeeting 5 (some .int) as M v M'
theorem ky_X2_minutesToMeeting : jy yX2_minutesToMeeting cX2_minutesToMeeting 5 (some .int) 3 := ⟨wC_yX2_minutesToMeeting, wN_RX2, ⟨by decide +kernel, by decide +kernel, by decide +kernel⟩, by decide⟩
theorem V_X2_minutesToMeeting (C : jK l E X own cc nL d) {i : Nat} {p0 : Nat} {p1 : Int32} {p2 : Int32} {v : Int32} {M' : jM} (hM : K_X2_minutesToMeeting l E [.ref (ja E 40), .ref p0, .int p1, .int p2] M v M') (hw : Cond.methodLink own i yX2_minutesToMeeting ∈ W0) (hdd : 4 < d) (hd : decode cc pc = .ok (.invokevirtual i, 3)) (hn : lv.length = nL) (hcat : (st.map fun v => v.category).sum ≤ 8) (k : J E X (pc + 3) lv (.int v :: st) M') : J E X pc lv (.int p2 :: .int p1 :: .ref p0 :: .ref (ja E 40) :: st) M := J_callV C (T := TX2) (N := 1) hM ky_X2_minutesToMeeting wI_yX2_minutesToMeeting wE_yX2_minutesToMeeting rfl hw jL_X2 rfl hdd hd hn rfl hcat (fun r m h => by obtain ⟨rfl, rfl⟩ := h; exact k)
abbrev K_X2_usualPond (l : Launch) (E : jE) (as : List Value) (M : jM) (v : Int32) (M' : jM) : Prop := CI l E 4 yX2_usualPond cX2_usualPond 5 (some .int) as M v M'
theorem ky_X2_usualPond : jy yX2_usualPond cX2_usualPond 5 (some .int) 3 := ⟨wC_yX2_usualPond, wN_RX2, ⟨by decide +kernel, by decide +kernel, by decide +kernel⟩, by decide⟩
theorem V_X2_usualPond (C : jK l E X own cc nL d) {i : Nat} {p0 : Nat} {p1 : Int32} {p2 : Int32} {v : Int32} {M' : jM} (hM : K_X2_usualPond l E [.ref (ja E 40), .ref p0, .int p1, .int p2] M v M') (hw : Cond.methodLink own i yX2_usualPond ∈ W0) (hdd : 4 < d) (hd : decode cc pc = .ok (.invokevirtual i, 3)) (hn : lv.length = nL) (hcat : (st.map fun v => v.category).sum ≤ 8) (k : J E X (pc + 3) lv (.int v :: st) M') : J E X pc lv (.int p2 :: .int p1 :: .ref p0 :: .ref (ja E 40) :: st) M := J_callV C (T := TX2) (N := 1) hM ky_X2_usualPond wI_yX2_usualPond wE_yX2_usualPond rfl hw jL_X2 rfl hdd hd hn rfl hcat (fun r m h => by obtain ⟨rfl, rfl⟩ := h; exact k)
abbrev K_X2_pondsVisited (l : Launch) (E : jE) (as : List Value) (M : jM) (v : Int32) (M' : jM) : Prop := CI l E 4 yX2_pondsVisited cX2_pondsVisited 5 (some .int) as M v M'
theorem ky_X2_pondsVisited : jy yX2_pondsVisited cX2_pondsVisited 5 (some .int) 2 := ⟨wC_yX2_pondsVisited, wN_RX2, ⟨by decide +kernel, by decide +kernel, by decide +kernel⟩, by decide⟩
theorem V_X2_pondsVisited (C : jK l E X own cc nL d) {i : Nat} {p0 : Nat} {p1 : Int32} {v : Int32} {M' : jM} (hM : K_X2_pondsVisited l E [.ref (ja E 40), .ref p0, .int p1] M v M') (hw : Cond.methodLink own i yX2_pondsVisited ∈ W0) (hdd : 4 < d) (hd : decode cc pc = .ok (.invokevirtual i, 3)) (hn : lv.length = nL) (hcat : (st.map fun v => v.category).sum ≤ 8) (k : J E X (pc + 3) lv (.int v :: st) M') : J E X pc lv (.int p1 :: .ref p0 :: .ref (ja E 40) :: st) M := J_callV C (T := TX2) (N := 1) hM ky_X2_pondsVisited wI_yX2_pondsVisited wE_yX2_pondsVisited rfl hw jL_X2 rfl hdd hd hn rfl hcat (fun r m h => by obtain ⟨rfl, rfl⟩ := h; exact k)
abbrev K_X2_showsAsTold (l : Launch) (E : jE) (as : List Value) (M : jM) (v : Int32) (M' : jM) : Prop := CI l E 4 yX2_showsAsTold cX2_showsAsTold 6 (some .boolean) as M v M'
theorem ky_X2_showsAsTold : jy yX2_showsAsTold cX2_showsAsTold 6 (some .boolean) 3 := ⟨wC_yX2_showsAsTold, wN_RX2, ⟨by decide +kernel, by decide +kernel, by decide +kernel⟩, by decide⟩
theorem V_X2_showsAsTold (C : jK l E X own cc nL d) {i : Nat} {p0 : Nat} {p1 : Int32} {p2 : Nat} {v : Int32} {M' : jM} (hM : K_X2_showsAsTold l E [.ref (ja E 40), .ref p0, .int p1, .ref p2] M v M') (hw : Cond.methodLink own i yX2_showsAsTold ∈ W0) (hdd : 4 < d) (hd : decode cc pc = .ok (.invokevirtual i, 3)) (hn : lv.length = nL) (hcat : (st.map fun v => v.category).sum ≤ 8) (k : J E X (pc + 3) lv (.int v :: st) M') : J E X pc lv (.ref p2 :: .int p1 :: .ref p0 :: .ref (ja E 40) :: st) M := J_callV C (T := TX2) (N := 1) hM ky_X2_showsAsTold wI_yX2_showsAsTold wE_yX2_showsAsTold rfl hw jL_X2 rfl hdd hd hn rfl hcat (fun r m h => by obtain ⟨rfl, rfl⟩ := h; exact k)
abbrev K_X2_thingsOnCourse (l : Launch) (E : jE) (as : List Value) (M : jM) (v : Int32) (M' : jM) : Prop := CI l E 4 yX2_thingsOnCourse cX2_thingsOnCourse 6 (some .int) as M v M'
theorem ky_X2_thingsOnCourse : jy yX2_thingsOnCourse cX2_thingsOnCourse 6 (some .int) 2 := ⟨wC_yX2_thingsOnCourse, wN_RX2, ⟨by decide +kernel, by decide +kernel, by decide +kernel⟩, by decide⟩
theorem V_X2_thingsOnCourse (C : jK l E X own cc nL d) {i : Nat} {p0 : Nat} {p1 : Nat} {v : Int32} {M' : jM} (hM : K_X2_thingsOnCourse l E [.ref (ja E 40), .ref p0, .ref p1] M v M') (hw : Cond.methodLink own i yX2_thingsOnCourse ∈ W0) (hdd : 4 < d) (hd : decode cc pc = .ok (.invokevirtual i, 3)) (hn : lv.length = nL) (hcat : (st.map fun v => v.category).sum ≤ 8) (k : J E X (pc + 3) lv (.int v :: st) M') : J E X pc lv (.ref p1 :: .ref p0 :: .ref (ja E 40) :: st) M := J_callV C (T := TX2) (N := 1) hM ky_X2_thingsOnCourse wI_yX2_thingsOnCourse wE_yX2_thingsOnCourse rfl hw jL_X2 rfl hdd hd hn rfl hcat (fun r m h => by obtain ⟨rfl, rfl⟩ := h; exact k)
abbrev K_X2_busiestPond (l : Launch) (E : jE) (as : List Value) (M : jM) (v : Int32) (M' : jM) : Prop := CI l E 4 yX2_busiestPond cX2_busiestPond 5 (some .int) as M v M'
theorem ky_X2_busiestPond : jy yX2_busiestPond cX2_busiestPond 5 (some .int) 2 := ⟨wC_yX2_busiestPond, wN_RX2, ⟨by decide +kernel, by decide +kernel, by decide +kernel⟩, by decide⟩
theorem V_X2_busiestPond (C : jK l E X own cc nL d) {i : Nat} {p0 : Nat} {p1 : Int32} {v : Int32} {M' : jM} (hM : K_X2_busiestPond l E [.ref (ja E 40), .ref p0, .int p1] M v M') (hw : Cond.methodLink own i yX2_busiestPond ∈ W0) (hdd : 4 < d) (hd : decode cc pc = .ok (.invokevirtual i, 3)) (hn : lv.length = nL) (hcat : (st.map fun v => v.category).sum ≤ 8) (k : J E X (pc + 3) lv (.int v :: st) M') : J E X pc lv (.int p1 :: .ref p0 :: .ref (ja E 40) :: st) M := J_callV C (T := TX2) (N := 1) hM ky_X2_busiestPond wI_yX2_busiestPond wE_yX2_busiestPond rfl hw jL_X2 rfl hdd hd hn rfl hcat (fun r m h => by obtain ⟨rfl, rfl⟩ := h; exact k)
abbrev K_X2_clearTally (l : Launch) (E : jE) (as : List Value) (M : jM) (M' : jM) : Prop := CV l E 0 yX2_clearTally cX2_clearTally 2 none as M M'
theorem ky_X2_clearTally : jy yX2_clearTally cX2_clearTally 2 none 0 := ⟨wC_yX2_clearTally, wN_RX2, ⟨by decide +kernel, by decide +kernel, by decide +kernel⟩, by decide⟩
theorem V_X2_clearTally (C : jK l E X own cc nL d) {i : Nat}  {M' : jM} (hM : K_X2_clearTally l E [.ref (ja E 40)] M M') (hw : Cond.methodLink own i yX2_clearTally ∈ W0) (hdd : 0 < d) (hd : decode cc pc = .ok (.invokevirtual i, 3)) (hn : lv.length = nL) (hcat : (st.map fun v => v.category).sum ≤ 8) (k : J E X (pc + 3) lv (st) M') : J E X pc lv (.ref (ja E 40) :: st) M := J_callV C (T := TX2) (N := 1) hM ky_X2_clearTally wI_yX2_clearTally wE_yX2_clearTally rfl hw jL_X2 rfl hdd hd hn rfl hcat (fun r m h => by obtain ⟨rfl, rfl⟩ := h; exact k)
abbrev K_X2_leastOfMost (l : Launch) (E : jE) (as : List Value) (M : jM) (v : Int32) (M' : jM) : Prop := CI l E 0 yX2_leastOfMost cX2_leastOfMost 3 (some .int) as M v M'
theorem ky_X2_leastOfMost : jy yX2_leastOfMost cX2_leastOfMost 3 (some .int) 0 := ⟨wC_yX2_leastOfMost, wN_RX2, ⟨by decide +kernel, by decide +kernel, by decide +kernel⟩, by decide⟩
theorem V_X2_leastOfMost (C : jK l E X own cc nL d) {i : Nat}  {v : Int32} {M' : jM} (hM : K_X2_leastOfMost l E [.ref (ja E 40)] M v M') (hw : Cond.methodLink own i yX2_leastOfMost ∈ W0) (hdd : 0 < d) (hd : decode cc pc = .ok (.invokevirtual i, 3)) (hn : lv.length = nL) (hcat : (st.map fun v => v.category).sum ≤ 8) (k : J E X (pc + 3) lv (.int v :: st) M') : J E X pc lv (.ref (ja E 40) :: st) M := J_callV C (T := TX2) (N := 1) hM ky_X2_leastOfMost wI_yX2_leastOfMost wE_yX2_leastOfMost rfl hw jL_X2 rfl hdd hd hn rfl hcat (fun r m h => by obtain ⟨rfl, rfl⟩ := h; exact k)
abbrev K_X3_isMissing (l : Launch) (E : jE) (as : List Value) (M : jM) (v : Int32) (M' : jM) : Prop := CI l E 0 yX3_isMissing cX3_isMissing 1 (some .boolean) as M v M'
theorem ky_X3_isMissing : jy yX3_isMissing cX3_isMissing 1 (some .boolean) 0 := ⟨wC_yX3_isMissing, wN_RX3, ⟨by decide +kernel, by decide +kernel, by decide +kernel⟩, by decide⟩
theorem V_X3_isMissing (C : jK l E X own cc nL d) {q : Nat} (hq : q < 4) {i : Nat}  {v : Int32} {M' : jM} (hM : K_X3_isMissing l E [.ref (ja E (so q))] M v M') (hw : Cond.methodLink own i yX3_isMissing ∈ W0) (hdd : 0 < d) (hd : decode cc pc = .ok (.invokevirtual i, 3)) (hn : lv.length = nL) (hcat : (st.map fun v => v.category).sum ≤ 8) (k : J E X (pc + 3) lv (.int v :: st) M') : J E X pc lv (.ref (ja E (so q)) :: st) M := J_callV C (T := TX3) (N := 3) hM ky_X3_isMissing wI_yX3_isMissing wE_yX3_isMissing rfl hw (jL_so q hq) rfl hdd hd hn rfl hcat (fun r m h => by obtain ⟨rfl, rfl⟩ := h; exact k)
abbrev K_X3_clear (l : Launch) (E : jE) (as : List Value) (M : jM) (M' : jM) : Prop := CV l E 0 yX3_clear cX3_clear 4 none as M M'
theorem ky_X3_clear : jy yX3_clear cX3_clear 4 none 2 := ⟨wC_yX3_clear, wN_RX3, ⟨by decide +kernel, by decide +kernel, by decide +kernel⟩, by decide⟩
theorem V_X3_clear (C : jK l E X own cc nL d) {q : Nat} (hq : q < 4) {i : Nat} {p0 : Int32} {p1 : Int32} {M' : jM} (hM : K_X3_clear l E [.ref (ja E (so q)), .int p0, .int p1] M M') (hw : Cond.methodLink own i yX3_clear ∈ W0) (hdd : 0 < d) (hd : decode cc pc = .ok (.invokevirtual i, 3)) (hn : lv.length = nL) (hcat : (st.map fun v => v.category).sum ≤ 8) (k : J E X (pc + 3) lv (st) M') : J E X pc lv (.int p1 :: .int p0 :: .ref (ja E (so q)) :: st) M := J_callV C (T := TX3) (N := 3) hM ky_X3_clear wI_yX3_clear wE_yX3_clear rfl hw (jL_so q hq) rfl hdd hd hn rfl hcat (fun r m h => by obtain ⟨rfl, rfl⟩ := h; exact k)
abbrev K_X3_put (l : Launch) (E : jE) (as : List Value) (M : jM) (M' : jM) : Prop := CV l E 0 yX3_put cX3_put 3 none as M M'
theorem ky_X3_put : jy yX3_put cX3_put 3 none 2 := ⟨wC_yX3_put, wN_RX3, ⟨by decide +kernel, by decide +kernel, by decide +kernel⟩, by decide⟩
theorem V_X3_put (C : jK l E X own cc nL d) {q : Nat} (hq : q < 4) {i : Nat} {p0 : Int32} {p1 : Int32} {M' : jM} (hM : K_X3_put l E [.ref (ja E (so q)), .int p0, .int p1] M M') (hw : Cond.methodLink own i yX3_put ∈ W0) (hdd : 0 < d) (hd : decode cc pc = .ok (.invokevirtual i, 3)) (hn : lv.length = nL) (hcat : (st.map fun v => v.category).sum ≤ 8) (k : J E X (pc + 3) lv (st) M') : J E X pc lv (.int p1 :: .int p0 :: .ref (ja E (so q)) :: st) M := J_callV C (T := TX3) (N := 3) hM ky_X3_put wI_yX3_put wE_yX3_put rfl hw (jL_so q hq) rfl hdd hd hn rfl hcat (fun r m h => by obtain ⟨rfl, rfl⟩ := h; exact k)
abbrev K_X3_reaches (l : Launch) (E : jE) (as : List Value) (M : jM) (v : Int32) (M' : jM) : Prop := CI l E 0 yX3_reaches cX3_reaches 3 (some .boolean) as M v M'
theorem ky_X3_reaches : jy yX3_reaches cX3_reaches 3 (some .boolean) 2 := ⟨wC_yX3_reaches, wN_RX3, ⟨by decide +kernel, by decide +kernel, by decide +kernel⟩, by decide⟩
theorem V_X3_reaches (C : jK l E X own cc nL d) {q : Nat} (hq : q < 4) {i : Nat} {p0 : Int32} {p1 : Int32} {v : Int32} {M' : jM} (hM : K_X3_reaches l E [.ref (ja E (so q)), .int p0, .int p1] M v M') (hw : Cond.methodLink own i yX3_reaches ∈ W0) (hdd : 0 < d) (hd : decode cc pc = .ok (.invokevirtual i, 3)) (hn : lv.length = nL) (hcat : (st.map fun v => v.category).sum ≤ 8) (k : J E X (pc + 3) lv (.int v :: st) M') : J E X pc lv (.int p1 :: .int p0 :: .ref (ja E (so q)) :: st) M := J_callV C (T := TX3) (N := 3) hM ky_X3_reaches wI_yX3_reaches wE_yX3_reaches rfl hw (jL_so q hq) rfl hdd hd hn rfl hcat (fun r m h => by obtain ⟨rfl, rfl⟩ := h; exact k)
abbrev K_X4_append (l : Launch) (E : jE) (as : List Value) (M : jM) (M' : jM) : Prop := CV l E 0 yX4_append cX4_append 2 none as M M'
theorem ky_X4_append : jy yX4_append cX4_append 2 none 1 := ⟨wC_yX4_append, wN_RX4, ⟨by decide +kernel, by decide +kernel, by decide +kernel⟩, by decide⟩
theorem V_X4_append (C : jK l E X own cc nL d) {i : Nat} {p0 : Int32} {M' : jM} (hM : K_X4_append l E [.ref (ja E 42), .int p0] M M') (hw : Cond.methodLink own i yX4_append ∈ W0) (hdd : 0 < d) (hd : decode cc pc = .ok (.invokevirtual i, 3)) (hn : lv.length = nL) (hcat : (st.map fun v => v.category).sum ≤ 8) (k : J E X (pc + 3) lv (st) M') : J E X pc lv (.int p0 :: .ref (ja E 42) :: st) M := J_callV C (T := TX4) (N := 2) hM ky_X4_append wI_yX4_append wE_yX4_append rfl hw jL_X4 rfl hdd hd hn rfl hcat (fun r m h => by obtain ⟨rfl, rfl⟩ := h; exact k)
abbrev K_X4_at (l : Launch) (E : jE) (as : List Value) (M : jM) (v : Int32) (M' : jM) : Prop := CI l E 0 yX4_at cX4_at 2 (some .int) as M v M'
theorem ky_X4_at : jy yX4_at cX4_at 2 (some .int) 1 := ⟨wC_yX4_at, wN_RX4, ⟨by decide +kernel, by decide +kernel, by decide +kernel⟩, by decide⟩
theorem V_X4_at (C : jK l E X own cc nL d) {i : Nat} {p0 : Int32} {v : Int32} {M' : jM} (hM : K_X4_at l E [.ref (ja E 42), .int p0] M v M') (hw : Cond.methodLink own i yX4_at ∈ W0) (hdd : 0 < d) (hd : decode cc pc = .ok (.invokevirtual i, 3)) (hn : lv.length = nL) (hcat : (st.map fun v => v.category).sum ≤ 8) (k : J E X (pc + 3) lv (.int v :: st) M') : J E X pc lv (.int p0 :: .ref (ja E 42) :: st) M := J_callV C (T := TX4) (N := 2) hM ky_X4_at wI_yX4_at wE_yX4_at rfl hw jL_X4 rfl hdd hd hn rfl hcat (fun r m h => by obtain ⟨rfl, rfl⟩ := h; exact k)
abbrev K_X4_says (l : Launch) (E : jE) (as : List Value) (M : jM) (v : Int32) (M' : jM) : Prop := CI l E 6 yX4_says cX4_says 5 (some .boolean) as M v M'
theorem ky_X4_says : jy yX4_says cX4_says 5 (some .boolean) 3 := ⟨wC_yX4_says, wN_RX4, ⟨by decide +kernel, by decide +kernel, by decide +kernel⟩, by decide⟩
theorem V_X4_says (C : jK l E X own cc nL d) {i : Nat} {p0 : Nat} {p1 : Int32} {p2 : Int32} {v : Int32} {M' : jM} (hM : K_X4_says l E [.ref (ja E 42), .ref p0, .int p1, .int p2] M v M') (hw : Cond.methodLink own i yX4_says ∈ W0) (hdd : 6 < d) (hd : decode cc pc = .ok (.invokevirtual i, 3)) (hn : lv.length = nL) (hcat : (st.map fun v => v.category).sum ≤ 8) (k : J E X (pc + 3) lv (.int v :: st) M') : J E X pc lv (.int p2 :: .int p1 :: .ref p0 :: .ref (ja E 42) :: st) M := J_callV C (T := TX4) (N := 2) hM ky_X4_says wI_yX4_says wE_yX4_says rfl hw jL_X4 rfl hdd hd hn rfl hcat (fun r m h => by obtain ⟨rfl, rfl⟩ := h; exact k)
abbrev K_X5_read (l : Launch) (E : jE) (as : List Value) (M : jM) (v : Int32) (M' : jM) : Prop := CI l E 10 yX5_read cX5_read 4 (some .int) as M v M'
theorem ky_X5_read : jy yX5_read cX5_read 4 (some .int) 2 := ⟨wC_yX5_read, wN_RX5, ⟨by decide +kernel, by decide +kernel, by decide +kernel⟩, by decide⟩
theorem V_X5_read (C : jK l E X own cc nL d) {i : Nat} {p0 : Nat} {p1 : Nat} {v : Int32} {M' : jM} (hM : K_X5_read l E [.ref (ja E 44), .ref p0, .ref p1] M v M') (hw : Cond.methodLink own i yX5_read ∈ W0) (hdd : 10 < d) (hd : decode cc pc = .ok (.invokevirtual i, 3)) (hn : lv.length = nL) (hcat : (st.map fun v => v.category).sum ≤ 8) (k : J E X (pc + 3) lv (.int v :: st) M') : J E X pc lv (.ref p1 :: .ref p0 :: .ref (ja E 44) :: st) M := J_callV C (T := TX5) (N := 2) hM ky_X5_read wI_yX5_read wE_yX5_read rfl hw jL_X5 rfl hdd hd hn rfl hcat (fun r m h => by obtain ⟨rfl, rfl⟩ := h; exact k)
abbrev K_X5_readItem (l : Launch) (E : jE) (as : List Value) (M : jM) (M' : jM) : Prop := CV l E 5 yX5_readItem cX5_readItem 2 none as M M'
theorem ky_X5_readItem : jy yX5_readItem cX5_readItem 2 none 1 := ⟨wC_yX5_readItem, wN_RX5, ⟨by decide +kernel, by decide +kernel, by decide +kernel⟩, by decide⟩
theorem V_X5_readItem (C : jK l E X own cc nL d) {i : Nat} {p0 : Nat} {M' : jM} (hM : K_X5_readItem l E [.ref (ja E 44), .ref p0] M M') (hw : Cond.methodLink own i yX5_readItem ∈ W0) (hdd : 5 < d) (hd : decode cc pc = .ok (.invokevirtual i, 3)) (hn : lv.length = nL) (hcat : (st.map fun v => v.category).sum ≤ 8) (k : J E X (pc + 3) lv (st) M') : J E X pc lv (.ref p0 :: .ref (ja E 44) :: st) M := J_callV C (T := TX5) (N := 2) hM ky_X5_readItem wI_yX5_readItem wE_yX5_readItem rfl hw jL_X5 rfl hdd hd hn rfl hcat (fun r m h => by obtain ⟨rfl, rfl⟩ := h; exact k)
abbrev K_X5_readThing (l : Launch) (E : jE) (as : List Value) (M : jM) (M' : jM) : Prop := CV l E 3 yX5_readThing cX5_readThing 5 none as M M'
theorem ky_X5_readThing : jy yX5_readThing cX5_readThing 5 none 1 := ⟨wC_yX5_readThing, wN_RX5, ⟨by decide +kernel, by decide +kernel, by decide +kernel⟩, by decide⟩
theorem V_X5_readThing (C : jK l E X own cc nL d) {i : Nat} {p0 : Nat} {M' : jM} (hM : K_X5_readThing l E [.ref (ja E 44), .ref p0] M M') (hw : Cond.methodLink own i yX5_readThing ∈ W0) (hdd : 3 < d) (hd : decode cc pc = .ok (.invokevirtual i, 3)) (hn : lv.length = nL) (hcat : (st.map fun v => v.category).sum ≤ 8) (k : J E X (pc + 3) lv (st) M') : J E X pc lv (.ref p0 :: .ref (ja E 44) :: st) M := J_callV C (T := TX5) (N := 2) hM ky_X5_readThing wI_yX5_readThing wE_yX5_readThing rfl hw jL_X5 rfl hdd hd hn rfl hcat (fun r m h => by obtain ⟨rfl, rfl⟩ := h; exact k)
abbrev K_X5_readPond (l : Launch) (E : jE) (as : List Value) (M : jM) (M' : jM) : Prop := CV l E 4 yX5_readPond cX5_readPond 4 none as M M'
theorem ky_X5_readPond : jy yX5_readPond cX5_readPond 4 none 1 := ⟨wC_yX5_readPond, wN_RX5, ⟨by decide +kernel, by decide +kernel, by decide +kernel⟩, by decide⟩
theorem V_X5_readPond (C : jK l E X own cc nL d) {i : Nat} {p0 : Nat} {M' : jM} (hM : K_X5_readPond l E [.ref (ja E 44), .ref p0] M M') (hw : Cond.methodLink own i yX5_readPond ∈ W0) (hdd : 4 < d) (hd : decode cc pc = .ok (.invokevirtual i, 3)) (hn : lv.length = nL) (hcat : (st.map fun v => v.category).sum ≤ 8) (k : J E X (pc + 3) lv (st) M') : J E X pc lv (.ref p0 :: .ref (ja E 44) :: st) M := J_callV C (T := TX5) (N := 2) hM ky_X5_readPond wI_yX5_readPond wE_yX5_readPond rfl hw jL_X5 rfl hdd hd hn rfl hcat (fun r m h => by obtain ⟨rfl, rfl⟩ := h; exact k)
abbrev K_X5_readTrait (l : Launch) (E : jE) (as : List Value) (M : jM) (v : Int32) (M' : jM) : Prop := CI l E 3 yX5_readTrait cX5_readTrait 3 (some .int) as M v M'
theorem ky_X5_readTrait : jy yX5_readTrait cX5_readTrait 3 (some .int) 2 := ⟨wC_yX5_readTrait, wN_RX5, ⟨by decide +kernel, by decide +kernel, by decide +kernel⟩, by decide⟩
theorem V_X5_readTrait (C : jK l E X own cc nL d) {i : Nat} {p0 : Int32} {p1 : Int32} {v : Int32} {M' : jM} (hM : K_X5_readTrait l E [.ref (ja E 44), .int p0, .int p1] M v M') (hw : Cond.methodLink own i yX5_readTrait ∈ W0) (hdd : 3 < d) (hd : decode cc pc = .ok (.invokevirtual i, 3)) (hn : lv.length = nL) (hcat : (st.map fun v => v.category).sum ≤ 8) (k : J E X (pc + 3) lv (.int v :: st) M') : J E X pc lv (.int p1 :: .int p0 :: .ref (ja E 44) :: st) M := J_callV C (T := TX5) (N := 2) hM ky_X5_readTrait wI_yX5_readTrait wE_yX5_readTrait rfl hw jL_X5 rfl hdd hd hn rfl hcat (fun r m h => by obtain ⟨rfl, rfl⟩ := h; exact k)
abbrev K_X5_readNumber (l : Launch) (E : jE) (as : List Value) (M : jM) (v : Int32) (M' : jM) : Prop := CI l E 2 yX5_readNumber cX5_readNumber 5 (some .int) as M v M'
theorem ky_X5_readNumber : jy yX5_readNumber cX5_readNumber 5 (some .int) 3 := ⟨wC_yX5_readNumber, wN_RX5, ⟨by decide +kernel, by decide +kernel, by decide +kernel⟩, by decide⟩
theorem V_X5_readNumber (C : jK l E X own cc nL d) {i : Nat} {p0 : Int32} {p1 : Int32} {p2 : Int32} {v : Int32} {M' : jM} (hM : K_X5_readNumber l E [.ref (ja E 44), .int p0, .int p1, .int p2] M v M') (hw : Cond.methodLink own i yX5_readNumber ∈ W0) (hdd : 2 < d) (hd : decode cc pc = .ok (.invokevirtual i, 3)) (hn : lv.length = nL) (hcat : (st.map fun v => v.category).sum ≤ 8) (k : J E X (pc + 3) lv (.int v :: st) M') : J E X pc lv (.int p2 :: .int p1 :: .int p0 :: .ref (ja E 44) :: st) M := J_callV C (T := TX5) (N := 2) hM ky_X5_readNumber wI_yX5_readNumber wE_yX5_readNumber rfl hw jL_X5 rfl hdd hd hn rfl hcat (fun r m h => by obtain ⟨rfl, rfl⟩ := h; exact k)
abbrev K_X5_hasWord (l : Launch) (E : jE) (as : List Value) (M : jM) (v : Int32) (M' : jM) : Prop := CI l E 1 yX5_hasWord cX5_hasWord 2 (some .boolean) as M v M'
theorem ky_X5_hasWord : jy yX5_hasWord cX5_hasWord 2 (some .boolean) 1 := ⟨wC_yX5_hasWord, wN_RX5, ⟨by decide +kernel, by decide +kernel, by decide +kernel⟩, by decide⟩
theorem V_X5_hasWord (C : jK l E X own cc nL d) {i : Nat} {p0 : Int32} {v : Int32} {M' : jM} (hM : K_X5_hasWord l E [.ref (ja E 44), .int p0] M v M') (hw : Cond.methodLink own i yX5_hasWord ∈ W0) (hdd : 1 < d) (hd : decode cc pc = .ok (.invokevirtual i, 3)) (hn : lv.length = nL) (hcat : (st.map fun v => v.category).sum ≤ 8) (k : J E X (pc + 3) lv (.int v :: st) M') : J E X pc lv (.int p0 :: .ref (ja E 44) :: st) M := J_callV C (T := TX5) (N := 2) hM ky_X5_hasWord wI_yX5_hasWord wE_yX5_hasWord rfl hw jL_X5 rfl hdd hd hn rfl hcat (fun r m h => by obtain ⟨rfl, rfl⟩ := h; exact k)
abbrev K_X5_hasKind (l : Launch) (E : jE) (as : List Value) (M : jM) (v : Int32) (M' : jM) : Prop := CI l E 1 yX5_hasKind cX5_hasKind 1 (some .boolean) as M v M'
theorem ky_X5_hasKind : jy yX5_hasKind cX5_hasKind 1 (some .boolean) 0 := ⟨wC_yX5_hasKind, wN_RX5, ⟨by decide +kernel, by decide +kernel, by decide +kernel⟩, by decide⟩
theorem V_X5_hasKind (C : jK l E X own cc nL d) {i : Nat}  {v : Int32} {M' : jM} (hM : K_X5_hasKind l E [.ref (ja E 44)] M v M') (hw : Cond.methodLink own i yX5_hasKind ∈ W0) (hdd : 1 < d) (hd : decode cc pc = .ok (.invokevirtual i, 3)) (hn : lv.length = nL) (hcat : (st.map fun v => v.category).sum ≤ 8) (k : J E X (pc + 3) lv (.int v :: st) M') : J E X pc lv (.ref (ja E 44) :: st) M := J_callV C (T := TX5) (N := 2) hM ky_X5_hasKind wI_yX5_hasKind wE_yX5_hasKind rfl hw jL_X5 rfl hdd hd hn rfl hcat (fun r m h => by obtain ⟨rfl, rfl⟩ := h; exact k)
abbrev K_X5_hasNumber (l : Launch) (E : jE) (as : List Value) (M : jM) (v : Int32) (M' : jM) : Prop := CI l E 1 yX5_hasNumber cX5_hasNumber 1 (some .boolean) as M v M'
theorem ky_X5_hasNumber : jy yX5_hasNumber cX5_hasNumber 1 (some .boolean) 0 := ⟨wC_yX5_hasNumber, wN_RX5, ⟨by decide +kernel, by decide +kernel, by decide +kernel⟩, by decide⟩
theorem V_X5_hasNumber (C : jK l E X own cc nL d) {i : Nat}  {v : Int32} {M' : jM} (hM : K_X5_hasNumber l E [.ref (ja E 44)] M v M') (hw : Cond.methodLink own i yX5_hasNumber ∈ W0) (hdd : 1 < d) (hd : decode cc pc = .ok (.invokevirtual i, 3)) (hn : lv.length = nL) (hcat : (st.map fun v => v.category).sum ≤ 8) (k : J E X (pc + 3) lv (.int v :: st) M') : J E X pc lv (.ref (ja E 44) :: st) M := J_callV C (T := TX5) (N := 2) hM ky_X5_hasNumber wI_yX5_hasNumber wE_yX5_hasNumber rfl hw jL_X5 rfl hdd hd hn rfl hcat (fun r m h => by obtain ⟨rfl, rfl⟩ := h; exact k)
abbrev K_X5_hasSign (l : Launch) (E : jE) (as : List Value) (M : jM) (v : Int32) (M' : jM) : Prop := CI l E 1 yX5_hasSign cX5_hasSign 1 (some .boolean) as M v M'
theorem ky_X5_hasSign : jy yX5_hasSign cX5_hasSign 1 (some .boolean) 0 := ⟨wC_yX5_hasSign, wN_RX5, ⟨by decide +kernel, by decide +kernel, by decide +kernel⟩, by decide⟩
theorem V_X5_hasSign (C : jK l E X own cc nL d) {i : Nat}  {v : Int32} {M' : jM} (hM : K_X5_hasSign l E [.ref (ja E 44)] M v M') (hw : Cond.methodLink own i yX5_hasSign ∈ W0) (hdd : 1 < d) (hd : decode cc pc = .ok (.invokevirtual i, 3)) (hn : lv.length = nL) (hcat : (st.map fun v => v.category).sum ≤ 8) (k : J E X (pc + 3) lv (.int v :: st) M') : J E X pc lv (.ref (ja E 44) :: st) M := J_callV C (T := TX5) (N := 2) hM ky_X5_hasSign wI_yX5_hasSign wE_yX5_hasSign rfl hw jL_X5 rfl hdd hd hn rfl hcat (fun r m h => by obtain ⟨rfl, rfl⟩ := h; exact k)
abbrev K_X5_fail (l : Launch) (E : jE) (as : List Value) (M : jM) (M' : jM) : Prop := CV l E 1 yX5_fail cX5_fail 1 none as M M'
theorem ky_X5_fail : jy yX5_fail cX5_fail 1 none 0 := ⟨wC_yX5_fail, wN_RX5, ⟨by decide +kernel, by decide +kernel, by decide +kernel⟩, by decide⟩
theorem V_X5_fail (C : jK l E X own cc nL d) {i : Nat}  {M' : jM} (hM : K_X5_fail l E [.ref (ja E 44)] M M') (hw : Cond.methodLink own i yX5_fail ∈ W0) (hdd : 1 < d) (hd : decode cc pc = .ok (.invokevirtual i, 3)) (hn : lv.length = nL) (hcat : (st.map fun v => v.category).sum ≤ 8) (k : J E X (pc + 3) lv (st) M') : J E X pc lv (.ref (ja E 44) :: st) M := J_callV C (T := TX5) (N := 2) hM ky_X5_fail wI_yX5_fail wE_yX5_fail rfl hw jL_X5 rfl hdd hd hn rfl hcat (fun r m h => by obtain ⟨rfl, rfl⟩ := h; exact k)
abbrev K_X6_take (l : Launch) (E : jE) (as : List Value) (M : jM) (M' : jM) : Prop := CV l E 9 yX6_take cX6_take 4 none as M M'
theorem ky_X6_take : jy yX6_take cX6_take 4 none 1 := ⟨wC_yX6_take, wN_RX6, ⟨by decide +kernel, by decide +kernel, by decide +kernel⟩, by decide⟩
theorem V_X6_take (C : jK l E X own cc nL d) {i : Nat} {p0 : Nat} {M' : jM} (hM : K_X6_take l E [.ref (ja E 45), .ref p0] M M') (hw : Cond.methodLink own i yX6_take ∈ W0) (hdd : 9 < d) (hd : decode cc pc = .ok (.invokevirtual i, 3)) (hn : lv.length = nL) (hcat : (st.map fun v => v.category).sum ≤ 8) (k : J E X (pc + 3) lv (st) M') : J E X pc lv (.ref p0 :: .ref (ja E 45) :: st) M := J_callV C (T := TX6) (N := 4) hM ky_X6_take wI_yX6_take wE_yX6_take rfl hw jL_X6 rfl hdd hd hn rfl hcat (fun r m h => by obtain ⟨rfl, rfl⟩ := h; exact k)
abbrev K_X6_begin (l : Launch) (E : jE) (as : List Value) (M : jM) (v : Int32) (M' : jM) : Prop := CI l E 0 yX6_begin cX6_begin 1 (some .int) as M v M'
theorem ky_X6_begin : jy yX6_begin cX6_begin 1 (some .int) 0 := ⟨wC_yX6_begin, wN_RX6, ⟨by decide +kernel, by decide +kernel, by decide +kernel⟩, by decide⟩
theorem V_X6_begin (C : jK l E X own cc nL d) {i : Nat}  {v : Int32} {M' : jM} (hM : K_X6_begin l E [.ref (ja E 45)] M v M') (hw : Cond.methodLink own i yX6_begin ∈ W0) (hdd : 0 < d) (hd : decode cc pc = .ok (.invokevirtual i, 3)) (hn : lv.length = nL) (hcat : (st.map fun v => v.category).sum ≤ 8) (k : J E X (pc + 3) lv (.int v :: st) M') : J E X pc lv (.ref (ja E 45) :: st) M := J_callV C (T := TX6) (N := 4) hM ky_X6_begin wI_yX6_begin wE_yX6_begin rfl hw jL_X6 rfl hdd hd hn rfl hcat (fun r m h => by obtain ⟨rfl, rfl⟩ := h; exact k)
abbrev K_X6_value (l : Launch) (E : jE) (as : List Value) (M : jM) (v : Int32) (M' : jM) : Prop := CI l E 0 yX6_value cX6_value 1 (some .int) as M v M'
theorem ky_X6_value : jy yX6_value cX6_value 1 (some .int) 0 := ⟨wC_yX6_value, wN_RX6, ⟨by decide +kernel, by decide +kernel, by decide +kernel⟩, by decide⟩
theorem V_X6_value (C : jK l E X own cc nL d) {i : Nat}  {v : Int32} {M' : jM} (hM : K_X6_value l E [.ref (ja E 45)] M v M') (hw : Cond.methodLink own i yX6_value ∈ W0) (hdd : 0 < d) (hd : decode cc pc = .ok (.invokevirtual i, 3)) (hn : lv.length = nL) (hcat : (st.map fun v => v.category).sum ≤ 8) (k : J E X (pc + 3) lv (.int v :: st) M') : J E X pc lv (.ref (ja E 45) :: st) M := J_callV C (T := TX6) (N := 4) hM ky_X6_value wI_yX6_value wE_yX6_value rfl hw jL_X6 rfl hdd hd hn rfl hcat (fun r m h => by obtain ⟨rfl, rfl⟩ := h; exact k)
abbrev K_X6_isSort (l : Launch) (E : jE) (as : List Value) (M : jM) (v : Int32) (M' : jM) : Prop := CI l E 0 yX6_isSort cX6_isSort 2 (some .boolean) as M v M'
theorem ky_X6_isSort : jy yX6_isSort cX6_isSort 2 (some .boolean) 1 := ⟨wC_yX6_isSort, wN_RX6, ⟨by decide +kernel, by decide +kernel, by decide +kernel⟩, by decide⟩
theorem V_X6_isSort (C : jK l E X own cc nL d) {i : Nat} {p0 : Int32} {v : Int32} {M' : jM} (hM : K_X6_isSort l E [.ref (ja E 45), .int p0] M v M') (hw : Cond.methodLink own i yX6_isSort ∈ W0) (hdd : 0 < d) (hd : decode cc pc = .ok (.invokevirtual i, 3)) (hn : lv.length = nL) (hcat : (st.map fun v => v.category).sum ≤ 8) (k : J E X (pc + 3) lv (.int v :: st) M') : J E X pc lv (.int p0 :: .ref (ja E 45) :: st) M := J_callV C (T := TX6) (N := 4) hM ky_X6_isSort wI_yX6_isSort wE_yX6_isSort rfl hw jL_X6 rfl hdd hd hn rfl hcat (fun r m h => by obtain ⟨rfl, rfl⟩ := h; exact k)
abbrev K_X6_isWord (l : Launch) (E : jE) (as : List Value) (M : jM) (v : Int32) (M' : jM) : Prop := CI l E 0 yX6_isWord cX6_isWord 2 (some .boolean) as M v M'
theorem ky_X6_isWord : jy yX6_isWord cX6_isWord 2 (some .boolean) 1 := ⟨wC_yX6_isWord, wN_RX6, ⟨by decide +kernel, by decide +kernel, by decide +kernel⟩, by decide⟩
theorem V_X6_isWord (C : jK l E X own cc nL d) {i : Nat} {p0 : Int32} {v : Int32} {M' : jM} (hM : K_X6_isWord l E [.ref (ja E 45), .int p0] M v M') (hw : Cond.methodLink own i yX6_isWord ∈ W0) (hdd : 0 < d) (hd : decode cc pc = .ok (.invokevirtual i, 3)) (hn : lv.length = nL) (hcat : (st.map fun v => v.category).sum ≤ 8) (k : J E X (pc + 3) lv (.int v :: st) M') : J E X pc lv (.int p0 :: .ref (ja E 45) :: st) M := J_callV C (T := TX6) (N := 4) hM ky_X6_isWord wI_yX6_isWord wE_yX6_isWord rfl hw jL_X6 rfl hdd hd hn rfl hcat (fun r m h => by obtain ⟨rfl, rfl⟩ := h; exact k)
abbrev K_X6_advance (l : Launch) (E : jE) (as : List Value) (M : jM) (M' : jM) : Prop := CV l E 0 yX6_advance cX6_advance 1 none as M M'
theorem ky_X6_advance : jy yX6_advance cX6_advance 1 none 0 := ⟨wC_yX6_advance, wN_RX6, ⟨by decide +kernel, by decide +kernel, by decide +kernel⟩, by decide⟩
theorem V_X6_advance (C : jK l E X own cc nL d) {i : Nat}  {M' : jM} (hM : K_X6_advance l E [.ref (ja E 45)] M M') (hw : Cond.methodLink own i yX6_advance ∈ W0) (hdd : 0 < d) (hd : decode cc pc = .ok (.invokevirtual i, 3)) (hn : lv.length = nL) (hcat : (st.map fun v => v.category).sum ≤ 8) (k : J E X (pc + 3) lv (st) M') : J E X pc lv (.ref (ja E 45) :: st) M := J_callV C (T := TX6) (N := 4) hM ky_X6_advance wI_yX6_advance wE_yX6_advance rfl hw jL_X6 rfl hdd hd hn rfl hcat (fun r m h => by obtain ⟨rfl, rfl⟩ := h; exact k)
abbrev K_X6_takeOne (l : Launch) (E : jE) (as : List Value) (M : jM) (v : Int32) (M' : jM) : Prop := CI l E 8 yX6_takeOne cX6_takeOne 7 (some .int) as M v M'
theorem ky_X6_takeOne : jy yX6_takeOne cX6_takeOne 7 (some .int) 3 := ⟨wC_yX6_takeOne, wN_RX6, ⟨by decide +kernel, by decide +kernel, by decide +kernel⟩, by decide⟩
theorem V_X6_takeOne (C : jK l E X own cc nL d) {i : Nat} {p0 : Nat} {p1 : Int32} {p2 : Int32} {v : Int32} {M' : jM} (hM : K_X6_takeOne l E [.ref (ja E 45), .ref p0, .int p1, .int p2] M v M') (hw : Cond.methodLink own i yX6_takeOne ∈ W0) (hdd : 8 < d) (hd : decode cc pc = .ok (.invokevirtual i, 3)) (hn : lv.length = nL) (hcat : (st.map fun v => v.category).sum ≤ 8) (k : J E X (pc + 3) lv (.int v :: st) M') : J E X pc lv (.int p2 :: .int p1 :: .ref p0 :: .ref (ja E 45) :: st) M := J_callV C (T := TX6) (N := 4) hM ky_X6_takeOne wI_yX6_takeOne wE_yX6_takeOne rfl hw jL_X6 rfl hdd hd hn rfl hcat (fun r m h => by obtain ⟨rfl, rfl⟩ := h; exact k)
abbrev K_X6_isLetter (l : Launch) (E : jE) (as : List Value) (M : jM) (v : Int32) (M' : jM) : Prop := CI l E 0 yX6_isLetter cX6_isLetter 1 (some .boolean) as M v M'
theorem ky_X6_isLetter : jy yX6_isLetter cX6_isLetter 1 (some .boolean) 1 := ⟨wC_yX6_isLetter, wN_RX6, ⟨by decide +kernel, by decide +kernel, by decide +kernel⟩, by decide⟩
theorem V_X6_isLetter (C : jK l E X own cc nL d) {i : Nat} {p0 : Int32} {v : Int32} {M' : jM} (hM : K_X6_isLetter l E [.int p0] M v M') (hw : Cond.methodLink own i yX6_isLetter ∈ W0) (hdd : 0 < d) (hd : decode cc pc = .ok (.invokestatic i, 3)) (hn : lv.length = nL) (hcat : (st.map fun v => v.category).sum ≤ 8) (k : J E X (pc + 3) lv (.int v :: st) M') : J E X pc lv (.int p0 :: st) M := J_callS C hM ky_X6_isLetter wS_yX6_isLetter hw hdd hd hn rfl hcat (fun r m h => by obtain ⟨rfl, rfl⟩ := h; exact k)
abbrev K_X6_isDigit (l : Launch) (E : jE) (as : List Value) (M : jM) (v : Int32) (M' : jM) : Prop := CI l E 0 yX6_isDigit cX6_isDigit 1 (some .boolean) as M v M'
theorem ky_X6_isDigit : jy yX6_isDigit cX6_isDigit 1 (some .boolean) 1 := ⟨wC_yX6_isDigit, wN_RX6, ⟨by decide +kernel, by decide +kernel, by decide +kernel⟩, by decide⟩
theorem V_X6_isDigit (C : jK l E X own cc nL d) {i : Nat} {p0 : Int32} {v : Int32} {M' : jM} (hM : K_X6_isDigit l E [.int p0] M v M') (hw : Cond.methodLink own i yX6_isDigit ∈ W0) (hdd : 0 < d) (hd : decode cc pc = .ok (.invokestatic i, 3)) (hn : lv.length = nL) (hcat : (st.map fun v => v.category).sum ≤ 8) (k : J E X (pc + 3) lv (.int v :: st) M') : J E X pc lv (.int p0 :: st) M := J_callS C hM ky_X6_isDigit wS_yX6_isDigit hw hdd hd hn rfl hcat (fun r m h => by obtain ⟨rfl, rfl⟩ := h; exact k)
abbrev K_X6_wordAt (l : Launch) (E : jE) (as : List Value) (M : jM) (v : Int32) (M' : jM) : Prop := CI l E 7 yX6_wordAt cX6_wordAt 4 (some .int) as M v M'
theorem ky_X6_wordAt : jy yX6_wordAt cX6_wordAt 4 (some .int) 3 := ⟨wC_yX6_wordAt, wN_RX6, ⟨by decide +kernel, by decide +kernel, by decide +kernel⟩, by decide⟩
theorem V_X6_wordAt (C : jK l E X own cc nL d) {i : Nat} {p0 : Nat} {p1 : Int32} {p2 : Int32} {v : Int32} {M' : jM} (hM : K_X6_wordAt l E [.ref p0, .int p1, .int p2] M v M') (hw : Cond.methodLink own i yX6_wordAt ∈ W0) (hdd : 7 < d) (hd : decode cc pc = .ok (.invokestatic i, 3)) (hn : lv.length = nL) (hcat : (st.map fun v => v.category).sum ≤ 8) (k : J E X (pc + 3) lv (.int v :: st) M') : J E X pc lv (.int p2 :: .int p1 :: .ref p0 :: st) M := J_callS C hM ky_X6_wordAt wS_yX6_wordAt hw hdd hd hn rfl hcat (fun r m h => by obtain ⟨rfl, rfl⟩ := h; exact k)
abbrev K_X6_nameOf (l : Launch) (E : jE) (as : List Value) (M : jM) (v : Nat) (M' : jM) : Prop := CR l E 0 yX6_nameOf cX6_nameOf 1 (some (.object "java/lang/String")) as M v M'
theorem ky_X6_nameOf : jy yX6_nameOf cX6_nameOf 1 (some (.object "java/lang/String")) 1 := ⟨wC_yX6_nameOf, wN_RX6, ⟨by decide +kernel, by decide +kernel, by decide +kernel⟩, by decide⟩
theorem V_X6_nameOf (C : jK l E X own cc nL d) {i : Nat} {p0 : Int32} {v : Nat} {M' : jM} (hM : K_X6_nameOf l E [.int p0] M v M') (hw : Cond.methodLink own i yX6_nameOf ∈ W0) (hdd : 0 < d) (hd : decode cc pc = .ok (.invokestatic i, 3)) (hn : lv.length = nL) (hcat : (st.map fun v => v.category).sum ≤ 8) (k : J E X (pc + 3) lv (.ref v :: st) M') : J E X pc lv (.int p0 :: st) M := J_callS C hM ky_X6_nameOf wS_yX6_nameOf hw hdd hd hn rfl hcat (fun r m h => by obtain ⟨rfl, rfl⟩ := h; exact k)
abbrev K_X7_pond (l : Launch) (E : jE) (as : List Value) (M : jM) (v : Int32) (M' : jM) : Prop := CI l E 2 yX7_pond cX7_pond 3 (some .int) as M v M'
theorem ky_X7_pond : jy yX7_pond cX7_pond 3 (some .int) 2 := ⟨wC_yX7_pond, wN_RX7, ⟨by decide +kernel, by decide +kernel, by decide +kernel⟩, by decide⟩
theorem V_X7_pond (C : jK l E X own cc nL d) {i : Nat} {p0 : Int32} {p1 : Int32} {v : Int32} {M' : jM} (hM : K_X7_pond l E [.ref (ja E 59), .int p0, .int p1] M v M') (hw : Cond.methodLink own i yX7_pond ∈ W0) (hdd : 2 < d) (hd : decode cc pc = .ok (.invokevirtual i, 3)) (hn : lv.length = nL) (hcat : (st.map fun v => v.category).sum ≤ 8) (k : J E X (pc + 3) lv (.int v :: st) M') : J E X pc lv (.int p1 :: .int p0 :: .ref (ja E 59) :: st) M := J_callV C (T := TX7) (N := 10) hM ky_X7_pond wI_yX7_pond wE_yX7_pond rfl hw jL_X7 rfl hdd hd hn rfl hcat (fun r m h => by obtain ⟨rfl, rfl⟩ := h; exact k)
abbrev K_X7_dig (l : Launch) (E : jE) (as : List Value) (M : jM) (v : Int32) (M' : jM) : Prop := CI l E 1 yX7_dig cX7_dig 5 (some .int) as M v M'
theorem ky_X7_dig : jy yX7_dig cX7_dig 5 (some .int) 3 := ⟨wC_yX7_dig, wN_RX7, ⟨by decide +kernel, by decide +kernel, by decide +kernel⟩, by decide⟩
theorem V_X7_dig (C : jK l E X own cc nL d) {i : Nat} {p0 : Int32} {p1 : Int32} {p2 : Int32} {v : Int32} {M' : jM} (hM : K_X7_dig l E [.ref (ja E 59), .int p0, .int p1, .int p2] M v M') (hw : Cond.methodLink own i yX7_dig ∈ W0) (hdd : 1 < d) (hd : decode cc pc = .ok (.invokevirtual i, 3)) (hn : lv.length = nL) (hcat : (st.map fun v => v.category).sum ≤ 8) (k : J E X (pc + 3) lv (.int v :: st) M') : J E X pc lv (.int p2 :: .int p1 :: .int p0 :: .ref (ja E 59) :: st) M := J_callV C (T := TX7) (N := 10) hM ky_X7_dig wI_yX7_dig wE_yX7_dig rfl hw jL_X7 rfl hdd hd hn rfl hcat (fun r m h => by obtain ⟨rfl, rfl⟩ := h; exact k)
abbrev K_X7_thing (l : Launch) (E : jE) (as : List Value) (M : jM) (v : Int32) (M' : jM) : Prop := CI l E 1 yX7_thing cX7_thing 3 (some .int) as M v M'
theorem ky_X7_thing : jy yX7_thing cX7_thing 3 (some .int) 2 := ⟨wC_yX7_thing, wN_RX7, ⟨by decide +kernel, by decide +kernel, by decide +kernel⟩, by decide⟩
theorem V_X7_thing (C : jK l E X own cc nL d) {i : Nat} {p0 : Int32} {p1 : Int32} {v : Int32} {M' : jM} (hM : K_X7_thing l E [.ref (ja E 59), .int p0, .int p1] M v M') (hw : Cond.methodLink own i yX7_thing ∈ W0) (hdd : 1 < d) (hd : decode cc pc = .ok (.invokevirtual i, 3)) (hn : lv.length = nL) (hcat : (st.map fun v => v.category).sum ≤ 8) (k : J E X (pc + 3) lv (.int v :: st) M') : J E X pc lv (.int p1 :: .int p0 :: .ref (ja E 59) :: st) M := J_callV C (T := TX7) (N := 10) hM ky_X7_thing wI_yX7_thing wE_yX7_thing rfl hw jL_X7 rfl hdd hd hn rfl hcat (fun r m h => by obtain ⟨rfl, rfl⟩ := h; exact k)
abbrev K_X7_of (l : Launch) (E : jE) (as : List Value) (M : jM) (v : Int32) (M' : jM) : Prop := CI l E 3 yX7_of cX7_of 3 (some .int) as M v M'
theorem ky_X7_of : jy yX7_of cX7_of 3 (some .int) 2 := ⟨wC_yX7_of, wN_RX7, ⟨by decide +kernel, by decide +kernel, by decide +kernel⟩, by decide⟩
theorem V_X7_of (C : jK l E X own cc nL d) {i : Nat} {p0 : Int32} {p1 : Int32} {v : Int32} {M' : jM} (hM : K_X7_of l E [.ref (ja E 59), .int p0, .int p1] M v M') (hw : Cond.methodLink own i yX7_of ∈ W0) (hdd : 3 < d) (hd : decode cc pc = .ok (.invokevirtual i, 3)) (hn : lv.length = nL) (hcat : (st.map fun v => v.category).sum ≤ 8) (k : J E X (pc + 3) lv (.int v :: st) M') : J E X pc lv (.int p1 :: .int p0 :: .ref (ja E 59) :: st) M := J_callV C (T := TX7) (N := 10) hM ky_X7_of wI_yX7_of wE_yX7_of rfl hw jL_X7 rfl hdd hd hn rfl hcat (fun r m h => by obtain ⟨rfl, rfl⟩ := h; exact k)
abbrev K_X7_change (l : Launch) (E : jE) (as : List Value) (M : jM) (v : Int32) (M' : jM) : Prop := CI l E 1 yX7_change cX7_change 5 (some .int) as M v M'
theorem ky_X7_change : jy yX7_change cX7_change 5 (some .int) 3 := ⟨wC_yX7_change, wN_RX7, ⟨by decide +kernel, by decide +kernel, by decide +kernel⟩, by decide⟩
theorem V_X7_change (C : jK l E X own cc nL d) {i : Nat} {p0 : Int32} {p1 : Int32} {p2 : Int32} {v : Int32} {M' : jM} (hM : K_X7_change l E [.ref (ja E 59), .int p0, .int p1, .int p2] M v M') (hw : Cond.methodLink own i yX7_change ∈ W0) (hdd : 1 < d) (hd : decode cc pc = .ok (.invokevirtual i, 3)) (hn : lv.length = nL) (hcat : (st.map fun v => v.category).sum ≤ 8) (k : J E X (pc + 3) lv (.int v :: st) M') : J E X pc lv (.int p2 :: .int p1 :: .int p0 :: .ref (ja E 59) :: st) M := J_callV C (T := TX7) (N := 10) hM ky_X7_change wI_yX7_change wE_yX7_change rfl hw jL_X7 rfl hdd hd hn rfl hcat (fun r m h => by obtain ⟨rfl, rfl⟩ := h; exact k)
abbrev K_X7_rain (l : Launch) (E : jE) (as : List Value) (M : jM) (v : Int32) (M' : jM) : Prop := CI l E 1 yX7_rain cX7_rain 3 (some .int) as M v M'
theorem ky_X7_rain : jy yX7_rain cX7_rain 3 (some .int) 1 := ⟨wC_yX7_rain, wN_RX7, ⟨by decide +kernel, by decide +kernel, by decide +kernel⟩, by decide⟩
theorem V_X7_rain (C : jK l E X own cc nL d) {i : Nat} {p0 : Int32} {v : Int32} {M' : jM} (hM : K_X7_rain l E [.ref (ja E 59), .int p0] M v M') (hw : Cond.methodLink own i yX7_rain ∈ W0) (hdd : 1 < d) (hd : decode cc pc = .ok (.invokevirtual i, 3)) (hn : lv.length = nL) (hcat : (st.map fun v => v.category).sum ≤ 8) (k : J E X (pc + 3) lv (.int v :: st) M') : J E X pc lv (.int p0 :: .ref (ja E 59) :: st) M := J_callV C (T := TX7) (N := 10) hM ky_X7_rain wI_yX7_rain wE_yX7_rain rfl hw jL_X7 rfl hdd hd hn rfl hcat (fun r m h => by obtain ⟨rfl, rfl⟩ := h; exact k)
abbrev K_X7_go (l : Launch) (E : jE) (as : List Value) (M : jM) (v : Int32) (M' : jM) : Prop := CI l E 4 yX7_go cX7_go 3 (some .int) as M v M'
theorem ky_X7_go : jy yX7_go cX7_go 3 (some .int) 1 := ⟨wC_yX7_go, wN_RX7, ⟨by decide +kernel, by decide +kernel, by decide +kernel⟩, by decide⟩
theorem V_X7_go (C : jK l E X own cc nL d) {i : Nat} {p0 : Int32} {v : Int32} {M' : jM} (hM : K_X7_go l E [.ref (ja E 59), .int p0] M v M') (hw : Cond.methodLink own i yX7_go ∈ W0) (hdd : 4 < d) (hd : decode cc pc = .ok (.invokevirtual i, 3)) (hn : lv.length = nL) (hcat : (st.map fun v => v.category).sum ≤ 8) (k : J E X (pc + 3) lv (.int v :: st) M') : J E X pc lv (.int p0 :: .ref (ja E 59) :: st) M := J_callV C (T := TX7) (N := 10) hM ky_X7_go wI_yX7_go wE_yX7_go rfl hw jL_X7 rfl hdd hd hn rfl hcat (fun r m h => by obtain ⟨rfl, rfl⟩ := h; exact k)
abbrev K_X7_now (l : Launch) (E : jE) (as : List Value) (M : jM) (v : Int32) (M' : jM) : Prop := CI l E 2 yX7_now cX7_now 2 (some .int) as M v M'
theorem ky_X7_now : jy yX7_now cX7_now 2 (some .int) 1 := ⟨wC_yX7_now, wN_RX7, ⟨by decide +kernel, by decide +kernel, by decide +kernel⟩, by decide⟩
theorem V_X7_now (C : jK l E X own cc nL d) {i : Nat} {p0 : Int32} {v : Int32} {M' : jM} (hM : K_X7_now l E [.ref (ja E 59), .int p0] M v M') (hw : Cond.methodLink own i yX7_now ∈ W0) (hdd : 2 < d) (hd : decode cc pc = .ok (.invokevirtual i, 3)) (hn : lv.length = nL) (hcat : (st.map fun v => v.category).sum ≤ 8) (k : J E X (pc + 3) lv (.int v :: st) M') : J E X pc lv (.int p0 :: .ref (ja E 59) :: st) M := J_callV C (T := TX7) (N := 10) hM ky_X7_now wI_yX7_now wE_yX7_now rfl hw jL_X7 rfl hdd hd hn rfl hcat (fun r m h => by obtain ⟨rfl, rfl⟩ := h; exact k)
abbrev K_X7_chain (l : Launch) (E : jE) (as : List Value) (M : jM) (v : Int32) (M' : jM) : Prop := CI l E 3 yX7_chain cX7_chain 4 (some .int) as M v M'
theorem ky_X7_chain : jy yX7_chain cX7_chain 4 (some .int) 3 := ⟨wC_yX7_chain, wN_RX7, ⟨by decide +kernel, by decide +kernel, by decide +kernel⟩, by decide⟩
theorem V_X7_chain (C : jK l E X own cc nL d) {i : Nat} {p0 : Int32} {p1 : Int32} {p2 : Int32} {v : Int32} {M' : jM} (hM : K_X7_chain l E [.ref (ja E 59), .int p0, .int p1, .int p2] M v M') (hw : Cond.methodLink own i yX7_chain ∈ W0) (hdd : 3 < d) (hd : decode cc pc = .ok (.invokevirtual i, 3)) (hn : lv.length = nL) (hcat : (st.map fun v => v.category).sum ≤ 8) (k : J E X (pc + 3) lv (.int v :: st) M') : J E X pc lv (.int p2 :: .int p1 :: .int p0 :: .ref (ja E 59) :: st) M := J_callV C (T := TX7) (N := 10) hM ky_X7_chain wI_yX7_chain wE_yX7_chain rfl hw jL_X7 rfl hdd hd hn rfl hcat (fun r m h => by obtain ⟨rfl, rfl⟩ := h; exact k)
abbrev K_X7_through (l : Launch) (E : jE) (as : List Value) (M : jM) (v : Int32) (M' : jM) : Prop := CI l E 2 yX7_through cX7_through 4 (some .int) as M v M'
theorem ky_X7_through : jy yX7_through cX7_through 4 (some .int) 2 := ⟨wC_yX7_through, wN_RX7, ⟨by decide +kernel, by decide +kernel, by decide +kernel⟩, by decide⟩
theorem V_X7_through (C : jK l E X own cc nL d) {i : Nat} {p0 : Int32} {p1 : Int32} {v : Int32} {M' : jM} (hM : K_X7_through l E [.ref (ja E 59), .int p0, .int p1] M v M') (hw : Cond.methodLink own i yX7_through ∈ W0) (hdd : 2 < d) (hd : decode cc pc = .ok (.invokevirtual i, 3)) (hn : lv.length = nL) (hcat : (st.map fun v => v.category).sum ≤ 8) (k : J E X (pc + 3) lv (.int v :: st) M') : J E X pc lv (.int p1 :: .int p0 :: .ref (ja E 59) :: st) M := J_callV C (T := TX7) (N := 10) hM ky_X7_through wI_yX7_through wE_yX7_through rfl hw jL_X7 rfl hdd hd hn rfl hcat (fun r m h => by obtain ⟨rfl, rfl⟩ := h; exact k)
abbrev K_X7_upright (l : Launch) (E : jE) (as : List Value) (M : jM) (v : Int32) (M' : jM) : Prop := CI l E 2 yX7_upright cX7_upright 3 (some .int) as M v M'
theorem ky_X7_upright : jy yX7_upright cX7_upright 3 (some .int) 1 := ⟨wC_yX7_upright, wN_RX7, ⟨by decide +kernel, by decide +kernel, by decide +kernel⟩, by decide⟩
theorem V_X7_upright (C : jK l E X own cc nL d) {i : Nat} {p0 : Int32} {v : Int32} {M' : jM} (hM : K_X7_upright l E [.ref (ja E 59), .int p0] M v M') (hw : Cond.methodLink own i yX7_upright ∈ W0) (hdd : 2 < d) (hd : decode cc pc = .ok (.invokevirtual i, 3)) (hn : lv.length = nL) (hcat : (st.map fun v => v.category).sum ≤ 8) (k : J E X (pc + 3) lv (.int v :: st) M') : J E X pc lv (.int p0 :: .ref (ja E 59) :: st) M := J_callV C (T := TX7) (N := 10) hM ky_X7_upright wI_yX7_upright wE_yX7_upright rfl hw jL_X7 rfl hdd hd hn rfl hcat (fun r m h => by obtain ⟨rfl, rfl⟩ := h; exact k)
abbrev K_X7_large (l : Launch) (E : jE) (as : List Value) (M : jM) (v : Int32) (M' : jM) : Prop := CI l E 3 yX7_large cX7_large 4 (some .int) as M v M'
theorem ky_X7_large : jy yX7_large cX7_large 4 (some .int) 3 := ⟨wC_yX7_large, wN_RX7, ⟨by decide +kernel, by decide +kernel, by decide +kernel⟩, by decide⟩
theorem V_X7_large (C : jK l E X own cc nL d) {i : Nat} {p0 : Int32} {p1 : Int32} {p2 : Int32} {v : Int32} {M' : jM} (hM : K_X7_large l E [.ref (ja E 59), .int p0, .int p1, .int p2] M v M') (hw : Cond.methodLink own i yX7_large ∈ W0) (hdd : 3 < d) (hd : decode cc pc = .ok (.invokevirtual i, 3)) (hn : lv.length = nL) (hcat : (st.map fun v => v.category).sum ≤ 8) (k : J E X (pc + 3) lv (.int v :: st) M') : J E X pc lv (.int p2 :: .int p1 :: .int p0 :: .ref (ja E 59) :: st) M := J_callV C (T := TX7) (N := 10) hM ky_X7_large wI_yX7_large wE_yX7_large rfl hw jL_X7 rfl hdd hd hn rfl hcat (fun r m h => by obtain ⟨rfl, rfl⟩ := h; exact k)
abbrev K_X7_round (l : Launch) (E : jE) (as : List Value) (M : jM) (v : Int32) (M' : jM) : Prop := CI l E 1 yX7_round cX7_round 2 (some .int) as M v M'
theorem ky_X7_round : jy yX7_round cX7_round 2 (some .int) 1 := ⟨wC_yX7_round, wN_RX7, ⟨by decide +kernel, by decide +kernel, by decide +kernel⟩, by decide⟩
theorem V_X7_round (C : jK l E X own cc nL d) {i : Nat} {p0 : Int32} {v : Int32} {M' : jM} (hM : K_X7_round l E [.ref (ja E 59), .int p0] M v M') (hw : Cond.methodLink own i yX7_round ∈ W0) (hdd : 1 < d) (hd : decode cc pc = .ok (.invokevirtual i, 3)) (hn : lv.length = nL) (hcat : (st.map fun v => v.category).sum ≤ 8) (k : J E X (pc + 3) lv (.int v :: st) M') : J E X pc lv (.int p0 :: .ref (ja E 59) :: st) M := J_callV C (T := TX7) (N := 10) hM ky_X7_round wI_yX7_round wE_yX7_round rfl hw jL_X7 rfl hdd hd hn rfl hcat (fun r m h => by obtain ⟨rfl, rfl⟩ := h; exact k)
abbrev K_X7_rounds (l : Launch) (E : jE) (as : List Value) (M : jM) (v : Int32) (M' : jM) : Prop := CI l E 2 yX7_rounds cX7_rounds 3 (some .int) as M v M'
theorem ky_X7_rounds : jy yX7_rounds cX7_rounds 3 (some .int) 0 := ⟨wC_yX7_rounds, wN_RX7, ⟨by decide +kernel, by decide +kernel, by decide +kernel⟩, by decide⟩
theorem V_X7_rounds (C : jK l E X own cc nL d) {i : Nat}  {v : Int32} {M' : jM} (hM : K_X7_rounds l E [.ref (ja E 59)] M v M') (hw : Cond.methodLink own i yX7_rounds ∈ W0) (hdd : 2 < d) (hd : decode cc pc = .ok (.invokevirtual i, 3)) (hn : lv.length = nL) (hcat : (st.map fun v => v.category).sum ≤ 8) (k : J E X (pc + 3) lv (.int v :: st) M') : J E X pc lv (.ref (ja E 59) :: st) M := J_callV C (T := TX7) (N := 10) hM ky_X7_rounds wI_yX7_rounds wE_yX7_rounds rfl hw jL_X7 rfl hdd hd hn rfl hcat (fun r m h => by obtain ⟨rfl, rfl⟩ := h; exact k)
abbrev K_X7_before (l : Launch) (E : jE) (as : List Value) (M : jM) (v : Int32) (M' : jM) : Prop := CI l E 1 yX7_before cX7_before 4 (some .int) as M v M'
theorem ky_X7_before : jy yX7_before cX7_before 4 (some .int) 1 := ⟨wC_yX7_before, wN_RX7, ⟨by decide +kernel, by decide +kernel, by decide +kernel⟩, by decide⟩
theorem V_X7_before (C : jK l E X own cc nL d) {i : Nat} {p0 : Int32} {v : Int32} {M' : jM} (hM : K_X7_before l E [.ref (ja E 59), .int p0] M v M') (hw : Cond.methodLink own i yX7_before ∈ W0) (hdd : 1 < d) (hd : decode cc pc = .ok (.invokevirtual i, 3)) (hn : lv.length = nL) (hcat : (st.map fun v => v.category).sum ≤ 8) (k : J E X (pc + 3) lv (.int v :: st) M') : J E X pc lv (.int p0 :: .ref (ja E 59) :: st) M := J_callV C (T := TX7) (N := 10) hM ky_X7_before wI_yX7_before wE_yX7_before rfl hw jL_X7 rfl hdd hd hn rfl hcat (fun r m h => by obtain ⟨rfl, rfl⟩ := h; exact k)
abbrev K_X7_shownBy (l : Launch) (E : jE) (as : List Value) (M : jM) (v : Int32) (M' : jM) : Prop := CI l E 1 yX7_shownBy cX7_shownBy 4 (some .int) as M v M'
theorem ky_X7_shownBy : jy yX7_shownBy cX7_shownBy 4 (some .int) 1 := ⟨wC_yX7_shownBy, wN_RX7, ⟨by decide +kernel, by decide +kernel, by decide +kernel⟩, by decide⟩
theorem V_X7_shownBy (C : jK l E X own cc nL d) {i : Nat} {p0 : Int32} {v : Int32} {M' : jM} (hM : K_X7_shownBy l E [.ref (ja E 59), .int p0] M v M') (hw : Cond.methodLink own i yX7_shownBy ∈ W0) (hdd : 1 < d) (hd : decode cc pc = .ok (.invokevirtual i, 3)) (hn : lv.length = nL) (hcat : (st.map fun v => v.category).sum ≤ 8) (k : J E X (pc + 3) lv (.int v :: st) M') : J E X pc lv (.int p0 :: .ref (ja E 59) :: st) M := J_callV C (T := TX7) (N := 10) hM ky_X7_shownBy wI_yX7_shownBy wE_yX7_shownBy rfl hw jL_X7 rfl hdd hd hn rfl hcat (fun r m h => by obtain ⟨rfl, rfl⟩ := h; exact k)
abbrev K_X7_ahead (l : Launch) (E : jE) (as : List Value) (M : jM) (v : Int32) (M' : jM) : Prop := CI l E 4 yX7_ahead cX7_ahead 4 (some .int) as M v M'
theorem ky_X7_ahead : jy yX7_ahead cX7_ahead 4 (some .int) 2 := ⟨wC_yX7_ahead, wN_RX7, ⟨by decide +kernel, by decide +kernel, by decide +kernel⟩, by decide⟩
theorem V_X7_ahead (C : jK l E X own cc nL d) {i : Nat} {p0 : Int32} {p1 : Int32} {v : Int32} {M' : jM} (hM : K_X7_ahead l E [.ref (ja E 59), .int p0, .int p1] M v M') (hw : Cond.methodLink own i yX7_ahead ∈ W0) (hdd : 4 < d) (hd : decode cc pc = .ok (.invokevirtual i, 3)) (hn : lv.length = nL) (hcat : (st.map fun v => v.category).sum ≤ 8) (k : J E X (pc + 3) lv (.int v :: st) M') : J E X pc lv (.int p1 :: .int p0 :: .ref (ja E 59) :: st) M := J_callV C (T := TX7) (N := 10) hM ky_X7_ahead wI_yX7_ahead wE_yX7_ahead rfl hw jL_X7 rfl hdd hd hn rfl hcat (fun r m h => by obtain ⟨rfl, rfl⟩ := h; exact k)
abbrev K_X7_comes (l : Launch) (E : jE) (as : List Value) (M : jM) (v : Int32) (M' : jM) : Prop := CI l E 5 yX7_comes cX7_comes 3 (some .int) as M v M'
theorem ky_X7_comes : jy yX7_comes cX7_comes 3 (some .int) 2 := ⟨wC_yX7_comes, wN_RX7, ⟨by decide +kernel, by decide +kernel, by decide +kernel⟩, by decide⟩
theorem V_X7_comes (C : jK l E X own cc nL d) {i : Nat} {p0 : Int32} {p1 : Int32} {v : Int32} {M' : jM} (hM : K_X7_comes l E [.ref (ja E 59), .int p0, .int p1] M v M') (hw : Cond.methodLink own i yX7_comes ∈ W0) (hdd : 5 < d) (hd : decode cc pc = .ok (.invokevirtual i, 3)) (hn : lv.length = nL) (hcat : (st.map fun v => v.category).sum ≤ 8) (k : J E X (pc + 3) lv (.int v :: st) M') : J E X pc lv (.int p1 :: .int p0 :: .ref (ja E 59) :: st) M := J_callV C (T := TX7) (N := 10) hM ky_X7_comes wI_yX7_comes wE_yX7_comes rfl hw jL_X7 rfl hdd hd hn rfl hcat (fun r m h => by obtain ⟨rfl, rfl⟩ := h; exact k)
abbrev K_X7_seen (l : Launch) (E : jE) (as : List Value) (M : jM) (v : Int32) (M' : jM) : Prop := CI l E 5 yX7_seen cX7_seen 3 (some .int) as M v M'
theorem ky_X7_seen : jy yX7_seen cX7_seen 3 (some .int) 2 := ⟨wC_yX7_seen, wN_RX7, ⟨by decide +kernel, by decide +kernel, by decide +kernel⟩, by decide⟩
theorem V_X7_seen (C : jK l E X own cc nL d) {i : Nat} {p0 : Int32} {p1 : Int32} {v : Int32} {M' : jM} (hM : K_X7_seen l E [.ref (ja E 59), .int p0, .int p1] M v M') (hw : Cond.methodLink own i yX7_seen ∈ W0) (hdd : 5 < d) (hd : decode cc pc = .ok (.invokevirtual i, 3)) (hn : lv.length = nL) (hcat : (st.map fun v => v.category).sum ≤ 8) (k : J E X (pc + 3) lv (.int v :: st) M') : J E X pc lv (.int p1 :: .int p0 :: .ref (ja E 59) :: st) M := J_callV C (T := TX7) (N := 10) hM ky_X7_seen wI_yX7_seen wE_yX7_seen rfl hw jL_X7 rfl hdd hd hn rfl hcat (fun r m h => by obtain ⟨rfl, rfl⟩ := h; exact k)
abbrev K_X7_meet (l : Launch) (E : jE) (as : List Value) (M : jM) (v : Int32) (M' : jM) : Prop := CI l E 5 yX7_meet cX7_meet 3 (some .int) as M v M'
theorem ky_X7_meet : jy yX7_meet cX7_meet 3 (some .int) 2 := ⟨wC_yX7_meet, wN_RX7, ⟨by decide +kernel, by decide +kernel, by decide +kernel⟩, by decide⟩
theorem V_X7_meet (C : jK l E X own cc nL d) {i : Nat} {p0 : Int32} {p1 : Int32} {v : Int32} {M' : jM} (hM : K_X7_meet l E [.ref (ja E 59), .int p0, .int p1] M v M') (hw : Cond.methodLink own i yX7_meet ∈ W0) (hdd : 5 < d) (hd : decode cc pc = .ok (.invokevirtual i, 3)) (hn : lv.length = nL) (hcat : (st.map fun v => v.category).sum ≤ 8) (k : J E X (pc + 3) lv (.int v :: st) M') : J E X pc lv (.int p1 :: .int p0 :: .ref (ja E 59) :: st) M := J_callV C (T := TX7) (N := 10) hM ky_X7_meet wI_yX7_meet wE_yX7_meet rfl hw jL_X7 rfl hdd hd hn rfl hcat (fun r m h => by obtain ⟨rfl, rfl⟩ := h; exact k)
abbrev K_X7_cast (l : Launch) (E : jE) (as : List Value) (M : jM) (v : Int32) (M' : jM) : Prop := CI l E 5 yX7_cast cX7_cast 3 (some .int) as M v M'
theorem ky_X7_cast : jy yX7_cast cX7_cast 3 (some .int) 2 := ⟨wC_yX7_cast, wN_RX7, ⟨by decide +kernel, by decide +kernel, by decide +kernel⟩, by decide⟩
theorem V_X7_cast (C : jK l E X own cc nL d) {i : Nat} {p0 : Int32} {p1 : Int32} {v : Int32} {M' : jM} (hM : K_X7_cast l E [.ref (ja E 59), .int p0, .int p1] M v M') (hw : Cond.methodLink own i yX7_cast ∈ W0) (hdd : 5 < d) (hd : decode cc pc = .ok (.invokevirtual i, 3)) (hn : lv.length = nL) (hcat : (st.map fun v => v.category).sum ≤ 8) (k : J E X (pc + 3) lv (.int v :: st) M') : J E X pc lv (.int p1 :: .int p0 :: .ref (ja E 59) :: st) M := J_callV C (T := TX7) (N := 10) hM ky_X7_cast wI_yX7_cast wE_yX7_cast rfl hw jL_X7 rfl hdd hd hn rfl hcat (fun r m h => by obtain ⟨rfl, rfl⟩ := h; exact k)
abbrev K_X7_kindFor (l : Launch) (E : jE) (as : List Value) (M : jM) (v : Int32) (M' : jM) : Prop := CI l E 5 yX7_kindFor cX7_kindFor 6 (some .int) as M v M'
theorem ky_X7_kindFor : jy yX7_kindFor cX7_kindFor 6 (some .int) 1 := ⟨wC_yX7_kindFor, wN_RX7, ⟨by decide +kernel, by decide +kernel, by decide +kernel⟩, by decide⟩
theorem V_X7_kindFor (C : jK l E X own cc nL d) {i : Nat} {p0 : Int32} {v : Int32} {M' : jM} (hM : K_X7_kindFor l E [.ref (ja E 59), .int p0] M v M') (hw : Cond.methodLink own i yX7_kindFor ∈ W0) (hdd : 5 < d) (hd : decode cc pc = .ok (.invokevirtual i, 3)) (hn : lv.length = nL) (hcat : (st.map fun v => v.category).sum ≤ 8) (k : J E X (pc + 3) lv (.int v :: st) M') : J E X pc lv (.int p0 :: .ref (ja E 59) :: st) M := J_callV C (T := TX7) (N := 10) hM ky_X7_kindFor wI_yX7_kindFor wE_yX7_kindFor rfl hw jL_X7 rfl hdd hd hn rfl hcat (fun r m h => by obtain ⟨rfl, rfl⟩ := h; exact k)
abbrev K_X7_fits (l : Launch) (E : jE) (as : List Value) (M : jM) (v : Int32) (M' : jM) : Prop := CI l E 6 yX7_fits cX7_fits 4 (some .int) as M v M'
theorem ky_X7_fits : jy yX7_fits cX7_fits 4 (some .int) 2 := ⟨wC_yX7_fits, wN_RX7, ⟨by decide +kernel, by decide +kernel, by decide +kernel⟩, by decide⟩
theorem V_X7_fits (C : jK l E X own cc nL d) {i : Nat} {p0 : Int32} {p1 : Int32} {v : Int32} {M' : jM} (hM : K_X7_fits l E [.ref (ja E 59), .int p0, .int p1] M v M') (hw : Cond.methodLink own i yX7_fits ∈ W0) (hdd : 6 < d) (hd : decode cc pc = .ok (.invokevirtual i, 3)) (hn : lv.length = nL) (hcat : (st.map fun v => v.category).sum ≤ 8) (k : J E X (pc + 3) lv (.int v :: st) M') : J E X pc lv (.int p1 :: .int p0 :: .ref (ja E 59) :: st) M := J_callV C (T := TX7) (N := 10) hM ky_X7_fits wI_yX7_fits wE_yX7_fits rfl hw jL_X7 rfl hdd hd hn rfl hcat (fun r m h => by obtain ⟨rfl, rfl⟩ := h; exact k)
abbrev K_X7_lens (l : Launch) (E : jE) (as : List Value) (M : jM) (v : Int32) (M' : jM) : Prop := CI l E 6 yX7_lens cX7_lens 5 (some .int) as M v M'
theorem ky_X7_lens : jy yX7_lens cX7_lens 5 (some .int) 2 := ⟨wC_yX7_lens, wN_RX7, ⟨by decide +kernel, by decide +kernel, by decide +kernel⟩, by decide⟩
theorem V_X7_lens (C : jK l E X own cc nL d) {i : Nat} {p0 : Int32} {p1 : Int32} {v : Int32} {M' : jM} (hM : K_X7_lens l E [.ref (ja E 59), .int p0, .int p1] M v M') (hw : Cond.methodLink own i yX7_lens ∈ W0) (hdd : 6 < d) (hd : decode cc pc = .ok (.invokevirtual i, 3)) (hn : lv.length = nL) (hcat : (st.map fun v => v.category).sum ≤ 8) (k : J E X (pc + 3) lv (.int v :: st) M') : J E X pc lv (.int p1 :: .int p0 :: .ref (ja E 59) :: st) M := J_callV C (T := TX7) (N := 10) hM ky_X7_lens wI_yX7_lens wE_yX7_lens rfl hw jL_X7 rfl hdd hd hn rfl hcat (fun r m h => by obtain ⟨rfl, rfl⟩ := h; exact k)
abbrev K_X7_which (l : Launch) (E : jE) (as : List Value) (M : jM) (v : Int32) (M' : jM) : Prop := CI l E 5 yX7_which cX7_which 3 (some .int) as M v M'
theorem ky_X7_which : jy yX7_which cX7_which 3 (some .int) 1 := ⟨wC_yX7_which, wN_RX7, ⟨by decide +kernel, by decide +kernel, by decide +kernel⟩, by decide⟩
theorem V_X7_which (C : jK l E X own cc nL d) {i : Nat} {p0 : Int32} {v : Int32} {M' : jM} (hM : K_X7_which l E [.ref (ja E 59), .int p0] M v M') (hw : Cond.methodLink own i yX7_which ∈ W0) (hdd : 5 < d) (hd : decode cc pc = .ok (.invokevirtual i, 3)) (hn : lv.length = nL) (hcat : (st.map fun v => v.category).sum ≤ 8) (k : J E X (pc + 3) lv (.int v :: st) M') : J E X pc lv (.int p0 :: .ref (ja E 59) :: st) M := J_callV C (T := TX7) (N := 10) hM ky_X7_which wI_yX7_which wE_yX7_which rfl hw jL_X7 rfl hdd hd hn rfl hcat (fun r m h => by obtain ⟨rfl, rfl⟩ := h; exact k)
abbrev K_X7_eyes (l : Launch) (E : jE) (as : List Value) (M : jM) (v : Int32) (M' : jM) : Prop := CI l E 1 yX7_eyes cX7_eyes 5 (some .int) as M v M'
theorem ky_X7_eyes : jy yX7_eyes cX7_eyes 5 (some .int) 0 := ⟨wC_yX7_eyes, wN_RX7, ⟨by decide +kernel, by decide +kernel, by decide +kernel⟩, by decide⟩
theorem V_X7_eyes (C : jK l E X own cc nL d) {i : Nat}  {v : Int32} {M' : jM} (hM : K_X7_eyes l E [.ref (ja E 59)] M v M') (hw : Cond.methodLink own i yX7_eyes ∈ W0) (hdd : 1 < d) (hd : decode cc pc = .ok (.invokevirtual i, 3)) (hn : lv.length = nL) (hcat : (st.map fun v => v.category).sum ≤ 8) (k : J E X (pc + 3) lv (.int v :: st) M') : J E X pc lv (.ref (ja E 59) :: st) M := J_callV C (T := TX7) (N := 10) hM ky_X7_eyes wI_yX7_eyes wE_yX7_eyes rfl hw jL_X7 rfl hdd hd hn rfl hcat (fun r m h => by obtain ⟨rfl, rfl⟩ := h; exact k)
abbrev K_X7_dredge (l : Launch) (E : jE) (as : List Value) (M : jM) (v : Int32) (M' : jM) : Prop := CI l E 1 yX7_dredge cX7_dredge 7 (some .int) as M v M'
theorem ky_X7_dredge : jy yX7_dredge cX7_dredge 7 (some .int) 2 := ⟨wC_yX7_dredge, wN_RX7, ⟨by decide +kernel, by decide +kernel, by decide +kernel⟩, by decide⟩
theorem V_X7_dredge (C : jK l E X own cc nL d) {i : Nat} {p0 : Int32} {p1 : Int32} {v : Int32} {M' : jM} (hM : K_X7_dredge l E [.ref (ja E 59), .int p0, .int p1] M v M') (hw : Cond.methodLink own i yX7_dredge ∈ W0) (hdd : 1 < d) (hd : decode cc pc = .ok (.invokevirtual i, 3)) (hn : lv.length = nL) (hcat : (st.map fun v => v.category).sum ≤ 8) (k : J E X (pc + 3) lv (.int v :: st) M') : J E X pc lv (.int p1 :: .int p0 :: .ref (ja E 59) :: st) M := J_callV C (T := TX7) (N := 10) hM ky_X7_dredge wI_yX7_dredge wE_yX7_dredge rfl hw jL_X7 rfl hdd hd hn rfl hcat (fun r m h => by obtain ⟨rfl, rfl⟩ := h; exact k)
abbrev K_X7_watch (l : Launch) (E : jE) (as : List Value) (M : jM) (v : Int32) (M' : jM) : Prop := CI l E 5 yX7_watch cX7_watch 2 (some .int) as M v M'
theorem ky_X7_watch : jy yX7_watch cX7_watch 2 (some .int) 1 := ⟨wC_yX7_watch, wN_RX7, ⟨by decide +kernel, by decide +kernel, by decide +kernel⟩, by decide⟩
theorem V_X7_watch (C : jK l E X own cc nL d) {i : Nat} {p0 : Int32} {v : Int32} {M' : jM} (hM : K_X7_watch l E [.ref (ja E 59), .int p0] M v M') (hw : Cond.methodLink own i yX7_watch ∈ W0) (hdd : 5 < d) (hd : decode cc pc = .ok (.invokevirtual i, 3)) (hn : lv.length = nL) (hcat : (st.map fun v => v.category).sum ≤ 8) (k : J E X (pc + 3) lv (.int v :: st) M') : J E X pc lv (.int p0 :: .ref (ja E 59) :: st) M := J_callV C (T := TX7) (N := 10) hM ky_X7_watch wI_yX7_watch wE_yX7_watch rfl hw jL_X7 rfl hdd hd hn rfl hcat (fun r m h => by obtain ⟨rfl, rfl⟩ := h; exact k)
abbrev K_X7_falls (l : Launch) (E : jE) (as : List Value) (M : jM) (v : Int32) (M' : jM) : Prop := CI l E 4 yX7_falls cX7_falls 4 (some .int) as M v M'
theorem ky_X7_falls : jy yX7_falls cX7_falls 4 (some .int) 1 := ⟨wC_yX7_falls, wN_RX7, ⟨by decide +kernel, by decide +kernel, by decide +kernel⟩, by decide⟩
theorem V_X7_falls (C : jK l E X own cc nL d) {i : Nat} {p0 : Int32} {v : Int32} {M' : jM} (hM : K_X7_falls l E [.ref (ja E 59), .int p0] M v M') (hw : Cond.methodLink own i yX7_falls ∈ W0) (hdd : 4 < d) (hd : decode cc pc = .ok (.invokevirtual i, 3)) (hn : lv.length = nL) (hcat : (st.map fun v => v.category).sum ≤ 8) (k : J E X (pc + 3) lv (.int v :: st) M') : J E X pc lv (.int p0 :: .ref (ja E 59) :: st) M := J_callV C (T := TX7) (N := 10) hM ky_X7_falls wI_yX7_falls wE_yX7_falls rfl hw jL_X7 rfl hdd hd hn rfl hcat (fun r m h => by obtain ⟨rfl, rfl⟩ := h; exact k)
abbrev K_X7_odds (l : Launch) (E : jE) (as : List Value) (M : jM) (v : Int64) (M' : jM) : Prop := CL l E 2 yX7_odds cX7_odds 9 (some .long) as M v M'
theorem ky_X7_odds : jy yX7_odds cX7_odds 9 (some .long) 2 := ⟨wC_yX7_odds, wN_RX7, ⟨by decide +kernel, by decide +kernel, by decide +kernel⟩, by decide⟩
theorem V_X7_odds (C : jK l E X own cc nL d) {i : Nat} {p0 : Int32} {p1 : Int32} {v : Int64} {M' : jM} (hM : K_X7_odds l E [.ref (ja E 59), .int p0, .int p1] M v M') (hw : Cond.methodLink own i yX7_odds ∈ W0) (hdd : 2 < d) (hd : decode cc pc = .ok (.invokevirtual i, 3)) (hn : lv.length = nL) (hcat : (st.map fun v => v.category).sum ≤ 8) (k : J E X (pc + 3) lv (.long v :: st) M') : J E X pc lv (.int p1 :: .int p0 :: .ref (ja E 59) :: st) M := J_callV C (T := TX7) (N := 10) hM ky_X7_odds wI_yX7_odds wE_yX7_odds rfl hw jL_X7 rfl hdd hd hn rfl hcat (fun r m h => by obtain ⟨rfl, rfl⟩ := h; exact k)
abbrev K_X7_seed (l : Launch) (E : jE) (as : List Value) (M : jM) (v : Int32) (M' : jM) : Prop := CI l E 0 yX7_seed cX7_seed 3 (some .int) as M v M'
theorem ky_X7_seed : jy yX7_seed cX7_seed 3 (some .int) 1 := ⟨wC_yX7_seed, wN_RX7, ⟨by decide +kernel, by decide +kernel, by decide +kernel⟩, by decide⟩
theorem V_X7_seed (C : jK l E X own cc nL d) {i : Nat} {p0 : Int32} {v : Int32} {M' : jM} (hM : K_X7_seed l E [.ref (ja E 59), .int p0] M v M') (hw : Cond.methodLink own i yX7_seed ∈ W0) (hdd : 0 < d) (hd : decode cc pc = .ok (.invokevirtual i, 3)) (hn : lv.length = nL) (hcat : (st.map fun v => v.category).sum ≤ 8) (k : J E X (pc + 3) lv (.int v :: st) M') : J E X pc lv (.int p0 :: .ref (ja E 59) :: st) M := J_callV C (T := TX7) (N := 10) hM ky_X7_seed wI_yX7_seed wE_yX7_seed rfl hw jL_X7 rfl hdd hd hn rfl hcat (fun r m h => by obtain ⟨rfl, rfl⟩ := h; exact k)
abbrev K_X7_feed (l : Launch) (E : jE) (as : List Value) (M : jM) (v : Int32) (M' : jM) : Prop := CI l E 1 yX7_feed cX7_feed 4 (some .int) as M v M'
theorem ky_X7_feed : jy yX7_feed cX7_feed 4 (some .int) 2 := ⟨wC_yX7_feed, wN_RX7, ⟨by decide +kernel, by decide +kernel, by decide +kernel⟩, by decide⟩
theorem V_X7_feed (C : jK l E X own cc nL d) {i : Nat} {p0 : Int32} {p1 : Int32} {v : Int32} {M' : jM} (hM : K_X7_feed l E [.ref (ja E 59), .int p0, .int p1] M v M') (hw : Cond.methodLink own i yX7_feed ∈ W0) (hdd : 1 < d) (hd : decode cc pc = .ok (.invokevirtual i, 3)) (hn : lv.length = nL) (hcat : (st.map fun v => v.category).sum ≤ 8) (k : J E X (pc + 3) lv (.int v :: st) M') : J E X pc lv (.int p1 :: .int p0 :: .ref (ja E 59) :: st) M := J_callV C (T := TX7) (N := 10) hM ky_X7_feed wI_yX7_feed wE_yX7_feed rfl hw jL_X7 rfl hdd hd hn rfl hcat (fun r m h => by obtain ⟨rfl, rfl⟩ := h; exact k)
abbrev K_X7_wipe (l : Launch) (E : jE) (as : List Value) (M : jM) (v : Int32) (M' : jM) : Prop := CI l E 0 yX7_wipe cX7_wipe 2 (some .int) as M v M'
theorem ky_X7_wipe : jy yX7_wipe cX7_wipe 2 (some .int) 0 := ⟨wC_yX7_wipe, wN_RX7, ⟨by decide +kernel, by decide +kernel, by decide +kernel⟩, by decide⟩
theorem V_X7_wipe (C : jK l E X own cc nL d) {i : Nat}  {v : Int32} {M' : jM} (hM : K_X7_wipe l E [.ref (ja E 59)] M v M') (hw : Cond.methodLink own i yX7_wipe ∈ W0) (hdd : 0 < d) (hd : decode cc pc = .ok (.invokevirtual i, 3)) (hn : lv.length = nL) (hcat : (st.map fun v => v.category).sum ≤ 8) (k : J E X (pc + 3) lv (.int v :: st) M') : J E X pc lv (.ref (ja E 59) :: st) M := J_callV C (T := TX7) (N := 10) hM ky_X7_wipe wI_yX7_wipe wE_yX7_wipe rfl hw jL_X7 rfl hdd hd hn rfl hcat (fun r m h => by obtain ⟨rfl, rfl⟩ := h; exact k)
abbrev K_X7_text (l : Launch) (E : jE) (as : List Value) (M : jM) (v : Int32) (M' : jM) : Prop := CI l E 11 yX7_text cX7_text 2 (some .int) as M v M'
theorem ky_X7_text : jy yX7_text cX7_text 2 (some .int) 0 := ⟨wC_yX7_text, wN_RX7, ⟨by decide +kernel, by decide +kernel, by decide +kernel⟩, by decide⟩
theorem V_X7_text (C : jK l E X own cc nL d) {i : Nat}  {v : Int32} {M' : jM} (hM : K_X7_text l E [.ref (ja E 59)] M v M') (hw : Cond.methodLink own i yX7_text ∈ W0) (hdd : 11 < d) (hd : decode cc pc = .ok (.invokevirtual i, 3)) (hn : lv.length = nL) (hcat : (st.map fun v => v.category).sum ≤ 8) (k : J E X (pc + 3) lv (.int v :: st) M') : J E X pc lv (.ref (ja E 59) :: st) M := J_callV C (T := TX7) (N := 10) hM ky_X7_text wI_yX7_text wE_yX7_text rfl hw jL_X7 rfl hdd hd hn rfl hcat (fun r m h => by obtain ⟨rfl, rfl⟩ := h; exact k)
abbrev K_X7_hold (l : Launch) (E : jE) (as : List Value) (M : jM) (v : Int32) (M' : jM) : Prop := CI l E 1 yX7_hold cX7_hold 3 (some .int) as M v M'
theorem ky_X7_hold : jy yX7_hold cX7_hold 3 (some .int) 2 := ⟨wC_yX7_hold, wN_RX7, ⟨by decide +kernel, by decide +kernel, by decide +kernel⟩, by decide⟩
theorem V_X7_hold (C : jK l E X own cc nL d) {i : Nat} {p0 : Int32} {p1 : Int32} {v : Int32} {M' : jM} (hM : K_X7_hold l E [.ref (ja E 59), .int p0, .int p1] M v M') (hw : Cond.methodLink own i yX7_hold ∈ W0) (hdd : 1 < d) (hd : decode cc pc = .ok (.invokevirtual i, 3)) (hn : lv.length = nL) (hcat : (st.map fun v => v.category).sum ≤ 8) (k : J E X (pc + 3) lv (.int v :: st) M') : J E X pc lv (.int p1 :: .int p0 :: .ref (ja E 59) :: st) M := J_callV C (T := TX7) (N := 10) hM ky_X7_hold wI_yX7_hold wE_yX7_hold rfl hw jL_X7 rfl hdd hd hn rfl hcat (fun r m h => by obtain ⟨rfl, rfl⟩ := h; exact k)
abbrev K_X7_as (l : Launch) (E : jE) (as : List Value) (M : jM) (v : Int32) (M' : jM) : Prop := CI l E 1 yX7_as cX7_as 4 (some .int) as M v M'
theorem ky_X7_as : jy yX7_as cX7_as 4 (some .int) 2 := ⟨wC_yX7_as, wN_RX7, ⟨by decide +kernel, by decide +kernel, by decide +kernel⟩, by decide⟩
theorem V_X7_as (C : jK l E X own cc nL d) {i : Nat} {p0 : Int32} {p1 : Int32} {v : Int32} {M' : jM} (hM : K_X7_as l E [.ref (ja E 59), .int p0, .int p1] M v M') (hw : Cond.methodLink own i yX7_as ∈ W0) (hdd : 1 < d) (hd : decode cc pc = .ok (.invokevirtual i, 3)) (hn : lv.length = nL) (hcat : (st.map fun v => v.category).sum ≤ 8) (k : J E X (pc + 3) lv (.int v :: st) M') : J E X pc lv (.int p1 :: .int p0 :: .ref (ja E 59) :: st) M := J_callV C (T := TX7) (N := 10) hM ky_X7_as wI_yX7_as wE_yX7_as rfl hw jL_X7 rfl hdd hd hn rfl hcat (fun r m h => by obtain ⟨rfl, rfl⟩ := h; exact k)
abbrev K_X7_sheet (l : Launch) (E : jE) (as : List Value) (M : jM) (v : Int32) (M' : jM) : Prop := CI l E 1 yX7_sheet cX7_sheet 4 (some .int) as M v M'
theorem ky_X7_sheet : jy yX7_sheet cX7_sheet 4 (some .int) 3 := ⟨wC_yX7_sheet, wN_RX7, ⟨by decide +kernel, by decide +kernel, by decide +kernel⟩, by decide⟩
theorem V_X7_sheet (C : jK l E X own cc nL d) {i : Nat} {p0 : Int32} {p1 : Int32} {p2 : Int32} {v : Int32} {M' : jM} (hM : K_X7_sheet l E [.ref (ja E 59), .int p0, .int p1, .int p2] M v M') (hw : Cond.methodLink own i yX7_sheet ∈ W0) (hdd : 1 < d) (hd : decode cc pc = .ok (.invokevirtual i, 3)) (hn : lv.length = nL) (hcat : (st.map fun v => v.category).sum ≤ 8) (k : J E X (pc + 3) lv (.int v :: st) M') : J E X pc lv (.int p2 :: .int p1 :: .int p0 :: .ref (ja E 59) :: st) M := J_callV C (T := TX7) (N := 10) hM ky_X7_sheet wI_yX7_sheet wE_yX7_sheet rfl hw jL_X7 rfl hdd hd hn rfl hcat (fun r m h => by obtain ⟨rfl, rfl⟩ := h; exact k)
abbrev K_X7_write (l : Launch) (E : jE) (as : List Value) (M : jM) (v : Int32) (M' : jM) : Prop := CI l E 2 yX7_write cX7_write 5 (some .int) as M v M'
theorem ky_X7_write : jy yX7_write cX7_write 5 (some .int) 3 := ⟨wC_yX7_write, wN_RX7, ⟨by decide +kernel, by decide +kernel, by decide +kernel⟩, by decide⟩
theorem V_X7_write (C : jK l E X own cc nL d) {i : Nat} {p0 : Int32} {p1 : Int32} {p2 : Int32} {v : Int32} {M' : jM} (hM : K_X7_write l E [.ref (ja E 59), .int p0, .int p1, .int p2] M v M') (hw : Cond.methodLink own i yX7_write ∈ W0) (hdd : 2 < d) (hd : decode cc pc = .ok (.invokevirtual i, 3)) (hn : lv.length = nL) (hcat : (st.map fun v => v.category).sum ≤ 8) (k : J E X (pc + 3) lv (.int v :: st) M') : J E X pc lv (.int p2 :: .int p1 :: .int p0 :: .ref (ja E 59) :: st) M := J_callV C (T := TX7) (N := 10) hM ky_X7_write wI_yX7_write wE_yX7_write rfl hw jL_X7 rfl hdd hd hn rfl hcat (fun r m h => by obtain ⟨rfl, rfl⟩ := h; exact k)
abbrev K_X7_copy (l : Launch) (E : jE) (as : List Value) (M : jM) (v : Int32) (M' : jM) : Prop := CI l E 1 yX7_copy cX7_copy 8 (some .int) as M v M'
theorem ky_X7_copy : jy yX7_copy cX7_copy 8 (some .int) 5 := ⟨wC_yX7_copy, wN_RX7, ⟨by decide +kernel, by decide +kernel, by decide +kernel⟩, by decide⟩
theorem V_X7_copy (C : jK l E X own cc nL d) {i : Nat} {p0 : Int32} {p1 : Int32} {p2 : Int32} {p3 : Int32} {p4 : Int32} {v : Int32} {M' : jM} (hM : K_X7_copy l E [.ref (ja E 59), .int p0, .int p1, .int p2, .int p3, .int p4] M v M') (hw : Cond.methodLink own i yX7_copy ∈ W0) (hdd : 1 < d) (hd : decode cc pc = .ok (.invokevirtual i, 3)) (hn : lv.length = nL) (hcat : (st.map fun v => v.category).sum ≤ 8) (k : J E X (pc + 3) lv (.int v :: st) M') : J E X pc lv (.int p4 :: .int p3 :: .int p2 :: .int p1 :: .int p0 :: .ref (ja E 59) :: st) M := J_callV C (T := TX7) (N := 10) hM ky_X7_copy wI_yX7_copy wE_yX7_copy rfl hw jL_X7 rfl hdd hd hn rfl hcat (fun r m h => by obtain ⟨rfl, rfl⟩ := h; exact k)
abbrev K_X7_load (l : Launch) (E : jE) (as : List Value) (M : jM) (v : Int32) (M' : jM) : Prop := CI l E 2 yX7_load cX7_load 5 (some .int) as M v M'
theorem ky_X7_load : jy yX7_load cX7_load 5 (some .int) 1 := ⟨wC_yX7_load, wN_RX7, ⟨by decide +kernel, by decide +kernel, by decide +kernel⟩, by decide⟩
theorem V_X7_load (C : jK l E X own cc nL d) {i : Nat} {p0 : Int32} {v : Int32} {M' : jM} (hM : K_X7_load l E [.ref (ja E 59), .int p0] M v M') (hw : Cond.methodLink own i yX7_load ∈ W0) (hdd : 2 < d) (hd : decode cc pc = .ok (.invokevirtual i, 3)) (hn : lv.length = nL) (hcat : (st.map fun v => v.category).sum ≤ 8) (k : J E X (pc + 3) lv (.int v :: st) M') : J E X pc lv (.int p0 :: .ref (ja E 59) :: st) M := J_callV C (T := TX7) (N := 10) hM ky_X7_load wI_yX7_load wE_yX7_load rfl hw jL_X7 rfl hdd hd hn rfl hcat (fun r m h => by obtain ⟨rfl, rfl⟩ := h; exact k)
abbrev K_X7_judge (l : Launch) (E : jE) (as : List Value) (M : jM) (v : Int32) (M' : jM) : Prop := CI l E 2 yX7_judge cX7_judge 6 (some .int) as M v M'
theorem ky_X7_judge : jy yX7_judge cX7_judge 6 (some .int) 1 := ⟨wC_yX7_judge, wN_RX7, ⟨by decide +kernel, by decide +kernel, by decide +kernel⟩, by decide⟩
theorem V_X7_judge (C : jK l E X own cc nL d) {i : Nat} {p0 : Int32} {v : Int32} {M' : jM} (hM : K_X7_judge l E [.ref (ja E 59), .int p0] M v M') (hw : Cond.methodLink own i yX7_judge ∈ W0) (hdd : 2 < d) (hd : decode cc pc = .ok (.invokevirtual i, 3)) (hn : lv.length = nL) (hcat : (st.map fun v => v.category).sum ≤ 8) (k : J E X (pc + 3) lv (.int v :: st) M') : J E X pc lv (.int p0 :: .ref (ja E 59) :: st) M := J_callV C (T := TX7) (N := 10) hM ky_X7_judge wI_yX7_judge wE_yX7_judge rfl hw jL_X7 rfl hdd hd hn rfl hcat (fun r m h => by obtain ⟨rfl, rfl⟩ := h; exact k)
abbrev K_X7_image (l : Launch) (E : jE) (as : List Value) (M : jM) (v : Int32) (M' : jM) : Prop := CI l E 2 yX7_image cX7_image 1 (some .int) as M v M'
theorem ky_X7_image : jy yX7_image cX7_image 1 (some .int) 0 := ⟨wC_yX7_image, wN_RX7, ⟨by decide +kernel, by decide +kernel, by decide +kernel⟩, by decide⟩
theorem V_X7_image (C : jK l E X own cc nL d) {i : Nat}  {v : Int32} {M' : jM} (hM : K_X7_image l E [.ref (ja E 59)] M v M') (hw : Cond.methodLink own i yX7_image ∈ W0) (hdd : 2 < d) (hd : decode cc pc = .ok (.invokevirtual i, 3)) (hn : lv.length = nL) (hcat : (st.map fun v => v.category).sum ≤ 8) (k : J E X (pc + 3) lv (.int v :: st) M') : J E X pc lv (.ref (ja E 59) :: st) M := J_callV C (T := TX7) (N := 10) hM ky_X7_image wI_yX7_image wE_yX7_image rfl hw jL_X7 rfl hdd hd hn rfl hcat (fun r m h => by obtain ⟨rfl, rfl⟩ := h; exact k)
abbrev K_X7_undo (l : Launch) (E : jE) (as : List Value) (M : jM) (v : Int32) (M' : jM) : Prop := CI l E 2 yX7_undo cX7_undo 1 (some .int) as M v M'
theorem ky_X7_undo : jy yX7_undo cX7_undo 1 (some .int) 0 := ⟨wC_yX7_undo, wN_RX7, ⟨by decide +kernel, by decide +kernel, by decide +kernel⟩, by decide⟩
theorem V_X7_undo (C : jK l E X own cc nL d) {i : Nat}  {v : Int32} {M' : jM} (hM : K_X7_undo l E [.ref (ja E 59)] M v M') (hw : Cond.methodLink own i yX7_undo ∈ W0) (hdd : 2 < d) (hd : decode cc pc = .ok (.invokevirtual i, 3)) (hn : lv.length = nL) (hcat : (st.map fun v => v.category).sum ≤ 8) (k : J E X (pc + 3) lv (.int v :: st) M') : J E X pc lv (.ref (ja E 59) :: st) M := J_callV C (T := TX7) (N := 10) hM ky_X7_undo wI_yX7_undo wE_yX7_undo rfl hw jL_X7 rfl hdd hd hn rfl hcat (fun r m h => by obtain ⟨rfl, rfl⟩ := h; exact k)
abbrev K_X7_tear (l : Launch) (E : jE) (as : List Value) (M : jM) (v : Int32) (M' : jM) : Prop := CI l E 0 yX7_tear cX7_tear 2 (some .int) as M v M'
theorem ky_X7_tear : jy yX7_tear cX7_tear 2 (some .int) 0 := ⟨wC_yX7_tear, wN_RX7, ⟨by decide +kernel, by decide +kernel, by decide +kernel⟩, by decide⟩
theorem V_X7_tear (C : jK l E X own cc nL d) {i : Nat}  {v : Int32} {M' : jM} (hM : K_X7_tear l E [.ref (ja E 59)] M v M') (hw : Cond.methodLink own i yX7_tear ∈ W0) (hdd : 0 < d) (hd : decode cc pc = .ok (.invokevirtual i, 3)) (hn : lv.length = nL) (hcat : (st.map fun v => v.category).sum ≤ 8) (k : J E X (pc + 3) lv (.int v :: st) M') : J E X pc lv (.ref (ja E 59) :: st) M := J_callV C (T := TX7) (N := 10) hM ky_X7_tear wI_yX7_tear wE_yX7_tear rfl hw jL_X7 rfl hdd hd hn rfl hcat (fun r m h => by obtain ⟨rfl, rfl⟩ := h; exact k)
abbrev K_X7_count (l : Launch) (E : jE) (as : List Value) (M : jM) (v : Int32) (M' : jM) : Prop := CI l E 2 yX7_count cX7_count 2 (some .int) as M v M'
theorem ky_X7_count : jy yX7_count cX7_count 2 (some .int) 1 := ⟨wC_yX7_count, wN_RX7, ⟨by decide +kernel, by decide +kernel, by decide +kernel⟩, by decide⟩
theorem V_X7_count (C : jK l E X own cc nL d) {i : Nat} {p0 : Int32} {v : Int32} {M' : jM} (hM : K_X7_count l E [.ref (ja E 59), .int p0] M v M') (hw : Cond.methodLink own i yX7_count ∈ W0) (hdd : 2 < d) (hd : decode cc pc = .ok (.invokevirtual i, 3)) (hn : lv.length = nL) (hcat : (st.map fun v => v.category).sum ≤ 8) (k : J E X (pc + 3) lv (.int v :: st) M') : J E X pc lv (.int p0 :: .ref (ja E 59) :: st) M := J_callV C (T := TX7) (N := 10) hM ky_X7_count wI_yX7_count wE_yX7_count rfl hw jL_X7 rfl hdd hd hn rfl hcat (fun r m h => by obtain ⟨rfl, rfl⟩ := h; exact k)
abbrev K_X7_status (l : Launch) (E : jE) (as : List Value) (M : jM) (v : Int32) (M' : jM) : Prop := CI l E 1 yX7_status cX7_status 7 (some .int) as M v M'
theorem ky_X7_status : jy yX7_status cX7_status 7 (some .int) 1 := ⟨wC_yX7_status, wN_RX7, ⟨by decide +kernel, by decide +kernel, by decide +kernel⟩, by decide⟩
theorem V_X7_status (C : jK l E X own cc nL d) {i : Nat} {p0 : Int32} {v : Int32} {M' : jM} (hM : K_X7_status l E [.ref (ja E 59), .int p0] M v M') (hw : Cond.methodLink own i yX7_status ∈ W0) (hdd : 1 < d) (hd : decode cc pc = .ok (.invokevirtual i, 3)) (hn : lv.length = nL) (hcat : (st.map fun v => v.category).sum ≤ 8) (k : J E X (pc + 3) lv (.int v :: st) M') : J E X pc lv (.int p0 :: .ref (ja E 59) :: st) M := J_callV C (T := TX7) (N := 10) hM ky_X7_status wI_yX7_status wE_yX7_status rfl hw jL_X7 rfl hdd hd hn rfl hcat (fun r m h => by obtain ⟨rfl, rfl⟩ := h; exact k)
abbrev K_X7_finding (l : Launch) (E : jE) (as : List Value) (M : jM) (v : Int32) (M' : jM) : Prop := CI l E 0 yX7_finding cX7_finding 3 (some .int) as M v M'
theorem ky_X7_finding : jy yX7_finding cX7_finding 3 (some .int) 1 := ⟨wC_yX7_finding, wN_RX7, ⟨by decide +kernel, by decide +kernel, by decide +kernel⟩, by decide⟩
theorem V_X7_finding (C : jK l E X own cc nL d) {i : Nat} {p0 : Int32} {v : Int32} {M' : jM} (hM : K_X7_finding l E [.ref (ja E 59), .int p0] M v M') (hw : Cond.methodLink own i yX7_finding ∈ W0) (hdd : 0 < d) (hd : decode cc pc = .ok (.invokevirtual i, 3)) (hn : lv.length = nL) (hcat : (st.map fun v => v.category).sum ≤ 8) (k : J E X (pc + 3) lv (.int v :: st) M') : J E X pc lv (.int p0 :: .ref (ja E 59) :: st) M := J_callV C (T := TX7) (N := 10) hM ky_X7_finding wI_yX7_finding wE_yX7_finding rfl hw jL_X7 rfl hdd hd hn rfl hcat (fun r m h => by obtain ⟨rfl, rfl⟩ := h; exact k)
abbrev K_X7_findingOrAnswer (l : Launch) (E : jE) (as : List Value) (M : jM) (v : Int32) (M' : jM) : Prop := CI l E 1 yX7_findingOrAnswer cX7_findingOrAnswer 2 (some .int) as M v M'
theorem ky_X7_findingOrAnswer : jy yX7_findingOrAnswer cX7_findingOrAnswer 2 (some .int) 1 := ⟨wC_yX7_findingOrAnswer, wN_RX7, ⟨by decide +kernel, by decide +kernel, by decide +kernel⟩, by decide⟩
theorem V_X7_findingOrAnswer (C : jK l E X own cc nL d) {i : Nat} {p0 : Int32} {v : Int32} {M' : jM} (hM : K_X7_findingOrAnswer l E [.ref (ja E 59), .int p0] M v M') (hw : Cond.methodLink own i yX7_findingOrAnswer ∈ W0) (hdd : 1 < d) (hd : decode cc pc = .ok (.invokevirtual i, 3)) (hn : lv.length = nL) (hcat : (st.map fun v => v.category).sum ≤ 8) (k : J E X (pc + 3) lv (.int v :: st) M') : J E X pc lv (.int p0 :: .ref (ja E 59) :: st) M := J_callV C (T := TX7) (N := 10) hM ky_X7_findingOrAnswer wI_yX7_findingOrAnswer wE_yX7_findingOrAnswer rfl hw jL_X7 rfl hdd hd hn rfl hcat (fun r m h => by obtain ⟨rfl, rfl⟩ := h; exact k)
abbrev K_X7_lackOfSheet (l : Launch) (E : jE) (as : List Value) (M : jM) (v : Int32) (M' : jM) : Prop := CI l E 1 yX7_lackOfSheet cX7_lackOfSheet 2 (some .int) as M v M'
theorem ky_X7_lackOfSheet : jy yX7_lackOfSheet cX7_lackOfSheet 2 (some .int) 1 := ⟨wC_yX7_lackOfSheet, wN_RX7, ⟨by decide +kernel, by decide +kernel, by decide +kernel⟩, by decide⟩
theorem V_X7_lackOfSheet (C : jK l E X own cc nL d) {i : Nat} {p0 : Int32} {v : Int32} {M' : jM} (hM : K_X7_lackOfSheet l E [.ref (ja E 59), .int p0] M v M') (hw : Cond.methodLink own i yX7_lackOfSheet ∈ W0) (hdd : 1 < d) (hd : decode cc pc = .ok (.invokevirtual i, 3)) (hn : lv.length = nL) (hcat : (st.map fun v => v.category).sum ≤ 8) (k : J E X (pc + 3) lv (.int v :: st) M') : J E X pc lv (.int p0 :: .ref (ja E 59) :: st) M := J_callV C (T := TX7) (N := 10) hM ky_X7_lackOfSheet wI_yX7_lackOfSheet wE_yX7_lackOfSheet rfl hw jL_X7 rfl hdd hd hn rfl hcat (fun r m h => by obtain ⟨rfl, rfl⟩ := h; exact k)
abbrev K_X7_lackOfSight (l : Launch) (E : jE) (as : List Value) (M : jM) (v : Int32) (M' : jM) : Prop := CI l E 2 yX7_lackOfSight cX7_lackOfSight 4 (some .int) as M v M'
theorem ky_X7_lackOfSight : jy yX7_lackOfSight cX7_lackOfSight 4 (some .int) 2 := ⟨wC_yX7_lackOfSight, wN_RX7, ⟨by decide +kernel, by decide +kernel, by decide +kernel⟩, by decide⟩
theorem V_X7_lackOfSight (C : jK l E X own cc nL d) {i : Nat} {p0 : Int32} {p1 : Int32} {v : Int32} {M' : jM} (hM : K_X7_lackOfSight l E [.ref (ja E 59), .int p0, .int p1] M v M') (hw : Cond.methodLink own i yX7_lackOfSight ∈ W0) (hdd : 2 < d) (hd : decode cc pc = .ok (.invokevirtual i, 3)) (hn : lv.length = nL) (hcat : (st.map fun v => v.category).sum ≤ 8) (k : J E X (pc + 3) lv (.int v :: st) M') : J E X pc lv (.int p1 :: .int p0 :: .ref (ja E 59) :: st) M := J_callV C (T := TX7) (N := 10) hM ky_X7_lackOfSight wI_yX7_lackOfSight wE_yX7_lackOfSight rfl hw jL_X7 rfl hdd hd hn rfl hcat (fun r m h => by obtain ⟨rfl, rfl⟩ := h; exact k)
abbrev K_X7_lensesFor (l : Launch) (E : jE) (as : List Value) (M : jM) (v : Int32) (M' : jM) : Prop := CI l E 5 yX7_lensesFor cX7_lensesFor 5 (some .int) as M v M'
theorem ky_X7_lensesFor : jy yX7_lensesFor cX7_lensesFor 5 (some .int) 2 := ⟨wC_yX7_lensesFor, wN_RX7, ⟨by decide +kernel, by decide +kernel, by decide +kernel⟩, by decide⟩
theorem V_X7_lensesFor (C : jK l E X own cc nL d) {i : Nat} {p0 : Nat} {p1 : Int32} {v : Int32} {M' : jM} (hM : K_X7_lensesFor l E [.ref (ja E 59), .ref p0, .int p1] M v M') (hw : Cond.methodLink own i yX7_lensesFor ∈ W0) (hdd : 5 < d) (hd : decode cc pc = .ok (.invokevirtual i, 3)) (hn : lv.length = nL) (hcat : (st.map fun v => v.category).sum ≤ 8) (k : J E X (pc + 3) lv (.int v :: st) M') : J E X pc lv (.int p1 :: .ref p0 :: .ref (ja E 59) :: st) M := J_callV C (T := TX7) (N := 10) hM ky_X7_lensesFor wI_yX7_lensesFor wE_yX7_lensesFor rfl hw jL_X7 rfl hdd hd hn rfl hcat (fun r m h => by obtain ⟨rfl, rfl⟩ := h; exact k)
abbrev K_X7_isPond (l : Launch) (E : jE) (as : List Value) (M : jM) (v : Int32) (M' : jM) : Prop := CI l E 0 yX7_isPond cX7_isPond 1 (some .boolean) as M v M'
theorem ky_X7_isPond : jy yX7_isPond cX7_isPond 1 (some .boolean) 1 := ⟨wC_yX7_isPond, wN_RX7, ⟨by decide +kernel, by decide +kernel, by decide +kernel⟩, by decide⟩
theorem V_X7_isPond (C : jK l E X own cc nL d) {i : Nat} {p0 : Int32} {v : Int32} {M' : jM} (hM : K_X7_isPond l E [.int p0] M v M') (hw : Cond.methodLink own i yX7_isPond ∈ W0) (hdd : 0 < d) (hd : decode cc pc = .ok (.invokestatic i, 3)) (hn : lv.length = nL) (hcat : (st.map fun v => v.category).sum ≤ 8) (k : J E X (pc + 3) lv (.int v :: st) M') : J E X pc lv (.int p0 :: st) M := J_callS C hM ky_X7_isPond wS_yX7_isPond hw hdd hd hn rfl hcat (fun r m h => by obtain ⟨rfl, rfl⟩ := h; exact k)
abbrev K_X7_isKind (l : Launch) (E : jE) (as : List Value) (M : jM) (v : Int32) (M' : jM) : Prop := CI l E 0 yX7_isKind cX7_isKind 1 (some .boolean) as M v M'
theorem ky_X7_isKind : jy yX7_isKind cX7_isKind 1 (some .boolean) 1 := ⟨wC_yX7_isKind, wN_RX7, ⟨by decide +kernel, by decide +kernel, by decide +kernel⟩, by decide⟩
theorem V_X7_isKind (C : jK l E X own cc nL d) {i : Nat} {p0 : Int32} {v : Int32} {M' : jM} (hM : K_X7_isKind l E [.int p0] M v M') (hw : Cond.methodLink own i yX7_isKind ∈ W0) (hdd : 0 < d) (hd : decode cc pc = .ok (.invokestatic i, 3)) (hn : lv.length = nL) (hcat : (st.map fun v => v.category).sum ≤ 8) (k : J E X (pc + 3) lv (.int v :: st) M') : J E X pc lv (.int p0 :: st) M := J_callS C hM ky_X7_isKind wS_yX7_isKind hw hdd hd hn rfl hcat (fun r m h => by obtain ⟨rfl, rfl⟩ := h; exact k)
abbrev K_X7_isSpot (l : Launch) (E : jE) (as : List Value) (M : jM) (v : Int32) (M' : jM) : Prop := CI l E 0 yX7_isSpot cX7_isSpot 1 (some .boolean) as M v M'
theorem ky_X7_isSpot : jy yX7_isSpot cX7_isSpot 1 (some .boolean) 1 := ⟨wC_yX7_isSpot, wN_RX7, ⟨by decide +kernel, by decide +kernel, by decide +kernel⟩, by decide⟩
theorem V_X7_isSpot (C : jK l E X own cc nL d) {i : Nat} {p0 : Int32} {v : Int32} {M' : jM} (hM : K_X7_isSpot l E [.int p0] M v M') (hw : Cond.methodLink own i yX7_isSpot ∈ W0) (hdd : 0 < d) (hd : decode cc pc = .ok (.invokestatic i, 3)) (hn : lv.length = nL) (hcat : (st.map fun v => v.category).sum ≤ 8) (k : J E X (pc + 3) lv (.int v :: st) M') : J E X pc lv (.int p0 :: st) M := J_callS C hM ky_X7_isSpot wS_yX7_isSpot hw hdd hd hn rfl hcat (fun r m h => by obtain ⟨rfl, rfl⟩ := h; exact k)
abbrev K_X7_isSheet (l : Launch) (E : jE) (as : List Value) (M : jM) (v : Int32) (M' : jM) : Prop := CI l E 0 yX7_isSheet cX7_isSheet 1 (some .boolean) as M v M'
theorem ky_X7_isSheet : jy yX7_isSheet cX7_isSheet 1 (some .boolean) 1 := ⟨wC_yX7_isSheet, wN_RX7, ⟨by decide +kernel, by decide +kernel, by decide +kernel⟩, by decide⟩
theorem V_X7_isSheet (C : jK l E X own cc nL d) {i : Nat} {p0 : Int32} {v : Int32} {M' : jM} (hM : K_X7_isSheet l E [.int p0] M v M') (hw : Cond.methodLink own i yX7_isSheet ∈ W0) (hdd : 0 < d) (hd : decode cc pc = .ok (.invokestatic i, 3)) (hn : lv.length = nL) (hcat : (st.map fun v => v.category).sum ≤ 8) (k : J E X (pc + 3) lv (.int v :: st) M') : J E X pc lv (.int p0 :: st) M := J_callS C hM ky_X7_isSheet wS_yX7_isSheet hw hdd hd hn rfl hcat (fun r m h => by obtain ⟨rfl, rfl⟩ := h; exact k)
abbrev K_X7_isBits (l : Launch) (E : jE) (as : List Value) (M : jM) (v : Int32) (M' : jM) : Prop := CI l E 0 yX7_isBits cX7_isBits 1 (some .boolean) as M v M'
theorem ky_X7_isBits : jy yX7_isBits cX7_isBits 1 (some .boolean) 1 := ⟨wC_yX7_isBits, wN_RX7, ⟨by decide +kernel, by decide +kernel, by decide +kernel⟩, by decide⟩
theorem V_X7_isBits (C : jK l E X own cc nL d) {i : Nat} {p0 : Int32} {v : Int32} {M' : jM} (hM : K_X7_isBits l E [.int p0] M v M') (hw : Cond.methodLink own i yX7_isBits ∈ W0) (hdd : 0 < d) (hd : decode cc pc = .ok (.invokestatic i, 3)) (hn : lv.length = nL) (hcat : (st.map fun v => v.category).sum ≤ 8) (k : J E X (pc + 3) lv (.int v :: st) M') : J E X pc lv (.int p0 :: st) M := J_callS C hM ky_X7_isBits wS_yX7_isBits hw hdd hd hn rfl hcat (fun r m h => by obtain ⟨rfl, rfl⟩ := h; exact k)
abbrev K_X7_isSteps (l : Launch) (E : jE) (as : List Value) (M : jM) (v : Int32) (M' : jM) : Prop := CI l E 0 yX7_isSteps cX7_isSteps 1 (some .boolean) as M v M'
theorem ky_X7_isSteps : jy yX7_isSteps cX7_isSteps 1 (some .boolean) 1 := ⟨wC_yX7_isSteps, wN_RX7, ⟨by decide +kernel, by decide +kernel, by decide +kernel⟩, by decide⟩
theorem V_X7_isSteps (C : jK l E X own cc nL d) {i : Nat} {p0 : Int32} {v : Int32} {M' : jM} (hM : K_X7_isSteps l E [.int p0] M v M') (hw : Cond.methodLink own i yX7_isSteps ∈ W0) (hdd : 0 < d) (hd : decode cc pc = .ok (.invokestatic i, 3)) (hn : lv.length = nL) (hcat : (st.map fun v => v.category).sum ≤ 8) (k : J E X (pc + 3) lv (.int v :: st) M') : J E X pc lv (.int p0 :: st) M := J_callS C hM ky_X7_isSteps wS_yX7_isSteps hw hdd hd hn rfl hcat (fun r m h => by obtain ⟨rfl, rfl⟩ := h; exact k)
abbrev K_X7_fitsPond (l : Launch) (E : jE) (as : List Value) (M : jM) (v : Int32) (M' : jM) : Prop := CI l E 0 yX7_fitsPond cX7_fitsPond 3 (some .boolean) as M v M'
theorem ky_X7_fitsPond : jy yX7_fitsPond cX7_fitsPond 3 (some .boolean) 3 := ⟨wC_yX7_fitsPond, wN_RX7, ⟨by decide +kernel, by decide +kernel, by decide +kernel⟩, by decide⟩
theorem V_X7_fitsPond (C : jK l E X own cc nL d) {i : Nat} {p0 : Int32} {p1 : Int32} {p2 : Int32} {v : Int32} {M' : jM} (hM : K_X7_fitsPond l E [.int p0, .int p1, .int p2] M v M') (hw : Cond.methodLink own i yX7_fitsPond ∈ W0) (hdd : 0 < d) (hd : decode cc pc = .ok (.invokestatic i, 3)) (hn : lv.length = nL) (hcat : (st.map fun v => v.category).sum ≤ 8) (k : J E X (pc + 3) lv (.int v :: st) M') : J E X pc lv (.int p2 :: .int p1 :: .int p0 :: st) M := J_callS C hM ky_X7_fitsPond wS_yX7_fitsPond hw hdd hd hn rfl hcat (fun r m h => by obtain ⟨rfl, rfl⟩ := h; exact k)
abbrev K_X7_fitsThing (l : Launch) (E : jE) (as : List Value) (M : jM) (v : Int32) (M' : jM) : Prop := CI l E 0 yX7_fitsThing cX7_fitsThing 2 (some .boolean) as M v M'
theorem ky_X7_fitsThing : jy yX7_fitsThing cX7_fitsThing 2 (some .boolean) 2 := ⟨wC_yX7_fitsThing, wN_RX7, ⟨by decide +kernel, by decide +kernel, by decide +kernel⟩, by decide⟩
theorem V_X7_fitsThing (C : jK l E X own cc nL d) {i : Nat} {p0 : Int32} {p1 : Int32} {v : Int32} {M' : jM} (hM : K_X7_fitsThing l E [.int p0, .int p1] M v M') (hw : Cond.methodLink own i yX7_fitsThing ∈ W0) (hdd : 0 < d) (hd : decode cc pc = .ok (.invokestatic i, 3)) (hn : lv.length = nL) (hcat : (st.map fun v => v.category).sum ≤ 8) (k : J E X (pc + 3) lv (.int v :: st) M') : J E X pc lv (.int p1 :: .int p0 :: st) M := J_callS C hM ky_X7_fitsThing wS_yX7_fitsThing hw hdd hd hn rfl hcat (fun r m h => by obtain ⟨rfl, rfl⟩ := h; exact k)
abbrev K_X7_fitsDepth (l : Launch) (E : jE) (as : List Value) (M : jM) (v : Int32) (M' : jM) : Prop := CI l E 1 yX7_fitsDepth cX7_fitsDepth 2 (some .boolean) as M v M'
theorem ky_X7_fitsDepth : jy yX7_fitsDepth cX7_fitsDepth 2 (some .boolean) 2 := ⟨wC_yX7_fitsDepth, wN_RX7, ⟨by decide +kernel, by decide +kernel, by decide +kernel⟩, by decide⟩
theorem V_X7_fitsDepth (C : jK l E X own cc nL d) {i : Nat} {p0 : Int32} {p1 : Int32} {v : Int32} {M' : jM} (hM : K_X7_fitsDepth l E [.int p0, .int p1] M v M') (hw : Cond.methodLink own i yX7_fitsDepth ∈ W0) (hdd : 1 < d) (hd : decode cc pc = .ok (.invokestatic i, 3)) (hn : lv.length = nL) (hcat : (st.map fun v => v.category).sum ≤ 8) (k : J E X (pc + 3) lv (.int v :: st) M') : J E X pc lv (.int p1 :: .int p0 :: st) M := J_callS C hM ky_X7_fitsDepth wS_yX7_fitsDepth hw hdd hd hn rfl hcat (fun r m h => by obtain ⟨rfl, rfl⟩ := h; exact k)
abbrev K_X8_no (l : Launch) (E : jE) (as : List Value) (M : jM) (v : Int32) (M' : jM) : Prop := CI l E 0 yX8_no cX8_no 2 (some .int) as M v M'
theorem ky_X8_no : jy yX8_no cX8_no 2 (some .int) 1 := ⟨wC_yX8_no, wN_RX8, ⟨by decide +kernel, by decide +kernel, by decide +kernel⟩, by decide⟩
theorem V_X8_no (C : jK l E X own cc nL d) {i : Nat} {p0 : Int32} {v : Int32} {M' : jM} (hM : K_X8_no l E [.ref (ja E 60), .int p0] M v M') (hw : Cond.methodLink own i yX8_no ∈ W0) (hdd : 0 < d) (hd : decode cc pc = .ok (.invokevirtual i, 3)) (hn : lv.length = nL) (hcat : (st.map fun v => v.category).sum ≤ 8) (k : J E X (pc + 3) lv (.int v :: st) M') : J E X pc lv (.int p0 :: .ref (ja E 60) :: st) M := J_callV C (T := TX8) (N := 24) hM ky_X8_no wI_yX8_no wE_yX8_no rfl hw jL_X8 rfl hdd hd hn rfl hcat (fun r m h => by obtain ⟨rfl, rfl⟩ := h; exact k)
abbrev K_X8_in1 (l : Launch) (E : jE) (as : List Value) (M : jM) (v : Int32) (M' : jM) : Prop := CI l E 0 yX8_in1 cX8_in1 3 (some .boolean) as M v M'
theorem ky_X8_in1 : jy yX8_in1 cX8_in1 3 (some .boolean) 3 := ⟨wC_yX8_in1, wN_RX8, ⟨by decide +kernel, by decide +kernel, by decide +kernel⟩, by decide⟩
theorem V_X8_in1 (C : jK l E X own cc nL d) {i : Nat} {p0 : Int32} {p1 : Int32} {p2 : Int32} {v : Int32} {M' : jM} (hM : K_X8_in1 l E [.int p0, .int p1, .int p2] M v M') (hw : Cond.methodLink own i yX8_in1 ∈ W0) (hdd : 0 < d) (hd : decode cc pc = .ok (.invokestatic i, 3)) (hn : lv.length = nL) (hcat : (st.map fun v => v.category).sum ≤ 8) (k : J E X (pc + 3) lv (.int v :: st) M') : J E X pc lv (.int p2 :: .int p1 :: .int p0 :: st) M := J_callS C hM ky_X8_in1 wS_yX8_in1 hw hdd hd hn rfl hcat (fun r m h => by obtain ⟨rfl, rfl⟩ := h; exact k)
abbrev K_X8_less (l : Launch) (E : jE) (as : List Value) (M : jM) (v : Int32) (M' : jM) : Prop := CI l E 0 yX8_less cX8_less 2 (some .int) as M v M'
theorem ky_X8_less : jy yX8_less cX8_less 2 (some .int) 2 := ⟨wC_yX8_less, wN_RX8, ⟨by decide +kernel, by decide +kernel, by decide +kernel⟩, by decide⟩
theorem V_X8_less (C : jK l E X own cc nL d) {i : Nat} {p0 : Int32} {p1 : Int32} {v : Int32} {M' : jM} (hM : K_X8_less l E [.int p0, .int p1] M v M') (hw : Cond.methodLink own i yX8_less ∈ W0) (hdd : 0 < d) (hd : decode cc pc = .ok (.invokestatic i, 3)) (hn : lv.length = nL) (hcat : (st.map fun v => v.category).sum ≤ 8) (k : J E X (pc + 3) lv (.int v :: st) M') : J E X pc lv (.int p1 :: .int p0 :: st) M := J_callS C hM ky_X8_less wS_yX8_less hw hdd hd hn rfl hcat (fun r m h => by obtain ⟨rfl, rfl⟩ := h; exact k)
abbrev K_X8_bits (l : Launch) (E : jE) (as : List Value) (M : jM) (v : Int32) (M' : jM) : Prop := CI l E 0 yX8_bits cX8_bits 3 (some .int) as M v M'
theorem ky_X8_bits : jy yX8_bits cX8_bits 3 (some .int) 1 := ⟨wC_yX8_bits, wN_RX8, ⟨by decide +kernel, by decide +kernel, by decide +kernel⟩, by decide⟩
theorem V_X8_bits (C : jK l E X own cc nL d) {i : Nat} {p0 : Int32} {v : Int32} {M' : jM} (hM : K_X8_bits l E [.int p0] M v M') (hw : Cond.methodLink own i yX8_bits ∈ W0) (hdd : 0 < d) (hd : decode cc pc = .ok (.invokestatic i, 3)) (hn : lv.length = nL) (hcat : (st.map fun v => v.category).sum ≤ 8) (k : J E X (pc + 3) lv (.int v :: st) M') : J E X pc lv (.int p0 :: st) M := J_callS C hM ky_X8_bits wS_yX8_bits hw hdd hd hn rfl hcat (fun r m h => by obtain ⟨rfl, rfl⟩ := h; exact k)
abbrev K_X8_isPond (l : Launch) (E : jE) (as : List Value) (M : jM) (v : Int32) (M' : jM) : Prop := CI l E 1 yX8_isPond cX8_isPond 1 (some .boolean) as M v M'
theorem ky_X8_isPond : jy yX8_isPond cX8_isPond 1 (some .boolean) 1 := ⟨wC_yX8_isPond, wN_RX8, ⟨by decide +kernel, by decide +kernel, by decide +kernel⟩, by decide⟩
theorem V_X8_isPond (C : jK l E X own cc nL d) {i : Nat} {p0 : Int32} {v : Int32} {M' : jM} (hM : K_X8_isPond l E [.int p0] M v M') (hw : Cond.methodLink own i yX8_isPond ∈ W0) (hdd : 1 < d) (hd : decode cc pc = .ok (.invokestatic i, 3)) (hn : lv.length = nL) (hcat : (st.map fun v => v.category).sum ≤ 8) (k : J E X (pc + 3) lv (.int v :: st) M') : J E X pc lv (.int p0 :: st) M := J_callS C hM ky_X8_isPond wS_yX8_isPond hw hdd hd hn rfl hcat (fun r m h => by obtain ⟨rfl, rfl⟩ := h; exact k)
abbrev K_X8_isThing (l : Launch) (E : jE) (as : List Value) (M : jM) (v : Int32) (M' : jM) : Prop := CI l E 1 yX8_isThing cX8_isThing 2 (some .boolean) as M v M'
theorem ky_X8_isThing : jy yX8_isThing cX8_isThing 2 (some .boolean) 1 := ⟨wC_yX8_isThing, wN_RX8, ⟨by decide +kernel, by decide +kernel, by decide +kernel⟩, by decide⟩
theorem V_X8_isThing (C : jK l E X own cc nL d) {i : Nat} {p0 : Int32} {v : Int32} {M' : jM} (hM : K_X8_isThing l E [.ref (ja E 60), .int p0] M v M') (hw : Cond.methodLink own i yX8_isThing ∈ W0) (hdd : 1 < d) (hd : decode cc pc = .ok (.invokevirtual i, 3)) (hn : lv.length = nL) (hcat : (st.map fun v => v.category).sum ≤ 8) (k : J E X (pc + 3) lv (.int v :: st) M') : J E X pc lv (.int p0 :: .ref (ja E 60) :: st) M := J_callV C (T := TX8) (N := 24) hM ky_X8_isThing wI_yX8_isThing wE_yX8_isThing rfl hw jL_X8 rfl hdd hd hn rfl hcat (fun r m h => by obtain ⟨rfl, rfl⟩ := h; exact k)
abbrev K_X8_of1 (l : Launch) (E : jE) (as : List Value) (M : jM) (v : Int32) (M' : jM) : Prop := CI l E 0 yX8_of1 cX8_of1 3 (some .int) as M v M'
theorem ky_X8_of1 : jy yX8_of1 cX8_of1 3 (some .int) 2 := ⟨wC_yX8_of1, wN_RX8, ⟨by decide +kernel, by decide +kernel, by decide +kernel⟩, by decide⟩
theorem V_X8_of1 (C : jK l E X own cc nL d) {i : Nat} {p0 : Int32} {p1 : Int32} {v : Int32} {M' : jM} (hM : K_X8_of1 l E [.ref (ja E 60), .int p0, .int p1] M v M') (hw : Cond.methodLink own i yX8_of1 ∈ W0) (hdd : 0 < d) (hd : decode cc pc = .ok (.invokevirtual i, 3)) (hn : lv.length = nL) (hcat : (st.map fun v => v.category).sum ≤ 8) (k : J E X (pc + 3) lv (.int v :: st) M') : J E X pc lv (.int p1 :: .int p0 :: .ref (ja E 60) :: st) M := J_callV C (T := TX8) (N := 24) hM ky_X8_of1 wI_yX8_of1 wE_yX8_of1 rfl hw jL_X8 rfl hdd hd hn rfl hcat (fun r m h => by obtain ⟨rfl, rfl⟩ := h; exact k)
abbrev K_X8_lays1 (l : Launch) (E : jE) (as : List Value) (M : jM) (M' : jM) : Prop := CV l E 0 yX8_lays1 cX8_lays1 4 none as M M'
theorem ky_X8_lays1 : jy yX8_lays1 cX8_lays1 4 none 3 := ⟨wC_yX8_lays1, wN_RX8, ⟨by decide +kernel, by decide +kernel, by decide +kernel⟩, by decide⟩
theorem V_X8_lays1 (C : jK l E X own cc nL d) {i : Nat} {p0 : Int32} {p1 : Int32} {p2 : Int32} {M' : jM} (hM : K_X8_lays1 l E [.ref (ja E 60), .int p0, .int p1, .int p2] M M') (hw : Cond.methodLink own i yX8_lays1 ∈ W0) (hdd : 0 < d) (hd : decode cc pc = .ok (.invokevirtual i, 3)) (hn : lv.length = nL) (hcat : (st.map fun v => v.category).sum ≤ 8) (k : J E X (pc + 3) lv (st) M') : J E X pc lv (.int p2 :: .int p1 :: .int p0 :: .ref (ja E 60) :: st) M := J_callV C (T := TX8) (N := 24) hM ky_X8_lays1 wI_yX8_lays1 wE_yX8_lays1 rfl hw jL_X8 rfl hdd hd hn rfl hcat (fun r m h => by obtain ⟨rfl, rfl⟩ := h; exact k)
abbrev K_X8_get (l : Launch) (E : jE) (as : List Value) (M : jM) (v : Int32) (M' : jM) : Prop := CI l E 0 yX8_get cX8_get 3 (some .int) as M v M'
theorem ky_X8_get : jy yX8_get cX8_get 3 (some .int) 2 := ⟨wC_yX8_get, wN_RX8, ⟨by decide +kernel, by decide +kernel, by decide +kernel⟩, by decide⟩
theorem V_X8_get (C : jK l E X own cc nL d) {i : Nat} {p0 : Int32} {p1 : Int32} {v : Int32} {M' : jM} (hM : K_X8_get l E [.ref (ja E 60), .int p0, .int p1] M v M') (hw : Cond.methodLink own i yX8_get ∈ W0) (hdd : 0 < d) (hd : decode cc pc = .ok (.invokevirtual i, 3)) (hn : lv.length = nL) (hcat : (st.map fun v => v.category).sum ≤ 8) (k : J E X (pc + 3) lv (.int v :: st) M') : J E X pc lv (.int p1 :: .int p0 :: .ref (ja E 60) :: st) M := J_callV C (T := TX8) (N := 24) hM ky_X8_get wI_yX8_get wE_yX8_get rfl hw jL_X8 rfl hdd hd hn rfl hcat (fun r m h => by obtain ⟨rfl, rfl⟩ := h; exact k)
abbrev K_X8_puts (l : Launch) (E : jE) (as : List Value) (M : jM) (M' : jM) : Prop := CV l E 0 yX8_puts cX8_puts 4 none as M M'
theorem ky_X8_puts : jy yX8_puts cX8_puts 4 none 3 := ⟨wC_yX8_puts, wN_RX8, ⟨by decide +kernel, by decide +kernel, by decide +kernel⟩, by decide⟩
theorem V_X8_puts (C : jK l E X own cc nL d) {i : Nat} {p0 : Int32} {p1 : Int32} {p2 : Int32} {M' : jM} (hM : K_X8_puts l E [.ref (ja E 60), .int p0, .int p1, .int p2] M M') (hw : Cond.methodLink own i yX8_puts ∈ W0) (hdd : 0 < d) (hd : decode cc pc = .ok (.invokevirtual i, 3)) (hn : lv.length = nL) (hcat : (st.map fun v => v.category).sum ≤ 8) (k : J E X (pc + 3) lv (st) M') : J E X pc lv (.int p2 :: .int p1 :: .int p0 :: .ref (ja E 60) :: st) M := J_callV C (T := TX8) (N := 24) hM ky_X8_puts wI_yX8_puts wE_yX8_puts rfl hw jL_X8 rfl hdd hd hn rfl hcat (fun r m h => by obtain ⟨rfl, rfl⟩ := h; exact k)
abbrev K_X8_setsAside (l : Launch) (E : jE) (as : List Value) (M : jM) (M' : jM) : Prop := CV l E 0 yX8_setsAside cX8_setsAside 2 none as M M'
theorem ky_X8_setsAside : jy yX8_setsAside cX8_setsAside 2 none 0 := ⟨wC_yX8_setsAside, wN_RX8, ⟨by decide +kernel, by decide +kernel, by decide +kernel⟩, by decide⟩
theorem V_X8_setsAside (C : jK l E X own cc nL d) {i : Nat}  {M' : jM} (hM : K_X8_setsAside l E [.ref (ja E 60)] M M') (hw : Cond.methodLink own i yX8_setsAside ∈ W0) (hdd : 0 < d) (hd : decode cc pc = .ok (.invokevirtual i, 3)) (hn : lv.length = nL) (hcat : (st.map fun v => v.category).sum ≤ 8) (k : J E X (pc + 3) lv (st) M') : J E X pc lv (.ref (ja E 60) :: st) M := J_callV C (T := TX8) (N := 24) hM ky_X8_setsAside wI_yX8_setsAside wE_yX8_setsAside rfl hw jL_X8 rfl hdd hd hn rfl hcat (fun r m h => by obtain ⟨rfl, rfl⟩ := h; exact k)
abbrev K_X8_laysBack (l : Launch) (E : jE) (as : List Value) (M : jM) (M' : jM) : Prop := CV l E 0 yX8_laysBack cX8_laysBack 2 none as M M'
theorem ky_X8_laysBack : jy yX8_laysBack cX8_laysBack 2 none 0 := ⟨wC_yX8_laysBack, wN_RX8, ⟨by decide +kernel, by decide +kernel, by decide +kernel⟩, by decide⟩
theorem V_X8_laysBack (C : jK l E X own cc nL d) {i : Nat}  {M' : jM} (hM : K_X8_laysBack l E [.ref (ja E 60)] M M') (hw : Cond.methodLink own i yX8_laysBack ∈ W0) (hdd : 0 < d) (hd : decode cc pc = .ok (.invokevirtual i, 3)) (hn : lv.length = nL) (hcat : (st.map fun v => v.category).sum ≤ 8) (k : J E X (pc + 3) lv (st) M') : J E X pc lv (.ref (ja E 60) :: st) M := J_callV C (T := TX8) (N := 24) hM ky_X8_laysBack wI_yX8_laysBack wE_yX8_laysBack rfl hw jL_X8 rfl hdd hd hn rfl hcat (fun r m h => by obtain ⟨rfl, rfl⟩ := h; exact k)
abbrev K_X8_inside (l : Launch) (E : jE) (as : List Value) (M : jM) (v : Int32) (M' : jM) : Prop := CI l E 1 yX8_inside cX8_inside 4 (some .int) as M v M'
theorem ky_X8_inside : jy yX8_inside cX8_inside 4 (some .int) 1 := ⟨wC_yX8_inside, wN_RX8, ⟨by decide +kernel, by decide +kernel, by decide +kernel⟩, by decide⟩
theorem V_X8_inside (C : jK l E X own cc nL d) {i : Nat} {p0 : Int32} {v : Int32} {M' : jM} (hM : K_X8_inside l E [.ref (ja E 60), .int p0] M v M') (hw : Cond.methodLink own i yX8_inside ∈ W0) (hdd : 1 < d) (hd : decode cc pc = .ok (.invokevirtual i, 3)) (hn : lv.length = nL) (hcat : (st.map fun v => v.category).sum ≤ 8) (k : J E X (pc + 3) lv (.int v :: st) M') : J E X pc lv (.int p0 :: .ref (ja E 60) :: st) M := J_callV C (T := TX8) (N := 24) hM ky_X8_inside wI_yX8_inside wE_yX8_inside rfl hw jL_X8 rfl hdd hd hn rfl hcat (fun r m h => by obtain ⟨rfl, rfl⟩ := h; exact k)
abbrev K_X8_seenIn (l : Launch) (E : jE) (as : List Value) (M : jM) (v : Int32) (M' : jM) : Prop := CI l E 2 yX8_seenIn cX8_seenIn 2 (some .int) as M v M'
theorem ky_X8_seenIn : jy yX8_seenIn cX8_seenIn 2 (some .int) 1 := ⟨wC_yX8_seenIn, wN_RX8, ⟨by decide +kernel, by decide +kernel, by decide +kernel⟩, by decide⟩
theorem V_X8_seenIn (C : jK l E X own cc nL d) {i : Nat} {p0 : Int32} {v : Int32} {M' : jM} (hM : K_X8_seenIn l E [.ref (ja E 60), .int p0] M v M') (hw : Cond.methodLink own i yX8_seenIn ∈ W0) (hdd : 2 < d) (hd : decode cc pc = .ok (.invokevirtual i, 3)) (hn : lv.length = nL) (hcat : (st.map fun v => v.category).sum ≤ 8) (k : J E X (pc + 3) lv (.int v :: st) M') : J E X pc lv (.int p0 :: .ref (ja E 60) :: st) M := J_callV C (T := TX8) (N := 24) hM ky_X8_seenIn wI_yX8_seenIn wE_yX8_seenIn rfl hw jL_X8 rfl hdd hd hn rfl hcat (fun r m h => by obtain ⟨rfl, rfl⟩ := h; exact k)
abbrev K_X8_pondsWith (l : Launch) (E : jE) (as : List Value) (M : jM) (v : Int32) (M' : jM) : Prop := CI l E 3 yX8_pondsWith cX8_pondsWith 4 (some .int) as M v M'
theorem ky_X8_pondsWith : jy yX8_pondsWith cX8_pondsWith 4 (some .int) 1 := ⟨wC_yX8_pondsWith, wN_RX8, ⟨by decide +kernel, by decide +kernel, by decide +kernel⟩, by decide⟩
theorem V_X8_pondsWith (C : jK l E X own cc nL d) {i : Nat} {p0 : Int32} {v : Int32} {M' : jM} (hM : K_X8_pondsWith l E [.ref (ja E 60), .int p0] M v M') (hw : Cond.methodLink own i yX8_pondsWith ∈ W0) (hdd : 3 < d) (hd : decode cc pc = .ok (.invokevirtual i, 3)) (hn : lv.length = nL) (hcat : (st.map fun v => v.category).sum ≤ 8) (k : J E X (pc + 3) lv (.int v :: st) M') : J E X pc lv (.int p0 :: .ref (ja E 60) :: st) M := J_callV C (T := TX8) (N := 24) hM ky_X8_pondsWith wI_yX8_pondsWith wE_yX8_pondsWith rfl hw jL_X8 rfl hdd hd hn rfl hcat (fun r m h => by obtain ⟨rfl, rfl⟩ := h; exact k)
abbrev K_X8_showing (l : Launch) (E : jE) (as : List Value) (M : jM) (v : Int32) (M' : jM) : Prop := CI l E 1 yX8_showing cX8_showing 4 (some .int) as M v M'
theorem ky_X8_showing : jy yX8_showing cX8_showing 4 (some .int) 1 := ⟨wC_yX8_showing, wN_RX8, ⟨by decide +kernel, by decide +kernel, by decide +kernel⟩, by decide⟩
theorem V_X8_showing (C : jK l E X own cc nL d) {i : Nat} {p0 : Int32} {v : Int32} {M' : jM} (hM : K_X8_showing l E [.ref (ja E 60), .int p0] M v M') (hw : Cond.methodLink own i yX8_showing ∈ W0) (hdd : 1 < d) (hd : decode cc pc = .ok (.invokevirtual i, 3)) (hn : lv.length = nL) (hcat : (st.map fun v => v.category).sum ≤ 8) (k : J E X (pc + 3) lv (.int v :: st) M') : J E X pc lv (.int p0 :: .ref (ja E 60) :: st) M := J_callV C (T := TX8) (N := 24) hM ky_X8_showing wI_yX8_showing wE_yX8_showing rfl hw jL_X8 rfl hdd hd hn rfl hcat (fun r m h => by obtain ⟨rfl, rfl⟩ := h; exact k)
abbrev K_X8_lengths (l : Launch) (E : jE) (as : List Value) (M : jM) (v : Int32) (M' : jM) : Prop := CI l E 1 yX8_lengths cX8_lengths 3 (some .int) as M v M'
theorem ky_X8_lengths : jy yX8_lengths cX8_lengths 3 (some .int) 0 := ⟨wC_yX8_lengths, wN_RX8, ⟨by decide +kernel, by decide +kernel, by decide +kernel⟩, by decide⟩
theorem V_X8_lengths (C : jK l E X own cc nL d) {i : Nat}  {v : Int32} {M' : jM} (hM : K_X8_lengths l E [.ref (ja E 60)] M v M') (hw : Cond.methodLink own i yX8_lengths ∈ W0) (hdd : 1 < d) (hd : decode cc pc = .ok (.invokevirtual i, 3)) (hn : lv.length = nL) (hcat : (st.map fun v => v.category).sum ≤ 8) (k : J E X (pc + 3) lv (.int v :: st) M') : J E X pc lv (.ref (ja E 60) :: st) M := J_callV C (T := TX8) (N := 24) hM ky_X8_lengths wI_yX8_lengths wE_yX8_lengths rfl hw jL_X8 rfl hdd hd hn rfl hcat (fun r m h => by obtain ⟨rfl, rfl⟩ := h; exact k)
abbrev K_X8_hasFish (l : Launch) (E : jE) (as : List Value) (M : jM) (v : Int32) (M' : jM) : Prop := CI l E 1 yX8_hasFish cX8_hasFish 6 (some .boolean) as M v M'
theorem ky_X8_hasFish : jy yX8_hasFish cX8_hasFish 6 (some .boolean) 2 := ⟨wC_yX8_hasFish, wN_RX8, ⟨by decide +kernel, by decide +kernel, by decide +kernel⟩, by decide⟩
theorem V_X8_hasFish (C : jK l E X own cc nL d) {i : Nat} {p0 : Int32} {p1 : Int32} {v : Int32} {M' : jM} (hM : K_X8_hasFish l E [.ref (ja E 60), .int p0, .int p1] M v M') (hw : Cond.methodLink own i yX8_hasFish ∈ W0) (hdd : 1 < d) (hd : decode cc pc = .ok (.invokevirtual i, 3)) (hn : lv.length = nL) (hcat : (st.map fun v => v.category).sum ≤ 8) (k : J E X (pc + 3) lv (.int v :: st) M') : J E X pc lv (.int p1 :: .int p0 :: .ref (ja E 60) :: st) M := J_callV C (T := TX8) (N := 24) hM ky_X8_hasFish wI_yX8_hasFish wE_yX8_hasFish rfl hw jL_X8 rfl hdd hd hn rfl hcat (fun r m h => by obtain ⟨rfl, rfl⟩ := h; exact k)
abbrev K_X8_asFrog (l : Launch) (E : jE) (as : List Value) (M : jM) (v : Int32) (M' : jM) : Prop := CI l E 1 yX8_asFrog cX8_asFrog 2 (some .int) as M v M'
theorem ky_X8_asFrog : jy yX8_asFrog cX8_asFrog 2 (some .int) 1 := ⟨wC_yX8_asFrog, wN_RX8, ⟨by decide +kernel, by decide +kernel, by decide +kernel⟩, by decide⟩
theorem V_X8_asFrog (C : jK l E X own cc nL d) {i : Nat} {p0 : Int32} {v : Int32} {M' : jM} (hM : K_X8_asFrog l E [.ref (ja E 60), .int p0] M v M') (hw : Cond.methodLink own i yX8_asFrog ∈ W0) (hdd : 1 < d) (hd : decode cc pc = .ok (.invokevirtual i, 3)) (hn : lv.length = nL) (hcat : (st.map fun v => v.category).sum ≤ 8) (k : J E X (pc + 3) lv (.int v :: st) M') : J E X pc lv (.int p0 :: .ref (ja E 60) :: st) M := J_callV C (T := TX8) (N := 24) hM ky_X8_asFrog wI_yX8_asFrog wE_yX8_asFrog rfl hw jL_X8 rfl hdd hd hn rfl hcat (fun r m h => by obtain ⟨rfl, rfl⟩ := h; exact k)
abbrev K_X8_asHeron (l : Launch) (E : jE) (as : List Value) (M : jM) (v : Int32) (M' : jM) : Prop := CI l E 2 yX8_asHeron cX8_asHeron 4 (some .int) as M v M'
theorem ky_X8_asHeron : jy yX8_asHeron cX8_asHeron 4 (some .int) 1 := ⟨wC_yX8_asHeron, wN_RX8, ⟨by decide +kernel, by decide +kernel, by decide +kernel⟩, by decide⟩
theorem V_X8_asHeron (C : jK l E X own cc nL d) {i : Nat} {p0 : Int32} {v : Int32} {M' : jM} (hM : K_X8_asHeron l E [.ref (ja E 60), .int p0] M v M') (hw : Cond.methodLink own i yX8_asHeron ∈ W0) (hdd : 2 < d) (hd : decode cc pc = .ok (.invokevirtual i, 3)) (hn : lv.length = nL) (hcat : (st.map fun v => v.category).sum ≤ 8) (k : J E X (pc + 3) lv (.int v :: st) M') : J E X pc lv (.int p0 :: .ref (ja E 60) :: st) M := J_callV C (T := TX8) (N := 24) hM ky_X8_asHeron wI_yX8_asHeron wE_yX8_asHeron rfl hw jL_X8 rfl hdd hd hn rfl hcat (fun r m h => by obtain ⟨rfl, rfl⟩ := h; exact k)
abbrev K_X8_dryNext (l : Launch) (E : jE) (as : List Value) (M : jM) (v : Int32) (M' : jM) : Prop := CI l E 3 yX8_dryNext cX8_dryNext 5 (some .int) as M v M'
theorem ky_X8_dryNext : jy yX8_dryNext cX8_dryNext 5 (some .int) 1 := ⟨wC_yX8_dryNext, wN_RX8, ⟨by decide +kernel, by decide +kernel, by decide +kernel⟩, by decide⟩
theorem V_X8_dryNext (C : jK l E X own cc nL d) {i : Nat} {p0 : Int32} {v : Int32} {M' : jM} (hM : K_X8_dryNext l E [.ref (ja E 60), .int p0] M v M') (hw : Cond.methodLink own i yX8_dryNext ∈ W0) (hdd : 3 < d) (hd : decode cc pc = .ok (.invokevirtual i, 3)) (hn : lv.length = nL) (hcat : (st.map fun v => v.category).sum ≤ 8) (k : J E X (pc + 3) lv (.int v :: st) M') : J E X pc lv (.int p0 :: .ref (ja E 60) :: st) M := J_callV C (T := TX8) (N := 24) hM ky_X8_dryNext wI_yX8_dryNext wE_yX8_dryNext rfl hw jL_X8 rfl hdd hd hn rfl hcat (fun r m h => by obtain ⟨rfl, rfl⟩ := h; exact k)
abbrev K_X8_nextOf (l : Launch) (E : jE) (as : List Value) (M : jM) (v : Int32) (M' : jM) : Prop := CI l E 4 yX8_nextOf cX8_nextOf 2 (some .int) as M v M'
theorem ky_X8_nextOf : jy yX8_nextOf cX8_nextOf 2 (some .int) 1 := ⟨wC_yX8_nextOf, wN_RX8, ⟨by decide +kernel, by decide +kernel, by decide +kernel⟩, by decide⟩
theorem V_X8_nextOf (C : jK l E X own cc nL d) {i : Nat} {p0 : Int32} {v : Int32} {M' : jM} (hM : K_X8_nextOf l E [.ref (ja E 60), .int p0] M v M') (hw : Cond.methodLink own i yX8_nextOf ∈ W0) (hdd : 4 < d) (hd : decode cc pc = .ok (.invokevirtual i, 3)) (hn : lv.length = nL) (hcat : (st.map fun v => v.category).sum ≤ 8) (k : J E X (pc + 3) lv (.int v :: st) M') : J E X pc lv (.int p0 :: .ref (ja E 60) :: st) M := J_callV C (T := TX8) (N := 24) hM ky_X8_nextOf wI_yX8_nextOf wE_yX8_nextOf rfl hw jL_X8 rfl hdd hd hn rfl hcat (fun r m h => by obtain ⟨rfl, rfl⟩ := h; exact k)
abbrev K_X8_minute (l : Launch) (E : jE) (as : List Value) (M : jM) (M' : jM) : Prop := CV l E 5 yX8_minute cX8_minute 2 none as M M'
theorem ky_X8_minute : jy yX8_minute cX8_minute 2 none 0 := ⟨wC_yX8_minute, wN_RX8, ⟨by decide +kernel, by decide +kernel, by decide +kernel⟩, by decide⟩
theorem V_X8_minute (C : jK l E X own cc nL d) {i : Nat}  {M' : jM} (hM : K_X8_minute l E [.ref (ja E 60)] M M') (hw : Cond.methodLink own i yX8_minute ∈ W0) (hdd : 5 < d) (hd : decode cc pc = .ok (.invokevirtual i, 3)) (hn : lv.length = nL) (hcat : (st.map fun v => v.category).sum ≤ 8) (k : J E X (pc + 3) lv (st) M') : J E X pc lv (.ref (ja E 60) :: st) M := J_callV C (T := TX8) (N := 24) hM ky_X8_minute wI_yX8_minute wE_yX8_minute rfl hw jL_X8 rfl hdd hd hn rfl hcat (fun r m h => by obtain ⟨rfl, rfl⟩ := h; exact k)
abbrev K_X8_pond (l : Launch) (E : jE) (as : List Value) (M : jM) (v : Int32) (M' : jM) : Prop := CI l E 3 yX8_pond cX8_pond 3 (some .int) as M v M'
theorem ky_X8_pond : jy yX8_pond cX8_pond 3 (some .int) 2 := ⟨wC_yX8_pond, wN_RX8, ⟨by decide +kernel, by decide +kernel, by decide +kernel⟩, by decide⟩
theorem V_X8_pond (C : jK l E X own cc nL d) {i : Nat} {p0 : Int32} {p1 : Int32} {v : Int32} {M' : jM} (hM : K_X8_pond l E [.ref (ja E 60), .int p0, .int p1] M v M') (hw : Cond.methodLink own i yX8_pond ∈ W0) (hdd : 3 < d) (hd : decode cc pc = .ok (.invokevirtual i, 3)) (hn : lv.length = nL) (hcat : (st.map fun v => v.category).sum ≤ 8) (k : J E X (pc + 3) lv (.int v :: st) M') : J E X pc lv (.int p1 :: .int p0 :: .ref (ja E 60) :: st) M := J_callV C (T := TX8) (N := 24) hM ky_X8_pond wI_yX8_pond wE_yX8_pond rfl hw jL_X8 rfl hdd hd hn rfl hcat (fun r m h => by obtain ⟨rfl, rfl⟩ := h; exact k)
abbrev K_X8_isOfPond (l : Launch) (E : jE) (as : List Value) (M : jM) (v : Int32) (M' : jM) : Prop := CI l E 1 yX8_isOfPond cX8_isOfPond 4 (some .boolean) as M v M'
theorem ky_X8_isOfPond : jy yX8_isOfPond cX8_isOfPond 4 (some .boolean) 3 := ⟨wC_yX8_isOfPond, wN_RX8, ⟨by decide +kernel, by decide +kernel, by decide +kernel⟩, by decide⟩
theorem V_X8_isOfPond (C : jK l E X own cc nL d) {i : Nat} {p0 : Int32} {p1 : Int32} {p2 : Int32} {v : Int32} {M' : jM} (hM : K_X8_isOfPond l E [.int p0, .int p1, .int p2] M v M') (hw : Cond.methodLink own i yX8_isOfPond ∈ W0) (hdd : 1 < d) (hd : decode cc pc = .ok (.invokestatic i, 3)) (hn : lv.length = nL) (hcat : (st.map fun v => v.category).sum ≤ 8) (k : J E X (pc + 3) lv (.int v :: st) M') : J E X pc lv (.int p2 :: .int p1 :: .int p0 :: st) M := J_callS C hM ky_X8_isOfPond wS_yX8_isOfPond hw hdd hd hn rfl hcat (fun r m h => by obtain ⟨rfl, rfl⟩ := h; exact k)
abbrev K_X8_dig (l : Launch) (E : jE) (as : List Value) (M : jM) (v : Int32) (M' : jM) : Prop := CI l E 2 yX8_dig cX8_dig 5 (some .int) as M v M'
theorem ky_X8_dig : jy yX8_dig cX8_dig 5 (some .int) 3 := ⟨wC_yX8_dig, wN_RX8, ⟨by decide +kernel, by decide +kernel, by decide +kernel⟩, by decide⟩
theorem V_X8_dig (C : jK l E X own cc nL d) {i : Nat} {p0 : Int32} {p1 : Int32} {p2 : Int32} {v : Int32} {M' : jM} (hM : K_X8_dig l E [.ref (ja E 60), .int p0, .int p1, .int p2] M v M') (hw : Cond.methodLink own i yX8_dig ∈ W0) (hdd : 2 < d) (hd : decode cc pc = .ok (.invokevirtual i, 3)) (hn : lv.length = nL) (hcat : (st.map fun v => v.category).sum ≤ 8) (k : J E X (pc + 3) lv (.int v :: st) M') : J E X pc lv (.int p2 :: .int p1 :: .int p0 :: .ref (ja E 60) :: st) M := J_callV C (T := TX8) (N := 24) hM ky_X8_dig wI_yX8_dig wE_yX8_dig rfl hw jL_X8 rfl hdd hd hn rfl hcat (fun r m h => by obtain ⟨rfl, rfl⟩ := h; exact k)
abbrev K_X8_addsThing (l : Launch) (E : jE) (as : List Value) (M : jM) (M' : jM) : Prop := CV l E 1 yX8_addsThing cX8_addsThing 4 none as M M'
theorem ky_X8_addsThing : jy yX8_addsThing cX8_addsThing 4 none 2 := ⟨wC_yX8_addsThing, wN_RX8, ⟨by decide +kernel, by decide +kernel, by decide +kernel⟩, by decide⟩
theorem V_X8_addsThing (C : jK l E X own cc nL d) {i : Nat} {p0 : Int32} {p1 : Int32} {M' : jM} (hM : K_X8_addsThing l E [.ref (ja E 60), .int p0, .int p1] M M') (hw : Cond.methodLink own i yX8_addsThing ∈ W0) (hdd : 1 < d) (hd : decode cc pc = .ok (.invokevirtual i, 3)) (hn : lv.length = nL) (hcat : (st.map fun v => v.category).sum ≤ 8) (k : J E X (pc + 3) lv (st) M') : J E X pc lv (.int p1 :: .int p0 :: .ref (ja E 60) :: st) M := J_callV C (T := TX8) (N := 24) hM ky_X8_addsThing wI_yX8_addsThing wE_yX8_addsThing rfl hw jL_X8 rfl hdd hd hn rfl hcat (fun r m h => by obtain ⟨rfl, rfl⟩ := h; exact k)
abbrev K_X8_thing (l : Launch) (E : jE) (as : List Value) (M : jM) (v : Int32) (M' : jM) : Prop := CI l E 2 yX8_thing cX8_thing 3 (some .int) as M v M'
theorem ky_X8_thing : jy yX8_thing cX8_thing 3 (some .int) 2 := ⟨wC_yX8_thing, wN_RX8, ⟨by decide +kernel, by decide +kernel, by decide +kernel⟩, by decide⟩
theorem V_X8_thing (C : jK l E X own cc nL d) {i : Nat} {p0 : Int32} {p1 : Int32} {v : Int32} {M' : jM} (hM : K_X8_thing l E [.ref (ja E 60), .int p0, .int p1] M v M') (hw : Cond.methodLink own i yX8_thing ∈ W0) (hdd : 2 < d) (hd : decode cc pc = .ok (.invokevirtual i, 3)) (hn : lv.length = nL) (hcat : (st.map fun v => v.category).sum ≤ 8) (k : J E X (pc + 3) lv (.int v :: st) M') : J E X pc lv (.int p1 :: .int p0 :: .ref (ja E 60) :: st) M := J_callV C (T := TX8) (N := 24) hM ky_X8_thing wI_yX8_thing wE_yX8_thing rfl hw jL_X8 rfl hdd hd hn rfl hcat (fun r m h => by obtain ⟨rfl, rfl⟩ := h; exact k)
abbrev K_X8_of (l : Launch) (E : jE) (as : List Value) (M : jM) (v : Int32) (M' : jM) : Prop := CI l E 5 yX8_of cX8_of 3 (some .int) as M v M'
theorem ky_X8_of : jy yX8_of cX8_of 3 (some .int) 2 := ⟨wC_yX8_of, wN_RX8, ⟨by decide +kernel, by decide +kernel, by decide +kernel⟩, by decide⟩
theorem V_X8_of (C : jK l E X own cc nL d) {i : Nat} {p0 : Int32} {p1 : Int32} {v : Int32} {M' : jM} (hM : K_X8_of l E [.ref (ja E 60), .int p0, .int p1] M v M') (hw : Cond.methodLink own i yX8_of ∈ W0) (hdd : 5 < d) (hd : decode cc pc = .ok (.invokevirtual i, 3)) (hn : lv.length = nL) (hcat : (st.map fun v => v.category).sum ≤ 8) (k : J E X (pc + 3) lv (.int v :: st) M') : J E X pc lv (.int p1 :: .int p0 :: .ref (ja E 60) :: st) M := J_callV C (T := TX8) (N := 24) hM ky_X8_of wI_yX8_of wE_yX8_of rfl hw jL_X8 rfl hdd hd hn rfl hcat (fun r m h => by obtain ⟨rfl, rfl⟩ := h; exact k)
abbrev K_X8_change (l : Launch) (E : jE) (as : List Value) (M : jM) (v : Int32) (M' : jM) : Prop := CI l E 2 yX8_change cX8_change 5 (some .int) as M v M'
theorem ky_X8_change : jy yX8_change cX8_change 5 (some .int) 3 := ⟨wC_yX8_change, wN_RX8, ⟨by decide +kernel, by decide +kernel, by decide +kernel⟩, by decide⟩
theorem V_X8_change (C : jK l E X own cc nL d) {i : Nat} {p0 : Int32} {p1 : Int32} {p2 : Int32} {v : Int32} {M' : jM} (hM : K_X8_change l E [.ref (ja E 60), .int p0, .int p1, .int p2] M v M') (hw : Cond.methodLink own i yX8_change ∈ W0) (hdd : 2 < d) (hd : decode cc pc = .ok (.invokevirtual i, 3)) (hn : lv.length = nL) (hcat : (st.map fun v => v.category).sum ≤ 8) (k : J E X (pc + 3) lv (.int v :: st) M') : J E X pc lv (.int p2 :: .int p1 :: .int p0 :: .ref (ja E 60) :: st) M := J_callV C (T := TX8) (N := 24) hM ky_X8_change wI_yX8_change wE_yX8_change rfl hw jL_X8 rfl hdd hd hn rfl hcat (fun r m h => by obtain ⟨rfl, rfl⟩ := h; exact k)
abbrev K_X8_rain (l : Launch) (E : jE) (as : List Value) (M : jM) (v : Int32) (M' : jM) : Prop := CI l E 1 yX8_rain cX8_rain 3 (some .int) as M v M'
theorem ky_X8_rain : jy yX8_rain cX8_rain 3 (some .int) 1 := ⟨wC_yX8_rain, wN_RX8, ⟨by decide +kernel, by decide +kernel, by decide +kernel⟩, by decide⟩
theorem V_X8_rain (C : jK l E X own cc nL d) {i : Nat} {p0 : Int32} {v : Int32} {M' : jM} (hM : K_X8_rain l E [.ref (ja E 60), .int p0] M v M') (hw : Cond.methodLink own i yX8_rain ∈ W0) (hdd : 1 < d) (hd : decode cc pc = .ok (.invokevirtual i, 3)) (hn : lv.length = nL) (hcat : (st.map fun v => v.category).sum ≤ 8) (k : J E X (pc + 3) lv (.int v :: st) M') : J E X pc lv (.int p0 :: .ref (ja E 60) :: st) M := J_callV C (T := TX8) (N := 24) hM ky_X8_rain wI_yX8_rain wE_yX8_rain rfl hw jL_X8 rfl hdd hd hn rfl hcat (fun r m h => by obtain ⟨rfl, rfl⟩ := h; exact k)
abbrev K_X8_go (l : Launch) (E : jE) (as : List Value) (M : jM) (v : Int32) (M' : jM) : Prop := CI l E 6 yX8_go cX8_go 3 (some .int) as M v M'
theorem ky_X8_go : jy yX8_go cX8_go 3 (some .int) 1 := ⟨wC_yX8_go, wN_RX8, ⟨by decide +kernel, by decide +kernel, by decide +kernel⟩, by decide⟩
theorem V_X8_go (C : jK l E X own cc nL d) {i : Nat} {p0 : Int32} {v : Int32} {M' : jM} (hM : K_X8_go l E [.ref (ja E 60), .int p0] M v M') (hw : Cond.methodLink own i yX8_go ∈ W0) (hdd : 6 < d) (hd : decode cc pc = .ok (.invokevirtual i, 3)) (hn : lv.length = nL) (hcat : (st.map fun v => v.category).sum ≤ 8) (k : J E X (pc + 3) lv (.int v :: st) M') : J E X pc lv (.int p0 :: .ref (ja E 60) :: st) M := J_callV C (T := TX8) (N := 24) hM ky_X8_go wI_yX8_go wE_yX8_go rfl hw jL_X8 rfl hdd hd hn rfl hcat (fun r m h => by obtain ⟨rfl, rfl⟩ := h; exact k)
abbrev K_X8_now (l : Launch) (E : jE) (as : List Value) (M : jM) (v : Int32) (M' : jM) : Prop := CI l E 4 yX8_now cX8_now 2 (some .int) as M v M'
theorem ky_X8_now : jy yX8_now cX8_now 2 (some .int) 1 := ⟨wC_yX8_now, wN_RX8, ⟨by decide +kernel, by decide +kernel, by decide +kernel⟩, by decide⟩
theorem V_X8_now (C : jK l E X own cc nL d) {i : Nat} {p0 : Int32} {v : Int32} {M' : jM} (hM : K_X8_now l E [.ref (ja E 60), .int p0] M v M') (hw : Cond.methodLink own i yX8_now ∈ W0) (hdd : 4 < d) (hd : decode cc pc = .ok (.invokevirtual i, 3)) (hn : lv.length = nL) (hcat : (st.map fun v => v.category).sum ≤ 8) (k : J E X (pc + 3) lv (.int v :: st) M') : J E X pc lv (.int p0 :: .ref (ja E 60) :: st) M := J_callV C (T := TX8) (N := 24) hM ky_X8_now wI_yX8_now wE_yX8_now rfl hw jL_X8 rfl hdd hd hn rfl hcat (fun r m h => by obtain ⟨rfl, rfl⟩ := h; exact k)
abbrev K_X8_begins (l : Launch) (E : jE) (as : List Value) (M : jM) (M' : jM) : Prop := CV l E 0 yX8_begins cX8_begins 2 none as M M'
theorem ky_X8_begins : jy yX8_begins cX8_begins 2 none 1 := ⟨wC_yX8_begins, wN_RX8, ⟨by decide +kernel, by decide +kernel, by decide +kernel⟩, by decide⟩
theorem V_X8_begins (C : jK l E X own cc nL d) {i : Nat} {p0 : Int32} {M' : jM} (hM : K_X8_begins l E [.ref (ja E 60), .int p0] M M') (hw : Cond.methodLink own i yX8_begins ∈ W0) (hdd : 0 < d) (hd : decode cc pc = .ok (.invokevirtual i, 3)) (hn : lv.length = nL) (hcat : (st.map fun v => v.category).sum ≤ 8) (k : J E X (pc + 3) lv (st) M') : J E X pc lv (.int p0 :: .ref (ja E 60) :: st) M := J_callV C (T := TX8) (N := 24) hM ky_X8_begins wI_yX8_begins wE_yX8_begins rfl hw jL_X8 rfl hdd hd hn rfl hcat (fun r m h => by obtain ⟨rfl, rfl⟩ := h; exact k)
abbrev K_X8_steps (l : Launch) (E : jE) (as : List Value) (M : jM) (M' : jM) : Prop := CV l E 1 yX8_steps cX8_steps 1 none as M M'
theorem ky_X8_steps : jy yX8_steps cX8_steps 1 none 0 := ⟨wC_yX8_steps, wN_RX8, ⟨by decide +kernel, by decide +kernel, by decide +kernel⟩, by decide⟩
theorem V_X8_steps (C : jK l E X own cc nL d) {i : Nat}  {M' : jM} (hM : K_X8_steps l E [.ref (ja E 60)] M M') (hw : Cond.methodLink own i yX8_steps ∈ W0) (hdd : 1 < d) (hd : decode cc pc = .ok (.invokevirtual i, 3)) (hn : lv.length = nL) (hcat : (st.map fun v => v.category).sum ≤ 8) (k : J E X (pc + 3) lv (st) M') : J E X pc lv (.ref (ja E 60) :: st) M := J_callV C (T := TX8) (N := 24) hM ky_X8_steps wI_yX8_steps wE_yX8_steps rfl hw jL_X8 rfl hdd hd hn rfl hcat (fun r m h => by obtain ⟨rfl, rfl⟩ := h; exact k)
abbrev K_X8_goesThrough (l : Launch) (E : jE) (as : List Value) (M : jM) (M' : jM) : Prop := CV l E 2 yX8_goesThrough cX8_goesThrough 4 none as M M'
theorem ky_X8_goesThrough : jy yX8_goesThrough cX8_goesThrough 4 none 2 := ⟨wC_yX8_goesThrough, wN_RX8, ⟨by decide +kernel, by decide +kernel, by decide +kernel⟩, by decide⟩
theorem V_X8_goesThrough (C : jK l E X own cc nL d) {i : Nat} {p0 : Int32} {p1 : Int32} {M' : jM} (hM : K_X8_goesThrough l E [.ref (ja E 60), .int p0, .int p1] M M') (hw : Cond.methodLink own i yX8_goesThrough ∈ W0) (hdd : 2 < d) (hd : decode cc pc = .ok (.invokevirtual i, 3)) (hn : lv.length = nL) (hcat : (st.map fun v => v.category).sum ≤ 8) (k : J E X (pc + 3) lv (st) M') : J E X pc lv (.int p1 :: .int p0 :: .ref (ja E 60) :: st) M := J_callV C (T := TX8) (N := 24) hM ky_X8_goesThrough wI_yX8_goesThrough wE_yX8_goesThrough rfl hw jL_X8 rfl hdd hd hn rfl hcat (fun r m h => by obtain ⟨rfl, rfl⟩ := h; exact k)
abbrev K_X8_chain (l : Launch) (E : jE) (as : List Value) (M : jM) (v : Int32) (M' : jM) : Prop := CI l E 3 yX8_chain cX8_chain 4 (some .int) as M v M'
theorem ky_X8_chain : jy yX8_chain cX8_chain 4 (some .int) 3 := ⟨wC_yX8_chain, wN_RX8, ⟨by decide +kernel, by decide +kernel, by decide +kernel⟩, by decide⟩
theorem V_X8_chain (C : jK l E X own cc nL d) {i : Nat} {p0 : Int32} {p1 : Int32} {p2 : Int32} {v : Int32} {M' : jM} (hM : K_X8_chain l E [.ref (ja E 60), .int p0, .int p1, .int p2] M v M') (hw : Cond.methodLink own i yX8_chain ∈ W0) (hdd : 3 < d) (hd : decode cc pc = .ok (.invokevirtual i, 3)) (hn : lv.length = nL) (hcat : (st.map fun v => v.category).sum ≤ 8) (k : J E X (pc + 3) lv (.int v :: st) M') : J E X pc lv (.int p2 :: .int p1 :: .int p0 :: .ref (ja E 60) :: st) M := J_callV C (T := TX8) (N := 24) hM ky_X8_chain wI_yX8_chain wE_yX8_chain rfl hw jL_X8 rfl hdd hd hn rfl hcat (fun r m h => by obtain ⟨rfl, rfl⟩ := h; exact k)
abbrev K_X8_through (l : Launch) (E : jE) (as : List Value) (M : jM) (v : Int32) (M' : jM) : Prop := CI l E 2 yX8_through cX8_through 4 (some .int) as M v M'
theorem ky_X8_through : jy yX8_through cX8_through 4 (some .int) 2 := ⟨wC_yX8_through, wN_RX8, ⟨by decide +kernel, by decide +kernel, by decide +kernel⟩, by decide⟩
theorem V_X8_through (C : jK l E X own cc nL d) {i : Nat} {p0 : Int32} {p1 : Int32} {v : Int32} {M' : jM} (hM : K_X8_through l E [.ref (ja E 60), .int p0, .int p1] M v M') (hw : Cond.methodLink own i yX8_through ∈ W0) (hdd : 2 < d) (hd : decode cc pc = .ok (.invokevirtual i, 3)) (hn : lv.length = nL) (hcat : (st.map fun v => v.category).sum ≤ 8) (k : J E X (pc + 3) lv (.int v :: st) M') : J E X pc lv (.int p1 :: .int p0 :: .ref (ja E 60) :: st) M := J_callV C (T := TX8) (N := 24) hM ky_X8_through wI_yX8_through wE_yX8_through rfl hw jL_X8 rfl hdd hd hn rfl hcat (fun r m h => by obtain ⟨rfl, rfl⟩ := h; exact k)
abbrev K_X8_upright (l : Launch) (E : jE) (as : List Value) (M : jM) (v : Int32) (M' : jM) : Prop := CI l E 2 yX8_upright cX8_upright 3 (some .int) as M v M'
theorem ky_X8_upright : jy yX8_upright cX8_upright 3 (some .int) 1 := ⟨wC_yX8_upright, wN_RX8, ⟨by decide +kernel, by decide +kernel, by decide +kernel⟩, by decide⟩
theorem V_X8_upright (C : jK l E X own cc nL d) {i : Nat} {p0 : Int32} {v : Int32} {M' : jM} (hM : K_X8_upright l E [.ref (ja E 60), .int p0] M v M') (hw : Cond.methodLink own i yX8_upright ∈ W0) (hdd : 2 < d) (hd : decode cc pc = .ok (.invokevirtual i, 3)) (hn : lv.length = nL) (hcat : (st.map fun v => v.category).sum ≤ 8) (k : J E X (pc + 3) lv (.int v :: st) M') : J E X pc lv (.int p0 :: .ref (ja E 60) :: st) M := J_callV C (T := TX8) (N := 24) hM ky_X8_upright wI_yX8_upright wE_yX8_upright rfl hw jL_X8 rfl hdd hd hn rfl hcat (fun r m h => by obtain ⟨rfl, rfl⟩ := h; exact k)
abbrev K_X8_large (l : Launch) (E : jE) (as : List Value) (M : jM) (v : Int32) (M' : jM) : Prop := CI l E 3 yX8_large cX8_large 4 (some .int) as M v M'
theorem ky_X8_large : jy yX8_large cX8_large 4 (some .int) 3 := ⟨wC_yX8_large, wN_RX8, ⟨by decide +kernel, by decide +kernel, by decide +kernel⟩, by decide⟩
theorem V_X8_large (C : jK l E X own cc nL d) {i : Nat} {p0 : Int32} {p1 : Int32} {p2 : Int32} {v : Int32} {M' : jM} (hM : K_X8_large l E [.ref (ja E 60), .int p0, .int p1, .int p2] M v M') (hw : Cond.methodLink own i yX8_large ∈ W0) (hdd : 3 < d) (hd : decode cc pc = .ok (.invokevirtual i, 3)) (hn : lv.length = nL) (hcat : (st.map fun v => v.category).sum ≤ 8) (k : J E X (pc + 3) lv (.int v :: st) M') : J E X pc lv (.int p2 :: .int p1 :: .int p0 :: .ref (ja E 60) :: st) M := J_callV C (T := TX8) (N := 24) hM ky_X8_large wI_yX8_large wE_yX8_large rfl hw jL_X8 rfl hdd hd hn rfl hcat (fun r m h => by obtain ⟨rfl, rfl⟩ := h; exact k)
abbrev K_X8_isRound (l : Launch) (E : jE) (as : List Value) (M : jM) (v : Int32) (M' : jM) : Prop := CI l E 1 yX8_isRound cX8_isRound 4 (some .boolean) as M v M'
theorem ky_X8_isRound : jy yX8_isRound cX8_isRound 4 (some .boolean) 1 := ⟨wC_yX8_isRound, wN_RX8, ⟨by decide +kernel, by decide +kernel, by decide +kernel⟩, by decide⟩
theorem V_X8_isRound (C : jK l E X own cc nL d) {i : Nat} {p0 : Int32} {v : Int32} {M' : jM} (hM : K_X8_isRound l E [.ref (ja E 60), .int p0] M v M') (hw : Cond.methodLink own i yX8_isRound ∈ W0) (hdd : 1 < d) (hd : decode cc pc = .ok (.invokevirtual i, 3)) (hn : lv.length = nL) (hcat : (st.map fun v => v.category).sum ≤ 8) (k : J E X (pc + 3) lv (.int v :: st) M') : J E X pc lv (.int p0 :: .ref (ja E 60) :: st) M := J_callV C (T := TX8) (N := 24) hM ky_X8_isRound wI_yX8_isRound wE_yX8_isRound rfl hw jL_X8 rfl hdd hd hn rfl hcat (fun r m h => by obtain ⟨rfl, rfl⟩ := h; exact k)
abbrev K_X8_aheadOf (l : Launch) (E : jE) (as : List Value) (M : jM) (v : Int32) (M' : jM) : Prop := CI l E 2 yX8_aheadOf cX8_aheadOf 4 (some .int) as M v M'
theorem ky_X8_aheadOf : jy yX8_aheadOf cX8_aheadOf 4 (some .int) 1 := ⟨wC_yX8_aheadOf, wN_RX8, ⟨by decide +kernel, by decide +kernel, by decide +kernel⟩, by decide⟩
theorem V_X8_aheadOf (C : jK l E X own cc nL d) {i : Nat} {p0 : Int32} {v : Int32} {M' : jM} (hM : K_X8_aheadOf l E [.ref (ja E 60), .int p0] M v M') (hw : Cond.methodLink own i yX8_aheadOf ∈ W0) (hdd : 2 < d) (hd : decode cc pc = .ok (.invokevirtual i, 3)) (hn : lv.length = nL) (hcat : (st.map fun v => v.category).sum ≤ 8) (k : J E X (pc + 3) lv (.int v :: st) M') : J E X pc lv (.int p0 :: .ref (ja E 60) :: st) M := J_callV C (T := TX8) (N := 24) hM ky_X8_aheadOf wI_yX8_aheadOf wE_yX8_aheadOf rfl hw jL_X8 rfl hdd hd hn rfl hcat (fun r m h => by obtain ⟨rfl, rfl⟩ := h; exact k)
abbrev K_X8_roundOf (l : Launch) (E : jE) (as : List Value) (M : jM) (v : Int32) (M' : jM) : Prop := CI l E 1 yX8_roundOf cX8_roundOf 5 (some .int) as M v M'
theorem ky_X8_roundOf : jy yX8_roundOf cX8_roundOf 5 (some .int) 1 := ⟨wC_yX8_roundOf, wN_RX8, ⟨by decide +kernel, by decide +kernel, by decide +kernel⟩, by decide⟩
theorem V_X8_roundOf (C : jK l E X own cc nL d) {i : Nat} {p0 : Int32} {v : Int32} {M' : jM} (hM : K_X8_roundOf l E [.ref (ja E 60), .int p0] M v M') (hw : Cond.methodLink own i yX8_roundOf ∈ W0) (hdd : 1 < d) (hd : decode cc pc = .ok (.invokevirtual i, 3)) (hn : lv.length = nL) (hcat : (st.map fun v => v.category).sum ≤ 8) (k : J E X (pc + 3) lv (.int v :: st) M') : J E X pc lv (.int p0 :: .ref (ja E 60) :: st) M := J_callV C (T := TX8) (N := 24) hM ky_X8_roundOf wI_yX8_roundOf wE_yX8_roundOf rfl hw jL_X8 rfl hdd hd hn rfl hcat (fun r m h => by obtain ⟨rfl, rfl⟩ := h; exact k)
abbrev K_X8_round (l : Launch) (E : jE) (as : List Value) (M : jM) (v : Int32) (M' : jM) : Prop := CI l E 2 yX8_round cX8_round 2 (some .int) as M v M'
theorem ky_X8_round : jy yX8_round cX8_round 2 (some .int) 1 := ⟨wC_yX8_round, wN_RX8, ⟨by decide +kernel, by decide +kernel, by decide +kernel⟩, by decide⟩
theorem V_X8_round (C : jK l E X own cc nL d) {i : Nat} {p0 : Int32} {v : Int32} {M' : jM} (hM : K_X8_round l E [.ref (ja E 60), .int p0] M v M') (hw : Cond.methodLink own i yX8_round ∈ W0) (hdd : 2 < d) (hd : decode cc pc = .ok (.invokevirtual i, 3)) (hn : lv.length = nL) (hcat : (st.map fun v => v.category).sum ≤ 8) (k : J E X (pc + 3) lv (.int v :: st) M') : J E X pc lv (.int p0 :: .ref (ja E 60) :: st) M := J_callV C (T := TX8) (N := 24) hM ky_X8_round wI_yX8_round wE_yX8_round rfl hw jL_X8 rfl hdd hd hn rfl hcat (fun r m h => by obtain ⟨rfl, rfl⟩ := h; exact k)
abbrev K_X8_rounds (l : Launch) (E : jE) (as : List Value) (M : jM) (v : Int32) (M' : jM) : Prop := CI l E 2 yX8_rounds cX8_rounds 4 (some .int) as M v M'
theorem ky_X8_rounds : jy yX8_rounds cX8_rounds 4 (some .int) 0 := ⟨wC_yX8_rounds, wN_RX8, ⟨by decide +kernel, by decide +kernel, by decide +kernel⟩, by decide⟩
theorem V_X8_rounds (C : jK l E X own cc nL d) {i : Nat}  {v : Int32} {M' : jM} (hM : K_X8_rounds l E [.ref (ja E 60)] M v M') (hw : Cond.methodLink own i yX8_rounds ∈ W0) (hdd : 2 < d) (hd : decode cc pc = .ok (.invokevirtual i, 3)) (hn : lv.length = nL) (hcat : (st.map fun v => v.category).sum ≤ 8) (k : J E X (pc + 3) lv (.int v :: st) M') : J E X pc lv (.ref (ja E 60) :: st) M := J_callV C (T := TX8) (N := 24) hM ky_X8_rounds wI_yX8_rounds wE_yX8_rounds rfl hw jL_X8 rfl hdd hd hn rfl hcat (fun r m h => by obtain ⟨rfl, rfl⟩ := h; exact k)
abbrev K_X8_before (l : Launch) (E : jE) (as : List Value) (M : jM) (v : Int32) (M' : jM) : Prop := CI l E 3 yX8_before cX8_before 2 (some .int) as M v M'
theorem ky_X8_before : jy yX8_before cX8_before 2 (some .int) 1 := ⟨wC_yX8_before, wN_RX8, ⟨by decide +kernel, by decide +kernel, by decide +kernel⟩, by decide⟩
theorem V_X8_before (C : jK l E X own cc nL d) {i : Nat} {p0 : Int32} {v : Int32} {M' : jM} (hM : K_X8_before l E [.ref (ja E 60), .int p0] M v M') (hw : Cond.methodLink own i yX8_before ∈ W0) (hdd : 3 < d) (hd : decode cc pc = .ok (.invokevirtual i, 3)) (hn : lv.length = nL) (hcat : (st.map fun v => v.category).sum ≤ 8) (k : J E X (pc + 3) lv (.int v :: st) M') : J E X pc lv (.int p0 :: .ref (ja E 60) :: st) M := J_callV C (T := TX8) (N := 24) hM ky_X8_before wI_yX8_before wE_yX8_before rfl hw jL_X8 rfl hdd hd hn rfl hcat (fun r m h => by obtain ⟨rfl, rfl⟩ := h; exact k)
abbrev K_X8_shownBy (l : Launch) (E : jE) (as : List Value) (M : jM) (v : Int32) (M' : jM) : Prop := CI l E 2 yX8_shownBy cX8_shownBy 6 (some .int) as M v M'
theorem ky_X8_shownBy : jy yX8_shownBy cX8_shownBy 6 (some .int) 1 := ⟨wC_yX8_shownBy, wN_RX8, ⟨by decide +kernel, by decide +kernel, by decide +kernel⟩, by decide⟩
theorem V_X8_shownBy (C : jK l E X own cc nL d) {i : Nat} {p0 : Int32} {v : Int32} {M' : jM} (hM : K_X8_shownBy l E [.ref (ja E 60), .int p0] M v M') (hw : Cond.methodLink own i yX8_shownBy ∈ W0) (hdd : 2 < d) (hd : decode cc pc = .ok (.invokevirtual i, 3)) (hn : lv.length = nL) (hcat : (st.map fun v => v.category).sum ≤ 8) (k : J E X (pc + 3) lv (.int v :: st) M') : J E X pc lv (.int p0 :: .ref (ja E 60) :: st) M := J_callV C (T := TX8) (N := 24) hM ky_X8_shownBy wI_yX8_shownBy wE_yX8_shownBy rfl hw jL_X8 rfl hdd hd hn rfl hcat (fun r m h => by obtain ⟨rfl, rfl⟩ := h; exact k)
abbrev K_X8_ahead (l : Launch) (E : jE) (as : List Value) (M : jM) (v : Int32) (M' : jM) : Prop := CI l E 6 yX8_ahead cX8_ahead 4 (some .int) as M v M'
theorem ky_X8_ahead : jy yX8_ahead cX8_ahead 4 (some .int) 2 := ⟨wC_yX8_ahead, wN_RX8, ⟨by decide +kernel, by decide +kernel, by decide +kernel⟩, by decide⟩
theorem V_X8_ahead (C : jK l E X own cc nL d) {i : Nat} {p0 : Int32} {p1 : Int32} {v : Int32} {M' : jM} (hM : K_X8_ahead l E [.ref (ja E 60), .int p0, .int p1] M v M') (hw : Cond.methodLink own i yX8_ahead ∈ W0) (hdd : 6 < d) (hd : decode cc pc = .ok (.invokevirtual i, 3)) (hn : lv.length = nL) (hcat : (st.map fun v => v.category).sum ≤ 8) (k : J E X (pc + 3) lv (.int v :: st) M') : J E X pc lv (.int p1 :: .int p0 :: .ref (ja E 60) :: st) M := J_callV C (T := TX8) (N := 24) hM ky_X8_ahead wI_yX8_ahead wE_yX8_ahead rfl hw jL_X8 rfl hdd hd hn rfl hcat (fun r m h => by obtain ⟨rfl, rfl⟩ := h; exact k)
abbrev K_X8_firstBy (l : Launch) (E : jE) (as : List Value) (M : jM) (v : Int32) (M' : jM) : Prop := CI l E 6 yX8_firstBy cX8_firstBy 7 (some .int) as M v M'
theorem ky_X8_firstBy : jy yX8_firstBy cX8_firstBy 7 (some .int) 3 := ⟨wC_yX8_firstBy, wN_RX8, ⟨by decide +kernel, by decide +kernel, by decide +kernel⟩, by decide⟩
theorem V_X8_firstBy (C : jK l E X own cc nL d) {i : Nat} {p0 : Int32} {p1 : Int32} {p2 : Int32} {v : Int32} {M' : jM} (hM : K_X8_firstBy l E [.ref (ja E 60), .int p0, .int p1, .int p2] M v M') (hw : Cond.methodLink own i yX8_firstBy ∈ W0) (hdd : 6 < d) (hd : decode cc pc = .ok (.invokevirtual i, 3)) (hn : lv.length = nL) (hcat : (st.map fun v => v.category).sum ≤ 8) (k : J E X (pc + 3) lv (.int v :: st) M') : J E X pc lv (.int p2 :: .int p1 :: .int p0 :: .ref (ja E 60) :: st) M := J_callV C (T := TX8) (N := 24) hM ky_X8_firstBy wI_yX8_firstBy wE_yX8_firstBy rfl hw jL_X8 rfl hdd hd hn rfl hcat (fun r m h => by obtain ⟨rfl, rfl⟩ := h; exact k)
abbrev K_X8_comes (l : Launch) (E : jE) (as : List Value) (M : jM) (v : Int32) (M' : jM) : Prop := CI l E 7 yX8_comes cX8_comes 3 (some .int) as M v M'
theorem ky_X8_comes : jy yX8_comes cX8_comes 3 (some .int) 2 := ⟨wC_yX8_comes, wN_RX8, ⟨by decide +kernel, by decide +kernel, by decide +kernel⟩, by decide⟩
theorem V_X8_comes (C : jK l E X own cc nL d) {i : Nat} {p0 : Int32} {p1 : Int32} {v : Int32} {M' : jM} (hM : K_X8_comes l E [.ref (ja E 60), .int p0, .int p1] M v M') (hw : Cond.methodLink own i yX8_comes ∈ W0) (hdd : 7 < d) (hd : decode cc pc = .ok (.invokevirtual i, 3)) (hn : lv.length = nL) (hcat : (st.map fun v => v.category).sum ≤ 8) (k : J E X (pc + 3) lv (.int v :: st) M') : J E X pc lv (.int p1 :: .int p0 :: .ref (ja E 60) :: st) M := J_callV C (T := TX8) (N := 24) hM ky_X8_comes wI_yX8_comes wE_yX8_comes rfl hw jL_X8 rfl hdd hd hn rfl hcat (fun r m h => by obtain ⟨rfl, rfl⟩ := h; exact k)
abbrev K_X8_seen (l : Launch) (E : jE) (as : List Value) (M : jM) (v : Int32) (M' : jM) : Prop := CI l E 7 yX8_seen cX8_seen 3 (some .int) as M v M'
theorem ky_X8_seen : jy yX8_seen cX8_seen 3 (some .int) 2 := ⟨wC_yX8_seen, wN_RX8, ⟨by decide +kernel, by decide +kernel, by decide +kernel⟩, by decide⟩
theorem V_X8_seen (C : jK l E X own cc nL d) {i : Nat} {p0 : Int32} {p1 : Int32} {v : Int32} {M' : jM} (hM : K_X8_seen l E [.ref (ja E 60), .int p0, .int p1] M v M') (hw : Cond.methodLink own i yX8_seen ∈ W0) (hdd : 7 < d) (hd : decode cc pc = .ok (.invokevirtual i, 3)) (hn : lv.length = nL) (hcat : (st.map fun v => v.category).sum ≤ 8) (k : J E X (pc + 3) lv (.int v :: st) M') : J E X pc lv (.int p1 :: .int p0 :: .ref (ja E 60) :: st) M := J_callV C (T := TX8) (N := 24) hM ky_X8_seen wI_yX8_seen wE_yX8_seen rfl hw jL_X8 rfl hdd hd hn rfl hcat (fun r m h => by obtain ⟨rfl, rfl⟩ := h; exact k)
abbrev K_X8_meet (l : Launch) (E : jE) (as : List Value) (M : jM) (v : Int32) (M' : jM) : Prop := CI l E 7 yX8_meet cX8_meet 3 (some .int) as M v M'
theorem ky_X8_meet : jy yX8_meet cX8_meet 3 (some .int) 2 := ⟨wC_yX8_meet, wN_RX8, ⟨by decide +kernel, by decide +kernel, by decide +kernel⟩, by decide⟩
theorem V_X8_meet (C : jK l E X own cc nL d) {i : Nat} {p0 : Int32} {p1 : Int32} {v : Int32} {M' : jM} (hM : K_X8_meet l E [.ref (ja E 60), .int p0, .int p1] M v M') (hw : Cond.methodLink own i yX8_meet ∈ W0) (hdd : 7 < d) (hd : decode cc pc = .ok (.invokevirtual i, 3)) (hn : lv.length = nL) (hcat : (st.map fun v => v.category).sum ≤ 8) (k : J E X (pc + 3) lv (.int v :: st) M') : J E X pc lv (.int p1 :: .int p0 :: .ref (ja E 60) :: st) M := J_callV C (T := TX8) (N := 24) hM ky_X8_meet wI_yX8_meet wE_yX8_meet rfl hw jL_X8 rfl hdd hd hn rfl hcat (fun r m h => by obtain ⟨rfl, rfl⟩ := h; exact k)
abbrev K_X8_mostOf (l : Launch) (E : jE) (as : List Value) (M : jM) (v : Int32) (M' : jM) : Prop := CI l E 0 yX8_mostOf cX8_mostOf 3 (some .int) as M v M'
theorem ky_X8_mostOf : jy yX8_mostOf cX8_mostOf 3 (some .int) 0 := ⟨wC_yX8_mostOf, wN_RX8, ⟨by decide +kernel, by decide +kernel, by decide +kernel⟩, by decide⟩
theorem V_X8_mostOf (C : jK l E X own cc nL d) {i : Nat}  {v : Int32} {M' : jM} (hM : K_X8_mostOf l E [.ref (ja E 60)] M v M') (hw : Cond.methodLink own i yX8_mostOf ∈ W0) (hdd : 0 < d) (hd : decode cc pc = .ok (.invokevirtual i, 3)) (hn : lv.length = nL) (hcat : (st.map fun v => v.category).sum ≤ 8) (k : J E X (pc + 3) lv (.int v :: st) M') : J E X pc lv (.ref (ja E 60) :: st) M := J_callV C (T := TX8) (N := 24) hM ky_X8_mostOf wI_yX8_mostOf wE_yX8_mostOf rfl hw jL_X8 rfl hdd hd hn rfl hcat (fun r m h => by obtain ⟨rfl, rfl⟩ := h; exact k)
abbrev K_X8_countsNone (l : Launch) (E : jE) (as : List Value) (M : jM) (M' : jM) : Prop := CV l E 0 yX8_countsNone cX8_countsNone 2 none as M M'
theorem ky_X8_countsNone : jy yX8_countsNone cX8_countsNone 2 none 0 := ⟨wC_yX8_countsNone, wN_RX8, ⟨by decide +kernel, by decide +kernel, by decide +kernel⟩, by decide⟩
theorem V_X8_countsNone (C : jK l E X own cc nL d) {i : Nat}  {M' : jM} (hM : K_X8_countsNone l E [.ref (ja E 60)] M M') (hw : Cond.methodLink own i yX8_countsNone ∈ W0) (hdd : 0 < d) (hd : decode cc pc = .ok (.invokevirtual i, 3)) (hn : lv.length = nL) (hcat : (st.map fun v => v.category).sum ≤ 8) (k : J E X (pc + 3) lv (st) M') : J E X pc lv (.ref (ja E 60) :: st) M := J_callV C (T := TX8) (N := 24) hM ky_X8_countsNone wI_yX8_countsNone wE_yX8_countsNone rfl hw jL_X8 rfl hdd hd hn rfl hcat (fun r m h => by obtain ⟨rfl, rfl⟩ := h; exact k)
abbrev K_X8_cast (l : Launch) (E : jE) (as : List Value) (M : jM) (v : Int32) (M' : jM) : Prop := CI l E 6 yX8_cast cX8_cast 4 (some .int) as M v M'
theorem ky_X8_cast : jy yX8_cast cX8_cast 4 (some .int) 2 := ⟨wC_yX8_cast, wN_RX8, ⟨by decide +kernel, by decide +kernel, by decide +kernel⟩, by decide⟩
theorem V_X8_cast (C : jK l E X own cc nL d) {i : Nat} {p0 : Int32} {p1 : Int32} {v : Int32} {M' : jM} (hM : K_X8_cast l E [.ref (ja E 60), .int p0, .int p1] M v M') (hw : Cond.methodLink own i yX8_cast ∈ W0) (hdd : 6 < d) (hd : decode cc pc = .ok (.invokevirtual i, 3)) (hn : lv.length = nL) (hcat : (st.map fun v => v.category).sum ≤ 8) (k : J E X (pc + 3) lv (.int v :: st) M') : J E X pc lv (.int p1 :: .int p0 :: .ref (ja E 60) :: st) M := J_callV C (T := TX8) (N := 24) hM ky_X8_cast wI_yX8_cast wE_yX8_cast rfl hw jL_X8 rfl hdd hd hn rfl hcat (fun r m h => by obtain ⟨rfl, rfl⟩ := h; exact k)
abbrev K_X8_kindFor (l : Launch) (E : jE) (as : List Value) (M : jM) (v : Int32) (M' : jM) : Prop := CI l E 6 yX8_kindFor cX8_kindFor 7 (some .int) as M v M'
theorem ky_X8_kindFor : jy yX8_kindFor cX8_kindFor 7 (some .int) 1 := ⟨wC_yX8_kindFor, wN_RX8, ⟨by decide +kernel, by decide +kernel, by decide +kernel⟩, by decide⟩
theorem V_X8_kindFor (C : jK l E X own cc nL d) {i : Nat} {p0 : Int32} {v : Int32} {M' : jM} (hM : K_X8_kindFor l E [.ref (ja E 60), .int p0] M v M') (hw : Cond.methodLink own i yX8_kindFor ∈ W0) (hdd : 6 < d) (hd : decode cc pc = .ok (.invokevirtual i, 3)) (hn : lv.length = nL) (hcat : (st.map fun v => v.category).sum ≤ 8) (k : J E X (pc + 3) lv (.int v :: st) M') : J E X pc lv (.int p0 :: .ref (ja E 60) :: st) M := J_callV C (T := TX8) (N := 24) hM ky_X8_kindFor wI_yX8_kindFor wE_yX8_kindFor rfl hw jL_X8 rfl hdd hd hn rfl hcat (fun r m h => by obtain ⟨rfl, rfl⟩ := h; exact k)
abbrev K_X8_isSheet (l : Launch) (E : jE) (as : List Value) (M : jM) (v : Int32) (M' : jM) : Prop := CI l E 1 yX8_isSheet cX8_isSheet 1 (some .boolean) as M v M'
theorem ky_X8_isSheet : jy yX8_isSheet cX8_isSheet 1 (some .boolean) 1 := ⟨wC_yX8_isSheet, wN_RX8, ⟨by decide +kernel, by decide +kernel, by decide +kernel⟩, by decide⟩
theorem V_X8_isSheet (C : jK l E X own cc nL d) {i : Nat} {p0 : Int32} {v : Int32} {M' : jM} (hM : K_X8_isSheet l E [.int p0] M v M') (hw : Cond.methodLink own i yX8_isSheet ∈ W0) (hdd : 1 < d) (hd : decode cc pc = .ok (.invokestatic i, 3)) (hn : lv.length = nL) (hcat : (st.map fun v => v.category).sum ≤ 8) (k : J E X (pc + 3) lv (.int v :: st) M') : J E X pc lv (.int p0 :: st) M := J_callS C hM ky_X8_isSheet wS_yX8_isSheet hw hdd hd hn rfl hcat (fun r m h => by obtain ⟨rfl, rfl⟩ := h; exact k)
abbrev K_X8_wrongSheet (l : Launch) (E : jE) (as : List Value) (M : jM) (v : Int32) (M' : jM) : Prop := CI l E 2 yX8_wrongSheet cX8_wrongSheet 2 (some .int) as M v M'
theorem ky_X8_wrongSheet : jy yX8_wrongSheet cX8_wrongSheet 2 (some .int) 1 := ⟨wC_yX8_wrongSheet, wN_RX8, ⟨by decide +kernel, by decide +kernel, by decide +kernel⟩, by decide⟩
theorem V_X8_wrongSheet (C : jK l E X own cc nL d) {i : Nat} {p0 : Int32} {v : Int32} {M' : jM} (hM : K_X8_wrongSheet l E [.ref (ja E 60), .int p0] M v M') (hw : Cond.methodLink own i yX8_wrongSheet ∈ W0) (hdd : 2 < d) (hd : decode cc pc = .ok (.invokevirtual i, 3)) (hn : lv.length = nL) (hcat : (st.map fun v => v.category).sum ≤ 8) (k : J E X (pc + 3) lv (.int v :: st) M') : J E X pc lv (.int p0 :: .ref (ja E 60) :: st) M := J_callV C (T := TX8) (N := 24) hM ky_X8_wrongSheet wI_yX8_wrongSheet wE_yX8_wrongSheet rfl hw jL_X8 rfl hdd hd hn rfl hcat (fun r m h => by obtain ⟨rfl, rfl⟩ := h; exact k)
abbrev K_X8_wrongSight (l : Launch) (E : jE) (as : List Value) (M : jM) (v : Int32) (M' : jM) : Prop := CI l E 3 yX8_wrongSight cX8_wrongSight 4 (some .int) as M v M'
theorem ky_X8_wrongSight : jy yX8_wrongSight cX8_wrongSight 4 (some .int) 2 := ⟨wC_yX8_wrongSight, wN_RX8, ⟨by decide +kernel, by decide +kernel, by decide +kernel⟩, by decide⟩
theorem V_X8_wrongSight (C : jK l E X own cc nL d) {i : Nat} {p0 : Int32} {p1 : Int32} {v : Int32} {M' : jM} (hM : K_X8_wrongSight l E [.ref (ja E 60), .int p0, .int p1] M v M') (hw : Cond.methodLink own i yX8_wrongSight ∈ W0) (hdd : 3 < d) (hd : decode cc pc = .ok (.invokevirtual i, 3)) (hn : lv.length = nL) (hcat : (st.map fun v => v.category).sum ≤ 8) (k : J E X (pc + 3) lv (.int v :: st) M') : J E X pc lv (.int p1 :: .int p0 :: .ref (ja E 60) :: st) M := J_callV C (T := TX8) (N := 24) hM ky_X8_wrongSight wI_yX8_wrongSight wE_yX8_wrongSight rfl hw jL_X8 rfl hdd hd hn rfl hcat (fun r m h => by obtain ⟨rfl, rfl⟩ := h; exact k)
abbrev K_X8_told (l : Launch) (E : jE) (as : List Value) (M : jM) (v : Int32) (M' : jM) : Prop := CI l E 0 yX8_told cX8_told 3 (some .int) as M v M'
theorem ky_X8_told : jy yX8_told cX8_told 3 (some .int) 2 := ⟨wC_yX8_told, wN_RX8, ⟨by decide +kernel, by decide +kernel, by decide +kernel⟩, by decide⟩
theorem V_X8_told (C : jK l E X own cc nL d) {i : Nat} {p0 : Int32} {p1 : Int32} {v : Int32} {M' : jM} (hM : K_X8_told l E [.ref (ja E 60), .int p0, .int p1] M v M') (hw : Cond.methodLink own i yX8_told ∈ W0) (hdd : 0 < d) (hd : decode cc pc = .ok (.invokevirtual i, 3)) (hn : lv.length = nL) (hcat : (st.map fun v => v.category).sum ≤ 8) (k : J E X (pc + 3) lv (.int v :: st) M') : J E X pc lv (.int p1 :: .int p0 :: .ref (ja E 60) :: st) M := J_callV C (T := TX8) (N := 24) hM ky_X8_told wI_yX8_told wE_yX8_told rfl hw jL_X8 rfl hdd hd hn rfl hcat (fun r m h => by obtain ⟨rfl, rfl⟩ := h; exact k)
abbrev K_X8_fitsAs (l : Launch) (E : jE) (as : List Value) (M : jM) (v : Int32) (M' : jM) : Prop := CI l E 6 yX8_fitsAs cX8_fitsAs 6 (some .boolean) as M v M'
theorem ky_X8_fitsAs : jy yX8_fitsAs cX8_fitsAs 6 (some .boolean) 3 := ⟨wC_yX8_fitsAs, wN_RX8, ⟨by decide +kernel, by decide +kernel, by decide +kernel⟩, by decide⟩
theorem V_X8_fitsAs (C : jK l E X own cc nL d) {i : Nat} {p0 : Int32} {p1 : Int32} {p2 : Int32} {v : Int32} {M' : jM} (hM : K_X8_fitsAs l E [.ref (ja E 60), .int p0, .int p1, .int p2] M v M') (hw : Cond.methodLink own i yX8_fitsAs ∈ W0) (hdd : 6 < d) (hd : decode cc pc = .ok (.invokevirtual i, 3)) (hn : lv.length = nL) (hcat : (st.map fun v => v.category).sum ≤ 8) (k : J E X (pc + 3) lv (.int v :: st) M') : J E X pc lv (.int p2 :: .int p1 :: .int p0 :: .ref (ja E 60) :: st) M := J_callV C (T := TX8) (N := 24) hM ky_X8_fitsAs wI_yX8_fitsAs wE_yX8_fitsAs rfl hw jL_X8 rfl hdd hd hn rfl hcat (fun r m h => by obtain ⟨rfl, rfl⟩ := h; exact k)
abbrev K_X8_fits (l : Launch) (E : jE) (as : List Value) (M : jM) (v : Int32) (M' : jM) : Prop := CI l E 7 yX8_fits cX8_fits 6 (some .int) as M v M'
theorem ky_X8_fits : jy yX8_fits cX8_fits 6 (some .int) 2 := ⟨wC_yX8_fits, wN_RX8, ⟨by decide +kernel, by decide +kernel, by decide +kernel⟩, by decide⟩
theorem V_X8_fits (C : jK l E X own cc nL d) {i : Nat} {p0 : Int32} {p1 : Int32} {v : Int32} {M' : jM} (hM : K_X8_fits l E [.ref (ja E 60), .int p0, .int p1] M v M') (hw : Cond.methodLink own i yX8_fits ∈ W0) (hdd : 7 < d) (hd : decode cc pc = .ok (.invokevirtual i, 3)) (hn : lv.length = nL) (hcat : (st.map fun v => v.category).sum ≤ 8) (k : J E X (pc + 3) lv (.int v :: st) M') : J E X pc lv (.int p1 :: .int p0 :: .ref (ja E 60) :: st) M := J_callV C (T := TX8) (N := 24) hM ky_X8_fits wI_yX8_fits wE_yX8_fits rfl hw jL_X8 rfl hdd hd hn rfl hcat (fun r m h => by obtain ⟨rfl, rfl⟩ := h; exact k)
abbrev K_X8_lens (l : Launch) (E : jE) (as : List Value) (M : jM) (v : Int32) (M' : jM) : Prop := CI l E 7 yX8_lens cX8_lens 5 (some .int) as M v M'
theorem ky_X8_lens : jy yX8_lens cX8_lens 5 (some .int) 2 := ⟨wC_yX8_lens, wN_RX8, ⟨by decide +kernel, by decide +kernel, by decide +kernel⟩, by decide⟩
theorem V_X8_lens (C : jK l E X own cc nL d) {i : Nat} {p0 : Int32} {p1 : Int32} {v : Int32} {M' : jM} (hM : K_X8_lens l E [.ref (ja E 60), .int p0, .int p1] M v M') (hw : Cond.methodLink own i yX8_lens ∈ W0) (hdd : 7 < d) (hd : decode cc pc = .ok (.invokevirtual i, 3)) (hn : lv.length = nL) (hcat : (st.map fun v => v.category).sum ≤ 8) (k : J E X (pc + 3) lv (.int v :: st) M') : J E X pc lv (.int p1 :: .int p0 :: .ref (ja E 60) :: st) M := J_callV C (T := TX8) (N := 24) hM ky_X8_lens wI_yX8_lens wE_yX8_lens rfl hw jL_X8 rfl hdd hd hn rfl hcat (fun r m h => by obtain ⟨rfl, rfl⟩ := h; exact k)
abbrev K_X8_which (l : Launch) (E : jE) (as : List Value) (M : jM) (v : Int32) (M' : jM) : Prop := CI l E 6 yX8_which cX8_which 6 (some .int) as M v M'
theorem ky_X8_which : jy yX8_which cX8_which 6 (some .int) 1 := ⟨wC_yX8_which, wN_RX8, ⟨by decide +kernel, by decide +kernel, by decide +kernel⟩, by decide⟩
theorem V_X8_which (C : jK l E X own cc nL d) {i : Nat} {p0 : Int32} {v : Int32} {M' : jM} (hM : K_X8_which l E [.ref (ja E 60), .int p0] M v M') (hw : Cond.methodLink own i yX8_which ∈ W0) (hdd : 6 < d) (hd : decode cc pc = .ok (.invokevirtual i, 3)) (hn : lv.length = nL) (hcat : (st.map fun v => v.category).sum ≤ 8) (k : J E X (pc + 3) lv (.int v :: st) M') : J E X pc lv (.int p0 :: .ref (ja E 60) :: st) M := J_callV C (T := TX8) (N := 24) hM ky_X8_which wI_yX8_which wE_yX8_which rfl hw jL_X8 rfl hdd hd hn rfl hcat (fun r m h => by obtain ⟨rfl, rfl⟩ := h; exact k)
abbrev K_X8_eyes (l : Launch) (E : jE) (as : List Value) (M : jM) (v : Int32) (M' : jM) : Prop := CI l E 2 yX8_eyes cX8_eyes 5 (some .int) as M v M'
theorem ky_X8_eyes : jy yX8_eyes cX8_eyes 5 (some .int) 0 := ⟨wC_yX8_eyes, wN_RX8, ⟨by decide +kernel, by decide +kernel, by decide +kernel⟩, by decide⟩
theorem V_X8_eyes (C : jK l E X own cc nL d) {i : Nat}  {v : Int32} {M' : jM} (hM : K_X8_eyes l E [.ref (ja E 60)] M v M') (hw : Cond.methodLink own i yX8_eyes ∈ W0) (hdd : 2 < d) (hd : decode cc pc = .ok (.invokevirtual i, 3)) (hn : lv.length = nL) (hcat : (st.map fun v => v.category).sum ≤ 8) (k : J E X (pc + 3) lv (.int v :: st) M') : J E X pc lv (.ref (ja E 60) :: st) M := J_callV C (T := TX8) (N := 24) hM ky_X8_eyes wI_yX8_eyes wE_yX8_eyes rfl hw jL_X8 rfl hdd hd hn rfl hcat (fun r m h => by obtain ⟨rfl, rfl⟩ := h; exact k)
abbrev K_X8_dredge (l : Launch) (E : jE) (as : List Value) (M : jM) (v : Int32) (M' : jM) : Prop := CI l E 2 yX8_dredge cX8_dredge 8 (some .int) as M v M'
theorem ky_X8_dredge : jy yX8_dredge cX8_dredge 8 (some .int) 2 := ⟨wC_yX8_dredge, wN_RX8, ⟨by decide +kernel, by decide +kernel, by decide +kernel⟩, by decide⟩
theorem V_X8_dredge (C : jK l E X own cc nL d) {i : Nat} {p0 : Int32} {p1 : Int32} {v : Int32} {M' : jM} (hM : K_X8_dredge l E [.ref (ja E 60), .int p0, .int p1] M v M') (hw : Cond.methodLink own i yX8_dredge ∈ W0) (hdd : 2 < d) (hd : decode cc pc = .ok (.invokevirtual i, 3)) (hn : lv.length = nL) (hcat : (st.map fun v => v.category).sum ≤ 8) (k : J E X (pc + 3) lv (.int v :: st) M') : J E X pc lv (.int p1 :: .int p0 :: .ref (ja E 60) :: st) M := J_callV C (T := TX8) (N := 24) hM ky_X8_dredge wI_yX8_dredge wE_yX8_dredge rfl hw jL_X8 rfl hdd hd hn rfl hcat (fun r m h => by obtain ⟨rfl, rfl⟩ := h; exact k)
abbrev K_X8_watch (l : Launch) (E : jE) (as : List Value) (M : jM) (v : Int32) (M' : jM) : Prop := CI l E 6 yX8_watch cX8_watch 4 (some .int) as M v M'
theorem ky_X8_watch : jy yX8_watch cX8_watch 4 (some .int) 1 := ⟨wC_yX8_watch, wN_RX8, ⟨by decide +kernel, by decide +kernel, by decide +kernel⟩, by decide⟩
theorem V_X8_watch (C : jK l E X own cc nL d) {i : Nat} {p0 : Int32} {v : Int32} {M' : jM} (hM : K_X8_watch l E [.ref (ja E 60), .int p0] M v M') (hw : Cond.methodLink own i yX8_watch ∈ W0) (hdd : 6 < d) (hd : decode cc pc = .ok (.invokevirtual i, 3)) (hn : lv.length = nL) (hcat : (st.map fun v => v.category).sum ≤ 8) (k : J E X (pc + 3) lv (.int v :: st) M') : J E X pc lv (.int p0 :: .ref (ja E 60) :: st) M := J_callV C (T := TX8) (N := 24) hM ky_X8_watch wI_yX8_watch wE_yX8_watch rfl hw jL_X8 rfl hdd hd hn rfl hcat (fun r m h => by obtain ⟨rfl, rfl⟩ := h; exact k)
abbrev K_X8_draw (l : Launch) (E : jE) (as : List Value) (M : jM) (v : Int32) (M' : jM) : Prop := CI l E 0 yX8_draw cX8_draw 1 (some .int) as M v M'
theorem ky_X8_draw : jy yX8_draw cX8_draw 1 (some .int) 0 := ⟨wC_yX8_draw, wN_RX8, ⟨by decide +kernel, by decide +kernel, by decide +kernel⟩, by decide⟩
theorem V_X8_draw (C : jK l E X own cc nL d) {i : Nat}  {v : Int32} {M' : jM} (hM : K_X8_draw l E [.ref (ja E 60)] M v M') (hw : Cond.methodLink own i yX8_draw ∈ W0) (hdd : 0 < d) (hd : decode cc pc = .ok (.invokevirtual i, 3)) (hn : lv.length = nL) (hcat : (st.map fun v => v.category).sum ≤ 8) (k : J E X (pc + 3) lv (.int v :: st) M') : J E X pc lv (.ref (ja E 60) :: st) M := J_callV C (T := TX8) (N := 24) hM ky_X8_draw wI_yX8_draw wE_yX8_draw rfl hw jL_X8 rfl hdd hd hn rfl hcat (fun r m h => by obtain ⟨rfl, rfl⟩ := h; exact k)
abbrev K_X8_falls (l : Launch) (E : jE) (as : List Value) (M : jM) (v : Int32) (M' : jM) : Prop := CI l E 6 yX8_falls cX8_falls 5 (some .int) as M v M'
theorem ky_X8_falls : jy yX8_falls cX8_falls 5 (some .int) 1 := ⟨wC_yX8_falls, wN_RX8, ⟨by decide +kernel, by decide +kernel, by decide +kernel⟩, by decide⟩
theorem V_X8_falls (C : jK l E X own cc nL d) {i : Nat} {p0 : Int32} {v : Int32} {M' : jM} (hM : K_X8_falls l E [.ref (ja E 60), .int p0] M v M') (hw : Cond.methodLink own i yX8_falls ∈ W0) (hdd : 6 < d) (hd : decode cc pc = .ok (.invokevirtual i, 3)) (hn : lv.length = nL) (hcat : (st.map fun v => v.category).sum ≤ 8) (k : J E X (pc + 3) lv (.int v :: st) M') : J E X pc lv (.int p0 :: .ref (ja E 60) :: st) M := J_callV C (T := TX8) (N := 24) hM ky_X8_falls wI_yX8_falls wE_yX8_falls rfl hw jL_X8 rfl hdd hd hn rfl hcat (fun r m h => by obtain ⟨rfl, rfl⟩ := h; exact k)
abbrev K_X8_odds (l : Launch) (E : jE) (as : List Value) (M : jM) (v : Int64) (M' : jM) : Prop := CL l E 4 yX8_odds cX8_odds 13 (some .long) as M v M'
theorem ky_X8_odds : jy yX8_odds cX8_odds 13 (some .long) 2 := ⟨wC_yX8_odds, wN_RX8, ⟨by decide +kernel, by decide +kernel, by decide +kernel⟩, by decide⟩
theorem V_X8_odds (C : jK l E X own cc nL d) {i : Nat} {p0 : Int32} {p1 : Int32} {v : Int64} {M' : jM} (hM : K_X8_odds l E [.ref (ja E 60), .int p0, .int p1] M v M') (hw : Cond.methodLink own i yX8_odds ∈ W0) (hdd : 4 < d) (hd : decode cc pc = .ok (.invokevirtual i, 3)) (hn : lv.length = nL) (hcat : (st.map fun v => v.category).sum ≤ 8) (k : J E X (pc + 3) lv (.long v :: st) M') : J E X pc lv (.int p1 :: .int p0 :: .ref (ja E 60) :: st) M := J_callV C (T := TX8) (N := 24) hM ky_X8_odds wI_yX8_odds wE_yX8_odds rfl hw jL_X8 rfl hdd hd hn rfl hcat (fun r m h => by obtain ⟨rfl, rfl⟩ := h; exact k)
abbrev K_X8_seed (l : Launch) (E : jE) (as : List Value) (M : jM) (v : Int32) (M' : jM) : Prop := CI l E 0 yX8_seed cX8_seed 3 (some .int) as M v M'
theorem ky_X8_seed : jy yX8_seed cX8_seed 3 (some .int) 1 := ⟨wC_yX8_seed, wN_RX8, ⟨by decide +kernel, by decide +kernel, by decide +kernel⟩, by decide⟩
theorem V_X8_seed (C : jK l E X own cc nL d) {i : Nat} {p0 : Int32} {v : Int32} {M' : jM} (hM : K_X8_seed l E [.ref (ja E 60), .int p0] M v M') (hw : Cond.methodLink own i yX8_seed ∈ W0) (hdd : 0 < d) (hd : decode cc pc = .ok (.invokevirtual i, 3)) (hn : lv.length = nL) (hcat : (st.map fun v => v.category).sum ≤ 8) (k : J E X (pc + 3) lv (.int v :: st) M') : J E X pc lv (.int p0 :: .ref (ja E 60) :: st) M := J_callV C (T := TX8) (N := 24) hM ky_X8_seed wI_yX8_seed wE_yX8_seed rfl hw jL_X8 rfl hdd hd hn rfl hcat (fun r m h => by obtain ⟨rfl, rfl⟩ := h; exact k)
abbrev K_X8_feed (l : Launch) (E : jE) (as : List Value) (M : jM) (v : Int32) (M' : jM) : Prop := CI l E 1 yX8_feed cX8_feed 4 (some .int) as M v M'
theorem ky_X8_feed : jy yX8_feed cX8_feed 4 (some .int) 2 := ⟨wC_yX8_feed, wN_RX8, ⟨by decide +kernel, by decide +kernel, by decide +kernel⟩, by decide⟩
theorem V_X8_feed (C : jK l E X own cc nL d) {i : Nat} {p0 : Int32} {p1 : Int32} {v : Int32} {M' : jM} (hM : K_X8_feed l E [.ref (ja E 60), .int p0, .int p1] M v M') (hw : Cond.methodLink own i yX8_feed ∈ W0) (hdd : 1 < d) (hd : decode cc pc = .ok (.invokevirtual i, 3)) (hn : lv.length = nL) (hcat : (st.map fun v => v.category).sum ≤ 8) (k : J E X (pc + 3) lv (.int v :: st) M') : J E X pc lv (.int p1 :: .int p0 :: .ref (ja E 60) :: st) M := J_callV C (T := TX8) (N := 24) hM ky_X8_feed wI_yX8_feed wE_yX8_feed rfl hw jL_X8 rfl hdd hd hn rfl hcat (fun r m h => by obtain ⟨rfl, rfl⟩ := h; exact k)
abbrev K_X8_wipe (l : Launch) (E : jE) (as : List Value) (M : jM) (v : Int32) (M' : jM) : Prop := CI l E 0 yX8_wipe cX8_wipe 2 (some .int) as M v M'
theorem ky_X8_wipe : jy yX8_wipe cX8_wipe 2 (some .int) 0 := ⟨wC_yX8_wipe, wN_RX8, ⟨by decide +kernel, by decide +kernel, by decide +kernel⟩, by decide⟩
theorem V_X8_wipe (C : jK l E X own cc nL d) {i : Nat}  {v : Int32} {M' : jM} (hM : K_X8_wipe l E [.ref (ja E 60)] M v M') (hw : Cond.methodLink own i yX8_wipe ∈ W0) (hdd : 0 < d) (hd : decode cc pc = .ok (.invokevirtual i, 3)) (hn : lv.length = nL) (hcat : (st.map fun v => v.category).sum ≤ 8) (k : J E X (pc + 3) lv (.int v :: st) M') : J E X pc lv (.ref (ja E 60) :: st) M := J_callV C (T := TX8) (N := 24) hM ky_X8_wipe wI_yX8_wipe wE_yX8_wipe rfl hw jL_X8 rfl hdd hd hn rfl hcat (fun r m h => by obtain ⟨rfl, rfl⟩ := h; exact k)
abbrev K_X8_isLetter (l : Launch) (E : jE) (as : List Value) (M : jM) (v : Int32) (M' : jM) : Prop := CI l E 1 yX8_isLetter cX8_isLetter 1 (some .boolean) as M v M'
theorem ky_X8_isLetter : jy yX8_isLetter cX8_isLetter 1 (some .boolean) 1 := ⟨wC_yX8_isLetter, wN_RX8, ⟨by decide +kernel, by decide +kernel, by decide +kernel⟩, by decide⟩
theorem V_X8_isLetter (C : jK l E X own cc nL d) {i : Nat} {p0 : Int32} {v : Int32} {M' : jM} (hM : K_X8_isLetter l E [.int p0] M v M') (hw : Cond.methodLink own i yX8_isLetter ∈ W0) (hdd : 1 < d) (hd : decode cc pc = .ok (.invokestatic i, 3)) (hn : lv.length = nL) (hcat : (st.map fun v => v.category).sum ≤ 8) (k : J E X (pc + 3) lv (.int v :: st) M') : J E X pc lv (.int p0 :: st) M := J_callS C hM ky_X8_isLetter wS_yX8_isLetter hw hdd hd hn rfl hcat (fun r m h => by obtain ⟨rfl, rfl⟩ := h; exact k)
abbrev K_X8_isDigit (l : Launch) (E : jE) (as : List Value) (M : jM) (v : Int32) (M' : jM) : Prop := CI l E 1 yX8_isDigit cX8_isDigit 1 (some .boolean) as M v M'
theorem ky_X8_isDigit : jy yX8_isDigit cX8_isDigit 1 (some .boolean) 1 := ⟨wC_yX8_isDigit, wN_RX8, ⟨by decide +kernel, by decide +kernel, by decide +kernel⟩, by decide⟩
theorem V_X8_isDigit (C : jK l E X own cc nL d) {i : Nat} {p0 : Int32} {v : Int32} {M' : jM} (hM : K_X8_isDigit l E [.int p0] M v M') (hw : Cond.methodLink own i yX8_isDigit ∈ W0) (hdd : 1 < d) (hd : decode cc pc = .ok (.invokestatic i, 3)) (hn : lv.length = nL) (hcat : (st.map fun v => v.category).sum ≤ 8) (k : J E X (pc + 3) lv (.int v :: st) M') : J E X pc lv (.int p0 :: st) M := J_callS C hM ky_X8_isDigit wS_yX8_isDigit hw hdd hd hn rfl hcat (fun r m h => by obtain ⟨rfl, rfl⟩ := h; exact k)
abbrev K_X8_nextToken (l : Launch) (E : jE) (as : List Value) (M : jM) (M' : jM) : Prop := CV l E 2 yX8_nextToken cX8_nextToken 1 none as M M'
theorem ky_X8_nextToken : jy yX8_nextToken cX8_nextToken 1 none 0 := ⟨wC_yX8_nextToken, wN_RX8, ⟨by decide +kernel, by decide +kernel, by decide +kernel⟩, by decide⟩
theorem V_X8_nextToken (C : jK l E X own cc nL d) {i : Nat}  {M' : jM} (hM : K_X8_nextToken l E [.ref (ja E 60)] M M') (hw : Cond.methodLink own i yX8_nextToken ∈ W0) (hdd : 2 < d) (hd : decode cc pc = .ok (.invokevirtual i, 3)) (hn : lv.length = nL) (hcat : (st.map fun v => v.category).sum ≤ 8) (k : J E X (pc + 3) lv (st) M') : J E X pc lv (.ref (ja E 60) :: st) M := J_callV C (T := TX8) (N := 24) hM ky_X8_nextToken wI_yX8_nextToken wE_yX8_nextToken rfl hw jL_X8 rfl hdd hd hn rfl hcat (fun r m h => by obtain ⟨rfl, rfl⟩ := h; exact k)
abbrev K_X8_wordOf (l : Launch) (E : jE) (as : List Value) (M : jM) (v : Int32) (M' : jM) : Prop := CI l E 0 yX8_wordOf cX8_wordOf 7 (some .int) as M v M'
theorem ky_X8_wordOf : jy yX8_wordOf cX8_wordOf 7 (some .int) 1 := ⟨wC_yX8_wordOf, wN_RX8, ⟨by decide +kernel, by decide +kernel, by decide +kernel⟩, by decide⟩
theorem V_X8_wordOf (C : jK l E X own cc nL d) {i : Nat} {p0 : Nat} {v : Int32} {M' : jM} (hM : K_X8_wordOf l E [.ref (ja E 60), .ref p0] M v M') (hw : Cond.methodLink own i yX8_wordOf ∈ W0) (hdd : 0 < d) (hd : decode cc pc = .ok (.invokevirtual i, 3)) (hn : lv.length = nL) (hcat : (st.map fun v => v.category).sum ≤ 8) (k : J E X (pc + 3) lv (.int v :: st) M') : J E X pc lv (.ref p0 :: .ref (ja E 60) :: st) M := J_callV C (T := TX8) (N := 24) hM ky_X8_wordOf wI_yX8_wordOf wE_yX8_wordOf rfl hw jL_X8 rfl hdd hd hn rfl hcat (fun r m h => by obtain ⟨rfl, rfl⟩ := h; exact k)
abbrev K_X8_takesNumber (l : Launch) (E : jE) (as : List Value) (M : jM) (v : Int32) (M' : jM) : Prop := CI l E 3 yX8_takesNumber cX8_takesNumber 4 (some .int) as M v M'
theorem ky_X8_takesNumber : jy yX8_takesNumber cX8_takesNumber 4 (some .int) 2 := ⟨wC_yX8_takesNumber, wN_RX8, ⟨by decide +kernel, by decide +kernel, by decide +kernel⟩, by decide⟩
theorem V_X8_takesNumber (C : jK l E X own cc nL d) {i : Nat} {p0 : Int32} {p1 : Int32} {v : Int32} {M' : jM} (hM : K_X8_takesNumber l E [.ref (ja E 60), .int p0, .int p1] M v M') (hw : Cond.methodLink own i yX8_takesNumber ∈ W0) (hdd : 3 < d) (hd : decode cc pc = .ok (.invokevirtual i, 3)) (hn : lv.length = nL) (hcat : (st.map fun v => v.category).sum ≤ 8) (k : J E X (pc + 3) lv (.int v :: st) M') : J E X pc lv (.int p1 :: .int p0 :: .ref (ja E 60) :: st) M := J_callV C (T := TX8) (N := 24) hM ky_X8_takesNumber wI_yX8_takesNumber wE_yX8_takesNumber rfl hw jL_X8 rfl hdd hd hn rfl hcat (fun r m h => by obtain ⟨rfl, rfl⟩ := h; exact k)
abbrev K_X8_readsThing (l : Launch) (E : jE) (as : List Value) (M : jM) (v : Int32) (M' : jM) : Prop := CI l E 4 yX8_readsThing cX8_readsThing 5 (some .boolean) as M v M'
theorem ky_X8_readsThing : jy yX8_readsThing cX8_readsThing 5 (some .boolean) 1 := ⟨wC_yX8_readsThing, wN_RX8, ⟨by decide +kernel, by decide +kernel, by decide +kernel⟩, by decide⟩
theorem V_X8_readsThing (C : jK l E X own cc nL d) {i : Nat} {p0 : Int32} {v : Int32} {M' : jM} (hM : K_X8_readsThing l E [.ref (ja E 60), .int p0] M v M') (hw : Cond.methodLink own i yX8_readsThing ∈ W0) (hdd : 4 < d) (hd : decode cc pc = .ok (.invokevirtual i, 3)) (hn : lv.length = nL) (hcat : (st.map fun v => v.category).sum ≤ 8) (k : J E X (pc + 3) lv (.int v :: st) M') : J E X pc lv (.int p0 :: .ref (ja E 60) :: st) M := J_callV C (T := TX8) (N := 24) hM ky_X8_readsThing wI_yX8_readsThing wE_yX8_readsThing rfl hw jL_X8 rfl hdd hd hn rfl hcat (fun r m h => by obtain ⟨rfl, rfl⟩ := h; exact k)
abbrev K_X8_readsPond (l : Launch) (E : jE) (as : List Value) (M : jM) (v : Int32) (M' : jM) : Prop := CI l E 4 yX8_readsPond cX8_readsPond 5 (some .boolean) as M v M'
theorem ky_X8_readsPond : jy yX8_readsPond cX8_readsPond 5 (some .boolean) 0 := ⟨wC_yX8_readsPond, wN_RX8, ⟨by decide +kernel, by decide +kernel, by decide +kernel⟩, by decide⟩
theorem V_X8_readsPond (C : jK l E X own cc nL d) {i : Nat}  {v : Int32} {M' : jM} (hM : K_X8_readsPond l E [.ref (ja E 60)] M v M') (hw : Cond.methodLink own i yX8_readsPond ∈ W0) (hdd : 4 < d) (hd : decode cc pc = .ok (.invokevirtual i, 3)) (hn : lv.length = nL) (hcat : (st.map fun v => v.category).sum ≤ 8) (k : J E X (pc + 3) lv (.int v :: st) M') : J E X pc lv (.ref (ja E 60) :: st) M := J_callV C (T := TX8) (N := 24) hM ky_X8_readsPond wI_yX8_readsPond wE_yX8_readsPond rfl hw jL_X8 rfl hdd hd hn rfl hcat (fun r m h => by obtain ⟨rfl, rfl⟩ := h; exact k)
abbrev K_X8_readsItem (l : Launch) (E : jE) (as : List Value) (M : jM) (v : Int32) (M' : jM) : Prop := CI l E 5 yX8_readsItem cX8_readsItem 3 (some .boolean) as M v M'
theorem ky_X8_readsItem : jy yX8_readsItem cX8_readsItem 3 (some .boolean) 0 := ⟨wC_yX8_readsItem, wN_RX8, ⟨by decide +kernel, by decide +kernel, by decide +kernel⟩, by decide⟩
theorem V_X8_readsItem (C : jK l E X own cc nL d) {i : Nat}  {v : Int32} {M' : jM} (hM : K_X8_readsItem l E [.ref (ja E 60)] M v M') (hw : Cond.methodLink own i yX8_readsItem ∈ W0) (hdd : 5 < d) (hd : decode cc pc = .ok (.invokevirtual i, 3)) (hn : lv.length = nL) (hcat : (st.map fun v => v.category).sum ≤ 8) (k : J E X (pc + 3) lv (.int v :: st) M') : J E X pc lv (.ref (ja E 60) :: st) M := J_callV C (T := TX8) (N := 24) hM ky_X8_readsItem wI_yX8_readsItem wE_yX8_readsItem rfl hw jL_X8 rfl hdd hd hn rfl hcat (fun r m h => by obtain ⟨rfl, rfl⟩ := h; exact k)
abbrev K_X8_text (l : Launch) (E : jE) (as : List Value) (M : jM) (v : Int32) (M' : jM) : Prop := CI l E 6 yX8_text cX8_text 3 (some .int) as M v M'
theorem ky_X8_text : jy yX8_text cX8_text 3 (some .int) 0 := ⟨wC_yX8_text, wN_RX8, ⟨by decide +kernel, by decide +kernel, by decide +kernel⟩, by decide⟩
theorem V_X8_text (C : jK l E X own cc nL d) {i : Nat}  {v : Int32} {M' : jM} (hM : K_X8_text l E [.ref (ja E 60)] M v M') (hw : Cond.methodLink own i yX8_text ∈ W0) (hdd : 6 < d) (hd : decode cc pc = .ok (.invokevirtual i, 3)) (hn : lv.length = nL) (hcat : (st.map fun v => v.category).sum ≤ 8) (k : J E X (pc + 3) lv (.int v :: st) M') : J E X pc lv (.ref (ja E 60) :: st) M := J_callV C (T := TX8) (N := 24) hM ky_X8_text wI_yX8_text wE_yX8_text rfl hw jL_X8 rfl hdd hd hn rfl hcat (fun r m h => by obtain ⟨rfl, rfl⟩ := h; exact k)
abbrev K_X8_isSpot (l : Launch) (E : jE) (as : List Value) (M : jM) (v : Int32) (M' : jM) : Prop := CI l E 1 yX8_isSpot cX8_isSpot 1 (some .boolean) as M v M'
theorem ky_X8_isSpot : jy yX8_isSpot cX8_isSpot 1 (some .boolean) 1 := ⟨wC_yX8_isSpot, wN_RX8, ⟨by decide +kernel, by decide +kernel, by decide +kernel⟩, by decide⟩
theorem V_X8_isSpot (C : jK l E X own cc nL d) {i : Nat} {p0 : Int32} {v : Int32} {M' : jM} (hM : K_X8_isSpot l E [.int p0] M v M') (hw : Cond.methodLink own i yX8_isSpot ∈ W0) (hdd : 1 < d) (hd : decode cc pc = .ok (.invokestatic i, 3)) (hn : lv.length = nL) (hcat : (st.map fun v => v.category).sum ≤ 8) (k : J E X (pc + 3) lv (.int v :: st) M') : J E X pc lv (.int p0 :: st) M := J_callS C hM ky_X8_isSpot wS_yX8_isSpot hw hdd hd hn rfl hcat (fun r m h => by obtain ⟨rfl, rfl⟩ := h; exact k)
abbrev K_X8_hold (l : Launch) (E : jE) (as : List Value) (M : jM) (v : Int32) (M' : jM) : Prop := CI l E 2 yX8_hold cX8_hold 3 (some .int) as M v M'
theorem ky_X8_hold : jy yX8_hold cX8_hold 3 (some .int) 2 := ⟨wC_yX8_hold, wN_RX8, ⟨by decide +kernel, by decide +kernel, by decide +kernel⟩, by decide⟩
theorem V_X8_hold (C : jK l E X own cc nL d) {i : Nat} {p0 : Int32} {p1 : Int32} {v : Int32} {M' : jM} (hM : K_X8_hold l E [.ref (ja E 60), .int p0, .int p1] M v M') (hw : Cond.methodLink own i yX8_hold ∈ W0) (hdd : 2 < d) (hd : decode cc pc = .ok (.invokevirtual i, 3)) (hn : lv.length = nL) (hcat : (st.map fun v => v.category).sum ≤ 8) (k : J E X (pc + 3) lv (.int v :: st) M') : J E X pc lv (.int p1 :: .int p0 :: .ref (ja E 60) :: st) M := J_callV C (T := TX8) (N := 24) hM ky_X8_hold wI_yX8_hold wE_yX8_hold rfl hw jL_X8 rfl hdd hd hn rfl hcat (fun r m h => by obtain ⟨rfl, rfl⟩ := h; exact k)
abbrev K_X8_above (l : Launch) (E : jE) (as : List Value) (M : jM) (v : Int32) (M' : jM) : Prop := CI l E 0 yX8_above cX8_above 1 (some .int) as M v M'
theorem ky_X8_above : jy yX8_above cX8_above 1 (some .int) 1 := ⟨wC_yX8_above, wN_RX8, ⟨by decide +kernel, by decide +kernel, by decide +kernel⟩, by decide⟩
theorem V_X8_above (C : jK l E X own cc nL d) {i : Nat} {p0 : Int32} {v : Int32} {M' : jM} (hM : K_X8_above l E [.int p0] M v M') (hw : Cond.methodLink own i yX8_above ∈ W0) (hdd : 0 < d) (hd : decode cc pc = .ok (.invokestatic i, 3)) (hn : lv.length = nL) (hcat : (st.map fun v => v.category).sum ≤ 8) (k : J E X (pc + 3) lv (.int v :: st) M') : J E X pc lv (.int p0 :: st) M := J_callS C hM ky_X8_above wS_yX8_above hw hdd hd hn rfl hcat (fun r m h => by obtain ⟨rfl, rfl⟩ := h; exact k)
abbrev K_X8_as (l : Launch) (E : jE) (as : List Value) (M : jM) (v : Int32) (M' : jM) : Prop := CI l E 2 yX8_as cX8_as 5 (some .int) as M v M'
theorem ky_X8_as : jy yX8_as cX8_as 5 (some .int) 2 := ⟨wC_yX8_as, wN_RX8, ⟨by decide +kernel, by decide +kernel, by decide +kernel⟩, by decide⟩
theorem V_X8_as (C : jK l E X own cc nL d) {i : Nat} {p0 : Int32} {p1 : Int32} {v : Int32} {M' : jM} (hM : K_X8_as l E [.ref (ja E 60), .int p0, .int p1] M v M') (hw : Cond.methodLink own i yX8_as ∈ W0) (hdd : 2 < d) (hd : decode cc pc = .ok (.invokevirtual i, 3)) (hn : lv.length = nL) (hcat : (st.map fun v => v.category).sum ≤ 8) (k : J E X (pc + 3) lv (.int v :: st) M') : J E X pc lv (.int p1 :: .int p0 :: .ref (ja E 60) :: st) M := J_callV C (T := TX8) (N := 24) hM ky_X8_as wI_yX8_as wE_yX8_as rfl hw jL_X8 rfl hdd hd hn rfl hcat (fun r m h => by obtain ⟨rfl, rfl⟩ := h; exact k)
abbrev K_X8_sheet (l : Launch) (E : jE) (as : List Value) (M : jM) (v : Int32) (M' : jM) : Prop := CI l E 2 yX8_sheet cX8_sheet 5 (some .int) as M v M'
theorem ky_X8_sheet : jy yX8_sheet cX8_sheet 5 (some .int) 3 := ⟨wC_yX8_sheet, wN_RX8, ⟨by decide +kernel, by decide +kernel, by decide +kernel⟩, by decide⟩
theorem V_X8_sheet (C : jK l E X own cc nL d) {i : Nat} {p0 : Int32} {p1 : Int32} {p2 : Int32} {v : Int32} {M' : jM} (hM : K_X8_sheet l E [.ref (ja E 60), .int p0, .int p1, .int p2] M v M') (hw : Cond.methodLink own i yX8_sheet ∈ W0) (hdd : 2 < d) (hd : decode cc pc = .ok (.invokevirtual i, 3)) (hn : lv.length = nL) (hcat : (st.map fun v => v.category).sum ≤ 8) (k : J E X (pc + 3) lv (.int v :: st) M') : J E X pc lv (.int p2 :: .int p1 :: .int p0 :: .ref (ja E 60) :: st) M := J_callV C (T := TX8) (N := 24) hM ky_X8_sheet wI_yX8_sheet wE_yX8_sheet rfl hw jL_X8 rfl hdd hd hn rfl hcat (fun r m h => by obtain ⟨rfl, rfl⟩ := h; exact k)
abbrev K_X8_write (l : Launch) (E : jE) (as : List Value) (M : jM) (v : Int32) (M' : jM) : Prop := CI l E 3 yX8_write cX8_write 5 (some .int) as M v M'
theorem ky_X8_write : jy yX8_write cX8_write 5 (some .int) 3 := ⟨wC_yX8_write, wN_RX8, ⟨by decide +kernel, by decide +kernel, by decide +kernel⟩, by decide⟩
theorem V_X8_write (C : jK l E X own cc nL d) {i : Nat} {p0 : Int32} {p1 : Int32} {p2 : Int32} {v : Int32} {M' : jM} (hM : K_X8_write l E [.ref (ja E 60), .int p0, .int p1, .int p2] M v M') (hw : Cond.methodLink own i yX8_write ∈ W0) (hdd : 3 < d) (hd : decode cc pc = .ok (.invokevirtual i, 3)) (hn : lv.length = nL) (hcat : (st.map fun v => v.category).sum ≤ 8) (k : J E X (pc + 3) lv (.int v :: st) M') : J E X pc lv (.int p2 :: .int p1 :: .int p0 :: .ref (ja E 60) :: st) M := J_callV C (T := TX8) (N := 24) hM ky_X8_write wI_yX8_write wE_yX8_write rfl hw jL_X8 rfl hdd hd hn rfl hcat (fun r m h => by obtain ⟨rfl, rfl⟩ := h; exact k)
abbrev K_X8_copy (l : Launch) (E : jE) (as : List Value) (M : jM) (v : Int32) (M' : jM) : Prop := CI l E 2 yX8_copy cX8_copy 7 (some .int) as M v M'
theorem ky_X8_copy : jy yX8_copy cX8_copy 7 (some .int) 5 := ⟨wC_yX8_copy, wN_RX8, ⟨by decide +kernel, by decide +kernel, by decide +kernel⟩, by decide⟩
theorem V_X8_copy (C : jK l E X own cc nL d) {i : Nat} {p0 : Int32} {p1 : Int32} {p2 : Int32} {p3 : Int32} {p4 : Int32} {v : Int32} {M' : jM} (hM : K_X8_copy l E [.ref (ja E 60), .int p0, .int p1, .int p2, .int p3, .int p4] M v M') (hw : Cond.methodLink own i yX8_copy ∈ W0) (hdd : 2 < d) (hd : decode cc pc = .ok (.invokevirtual i, 3)) (hn : lv.length = nL) (hcat : (st.map fun v => v.category).sum ≤ 8) (k : J E X (pc + 3) lv (.int v :: st) M') : J E X pc lv (.int p4 :: .int p3 :: .int p2 :: .int p1 :: .int p0 :: .ref (ja E 60) :: st) M := J_callV C (T := TX8) (N := 24) hM ky_X8_copy wI_yX8_copy wE_yX8_copy rfl hw jL_X8 rfl hdd hd hn rfl hcat (fun r m h => by obtain ⟨rfl, rfl⟩ := h; exact k)
abbrev K_X8_load (l : Launch) (E : jE) (as : List Value) (M : jM) (v : Int32) (M' : jM) : Prop := CI l E 3 yX8_load cX8_load 4 (some .int) as M v M'
theorem ky_X8_load : jy yX8_load cX8_load 4 (some .int) 1 := ⟨wC_yX8_load, wN_RX8, ⟨by decide +kernel, by decide +kernel, by decide +kernel⟩, by decide⟩
theorem V_X8_load (C : jK l E X own cc nL d) {i : Nat} {p0 : Int32} {v : Int32} {M' : jM} (hM : K_X8_load l E [.ref (ja E 60), .int p0] M v M') (hw : Cond.methodLink own i yX8_load ∈ W0) (hdd : 3 < d) (hd : decode cc pc = .ok (.invokevirtual i, 3)) (hn : lv.length = nL) (hcat : (st.map fun v => v.category).sum ≤ 8) (k : J E X (pc + 3) lv (.int v :: st) M') : J E X pc lv (.int p0 :: .ref (ja E 60) :: st) M := J_callV C (T := TX8) (N := 24) hM ky_X8_load wI_yX8_load wE_yX8_load rfl hw jL_X8 rfl hdd hd hn rfl hcat (fun r m h => by obtain ⟨rfl, rfl⟩ := h; exact k)
abbrev K_X8_judge (l : Launch) (E : jE) (as : List Value) (M : jM) (v : Int32) (M' : jM) : Prop := CI l E 3 yX8_judge cX8_judge 5 (some .int) as M v M'
theorem ky_X8_judge : jy yX8_judge cX8_judge 5 (some .int) 1 := ⟨wC_yX8_judge, wN_RX8, ⟨by decide +kernel, by decide +kernel, by decide +kernel⟩, by decide⟩
theorem V_X8_judge (C : jK l E X own cc nL d) {i : Nat} {p0 : Int32} {v : Int32} {M' : jM} (hM : K_X8_judge l E [.ref (ja E 60), .int p0] M v M') (hw : Cond.methodLink own i yX8_judge ∈ W0) (hdd : 3 < d) (hd : decode cc pc = .ok (.invokevirtual i, 3)) (hn : lv.length = nL) (hcat : (st.map fun v => v.category).sum ≤ 8) (k : J E X (pc + 3) lv (.int v :: st) M') : J E X pc lv (.int p0 :: .ref (ja E 60) :: st) M := J_callV C (T := TX8) (N := 24) hM ky_X8_judge wI_yX8_judge wE_yX8_judge rfl hw jL_X8 rfl hdd hd hn rfl hcat (fun r m h => by obtain ⟨rfl, rfl⟩ := h; exact k)
abbrev K_X8_image (l : Launch) (E : jE) (as : List Value) (M : jM) (v : Int32) (M' : jM) : Prop := CI l E 0 yX8_image cX8_image 2 (some .int) as M v M'
theorem ky_X8_image : jy yX8_image cX8_image 2 (some .int) 0 := ⟨wC_yX8_image, wN_RX8, ⟨by decide +kernel, by decide +kernel, by decide +kernel⟩, by decide⟩
theorem V_X8_image (C : jK l E X own cc nL d) {i : Nat}  {v : Int32} {M' : jM} (hM : K_X8_image l E [.ref (ja E 60)] M v M') (hw : Cond.methodLink own i yX8_image ∈ W0) (hdd : 0 < d) (hd : decode cc pc = .ok (.invokevirtual i, 3)) (hn : lv.length = nL) (hcat : (st.map fun v => v.category).sum ≤ 8) (k : J E X (pc + 3) lv (.int v :: st) M') : J E X pc lv (.ref (ja E 60) :: st) M := J_callV C (T := TX8) (N := 24) hM ky_X8_image wI_yX8_image wE_yX8_image rfl hw jL_X8 rfl hdd hd hn rfl hcat (fun r m h => by obtain ⟨rfl, rfl⟩ := h; exact k)
abbrev K_X8_undo (l : Launch) (E : jE) (as : List Value) (M : jM) (v : Int32) (M' : jM) : Prop := CI l E 1 yX8_undo cX8_undo 2 (some .int) as M v M'
theorem ky_X8_undo : jy yX8_undo cX8_undo 2 (some .int) 0 := ⟨wC_yX8_undo, wN_RX8, ⟨by decide +kernel, by decide +kernel, by decide +kernel⟩, by decide⟩
theorem V_X8_undo (C : jK l E X own cc nL d) {i : Nat}  {v : Int32} {M' : jM} (hM : K_X8_undo l E [.ref (ja E 60)] M v M') (hw : Cond.methodLink own i yX8_undo ∈ W0) (hdd : 1 < d) (hd : decode cc pc = .ok (.invokevirtual i, 3)) (hn : lv.length = nL) (hcat : (st.map fun v => v.category).sum ≤ 8) (k : J E X (pc + 3) lv (.int v :: st) M') : J E X pc lv (.ref (ja E 60) :: st) M := J_callV C (T := TX8) (N := 24) hM ky_X8_undo wI_yX8_undo wE_yX8_undo rfl hw jL_X8 rfl hdd hd hn rfl hcat (fun r m h => by obtain ⟨rfl, rfl⟩ := h; exact k)
abbrev K_X8_tear (l : Launch) (E : jE) (as : List Value) (M : jM) (v : Int32) (M' : jM) : Prop := CI l E 0 yX8_tear cX8_tear 2 (some .int) as M v M'
theorem ky_X8_tear : jy yX8_tear cX8_tear 2 (some .int) 0 := ⟨wC_yX8_tear, wN_RX8, ⟨by decide +kernel, by decide +kernel, by decide +kernel⟩, by decide⟩
theorem V_X8_tear (C : jK l E X own cc nL d) {i : Nat}  {v : Int32} {M' : jM} (hM : K_X8_tear l E [.ref (ja E 60)] M v M') (hw : Cond.methodLink own i yX8_tear ∈ W0) (hdd : 0 < d) (hd : decode cc pc = .ok (.invokevirtual i, 3)) (hn : lv.length = nL) (hcat : (st.map fun v => v.category).sum ≤ 8) (k : J E X (pc + 3) lv (.int v :: st) M') : J E X pc lv (.ref (ja E 60) :: st) M := J_callV C (T := TX8) (N := 24) hM ky_X8_tear wI_yX8_tear wE_yX8_tear rfl hw jL_X8 rfl hdd hd hn rfl hcat (fun r m h => by obtain ⟨rfl, rfl⟩ := h; exact k)
abbrev K_X8_count (l : Launch) (E : jE) (as : List Value) (M : jM) (v : Int32) (M' : jM) : Prop := CI l E 4 yX8_count cX8_count 4 (some .int) as M v M'
theorem ky_X8_count : jy yX8_count cX8_count 4 (some .int) 1 := ⟨wC_yX8_count, wN_RX8, ⟨by decide +kernel, by decide +kernel, by decide +kernel⟩, by decide⟩
theorem V_X8_count (C : jK l E X own cc nL d) {i : Nat} {p0 : Int32} {v : Int32} {M' : jM} (hM : K_X8_count l E [.ref (ja E 60), .int p0] M v M') (hw : Cond.methodLink own i yX8_count ∈ W0) (hdd : 4 < d) (hd : decode cc pc = .ok (.invokevirtual i, 3)) (hn : lv.length = nL) (hcat : (st.map fun v => v.category).sum ≤ 8) (k : J E X (pc + 3) lv (.int v :: st) M') : J E X pc lv (.int p0 :: .ref (ja E 60) :: st) M := J_callV C (T := TX8) (N := 24) hM ky_X8_count wI_yX8_count wE_yX8_count rfl hw jL_X8 rfl hdd hd hn rfl hcat (fun r m h => by obtain ⟨rfl, rfl⟩ := h; exact k)
abbrev K_X8_status (l : Launch) (E : jE) (as : List Value) (M : jM) (v : Int32) (M' : jM) : Prop := CI l E 1 yX8_status cX8_status 4 (some .int) as M v M'
theorem ky_X8_status : jy yX8_status cX8_status 4 (some .int) 1 := ⟨wC_yX8_status, wN_RX8, ⟨by decide +kernel, by decide +kernel, by decide +kernel⟩, by decide⟩
theorem V_X8_status (C : jK l E X own cc nL d) {i : Nat} {p0 : Int32} {v : Int32} {M' : jM} (hM : K_X8_status l E [.ref (ja E 60), .int p0] M v M') (hw : Cond.methodLink own i yX8_status ∈ W0) (hdd : 1 < d) (hd : decode cc pc = .ok (.invokevirtual i, 3)) (hn : lv.length = nL) (hcat : (st.map fun v => v.category).sum ≤ 8) (k : J E X (pc + 3) lv (.int v :: st) M') : J E X pc lv (.int p0 :: .ref (ja E 60) :: st) M := J_callV C (T := TX8) (N := 24) hM ky_X8_status wI_yX8_status wE_yX8_status rfl hw jL_X8 rfl hdd hd hn rfl hcat (fun r m h => by obtain ⟨rfl, rfl⟩ := h; exact k)
end KC
/-! a fen as a row of 134 numbers, the same for the three fens and the reference's own rows -/
def vb (b : Nat) (M : jM) : Nat → Int32 := fun j => if j < 134 then M (b + j) else 0
theorem vb_at {b j : Nat} {M : jM} (h : j < 134) : vb b M j = M (b + j) := if_pos h
def lay (b : Nat) (M : jM) (S : Nat → Int32) : jM := fun a => if b ≤ a ∧ a < b + 134 then S (a - b) else M a
def Can (S : Nat → Int32) : Prop := ∀ j, 134 ≤ j → S j = 0
theorem Can_vb (b : Nat) (M : jM) : Can (vb b M) := fun j h => if_neg (by omega)
theorem Can_upd {S : Nat → Int32} {j : Nat} {x : Int32} (h : Can S) (hj : j < 134) : Can (upd S j x) := fun i hi => by
  rw [pk_un (by omega)]; exact h i hi
theorem vb_lay {b : Nat} {M : jM} {S : Nat → Int32} (h : Can S) : vb b (lay b M S) = S := by
  funext j
  unfold vb lay
  by_cases hj : j < 134
  · rw [if_pos hj, if_pos (by omega), Nat.add_sub_cancel_left]
  · rw [if_neg hj]; exact (h j (by omega)).symm
theorem vb_lay_ne {b b' : Nat} {M : jM} {S : Nat → Int32} (h : b' + 134 ≤ b ∨ b + 134 ≤ b') : vb b' (lay b M S) = vb b' M := by
  funext j
  unfold vb lay
  by_cases hj : j < 134
  · rw [if_pos hj, if_pos hj, if_neg (by omega)]
  · rw [if_neg hj, if_neg hj]
theorem lay_lay {b : Nat} {M : jM} {S S' : Nat → Int32} : lay b (lay b M S) S' = lay b M S' := by
  funext a
  unfold lay
  by_cases h : b ≤ a ∧ a < b + 134
  · rw [if_pos h, if_pos h]
  · rw [if_neg h, if_neg h, if_neg h]
theorem lay_vb {b : Nat} {M : jM} : lay b M (vb b M) = M := by
  funext a
  unfold lay vb
  by_cases h : b ≤ a ∧ a < b + 134
  · rw [if_pos h, if_pos (by omega), show b + (a - b) = a by omega]
  · rw [if_neg h]
theorem lay_out {b a : Nat} {M : jM} {S : Nat → Int32} (h : a < b ∨ b + 134 ≤ a) : lay b M S a = M a := if_neg (by omega)
theorem lay_upd {b j : Nat} {M : jM} {x : Int32} (h : j < 134) : upd M (b + j) x = lay b M (upd (vb b M) j x) := by
  funext a
  unfold lay upd
  by_cases h1 : b ≤ a ∧ a < b + 134
  · rw [if_pos h1]
    by_cases h2 : a = b + j
    · rw [if_pos h2, if_pos (by omega)]
    · rw [if_neg h2, if_neg (by omega), vb_at (by omega), show b + (a - b) = a by omega]
  · rw [if_neg h1, if_neg (by omega)]
theorem vb_upd {b j : Nat} {M : jM} {x : Int32} (h : j < 134) : vb b (upd M (b + j) x) = upd (vb b M) j x := by
  rw [lay_upd h, vb_lay (Can_upd (Can_vb b M) h)]
theorem vb_upd_ne {b a : Nat} {M : jM} {x : Int32} (h : a < b ∨ b + 134 ≤ a) : vb b (upd M a x) = vb b M := by
  funext j
  unfold vb
  by_cases hj : j < 134
  · rw [if_pos hj, if_pos hj, pk_un (by omega)]
  · rw [if_neg hj, if_neg hj]
/-! what a fen's numbers are: naturals in their bounds -/
def nv (x : Int32) : Nat := x.toNatClampNeg
def f6 (S : Nat → Int32) (p w : Nat) : Nat := nv (S (4 + 6 * p + w))
def f3 (S : Nat → Int32) (k w : Nat) : Nat := nv (S (100 + 3 * k + w))
/-- minute, how many things, rain -/
def iM (S : Nat → Int32) : Nat := nv (S 0)
def iN (S : Nat → Int32) : Nat := nv (S 1)
def iR (S : Nat → Int32) : Nat := nv (S 3)
def mx6 (w : Nat) : Nat := [15, 9, 3, 1, 15, 99].getD w 0
def mx3 (w : Nat) : Nat := [6, 15, 99].getD w 0
def IS (S : Nat → Int32) : Prop :=
  Can S ∧ (∀ p, p < 16 → ∀ w, w < 6 → S (4 + 6 * p + w) = nI (f6 S p w) ∧ f6 S p w ≤ mx6 w) ∧ (∀ p, p < 16 → f6 S p 0 ≠ p ∧ 1 ≤ f6 S p 1) ∧
  (∀ k, k < 8 → ∀ w, w < 3 → S (100 + 3 * k + w) = nI (f3 S k w) ∧ f3 S k w ≤ mx3 w) ∧
  (S 0 = nI (iM S) ∧ iM S ≤ 99999) ∧ (S 1 = nI (iN S) ∧ iN S ≤ 8) ∧ (S 3 = nI (iR S) ∧ iR S ≤ 1) ∧
  (∀ j, j < 10 → S (124 + j) = -1 ∨ ∃ t, t < iN S ∧ S (124 + j) = nI t)
section JV
variable {l : Launch} {E : jE} {X : jX} {own : String} {cc : ByteArray} {nL d : Nat} {pc : Nat} {lv : List (Option Value)} {st : List Value} {M : jM}
theorem m6 {b p w : Nat} (h : IS (vb b M)) (hp : p < 16) (hw : w < 6) : M (b + (4 + 6 * p + w)) = nI (f6 (vb b M) p w) := by
  rw [← vb_at (M := M) (b := b) (j := 4 + 6 * p + w) (by omega)]; exact (h.2.1 p hp w hw).1
theorem m3 {b k w : Nat} (h : IS (vb b M)) (hk : k < 8) (hw : w < 3) : M (b + (100 + 3 * k + w)) = nI (f3 (vb b M) k w) := by
  rw [← vb_at (M := M) (b := b) (j := 100 + 3 * k + w) (by omega)]; exact (h.2.2.2.1 k hk w hw).1
theorem mM {b : Nat} (h : IS (vb b M)) : M b = nI (iM (vb b M)) := by
  have := h.2.2.2.2.1.1
  rw [vb_at (by omega)] at this
  exact this
theorem mN {b : Nat} (h : IS (vb b M)) : M (b + 1) = nI (iN (vb b M)) := by
  have := h.2.2.2.2.2.1.1
  rw [vb_at (by omega)] at this
  exact this
theorem mR {b : Nat} (h : IS (vb b M)) : M (b + 3) = nI (iR (vb b M)) := by
  have := h.2.2.2.2.2.2.1.1
  rw [vb_at (by omega)] at this
  exact this
theorem leM {S : Nat → Int32} (h : IS S) : iM S ≤ 99999 := h.2.2.2.2.1.2
theorem leN {S : Nat → Int32} (h : IS S) : iN S ≤ 8 := h.2.2.2.2.2.1.2
theorem leR {S : Nat → Int32} (h : IS S) : iR S ≤ 1 := h.2.2.2.2.2.2.1.2
theorem le6 {S : Nat → Int32} (h : IS S) {p w : Nat} (hp : p < 16) (hw : w < 6) : f6 S p w ≤ mx6 w := (h.2.1 p hp w hw).2
theorem le3 {S : Nat → Int32} (h : IS S) {k w : Nat} (hk : k < 8) (hw : w < 3) : f3 S k w ≤ mx3 w := (h.2.2.2.1 k hk w hw).2
theorem lt60 {S : Nat → Int32} (h : IS S) {p : Nat} (hp : p < 16) : f6 S p 0 < 16 := Nat.lt_of_le_of_lt (le6 h hp (by decide)) (by decide)
theorem lt64 {S : Nat → Int32} (h : IS S) {p : Nat} (hp : p < 16) : f6 S p 4 < 16 := Nat.lt_of_le_of_lt (le6 h hp (by decide)) (by decide)
theorem lt31 {S : Nat → Int32} (h : IS S) {k : Nat} (hk : k < 8) : f3 S k 1 < 16 := Nat.lt_of_le_of_lt (le3 h hk (by decide)) (by decide)
theorem lt30 {S : Nat → Int32} (h : IS S) {k : Nat} (hk : k < 8) : f3 S k 0 < 7 := Nat.lt_of_le_of_lt (le3 h hk (by decide)) (by decide)
theorem ne60 {S : Nat → Int32} (h : IS S) {p : Nat} (hp : p < 16) : f6 S p 0 ≠ p := (h.2.2.1 p hp).1
/-! rows of a fen whose numbers are in their bounds -/
theorem Q_fr (C : jK l E X own cc nL d) {f w j : Nat} (hf : f < 3) (hS : IS (vb (fb f) M)) (hw : w < 6) {i : Int32} (hi : i = nI j) (hj : j < 16) (hd : decode cc pc = .ok (.iaload, 1)) (k : J E X (pc + 1) lv (.int (nI (f6 (vb (fb f) M) j w)) :: st) M) : J E X pc lv (.int i :: .ref (ja E (fr f w)) :: st) M :=
  R_fr C hf hw hi hj hd (by rw [m6 hS hj hw]; exact k)
theorem Q_fk (C : jK l E X own cc nL d) {f w j : Nat} (hf : f < 3) (hS : IS (vb (fb f) M)) (hw : w < 3) {i : Int32} (hi : i = nI j) (hj : j < 8) (hd : decode cc pc = .ok (.iaload, 1)) (k : J E X (pc + 1) lv (.int (nI (f3 (vb (fb f) M) j w)) :: st) M) : J E X pc lv (.int i :: .ref (ja E (fk f w)) :: st) M :=
  R_fk C hf hw hi hj hd (by rw [m3 hS hj hw]; exact k)
theorem H_X1_size (C : jK l E X own cc nL d) {i f : Nat} (hf : f < 3) (hS : IS (vb (fb f) M)) (hw : Cond.fieldLink own i "PondLenses$Fen" "size" "I" ∈ W0) (hd : decode cc pc = .ok (.getfield i, 3)) (k : J E X (pc + 3) lv (.int (nI (iN (vb (fb f) M))) :: st) M) : J E X pc lv (.ref (ja E (fo f)) :: st) M :=
  G_X1_size C hf hw hd (by rw [mN hS]; exact k)
theorem H_X1_rain (C : jK l E X own cc nL d) {i f : Nat} (hf : f < 3) (hS : IS (vb (fb f) M)) (hw : Cond.fieldLink own i "PondLenses$Fen" "rain" "I" ∈ W0) (hd : decode cc pc = .ok (.getfield i, 3)) (k : J E X (pc + 3) lv (.int (nI (iR (vb (fb f) M))) :: st) M) : J E X pc lv (.ref (ja E (fo f)) :: st) M :=
  G_X1_rain C hf hw hd (by rw [mR hS]; exact k)
theorem H_X1_minute (C : jK l E X own cc nL d) {i f : Nat} (hf : f < 3) (hS : IS (vb (fb f) M)) (hw : Cond.fieldLink own i "PondLenses$Fen" "minute" "I" ∈ W0) (hd : decode cc pc = .ok (.getfield i, 3)) (k : J E X (pc + 3) lv (.int (nI (iM (vb (fb f) M))) :: st) M) : J E X pc lv (.ref (ja E (fo f)) :: st) M :=
  G_X1_minute C hf hw hd (by rw [mM hS]; exact k)
end JV
/-! sets of small numbers as ints, and their like -/
def b1 (n : Nat) : Int32 := nI 1 <<< (nI n &&& 31)
def orL : Nat → (Nat → Bool) → Int32
  | 0, _ => nI 0
  | n + 1, P => orL n P ||| (if P n then b1 n else nI 0)
theorem i_or0 (x : Int32) : x ||| nI 0 = x := by
  apply Int32.toBitVec_inj.mp
  show x.toBitVec ||| 0#32 = x.toBitVec
  simp
theorem orL_t {n : Nat} {P : Nat → Bool} (h : P n = true) : orL n P ||| b1 n = orL (n + 1) P := by simp [orL, h]
theorem orL_f {n : Nat} {P : Nat → Bool} (h : P n = false) : orL n P = orL (n + 1) P := by simp [orL, h, i_or0]
theorem orL_cong {n : Nat} {P P' : Nat → Bool} (h : ∀ k, k < n → P k = P' k) : orL n P = orL n P' := by
  induction n with
  | zero => rfl
  | succ n ih => simp only [orL]; rw [ih (fun k hk => h k (by omega)), h n (by omega)]
end
section
section JT
variable {l : Launch} {E : jE} {X : jX} {own : String} {cc : ByteArray} {nL d : Nat} {pc : Nat} {lv : List (Option Value)} {st : List Value} {M : jM}
theorem oi {v v' : Int32} (h : v = v') : some (Value.int v) = some (Value.int v') := by rw [h]
theorem zt {p : Prop} [Decidable p] (h : p) : nI 1 = jb (decide p) := by simp [jb, h]; rfl
theorem zf {p : Prop} [Decidable p] (h : ¬ p) : nI 0 = jb (decide p) := by simp [jb, h]; rfl
theorem bt_t {b : Bool} (h : b = true) : nI 1 = jb b := by rw [h]; rfl
theorem bt_f {b : Bool} (h : b = false) : nI 0 = jb b := by rw [h]; rfl
theorem toNI {x : Int32} {n : Nat} (h0 : 0 ≤ x.toInt) (h1 : x.toInt < n) : ∃ j : Nat, j < n ∧ x = nI j := by
  have hx := Int32.toInt_lt x
  refine ⟨x.toInt.toNat, by omega, Int32.toInt_inj.mp ?_⟩
  rw [nI_toInt (by omega)]
  omega
theorem tI {n : Nat} (h : n < 2 ^ 31) : (nI n).toInt = (n : Int) := nI_toInt h
theorem t0 : (0 : Int32).toInt = 0 := by decide
/-- a number in bounds, as a test -/
def inr (x : Int32) (a b : Int) : Bool := decide (a ≤ x.toInt ∧ x.toInt ≤ b)
theorem inr_t {x : Int32} {a b : Int} (h : inr x a b = true) : a ≤ x.toInt ∧ x.toInt ≤ b := of_decide_eq_true h
theorem inr_f {x : Int32} {a b : Int} (h : inr x a b = false) : ¬ (a ≤ x.toInt ∧ x.toInt ≤ b) := of_decide_eq_false h
theorem inr_n {n : Nat} {a b : Int} (h : n < 2 ^ 31) : inr (nI n) a b = decide (a ≤ (n : Int) ∧ (n : Int) ≤ b) := by unfold inr; rw [tI h]
theorem inr_of {x : Int32} {b : Nat} (h : inr x 0 b = true) : ∃ j : Nat, j ≤ b ∧ x = nI j := by
  have h1 := inr_t h
  obtain ⟨j, hj, e⟩ := toNI (n := b + 1) h1.1 (by omega)
  exact ⟨j, by omega, e⟩
theorem J_icmp_eq_c (C : jK l E X own cc nL d) {x : Int32} {b : Nat} (hb : b < 2 ^ 31) {off : Int} {tgt : Nat} (hd : decode cc pc = .ok (.if_icmp .eq off, 3)) (ht : (pc : Int) + off = (tgt : Int)) (kt : x.toInt = (b : Int) → J E X tgt lv st M) (kf : ¬ x.toInt = (b : Int) → J E X (pc + 3) lv st M) : J E X pc lv (.int (nI b) :: .int x :: st) M := by
  refine J_icmp_eq C hd ht (fun z => kt ?_) (fun z => kf ?_) <;> simp only [← Int32.toInt_inj, Int32.lt_iff_toInt_lt, Int32.le_iff_toInt_le, tI hb] at z <;> first | exact z | omega
theorem J_icmp_eq_t (C : jK l E X own cc nL d) {x y : Int32} {off : Int} {tgt : Nat} (hd : decode cc pc = .ok (.if_icmp .eq off, 3)) (ht : (pc : Int) + off = (tgt : Int)) (kt : x.toInt = y.toInt → J E X tgt lv st M) (kf : ¬ x.toInt = y.toInt → J E X (pc + 3) lv st M) : J E X pc lv (.int y :: .int x :: st) M := by
  refine J_icmp_eq C hd ht (fun z => kt ?_) (fun z => kf ?_) <;> simp only [← Int32.toInt_inj, Int32.lt_iff_toInt_lt, Int32.le_iff_toInt_le] at z <;> first | exact z | omega
theorem J_if_eq_t (C : jK l E X own cc nL d) {x : Int32} {off : Int} {tgt : Nat} (hd : decode cc pc = .ok (.ifCond .eq off, 3)) (ht : (pc : Int) + off = (tgt : Int)) (kt : x.toInt = 0 → J E X tgt lv st M) (kf : ¬ x.toInt = 0 → J E X (pc + 3) lv st M) : J E X pc lv (.int x :: st) M := by
  refine J_if_eq C hd ht (fun z => kt ?_) (fun z => kf ?_) <;> simp only [← Int32.toInt_inj, Int32.lt_iff_toInt_lt, Int32.le_iff_toInt_le, t0] at z <;> first | exact z | omega
theorem J_icmp_ne_c (C : jK l E X own cc nL d) {x : Int32} {b : Nat} (hb : b < 2 ^ 31) {off : Int} {tgt : Nat} (hd : decode cc pc = .ok (.if_icmp .ne off, 3)) (ht : (pc : Int) + off = (tgt : Int)) (kt : ¬ x.toInt = (b : Int) → J E X tgt lv st M) (kf : x.toInt = (b : Int) → J E X (pc + 3) lv st M) : J E X pc lv (.int (nI b) :: .int x :: st) M := by
  refine J_icmp_ne C hd ht (fun z => kt ?_) (fun z => kf ?_) <;> simp only [← Int32.toInt_inj, Int32.lt_iff_toInt_lt, Int32.le_iff_toInt_le, tI hb] at z <;> first | exact z | omega
theorem J_icmp_ne_t (C : jK l E X own cc nL d) {x y : Int32} {off : Int} {tgt : Nat} (hd : decode cc pc = .ok (.if_icmp .ne off, 3)) (ht : (pc : Int) + off = (tgt : Int)) (kt : ¬ x.toInt = y.toInt → J E X tgt lv st M) (kf : x.toInt = y.toInt → J E X (pc + 3) lv st M) : J E X pc lv (.int y :: .int x :: st) M := by
  refine J_icmp_ne C hd ht (fun z => kt ?_) (fun z => kf ?_) <;> simp only [← Int32.toInt_inj, Int32.lt_iff_toInt_lt, Int32.le_iff_toInt_le] at z <;> first | exact z | omega
theorem J_if_ne_t (C : jK l E X own cc nL d) {x : Int32} {off : Int} {tgt : Nat} (hd : decode cc pc = .ok (.ifCond .ne off, 3)) (ht : (pc : Int) + off = (tgt : Int)) (kt : ¬ x.toInt = 0 → J E X tgt lv st M) (kf : x.toInt = 0 → J E X (pc + 3) lv st M) : J E X pc lv (.int x :: st) M := by
  refine J_if_ne C hd ht (fun z => kt ?_) (fun z => kf ?_) <;> simp only [← Int32.toInt_inj, Int32.lt_iff_toInt_lt, Int32.le_iff_toInt_le, t0] at z <;> first | exact z | omega
theorem J_icmp_lt_c (C : jK l E X own cc nL d) {x : Int32} {b : Nat} (hb : b < 2 ^ 31) {off : Int} {tgt : Nat} (hd : decode cc pc = .ok (.if_icmp .lt off, 3)) (ht : (pc : Int) + off = (tgt : Int)) (kt : x.toInt < (b : Int) → J E X tgt lv st M) (kf : (b : Int) ≤ x.toInt → J E X (pc + 3) lv st M) : J E X pc lv (.int (nI b) :: .int x :: st) M := by
  refine J_icmp_lt C hd ht (fun z => kt ?_) (fun z => kf ?_) <;> simp only [← Int32.toInt_inj, Int32.lt_iff_toInt_lt, Int32.le_iff_toInt_le, tI hb] at z <;> first | exact z | omega
theorem J_icmp_lt_t (C : jK l E X own cc nL d) {x y : Int32} {off : Int} {tgt : Nat} (hd : decode cc pc = .ok (.if_icmp .lt off, 3)) (ht : (pc : Int) + off = (tgt : Int)) (kt : x.toInt < y.toInt → J E X tgt lv st M) (kf : y.toInt ≤ x.toInt → J E X (pc + 3) lv st M) : J E X pc lv (.int y :: .int x :: st) M := by
  refine J_icmp_lt C hd ht (fun z => kt ?_) (fun z => kf ?_) <;> simp only [← Int32.toInt_inj, Int32.lt_iff_toInt_lt, Int32.le_iff_toInt_le] at z <;> first | exact z | omega
theorem J_if_lt_t (C : jK l E X own cc nL d) {x : Int32} {off : Int} {tgt : Nat} (hd : decode cc pc = .ok (.ifCond .lt off, 3)) (ht : (pc : Int) + off = (tgt : Int)) (kt : x.toInt < 0 → J E X tgt lv st M) (kf : 0 ≤ x.toInt → J E X (pc + 3) lv st M) : J E X pc lv (.int x :: st) M := by
  refine J_if_lt C hd ht (fun z => kt ?_) (fun z => kf ?_) <;> simp only [← Int32.toInt_inj, Int32.lt_iff_toInt_lt, Int32.le_iff_toInt_le, t0] at z <;> first | exact z | omega
theorem J_icmp_ge_c (C : jK l E X own cc nL d) {x : Int32} {b : Nat} (hb : b < 2 ^ 31) {off : Int} {tgt : Nat} (hd : decode cc pc = .ok (.if_icmp .ge off, 3)) (ht : (pc : Int) + off = (tgt : Int)) (kt : (b : Int) ≤ x.toInt → J E X tgt lv st M) (kf : x.toInt < (b : Int) → J E X (pc + 3) lv st M) : J E X pc lv (.int (nI b) :: .int x :: st) M := by
  refine J_icmp_ge C hd ht (fun z => kt ?_) (fun z => kf ?_) <;> simp only [← Int32.toInt_inj, Int32.lt_iff_toInt_lt, Int32.le_iff_toInt_le, tI hb] at z <;> first | exact z | omega
theorem J_icmp_ge_t (C : jK l E X own cc nL d) {x y : Int32} {off : Int} {tgt : Nat} (hd : decode cc pc = .ok (.if_icmp .ge off, 3)) (ht : (pc : Int) + off = (tgt : Int)) (kt : y.toInt ≤ x.toInt → J E X tgt lv st M) (kf : x.toInt < y.toInt → J E X (pc + 3) lv st M) : J E X pc lv (.int y :: .int x :: st) M := by
  refine J_icmp_ge C hd ht (fun z => kt ?_) (fun z => kf ?_) <;> simp only [← Int32.toInt_inj, Int32.lt_iff_toInt_lt, Int32.le_iff_toInt_le] at z <;> first | exact z | omega
theorem J_if_ge_t (C : jK l E X own cc nL d) {x : Int32} {off : Int} {tgt : Nat} (hd : decode cc pc = .ok (.ifCond .ge off, 3)) (ht : (pc : Int) + off = (tgt : Int)) (kt : 0 ≤ x.toInt → J E X tgt lv st M) (kf : x.toInt < 0 → J E X (pc + 3) lv st M) : J E X pc lv (.int x :: st) M := by
  refine J_if_ge C hd ht (fun z => kt ?_) (fun z => kf ?_) <;> simp only [← Int32.toInt_inj, Int32.lt_iff_toInt_lt, Int32.le_iff_toInt_le, t0] at z <;> first | exact z | omega
theorem J_icmp_gt_c (C : jK l E X own cc nL d) {x : Int32} {b : Nat} (hb : b < 2 ^ 31) {off : Int} {tgt : Nat} (hd : decode cc pc = .ok (.if_icmp .gt off, 3)) (ht : (pc : Int) + off = (tgt : Int)) (kt : (b : Int) < x.toInt → J E X tgt lv st M) (kf : x.toInt ≤ (b : Int) → J E X (pc + 3) lv st M) : J E X pc lv (.int (nI b) :: .int x :: st) M := by
  refine J_icmp_gt C hd ht (fun z => kt ?_) (fun z => kf ?_) <;> simp only [← Int32.toInt_inj, Int32.lt_iff_toInt_lt, Int32.le_iff_toInt_le, tI hb] at z <;> first | exact z | omega
theorem J_icmp_gt_t (C : jK l E X own cc nL d) {x y : Int32} {off : Int} {tgt : Nat} (hd : decode cc pc = .ok (.if_icmp .gt off, 3)) (ht : (pc : Int) + off = (tgt : Int)) (kt : y.toInt < x.toInt → J E X tgt lv st M) (kf : x.toInt ≤ y.toInt → J E X (pc + 3) lv st M) : J E X pc lv (.int y :: .int x :: st) M := by
  refine J_icmp_gt C hd ht (fun z => kt ?_) (fun z => kf ?_) <;> simp only [← Int32.toInt_inj, Int32.lt_iff_toInt_lt, Int32.le_iff_toInt_le] at z <;> first | exact z | omega
theorem J_if_gt_t (C : jK l E X own cc nL d) {x : Int32} {off : Int} {tgt : Nat} (hd : decode cc pc = .ok (.ifCond .gt off, 3)) (ht : (pc : Int) + off = (tgt : Int)) (kt : 0 < x.toInt → J E X tgt lv st M) (kf : x.toInt ≤ 0 → J E X (pc + 3) lv st M) : J E X pc lv (.int x :: st) M := by
  refine J_if_gt C hd ht (fun z => kt ?_) (fun z => kf ?_) <;> simp only [← Int32.toInt_inj, Int32.lt_iff_toInt_lt, Int32.le_iff_toInt_le, t0] at z <;> first | exact z | omega
theorem J_icmp_le_c (C : jK l E X own cc nL d) {x : Int32} {b : Nat} (hb : b < 2 ^ 31) {off : Int} {tgt : Nat} (hd : decode cc pc = .ok (.if_icmp .le off, 3)) (ht : (pc : Int) + off = (tgt : Int)) (kt : x.toInt ≤ (b : Int) → J E X tgt lv st M) (kf : (b : Int) < x.toInt → J E X (pc + 3) lv st M) : J E X pc lv (.int (nI b) :: .int x :: st) M := by
  refine J_icmp_le C hd ht (fun z => kt ?_) (fun z => kf ?_) <;> simp only [← Int32.toInt_inj, Int32.lt_iff_toInt_lt, Int32.le_iff_toInt_le, tI hb] at z <;> first | exact z | omega
theorem J_icmp_le_t (C : jK l E X own cc nL d) {x y : Int32} {off : Int} {tgt : Nat} (hd : decode cc pc = .ok (.if_icmp .le off, 3)) (ht : (pc : Int) + off = (tgt : Int)) (kt : x.toInt ≤ y.toInt → J E X tgt lv st M) (kf : y.toInt < x.toInt → J E X (pc + 3) lv st M) : J E X pc lv (.int y :: .int x :: st) M := by
  refine J_icmp_le C hd ht (fun z => kt ?_) (fun z => kf ?_) <;> simp only [← Int32.toInt_inj, Int32.lt_iff_toInt_lt, Int32.le_iff_toInt_le] at z <;> first | exact z | omega
theorem J_if_le_t (C : jK l E X own cc nL d) {x : Int32} {off : Int} {tgt : Nat} (hd : decode cc pc = .ok (.ifCond .le off, 3)) (ht : (pc : Int) + off = (tgt : Int)) (kt : x.toInt ≤ 0 → J E X tgt lv st M) (kf : 0 < x.toInt → J E X (pc + 3) lv st M) : J E X pc lv (.int x :: st) M := by
  refine J_if_le C hd ht (fun z => kt ?_) (fun z => kf ?_) <;> simp only [← Int32.toInt_inj, Int32.lt_iff_toInt_lt, Int32.le_iff_toInt_le, t0] at z <;> first | exact z | omega
end JT
end
section
section JZ
variable {l : Launch} {E : jE} {X : jX} {own : String} {cc : ByteArray} {nL d : Nat} {pc : Nat} {lv : List (Option Value)} {st : List Value} {M : jM}
theorem J_gets (C : jK l E X own cc nL d) {i k : Nat} (hk : k < 5) (hw : Cond.fieldLink own i RX7 (jtN k) "[I" ∈ W0) (hd : decode cc pc = .ok (.getstatic i, 3)) (kk : J E X (pc + 3) lv (.ref (jt E k) :: st) M) : J E X pc lv st M :=
  fun H locs ls hP hS hl => va_gets C.1.1 C.1.2.1 (C.2.2.1.1 k hk).1 hS C.1.2.2.2.1 (C.1.2.2.2.2 _ hw) (fun _ h => h) hd (kk H locs ls hP hS hl)
theorem J_getsN (C : jK l E X own cc nL d) {i k : Nat} (hk : k < 5) (hw : Cond.fieldLinkNest own i RX7 (jtN k) "[I" RX7 ∈ jNF) (hd : decode cc pc = .ok (.getstatic i, 3)) (kk : J E X (pc + 3) lv (.ref (jt E k) :: st) M) : J E X pc lv st M :=
  fun H locs ls hP hS hl => va_getsN C.1.1 C.1.2.1 (C.2.2.1.1 k hk).1 hS C.1.2.2.2.1 (va_Nw.use rfl (C.2.2.1.2.1 _ hw)) (fun _ h => h) hd (kk H locs ls hP hS hl)
theorem J_tab (C : jK l E X own cc nL d) {k j : Nat} {i : Int32} (hk : k < 5) (hi : i = nI j) (hj : j < (jtV k).length) (hd : decode cc pc = .ok (.iaload, 1)) (kk : J E X (pc + 1) lv (.int ((jtV k).getD j 0) :: st) M) : J E X pc lv (.int i :: .ref (jt E k) :: st) M := by
  intro H locs ls hP hS hl
  have hlen : (jtV k).length < 8 := by
    rcases k with _ | _ | _ | _ | _ | k <;> first | decide | omega
  obtain ⟨h1, h2⟩ := j_ix hi hj (by omega)
  exact va_ti C.1.1 C.1.2.1 (C.2.2.1.1 k hk).2 hS h1 (by rw [h2]) hd (kk H locs ls hP hS hl)
set_option maxRecDepth 100000 in
theorem wC_min : Cond.code Lib.Math.min.name Lib.Math.min.code 2 (some .int) ∈ W0 := W0_t (i := 312) rfl rfl
theorem wS_min : Cond.static Lib.Math.min.name ∈ W0 := wS_yJ9_min_7cf53
theorem J_min (C : jK l E X own cc nL d) {i : Nat} {x y : Int32} (hw : Cond.methodLink own i Lib.Math.min.name ∈ W0) (h0 : 0 < d) (hd : decode cc pc = .ok (.invokestatic i, 3)) (hn : lv.length = nL) (hcat : (st.map fun v => v.category).sum ≤ 8) (kk : J E X (pc + 3) lv (.int (if y < x then y else x) :: st) M) : J E X pc lv (.int y :: .int x :: st) M := by
  intro H locs ls hP hS hl
  have h1 := C.2.2.2.2.2.2.1
  have h2 := C.2.2.2.2.2.2.2.1
  exact va_mmin C.1.1 C.1.2.1 (by rw [C.1.2.2.1, hl.1, hn]) C.1.2.2.2.1 (C.1.2.2.2.2 _ hw) (C.1.2.2.2.2 _ wS_min) (C.1.2.2.2.2 _ wN_RJ9) (C.1.2.2.2.2 _ wC_min) (by omega) (by omega) C.2.2.2.2.2.2.2.2.1 C.2.2.2.2.2.2.2.2.2.1 hd (kk H locs ls hP hS hl)
theorem nI_min {a b : Nat} (ha : a < 2 ^ 31) (hb : b < 2 ^ 31) : (if nI b < nI a then nI b else nI a) = nI (min a b) := by
  by_cases h : b < a
  · rw [if_pos ((nI_ltI hb ha).mpr h), Nat.min_eq_right (by omega)]
  · rw [if_neg (fun z => h ((nI_ltI hb ha).mp z)), Nat.min_eq_left (by omega)]
theorem J_min_n (C : jK l E X own cc nL d) {i : Nat} {a b : Nat} (hw : Cond.methodLink own i Lib.Math.min.name ∈ W0) (ha : a < 2 ^ 31) (hb : b < 2 ^ 31) (h0 : 0 < d) (hd : decode cc pc = .ok (.invokestatic i, 3)) (hn : lv.length = nL) (hcat : (st.map fun v => v.category).sum ≤ 8) (kk : J E X (pc + 3) lv (.int (nI (min a b)) :: st) M) : J E X pc lv (.int (nI b) :: .int (nI a) :: st) M :=
  J_min C hw h0 hd hn hcat (by rw [nI_min ha hb]; exact kk)
/-- a copy of q numbers, out of a row into a row -/
def jcp (M : jM) (b0 s0 b1 s1 p0 p1 q : Nat) : jM := fun a => if b1 + s1 * p1 ≤ a ∧ a < b1 + s1 * (p1 + q) ∧ (a - b1) % s1 = 0 then M (b0 + s0 * (p0 + ((a - b1) / s1 - p1))) else M a
theorem jcp_at {M : jM} {b0 s0 b1 s1 p0 p1 q j : Nat} (hs : 0 < s1) : jcp M b0 s0 b1 s1 p0 p1 q (b1 + s1 * j) = if p1 ≤ j ∧ j < p1 + q then M (b0 + s0 * (p0 + (j - p1))) else M (b1 + s1 * j) := by
  unfold jcp
  rw [Nat.add_sub_cancel_left, Nat.mul_mod_right, Nat.mul_div_cancel_left _ hs]
  by_cases h : p1 ≤ j ∧ j < p1 + q
  · have h1 : s1 * p1 ≤ s1 * j := Nat.mul_le_mul_left _ h.1
    have h2 : s1 * j < s1 * (p1 + q) := Nat.mul_lt_mul_of_pos_left h.2 hs
    rw [if_pos h, if_pos ⟨by omega, by omega, rfl⟩]
  · rw [if_neg h, if_neg]
    rintro ⟨h1, h2, -⟩
    have h3 : s1 * p1 ≤ s1 * j := by omega
    have h4 : s1 * j < s1 * (p1 + q) := by omega
    exact h ⟨Nat.le_of_mul_le_mul_left h3 hs, Nat.lt_of_mul_lt_mul_left h4⟩
theorem jcp_out {M : jM} {b0 s0 b1 s1 p0 p1 q a : Nat} (hs : 0 < s1) (h : ∀ j, p1 ≤ j → j < p1 + q → a ≠ b1 + s1 * j) : jcp M b0 s0 b1 s1 p0 p1 q a = M a := by
  unfold jcp
  rw [if_neg]
  rintro ⟨h1, h2, h3⟩
  have e : a - b1 = s1 * ((a - b1) / s1) := by
    have := Nat.div_add_mod (a - b1) s1
    omega
  have hb : b1 ≤ a := Nat.le_trans (Nat.le_add_right _ _) h1
  have e2 : a = b1 + s1 * ((a - b1) / s1) := by omega
  have h4 : s1 * p1 ≤ s1 * ((a - b1) / s1) := by omega
  have h5 : s1 * ((a - b1) / s1) < s1 * (p1 + q) := by omega
  exact h _ (Nat.le_of_mul_le_mul_left h4 hs) (Nat.lt_of_mul_lt_mul_left h5) e2
theorem J_copy (C : jK l E X own cc nL d) {i k0 k1 n0 b0 s0 n1 b1 s1 p0 p1 q : Nat} (h0 : jL[k0]? = some (.inl (0, n0, b0, s0))) (h1 : jL[k1]? = some (.inl (0, n1, b1, s1))) (hq0 : p0 + q ≤ n0) (hq1 : p1 + q ≤ n1) (hw : Cond.methodLink own i arraycopyName ∈ W0) (h00 : 0 < d) (hd : decode cc pc = .ok (.invokestatic i, 3)) (hn : lv.length = nL) (hcat : (st.map fun v => v.category).sum ≤ 8) (kk : J E X (pc + 3) lv st (jcp M b0 s0 b1 s1 p0 p1 q)) (hn0 : n0 < 1000 := by decide) (hn1 : n1 < 1000 := by decide) (hs1 : 0 < s1 := by decide) : J E X pc lv (.int (nI q) :: .int (nI p1) :: .ref (ja E k1) :: .int (nI p0) :: .ref (ja E k0) :: st) M := by
  intro H locs ls hP hS hl
  have g1 := C.2.2.2.2.2.2.1
  have g2 := C.2.2.2.2.2.2.2.1
  have c0 : (nI p0).toNatClampNeg = p0 := nI_clamp (by omega)
  have c1 : (nI p1).toNatClampNeg = p1 := nI_clamp (by omega)
  have c2 : (nI q).toNatClampNeg = q := nI_clamp (by omega)
  refine va_copyi C.1.1 C.1.2.1 (by rw [C.1.2.2.1, hl.1, hn]) C.1.2.2.2.1 (C.1.2.2.2.2 _ hw) (C.1.2.2.2.2 _ wV_java_lang_System_arraycopy_Ljava_lang_Object_ILjava_lang_Object_II_V_MethodName) (C.1.2.2.2.2 _ wS_java_lang_System_arraycopy_Ljava_lang_Object_ILjava_lang_Object_II_V_MethodName) (C.1.2.2.2.2 _ wN_RJ10) C.2.1 hP (jD_of C.2.2.2.1 C.2.2.2.2.1) hS k0 k1 0 0 (jW_at h0) (jW_at h1) rfl rfl rfl (nI_pos (by omega)) (nI_pos (by omega)) (nI_pos (by omega)) (by rw [c0, c2]; exact hq0) (by rw [c1, c2]; exact hq1) (fun _ _ => rfl) (by omega) ?_ hd (fun H1 locs1 hP1 _ hS1 => ?_)
  · have : nativeFrameWords "java/lang/System" "arraycopy" 5 + 11 ≤ 30 := by decide
    omega
  · have h := jW_set (E := E) (M := M) (M' := jcp M b0 s0 b1 s1 p0 p1 q) h1 (fun a ha => jcp_out hs1 (fun j hj1 hj2 z => ha (by rw [z]; exact jown_of h1 (List.mem_map.mpr ⟨j, List.mem_range.mpr (show j < n1 by omega), rfl⟩))))
    have e : jcA (jcp M b0 s0 b1 s1 p0 p1 q) n1 b1 s1 = va_cpy (jcA M n0 b0 s0) (jcA M n1 b1 s1) p0 p1 q := by
      funext j
      unfold va_cpy jcA
      by_cases hj : j < n1
      · rw [if_pos hj, jcp_at hs1]
        by_cases hp : p1 ≤ j ∧ j < p1 + q
        · rw [if_pos hp, if_pos hp, if_pos (by omega)]
        · rw [if_neg hp, if_neg hp, if_pos hj]
      · rw [if_neg hj, if_neg (by omega), if_neg hj]
    have h' : (jW E M).set k1 (ja E k1, .inl (E.2.2.2.1 0, n1, .inl (va_cpy (jcA M n0 b0 s0) (jcA M n1 b1 s1) p0 p1 q))) = jW E (jcp M b0 s0 b1 s1 p0 p1 q) := by
      rw [← e]; exact h
    rw [c0, c1, c2] at hP1
    exact kk H1 locs1 ls (h' ▸ hP1) hS1 hl
end JZ
end
section
/-! what a fen tells of itself -/
def inS (S : Nat → Int32) (x : Int32) : Int32 := orL (iN S) (fun k => decide (nI (f3 S k 1) = x))
def shwS (S : Nat → Int32) (x : Int32) : Int32 := orL 16 (fun p => decide (nI (f6 S p 0) = x))
def orV : Nat → (Nat → Nat) → Int32
  | 0, _ => nI 0
  | n + 1, f => orV n f ||| b1 (f n)
def fillS (S : Nat → Int32) : Int32 := orV (iN S) (fun k => f3 S k 1)
def bit (x : Int32) (n : Nat) : Bool := decide (¬ (x >>> (nI n &&& 31)) &&& nI 1 = 0)
def sightS (S : Nat → Int32) : Int32 := orL 16 (fun p => bit (fillS S) (f6 S p 0))
def smS (n : Nat) (f : Nat → Nat) : Nat := match n with
  | 0 => 0
  | n + 1 => smS n f + f n
theorem smS_le {f : Nat → Nat} {c : Nat} : ∀ (n : Nat), (∀ k, k < n → f k ≤ c) → smS n f ≤ n * c
  | 0, _ => by simp [smS]
  | n + 1, h => by
    have h1 := smS_le n (fun k hk => h k (by omega))
    have h2 := h n (by omega)
    rw [Nat.succ_mul]
    simp only [smS]
    omega
def lenS (S : Nat → Int32) : Nat := smS (iN S) (fun k => f3 S k 2)
def kindS (t k : Nat) : Bool := bit ((jtV 4).getD t 0) k
def fishS (S : Nat → Int32) (x : Int32) (k : Nat) : Bool := kindS 1 (f3 S k 0) && decide (nI (f3 S k 1) = x)
def anyB : Nat → (Nat → Bool) → Bool
  | 0, _ => false
  | n + 1, P => anyB n P || P n
def hasF (S : Nat → Int32) (x : Int32) : Bool := anyB (iN S) (fishS S x)
theorem anyB_no {n : Nat} {P : Nat → Bool} (h : ∀ k, k < n → P k = false) : anyB n P = false := by
  induction n with
  | zero => rfl
  | succ n ih => simp only [anyB]; rw [ih (fun k hk => h k (by omega)), h n (by omega)]; rfl
theorem anyB_yes {n : Nat} {P : Nat → Bool} {k : Nat} (hk : k < n) (h : P k = true) : anyB n P = true := by
  induction n with
  | zero => omega
  | succ n ih =>
    simp only [anyB]
    by_cases e : k = n
    · subst e; rw [h, Bool.or_true]
    · rw [ih (by omega), Bool.true_or]
def frogS (S : Nat → Int32) (own : Nat) : Nat := if iM S % 2 = 0 then f6 S own 0 else own
/-- the first p below n that P holds of, or n -/
def firstN : Nat → (Nat → Bool) → Nat
  | 0, _ => 0
  | n + 1, P => if firstN n P < n then firstN n P else if P n then n else n + 1
theorem firstN_le (P : Nat → Bool) : ∀ n, firstN n P ≤ n
  | 0 => Nat.le_refl 0
  | n + 1 => by
    have := firstN_le P n
    simp only [firstN]
    split
    · omega
    · split <;> omega
theorem firstN_no {P : Nat → Bool} : ∀ {n : Nat}, (∀ k, k < n → P k = false) → firstN n P = n
  | 0, _ => rfl
  | n + 1, h => by
    simp only [firstN]
    rw [firstN_no (fun k hk => h k (by omega)), if_neg (Nat.lt_irrefl _), h n (by omega)]
    rfl
theorem firstN_eq {P : Nat → Bool} : ∀ {n i : Nat}, i < n → (∀ k, k < i → P k = false) → P i = true → firstN n P = i
  | 0, i, h, _, _ => by omega
  | n + 1, i, h, h1, h2 => by
    have hl := firstN_le P n
    simp only [firstN]
    by_cases e : i = n
    · subst e
      rw [firstN_no h1, if_neg (Nat.lt_irrefl _), if_pos h2]
    · rw [firstN_eq (n := n) (by omega) h1 h2, if_pos (by omega)]
def heronS (S : Nat → Int32) (own : Nat) : Nat := if firstN 16 (fun p => decide (f6 S p 0 = own)) < 16 then (if hasF S (nI (firstN 16 (fun p => decide (f6 S p 0 = own)))) then firstN 16 (fun p => decide (f6 S p 0 = own)) else frogS S own) else frogS S own
def pikeS (S : Nat → Int32) (own : Nat) : Nat := if hasF S (nI (f6 S own 0)) then f6 S own 0 else f6 S own 4
def dryS (S : Nat → Int32) (k : Nat) : Nat := match f3 S k 0 with
  | 1 => f6 S (f3 S k 1) 4
  | 2 => f6 S (f3 S k 1) 0
  | 3 => frogS S (f3 S k 1)
  | 4 => heronS S (f3 S k 1)
  | 5 => if f6 S (f3 S k 1) 5 < f3 S k 2 then f6 S (f3 S k 1) 4 else f3 S k 1
  | 6 => pikeS S (f3 S k 1)
  | _ => f3 S k 1
def nxtS (S : Nat → Int32) (k : Nat) : Nat := (dryS S k + iR S) % 16
def stepS (S : Nat → Int32) (k : Nat) : Nat → Int32 := upd S (100 + 3 * k + 1) (nI (nxtS S k))
def moveS (S : Nat → Int32) : Nat → (Nat → Int32)
  | 0 => S
  | k + 1 => stepS (moveS S k) k
/-- a minute -/
def minS (S : Nat → Int32) : Nat → Int32 := upd (moveS S (iN S)) 0 (nI (min (iM S + 1) 99999))
theorem frog_lt {S : Nat → Int32} (h : IS S) {p : Nat} (hp : p < 16) : frogS S p < 16 := by
  unfold frogS; split
  · exact lt60 h hp
  · exact hp
theorem heron_lt {S : Nat → Int32} (h : IS S) {p : Nat} (hp : p < 16) : heronS S p < 16 := by
  unfold heronS; split
  · split
    · assumption
    · exact frog_lt h hp
  · exact frog_lt h hp
theorem pike_lt {S : Nat → Int32} (h : IS S) {p : Nat} (hp : p < 16) : pikeS S p < 16 := by
  unfold pikeS; split
  · exact lt60 h hp
  · exact lt64 h hp
theorem dry_lt {S : Nat → Int32} (h : IS S) {k : Nat} (hk : k < 8) : dryS S k < 16 := by
  have h1 := lt31 h hk
  unfold dryS
  split
  · exact lt64 h h1
  · exact lt60 h h1
  · exact frog_lt h h1
  · exact heron_lt h h1
  · split
    · exact lt64 h h1
    · exact h1
  · exact pike_lt h h1
  · exact h1
theorem nxt_lt (S : Nat → Int32) (k : Nat) : nxtS S k < 16 := Nat.mod_lt _ (by decide)
section FM
variable {M : jM}
set_option maxRecDepth 4000 in
theorem c_X1_has (l : Launch) (E : jE) (f : Nat) (hf : f < 3) (t : Int32) (hS : IS (vb (fb f) M))  : K_X1_has l E [.ref (ja E (fo f)), .int t] M (jb (inr t 0 ((iN (vb (fb f) M) : Int) - 1))) (M) := by
  refine CT_intro (own := RX1) (by decide) rfl (by simp [Value.category]) (Nat.le_of_ble_eq_true rfl) rfl (fun X C G => ?_)
  show J E X 0 [some (.ref (ja E (fo f))), some (.int t)] [] M
  have hN := leN hS
  refine J_iload_n C (dA DX1_has_0 0 rfl) rfl ?_
  first | refine J_if_lt_n (tgt := 16) C (by omega) (dA DX1_has_0 1 rfl) (by decide) (fun h1 => ?_) (fun h1 => ?_) | refine J_if_lt_t (tgt := 16) C (dA DX1_has_0 1 rfl) (by decide) (fun h1 => ?_) (fun h1 => ?_)
  · refine J_iconst (v := nI 0) C (dA DX1_has_0 8 rfl) (by decide) ?_
    first | exact J_zret C G rfl (dA DX1_has_0 9 rfl) ⟨oi (zt (by omega)), rfl⟩ | exact J_zret C G rfl (dA DX1_has_0 9 rfl) ⟨oi (zf (by omega)), rfl⟩
  · refine J_iload_n C (dA DX1_has_0 2 rfl) rfl ?_
    refine J_aload_n C (dA DX1_has_0 3 rfl) rfl ?_
    refine H_X1_size C hf hS wF_RX1_23 (dA DX1_has_0 4 rfl) ?_
    first | refine J_icmp_ge_n (tgt := 16) C (by omega) (by omega) (dA DX1_has_0 5 rfl) (by decide) (fun h9 => ?_) (fun h9 => ?_) | refine J_icmp_ge_c (tgt := 16) C (by omega) (dA DX1_has_0 5 rfl) (by decide) (fun h9 => ?_) (fun h9 => ?_) | refine J_icmp_ge_t (tgt := 16) C (dA DX1_has_0 5 rfl) (by decide) (fun h9 => ?_) (fun h9 => ?_)
    · refine J_iconst (v := nI 0) C (dA DX1_has_0 8 rfl) (by decide) ?_
      first | exact J_zret C G rfl (dA DX1_has_0 9 rfl) ⟨oi (zt (by omega)), rfl⟩ | exact J_zret C G rfl (dA DX1_has_0 9 rfl) ⟨oi (zf (by omega)), rfl⟩
    · refine J_iconst (v := nI 1) C (dA DX1_has_0 6 rfl) (by decide) ?_
      refine J_goto (tgt := 17) C (dA DX1_has_0 7 rfl) (by decide) ?_
      first | exact J_zret C G rfl (dA DX1_has_0 9 rfl) ⟨oi (zt (by omega)), rfl⟩ | exact J_zret C G rfl (dA DX1_has_0 9 rfl) ⟨oi (zf (by omega)), rfl⟩
set_option maxRecDepth 4000 in
theorem c_X1_isFull (l : Launch) (E : jE) (f : Nat) (hf : f < 3) (hS : IS (vb (fb f) M))  : K_X1_isFull l E [.ref (ja E (fo f))] M (jb (decide (iN (vb (fb f) M) = 8))) (M) := by
  refine CT_intro (own := RX1) (by decide) rfl (by simp [Value.category]) (Nat.le_of_ble_eq_true rfl) rfl (fun X C G => ?_)
  show J E X 0 [some (.ref (ja E (fo f)))] [] M
  have hN := leN hS
  refine J_aload_n C (dA DX1_isFull_0 0 rfl) rfl ?_
  refine H_X1_size C hf hS wF_RX1_23 (dA DX1_isFull_0 1 rfl) ?_
  refine J_bipush (v := nI 8) C (dA DX1_isFull_0 2 rfl) (by decide) ?_
  first | refine J_icmp_lt_n (tgt := 13) C (by omega) (by omega) (dA DX1_isFull_0 3 rfl) (by decide) (fun h6 => ?_) (fun h6 => ?_) | refine J_icmp_lt_c (tgt := 13) C (by omega) (dA DX1_isFull_0 3 rfl) (by decide) (fun h6 => ?_) (fun h6 => ?_) | refine J_icmp_lt_t (tgt := 13) C (dA DX1_isFull_0 3 rfl) (by decide) (fun h6 => ?_) (fun h6 => ?_)
  · refine J_iconst (v := nI 0) C (dA DX1_isFull_0 6 rfl) (by decide) ?_
    first | exact J_zret C G rfl (dA DX1_isFull_0 7 rfl) ⟨oi (zt (by omega)), rfl⟩ | exact J_zret C G rfl (dA DX1_isFull_0 7 rfl) ⟨oi (zf (by omega)), rfl⟩
  · refine J_iconst (v := nI 1) C (dA DX1_isFull_0 4 rfl) (by decide) ?_
    refine J_goto (tgt := 14) C (dA DX1_isFull_0 5 rfl) (by decide) ?_
    first | exact J_zret C G rfl (dA DX1_isFull_0 7 rfl) ⟨oi (zt (by omega)), rfl⟩ | exact J_zret C G rfl (dA DX1_isFull_0 7 rfl) ⟨oi (zf (by omega)), rfl⟩
set_option maxRecDepth 4000 in
theorem c_X1_thingsIn (l : Launch) (E : jE) (f : Nat) (hf : f < 3) (x : Int32) (hS : IS (vb (fb f) M))  : K_X1_thingsIn l E [.ref (ja E (fo f)), .int x] M (inS (vb (fb f) M) x) (M) := by
  refine CT_intro (own := RX1) (by decide) rfl (by simp [Value.category]) (Nat.le_of_ble_eq_true rfl) rfl (fun X C G => ?_)
  show J E X 0 [some (.ref (ja E (fo f))), some (.int x), none, none] [] M
  have hN := leN hS
  have loop : ∀ n i, i + n = iN (vb (fb f) M) → J E X 4 [some (.ref (ja E (fo f))), some (.int x), some (.int (orL i (fun k => decide (nI (f3 (vb (fb f) M) k 1) = x)))), some (.int (nI i))] [] M := by
    intro n
    induction n with
    | zero =>
      intro i hi
      refine J_iload_n C (dA DX1_thingsIn_0 4 rfl) rfl ?_
      refine J_aload_n C (dA DX1_thingsIn_0 5 rfl) rfl ?_
      refine H_X1_size C hf hS wF_RX1_23 (dA DX1_thingsIn_0 6 rfl) ?_
      first | refine J_icmp_ge_n (tgt := 36) C (by omega) (by omega) (dA DX1_thingsIn_0 7 rfl) (by decide) (fun h9 => ?_) (fun h9 => ?_) | refine J_icmp_ge_c (tgt := 36) C (by omega) (dA DX1_thingsIn_0 7 rfl) (by decide) (fun h9 => ?_) (fun h9 => ?_) | refine J_icmp_ge_t (tgt := 36) C (dA DX1_thingsIn_0 7 rfl) (by decide) (fun h9 => ?_) (fun h9 => ?_)
      · refine J_iload_n C (dA DX1_thingsIn_0 24 rfl) rfl ?_
        exact J_iret C G (dA DX1_thingsIn_0 25 rfl) ⟨oi (by unfold inS; rw [← hi]; rfl), rfl⟩
      · exfalso; omega
    | succ n ih =>
      intro i hi
      refine J_iload_n C (dA DX1_thingsIn_0 4 rfl) rfl ?_
      refine J_aload_n C (dA DX1_thingsIn_0 5 rfl) rfl ?_
      refine H_X1_size C hf hS wF_RX1_23 (dA DX1_thingsIn_0 6 rfl) ?_
      first | refine J_icmp_ge_n (tgt := 36) C (by omega) (by omega) (dA DX1_thingsIn_0 7 rfl) (by decide) (fun h9 => ?_) (fun h9 => ?_) | refine J_icmp_ge_c (tgt := 36) C (by omega) (dA DX1_thingsIn_0 7 rfl) (by decide) (fun h9 => ?_) (fun h9 => ?_) | refine J_icmp_ge_t (tgt := 36) C (dA DX1_thingsIn_0 7 rfl) (by decide) (fun h9 => ?_) (fun h9 => ?_)
      · exfalso; omega
      · refine J_aload_n C (dA DX1_thingsIn_0 8 rfl) rfl ?_
        refine G_X1_things C hf wF_RX1_16 (dA DX1_thingsIn_0 9 rfl) ?_
        refine J_iconst (v := nI 1) C (dA DX1_thingsIn_0 10 rfl) (by decide) ?_
        first | refine R_fp C hf rfl (by omega) (dA DX1_thingsIn_0 11 rfl) ?_ | refine R_ft C hf rfl (by omega) (dA DX1_thingsIn_0 11 rfl) ?_ | refine R_sh C rfl (by omega) (dA DX1_thingsIn_0 11 rfl) ?_
        refine J_iload_n C (dA DX1_thingsIn_0 12 rfl) rfl ?_
        first | refine Q_fr C hf hS (by decide) rfl (by omega) (dA DX1_thingsIn_0 13 rfl) ?_ | refine Q_fk C hf hS (by decide) rfl (by omega) (dA DX1_thingsIn_0 13 rfl) ?_ | refine R_fs C hf rfl (by omega) (dA DX1_thingsIn_0 13 rfl) ?_ | refine R_sn C hq rfl (by omega) (dA DX1_thingsIn_0 13 rfl) ?_ | refine R_1 C (hk := rfl) rfl (by omega) (dA DX1_thingsIn_0 13 rfl) ?_
        refine J_iload_n C (dA DX1_thingsIn_0 14 rfl) rfl ?_
        refine J_icmp_ne (tgt := 30) C (dA DX1_thingsIn_0 15 rfl) (by decide) (fun h21 => ?_) (fun h21 => ?_)
        · first | refine J_inc1_3_4 C (dA DX1_thingsIn_0 22 rfl) rfl ?_ | refine J_iinc_3_4 C (dA DX1_thingsIn_0 22 rfl) rfl ?_
          refine J_goto (tgt := 4) C (dA DX1_thingsIn_0 23 rfl) (by decide) ?_
          have h := ih (i + 1) (by omega)
          rw [← orL_f (by simp [h21])] at h
          exact h
        · refine J_iload_n C (dA DX1_thingsIn_0 16 rfl) rfl ?_
          refine J_iconst (v := nI 1) C (dA DX1_thingsIn_0 17 rfl) (by decide) ?_
          refine J_iload_n C (dA DX1_thingsIn_0 18 rfl) rfl ?_
          refine J_ishl C (dA DX1_thingsIn_0 19 rfl) ?_
          refine J_ior C (dA DX1_thingsIn_0 20 rfl) ?_
          refine J_ist_2_4 C (dA DX1_thingsIn_0 21 rfl) rfl ?_
          first | refine J_inc1_3_4 C (dA DX1_thingsIn_0 22 rfl) rfl ?_ | refine J_iinc_3_4 C (dA DX1_thingsIn_0 22 rfl) rfl ?_
          refine J_goto (tgt := 4) C (dA DX1_thingsIn_0 23 rfl) (by decide) ?_
          have h := ih (i + 1) (by omega)
          rw [← orL_t (by simp [h21])] at h
          exact h
  refine J_iconst (v := nI 0) C (dA DX1_thingsIn_0 0 rfl) (by decide) ?_
  refine J_ist_2_4 C (dA DX1_thingsIn_0 1 rfl) rfl ?_
  refine J_iconst (v := nI 0) C (dA DX1_thingsIn_0 2 rfl) (by decide) ?_
  refine J_ist_3_4 C (dA DX1_thingsIn_0 3 rfl) rfl ?_
  exact loop _ 0 (Nat.zero_add _)
set_option maxRecDepth 4000 in
theorem c_X1_thingsSeenIn (l : Launch) (E : jE) (f : Nat) (hf : f < 3) (p : Nat) (hp : p < 16) (hS : IS (vb (fb f) M))  : K_X1_thingsSeenIn l E [.ref (ja E (fo f)), .int (nI p)] M (inS (vb (fb f) M) (nI (f6 (vb (fb f) M) p 0))) (M) := by
  refine CT_intro (own := RX1) (by decide) rfl (by simp [Value.category]) (Nat.le_of_ble_eq_true rfl) rfl (fun X C G => ?_)
  show J E X 0 [some (.ref (ja E (fo f))), some (.int (nI p))] [] M
  refine J_aload_n C (dA DX1_thingsSeenIn_0 0 rfl) rfl ?_
  refine J_aload_n C (dA DX1_thingsSeenIn_0 1 rfl) rfl ?_
  refine G_X1_ponds C hf wF_RX1_11 (dA DX1_thingsSeenIn_0 2 rfl) ?_
  refine J_iconst (v := nI 0) C (dA DX1_thingsSeenIn_0 3 rfl) (by decide) ?_
  first | refine R_fp C hf rfl (by omega) (dA DX1_thingsSeenIn_0 4 rfl) ?_ | refine R_ft C hf rfl (by omega) (dA DX1_thingsSeenIn_0 4 rfl) ?_ | refine R_sh C rfl (by omega) (dA DX1_thingsSeenIn_0 4 rfl) ?_
  refine J_iload_n C (dA DX1_thingsSeenIn_0 5 rfl) rfl ?_
  first | refine Q_fr C hf hS (by decide) rfl (by omega) (dA DX1_thingsSeenIn_0 6 rfl) ?_ | refine Q_fk C hf hS (by decide) rfl (by omega) (dA DX1_thingsSeenIn_0 6 rfl) ?_ | refine R_fs C hf rfl (by omega) (dA DX1_thingsSeenIn_0 6 rfl) ?_ | refine R_sn C hq rfl (by omega) (dA DX1_thingsSeenIn_0 6 rfl) ?_ | refine R_1 C (hk := rfl) rfl (by omega) (dA DX1_thingsSeenIn_0 6 rfl) ?_
  refine V_X1_thingsIn C hf (c_X1_thingsIn l E f hf _ hS) wM_RX1_45 (by decide) (dA DX1_thingsSeenIn_0 7 rfl) rfl (Nat.le_of_ble_eq_true rfl) ?_
  exact J_iret C G (dA DX1_thingsSeenIn_0 8 rfl) ⟨rfl, rfl⟩
set_option maxRecDepth 4000 in
theorem c_X1_showersOf (l : Launch) (E : jE) (f : Nat) (hf : f < 3) (x : Int32) (hS : IS (vb (fb f) M))  : K_X1_showersOf l E [.ref (ja E (fo f)), .int x] M (shwS (vb (fb f) M) x) (M) := by
  refine CT_intro (own := RX1) (by decide) rfl (by simp [Value.category]) (Nat.le_of_ble_eq_true rfl) rfl (fun X C G => ?_)
  show J E X 0 [some (.ref (ja E (fo f))), some (.int x), none, none] [] M
  have hN := leN hS
  have loop : ∀ n i, i + n = 16 → J E X 4 [some (.ref (ja E (fo f))), some (.int x), some (.int (orL i (fun p => decide (nI (f6 (vb (fb f) M) p 0) = x)))), some (.int (nI i))] [] M := by
    intro n
    induction n with
    | zero =>
      intro i hi
      refine J_iload_n C (dA DX1_showersOf_0 4 rfl) rfl ?_
      refine J_bipush (v := nI 16) C (dA DX1_showersOf_0 5 rfl) (by decide) ?_
      first | refine J_icmp_ge_n (tgt := 34) C (by omega) (by omega) (dA DX1_showersOf_0 6 rfl) (by decide) (fun h7 => ?_) (fun h7 => ?_) | refine J_icmp_ge_c (tgt := 34) C (by omega) (dA DX1_showersOf_0 6 rfl) (by decide) (fun h7 => ?_) (fun h7 => ?_) | refine J_icmp_ge_t (tgt := 34) C (dA DX1_showersOf_0 6 rfl) (by decide) (fun h7 => ?_) (fun h7 => ?_)
      · refine J_iload_n C (dA DX1_showersOf_0 23 rfl) rfl ?_
        exact J_iret C G (dA DX1_showersOf_0 24 rfl) ⟨oi (by unfold shwS; rw [← hi]; rfl), rfl⟩
      · exfalso; omega
    | succ n ih =>
      intro i hi
      refine J_iload_n C (dA DX1_showersOf_0 4 rfl) rfl ?_
      refine J_bipush (v := nI 16) C (dA DX1_showersOf_0 5 rfl) (by decide) ?_
      first | refine J_icmp_ge_n (tgt := 34) C (by omega) (by omega) (dA DX1_showersOf_0 6 rfl) (by decide) (fun h7 => ?_) (fun h7 => ?_) | refine J_icmp_ge_c (tgt := 34) C (by omega) (dA DX1_showersOf_0 6 rfl) (by decide) (fun h7 => ?_) (fun h7 => ?_) | refine J_icmp_ge_t (tgt := 34) C (dA DX1_showersOf_0 6 rfl) (by decide) (fun h7 => ?_) (fun h7 => ?_)
      · exfalso; omega
      · refine J_aload_n C (dA DX1_showersOf_0 7 rfl) rfl ?_
        refine G_X1_ponds C hf wF_RX1_11 (dA DX1_showersOf_0 8 rfl) ?_
        refine J_iconst (v := nI 0) C (dA DX1_showersOf_0 9 rfl) (by decide) ?_
        first | refine R_fp C hf rfl (by omega) (dA DX1_showersOf_0 10 rfl) ?_ | refine R_ft C hf rfl (by omega) (dA DX1_showersOf_0 10 rfl) ?_ | refine R_sh C rfl (by omega) (dA DX1_showersOf_0 10 rfl) ?_
        refine J_iload_n C (dA DX1_showersOf_0 11 rfl) rfl ?_
        first | refine Q_fr C hf hS (by decide) rfl (by omega) (dA DX1_showersOf_0 12 rfl) ?_ | refine Q_fk C hf hS (by decide) rfl (by omega) (dA DX1_showersOf_0 12 rfl) ?_ | refine R_fs C hf rfl (by omega) (dA DX1_showersOf_0 12 rfl) ?_ | refine R_sn C hq rfl (by omega) (dA DX1_showersOf_0 12 rfl) ?_ | refine R_1 C (hk := rfl) rfl (by omega) (dA DX1_showersOf_0 12 rfl) ?_
        refine J_iload_n C (dA DX1_showersOf_0 13 rfl) rfl ?_
        refine J_icmp_ne (tgt := 28) C (dA DX1_showersOf_0 14 rfl) (by decide) (fun h19 => ?_) (fun h19 => ?_)
        · first | refine J_inc1_3_4 C (dA DX1_showersOf_0 21 rfl) rfl ?_ | refine J_iinc_3_4 C (dA DX1_showersOf_0 21 rfl) rfl ?_
          refine J_goto (tgt := 4) C (dA DX1_showersOf_0 22 rfl) (by decide) ?_
          have h := ih (i + 1) (by omega)
          rw [← orL_f (by simp [h19])] at h
          exact h
        · refine J_iload_n C (dA DX1_showersOf_0 15 rfl) rfl ?_
          refine J_iconst (v := nI 1) C (dA DX1_showersOf_0 16 rfl) (by decide) ?_
          refine J_iload_n C (dA DX1_showersOf_0 17 rfl) rfl ?_
          refine J_ishl C (dA DX1_showersOf_0 18 rfl) ?_
          refine J_ior C (dA DX1_showersOf_0 19 rfl) ?_
          refine J_ist_2_4 C (dA DX1_showersOf_0 20 rfl) rfl ?_
          first | refine J_inc1_3_4 C (dA DX1_showersOf_0 21 rfl) rfl ?_ | refine J_iinc_3_4 C (dA DX1_showersOf_0 21 rfl) rfl ?_
          refine J_goto (tgt := 4) C (dA DX1_showersOf_0 22 rfl) (by decide) ?_
          have h := ih (i + 1) (by omega)
          rw [← orL_t (by simp [h19])] at h
          exact h
  refine J_iconst (v := nI 0) C (dA DX1_showersOf_0 0 rfl) (by decide) ?_
  refine J_ist_2_4 C (dA DX1_showersOf_0 1 rfl) rfl ?_
  refine J_iconst (v := nI 0) C (dA DX1_showersOf_0 2 rfl) (by decide) ?_
  refine J_ist_3_4 C (dA DX1_showersOf_0 3 rfl) rfl ?_
  exact loop _ 0 (Nat.zero_add _)
set_option maxRecDepth 4000 in
theorem c_X1_pondsWithThings (l : Launch) (E : jE) (f : Nat) (hf : f < 3) (hS : IS (vb (fb f) M))  : K_X1_pondsWithThings l E [.ref (ja E (fo f))] M (fillS (vb (fb f) M)) (M) := by
  refine CT_intro (own := RX1) (by decide) rfl (by simp [Value.category]) (Nat.le_of_ble_eq_true rfl) rfl (fun X C G => ?_)
  show J E X 0 [some (.ref (ja E (fo f))), none, none] [] M
  have hN := leN hS
  have loop : ∀ n i, i + n = iN (vb (fb f) M) → J E X 4 [some (.ref (ja E (fo f))), some (.int (orV i (fun k => f3 (vb (fb f) M) k 1))), some (.int (nI i))] [] M := by
    intro n
    induction n with
    | zero =>
      intro i hi
      refine J_iload_n C (dA DX1_pondsWithThings_0 4 rfl) rfl ?_
      refine J_aload_n C (dA DX1_pondsWithThings_0 5 rfl) rfl ?_
      refine H_X1_size C hf hS wF_RX1_23 (dA DX1_pondsWithThings_0 6 rfl) ?_
      first | refine J_icmp_ge_n (tgt := 31) C (by omega) (by omega) (dA DX1_pondsWithThings_0 7 rfl) (by decide) (fun h9 => ?_) (fun h9 => ?_) | refine J_icmp_ge_c (tgt := 31) C (by omega) (dA DX1_pondsWithThings_0 7 rfl) (by decide) (fun h9 => ?_) (fun h9 => ?_) | refine J_icmp_ge_t (tgt := 31) C (dA DX1_pondsWithThings_0 7 rfl) (by decide) (fun h9 => ?_) (fun h9 => ?_)
      · refine J_iload_n C (dA DX1_pondsWithThings_0 21 rfl) rfl ?_
        exact J_iret C G (dA DX1_pondsWithThings_0 22 rfl) ⟨oi (by unfold fillS; rw [← hi]; rfl), rfl⟩
      · exfalso; omega
    | succ n ih =>
      intro i hi
      refine J_iload_n C (dA DX1_pondsWithThings_0 4 rfl) rfl ?_
      refine J_aload_n C (dA DX1_pondsWithThings_0 5 rfl) rfl ?_
      refine H_X1_size C hf hS wF_RX1_23 (dA DX1_pondsWithThings_0 6 rfl) ?_
      first | refine J_icmp_ge_n (tgt := 31) C (by omega) (by omega) (dA DX1_pondsWithThings_0 7 rfl) (by decide) (fun h9 => ?_) (fun h9 => ?_) | refine J_icmp_ge_c (tgt := 31) C (by omega) (dA DX1_pondsWithThings_0 7 rfl) (by decide) (fun h9 => ?_) (fun h9 => ?_) | refine J_icmp_ge_t (tgt := 31) C (dA DX1_pondsWithThings_0 7 rfl) (by decide) (fun h9 => ?_) (fun h9 => ?_)
      · exfalso; omega
      · refine J_iload_n C (dA DX1_pondsWithThings_0 8 rfl) rfl ?_
        refine J_iconst (v := nI 1) C (dA DX1_pondsWithThings_0 9 rfl) (by decide) ?_
        refine J_aload_n C (dA DX1_pondsWithThings_0 10 rfl) rfl ?_
        refine G_X1_things C hf wF_RX1_16 (dA DX1_pondsWithThings_0 11 rfl) ?_
        refine J_iconst (v := nI 1) C (dA DX1_pondsWithThings_0 12 rfl) (by decide) ?_
        first | refine R_fp C hf rfl (by omega) (dA DX1_pondsWithThings_0 13 rfl) ?_ | refine R_ft C hf rfl (by omega) (dA DX1_pondsWithThings_0 13 rfl) ?_ | refine R_sh C rfl (by omega) (dA DX1_pondsWithThings_0 13 rfl) ?_
        refine J_iload_n C (dA DX1_pondsWithThings_0 14 rfl) rfl ?_
        first | refine Q_fr C hf hS (by decide) rfl (by omega) (dA DX1_pondsWithThings_0 15 rfl) ?_ | refine Q_fk C hf hS (by decide) rfl (by omega) (dA DX1_pondsWithThings_0 15 rfl) ?_ | refine R_fs C hf rfl (by omega) (dA DX1_pondsWithThings_0 15 rfl) ?_ | refine R_sn C hq rfl (by omega) (dA DX1_pondsWithThings_0 15 rfl) ?_ | refine R_1 C (hk := rfl) rfl (by omega) (dA DX1_pondsWithThings_0 15 rfl) ?_
        refine J_ishl C (dA DX1_pondsWithThings_0 16 rfl) ?_
        refine J_ior C (dA DX1_pondsWithThings_0 17 rfl) ?_
        refine J_ist_1_3 C (dA DX1_pondsWithThings_0 18 rfl) rfl ?_
        first | refine J_inc1_2_3 C (dA DX1_pondsWithThings_0 19 rfl) rfl ?_ | refine J_iinc_2_3 C (dA DX1_pondsWithThings_0 19 rfl) rfl ?_
        refine J_goto (tgt := 4) C (dA DX1_pondsWithThings_0 20 rfl) (by decide) ?_
        exact ih (i + 1) (by omega)
  refine J_iconst (v := nI 0) C (dA DX1_pondsWithThings_0 0 rfl) (by decide) ?_
  refine J_ist_1_3 C (dA DX1_pondsWithThings_0 1 rfl) rfl ?_
  refine J_iconst (v := nI 0) C (dA DX1_pondsWithThings_0 2 rfl) (by decide) ?_
  refine J_ist_2_3 C (dA DX1_pondsWithThings_0 3 rfl) rfl ?_
  exact loop _ 0 (Nat.zero_add _)
set_option maxRecDepth 4000 in
theorem c_X1_pondsWithSights (l : Launch) (E : jE) (f : Nat) (hf : f < 3) (hS : IS (vb (fb f) M))  : K_X1_pondsWithSights l E [.ref (ja E (fo f))] M (sightS (vb (fb f) M)) (M) := by
  refine CT_intro (own := RX1) (by decide) rfl (by simp [Value.category]) (Nat.le_of_ble_eq_true rfl) rfl (fun X C G => ?_)
  show J E X 0 [some (.ref (ja E (fo f))), none, none, none] [] M
  have hN := leN hS
  have loop : ∀ n i, i + n = 16 → J E X 9 [some (.ref (ja E (fo f))), some (.int (fillS (vb (fb f) M))), some (.int (orL i (fun p => bit (fillS (vb (fb f) M)) (f6 (vb (fb f) M) p 0)))), some (.int (nI i))] [] M := by
    intro n
    induction n with
    | zero =>
      intro i hi
      refine J_iload_n C (dA DX1_pondsWithSights_0 7 rfl) rfl ?_
      refine J_bipush (v := nI 16) C (dA DX1_pondsWithSights_0 8 rfl) (by decide) ?_
      first | refine J_icmp_ge_n (tgt := 42) C (by omega) (by omega) (dA DX1_pondsWithSights_0 9 rfl) (by decide) (fun h12 => ?_) (fun h12 => ?_) | refine J_icmp_ge_c (tgt := 42) C (by omega) (dA DX1_pondsWithSights_0 9 rfl) (by decide) (fun h12 => ?_) (fun h12 => ?_) | refine J_icmp_ge_t (tgt := 42) C (dA DX1_pondsWithSights_0 9 rfl) (by decide) (fun h12 => ?_) (fun h12 => ?_)
      · refine J_iload_n C (dA DX1_pondsWithSights_0 29 rfl) rfl ?_
        exact J_iret C G (dA DX1_pondsWithSights_0 30 rfl) ⟨oi (by unfold sightS; rw [← hi]; rfl), rfl⟩
      · exfalso; omega
    | succ n ih =>
      intro i hi
      refine J_iload_n C (dA DX1_pondsWithSights_0 7 rfl) rfl ?_
      refine J_bipush (v := nI 16) C (dA DX1_pondsWithSights_0 8 rfl) (by decide) ?_
      first | refine J_icmp_ge_n (tgt := 42) C (by omega) (by omega) (dA DX1_pondsWithSights_0 9 rfl) (by decide) (fun h12 => ?_) (fun h12 => ?_) | refine J_icmp_ge_c (tgt := 42) C (by omega) (dA DX1_pondsWithSights_0 9 rfl) (by decide) (fun h12 => ?_) (fun h12 => ?_) | refine J_icmp_ge_t (tgt := 42) C (dA DX1_pondsWithSights_0 9 rfl) (by decide) (fun h12 => ?_) (fun h12 => ?_)
      · exfalso; omega
      · refine J_iload_n C (dA DX1_pondsWithSights_0 10 rfl) rfl ?_
        refine J_aload_n C (dA DX1_pondsWithSights_0 11 rfl) rfl ?_
        refine G_X1_ponds C hf wF_RX1_11 (dA DX1_pondsWithSights_0 12 rfl) ?_
        refine J_iconst (v := nI 0) C (dA DX1_pondsWithSights_0 13 rfl) (by decide) ?_
        first | refine R_fp C hf rfl (by omega) (dA DX1_pondsWithSights_0 14 rfl) ?_ | refine R_ft C hf rfl (by omega) (dA DX1_pondsWithSights_0 14 rfl) ?_ | refine R_sh C rfl (by omega) (dA DX1_pondsWithSights_0 14 rfl) ?_
        refine J_iload_n C (dA DX1_pondsWithSights_0 15 rfl) rfl ?_
        first | refine Q_fr C hf hS (by decide) rfl (by omega) (dA DX1_pondsWithSights_0 16 rfl) ?_ | refine Q_fk C hf hS (by decide) rfl (by omega) (dA DX1_pondsWithSights_0 16 rfl) ?_ | refine R_fs C hf rfl (by omega) (dA DX1_pondsWithSights_0 16 rfl) ?_ | refine R_sn C hq rfl (by omega) (dA DX1_pondsWithSights_0 16 rfl) ?_ | refine R_1 C (hk := rfl) rfl (by omega) (dA DX1_pondsWithSights_0 16 rfl) ?_
        refine J_ishr C (dA DX1_pondsWithSights_0 17 rfl) ?_
        refine J_iconst (v := nI 1) C (dA DX1_pondsWithSights_0 18 rfl) (by decide) ?_
        refine J_iand C (dA DX1_pondsWithSights_0 19 rfl) ?_
        refine J_if_eq (tgt := 36) C (dA DX1_pondsWithSights_0 20 rfl) (by decide) (fun h27 => ?_) (fun h27 => ?_)
        · first | refine J_inc1_3_4 C (dA DX1_pondsWithSights_0 27 rfl) rfl ?_ | refine J_iinc_3_4 C (dA DX1_pondsWithSights_0 27 rfl) rfl ?_
          refine J_goto (tgt := 9) C (dA DX1_pondsWithSights_0 28 rfl) (by decide) ?_
          have h := ih (i + 1) (by omega)
          rw [← orL_f (by simp [bit, h27])] at h
          exact h
        · refine J_iload_n C (dA DX1_pondsWithSights_0 21 rfl) rfl ?_
          refine J_iconst (v := nI 1) C (dA DX1_pondsWithSights_0 22 rfl) (by decide) ?_
          refine J_iload_n C (dA DX1_pondsWithSights_0 23 rfl) rfl ?_
          refine J_ishl C (dA DX1_pondsWithSights_0 24 rfl) ?_
          refine J_ior C (dA DX1_pondsWithSights_0 25 rfl) ?_
          refine J_ist_2_4 C (dA DX1_pondsWithSights_0 26 rfl) rfl ?_
          first | refine J_inc1_3_4 C (dA DX1_pondsWithSights_0 27 rfl) rfl ?_ | refine J_iinc_3_4 C (dA DX1_pondsWithSights_0 27 rfl) rfl ?_
          refine J_goto (tgt := 9) C (dA DX1_pondsWithSights_0 28 rfl) (by decide) ?_
          have h := ih (i + 1) (by omega)
          rw [← orL_t (by simp [bit, h27])] at h
          exact h
  refine J_aload_n C (dA DX1_pondsWithSights_0 0 rfl) rfl ?_
  refine V_X1_pondsWithThings C hf (c_X1_pondsWithThings l E f hf hS) wM_RX1_49 (by decide) (dA DX1_pondsWithSights_0 1 rfl) rfl (Nat.le_of_ble_eq_true rfl) ?_
  refine J_ist_1_4 C (dA DX1_pondsWithSights_0 2 rfl) rfl ?_
  refine J_iconst (v := nI 0) C (dA DX1_pondsWithSights_0 3 rfl) (by decide) ?_
  refine J_ist_2_4 C (dA DX1_pondsWithSights_0 4 rfl) rfl ?_
  refine J_iconst (v := nI 0) C (dA DX1_pondsWithSights_0 5 rfl) (by decide) ?_
  refine J_ist_3_4 C (dA DX1_pondsWithSights_0 6 rfl) rfl ?_
  exact loop _ 0 (Nat.zero_add _)
set_option maxRecDepth 4000 in
theorem c_X1_lengths (l : Launch) (E : jE) (f : Nat) (hf : f < 3) (hS : IS (vb (fb f) M))  : K_X1_lengths l E [.ref (ja E (fo f))] M (nI (lenS (vb (fb f) M))) (M) := by
  refine CT_intro (own := RX1) (by decide) rfl (by simp [Value.category]) (Nat.le_of_ble_eq_true rfl) rfl (fun X C G => ?_)
  show J E X 0 [some (.ref (ja E (fo f))), none, none] [] M
  have hN := leN hS
  have loop : ∀ n i, i + n = iN (vb (fb f) M) → J E X 4 [some (.ref (ja E (fo f))), some (.int (nI (smS i (fun k => f3 (vb (fb f) M) k 2)))), some (.int (nI i))] [] M := by
    intro n
    induction n with
    | zero =>
      intro i hi
      refine J_iload_n C (dA DX1_lengths_0 4 rfl) rfl ?_
      refine J_aload_n C (dA DX1_lengths_0 5 rfl) rfl ?_
      refine H_X1_size C hf hS wF_RX1_23 (dA DX1_lengths_0 6 rfl) ?_
      first | refine J_icmp_ge_n (tgt := 29) C (by omega) (by omega) (dA DX1_lengths_0 7 rfl) (by decide) (fun h9 => ?_) (fun h9 => ?_) | refine J_icmp_ge_c (tgt := 29) C (by omega) (dA DX1_lengths_0 7 rfl) (by decide) (fun h9 => ?_) (fun h9 => ?_) | refine J_icmp_ge_t (tgt := 29) C (dA DX1_lengths_0 7 rfl) (by decide) (fun h9 => ?_) (fun h9 => ?_)
      · refine J_iload_n C (dA DX1_lengths_0 19 rfl) rfl ?_
        exact J_iret C G (dA DX1_lengths_0 20 rfl) ⟨oi (by unfold lenS; rw [← hi]; rfl), rfl⟩
      · exfalso; omega
    | succ n ih =>
      intro i hi
      refine J_iload_n C (dA DX1_lengths_0 4 rfl) rfl ?_
      refine J_aload_n C (dA DX1_lengths_0 5 rfl) rfl ?_
      refine H_X1_size C hf hS wF_RX1_23 (dA DX1_lengths_0 6 rfl) ?_
      first | refine J_icmp_ge_n (tgt := 29) C (by omega) (by omega) (dA DX1_lengths_0 7 rfl) (by decide) (fun h9 => ?_) (fun h9 => ?_) | refine J_icmp_ge_c (tgt := 29) C (by omega) (dA DX1_lengths_0 7 rfl) (by decide) (fun h9 => ?_) (fun h9 => ?_) | refine J_icmp_ge_t (tgt := 29) C (dA DX1_lengths_0 7 rfl) (by decide) (fun h9 => ?_) (fun h9 => ?_)
      · exfalso; omega
      · refine J_iload_n C (dA DX1_lengths_0 8 rfl) rfl ?_
        refine J_aload_n C (dA DX1_lengths_0 9 rfl) rfl ?_
        refine G_X1_things C hf wF_RX1_16 (dA DX1_lengths_0 10 rfl) ?_
        refine J_iconst (v := nI 2) C (dA DX1_lengths_0 11 rfl) (by decide) ?_
        first | refine R_fp C hf rfl (by omega) (dA DX1_lengths_0 12 rfl) ?_ | refine R_ft C hf rfl (by omega) (dA DX1_lengths_0 12 rfl) ?_ | refine R_sh C rfl (by omega) (dA DX1_lengths_0 12 rfl) ?_
        refine J_iload_n C (dA DX1_lengths_0 13 rfl) rfl ?_
        first | refine Q_fr C hf hS (by decide) rfl (by omega) (dA DX1_lengths_0 14 rfl) ?_ | refine Q_fk C hf hS (by decide) rfl (by omega) (dA DX1_lengths_0 14 rfl) ?_ | refine R_fs C hf rfl (by omega) (dA DX1_lengths_0 14 rfl) ?_ | refine R_sn C hq rfl (by omega) (dA DX1_lengths_0 14 rfl) ?_ | refine R_1 C (hk := rfl) rfl (by omega) (dA DX1_lengths_0 14 rfl) ?_
        first | refine J_iadd_n C (dA DX1_lengths_0 15 rfl) ?_ | refine J_iadd C (dA DX1_lengths_0 15 rfl) ?_
        refine J_ist_1_3 C (dA DX1_lengths_0 16 rfl) rfl ?_
        first | refine J_inc1_2_3 C (dA DX1_lengths_0 17 rfl) rfl ?_ | refine J_iinc_2_3 C (dA DX1_lengths_0 17 rfl) rfl ?_
        refine J_goto (tgt := 4) C (dA DX1_lengths_0 18 rfl) (by decide) ?_
        exact ih (i + 1) (by omega)
  refine J_iconst (v := nI 0) C (dA DX1_lengths_0 0 rfl) (by decide) ?_
  refine J_ist_1_3 C (dA DX1_lengths_0 1 rfl) rfl ?_
  refine J_iconst (v := nI 0) C (dA DX1_lengths_0 2 rfl) (by decide) ?_
  refine J_ist_2_3 C (dA DX1_lengths_0 3 rfl) rfl ?_
  exact loop _ 0 (Nat.zero_add _)
set_option maxRecDepth 4000 in
theorem c_X1_nextOfFrog (l : Launch) (E : jE) (f : Nat) (hf : f < 3) (p : Nat) (hp : p < 16) (hS : IS (vb (fb f) M))  : K_X1_nextOfFrog l E [.ref (ja E (fo f)), .int (nI p)] M (nI (frogS (vb (fb f) M) p)) (M) := by
  refine CT_intro (own := RX1) (by decide) rfl (by simp [Value.category]) (Nat.le_of_ble_eq_true rfl) rfl (fun X C G => ?_)
  show J E X 0 [some (.ref (ja E (fo f))), some (.int (nI p))] [] M
  have hM := leM hS
  refine J_aload_n C (dA DX1_nextOfFrog_0 0 rfl) rfl ?_
  refine H_X1_minute C hf hS wF_RX1_30 (dA DX1_nextOfFrog_0 1 rfl) ?_
  refine J_iconst (v := nI 2) C (dA DX1_nextOfFrog_0 2 rfl) (by decide) ?_
  refine J_irem_n C (by omega) (by omega) (by omega) (dA DX1_nextOfFrog_0 3 rfl) ?_
  first | refine J_if_ne_b (tgt := 20) C (dA DX1_nextOfFrog_0 4 rfl) (by decide) (fun h6 => ?_) (fun h6 => ?_) | refine J_if_ne_n (tgt := 20) C (by omega) (dA DX1_nextOfFrog_0 4 rfl) (by decide) (fun h6 => ?_) (fun h6 => ?_) | refine J_if_ne_t (tgt := 20) C (dA DX1_nextOfFrog_0 4 rfl) (by decide) (fun h6 => ?_) (fun h6 => ?_)
  · refine J_iload_n C (dA DX1_nextOfFrog_0 12 rfl) rfl ?_
    exact J_iret C G (dA DX1_nextOfFrog_0 13 rfl) ⟨oi (by unfold frogS; rw [if_neg (by omega)]), rfl⟩
  · refine J_aload_n C (dA DX1_nextOfFrog_0 5 rfl) rfl ?_
    refine G_X1_ponds C hf wF_RX1_11 (dA DX1_nextOfFrog_0 6 rfl) ?_
    refine J_iconst (v := nI 0) C (dA DX1_nextOfFrog_0 7 rfl) (by decide) ?_
    first | refine R_fp C hf rfl (by omega) (dA DX1_nextOfFrog_0 8 rfl) ?_ | refine R_ft C hf rfl (by omega) (dA DX1_nextOfFrog_0 8 rfl) ?_ | refine R_sh C rfl (by omega) (dA DX1_nextOfFrog_0 8 rfl) ?_
    refine J_iload_n C (dA DX1_nextOfFrog_0 9 rfl) rfl ?_
    first | refine Q_fr C hf hS (by decide) rfl (by omega) (dA DX1_nextOfFrog_0 10 rfl) ?_ | refine Q_fk C hf hS (by decide) rfl (by omega) (dA DX1_nextOfFrog_0 10 rfl) ?_ | refine R_fs C hf rfl (by omega) (dA DX1_nextOfFrog_0 10 rfl) ?_ | refine R_sn C hq rfl (by omega) (dA DX1_nextOfFrog_0 10 rfl) ?_ | refine R_1 C (hk := rfl) rfl (by omega) (dA DX1_nextOfFrog_0 10 rfl) ?_
    refine J_goto (tgt := 21) C (dA DX1_nextOfFrog_0 11 rfl) (by decide) ?_
    exact J_iret C G (dA DX1_nextOfFrog_0 13 rfl) ⟨oi (by unfold frogS; rw [if_pos (by omega)]), rfl⟩
set_option maxRecDepth 4000 in
theorem c_X1_hasFishIn (l : Launch) (E : jE) (f : Nat) (hf : f < 3) (x : Int32) (hS : IS (vb (fb f) M))  : K_X1_hasFishIn l E [.ref (ja E (fo f)), .int x] M (jb (hasF (vb (fb f) M) x)) (M) := by
  refine CT_intro (own := RX1) (by decide) rfl (by simp [Value.category]) (Nat.le_of_ble_eq_true rfl) rfl (fun X C G => ?_)
  show J E X 0 [some (.ref (ja E (fo f))), some (.int x), none, none] [] M
  have hN := leN hS
  have loop : ∀ n i (o : Option Value), jok [some (.ref (ja E (fo f))), some (.int x), some (.int (nI i)), o] 3 = true → i + n = iN (vb (fb f) M) → (∀ k, k < i → fishS (vb (fb f) M) x k = false) → J E X 2 [some (.ref (ja E (fo f))), some (.int x), some (.int (nI i)), o] [] M := by
    intro n
    induction n with
    | zero =>
      intro i o ho hi hno
      refine J_iload_n C (dA DX1_hasFishIn_0 2 rfl) rfl ?_
      refine J_aload_n C (dA DX1_hasFishIn_0 3 rfl) rfl ?_
      refine H_X1_size C hf hS wF_RX1_23 (dA DX1_hasFishIn_0 4 rfl) ?_
      first | refine J_icmp_ge_n (tgt := 59) C (by omega) (by omega) (dA DX1_hasFishIn_0 5 rfl) (by decide) (fun h7 => ?_) (fun h7 => ?_) | refine J_icmp_ge_c (tgt := 59) C (by omega) (dA DX1_hasFishIn_0 5 rfl) (by decide) (fun h7 => ?_) (fun h7 => ?_) | refine J_icmp_ge_t (tgt := 59) C (dA DX1_hasFishIn_0 5 rfl) (by decide) (fun h7 => ?_) (fun h7 => ?_)
      · refine J_iconst (v := nI 0) C (dA DX1_hasFishIn_0 37 rfl) (by decide) ?_
        exact J_zret C G rfl (dA DX1_hasFishIn_0 38 rfl) ⟨oi (bt_f (anyB_no (by intro k hk; exact hno k (by omega)))), rfl⟩
      · exfalso; omega
    | succ n ih =>
      intro i o ho hi hno
      refine J_iload_n C (dA DX1_hasFishIn_0 2 rfl) rfl ?_
      refine J_aload_n C (dA DX1_hasFishIn_0 3 rfl) rfl ?_
      refine H_X1_size C hf hS wF_RX1_23 (dA DX1_hasFishIn_0 4 rfl) ?_
      first | refine J_icmp_ge_n (tgt := 59) C (by omega) (by omega) (dA DX1_hasFishIn_0 5 rfl) (by decide) (fun h7 => ?_) (fun h7 => ?_) | refine J_icmp_ge_c (tgt := 59) C (by omega) (dA DX1_hasFishIn_0 5 rfl) (by decide) (fun h7 => ?_) (fun h7 => ?_) | refine J_icmp_ge_t (tgt := 59) C (dA DX1_hasFishIn_0 5 rfl) (by decide) (fun h7 => ?_) (fun h7 => ?_)
      · exfalso; omega
      · refine J_getsN C (k := 4) (by decide) (by decide +kernel) (dA DX1_hasFishIn_0 6 rfl) ?_
        refine J_iconst (v := nI 1) C (dA DX1_hasFishIn_0 7 rfl) (by decide) ?_
        refine J_tab C (j := 1) (by decide) rfl (by decide) (dA DX1_hasFishIn_0 8 rfl) ?_
        refine J_aload_n C (dA DX1_hasFishIn_0 9 rfl) rfl ?_
        refine G_X1_things C hf wF_RX1_16 (dA DX1_hasFishIn_0 10 rfl) ?_
        refine J_iconst (v := nI 0) C (dA DX1_hasFishIn_0 11 rfl) (by decide) ?_
        first | refine R_fp C hf rfl (by omega) (dA DX1_hasFishIn_0 12 rfl) ?_ | refine R_ft C hf rfl (by omega) (dA DX1_hasFishIn_0 12 rfl) ?_ | refine R_sh C rfl (by omega) (dA DX1_hasFishIn_0 12 rfl) ?_
        refine J_iload_n C (dA DX1_hasFishIn_0 13 rfl) rfl ?_
        have h30 := lt30 hS (k := i) (by omega)
        refine Q_fk C hf hS (by decide) rfl (by omega) (dA DX1_hasFishIn_0 14 rfl) ?_
        refine J_ishr C (dA DX1_hasFishIn_0 15 rfl) ?_
        refine J_iconst (v := nI 1) C (dA DX1_hasFishIn_0 16 rfl) (by decide) ?_
        refine J_iand C (dA DX1_hasFishIn_0 17 rfl) ?_
        refine J_if_eq (tgt := 33) C (dA DX1_hasFishIn_0 18 rfl) (by decide) (fun h26 => ?_) (fun h26 => ?_)
        · refine J_iconst (v := nI 0) C (dA DX1_hasFishIn_0 21 rfl) (by decide) ?_
          refine J_ist_3_4 C (dA DX1_hasFishIn_0 22 rfl) ho ?_
          refine J_iload_n C (dA DX1_hasFishIn_0 23 rfl) rfl ?_
          refine J_if_eq_n (tgt := 53) C (by decide) (dA DX1_hasFishIn_0 24 rfl) (by decide) (fun h36 => ?_) (fun h36 => ?_)
          · first | refine J_inc1_2_4 C (dA DX1_hasFishIn_0 35 rfl) rfl ?_ | refine J_iinc_2_4 C (dA DX1_hasFishIn_0 35 rfl) rfl ?_
            refine J_goto (tgt := 2) C (dA DX1_hasFishIn_0 36 rfl) (by decide) ?_
            refine ih (i + 1) _ rfl (by omega) (fun k hk => ?_)
            by_cases e : k = i
            · subst e; have hb : bit ((jtV 4).getD 1 0) (f3 (vb (fb f) M) k 0) = false := decide_eq_false (fun z => z h26)
              simp only [fishS, kindS, hb, Bool.false_and]
            · exact hno k (by omega)
          · exact absurd h36 (by decide)
        · refine J_iconst (v := nI 1) C (dA DX1_hasFishIn_0 19 rfl) (by decide) ?_
          refine J_goto (tgt := 34) C (dA DX1_hasFishIn_0 20 rfl) (by decide) ?_
          refine J_ist_3_4 C (dA DX1_hasFishIn_0 22 rfl) ho ?_
          refine J_iload_n C (dA DX1_hasFishIn_0 23 rfl) rfl ?_
          refine J_if_eq_n (tgt := 53) C (by decide) (dA DX1_hasFishIn_0 24 rfl) (by decide) (fun h36 => ?_) (fun h36 => ?_)
          · exact absurd h36 (by decide)
          · refine J_aload_n C (dA DX1_hasFishIn_0 25 rfl) rfl ?_
            refine G_X1_things C hf wF_RX1_16 (dA DX1_hasFishIn_0 26 rfl) ?_
            refine J_iconst (v := nI 1) C (dA DX1_hasFishIn_0 27 rfl) (by decide) ?_
            first | refine R_fp C hf rfl (by omega) (dA DX1_hasFishIn_0 28 rfl) ?_ | refine R_ft C hf rfl (by omega) (dA DX1_hasFishIn_0 28 rfl) ?_ | refine R_sh C rfl (by omega) (dA DX1_hasFishIn_0 28 rfl) ?_
            refine J_iload_n C (dA DX1_hasFishIn_0 29 rfl) rfl ?_
            first | refine Q_fr C hf hS (by decide) rfl (by omega) (dA DX1_hasFishIn_0 30 rfl) ?_ | refine Q_fk C hf hS (by decide) rfl (by omega) (dA DX1_hasFishIn_0 30 rfl) ?_ | refine R_fs C hf rfl (by omega) (dA DX1_hasFishIn_0 30 rfl) ?_ | refine R_sn C hq rfl (by omega) (dA DX1_hasFishIn_0 30 rfl) ?_ | refine R_1 C (hk := rfl) rfl (by omega) (dA DX1_hasFishIn_0 30 rfl) ?_
            refine J_iload_n C (dA DX1_hasFishIn_0 31 rfl) rfl ?_
            refine J_icmp_ne (tgt := 53) C (dA DX1_hasFishIn_0 32 rfl) (by decide) (fun h48 => ?_) (fun h48 => ?_)
            · first | refine J_inc1_2_4 C (dA DX1_hasFishIn_0 35 rfl) rfl ?_ | refine J_iinc_2_4 C (dA DX1_hasFishIn_0 35 rfl) rfl ?_
              refine J_goto (tgt := 2) C (dA DX1_hasFishIn_0 36 rfl) (by decide) ?_
              refine ih (i + 1) _ rfl (by omega) (fun k hk => ?_)
              by_cases e : k = i
              · subst e; simp only [fishS, h48, decide_false, Bool.and_false]
              · exact hno k (by omega)
            · refine J_iconst (v := nI 1) C (dA DX1_hasFishIn_0 33 rfl) (by decide) ?_
              exact J_zret C G rfl (dA DX1_hasFishIn_0 34 rfl) ⟨oi (bt_t (anyB_yes (k := i) (by omega) (by have hb : bit ((jtV 4).getD 1 0) (f3 (vb (fb f) M) i 0) = true := decide_eq_true h26; simp only [fishS, kindS, hb, h48, decide_true, Bool.and_self]))), rfl⟩
  refine J_iconst (v := nI 0) C (dA DX1_hasFishIn_0 0 rfl) (by decide) ?_
  refine J_ist_2_4 C (dA DX1_hasFishIn_0 1 rfl) rfl ?_
  exact loop _ 0 none rfl (Nat.zero_add _) (fun k hk => by omega)
end FM
end
section
theorem nv_nI {n : Nat} (h : n < 2 ^ 31) : nv (nI n) = n := nI_clamp h
theorem upd_lay {b j : Nat} {M : jM} {T : Nat → Int32} {x : Int32} (hT : Can T) (h : j < 134) : upd (lay b M T) (b + j) x = lay b M (upd T j x) := by
  rw [lay_upd h, vb_lay hT, lay_lay]
theorem mx3_lt {w : Nat} : mx3 w < 100 := by
  unfold mx3; rcases w with _ | _ | _ | w <;> simp
theorem mx6_lt {w : Nat} : mx6 w < 100 := by
  unfold mx6; rcases w with _ | _ | _ | _ | _ | _ | w <;> simp
theorem IS_u3 {S : Nat → Int32} {k w v : Nat} (h : IS S) (hk : k < 8) (hw : w < 3) (hv : v ≤ mx3 w) : IS (upd S (100 + 3 * k + w) (nI v)) := by
  have hv2 := mx3_lt (w := w)
  obtain ⟨h0, h1, h2, h3, h4, h5, h6, h7⟩ := h
  have e6 : ∀ p, p < 16 → ∀ w', w' < 6 → f6 (upd S (100 + 3 * k + w) (nI v)) p w' = f6 S p w' := fun p hp w' hw' => by unfold f6; rw [pk_un (by omega)]
  refine ⟨Can_upd h0 (by omega), fun p hp w' hw' => ?_, fun p hp => ?_, fun k' hk' w' hw' => ?_, ?_, ?_, ?_, fun j hj => ?_⟩
  · rw [e6 p hp w' hw', pk_un (by omega)]; exact h1 p hp w' hw'
  · rw [e6 p hp 0 (by omega), e6 p hp 1 (by omega)]; exact h2 p hp
  · by_cases e : k' = k ∧ w' = w
    · obtain ⟨rfl, rfl⟩ := e
      have : f3 (upd S (100 + 3 * k' + w') (nI v)) k' w' = v := by unfold f3; rw [pk_us, nv_nI (by omega)]
      rw [this, pk_us]; exact ⟨rfl, hv⟩
    · have : f3 (upd S (100 + 3 * k + w) (nI v)) k' w' = f3 S k' w' := by unfold f3; rw [pk_un (by omega)]
      rw [this, pk_un (by omega)]; exact h3 k' hk' w' hw'
  · unfold iM; rw [pk_un (by omega)]; exact h4
  · unfold iN; rw [pk_un (by omega)]; exact h5
  · unfold iR; rw [pk_un (by omega)]; exact h6
  · unfold iN; rw [pk_un (by omega), pk_un (by omega)]; exact h7 j hj
theorem IS_u6 {S : Nat → Int32} {p w v : Nat} (h : IS S) (hp : p < 16) (hw : w < 6) (hv : v ≤ mx6 w) (hz : w = 0 → v ≠ p) (ho : w = 1 → 1 ≤ v) : IS (upd S (4 + 6 * p + w) (nI v)) := by
  have hv2 := mx6_lt (w := w)
  obtain ⟨h0, h1, h2, h3, h4, h5, h6, h7⟩ := h
  have e3 : ∀ k, k < 8 → ∀ w', w' < 3 → f3 (upd S (4 + 6 * p + w) (nI v)) k w' = f3 S k w' := fun k hk w' hw' => by unfold f3; rw [pk_un (by omega)]
  have es : f6 (upd S (4 + 6 * p + w) (nI v)) p w = v := by unfold f6; rw [pk_us, nv_nI (by omega)]
  have en : ∀ p' w', p' < 16 → w' < 6 → ¬ (p' = p ∧ w' = w) → f6 (upd S (4 + 6 * p + w) (nI v)) p' w' = f6 S p' w' := fun p' w' hp' hw' e => by unfold f6; rw [pk_un (by omega)]
  refine ⟨Can_upd h0 (by omega), fun p' hp' w' hw' => ?_, fun p' hp' => ?_, fun k hk w' hw' => ?_, ?_, ?_, ?_, fun j hj => ?_⟩
  · by_cases e : p' = p ∧ w' = w
    · obtain ⟨rfl, rfl⟩ := e
      rw [es, pk_us]; exact ⟨rfl, hv⟩
    · rw [en p' w' hp' hw' e, pk_un (by omega)]; exact h1 p' hp' w' hw'
  · constructor
    · by_cases e : p' = p ∧ 0 = w
      · obtain ⟨rfl, rfl⟩ := e
        rw [es]; exact hz rfl
      · rw [en p' 0 hp' (by omega) e]; exact (h2 p' hp').1
    · by_cases e : p' = p ∧ 1 = w
      · obtain ⟨rfl, rfl⟩ := e
        rw [es]; exact ho rfl
      · rw [en p' 1 hp' (by omega) e]; exact (h2 p' hp').2
  · rw [e3 k hk w' hw', pk_un (by omega)]; exact h3 k hk w' hw'
  · unfold iM; rw [pk_un (by omega)]; exact h4
  · unfold iN; rw [pk_un (by omega)]; exact h5
  · unfold iR; rw [pk_un (by omega)]; exact h6
  · unfold iN; rw [pk_un (by omega), pk_un (by omega)]; exact h7 j hj
theorem IS_lo {S : Nat → Int32} {j : Nat} {x : Int32} (h : IS S) (hj : j < 4) (h0' : j = 0 → x = nI (nv x) ∧ nv x ≤ 99999) (h1' : j = 1 → x = nI (nv x) ∧ nv x ≤ 8 ∧ iN S ≤ nv x) (h3' : j = 3 → x = nI (nv x) ∧ nv x ≤ 1) : IS (upd S j x) := by
  obtain ⟨h0, h1, h2, h3, h4, h5, h6, h7⟩ := h
  have e6 : ∀ p, p < 16 → ∀ w', w' < 6 → f6 (upd S j x) p w' = f6 S p w' := fun p hp w' hw' => by unfold f6; rw [pk_un (by omega)]
  have e3 : ∀ k, k < 8 → ∀ w', w' < 3 → f3 (upd S j x) k w' = f3 S k w' := fun k hk w' hw' => by unfold f3; rw [pk_un (by omega)]
  refine ⟨Can_upd h0 (by omega), fun p hp w' hw' => ?_, fun p hp => ?_, fun k' hk' w' hw' => ?_, ?_, ?_, ?_, fun i hi => ?_⟩
  · rw [e6 p hp w' hw', pk_un (by omega)]; exact h1 p hp w' hw'
  · rw [e6 p hp 0 (by omega), e6 p hp 1 (by omega)]; exact h2 p hp
  · rw [e3 k' hk' w' hw', pk_un (by omega)]; exact h3 k' hk' w' hw'
  · unfold iM
    by_cases e : j = 0
    · subst e; rw [pk_us]; exact h0' rfl
    · rw [pk_un (by omega)]; exact h4
  · unfold iN
    by_cases e : j = 1
    · subst e; rw [pk_us]; exact ⟨(h1' rfl).1, (h1' rfl).2.1⟩
    · rw [pk_un (by omega)]; exact h5
  · unfold iR
    by_cases e : j = 3
    · subst e; rw [pk_us]; exact h3' rfl
    · rw [pk_un (by omega)]; exact h6
  · rw [pk_un (by omega)]
    rcases h7 i hi with h | ⟨t, ht, h⟩
    · exact Or.inl h
    · refine Or.inr ⟨t, ?_, h⟩
      unfold iN
      by_cases e : j = 1
      · subst e; rw [pk_us]; exact Nat.lt_of_lt_of_le ht (h1' rfl).2.2
      · rw [pk_un (by omega)]; exact ht
theorem IS_sp {S : Nat → Int32} {j : Nat} {x : Int32} (h : IS S) (hj : j < 10) (hx : x = -1 ∨ ∃ t, t < iN S ∧ x = nI t) : IS (upd S (124 + j) x) := by
  obtain ⟨h0, h1, h2, h3, h4, h5, h6, h7⟩ := h
  have e6 : ∀ p, p < 16 → ∀ w', w' < 6 → f6 (upd S (124 + j) x) p w' = f6 S p w' := fun p hp w' hw' => by unfold f6; rw [pk_un (by omega)]
  have e3 : ∀ k, k < 8 → ∀ w', w' < 3 → f3 (upd S (124 + j) x) k w' = f3 S k w' := fun k hk w' hw' => by unfold f3; rw [pk_un (by omega)]
  have e1 : iN (upd S (124 + j) x) = iN S := by unfold iN; rw [pk_un (by omega)]
  refine ⟨Can_upd h0 (by omega), fun p hp w' hw' => ?_, fun p hp => ?_, fun k' hk' w' hw' => ?_, ?_, ?_, ?_, fun i hi => ?_⟩
  · rw [e6 p hp w' hw', pk_un (by omega)]; exact h1 p hp w' hw'
  · rw [e6 p hp 0 (by omega), e6 p hp 1 (by omega)]; exact h2 p hp
  · rw [e3 k' hk' w' hw', pk_un (by omega)]; exact h3 k' hk' w' hw'
  · unfold iM; rw [pk_un (by omega)]; exact h4
  · unfold iN; rw [pk_un (by omega)]; exact h5
  · unfold iR; rw [pk_un (by omega)]; exact h6
  · rw [e1]
    by_cases e : i = j
    · subst e; rw [pk_us]; exact hx
    · rw [pk_un (by omega)]; exact h7 i hi
theorem IS_mv {S : Nat → Int32} (h : IS S) : ∀ k, k ≤ 8 → IS (moveS S k) ∧ iN (moveS S k) = iN S ∧ iM (moveS S k) = iM S
  | 0, _ => ⟨h, rfl, rfl⟩
  | k + 1, hk => by
    obtain ⟨g1, g2, g3⟩ := IS_mv h k (by omega)
    have hn := nxt_lt (moveS S k) k
    refine ⟨IS_u3 g1 (by omega) (by omega) (by show _ ≤ 15; omega), ?_, ?_⟩
    · rw [← g2]; show nv (upd (moveS S k) _ _ 1) = _; rw [pk_un (by omega)]; rfl
    · rw [← g3]; show nv (upd (moveS S k) _ _ 0) = _; rw [pk_un (by omega)]; rfl
theorem IS_min {S : Nat → Int32} (h : IS S) : IS (minS S) := by
  have hN := leN h
  refine IS_lo (IS_mv h _ hN).1 (by omega) (fun _ => ?_) (fun z => by omega) (fun z => by omega)
  have : min (iM S + 1) 99999 ≤ 99999 := Nat.min_le_right _ _
  rw [nv_nI (by omega)]
  exact ⟨rfl, this⟩
theorem iN_min {S : Nat → Int32} (h : IS S) : iN (minS S) = iN S := by
  rw [← (IS_mv h _ (leN h)).2.1]; show nv (upd _ 0 _ 1) = _; rw [pk_un (by omega)]; rfl
/-- n minutes -/
def minsS (S : Nat → Int32) : Nat → (Nat → Int32)
  | 0 => S
  | n + 1 => minS (minsS S n)
theorem IS_mins {S : Nat → Int32} (h : IS S) : ∀ n, IS (minsS S n) ∧ iN (minsS S n) = iN S
  | 0 => ⟨h, rfl⟩
  | n + 1 => ⟨IS_min (IS_mins h n).1, (iN_min (IS_mins h n).1).trans (IS_mins h n).2⟩
def itr (S : Nat → Int32) : Nat → Nat → Nat
  | 0, p => p
  | n + 1, p => f6 S (itr S n p) 0
theorem itr_lt {S : Nat → Int32} (h : IS S) : ∀ n {p : Nat}, p < 16 → itr S n p < 16
  | 0, _, hp => hp
  | n + 1, _, hp => lt60 h (itr_lt h n hp)
def cmS (S : Nat → Int32) (a p : Nat) : Bool := anyB 17 (fun i => decide (itr S i a = p))
def rlS (S : Nat → Int32) (p : Nat) : Nat := if firstN 16 (fun i => decide (itr S (i + 1) p = p)) < 16 then firstN 16 (fun i => decide (itr S (i + 1) p = p)) + 1 else 0
def llS (S : Nat → Int32) (p : Nat) : Bool := decide (0 < rlS S p) && !(anyB (rlS S p - 1) (fun i => decide (itr S (i + 1) p < p)))
def drZ (z : Int32) : Int32 := z * nI 1103515245 + nI 12345
def drV (z : Int32) : Nat := (drZ z).toBitVec.toNat / 256
theorem drV_lt (z : Int32) : drV z < 2 ^ 24 := by
  unfold drV
  have := (drZ z).toBitVec.isLt
  omega
theorem drV_eq (z : Int32) : ((drZ z).toUInt32 >>> ((nI 8).toUInt32 &&& Int32.toUInt32 31)).toInt32 = nI (drV z) := by
  have h := pk_ushr (drZ z) (nI 8) 8 (by decide)
  apply Int32.toBitVec_inj.mp
  apply BitVec.eq_of_toNat_eq
  have hl := drV_lt z
  rw [h, pk_tn (n := drV z) (by omega)]
  rfl
section FM
variable {M : jM}
set_option maxRecDepth 4000 in
theorem c_X1_isOfKind (l : Launch) (E : jE) (f : Nat) (hf : f < 3) (t kd : Nat) (ht : t < iN (vb (fb f) M)) (hk : kd < 7) (hS : IS (vb (fb f) M))  : K_X1_isOfKind l E [.ref (ja E (fo f)), .int (nI t), .int (nI kd)] M (jb (kindS kd (f3 (vb (fb f) M) t 0))) (M) := by
  refine CT_intro (own := RX1) (by decide) rfl (by simp [Value.category]) (Nat.le_of_ble_eq_true rfl) rfl (fun X C G => ?_)
  show J E X 0 [some (.ref (ja E (fo f))), some (.int (nI t)), some (.int (nI kd))] [] M
  have h30 := lt30 hS (k := t) (by have := leN hS; omega)
  refine J_getsN C (k := 4) (by decide) (by decide +kernel) (dA DX1_isOfKind_0 0 rfl) ?_
  refine J_iload_n C (dA DX1_isOfKind_0 1 rfl) rfl ?_
  refine J_tab C (k := 4) (j := kd) (by decide) rfl (by simpa [jtV] using hk) (dA DX1_isOfKind_0 2 rfl) ?_
  refine J_aload_n C (dA DX1_isOfKind_0 3 rfl) rfl ?_
  refine G_X1_things C hf wF_RX1_16 (dA DX1_isOfKind_0 4 rfl) ?_
  refine J_iconst (v := nI 0) C (dA DX1_isOfKind_0 5 rfl) (by decide) ?_
  first | refine R_fp C hf rfl (by omega) (dA DX1_isOfKind_0 6 rfl) ?_ | refine R_ft C hf rfl (by omega) (dA DX1_isOfKind_0 6 rfl) ?_ | refine R_sh C rfl (by omega) (dA DX1_isOfKind_0 6 rfl) ?_
  refine J_iload_n C (dA DX1_isOfKind_0 7 rfl) rfl ?_
  refine Q_fk C hf hS (by decide) rfl (by have := leN hS; omega) (dA DX1_isOfKind_0 8 rfl) ?_
  refine J_ishr C (dA DX1_isOfKind_0 9 rfl) ?_
  refine J_iconst (v := nI 1) C (dA DX1_isOfKind_0 10 rfl) (by decide) ?_
  refine J_iand C (dA DX1_isOfKind_0 11 rfl) ?_
  refine J_if_eq (tgt := 23) C (dA DX1_isOfKind_0 12 rfl) (by decide) (fun h16 => ?_) (fun h16 => ?_)
  · refine J_iconst (v := nI 0) C (dA DX1_isOfKind_0 15 rfl) (by decide) ?_
    exact J_zret C G rfl (dA DX1_isOfKind_0 16 rfl) ⟨oi (bt_f (decide_eq_false (fun z => z h16))), rfl⟩
  · refine J_iconst (v := nI 1) C (dA DX1_isOfKind_0 13 rfl) (by decide) ?_
    refine J_goto (tgt := 24) C (dA DX1_isOfKind_0 14 rfl) (by decide) ?_
    exact J_zret C G rfl (dA DX1_isOfKind_0 16 rfl) ⟨oi (bt_t (decide_eq_true h16)), rfl⟩
set_option maxRecDepth 4000 in
theorem c_X1_nextOfHeron (l : Launch) (E : jE) (f : Nat) (hf : f < 3) (p : Nat) (hp : p < 16) (hS : IS (vb (fb f) M))  : K_X1_nextOfHeron l E [.ref (ja E (fo f)), .int (nI p)] M (nI (heronS (vb (fb f) M) p)) (M) := by
  refine CT_intro (own := RX1) (by decide) rfl (by simp [Value.category]) (Nat.le_of_ble_eq_true rfl) rfl (fun X C G => ?_)
  show J E X 0 [some (.ref (ja E (fo f))), some (.int (nI p)), none] [] M
  have loop : ∀ n i, i + n = 16 → (∀ k, k < i → (fun q => decide (f6 (vb (fb f) M) q 0 = p)) k = false) → J E X 2 [some (.ref (ja E (fo f))), some (.int (nI p)), some (.int (nI i))] [] M := by
    intro n
    induction n with
    | zero =>
      intro i hi hno
      refine J_iload_n C (dA DX1_nextOfHeron_0 2 rfl) rfl ?_
      refine J_bipush (v := nI 16) C (dA DX1_nextOfHeron_0 3 rfl) (by decide) ?_
      first | refine J_icmp_ge_n (tgt := 44) C (by omega) (by omega) (dA DX1_nextOfHeron_0 4 rfl) (by decide) (fun h5 => ?_) (fun h5 => ?_) | refine J_icmp_ge_c (tgt := 44) C (by omega) (dA DX1_nextOfHeron_0 4 rfl) (by decide) (fun h5 => ?_) (fun h5 => ?_) | refine J_icmp_ge_t (tgt := 44) C (dA DX1_nextOfHeron_0 4 rfl) (by decide) (fun h5 => ?_) (fun h5 => ?_)
      · refine J_aload_n C (dA DX1_nextOfHeron_0 25 rfl) rfl ?_
        refine J_iload_n C (dA DX1_nextOfHeron_0 26 rfl) rfl ?_
        refine V_X1_nextOfFrog C hf (c_X1_nextOfFrog l E f hf p hp hS) wM_RX1_63 (by decide) (dA DX1_nextOfHeron_0 27 rfl) rfl (Nat.le_of_ble_eq_true rfl) ?_
        exact J_iret C G (dA DX1_nextOfHeron_0 28 rfl) ⟨oi (by unfold heronS; rw [firstN_no (n := 16) (fun k hk => hno k (by omega)), if_neg (by omega)]), rfl⟩
      · exfalso; omega
    | succ n ih =>
      intro i hi hno
      refine J_iload_n C (dA DX1_nextOfHeron_0 2 rfl) rfl ?_
      refine J_bipush (v := nI 16) C (dA DX1_nextOfHeron_0 3 rfl) (by decide) ?_
      first | refine J_icmp_ge_n (tgt := 44) C (by omega) (by omega) (dA DX1_nextOfHeron_0 4 rfl) (by decide) (fun h5 => ?_) (fun h5 => ?_) | refine J_icmp_ge_c (tgt := 44) C (by omega) (dA DX1_nextOfHeron_0 4 rfl) (by decide) (fun h5 => ?_) (fun h5 => ?_) | refine J_icmp_ge_t (tgt := 44) C (dA DX1_nextOfHeron_0 4 rfl) (by decide) (fun h5 => ?_) (fun h5 => ?_)
      · exfalso; omega
      · refine J_aload_n C (dA DX1_nextOfHeron_0 5 rfl) rfl ?_
        refine G_X1_ponds C hf wF_RX1_11 (dA DX1_nextOfHeron_0 6 rfl) ?_
        refine J_iconst (v := nI 0) C (dA DX1_nextOfHeron_0 7 rfl) (by decide) ?_
        first | refine R_fp C hf rfl (by omega) (dA DX1_nextOfHeron_0 8 rfl) ?_ | refine R_ft C hf rfl (by omega) (dA DX1_nextOfHeron_0 8 rfl) ?_ | refine R_sh C rfl (by omega) (dA DX1_nextOfHeron_0 8 rfl) ?_
        refine J_iload_n C (dA DX1_nextOfHeron_0 9 rfl) rfl ?_
        first | refine Q_fr C hf hS (by decide) rfl (by omega) (dA DX1_nextOfHeron_0 10 rfl) ?_ | refine Q_fk C hf hS (by decide) rfl (by omega) (dA DX1_nextOfHeron_0 10 rfl) ?_ | refine R_fs C hf rfl (by omega) (dA DX1_nextOfHeron_0 10 rfl) ?_ | refine R_sn C hq rfl (by omega) (dA DX1_nextOfHeron_0 10 rfl) ?_ | refine R_1 C (hk := rfl) rfl (by omega) (dA DX1_nextOfHeron_0 10 rfl) ?_
        refine J_iload_n C (dA DX1_nextOfHeron_0 11 rfl) rfl ?_
        have hs := lt60 hS (p := i) (by omega)
        first | refine J_icmp_ne_n (tgt := 38) C (by omega) (by omega) (dA DX1_nextOfHeron_0 12 rfl) (by decide) (fun h17 => ?_) (fun h17 => ?_) | refine J_icmp_ne_c (tgt := 38) C (by omega) (dA DX1_nextOfHeron_0 12 rfl) (by decide) (fun h17 => ?_) (fun h17 => ?_) | refine J_icmp_ne_t (tgt := 38) C (dA DX1_nextOfHeron_0 12 rfl) (by decide) (fun h17 => ?_) (fun h17 => ?_)
        · first | refine J_inc1_2_3 C (dA DX1_nextOfHeron_0 23 rfl) rfl ?_ | refine J_iinc_2_3 C (dA DX1_nextOfHeron_0 23 rfl) rfl ?_
          refine J_goto (tgt := 2) C (dA DX1_nextOfHeron_0 24 rfl) (by decide) ?_
          refine ih (i + 1) (by omega) (fun k hk => ?_)
          by_cases e : k = i
          · subst e; simp [h17]
          · exact hno k (by omega)
        · refine J_aload_n C (dA DX1_nextOfHeron_0 13 rfl) rfl ?_
          refine J_iload_n C (dA DX1_nextOfHeron_0 14 rfl) rfl ?_
          refine V_X1_hasFishIn C hf (c_X1_hasFishIn l E f hf _ hS) wM_RX1_72 (by decide) (dA DX1_nextOfHeron_0 15 rfl) rfl (Nat.le_of_ble_eq_true rfl) ?_
          first | refine J_if_eq_b (tgt := 32) C (dA DX1_nextOfHeron_0 16 rfl) (by decide) (fun h25 => ?_) (fun h25 => ?_) | refine J_if_eq_n (tgt := 32) C (by omega) (dA DX1_nextOfHeron_0 16 rfl) (by decide) (fun h25 => ?_) (fun h25 => ?_) | refine J_if_eq_t (tgt := 32) C (dA DX1_nextOfHeron_0 16 rfl) (by decide) (fun h25 => ?_) (fun h25 => ?_)
          · refine J_aload_n C (dA DX1_nextOfHeron_0 19 rfl) rfl ?_
            refine J_iload_n C (dA DX1_nextOfHeron_0 20 rfl) rfl ?_
            refine V_X1_nextOfFrog C hf (c_X1_nextOfFrog l E f hf p hp hS) wM_RX1_63 (by decide) (dA DX1_nextOfHeron_0 21 rfl) rfl (Nat.le_of_ble_eq_true rfl) ?_
            have e : firstN 16 (fun q => decide (f6 (vb (fb f) M) q 0 = p)) = i := firstN_eq (by omega) hno (by simp [h17])
            exact J_iret C G (dA DX1_nextOfHeron_0 22 rfl) ⟨oi (by unfold heronS; rw [e, if_pos (by omega), h25]; rfl), rfl⟩
          · refine J_iload_n C (dA DX1_nextOfHeron_0 17 rfl) rfl ?_
            refine J_goto (tgt := 37) C (dA DX1_nextOfHeron_0 18 rfl) (by decide) ?_
            have e : firstN 16 (fun q => decide (f6 (vb (fb f) M) q 0 = p)) = i := firstN_eq (by omega) hno (by simp [h17])
            exact J_iret C G (dA DX1_nextOfHeron_0 22 rfl) ⟨oi (by unfold heronS; rw [e, if_pos (by omega), h25]; rfl), rfl⟩
  refine J_iconst (v := nI 0) C (dA DX1_nextOfHeron_0 0 rfl) (by decide) ?_
  refine J_ist_2_3 C (dA DX1_nextOfHeron_0 1 rfl) rfl ?_
  exact loop _ 0 (Nat.zero_add _) (fun k hk => by omega)
set_option maxRecDepth 4000 in
theorem c_X1_nextOfPike (l : Launch) (E : jE) (f : Nat) (hf : f < 3) (p : Nat) (hp : p < 16) (hS : IS (vb (fb f) M))  : K_X1_nextOfPike l E [.ref (ja E (fo f)), .int (nI p)] M (nI (pikeS (vb (fb f) M) p)) (M) := by
  refine CT_intro (own := RX1) (by decide) rfl (by simp [Value.category]) (Nat.le_of_ble_eq_true rfl) rfl (fun X C G => ?_)
  show J E X 0 [some (.ref (ja E (fo f))), some (.int (nI p)), none] [] M
  have hs := lt60 hS hp
  refine J_aload_n C (dA DX1_nextOfPike_0 0 rfl) rfl ?_
  refine G_X1_ponds C hf wF_RX1_11 (dA DX1_nextOfPike_0 1 rfl) ?_
  refine J_iconst (v := nI 0) C (dA DX1_nextOfPike_0 2 rfl) (by decide) ?_
  first | refine R_fp C hf rfl (by omega) (dA DX1_nextOfPike_0 3 rfl) ?_ | refine R_ft C hf rfl (by omega) (dA DX1_nextOfPike_0 3 rfl) ?_ | refine R_sh C rfl (by omega) (dA DX1_nextOfPike_0 3 rfl) ?_
  refine J_iload_n C (dA DX1_nextOfPike_0 4 rfl) rfl ?_
  first | refine Q_fr C hf hS (by decide) rfl (by omega) (dA DX1_nextOfPike_0 5 rfl) ?_ | refine Q_fk C hf hS (by decide) rfl (by omega) (dA DX1_nextOfPike_0 5 rfl) ?_ | refine R_fs C hf rfl (by omega) (dA DX1_nextOfPike_0 5 rfl) ?_ | refine R_sn C hq rfl (by omega) (dA DX1_nextOfPike_0 5 rfl) ?_ | refine R_1 C (hk := rfl) rfl (by omega) (dA DX1_nextOfPike_0 5 rfl) ?_
  refine J_ist_2_3 C (dA DX1_nextOfPike_0 6 rfl) rfl ?_
  refine J_aload_n C (dA DX1_nextOfPike_0 7 rfl) rfl ?_
  refine J_iload_n C (dA DX1_nextOfPike_0 8 rfl) rfl ?_
  refine V_X1_hasFishIn C hf (c_X1_hasFishIn l E f hf _ hS) wM_RX1_72 (by decide) (dA DX1_nextOfPike_0 9 rfl) rfl (Nat.le_of_ble_eq_true rfl) ?_
  first | refine J_if_eq_b (tgt := 21) C (dA DX1_nextOfPike_0 10 rfl) (by decide) (fun h14 => ?_) (fun h14 => ?_) | refine J_if_eq_n (tgt := 21) C (by omega) (dA DX1_nextOfPike_0 10 rfl) (by decide) (fun h14 => ?_) (fun h14 => ?_) | refine J_if_eq_t (tgt := 21) C (dA DX1_nextOfPike_0 10 rfl) (by decide) (fun h14 => ?_) (fun h14 => ?_)
  · refine J_aload_n C (dA DX1_nextOfPike_0 13 rfl) rfl ?_
    refine G_X1_ponds C hf wF_RX1_11 (dA DX1_nextOfPike_0 14 rfl) ?_
    refine J_iconst (v := nI 4) C (dA DX1_nextOfPike_0 15 rfl) (by decide) ?_
    first | refine R_fp C hf rfl (by omega) (dA DX1_nextOfPike_0 16 rfl) ?_ | refine R_ft C hf rfl (by omega) (dA DX1_nextOfPike_0 16 rfl) ?_ | refine R_sh C rfl (by omega) (dA DX1_nextOfPike_0 16 rfl) ?_
    refine J_iload_n C (dA DX1_nextOfPike_0 17 rfl) rfl ?_
    first | refine Q_fr C hf hS (by decide) rfl (by omega) (dA DX1_nextOfPike_0 18 rfl) ?_ | refine Q_fk C hf hS (by decide) rfl (by omega) (dA DX1_nextOfPike_0 18 rfl) ?_ | refine R_fs C hf rfl (by omega) (dA DX1_nextOfPike_0 18 rfl) ?_ | refine R_sn C hq rfl (by omega) (dA DX1_nextOfPike_0 18 rfl) ?_ | refine R_1 C (hk := rfl) rfl (by omega) (dA DX1_nextOfPike_0 18 rfl) ?_
    exact J_iret C G (dA DX1_nextOfPike_0 19 rfl) ⟨oi (by unfold pikeS; rw [h14]; rfl), rfl⟩
  · refine J_iload_n C (dA DX1_nextOfPike_0 11 rfl) rfl ?_
    refine J_goto (tgt := 29) C (dA DX1_nextOfPike_0 12 rfl) (by decide) ?_
    exact J_iret C G (dA DX1_nextOfPike_0 19 rfl) ⟨oi (by unfold pikeS; rw [h14]; rfl), rfl⟩
set_option maxRecDepth 4000 in
theorem c_X1_nextPond (l : Launch) (E : jE) (f : Nat) (hf : f < 3) (t : Nat) (ht : t < iN (vb (fb f) M)) (hS : IS (vb (fb f) M))  : K_X1_nextPond l E [.ref (ja E (fo f)), .int (nI t)] M (nI (nxtS (vb (fb f) M) t)) (M) := by
  refine CT_intro (own := RX1) (by decide) rfl (by simp [Value.category]) (Nat.le_of_ble_eq_true rfl) rfl (fun X C G => ?_)
  show J E X 0 [some (.ref (ja E (fo f))), some (.int (nI t)), none, none] [] M
  have hN := leN hS
  have ht8 : t < 8 := by omega
  have hR := leR hS
  have h30 := lt30 hS ht8
  have h31 := lt31 hS ht8
  have h32 := le3 hS ht8 (w := 2) (by decide)
  have e32 : mx3 2 = 99 := rfl
  have h60 := lt60 hS h31
  have h64 := lt64 hS h31
  have h65 := le6 hS h31 (w := 5) (by decide)
  have e65 : mx6 5 = 99 := rfl
  have hfr := frog_lt hS h31
  have hhe := heron_lt hS h31
  have hpi := pike_lt hS h31
  refine J_aload_n C (dA DX1_nextPond_0 0 rfl) rfl ?_
  refine G_X1_things C hf wF_RX1_16 (dA DX1_nextPond_0 1 rfl) ?_
  refine J_iconst (v := nI 1) C (dA DX1_nextPond_0 2 rfl) (by decide) ?_
  first | refine R_fp C hf rfl (by omega) (dA DX1_nextPond_0 3 rfl) ?_ | refine R_ft C hf rfl (by omega) (dA DX1_nextPond_0 3 rfl) ?_ | refine R_sh C rfl (by omega) (dA DX1_nextPond_0 3 rfl) ?_
  refine J_iload_n C (dA DX1_nextPond_0 4 rfl) rfl ?_
  first | refine Q_fr C hf hS (by decide) rfl (by omega) (dA DX1_nextPond_0 5 rfl) ?_ | refine Q_fk C hf hS (by decide) rfl (by omega) (dA DX1_nextPond_0 5 rfl) ?_ | refine R_fs C hf rfl (by omega) (dA DX1_nextPond_0 5 rfl) ?_ | refine R_sn C hq rfl (by omega) (dA DX1_nextPond_0 5 rfl) ?_ | refine R_1 C (hk := rfl) rfl (by omega) (dA DX1_nextPond_0 5 rfl) ?_
  refine J_ist_2_4 C (dA DX1_nextPond_0 6 rfl) rfl ?_
  refine J_iload_n C (dA DX1_nextPond_0 7 rfl) rfl ?_
  refine J_ist_3_4 C (dA DX1_nextPond_0 8 rfl) rfl ?_
  refine J_aload_n C (dA DX1_nextPond_0 9 rfl) rfl ?_
  refine G_X1_things C hf wF_RX1_16 (dA DX1_nextPond_0 10 rfl) ?_
  refine J_iconst (v := nI 0) C (dA DX1_nextPond_0 11 rfl) (by decide) ?_
  first | refine R_fp C hf rfl (by omega) (dA DX1_nextPond_0 12 rfl) ?_ | refine R_ft C hf rfl (by omega) (dA DX1_nextPond_0 12 rfl) ?_ | refine R_sh C rfl (by omega) (dA DX1_nextPond_0 12 rfl) ?_
  refine J_iload_n C (dA DX1_nextPond_0 13 rfl) rfl ?_
  first | refine Q_fr C hf hS (by decide) rfl (by omega) (dA DX1_nextPond_0 14 rfl) ?_ | refine Q_fk C hf hS (by decide) rfl (by omega) (dA DX1_nextPond_0 14 rfl) ?_ | refine R_fs C hf rfl (by omega) (dA DX1_nextPond_0 14 rfl) ?_ | refine R_sn C hq rfl (by omega) (dA DX1_nextPond_0 14 rfl) ?_ | refine R_1 C (hk := rfl) rfl (by omega) (dA DX1_nextPond_0 14 rfl) ?_
  rcases (show f3 (vb (fb f) M) t 0 = 0 ∨ f3 (vb (fb f) M) t 0 = 1 ∨ f3 (vb (fb f) M) t 0 = 2 ∨ f3 (vb (fb f) M) t 0 = 3 ∨ f3 (vb (fb f) M) t 0 = 4 ∨ f3 (vb (fb f) M) t 0 = 5 ∨ f3 (vb (fb f) M) t 0 = 6 by omega) with e | e | e | e | e | e | e
  · refine J_tabOut C (dA DX1_nextPond_0 15 rfl) (Or.inl (by rw [e]; decide)) (tgt := 142) (by decide) ?_
    refine J_iload_n C (dA DX1_nextPond_0 70 rfl) rfl ?_
    refine J_aload_n C (dA DX1_nextPond_0 71 rfl) rfl ?_
    refine H_X1_rain C hf hS wF_RX1_27 (dA DX1_nextPond_0 72 rfl) ?_
    first | refine J_iadd_n C (dA DX1_nextPond_0 73 rfl) ?_ | refine J_iadd C (dA DX1_nextPond_0 73 rfl) ?_
    refine J_bipush (v := nI 16) C (dA DX1_nextPond_0 74 rfl) (by decide) ?_
    refine J_irem_n C (by omega) (by omega) (by omega) (dA DX1_nextPond_0 75 rfl) ?_
    exact J_iret C G (dA DX1_nextPond_0 76 rfl) ⟨oi (by unfold nxtS dryS; rw [e]; rfl), rfl⟩
  · refine J_tabIn C (dA DX1_nextPond_0 15 rfl) (by rw [e]; decide) (by rw [e]; decide) (off := 37) (by rw [e]; rfl) (tgt := 56) (by decide) ?_
    refine J_aload_n C (dA DX1_nextPond_0 16 rfl) rfl ?_
    refine G_X1_ponds C hf wF_RX1_11 (dA DX1_nextPond_0 17 rfl) ?_
    refine J_iconst (v := nI 4) C (dA DX1_nextPond_0 18 rfl) (by decide) ?_
    first | refine R_fp C hf rfl (by omega) (dA DX1_nextPond_0 19 rfl) ?_ | refine R_ft C hf rfl (by omega) (dA DX1_nextPond_0 19 rfl) ?_ | refine R_sh C rfl (by omega) (dA DX1_nextPond_0 19 rfl) ?_
    refine J_iload_n C (dA DX1_nextPond_0 20 rfl) rfl ?_
    first | refine Q_fr C hf hS (by decide) rfl (by omega) (dA DX1_nextPond_0 21 rfl) ?_ | refine Q_fk C hf hS (by decide) rfl (by omega) (dA DX1_nextPond_0 21 rfl) ?_ | refine R_fs C hf rfl (by omega) (dA DX1_nextPond_0 21 rfl) ?_ | refine R_sn C hq rfl (by omega) (dA DX1_nextPond_0 21 rfl) ?_ | refine R_1 C (hk := rfl) rfl (by omega) (dA DX1_nextPond_0 21 rfl) ?_
    refine J_ist_3_4 C (dA DX1_nextPond_0 22 rfl) rfl ?_
    refine J_goto (tgt := 142) C (dA DX1_nextPond_0 23 rfl) (by decide) ?_
    refine J_iload_n C (dA DX1_nextPond_0 70 rfl) rfl ?_
    refine J_aload_n C (dA DX1_nextPond_0 71 rfl) rfl ?_
    refine H_X1_rain C hf hS wF_RX1_27 (dA DX1_nextPond_0 72 rfl) ?_
    first | refine J_iadd_n C (dA DX1_nextPond_0 73 rfl) ?_ | refine J_iadd C (dA DX1_nextPond_0 73 rfl) ?_
    refine J_bipush (v := nI 16) C (dA DX1_nextPond_0 74 rfl) (by decide) ?_
    refine J_irem_n C (by omega) (by omega) (by omega) (dA DX1_nextPond_0 75 rfl) ?_
    exact J_iret C G (dA DX1_nextPond_0 76 rfl) ⟨oi (by unfold nxtS dryS; rw [e]; rfl), rfl⟩
  · refine J_tabIn C (dA DX1_nextPond_0 15 rfl) (by rw [e]; decide) (by rw [e]; decide) (off := 49) (by rw [e]; rfl) (tgt := 68) (by decide) ?_
    refine J_aload_n C (dA DX1_nextPond_0 24 rfl) rfl ?_
    refine G_X1_ponds C hf wF_RX1_11 (dA DX1_nextPond_0 25 rfl) ?_
    refine J_iconst (v := nI 0) C (dA DX1_nextPond_0 26 rfl) (by decide) ?_
    first | refine R_fp C hf rfl (by omega) (dA DX1_nextPond_0 27 rfl) ?_ | refine R_ft C hf rfl (by omega) (dA DX1_nextPond_0 27 rfl) ?_ | refine R_sh C rfl (by omega) (dA DX1_nextPond_0 27 rfl) ?_
    refine J_iload_n C (dA DX1_nextPond_0 28 rfl) rfl ?_
    first | refine Q_fr C hf hS (by decide) rfl (by omega) (dA DX1_nextPond_0 29 rfl) ?_ | refine Q_fk C hf hS (by decide) rfl (by omega) (dA DX1_nextPond_0 29 rfl) ?_ | refine R_fs C hf rfl (by omega) (dA DX1_nextPond_0 29 rfl) ?_ | refine R_sn C hq rfl (by omega) (dA DX1_nextPond_0 29 rfl) ?_ | refine R_1 C (hk := rfl) rfl (by omega) (dA DX1_nextPond_0 29 rfl) ?_
    refine J_ist_3_4 C (dA DX1_nextPond_0 30 rfl) rfl ?_
    refine J_goto (tgt := 142) C (dA DX1_nextPond_0 31 rfl) (by decide) ?_
    refine J_iload_n C (dA DX1_nextPond_0 70 rfl) rfl ?_
    refine J_aload_n C (dA DX1_nextPond_0 71 rfl) rfl ?_
    refine H_X1_rain C hf hS wF_RX1_27 (dA DX1_nextPond_0 72 rfl) ?_
    first | refine J_iadd_n C (dA DX1_nextPond_0 73 rfl) ?_ | refine J_iadd C (dA DX1_nextPond_0 73 rfl) ?_
    refine J_bipush (v := nI 16) C (dA DX1_nextPond_0 74 rfl) (by decide) ?_
    refine J_irem_n C (by omega) (by omega) (by omega) (dA DX1_nextPond_0 75 rfl) ?_
    exact J_iret C G (dA DX1_nextPond_0 76 rfl) ⟨oi (by unfold nxtS dryS; rw [e]; rfl), rfl⟩
  · refine J_tabIn C (dA DX1_nextPond_0 15 rfl) (by rw [e]; decide) (by rw [e]; decide) (off := 61) (by rw [e]; rfl) (tgt := 80) (by decide) ?_
    refine J_aload_n C (dA DX1_nextPond_0 32 rfl) rfl ?_
    refine J_iload_n C (dA DX1_nextPond_0 33 rfl) rfl ?_
    refine V_X1_nextOfFrog C hf (c_X1_nextOfFrog l E f hf _ h31 hS) wM_RX1_63 (by decide) (dA DX1_nextPond_0 34 rfl) rfl (Nat.le_of_ble_eq_true rfl) ?_
    refine J_ist_3_4 C (dA DX1_nextPond_0 35 rfl) rfl ?_
    refine J_goto (tgt := 142) C (dA DX1_nextPond_0 36 rfl) (by decide) ?_
    refine J_iload_n C (dA DX1_nextPond_0 70 rfl) rfl ?_
    refine J_aload_n C (dA DX1_nextPond_0 71 rfl) rfl ?_
    refine H_X1_rain C hf hS wF_RX1_27 (dA DX1_nextPond_0 72 rfl) ?_
    first | refine J_iadd_n C (dA DX1_nextPond_0 73 rfl) ?_ | refine J_iadd C (dA DX1_nextPond_0 73 rfl) ?_
    refine J_bipush (v := nI 16) C (dA DX1_nextPond_0 74 rfl) (by decide) ?_
    refine J_irem_n C (by omega) (by omega) (by omega) (dA DX1_nextPond_0 75 rfl) ?_
    exact J_iret C G (dA DX1_nextPond_0 76 rfl) ⟨oi (by unfold nxtS dryS; rw [e]; rfl), rfl⟩
  · refine J_tabIn C (dA DX1_nextPond_0 15 rfl) (by rw [e]; decide) (by rw [e]; decide) (off := 70) (by rw [e]; rfl) (tgt := 89) (by decide) ?_
    refine J_aload_n C (dA DX1_nextPond_0 37 rfl) rfl ?_
    refine J_iload_n C (dA DX1_nextPond_0 38 rfl) rfl ?_
    refine V_X1_nextOfHeron C hf (c_X1_nextOfHeron l E f hf _ h31 hS) wM_RX1_66 (by decide) (dA DX1_nextPond_0 39 rfl) rfl (Nat.le_of_ble_eq_true rfl) ?_
    refine J_ist_3_4 C (dA DX1_nextPond_0 40 rfl) rfl ?_
    refine J_goto (tgt := 142) C (dA DX1_nextPond_0 41 rfl) (by decide) ?_
    refine J_iload_n C (dA DX1_nextPond_0 70 rfl) rfl ?_
    refine J_aload_n C (dA DX1_nextPond_0 71 rfl) rfl ?_
    refine H_X1_rain C hf hS wF_RX1_27 (dA DX1_nextPond_0 72 rfl) ?_
    first | refine J_iadd_n C (dA DX1_nextPond_0 73 rfl) ?_ | refine J_iadd C (dA DX1_nextPond_0 73 rfl) ?_
    refine J_bipush (v := nI 16) C (dA DX1_nextPond_0 74 rfl) (by decide) ?_
    refine J_irem_n C (by omega) (by omega) (by omega) (dA DX1_nextPond_0 75 rfl) ?_
    exact J_iret C G (dA DX1_nextPond_0 76 rfl) ⟨oi (by unfold nxtS dryS; rw [e]; rfl), rfl⟩
  · refine J_tabIn C (dA DX1_nextPond_0 15 rfl) (by rw [e]; decide) (by rw [e]; decide) (off := 79) (by rw [e]; rfl) (tgt := 98) (by decide) ?_
    refine J_aload_n C (dA DX1_nextPond_0 42 rfl) rfl ?_
    refine G_X1_ponds C hf wF_RX1_11 (dA DX1_nextPond_0 43 rfl) ?_
    refine J_iconst (v := nI 5) C (dA DX1_nextPond_0 44 rfl) (by decide) ?_
    first | refine R_fp C hf rfl (by omega) (dA DX1_nextPond_0 45 rfl) ?_ | refine R_ft C hf rfl (by omega) (dA DX1_nextPond_0 45 rfl) ?_ | refine R_sh C rfl (by omega) (dA DX1_nextPond_0 45 rfl) ?_
    refine J_iload_n C (dA DX1_nextPond_0 46 rfl) rfl ?_
    first | refine Q_fr C hf hS (by decide) rfl (by omega) (dA DX1_nextPond_0 47 rfl) ?_ | refine Q_fk C hf hS (by decide) rfl (by omega) (dA DX1_nextPond_0 47 rfl) ?_ | refine R_fs C hf rfl (by omega) (dA DX1_nextPond_0 47 rfl) ?_ | refine R_sn C hq rfl (by omega) (dA DX1_nextPond_0 47 rfl) ?_ | refine R_1 C (hk := rfl) rfl (by omega) (dA DX1_nextPond_0 47 rfl) ?_
    refine J_aload_n C (dA DX1_nextPond_0 48 rfl) rfl ?_
    refine G_X1_things C hf wF_RX1_16 (dA DX1_nextPond_0 49 rfl) ?_
    refine J_iconst (v := nI 2) C (dA DX1_nextPond_0 50 rfl) (by decide) ?_
    first | refine R_fp C hf rfl (by omega) (dA DX1_nextPond_0 51 rfl) ?_ | refine R_ft C hf rfl (by omega) (dA DX1_nextPond_0 51 rfl) ?_ | refine R_sh C rfl (by omega) (dA DX1_nextPond_0 51 rfl) ?_
    refine J_iload_n C (dA DX1_nextPond_0 52 rfl) rfl ?_
    first | refine Q_fr C hf hS (by decide) rfl (by omega) (dA DX1_nextPond_0 53 rfl) ?_ | refine Q_fk C hf hS (by decide) rfl (by omega) (dA DX1_nextPond_0 53 rfl) ?_ | refine R_fs C hf rfl (by omega) (dA DX1_nextPond_0 53 rfl) ?_ | refine R_sn C hq rfl (by omega) (dA DX1_nextPond_0 53 rfl) ?_ | refine R_1 C (hk := rfl) rfl (by omega) (dA DX1_nextPond_0 53 rfl) ?_
    first | refine J_icmp_ge_n (tgt := 128) C (by omega) (by omega) (dA DX1_nextPond_0 54 rfl) (by decide) (fun h114 => ?_) (fun h114 => ?_) | refine J_icmp_ge_c (tgt := 128) C (by omega) (dA DX1_nextPond_0 54 rfl) (by decide) (fun h114 => ?_) (fun h114 => ?_) | refine J_icmp_ge_t (tgt := 128) C (dA DX1_nextPond_0 54 rfl) (by decide) (fun h114 => ?_) (fun h114 => ?_)
    · refine J_iload_n C (dA DX1_nextPond_0 62 rfl) rfl ?_
      refine J_ist_3_4 C (dA DX1_nextPond_0 63 rfl) rfl ?_
      refine J_goto (tgt := 142) C (dA DX1_nextPond_0 64 rfl) (by decide) ?_
      refine J_iload_n C (dA DX1_nextPond_0 70 rfl) rfl ?_
      refine J_aload_n C (dA DX1_nextPond_0 71 rfl) rfl ?_
      refine H_X1_rain C hf hS wF_RX1_27 (dA DX1_nextPond_0 72 rfl) ?_
      first | refine J_iadd_n C (dA DX1_nextPond_0 73 rfl) ?_ | refine J_iadd C (dA DX1_nextPond_0 73 rfl) ?_
      refine J_bipush (v := nI 16) C (dA DX1_nextPond_0 74 rfl) (by decide) ?_
      refine J_irem_n C (by omega) (by omega) (by omega) (dA DX1_nextPond_0 75 rfl) ?_
      exact J_iret C G (dA DX1_nextPond_0 76 rfl) ⟨oi (by unfold nxtS dryS; rw [e]; simp only [if_neg (show ¬ f6 (vb (fb f) M) (f3 (vb (fb f) M) t 1) 5 < f3 (vb (fb f) M) t 2 by omega)]), rfl⟩
    · refine J_aload_n C (dA DX1_nextPond_0 55 rfl) rfl ?_
      refine G_X1_ponds C hf wF_RX1_11 (dA DX1_nextPond_0 56 rfl) ?_
      refine J_iconst (v := nI 4) C (dA DX1_nextPond_0 57 rfl) (by decide) ?_
      first | refine R_fp C hf rfl (by omega) (dA DX1_nextPond_0 58 rfl) ?_ | refine R_ft C hf rfl (by omega) (dA DX1_nextPond_0 58 rfl) ?_ | refine R_sh C rfl (by omega) (dA DX1_nextPond_0 58 rfl) ?_
      refine J_iload_n C (dA DX1_nextPond_0 59 rfl) rfl ?_
      first | refine Q_fr C hf hS (by decide) rfl (by omega) (dA DX1_nextPond_0 60 rfl) ?_ | refine Q_fk C hf hS (by decide) rfl (by omega) (dA DX1_nextPond_0 60 rfl) ?_ | refine R_fs C hf rfl (by omega) (dA DX1_nextPond_0 60 rfl) ?_ | refine R_sn C hq rfl (by omega) (dA DX1_nextPond_0 60 rfl) ?_ | refine R_1 C (hk := rfl) rfl (by omega) (dA DX1_nextPond_0 60 rfl) ?_
      refine J_goto (tgt := 129) C (dA DX1_nextPond_0 61 rfl) (by decide) ?_
      refine J_ist_3_4 C (dA DX1_nextPond_0 63 rfl) rfl ?_
      refine J_goto (tgt := 142) C (dA DX1_nextPond_0 64 rfl) (by decide) ?_
      refine J_iload_n C (dA DX1_nextPond_0 70 rfl) rfl ?_
      refine J_aload_n C (dA DX1_nextPond_0 71 rfl) rfl ?_
      refine H_X1_rain C hf hS wF_RX1_27 (dA DX1_nextPond_0 72 rfl) ?_
      first | refine J_iadd_n C (dA DX1_nextPond_0 73 rfl) ?_ | refine J_iadd C (dA DX1_nextPond_0 73 rfl) ?_
      refine J_bipush (v := nI 16) C (dA DX1_nextPond_0 74 rfl) (by decide) ?_
      refine J_irem_n C (by omega) (by omega) (by omega) (dA DX1_nextPond_0 75 rfl) ?_
      exact J_iret C G (dA DX1_nextPond_0 76 rfl) ⟨oi (by unfold nxtS dryS; rw [e]; simp only [if_pos (show f6 (vb (fb f) M) (f3 (vb (fb f) M) t 1) 5 < f3 (vb (fb f) M) t 2 by omega)]), rfl⟩
  · refine J_tabIn C (dA DX1_nextPond_0 15 rfl) (by rw [e]; decide) (by rw [e]; decide) (off := 114) (by rw [e]; rfl) (tgt := 133) (by decide) ?_
    refine J_aload_n C (dA DX1_nextPond_0 65 rfl) rfl ?_
    refine J_iload_n C (dA DX1_nextPond_0 66 rfl) rfl ?_
    refine V_X1_nextOfPike C hf (c_X1_nextOfPike l E f hf _ h31 hS) wM_RX1_69 (by decide) (dA DX1_nextPond_0 67 rfl) rfl (Nat.le_of_ble_eq_true rfl) ?_
    refine J_ist_3_4 C (dA DX1_nextPond_0 68 rfl) rfl ?_
    refine J_goto (tgt := 142) C (dA DX1_nextPond_0 69 rfl) (by decide) ?_
    refine J_iload_n C (dA DX1_nextPond_0 70 rfl) rfl ?_
    refine J_aload_n C (dA DX1_nextPond_0 71 rfl) rfl ?_
    refine H_X1_rain C hf hS wF_RX1_27 (dA DX1_nextPond_0 72 rfl) ?_
    first | refine J_iadd_n C (dA DX1_nextPond_0 73 rfl) ?_ | refine J_iadd C (dA DX1_nextPond_0 73 rfl) ?_
    refine J_bipush (v := nI 16) C (dA DX1_nextPond_0 74 rfl) (by decide) ?_
    refine J_irem_n C (by omega) (by omega) (by omega) (dA DX1_nextPond_0 75 rfl) ?_
    exact J_iret C G (dA DX1_nextPond_0 76 rfl) ⟨oi (by unfold nxtS dryS; rw [e]; rfl), rfl⟩
set_option maxRecDepth 4000 in
theorem c_X1_passMinute (l : Launch) (E : jE) (f : Nat) (hf : f < 3) (hS : IS (vb (fb f) M))  : K_X1_passMinute l E [.ref (ja E (fo f))] M (lay (fb f) M (minS (vb (fb f) M))) := by
  refine CT_intro (own := RX1) (by decide) rfl (by simp [Value.category]) (Nat.le_of_ble_eq_true rfl) rfl (fun X C G => ?_)
  show J E X 0 [some (.ref (ja E (fo f))), none] [] M
  have loop : ∀ n i (M' : jM), i + n = iN (vb (fb f) M) → M' = lay (fb f) M (moveS (vb (fb f) M) i) → J E X 2 [some (.ref (ja E (fo f))), some (.int (nI i))] [] M' := by
    intro n
    induction n with
    | zero =>
      intro i M' hi hM
      have hN := leN hS
      have hmv := IS_mv hS i (by omega)
      have hv : vb (fb f) M' = moveS (vb (fb f) M) i := by rw [hM, vb_lay hmv.1.1]
      have hS' : IS (vb (fb f) M') := hv ▸ hmv.1
      have hN' : iN (vb (fb f) M') = iN (vb (fb f) M) := by rw [hv]; exact hmv.2.1
      have hM' : iM (vb (fb f) M') = iM (vb (fb f) M) := by rw [hv]; exact hmv.2.2
      have hle := leM hS
      refine J_iload_n C (dA DX1_passMinute_0 2 rfl) rfl ?_
      refine J_aload_n C (dA DX1_passMinute_0 3 rfl) rfl ?_
      refine H_X1_size C hf hS' wF_RX1_23 (dA DX1_passMinute_0 4 rfl) ?_
      first | refine J_icmp_ge_n (tgt := 29) C (by omega) (by omega) (dA DX1_passMinute_0 5 rfl) (by decide) (fun h7 => ?_) (fun h7 => ?_) | refine J_icmp_ge_c (tgt := 29) C (by omega) (dA DX1_passMinute_0 5 rfl) (by decide) (fun h7 => ?_) (fun h7 => ?_) | refine J_icmp_ge_t (tgt := 29) C (dA DX1_passMinute_0 5 rfl) (by decide) (fun h7 => ?_) (fun h7 => ?_)
      · refine J_aload_n C (dA DX1_passMinute_0 17 rfl) rfl ?_
        refine J_aload_n C (dA DX1_passMinute_0 18 rfl) rfl ?_
        refine H_X1_minute C hf hS' wF_RX1_30 (dA DX1_passMinute_0 19 rfl) ?_
        refine J_iconst (v := nI 1) C (dA DX1_passMinute_0 20 rfl) (by decide) ?_
        first | refine J_iadd_n C (dA DX1_passMinute_0 21 rfl) ?_ | refine J_iadd C (dA DX1_passMinute_0 21 rfl) ?_
        refine J_ldc (v := nI 99999) C wK_RX1_56 (dA DX1_passMinute_0 22 rfl) ?_
        refine J_min_n C wM_RX1_57 (by omega) (by decide) (by decide) (dA DX1_passMinute_0 23 rfl) rfl (Nat.le_of_ble_eq_true rfl) ?_
        refine P_X1_minute C hf wF_RX1_30 (dA DX1_passMinute_0 24 rfl) ?_
        have e : upd M' (fb f) (nI (min (iM (vb (fb f) M') + 1) 99999)) = lay (fb f) M (upd (moveS (vb (fb f) M) i) 0 (nI (min (iM (vb (fb f) M) + 1) 99999))) := by
          rw [hM', hM]; exact upd_lay (j := 0) hmv.1.1 (by decide)
        exact J_vret C G (dA DX1_passMinute_0 25 rfl) ⟨rfl, by rw [e, show i = iN (vb (fb f) M) by omega]; rfl⟩
      · exfalso; omega
    | succ n ih =>
      intro i M' hi hM
      have hN := leN hS
      have hmv := IS_mv hS i (by omega)
      have hv : vb (fb f) M' = moveS (vb (fb f) M) i := by rw [hM, vb_lay hmv.1.1]
      have hS' : IS (vb (fb f) M') := hv ▸ hmv.1
      have hN' : iN (vb (fb f) M') = iN (vb (fb f) M) := by rw [hv]; exact hmv.2.1
      have hM' : iM (vb (fb f) M') = iM (vb (fb f) M) := by rw [hv]; exact hmv.2.2
      have hle := leM hS
      refine J_iload_n C (dA DX1_passMinute_0 2 rfl) rfl ?_
      refine J_aload_n C (dA DX1_passMinute_0 3 rfl) rfl ?_
      refine H_X1_size C hf hS' wF_RX1_23 (dA DX1_passMinute_0 4 rfl) ?_
      first | refine J_icmp_ge_n (tgt := 29) C (by omega) (by omega) (dA DX1_passMinute_0 5 rfl) (by decide) (fun h7 => ?_) (fun h7 => ?_) | refine J_icmp_ge_c (tgt := 29) C (by omega) (dA DX1_passMinute_0 5 rfl) (by decide) (fun h7 => ?_) (fun h7 => ?_) | refine J_icmp_ge_t (tgt := 29) C (dA DX1_passMinute_0 5 rfl) (by decide) (fun h7 => ?_) (fun h7 => ?_)
      · exfalso; omega
      · refine J_aload_n C (dA DX1_passMinute_0 6 rfl) rfl ?_
        refine G_X1_things C hf wF_RX1_16 (dA DX1_passMinute_0 7 rfl) ?_
        refine J_iconst (v := nI 1) C (dA DX1_passMinute_0 8 rfl) (by decide) ?_
        first | refine R_fp C hf rfl (by omega) (dA DX1_passMinute_0 9 rfl) ?_ | refine R_ft C hf rfl (by omega) (dA DX1_passMinute_0 9 rfl) ?_ | refine R_sh C rfl (by omega) (dA DX1_passMinute_0 9 rfl) ?_
        refine J_iload_n C (dA DX1_passMinute_0 10 rfl) rfl ?_
        refine J_aload_n C (dA DX1_passMinute_0 11 rfl) rfl ?_
        refine J_iload_n C (dA DX1_passMinute_0 12 rfl) rfl ?_
        refine V_X1_nextPond C hf (c_X1_nextPond l E f hf i (by omega) hS') wM_RX1_53 (by decide) (dA DX1_passMinute_0 13 rfl) rfl (Nat.le_of_ble_eq_true rfl) ?_
        refine S_fk C hf (by decide) rfl (by omega) (dA DX1_passMinute_0 14 rfl) ?_
        first | refine J_inc1_1_2 C (dA DX1_passMinute_0 15 rfl) rfl ?_ | refine J_iinc_1_2 C (dA DX1_passMinute_0 15 rfl) rfl ?_
        refine J_goto (tgt := 2) C (dA DX1_passMinute_0 16 rfl) (by decide) ?_
        exact ih (i + 1) _ (by omega) (by rw [hv, hM]; exact upd_lay hmv.1.1 (by omega))
  refine J_iconst (v := nI 0) C (dA DX1_passMinute_0 0 rfl) (by decide) ?_
  refine J_ist_1_2 C (dA DX1_passMinute_0 1 rfl) rfl ?_
  exact loop _ 0 M (Nat.zero_add _) lay_vb.symm
def addS (S : Nat → Int32) (a p q : Nat) : Nat → Int32 := upd (upd (upd (upd S (100 + 3 * iN S + 0) (nI a)) (100 + 3 * iN S + 1) (nI p)) (100 + 3 * iN S + 2) (nI q)) 1 (nI (iN S + 1))
theorem IS_add {S : Nat → Int32} {a p q : Nat} (h : IS S) (hn : iN S < 8) (ha : a ≤ 6) (hp : p ≤ 15) (hq : q ≤ 99) : IS (addS S a p q) ∧ iN (addS S a p q) = iN S + 1 := by
  have i1 := IS_u3 h (k := iN S) (w := 0) (v := a) hn (by omega) (by show a ≤ 6; omega)
  have i2 := IS_u3 i1 (k := iN S) (w := 1) (v := p) hn (by omega) (by show p ≤ 15; omega)
  have i3 := IS_u3 i2 (k := iN S) (w := 2) (v := q) hn (by omega) (by show q ≤ 99; omega)
  have hN3 : iN (upd (upd (upd S (100 + 3 * iN S + 0) (nI a)) (100 + 3 * iN S + 1) (nI p)) (100 + 3 * iN S + 2) (nI q)) = iN S := by unfold iN; rw [pk_un (by unfold iN at *; omega), pk_un (by unfold iN at *; omega), pk_un (by unfold iN at *; omega)]
  have hv : nv (nI (iN S + 1)) = iN S + 1 := nv_nI (by omega)
  refine ⟨IS_lo i3 (by omega) (fun z => by omega) (fun _ => ⟨by rw [hv], by omega, by rw [hN3, hv]; omega⟩) (fun z => by omega), ?_⟩
  show nv (upd _ 1 _ 1) = _
  rw [pk_us, hv]
set_option maxRecDepth 4000 in
theorem c_X1_add (l : Launch) (E : jE) (f : Nat) (hf : f < 3) (a p q : Nat) (ha : a ≤ 6) (hp : p ≤ 15) (hq : q ≤ 99) (hn : iN (vb (fb f) M) < 8) (hS : IS (vb (fb f) M))  : K_X1_add l E [.ref (ja E (fo f)), .int (nI a), .int (nI p), .int (nI q)] M (nI (iN (vb (fb f) M))) (lay (fb f) M (addS (vb (fb f) M) a p q)) := by
  refine CT_intro (own := RX1) (by decide) rfl (by simp [Value.category]) (Nat.le_of_ble_eq_true rfl) rfl (fun X C G => ?_)
  show J E X 0 [some (.ref (ja E (fo f))), some (.int (nI a)), some (.int (nI p)), some (.int (nI q)), none] [] M
  have hN := leN hS
  refine J_aload_n C (dA DX1_add_0 0 rfl) rfl ?_
  refine H_X1_size C hf hS wF_RX1_23 (dA DX1_add_0 1 rfl) ?_
  refine J_ist_4_5 C (dA DX1_add_0 2 rfl) rfl ?_
  refine J_iload C (dA DX1_add_0 3 rfl) rfl ?_
  refine J_bipush (v := nI 8) C (dA DX1_add_0 4 rfl) (by decide) ?_
  first | refine J_icmp_ge_n (tgt := 53) C (by omega) (by omega) (dA DX1_add_0 5 rfl) (by decide) (fun h10 => ?_) (fun h10 => ?_) | refine J_icmp_ge_c (tgt := 53) C (by omega) (dA DX1_add_0 5 rfl) (by decide) (fun h10 => ?_) (fun h10 => ?_) | refine J_icmp_ge_t (tgt := 53) C (dA DX1_add_0 5 rfl) (by decide) (fun h10 => ?_) (fun h10 => ?_)
  · exfalso; omega
  · refine J_aload_n C (dA DX1_add_0 6 rfl) rfl ?_
    refine G_X1_things C hf wF_RX1_16 (dA DX1_add_0 7 rfl) ?_
    refine J_iconst (v := nI 0) C (dA DX1_add_0 8 rfl) (by decide) ?_
    first | refine R_fp C hf rfl (by omega) (dA DX1_add_0 9 rfl) ?_ | refine R_ft C hf rfl (by omega) (dA DX1_add_0 9 rfl) ?_ | refine R_sh C rfl (by omega) (dA DX1_add_0 9 rfl) ?_
    refine J_iload C (dA DX1_add_0 10 rfl) rfl ?_
    refine J_iload_n C (dA DX1_add_0 11 rfl) rfl ?_
    refine S_fk C hf (by decide) rfl (by omega) (dA DX1_add_0 12 rfl) ?_
    refine J_aload_n C (dA DX1_add_0 13 rfl) rfl ?_
    refine G_X1_things C hf wF_RX1_16 (dA DX1_add_0 14 rfl) ?_
    refine J_iconst (v := nI 1) C (dA DX1_add_0 15 rfl) (by decide) ?_
    first | refine R_fp C hf rfl (by omega) (dA DX1_add_0 16 rfl) ?_ | refine R_ft C hf rfl (by omega) (dA DX1_add_0 16 rfl) ?_ | refine R_sh C rfl (by omega) (dA DX1_add_0 16 rfl) ?_
    refine J_iload C (dA DX1_add_0 17 rfl) rfl ?_
    refine J_iload_n C (dA DX1_add_0 18 rfl) rfl ?_
    refine S_fk C hf (by decide) rfl (by omega) (dA DX1_add_0 19 rfl) ?_
    refine J_aload_n C (dA DX1_add_0 20 rfl) rfl ?_
    refine G_X1_things C hf wF_RX1_16 (dA DX1_add_0 21 rfl) ?_
    refine J_iconst (v := nI 2) C (dA DX1_add_0 22 rfl) (by decide) ?_
    first | refine R_fp C hf rfl (by omega) (dA DX1_add_0 23 rfl) ?_ | refine R_ft C hf rfl (by omega) (dA DX1_add_0 23 rfl) ?_ | refine R_sh C rfl (by omega) (dA DX1_add_0 23 rfl) ?_
    refine J_iload C (dA DX1_add_0 24 rfl) rfl ?_
    refine J_iload_n C (dA DX1_add_0 25 rfl) rfl ?_
    refine S_fk C hf (by decide) rfl (by omega) (dA DX1_add_0 26 rfl) ?_
    have hc0 := Can_vb (fb f) M
    have i1 := IS_u3 hS (k := iN (vb (fb f) M)) (w := 0) (v := a) (by omega) (by omega) (by show a ≤ 6; omega)
    have i2 := IS_u3 i1 (k := iN (vb (fb f) M)) (w := 1) (v := p) (by omega) (by omega) (by show p ≤ 15; omega)
    have i3 := IS_u3 i2 (k := iN (vb (fb f) M)) (w := 2) (v := q) (by omega) (by omega) (by show q ≤ 99; omega)
    rw [lay_upd (b := fb f) (j := 100 + 3 * iN (vb (fb f) M) + 0) (by omega), upd_lay i1.1 (by omega), upd_lay i2.1 (by omega)]
    have hN3 : iN (upd (upd (upd (vb (fb f) M) (100 + 3 * iN (vb (fb f) M) + 0) (nI a)) (100 + 3 * iN (vb (fb f) M) + 1) (nI p)) (100 + 3 * iN (vb (fb f) M) + 2) (nI q)) = iN (vb (fb f) M) := by unfold iN; rw [pk_un (by unfold iN at *; omega), pk_un (by unfold iN at *; omega), pk_un (by unfold iN at *; omega)]
    obtain ⟨M3, hM3⟩ : ∃ M3, M3 = lay (fb f) M (upd (upd (upd (vb (fb f) M) (100 + 3 * iN (vb (fb f) M) + 0) (nI a)) (100 + 3 * iN (vb (fb f) M) + 1) (nI p)) (100 + 3 * iN (vb (fb f) M) + 2) (nI q)) := ⟨_, rfl⟩
    rw [← hM3]
    have hv : vb (fb f) M3 = (upd (upd (upd (vb (fb f) M) (100 + 3 * iN (vb (fb f) M) + 0) (nI a)) (100 + 3 * iN (vb (fb f) M) + 1) (nI p)) (100 + 3 * iN (vb (fb f) M) + 2) (nI q)) := by rw [hM3, vb_lay i3.1]
    have hS3 : IS (vb (fb f) M3) := hv ▸ i3
    have hn3 : iN (vb (fb f) M3) = iN (vb (fb f) M) := by rw [hv, hN3]
    refine J_aload_n C (dA DX1_add_0 27 rfl) rfl ?_
    refine J_dup C (dA DX1_add_0 28 rfl) rfl ?_
    refine H_X1_size C hf hS3 wF_RX1_23 (dA DX1_add_0 29 rfl) ?_
    refine J_iconst (v := nI 1) C (dA DX1_add_0 30 rfl) (by decide) ?_
    first | refine J_iadd_n C (dA DX1_add_0 31 rfl) ?_ | refine J_iadd C (dA DX1_add_0 31 rfl) ?_
    refine P_X1_size C hf wF_RX1_23 (dA DX1_add_0 32 rfl) ?_
    refine J_iload C (dA DX1_add_0 33 rfl) rfl ?_
    exact J_iret C G (dA DX1_add_0 34 rfl) ⟨rfl, by rw [hn3, hM3, upd_lay (j := 1) i3.1 (by decide)]; rfl⟩
def spS (S : Nat → Int32) : Nat := smS 10 (fun j => if (S (124 + j)).toInt < 0 then 0 else 1)
set_option maxRecDepth 4000 in
theorem c_X1_spotsInUse (l : Launch) (E : jE) (f : Nat) (hf : f < 3) (hS : IS (vb (fb f) M))  : K_X1_spotsInUse l E [.ref (ja E (fo f))] M (nI (spS (vb (fb f) M))) (M) := by
  refine CT_intro (own := RX1) (by decide) rfl (by simp [Value.category]) (Nat.le_of_ble_eq_true rfl) rfl (fun X C G => ?_)
  show J E X 0 [some (.ref (ja E (fo f))), none, none, none, none, none] [] M
  have loop : ∀ n i (o : Option Value), jok [some (.ref (ja E (fo f))), some (.int (nI (smS i (fun j => if (vb (fb f) M (124 + j)).toInt < 0 then 0 else 1)))), some (.ref (ja E (fs f))), some (.int (nI 10)), some (.int (nI i)), o] 5 = true → i + n = 10 → J E X 13 [some (.ref (ja E (fo f))), some (.int (nI (smS i (fun j => if (vb (fb f) M (124 + j)).toInt < 0 then 0 else 1)))), some (.ref (ja E (fs f))), some (.int (nI 10)), some (.int (nI i)), o] [] M := by
    intro n
    induction n with
    | zero =>
      intro i o ho hi
      refine J_iload C (dA DX1_spotsInUse_0 10 rfl) rfl ?_
      refine J_iload_n C (dA DX1_spotsInUse_0 11 rfl) rfl ?_
      first | refine J_icmp_ge_n (tgt := 39) C (by omega) (by omega) (dA DX1_spotsInUse_0 12 rfl) (by decide) (fun h16 => ?_) (fun h16 => ?_) | refine J_icmp_ge_c (tgt := 39) C (by omega) (dA DX1_spotsInUse_0 12 rfl) (by decide) (fun h16 => ?_) (fun h16 => ?_) | refine J_icmp_ge_t (tgt := 39) C (dA DX1_spotsInUse_0 12 rfl) (by decide) (fun h16 => ?_) (fun h16 => ?_)
      · refine J_iload_n C (dA DX1_spotsInUse_0 22 rfl) rfl ?_
        exact J_iret C G (dA DX1_spotsInUse_0 23 rfl) ⟨oi (by rw [show i = 10 by omega]; rfl), rfl⟩
      · exfalso; omega
    | succ n ih =>
      intro i o ho hi
      refine J_iload C (dA DX1_spotsInUse_0 10 rfl) rfl ?_
      refine J_iload_n C (dA DX1_spotsInUse_0 11 rfl) rfl ?_
      first | refine J_icmp_ge_n (tgt := 39) C (by omega) (by omega) (dA DX1_spotsInUse_0 12 rfl) (by decide) (fun h16 => ?_) (fun h16 => ?_) | refine J_icmp_ge_c (tgt := 39) C (by omega) (dA DX1_spotsInUse_0 12 rfl) (by decide) (fun h16 => ?_) (fun h16 => ?_) | refine J_icmp_ge_t (tgt := 39) C (dA DX1_spotsInUse_0 12 rfl) (by decide) (fun h16 => ?_) (fun h16 => ?_)
      · exfalso; omega
      · refine J_aload_n C (dA DX1_spotsInUse_0 13 rfl) rfl ?_
        refine J_iload C (dA DX1_spotsInUse_0 14 rfl) rfl ?_
        refine R_fs C hf rfl (by omega) (dA DX1_spotsInUse_0 15 rfl) ?_
        refine J_ist_5_6 C (dA DX1_spotsInUse_0 16 rfl) ho ?_
        refine J_iload C (dA DX1_spotsInUse_0 17 rfl) rfl ?_
        refine J_if_lt_t (tgt := 33) C (dA DX1_spotsInUse_0 18 rfl) (by decide) (fun h27 => ?_) (fun h27 => ?_)
        · first | refine J_inc1_4_6 C (dA DX1_spotsInUse_0 20 rfl) rfl ?_ | refine J_iinc_4_6 C (dA DX1_spotsInUse_0 20 rfl) rfl ?_
          refine J_goto (tgt := 13) C (dA DX1_spotsInUse_0 21 rfl) (by decide) ?_
          have h := ih (i + 1) (some (.int (M (fb f + (124 + i))))) rfl (by omega)
          have e : smS (i + 1) (fun j => if (vb (fb f) M (124 + j)).toInt < 0 then 0 else 1) = smS i (fun j => if (vb (fb f) M (124 + j)).toInt < 0 then 0 else 1) + 0 := by simp only [smS]; rw [if_pos (by rw [vb_at (by omega)]; exact h27)]
          rw [e] at h
          exact h
        · first | refine J_inc1_1_6 C (dA DX1_spotsInUse_0 19 rfl) rfl ?_ | refine J_iinc_1_6 C (dA DX1_spotsInUse_0 19 rfl) rfl ?_
          first | refine J_inc1_4_6 C (dA DX1_spotsInUse_0 20 rfl) rfl ?_ | refine J_iinc_4_6 C (dA DX1_spotsInUse_0 20 rfl) rfl ?_
          refine J_goto (tgt := 13) C (dA DX1_spotsInUse_0 21 rfl) (by decide) ?_
          have h := ih (i + 1) (some (.int (M (fb f + (124 + i))))) rfl (by omega)
          have e : smS (i + 1) (fun j => if (vb (fb f) M (124 + j)).toInt < 0 then 0 else 1) = smS i (fun j => if (vb (fb f) M (124 + j)).toInt < 0 then 0 else 1) + 1 := by simp only [smS]; rw [if_neg (by rw [vb_at (by omega)]; omega)]
          rw [e] at h
          exact h
  refine J_iconst (v := nI 0) C (dA DX1_spotsInUse_0 0 rfl) (by decide) ?_
  refine J_ist_1_6 C (dA DX1_spotsInUse_0 1 rfl) rfl ?_
  refine J_aload_n C (dA DX1_spotsInUse_0 2 rfl) rfl ?_
  refine G_X1_spots C hf wF_RX1_19 (dA DX1_spotsInUse_0 3 rfl) ?_
  refine J_ast_2_6 C (dA DX1_spotsInUse_0 4 rfl) rfl ?_
  refine J_aload_n C (dA DX1_spotsInUse_0 5 rfl) rfl ?_
  refine J_alen C (jL_fs f hf) (ty := .int) rfl (dA DX1_spotsInUse_0 6 rfl) ?_
  refine J_ist_3_6 C (dA DX1_spotsInUse_0 7 rfl) rfl ?_
  refine J_iconst (v := nI 0) C (dA DX1_spotsInUse_0 8 rfl) (by decide) ?_
  refine J_ist_4_6 C (dA DX1_spotsInUse_0 9 rfl) rfl ?_
  exact loop _ 0 none rfl (Nat.zero_add _)
set_option maxRecDepth 4000 in
theorem c_X1_draw (l : Launch) (E : jE) (f : Nat) (hf : f < 3)  : K_X1_draw l E [.ref (ja E (fo f))] M (nI (drV (M (fb f + 2)))) (lay (fb f) M (upd (vb (fb f) M) 2 (drZ (vb (fb f) M 2)))) := by
  refine CT_intro (own := RX1) (by decide) rfl (by simp [Value.category]) (Nat.le_of_ble_eq_true rfl) rfl (fun X C G => ?_)
  show J E X 0 [some (.ref (ja E (fo f)))] [] M
  refine J_aload_n C (dA DX1_draw_0 0 rfl) rfl ?_
  refine J_aload_n C (dA DX1_draw_0 1 rfl) rfl ?_
  refine G_X1_z C hf wF_RX1_33 (dA DX1_draw_0 2 rfl) ?_
  refine J_ldc (v := nI 1103515245) C wK_RX1_76 (dA DX1_draw_0 3 rfl) ?_
  refine J_imul C (dA DX1_draw_0 4 rfl) ?_
  refine J_sipush (v := nI 12345) C (dA DX1_draw_0 5 rfl) (by decide) ?_
  refine J_iadd C (dA DX1_draw_0 6 rfl) ?_
  refine P_X1_z C hf wF_RX1_33 (dA DX1_draw_0 7 rfl) ?_
  refine J_aload_n C (dA DX1_draw_0 8 rfl) rfl ?_
  rw [show (M (fb f + 2) * nI 1103515245 + nI 12345) = drZ (M (fb f + 2)) from rfl]
  refine G_X1_z C hf wF_RX1_33 (dA DX1_draw_0 9 rfl) ?_
  rw [pk_us]
  refine J_bipush (v := nI 8) C (dA DX1_draw_0 10 rfl) (by decide) ?_
  refine J_iushr C (dA DX1_draw_0 11 rfl) ?_
  exact J_iret C G (dA DX1_draw_0 12 rfl) ⟨oi (drV_eq _), by rw [vb_at (by decide)]; exact lay_upd (j := 2) (by decide)⟩
theorem fa_u2 (f : Nat → Int32) (i : Nat) (x y : Int32) : upd (upd f i x) i y = upd f i y := by
  funext j; unfold upd; split <;> rfl
def drpS (S : Nat → Int32) : Nat → Int32 := if 0 < iN S then upd (upd S 2 (drZ (drZ (S 2)))) (100 + 3 * (drV (S 2) % iN S) + 1) (nI (drV (drZ (S 2)) % 16)) else S
theorem IS_z {S : Nat → Int32} (h : IS S) (x : Int32) : IS (upd S 2 x) := IS_lo h (by omega) (fun z => by omega) (fun z => by omega) (fun z => by omega)
theorem IS_drp {S : Nat → Int32} (h : IS S) : IS (drpS S) ∧ iN (drpS S) = iN S ∧ iM (drpS S) = iM S := by
  have hN := leN h
  unfold drpS
  split
  · next hp =>
    have hk := Nat.mod_lt (drV (S 2)) hp
    have hm : drV (drZ (S 2)) % 16 < 16 := Nat.mod_lt _ (by decide)
    refine ⟨IS_u3 (IS_z h _) (by omega) (by omega) (by show _ ≤ 15; omega), ?_, ?_⟩
    · unfold iN; rw [pk_un (by omega), pk_un (by omega)]
    · unfold iM; rw [pk_un (by omega), pk_un (by omega)]
  · exact ⟨h, rfl, rfl⟩
set_option maxRecDepth 4000 in
theorem c_X1_dropOne (l : Launch) (E : jE) (f : Nat) (hf : f < 3) (hS : IS (vb (fb f) M))  : K_X1_dropOne l E [.ref (ja E (fo f))] M (lay (fb f) M (drpS (vb (fb f) M))) := by
  refine CT_intro (own := RX1) (by decide) rfl (by simp [Value.category]) (Nat.le_of_ble_eq_true rfl) rfl (fun X C G => ?_)
  show J E X 0 [some (.ref (ja E (fo f))), none] [] M
  have hN := leN hS
  refine J_aload_n C (dA DX1_dropOne_0 0 rfl) rfl ?_
  refine H_X1_size C hf hS wF_RX1_23 (dA DX1_dropOne_0 1 rfl) ?_
  first | refine J_if_le_n (tgt := 32) C (by omega) (dA DX1_dropOne_0 2 rfl) (by decide) (fun h4 => ?_) (fun h4 => ?_) | refine J_if_le_t (tgt := 32) C (dA DX1_dropOne_0 2 rfl) (by decide) (fun h4 => ?_) (fun h4 => ?_)
  · exact J_vret C G (dA DX1_dropOne_0 19 rfl) ⟨rfl, by unfold drpS; rw [if_neg (by omega), lay_vb]⟩
  · refine J_aload_n C (dA DX1_dropOne_0 3 rfl) rfl ?_
    refine V_X1_draw C hf (c_X1_draw l E f hf) wM_RX1_77 (by decide) (dA DX1_dropOne_0 4 rfl) rfl (Nat.le_of_ble_eq_true rfl) ?_
    have hv1 := vb_lay (b := fb f) (M := M) (IS_z hS (drZ (vb (fb f) M 2))).1
    obtain ⟨M1, hM1⟩ : ∃ M1, M1 = lay (fb f) M (upd (vb (fb f) M) 2 (drZ (vb (fb f) M 2))) := ⟨_, rfl⟩
    rw [← hM1] at hv1 ⊢
    have hS1 : IS (vb (fb f) M1) := hv1 ▸ IS_z hS _
    have hn1 : iN (vb (fb f) M1) = iN (vb (fb f) M) := by rw [hv1]; unfold iN; rw [pk_un (by omega)]
    have hd1 := drV_lt (M (fb f + 2))
    have hd2 := drV_lt (M1 (fb f + 2))
    have hml := Nat.mod_lt (drV (M (fb f + 2))) (show 0 < iN (vb (fb f) M1) by omega)
    refine J_aload_n C (dA DX1_dropOne_0 5 rfl) rfl ?_
    refine H_X1_size C hf hS1 wF_RX1_23 (dA DX1_dropOne_0 6 rfl) ?_
    refine J_irem_n C (by omega) (by omega) (by omega) (dA DX1_dropOne_0 7 rfl) ?_
    refine J_ist_1_2 C (dA DX1_dropOne_0 8 rfl) rfl ?_
    refine J_aload_n C (dA DX1_dropOne_0 9 rfl) rfl ?_
    refine G_X1_things C hf wF_RX1_16 (dA DX1_dropOne_0 10 rfl) ?_
    refine J_iconst (v := nI 1) C (dA DX1_dropOne_0 11 rfl) (by decide) ?_
    first | refine R_fp C hf rfl (by omega) (dA DX1_dropOne_0 12 rfl) ?_ | refine R_ft C hf rfl (by omega) (dA DX1_dropOne_0 12 rfl) ?_ | refine R_sh C rfl (by omega) (dA DX1_dropOne_0 12 rfl) ?_
    refine J_iload_n C (dA DX1_dropOne_0 13 rfl) rfl ?_
    refine J_aload_n C (dA DX1_dropOne_0 14 rfl) rfl ?_
    refine V_X1_draw C hf (c_X1_draw l E f hf) wM_RX1_77 (by decide) (dA DX1_dropOne_0 15 rfl) rfl (Nat.le_of_ble_eq_true rfl) ?_
    refine J_bipush (v := nI 16) C (dA DX1_dropOne_0 16 rfl) (by decide) ?_
    refine J_irem_n C (by omega) (by omega) (by omega) (dA DX1_dropOne_0 17 rfl) ?_
    refine S_fk C hf (by decide) rfl (by omega) (dA DX1_dropOne_0 18 rfl) ?_
    have z0 : M (fb f + 2) = vb (fb f) M 2 := (vb_at (by decide)).symm
    have z1 : M1 (fb f + 2) = drZ (vb (fb f) M 2) := by rw [← vb_at (b := fb f) (M := M1) (j := 2) (by decide), hv1, pk_us]
    have z2 : vb (fb f) M1 2 = drZ (vb (fb f) M 2) := by rw [hv1, pk_us]
    have hml2 := Nat.mod_lt (drV (vb (fb f) M 2)) (show 0 < iN (vb (fb f) M) by omega)
    refine J_vret C G (dA DX1_dropOne_0 19 rfl) ⟨rfl, ?_⟩
    rw [z1, z2, z0, hn1, upd_lay (Can_upd (Can_vb _ _) (by decide)) (by omega), hv1, hM1, lay_lay]
    unfold drpS
    rw [if_pos (by omega), fa_u2]
set_option maxRecDepth 4000 in
theorem c_X1_chainEnd (l : Launch) (E : jE) (f : Nat) (hf : f < 3) (p m : Nat) (hp : p < 16) (hm : m ≤ 16) (hS : IS (vb (fb f) M))  : K_X1_chainEnd l E [.ref (ja E (fo f)), .int (nI p), .int (nI m)] M (nI (itr (vb (fb f) M) m p)) (M) := by
  refine CT_intro (own := RX1) (by decide) rfl (by simp [Value.category]) (Nat.le_of_ble_eq_true rfl) rfl (fun X C G => ?_)
  show J E X 0 [some (.ref (ja E (fo f))), some (.int (nI p)), some (.int (nI m)), none, none] [] M
  have loop : ∀ n i, i + n = m → J E X 5 [some (.ref (ja E (fo f))), some (.int (nI p)), some (.int (nI m)), some (.int (nI (itr (vb (fb f) M) i p))), some (.int (nI i))] [] M := by
    intro n
    induction n with
    | zero =>
      intro i hi
      refine J_iload C (dA DX1_chainEnd_0 4 rfl) rfl ?_
      refine J_iload_n C (dA DX1_chainEnd_0 5 rfl) rfl ?_
      first | refine J_icmp_ge_n (tgt := 26) C (by omega) (by omega) (dA DX1_chainEnd_0 6 rfl) (by decide) (fun h8 => ?_) (fun h8 => ?_) | refine J_icmp_ge_c (tgt := 26) C (by omega) (dA DX1_chainEnd_0 6 rfl) (by decide) (fun h8 => ?_) (fun h8 => ?_) | refine J_icmp_ge_t (tgt := 26) C (dA DX1_chainEnd_0 6 rfl) (by decide) (fun h8 => ?_) (fun h8 => ?_)
      · refine J_iload_n C (dA DX1_chainEnd_0 16 rfl) rfl ?_
        exact J_iret C G (dA DX1_chainEnd_0 17 rfl) ⟨oi (by rw [show i = m by omega]), rfl⟩
      · exfalso; omega
    | succ n ih =>
      intro i hi
      have hl := itr_lt hS i hp
      refine J_iload C (dA DX1_chainEnd_0 4 rfl) rfl ?_
      refine J_iload_n C (dA DX1_chainEnd_0 5 rfl) rfl ?_
      first | refine J_icmp_ge_n (tgt := 26) C (by omega) (by omega) (dA DX1_chainEnd_0 6 rfl) (by decide) (fun h8 => ?_) (fun h8 => ?_) | refine J_icmp_ge_c (tgt := 26) C (by omega) (dA DX1_chainEnd_0 6 rfl) (by decide) (fun h8 => ?_) (fun h8 => ?_) | refine J_icmp_ge_t (tgt := 26) C (dA DX1_chainEnd_0 6 rfl) (by decide) (fun h8 => ?_) (fun h8 => ?_)
      · exfalso; omega
      · refine J_aload_n C (dA DX1_chainEnd_0 7 rfl) rfl ?_
        refine G_X1_ponds C hf wF_RX1_11 (dA DX1_chainEnd_0 8 rfl) ?_
        refine J_iconst (v := nI 0) C (dA DX1_chainEnd_0 9 rfl) (by decide) ?_
        first | refine R_fp C hf rfl (by omega) (dA DX1_chainEnd_0 10 rfl) ?_ | refine R_ft C hf rfl (by omega) (dA DX1_chainEnd_0 10 rfl) ?_ | refine R_sh C rfl (by omega) (dA DX1_chainEnd_0 10 rfl) ?_
        refine J_iload_n C (dA DX1_chainEnd_0 11 rfl) rfl ?_
        first | refine Q_fr C hf hS (by decide) rfl (by omega) (dA DX1_chainEnd_0 12 rfl) ?_ | refine Q_fk C hf hS (by decide) rfl (by omega) (dA DX1_chainEnd_0 12 rfl) ?_ | refine R_fs C hf rfl (by omega) (dA DX1_chainEnd_0 12 rfl) ?_ | refine R_sn C hq rfl (by omega) (dA DX1_chainEnd_0 12 rfl) ?_ | refine R_1 C (hk := rfl) rfl (by omega) (dA DX1_chainEnd_0 12 rfl) ?_
        refine J_ist_3_5 C (dA DX1_chainEnd_0 13 rfl) rfl ?_
        first | refine J_inc1_4_5 C (dA DX1_chainEnd_0 14 rfl) rfl ?_ | refine J_iinc_4_5 C (dA DX1_chainEnd_0 14 rfl) rfl ?_
        refine J_goto (tgt := 5) C (dA DX1_chainEnd_0 15 rfl) (by decide) ?_
        exact ih (i + 1) (by omega)
  refine J_iload_n C (dA DX1_chainEnd_0 0 rfl) rfl ?_
  refine J_ist_3_5 C (dA DX1_chainEnd_0 1 rfl) rfl ?_
  refine J_iconst (v := nI 0) C (dA DX1_chainEnd_0 2 rfl) (by decide) ?_
  refine J_ist_4_5 C (dA DX1_chainEnd_0 3 rfl) rfl ?_
  exact loop _ 0 (Nat.zero_add _)
set_option maxRecDepth 4000 in
theorem c_X1_chainComes (l : Launch) (E : jE) (f : Nat) (hf : f < 3) (a p : Nat) (hp : a < 16) (hq : p < 16) (hS : IS (vb (fb f) M))  : K_X1_chainComes l E [.ref (ja E (fo f)), .int (nI a), .int (nI p)] M (jb (cmS (vb (fb f) M) a p)) (M) := by
  refine CT_intro (own := RX1) (by decide) rfl (by simp [Value.category]) (Nat.le_of_ble_eq_true rfl) rfl (fun X C G => ?_)
  show J E X 0 [some (.ref (ja E (fo f))), some (.int (nI a)), some (.int (nI p)), none, none] [] M
  have loop : ∀ n i, i + n = 16 → (∀ k, k < i → itr (vb (fb f) M) k a ≠ p) → J E X 5 [some (.ref (ja E (fo f))), some (.int (nI a)), some (.int (nI p)), some (.int (nI (itr (vb (fb f) M) i a))), some (.int (nI i))] [] M := by
    intro n
    induction n with
    | zero =>
      intro i hi hno
      have hl := itr_lt hS i hp
      refine J_iload C (dA DX1_chainComes_0 4 rfl) rfl ?_
      refine J_bipush (v := nI 16) C (dA DX1_chainComes_0 5 rfl) (by decide) ?_
      first | refine J_icmp_ge_n (tgt := 32) C (by omega) (by omega) (dA DX1_chainComes_0 6 rfl) (by decide) (fun h9 => ?_) (fun h9 => ?_) | refine J_icmp_ge_c (tgt := 32) C (by omega) (dA DX1_chainComes_0 6 rfl) (by decide) (fun h9 => ?_) (fun h9 => ?_) | refine J_icmp_ge_t (tgt := 32) C (dA DX1_chainComes_0 6 rfl) (by decide) (fun h9 => ?_) (fun h9 => ?_)
      · refine J_iload_n C (dA DX1_chainComes_0 19 rfl) rfl ?_
        refine J_iload_n C (dA DX1_chainComes_0 20 rfl) rfl ?_
        first | refine J_icmp_ne_n (tgt := 41) C (by omega) (by omega) (dA DX1_chainComes_0 21 rfl) (by decide) (fun h34 => ?_) (fun h34 => ?_) | refine J_icmp_ne_c (tgt := 41) C (by omega) (dA DX1_chainComes_0 21 rfl) (by decide) (fun h34 => ?_) (fun h34 => ?_) | refine J_icmp_ne_t (tgt := 41) C (dA DX1_chainComes_0 21 rfl) (by decide) (fun h34 => ?_) (fun h34 => ?_)
        · refine J_iconst (v := nI 0) C (dA DX1_chainComes_0 24 rfl) (by decide) ?_
          exact J_zret C G rfl (dA DX1_chainComes_0 25 rfl) ⟨oi (bt_f (anyB_no (fun k hk => decide_eq_false (by rcases Nat.lt_or_ge k i with q | q; exact hno k q; rw [show k = i by omega]; exact h34)))), rfl⟩
        · refine J_iconst (v := nI 1) C (dA DX1_chainComes_0 22 rfl) (by decide) ?_
          refine J_goto (tgt := 42) C (dA DX1_chainComes_0 23 rfl) (by decide) ?_
          exact J_zret C G rfl (dA DX1_chainComes_0 25 rfl) ⟨oi (bt_t (anyB_yes (k := i) (by omega) (decide_eq_true h34))), rfl⟩
      · exfalso; omega
    | succ n ih =>
      intro i hi hno
      have hl := itr_lt hS i hp
      refine J_iload C (dA DX1_chainComes_0 4 rfl) rfl ?_
      refine J_bipush (v := nI 16) C (dA DX1_chainComes_0 5 rfl) (by decide) ?_
      first | refine J_icmp_ge_n (tgt := 32) C (by omega) (by omega) (dA DX1_chainComes_0 6 rfl) (by decide) (fun h9 => ?_) (fun h9 => ?_) | refine J_icmp_ge_c (tgt := 32) C (by omega) (dA DX1_chainComes_0 6 rfl) (by decide) (fun h9 => ?_) (fun h9 => ?_) | refine J_icmp_ge_t (tgt := 32) C (dA DX1_chainComes_0 6 rfl) (by decide) (fun h9 => ?_) (fun h9 => ?_)
      · exfalso; omega
      · refine J_iload_n C (dA DX1_chainComes_0 7 rfl) rfl ?_
        refine J_iload_n C (dA DX1_chainComes_0 8 rfl) rfl ?_
        first | refine J_icmp_eq_n (tgt := 32) C (by omega) (by omega) (dA DX1_chainComes_0 9 rfl) (by decide) (fun h14 => ?_) (fun h14 => ?_) | refine J_icmp_eq_c (tgt := 32) C (by omega) (dA DX1_chainComes_0 9 rfl) (by decide) (fun h14 => ?_) (fun h14 => ?_) | refine J_icmp_eq_t (tgt := 32) C (dA DX1_chainComes_0 9 rfl) (by decide) (fun h14 => ?_) (fun h14 => ?_)
        · refine J_iload_n C (dA DX1_chainComes_0 19 rfl) rfl ?_
          refine J_iload_n C (dA DX1_chainComes_0 20 rfl) rfl ?_
          first | refine J_icmp_ne_n (tgt := 41) C (by omega) (by omega) (dA DX1_chainComes_0 21 rfl) (by decide) (fun h34 => ?_) (fun h34 => ?_) | refine J_icmp_ne_c (tgt := 41) C (by omega) (dA DX1_chainComes_0 21 rfl) (by decide) (fun h34 => ?_) (fun h34 => ?_) | refine J_icmp_ne_t (tgt := 41) C (dA DX1_chainComes_0 21 rfl) (by decide) (fun h34 => ?_) (fun h34 => ?_)
          · exfalso; omega
          · refine J_iconst (v := nI 1) C (dA DX1_chainComes_0 22 rfl) (by decide) ?_
            refine J_goto (tgt := 42) C (dA DX1_chainComes_0 23 rfl) (by decide) ?_
            exact J_zret C G rfl (dA DX1_chainComes_0 25 rfl) ⟨oi (bt_t (anyB_yes (k := i) (by omega) (decide_eq_true h14))), rfl⟩
        · refine J_aload_n C (dA DX1_chainComes_0 10 rfl) rfl ?_
          refine G_X1_ponds C hf wF_RX1_11 (dA DX1_chainComes_0 11 rfl) ?_
          refine J_iconst (v := nI 0) C (dA DX1_chainComes_0 12 rfl) (by decide) ?_
          first | refine R_fp C hf rfl (by omega) (dA DX1_chainComes_0 13 rfl) ?_ | refine R_ft C hf rfl (by omega) (dA DX1_chainComes_0 13 rfl) ?_ | refine R_sh C rfl (by omega) (dA DX1_chainComes_0 13 rfl) ?_
          refine J_iload_n C (dA DX1_chainComes_0 14 rfl) rfl ?_
          first | refine Q_fr C hf hS (by decide) rfl (by omega) (dA DX1_chainComes_0 15 rfl) ?_ | refine Q_fk C hf hS (by decide) rfl (by omega) (dA DX1_chainComes_0 15 rfl) ?_ | refine R_fs C hf rfl (by omega) (dA DX1_chainComes_0 15 rfl) ?_ | refine R_sn C hq rfl (by omega) (dA DX1_chainComes_0 15 rfl) ?_ | refine R_1 C (hk := rfl) rfl (by omega) (dA DX1_chainComes_0 15 rfl) ?_
          refine J_ist_3_5 C (dA DX1_chainComes_0 16 rfl) rfl ?_
          first | refine J_inc1_4_5 C (dA DX1_chainComes_0 17 rfl) rfl ?_ | refine J_iinc_4_5 C (dA DX1_chainComes_0 17 rfl) rfl ?_
          refine J_goto (tgt := 5) C (dA DX1_chainComes_0 18 rfl) (by decide) ?_
          exact ih (i + 1) (by omega) (fun k hk => by rcases Nat.lt_or_ge k i with q | q; exact hno k q; rw [show k = i by omega]; exact h14)
  refine J_iload_n C (dA DX1_chainComes_0 0 rfl) rfl ?_
  refine J_ist_3_5 C (dA DX1_chainComes_0 1 rfl) rfl ?_
  refine J_iconst (v := nI 0) C (dA DX1_chainComes_0 2 rfl) (by decide) ?_
  refine J_ist_4_5 C (dA DX1_chainComes_0 3 rfl) rfl ?_
  exact loop _ 0 (Nat.zero_add _) (fun k hk => by omega)
set_option maxRecDepth 4000 in
theorem c_X1_roundLength (l : Launch) (E : jE) (f : Nat) (hf : f < 3) (p : Nat) (hp : p < 16) (hS : IS (vb (fb f) M))  : K_X1_roundLength l E [.ref (ja E (fo f)), .int (nI p)] M (nI (rlS (vb (fb f) M) p)) (M) := by
  refine CT_intro (own := RX1) (by decide) rfl (by simp [Value.category]) (Nat.le_of_ble_eq_true rfl) rfl (fun X C G => ?_)
  show J E X 0 [some (.ref (ja E (fo f))), some (.int (nI p)), none, none] [] M
  have loop : ∀ n i, i + n = 16 → (∀ k, k < i → (fun i => decide (itr (vb (fb f) M) (i + 1) p = p)) k = false) → J E X 4 [some (.ref (ja E (fo f))), some (.int (nI p)), some (.int (nI (itr (vb (fb f) M) i p))), some (.int (nI (i + 1)))] [] M := by
    intro n
    induction n with
    | zero =>
      intro i hi hno
      refine J_iload_n C (dA DX1_roundLength_0 4 rfl) rfl ?_
      refine J_bipush (v := nI 16) C (dA DX1_roundLength_0 5 rfl) (by decide) ?_
      first | refine J_icmp_gt_n (tgt := 32) C (by omega) (by omega) (dA DX1_roundLength_0 6 rfl) (by decide) (fun h7 => ?_) (fun h7 => ?_) | refine J_icmp_gt_c (tgt := 32) C (by omega) (dA DX1_roundLength_0 6 rfl) (by decide) (fun h7 => ?_) (fun h7 => ?_) | refine J_icmp_gt_t (tgt := 32) C (dA DX1_roundLength_0 6 rfl) (by decide) (fun h7 => ?_) (fun h7 => ?_)
      · refine J_iconst (v := nI 0) C (dA DX1_roundLength_0 21 rfl) (by decide) ?_
        exact J_iret C G (dA DX1_roundLength_0 22 rfl) ⟨oi (by unfold rlS; rw [firstN_no (n := 16) (fun k hk => hno k (by omega)), if_neg (by omega)]), rfl⟩
      · exfalso; omega
    | succ n ih =>
      intro i hi hno
      have hl := itr_lt hS i hp
      have hl1 := itr_lt hS (i + 1) hp
      have hun : itr (vb (fb f) M) (i + 1) p = f6 (vb (fb f) M) (itr (vb (fb f) M) i p) 0 := rfl
      refine J_iload_n C (dA DX1_roundLength_0 4 rfl) rfl ?_
      refine J_bipush (v := nI 16) C (dA DX1_roundLength_0 5 rfl) (by decide) ?_
      first | refine J_icmp_gt_n (tgt := 32) C (by omega) (by omega) (dA DX1_roundLength_0 6 rfl) (by decide) (fun h7 => ?_) (fun h7 => ?_) | refine J_icmp_gt_c (tgt := 32) C (by omega) (dA DX1_roundLength_0 6 rfl) (by decide) (fun h7 => ?_) (fun h7 => ?_) | refine J_icmp_gt_t (tgt := 32) C (dA DX1_roundLength_0 6 rfl) (by decide) (fun h7 => ?_) (fun h7 => ?_)
      · exfalso; omega
      · refine J_aload_n C (dA DX1_roundLength_0 7 rfl) rfl ?_
        refine G_X1_ponds C hf wF_RX1_11 (dA DX1_roundLength_0 8 rfl) ?_
        refine J_iconst (v := nI 0) C (dA DX1_roundLength_0 9 rfl) (by decide) ?_
        first | refine R_fp C hf rfl (by omega) (dA DX1_roundLength_0 10 rfl) ?_ | refine R_ft C hf rfl (by omega) (dA DX1_roundLength_0 10 rfl) ?_ | refine R_sh C rfl (by omega) (dA DX1_roundLength_0 10 rfl) ?_
        refine J_iload_n C (dA DX1_roundLength_0 11 rfl) rfl ?_
        first | refine Q_fr C hf hS (by decide) rfl (by omega) (dA DX1_roundLength_0 12 rfl) ?_ | refine Q_fk C hf hS (by decide) rfl (by omega) (dA DX1_roundLength_0 12 rfl) ?_ | refine R_fs C hf rfl (by omega) (dA DX1_roundLength_0 12 rfl) ?_ | refine R_sn C hq rfl (by omega) (dA DX1_roundLength_0 12 rfl) ?_ | refine R_1 C (hk := rfl) rfl (by omega) (dA DX1_roundLength_0 12 rfl) ?_
        refine J_ist_2_4 C (dA DX1_roundLength_0 13 rfl) rfl ?_
        refine J_iload_n C (dA DX1_roundLength_0 14 rfl) rfl ?_
        refine J_iload_n C (dA DX1_roundLength_0 15 rfl) rfl ?_
        first | refine J_icmp_ne_n (tgt := 26) C (by omega) (by omega) (dA DX1_roundLength_0 16 rfl) (by decide) (fun h21 => ?_) (fun h21 => ?_) | refine J_icmp_ne_c (tgt := 26) C (by omega) (dA DX1_roundLength_0 16 rfl) (by decide) (fun h21 => ?_) (fun h21 => ?_) | refine J_icmp_ne_t (tgt := 26) C (dA DX1_roundLength_0 16 rfl) (by decide) (fun h21 => ?_) (fun h21 => ?_)
        · first | refine J_inc1_3_4 C (dA DX1_roundLength_0 19 rfl) rfl ?_ | refine J_iinc_3_4 C (dA DX1_roundLength_0 19 rfl) rfl ?_
          refine J_goto (tgt := 4) C (dA DX1_roundLength_0 20 rfl) (by decide) ?_
          refine ih (i + 1) (by omega) (fun k hk => ?_)
          by_cases e : k = i
          · subst e; exact decide_eq_false h21
          · exact hno k (by omega)
        · refine J_iload_n C (dA DX1_roundLength_0 17 rfl) rfl ?_
          exact J_iret C G (dA DX1_roundLength_0 18 rfl) ⟨oi (by unfold rlS; rw [firstN_eq (n := 16) (i := i) (by omega) hno (decide_eq_true h21), if_pos (by omega)]), rfl⟩
  refine J_iload_n C (dA DX1_roundLength_0 0 rfl) rfl ?_
  refine J_ist_2_4 C (dA DX1_roundLength_0 1 rfl) rfl ?_
  refine J_iconst (v := nI 1) C (dA DX1_roundLength_0 2 rfl) (by decide) ?_
  refine J_ist_3_4 C (dA DX1_roundLength_0 3 rfl) rfl ?_
  exact loop _ 0 (Nat.zero_add _) (fun k hk => by omega)
theorem rl_le (S : Nat → Int32) (p : Nat) : rlS S p ≤ 16 := by
  unfold rlS; split <;> omega
set_option maxRecDepth 4000 in
theorem c_X1_isLeastOfRound (l : Launch) (E : jE) (f : Nat) (hf : f < 3) (p : Nat) (hp : p < 16) (hS : IS (vb (fb f) M))  : K_X1_isLeastOfRound l E [.ref (ja E (fo f)), .int (nI p)] M (jb (llS (vb (fb f) M) p)) (M) := by
  refine CT_intro (own := RX1) (by decide) rfl (by simp [Value.category]) (Nat.le_of_ble_eq_true rfl) rfl (fun X C G => ?_)
  show J E X 0 [some (.ref (ja E (fo f))), some (.int (nI p)), none, none, none] [] M
  have hrl := rl_le (vb (fb f) M) p
  have loop : ∀ n i, i + n = rlS (vb (fb f) M) p - 1 → (∀ k, k < i → ¬ itr (vb (fb f) M) (k + 1) p < p) → J E X 11 [some (.ref (ja E (fo f))), some (.int (nI p)), some (.int (nI (rlS (vb (fb f) M) p))), some (.int (nI (itr (vb (fb f) M) i p))), some (.int (nI (i + 1)))] [] M := by
    intro n
    induction n with
    | zero =>
      intro i hi hno
      refine J_iload C (dA DX1_isLeastOfRound_0 8 rfl) rfl ?_
      refine J_iload_n C (dA DX1_isLeastOfRound_0 9 rfl) rfl ?_
      first | refine J_icmp_ge_n (tgt := 39) C (by omega) (by omega) (dA DX1_isLeastOfRound_0 10 rfl) (by decide) (fun h14 => ?_) (fun h14 => ?_) | refine J_icmp_ge_c (tgt := 39) C (by omega) (dA DX1_isLeastOfRound_0 10 rfl) (by decide) (fun h14 => ?_) (fun h14 => ?_) | refine J_icmp_ge_t (tgt := 39) C (dA DX1_isLeastOfRound_0 10 rfl) (by decide) (fun h14 => ?_) (fun h14 => ?_)
      · refine J_iload_n C (dA DX1_isLeastOfRound_0 25 rfl) rfl ?_
        first | refine J_if_le_n (tgt := 47) C (by omega) (dA DX1_isLeastOfRound_0 26 rfl) (by decide) (fun h40 => ?_) (fun h40 => ?_) | refine J_if_le_t (tgt := 47) C (dA DX1_isLeastOfRound_0 26 rfl) (by decide) (fun h40 => ?_) (fun h40 => ?_)
        · refine J_iconst (v := nI 0) C (dA DX1_isLeastOfRound_0 29 rfl) (by decide) ?_
          exact J_zret C G rfl (dA DX1_isLeastOfRound_0 30 rfl) ⟨oi (bt_f (by unfold llS; rw [decide_eq_false (by omega)]; rfl)), rfl⟩
        · refine J_iconst (v := nI 1) C (dA DX1_isLeastOfRound_0 27 rfl) (by decide) ?_
          refine J_goto (tgt := 48) C (dA DX1_isLeastOfRound_0 28 rfl) (by decide) ?_
          exact J_zret C G rfl (dA DX1_isLeastOfRound_0 30 rfl) ⟨oi (bt_t (by unfold llS; rw [decide_eq_true (by omega), anyB_no (fun k hk => decide_eq_false (hno k (by omega)))]; rfl)), rfl⟩
      · exfalso; omega
    | succ n ih =>
      intro i hi hno
      have hl := itr_lt hS i hp
      have hl1 := itr_lt hS (i + 1) hp
      have hun : itr (vb (fb f) M) (i + 1) p = f6 (vb (fb f) M) (itr (vb (fb f) M) i p) 0 := rfl
      refine J_iload C (dA DX1_isLeastOfRound_0 8 rfl) rfl ?_
      refine J_iload_n C (dA DX1_isLeastOfRound_0 9 rfl) rfl ?_
      first | refine J_icmp_ge_n (tgt := 39) C (by omega) (by omega) (dA DX1_isLeastOfRound_0 10 rfl) (by decide) (fun h14 => ?_) (fun h14 => ?_) | refine J_icmp_ge_c (tgt := 39) C (by omega) (dA DX1_isLeastOfRound_0 10 rfl) (by decide) (fun h14 => ?_) (fun h14 => ?_) | refine J_icmp_ge_t (tgt := 39) C (dA DX1_isLeastOfRound_0 10 rfl) (by decide) (fun h14 => ?_) (fun h14 => ?_)
      · exfalso; omega
      · refine J_aload_n C (dA DX1_isLeastOfRound_0 11 rfl) rfl ?_
        refine G_X1_ponds C hf wF_RX1_11 (dA DX1_isLeastOfRound_0 12 rfl) ?_
        refine J_iconst (v := nI 0) C (dA DX1_isLeastOfRound_0 13 rfl) (by decide) ?_
        first | refine R_fp C hf rfl (by omega) (dA DX1_isLeastOfRound_0 14 rfl) ?_ | refine R_ft C hf rfl (by omega) (dA DX1_isLeastOfRound_0 14 rfl) ?_ | refine R_sh C rfl (by omega) (dA DX1_isLeastOfRound_0 14 rfl) ?_
        refine J_iload_n C (dA DX1_isLeastOfRound_0 15 rfl) rfl ?_
        first | refine Q_fr C hf hS (by decide) rfl (by omega) (dA DX1_isLeastOfRound_0 16 rfl) ?_ | refine Q_fk C hf hS (by decide) rfl (by omega) (dA DX1_isLeastOfRound_0 16 rfl) ?_ | refine R_fs C hf rfl (by omega) (dA DX1_isLeastOfRound_0 16 rfl) ?_ | refine R_sn C hq rfl (by omega) (dA DX1_isLeastOfRound_0 16 rfl) ?_ | refine R_1 C (hk := rfl) rfl (by omega) (dA DX1_isLeastOfRound_0 16 rfl) ?_
        refine J_ist_3_5 C (dA DX1_isLeastOfRound_0 17 rfl) rfl ?_
        refine J_iload_n C (dA DX1_isLeastOfRound_0 18 rfl) rfl ?_
        refine J_iload_n C (dA DX1_isLeastOfRound_0 19 rfl) rfl ?_
        first | refine J_icmp_ge_n (tgt := 33) C (by omega) (by omega) (dA DX1_isLeastOfRound_0 20 rfl) (by decide) (fun h28 => ?_) (fun h28 => ?_) | refine J_icmp_ge_c (tgt := 33) C (by omega) (dA DX1_isLeastOfRound_0 20 rfl) (by decide) (fun h28 => ?_) (fun h28 => ?_) | refine J_icmp_ge_t (tgt := 33) C (dA DX1_isLeastOfRound_0 20 rfl) (by decide) (fun h28 => ?_) (fun h28 => ?_)
        · first | refine J_inc1_4_5 C (dA DX1_isLeastOfRound_0 23 rfl) rfl ?_ | refine J_iinc_4_5 C (dA DX1_isLeastOfRound_0 23 rfl) rfl ?_
          refine J_goto (tgt := 11) C (dA DX1_isLeastOfRound_0 24 rfl) (by decide) ?_
          exact ih (i + 1) (by omega) (fun k hk => by rcases Nat.lt_or_ge k i with q | q; exact hno k q; rw [show k = i by omega]; omega)
        · refine J_iconst (v := nI 0) C (dA DX1_isLeastOfRound_0 21 rfl) (by decide) ?_
          exact J_zret C G rfl (dA DX1_isLeastOfRound_0 22 rfl) ⟨oi (bt_f (by unfold llS; rw [anyB_yes (k := i) (by omega) (decide_eq_true (by omega))]; simp)), rfl⟩
  refine J_aload_n C (dA DX1_isLeastOfRound_0 0 rfl) rfl ?_
  refine J_iload_n C (dA DX1_isLeastOfRound_0 1 rfl) rfl ?_
  refine V_X1_roundLength C hf (c_X1_roundLength l E f hf p hp hS) wM_RX1_80 (by decide) (dA DX1_isLeastOfRound_0 2 rfl) rfl (Nat.le_of_ble_eq_true rfl) ?_
  refine J_ist_2_5 C (dA DX1_isLeastOfRound_0 3 rfl) rfl ?_
  refine J_iload_n C (dA DX1_isLeastOfRound_0 4 rfl) rfl ?_
  refine J_ist_3_5 C (dA DX1_isLeastOfRound_0 5 rfl) rfl ?_
  refine J_iconst (v := nI 1) C (dA DX1_isLeastOfRound_0 6 rfl) (by decide) ?_
  refine J_ist_4_5 C (dA DX1_isLeastOfRound_0 7 rfl) rfl ?_
  exact loop _ 0 (Nat.zero_add _) (fun k hk => by omega)
/-- M' holds the places D of fen g in fen f, and M else -/
def Bec (f g : Nat) (D : Nat → Prop) (M M' : jM) : Prop := (∀ j, j < 134 → D j → M' (fb f + j) = M (fb g + j)) ∧ (∀ a, (∀ j, j < 134 → D j → a ≠ fb f + j) → M' a = M a)
theorem fb_ne {f g a b : Nat} (h : f ≠ g) (ha : a < 134) (hb : b < 134) : fb f + a ≠ fb g + b := by
  unfold fb
  omega
theorem Bec_row {f g o s n : Nat} {D : Nat → Prop} {M M' : jM} (h : Bec f g D M M') (hfg : f ≠ g) (hs : 0 < s) (hn : ∀ q, q < n → o + s * q < 134) : Bec f g (fun j => D j ∨ ∃ q, q < n ∧ j = o + s * q) M (jcp M' (fb g + o) s (fb f + o) s 0 0 n) := by
  have hin : ∀ q, q < n → jcp M' (fb g + o) s (fb f + o) s 0 0 n (fb f + (o + s * q)) = M (fb g + (o + s * q)) := by
    intro q hq
    rw [show fb f + (o + s * q) = fb f + o + s * q by omega, jcp_at hs, if_pos (by omega)]
    have e : fb g + o + s * (0 + (q - 0)) = fb g + (o + s * q) := by rw [Nat.zero_add, Nat.sub_zero]; omega
    rw [e]
    exact h.2 _ (fun j hj _ => fb_ne (fun z => hfg z.symm) (hn q hq) hj)
  refine ⟨fun j hj hD => ?_, fun a ha => ?_⟩
  · by_cases hr : ∃ q, q < n ∧ j = o + s * q
    · obtain ⟨q, hq, rfl⟩ := hr
      exact hin q hq
    · rw [jcp_out hs (fun q _ hq z => hr ⟨q, by omega, by omega⟩)]
      rcases hD with hD | hD
      · exact h.1 j hj hD
      · exact absurd hD hr
  · rw [jcp_out hs (fun q _ hq z => ha (o + s * q) (hn q (by omega)) (Or.inr ⟨q, by omega, rfl⟩) (by omega))]
    exact h.2 a (fun j hj hD => ha j hj (Or.inl hD))
theorem Bec_0 {f g : Nat} {M : jM} : Bec f g (fun _ => False) M M := ⟨fun _ _ h => h.elim, fun _ _ => rfl⟩
theorem Bec_all {f g : Nat} {D : Nat → Prop} {M M' : jM} (h : Bec f g D M M') (hfg : f ≠ g) (hD : ∀ j, j < 134 → 4 ≤ j → D j) (hD0 : ∀ j, j < 4 → ¬ D j) :
    upd (upd (upd (upd M' (fb f + 1) (M (fb g + 1))) (fb f + 3) (M (fb g + 3))) (fb f) (M (fb g))) (fb f + 2) (M (fb g + 2)) = lay (fb f) M (vb (fb g) M) := by
  funext a
  unfold lay
  by_cases ha : fb f ≤ a ∧ a < fb f + 134
  · rw [if_pos ha, vb_at (by omega)]
    obtain ⟨j, rfl⟩ : ∃ j, a = fb f + j := ⟨a - fb f, by omega⟩
    rw [Nat.add_sub_cancel_left]
    have hj : j < 134 := by omega
    rcases (show j = 0 ∨ j = 1 ∨ j = 2 ∨ j = 3 ∨ 4 ≤ j by omega) with rfl | rfl | rfl | rfl | h4
    · rw [pk_un (by omega)]; exact pk_us
    · rw [pk_un (by omega), pk_un (by omega), pk_un (by omega)]; exact pk_us
    · exact pk_us
    · rw [pk_un (by omega), pk_un (by omega)]; exact pk_us
    · rw [pk_un (by omega), pk_un (by omega), pk_un (by omega), pk_un (by omega)]
      exact h.1 j hj (hD j hj h4)
  · rw [if_neg ha, pk_un (by omega), pk_un (by omega), pk_un (by omega), pk_un (by omega)]
    exact h.2 a (fun j hj _ => by omega)
theorem Bec_to {f g : Nat} {D D' : Nat → Prop} {M M' : jM} (h : Bec f g D M M') (e : ∀ j, D j ↔ D' j) : Bec f g D' M M' := ⟨fun j hj hD => h.1 j hj ((e j).mpr hD), fun a ha => h.2 a (fun j hj hD => ha j hj ((e j).mp hD))⟩
set_option maxRecDepth 4000 in
theorem c_X1_become (l : Launch) (E : jE) (f : Nat) (hf : f < 3) (g : Nat) (hg : g < 3) (hfg : f ≠ g) : K_X1_become l E [.ref (ja E (fo f)), .ref (ja E (fo g))] M (lay (fb f) M (vb (fb g) M)) := by
  refine CT_intro (own := RX1) (by decide) rfl (by simp [Value.category]) (Nat.le_of_ble_eq_true rfl) rfl (fun X C G => ?_)
  show J E X 0 [some (.ref (ja E (fo f))), some (.ref (ja E (fo g))), none] [] M
  have hgf : g ≠ f := fun z => hfg z.symm
  have last : ∀ (M2 : jM), Bec f g (fun j => (∃ w, w < 6 ∧ ∃ q, q < 16 ∧ j = 4 + w + 6 * q) ∨ ∃ w, w < 3 ∧ ∃ q, q < 8 ∧ j = 100 + w + 3 * q) M M2 → J E X 64 [some (.ref (ja E (fo f))), some (.ref (ja E (fo g))), some (.int (nI 3))] [] M2 := by
    intro M2 h2
    refine J_aload_n C (dA DX1_become_0 38 rfl) rfl ?_
    refine G_X1_spots C hg wF_RX1_19 (dA DX1_become_0 39 rfl) ?_
    refine J_iconst (v := nI 0) C (dA DX1_become_0 40 rfl) (by decide) ?_
    refine J_aload_n C (dA DX1_become_0 41 rfl) rfl ?_
    refine G_X1_spots C hf wF_RX1_19 (dA DX1_become_0 42 rfl) ?_
    refine J_iconst (v := nI 0) C (dA DX1_become_0 43 rfl) (by decide) ?_
    refine J_bipush (v := nI 10) C (dA DX1_become_0 44 rfl) (by decide) ?_
    refine J_copy C (jL_fs g hg) (jL_fs f hf) (by decide) (by decide) wM_RX1_36 (by decide) (dA DX1_become_0 45 rfl) rfl (Nat.le_of_ble_eq_true rfl) ?_
    have h3 := Bec_row h2 hfg (o := 124) (s := 1) (n := 10) (by decide) (fun q hq => by omega)
    obtain ⟨M3, hM3⟩ : ∃ M3, M3 = jcp M2 (fb g + 124) 1 (fb f + 124) 1 0 0 10 := ⟨_, rfl⟩
    rw [← hM3] at h3 ⊢
    refine J_aload_n C (dA DX1_become_0 46 rfl) rfl ?_
    refine J_aload_n C (dA DX1_become_0 47 rfl) rfl ?_
    refine G_X1_size C hg wF_RX1_23 (dA DX1_become_0 48 rfl) ?_
    refine P_X1_size C hf wF_RX1_23 (dA DX1_become_0 49 rfl) ?_
    refine J_aload_n C (dA DX1_become_0 50 rfl) rfl ?_
    refine J_aload_n C (dA DX1_become_0 51 rfl) rfl ?_
    refine G_X1_rain C hg wF_RX1_27 (dA DX1_become_0 52 rfl) ?_
    refine P_X1_rain C hf wF_RX1_27 (dA DX1_become_0 53 rfl) ?_
    refine J_aload_n C (dA DX1_become_0 54 rfl) rfl ?_
    refine J_aload_n C (dA DX1_become_0 55 rfl) rfl ?_
    refine G_X1_minute C hg wF_RX1_30 (dA DX1_become_0 56 rfl) ?_
    refine P_X1_minute C hf wF_RX1_30 (dA DX1_become_0 57 rfl) ?_
    refine J_aload_n C (dA DX1_become_0 58 rfl) rfl ?_
    refine J_aload_n C (dA DX1_become_0 59 rfl) rfl ?_
    refine G_X1_z C hg wF_RX1_33 (dA DX1_become_0 60 rfl) ?_
    refine P_X1_z C hf wF_RX1_33 (dA DX1_become_0 61 rfl) ?_
    refine J_vret C G (dA DX1_become_0 62 rfl) ⟨rfl, ?_⟩
    have r1 : M3 (fb g + 1) = M (fb g + 1) := h3.2 _ (fun j hj _ => fb_ne hgf (by decide) hj)
    have r3 : M3 (fb g + 3) = M (fb g + 3) := h3.2 _ (fun j hj _ => fb_ne hgf (by decide) hj)
    have r0 : M3 (fb g) = M (fb g) := h3.2 _ (fun j hj _ => fb_ne (a := 0) hgf (by decide) hj)
    have r2 : M3 (fb g + 2) = M (fb g + 2) := h3.2 _ (fun j hj _ => fb_ne hgf (by decide) hj)
    have n1 := fb_ne hgf (a := 3) (b := 1) (by decide) (by decide)
    have n2 : fb g ≠ fb f + 1 := fb_ne hgf (a := 0) (b := 1) (by decide) (by decide)
    have n3 : fb g ≠ fb f + 3 := fb_ne hgf (a := 0) (b := 3) (by decide) (by decide)
    have n4 := fb_ne hgf (a := 2) (b := 1) (by decide) (by decide)
    have n5 := fb_ne hgf (a := 2) (b := 3) (by decide) (by decide)
    have n6 : fb g + 2 ≠ fb f := fb_ne hgf (a := 2) (b := 0) (by decide) (by decide)
    rw [pk_un n1, pk_un n3, pk_un n2, pk_un n6, pk_un n5, pk_un n4, r1, r3, r0, r2]
    refine Bec_all h3 hfg (fun j hj h4 => ?_) (fun j hj hD => ?_)
    · by_cases h1 : j < 100
      · exact Or.inl (Or.inl ⟨(j - 4) % 6, Nat.mod_lt _ (by decide), (j - 4) / 6, by omega, by omega⟩)
      · by_cases h2 : j < 124
        · exact Or.inl (Or.inr ⟨(j - 100) % 3, Nat.mod_lt _ (by decide), (j - 100) / 3, by omega, by omega⟩)
        · exact Or.inr ⟨j - 124, by omega, by omega⟩
    · rcases hD with (⟨w, hw, q, hq, e⟩ | ⟨w, hw, q, hq, e⟩) | ⟨q, hq, e⟩ <;> omega
  have loop2 : ∀ n i (M2 : jM), i + n = 3 → Bec f g (fun j => (∃ w, w < 6 ∧ ∃ q, q < 16 ∧ j = 4 + w + 6 * q) ∨ ∃ w, w < i ∧ ∃ q, q < 8 ∧ j = 100 + w + 3 * q) M M2 → J E X 34 [some (.ref (ja E (fo f))), some (.ref (ja E (fo g))), some (.int (nI i))] [] M2 := by
    intro n
    induction n with
    | zero =>
      intro i M2 hi h2
      refine J_iload_n C (dA DX1_become_0 21 rfl) rfl ?_
      refine J_iconst (v := nI 2) C (dA DX1_become_0 22 rfl) (by decide) ?_
      first | refine J_icmp_gt_n (tgt := 64) C (by omega) (by omega) (dA DX1_become_0 23 rfl) (by decide) (fun h36 => ?_) (fun h36 => ?_) | refine J_icmp_gt_c (tgt := 64) C (by omega) (dA DX1_become_0 23 rfl) (by decide) (fun h36 => ?_) (fun h36 => ?_) | refine J_icmp_gt_t (tgt := 64) C (dA DX1_become_0 23 rfl) (by decide) (fun h36 => ?_) (fun h36 => ?_)
      · obtain rfl : i = 3 := by omega
        exact last M2 h2
      · exfalso; omega
    | succ n ih =>
      intro i M2 hi h2
      refine J_iload_n C (dA DX1_become_0 21 rfl) rfl ?_
      refine J_iconst (v := nI 2) C (dA DX1_become_0 22 rfl) (by decide) ?_
      first | refine J_icmp_gt_n (tgt := 64) C (by omega) (by omega) (dA DX1_become_0 23 rfl) (by decide) (fun h36 => ?_) (fun h36 => ?_) | refine J_icmp_gt_c (tgt := 64) C (by omega) (dA DX1_become_0 23 rfl) (by decide) (fun h36 => ?_) (fun h36 => ?_) | refine J_icmp_gt_t (tgt := 64) C (dA DX1_become_0 23 rfl) (by decide) (fun h36 => ?_) (fun h36 => ?_)
      · exfalso; omega
      · refine J_aload_n C (dA DX1_become_0 24 rfl) rfl ?_
        refine G_X1_things C hg wF_RX1_16 (dA DX1_become_0 25 rfl) ?_
        refine J_iload_n C (dA DX1_become_0 26 rfl) rfl ?_
        refine R_ft C hg rfl (by omega) (dA DX1_become_0 27 rfl) ?_
        refine J_iconst (v := nI 0) C (dA DX1_become_0 28 rfl) (by decide) ?_
        refine J_aload_n C (dA DX1_become_0 29 rfl) rfl ?_
        refine G_X1_things C hf wF_RX1_16 (dA DX1_become_0 30 rfl) ?_
        refine J_iload_n C (dA DX1_become_0 31 rfl) rfl ?_
        refine R_ft C hf rfl (by omega) (dA DX1_become_0 32 rfl) ?_
        refine J_iconst (v := nI 0) C (dA DX1_become_0 33 rfl) (by decide) ?_
        refine J_bipush (v := nI 8) C (dA DX1_become_0 34 rfl) (by decide) ?_
        refine J_copy C (jL_fk g hg i (by omega)) (jL_fk f hf i (by omega)) (by decide) (by decide) wM_RX1_36 (by decide) (dA DX1_become_0 35 rfl) rfl (Nat.le_of_ble_eq_true rfl) ?_
        rw [show fb g + 100 + i = fb g + (100 + i) by omega, show fb f + 100 + i = fb f + (100 + i) by omega]
        first | refine J_inc1_2_3 C (dA DX1_become_0 36 rfl) rfl ?_ | refine J_iinc_2_3 C (dA DX1_become_0 36 rfl) rfl ?_
        refine J_goto (tgt := 34) C (dA DX1_become_0 37 rfl) (by decide) ?_
        have h3 := Bec_row h2 hfg (o := 100 + i) (s := 3) (n := 8) (by decide) (fun q hq => by omega)
        refine ih (i + 1) _ (by omega) (Bec_to h3 (fun j => ⟨fun h => ?_, fun h => ?_⟩))
        · rcases h with (h | ⟨w, hw, q⟩) | ⟨q, hq, e⟩
          · exact Or.inl h
          · exact Or.inr ⟨w, by omega, q⟩
          · exact Or.inr ⟨i, by omega, q, hq, e⟩
        · rcases h with h | ⟨w, hw, q, hq, e⟩
          · exact Or.inl (Or.inl h)
          · by_cases e2 : w = i
            · subst e2; exact Or.inr ⟨q, hq, e⟩
            · exact Or.inl (Or.inr ⟨w, by omega, q, hq, e⟩)
  have loop1 : ∀ n i (M2 : jM), i + n = 6 → Bec f g (fun j => ∃ w, w < i ∧ ∃ q, q < 16 ∧ j = 4 + w + 6 * q) M M2 → J E X 2 [some (.ref (ja E (fo f))), some (.ref (ja E (fo g))), some (.int (nI i))] [] M2 := by
    intro n
    induction n with
    | zero =>
      intro i M2 hi h2
      refine J_iload_n C (dA DX1_become_0 2 rfl) rfl ?_
      refine J_iconst (v := nI 5) C (dA DX1_become_0 3 rfl) (by decide) ?_
      first | refine J_icmp_gt_n (tgt := 32) C (by omega) (by omega) (dA DX1_become_0 4 rfl) (by decide) (fun h4 => ?_) (fun h4 => ?_) | refine J_icmp_gt_c (tgt := 32) C (by omega) (dA DX1_become_0 4 rfl) (by decide) (fun h4 => ?_) (fun h4 => ?_) | refine J_icmp_gt_t (tgt := 32) C (dA DX1_become_0 4 rfl) (by decide) (fun h4 => ?_) (fun h4 => ?_)
      · refine J_iconst (v := nI 0) C (dA DX1_become_0 19 rfl) (by decide) ?_
        refine J_ist_2_3 C (dA DX1_become_0 20 rfl) rfl ?_
        obtain rfl : i = 6 := by omega
        exact loop2 _ 0 M2 (Nat.zero_add _) (Bec_to h2 (fun j => ⟨fun h => Or.inl h, fun h => h.elim id (fun ⟨w, hw, _⟩ => by omega)⟩))
      · exfalso; omega
    | succ n ih =>
      intro i M2 hi h2
      refine J_iload_n C (dA DX1_become_0 2 rfl) rfl ?_
      refine J_iconst (v := nI 5) C (dA DX1_become_0 3 rfl) (by decide) ?_
      first | refine J_icmp_gt_n (tgt := 32) C (by omega) (by omega) (dA DX1_become_0 4 rfl) (by decide) (fun h4 => ?_) (fun h4 => ?_) | refine J_icmp_gt_c (tgt := 32) C (by omega) (dA DX1_become_0 4 rfl) (by decide) (fun h4 => ?_) (fun h4 => ?_) | refine J_icmp_gt_t (tgt := 32) C (dA DX1_become_0 4 rfl) (by decide) (fun h4 => ?_) (fun h4 => ?_)
      · exfalso; omega
      · refine J_aload_n C (dA DX1_become_0 5 rfl) rfl ?_
        refine G_X1_ponds C hg wF_RX1_11 (dA DX1_become_0 6 rfl) ?_
        refine J_iload_n C (dA DX1_become_0 7 rfl) rfl ?_
        refine R_fp C hg rfl (by omega) (dA DX1_become_0 8 rfl) ?_
        refine J_iconst (v := nI 0) C (dA DX1_become_0 9 rfl) (by decide) ?_
        refine J_aload_n C (dA DX1_become_0 10 rfl) rfl ?_
        refine G_X1_ponds C hf wF_RX1_11 (dA DX1_become_0 11 rfl) ?_
        refine J_iload_n C (dA DX1_become_0 12 rfl) rfl ?_
        refine R_fp C hf rfl (by omega) (dA DX1_become_0 13 rfl) ?_
        refine J_iconst (v := nI 0) C (dA DX1_become_0 14 rfl) (by decide) ?_
        refine J_bipush (v := nI 16) C (dA DX1_become_0 15 rfl) (by decide) ?_
        refine J_copy C (jL_fr g hg i (by omega)) (jL_fr f hf i (by omega)) (by decide) (by decide) wM_RX1_36 (by decide) (dA DX1_become_0 16 rfl) rfl (Nat.le_of_ble_eq_true rfl) ?_
        rw [show fb g + 4 + i = fb g + (4 + i) by omega, show fb f + 4 + i = fb f + (4 + i) by omega]
        first | refine J_inc1_2_3 C (dA DX1_become_0 17 rfl) rfl ?_ | refine J_iinc_2_3 C (dA DX1_become_0 17 rfl) rfl ?_
        refine J_goto (tgt := 2) C (dA DX1_become_0 18 rfl) (by decide) ?_
        have h3 := Bec_row h2 hfg (o := 4 + i) (s := 6) (n := 16) (by decide) (fun q hq => by omega)
        refine ih (i + 1) _ (by omega) (Bec_to h3 (fun j => ⟨fun h => ?_, fun h => ?_⟩))
        · rcases h with ⟨w, hw, q⟩ | ⟨q, hq, e⟩
          · exact ⟨w, by omega, q⟩
          · exact ⟨i, by omega, q, hq, e⟩
        · obtain ⟨w, hw, q, hq, e⟩ := h
          by_cases e2 : w = i
          · subst e2; exact Or.inr ⟨q, hq, e⟩
          · exact Or.inl ⟨w, by omega, q, hq, e⟩
  refine J_iconst (v := nI 0) C (dA DX1_become_0 0 rfl) (by decide) ?_
  refine J_ist_2_3 C (dA DX1_become_0 1 rfl) rfl ?_
  exact loop1 _ 0 M (Nat.zero_add _) (Bec_to Bec_0 (fun j => ⟨fun h => h.elim, fun ⟨w, hw, _⟩ => by omega⟩))
end FM
end
