section
-- ===== PART A: goes FIRST, ahead of the names: the tables' words, and 'selects' of the private methods out of them =====
/-- a private method of a class that the tables say can be made, by its rows of tables_1 -/
def lw_okq (q : MethodName × Nat) : Prop := (q.1.cls ≠ "java/lang/invoke/MethodHandle" ∧ q.1.cls ≠ "java/lang/invoke/VarHandle") ∧ Cond.instantiable q.1.cls q.2 ∈ tables_1 ∧ Cond.privateMethod q.1 ∈ tables_1 ∧ Cond.instanceMethod q.1 ∈ tables_1
theorem lw_p0 : lw_okq (⟨"TruthSums$Tokens", "putWord", "(LTruthSums$Text;I)I"⟩, 5) := ⟨⟨by decide +kernel, by decide +kernel⟩, List.mem_of_getElem? (i := 52) (by decide +kernel), List.mem_of_getElem? (i := 247) (by decide +kernel), List.mem_of_getElem? (i := 248) (by decide +kernel)⟩
theorem lw_p1 : lw_okq (⟨"TruthSums$Tokens", "put", "(III)V"⟩, 5) := ⟨⟨by decide +kernel, by decide +kernel⟩, List.mem_of_getElem? (i := 52) (by decide +kernel), List.mem_of_getElem? (i := 251) (by decide +kernel), List.mem_of_getElem? (i := 252) (by decide +kernel)⟩
theorem lw_p2 : lw_okq (⟨"TruthSums$Tokens", "putNumber", "(LTruthSums$Text;I)I"⟩, 5) := ⟨⟨by decide +kernel, by decide +kernel⟩, List.mem_of_getElem? (i := 52) (by decide +kernel), List.mem_of_getElem? (i := 322) (by decide +kernel), List.mem_of_getElem? (i := 323) (by decide +kernel)⟩
theorem lw_p3 : lw_okq (⟨"TruthSums$Tokens", "putSign", "(LTruthSums$Text;I)I"⟩, 5) := ⟨⟨by decide +kernel, by decide +kernel⟩, List.mem_of_getElem? (i := 52) (by decide +kernel), List.mem_of_getElem? (i := 329) (by decide +kernel), List.mem_of_getElem? (i := 330) (by decide +kernel)⟩
theorem lw_p4 : lw_okq (⟨"TruthSums$Reader", "takeLine", "(LTruthSums$Line;)Z"⟩, 3) := ⟨⟨by decide +kernel, by decide +kernel⟩, List.mem_of_getElem? (i := 42) (by decide +kernel), List.mem_of_getElem? (i := 340) (by decide +kernel), List.mem_of_getElem? (i := 341) (by decide +kernel)⟩
theorem lw_p5 : lw_okq (⟨"TruthSums$Reader", "takeTerm", "(LTruthSums$Line;)Z"⟩, 3) := ⟨⟨by decide +kernel, by decide +kernel⟩, List.mem_of_getElem? (i := 42) (by decide +kernel), List.mem_of_getElem? (i := 348) (by decide +kernel), List.mem_of_getElem? (i := 349) (by decide +kernel)⟩
theorem lw_p6 : lw_okq (⟨"TruthSums$Reader", "takeNumberWithin", "(II)Z"⟩, 3) := ⟨⟨by decide +kernel, by decide +kernel⟩, List.mem_of_getElem? (i := 42) (by decide +kernel), List.mem_of_getElem? (i := 356) (by decide +kernel), List.mem_of_getElem? (i := 357) (by decide +kernel)⟩
theorem lw_p7 : lw_okq (⟨"TruthSums$Reader", "take", "(I)Z"⟩, 3) := ⟨⟨by decide +kernel, by decide +kernel⟩, List.mem_of_getElem? (i := 42) (by decide +kernel), List.mem_of_getElem? (i := 364) (by decide +kernel), List.mem_of_getElem? (i := 365) (by decide +kernel)⟩
theorem lw_p8 : lw_okq (⟨"TruthSums", "forgetProof", "()V"⟩, 12) := ⟨⟨by decide +kernel, by decide +kernel⟩, List.mem_of_getElem? (i := 18) (by decide +kernel), List.mem_of_getElem? (i := 376) (by decide +kernel), List.mem_of_getElem? (i := 377) (by decide +kernel)⟩
theorem lw_p9 : lw_okq (⟨"TruthSums$Reader", "takeStepText", "(LTruthSums$Step;I)Z"⟩, 3) := ⟨⟨by decide +kernel, by decide +kernel⟩, List.mem_of_getElem? (i := 42) (by decide +kernel), List.mem_of_getElem? (i := 388) (by decide +kernel), List.mem_of_getElem? (i := 389) (by decide +kernel)⟩
theorem lw_p10 : lw_okq (⟨"TruthSums$Reader", "takeLetter", "(LTruthSums$Step;)Z"⟩, 3) := ⟨⟨by decide +kernel, by decide +kernel⟩, List.mem_of_getElem? (i := 42) (by decide +kernel), List.mem_of_getElem? (i := 392) (by decide +kernel), List.mem_of_getElem? (i := 393) (by decide +kernel)⟩
theorem lw_p11 : lw_okq (⟨"TruthSums$Reader", "takeFirst", "(LTruthSums$Step;I)Z"⟩, 3) := ⟨⟨by decide +kernel, by decide +kernel⟩, List.mem_of_getElem? (i := 42) (by decide +kernel), List.mem_of_getElem? (i := 396) (by decide +kernel), List.mem_of_getElem? (i := 397) (by decide +kernel)⟩
theorem lw_p12 : lw_okq (⟨"TruthSums$Reader", "takeSecond", "(LTruthSums$Step;II)Z"⟩, 3) := ⟨⟨by decide +kernel, by decide +kernel⟩, List.mem_of_getElem? (i := 42) (by decide +kernel), List.mem_of_getElem? (i := 400) (by decide +kernel), List.mem_of_getElem? (i := 401) (by decide +kernel)⟩
theorem lw_p13 : lw_okq (⟨"TruthSums", "walkProof", "()V"⟩, 12) := ⟨⟨by decide +kernel, by decide +kernel⟩, List.mem_of_getElem? (i := 18) (by decide +kernel), List.mem_of_getElem? (i := 404) (by decide +kernel), List.mem_of_getElem? (i := 405) (by decide +kernel)⟩
theorem lw_p14 : lw_okq (⟨"TruthSums", "takeClaim", "(LTruthSums$Step;ILTruthSums$Line;)I"⟩, 12) := ⟨⟨by decide +kernel, by decide +kernel⟩, List.mem_of_getElem? (i := 18) (by decide +kernel), List.mem_of_getElem? (i := 408) (by decide +kernel), List.mem_of_getElem? (i := 409) (by decide +kernel)⟩
theorem lw_p15 : lw_okq (⟨"TruthSums$Forcing", "passOver", "([LTruthSums$Line;I)Z"⟩, 3) := ⟨⟨by decide +kernel, by decide +kernel⟩, List.mem_of_getElem? (i := 130) (by decide +kernel), List.mem_of_getElem? (i := 427) (by decide +kernel), List.mem_of_getElem? (i := 428) (by decide +kernel)⟩
def lw_privs_1 : List (MethodName × Nat) := [(⟨"TruthSums$Tokens", "putWord", "(LTruthSums$Text;I)I"⟩, 5), (⟨"TruthSums$Tokens", "put", "(III)V"⟩, 5), (⟨"TruthSums$Tokens", "putNumber", "(LTruthSums$Text;I)I"⟩, 5), (⟨"TruthSums$Tokens", "putSign", "(LTruthSums$Text;I)I"⟩, 5), (⟨"TruthSums$Reader", "takeLine", "(LTruthSums$Line;)Z"⟩, 3), (⟨"TruthSums$Reader", "takeTerm", "(LTruthSums$Line;)Z"⟩, 3), (⟨"TruthSums$Reader", "takeNumberWithin", "(II)Z"⟩, 3), (⟨"TruthSums$Reader", "take", "(I)Z"⟩, 3), (⟨"TruthSums", "forgetProof", "()V"⟩, 12), (⟨"TruthSums$Reader", "takeStepText", "(LTruthSums$Step;I)Z"⟩, 3), (⟨"TruthSums$Reader", "takeLetter", "(LTruthSums$Step;)Z"⟩, 3), (⟨"TruthSums$Reader", "takeFirst", "(LTruthSums$Step;I)Z"⟩, 3), (⟨"TruthSums$Reader", "takeSecond", "(LTruthSums$Step;II)Z"⟩, 3), (⟨"TruthSums", "walkProof", "()V"⟩, 12), (⟨"TruthSums", "takeClaim", "(LTruthSums$Step;ILTruthSums$Line;)I"⟩, 12), (⟨"TruthSums$Forcing", "passOver", "([LTruthSums$Line;I)Z"⟩, 3)]
theorem lw_r1 : ∀ q ∈ lw_privs_1, lw_okq q := List.forall_mem_cons.mpr ⟨lw_p0, List.forall_mem_cons.mpr ⟨lw_p1, List.forall_mem_cons.mpr ⟨lw_p2, List.forall_mem_cons.mpr ⟨lw_p3, List.forall_mem_cons.mpr ⟨lw_p4, List.forall_mem_cons.mpr ⟨lw_p5, List.forall_mem_cons.mpr ⟨lw_p6, List.forall_mem_cons.mpr ⟨lw_p7, List.forall_mem_cons.mpr ⟨lw_p8, List.forall_mem_cons.mpr ⟨lw_p9, List.forall_mem_cons.mpr ⟨lw_p10, List.forall_mem_cons.mpr ⟨lw_p11, List.forall_mem_cons.mpr ⟨lw_p12, List.forall_mem_cons.mpr ⟨lw_p13, List.forall_mem_cons.mpr ⟨lw_p14, List.forall_mem_cons.mpr ⟨lw_p15, fun _ h => absurd h List.not_mem_nil⟩⟩⟩⟩⟩⟩⟩⟩⟩⟩⟩⟩⟩⟩⟩⟩
theorem lw_p16 : lw_okq (⟨"TruthSums$Forcing", "visit", "(LTruthSums$Line;)V"⟩, 3) := ⟨⟨by decide +kernel, by decide +kernel⟩, List.mem_of_getElem? (i := 130) (by decide +kernel), List.mem_of_getElem? (i := 431) (by decide +kernel), List.mem_of_getElem? (i := 432) (by decide +kernel)⟩
theorem lw_p17 : lw_okq (⟨"TruthSums", "takeStep", "(LTruthSums$Step;LTruthSums$Line;)I"⟩, 12) := ⟨⟨by decide +kernel, by decide +kernel⟩, List.mem_of_getElem? (i := 18) (by decide +kernel), List.mem_of_getElem? (i := 436) (by decide +kernel), List.mem_of_getElem? (i := 437) (by decide +kernel)⟩
theorem lw_p18 : lw_okq (⟨"TruthSums", "lineOrFirst", "(I)LTruthSums$Line;"⟩, 12) := ⟨⟨by decide +kernel, by decide +kernel⟩, List.mem_of_getElem? (i := 18) (by decide +kernel), List.mem_of_getElem? (i := 440) (by decide +kernel), List.mem_of_getElem? (i := 441) (by decide +kernel)⟩
theorem lw_p19 : lw_okq (⟨"TruthSums", "isLine", "(I)Z"⟩, 12) := ⟨⟨by decide +kernel, by decide +kernel⟩, List.mem_of_getElem? (i := 18) (by decide +kernel), List.mem_of_getElem? (i := 444) (by decide +kernel), List.mem_of_getElem? (i := 445) (by decide +kernel)⟩
theorem lw_p20 : lw_okq (⟨"TruthSums", "lineCount", "()I"⟩, 12) := ⟨⟨by decide +kernel, by decide +kernel⟩, List.mem_of_getElem? (i := 18) (by decide +kernel), List.mem_of_getElem? (i := 448) (by decide +kernel), List.mem_of_getElem? (i := 449) (by decide +kernel)⟩
theorem lw_p21 : lw_okq (⟨"TruthSums", "trueWorlds", "()J"⟩, 12) := ⟨⟨by decide +kernel, by decide +kernel⟩, List.mem_of_getElem? (i := 18) (by decide +kernel), List.mem_of_getElem? (i := 542) (by decide +kernel), List.mem_of_getElem? (i := 543) (by decide +kernel)⟩
theorem lw_p22 : lw_okq (⟨"TruthSums", "leastTelling", "(J)I"⟩, 12) := ⟨⟨by decide +kernel, by decide +kernel⟩, List.mem_of_getElem? (i := 18) (by decide +kernel), List.mem_of_getElem? (i := 562) (by decide +kernel), List.mem_of_getElem? (i := 563) (by decide +kernel)⟩
theorem lw_p23 : lw_okq (⟨"TruthSums", "worldsOfGiven", "(I)J"⟩, 12) := ⟨⟨by decide +kernel, by decide +kernel⟩, List.mem_of_getElem? (i := 18) (by decide +kernel), List.mem_of_getElem? (i := 572) (by decide +kernel), List.mem_of_getElem? (i := 573) (by decide +kernel)⟩
theorem lw_p24 : lw_okq (⟨"TruthSums$Line", "isCover", "(I)Z"⟩, 2) := ⟨⟨by decide +kernel, by decide +kernel⟩, List.mem_of_getElem? (i := 74) (by decide +kernel), List.mem_of_getElem? (i := 584) (by decide +kernel), List.mem_of_getElem? (i := 585) (by decide +kernel)⟩
theorem lw_p25 : lw_okq (⟨"TruthSums", "cheapestTrueWorld", "()I"⟩, 12) := ⟨⟨by decide +kernel, by decide +kernel⟩, List.mem_of_getElem? (i := 18) (by decide +kernel), List.mem_of_getElem? (i := 596) (by decide +kernel), List.mem_of_getElem? (i := 597) (by decide +kernel)⟩
theorem lw_p26 : lw_okq (⟨"TruthSums", "costOf", "(I)I"⟩, 12) := ⟨⟨by decide +kernel, by decide +kernel⟩, List.mem_of_getElem? (i := 18) (by decide +kernel), List.mem_of_getElem? (i := 600) (by decide +kernel), List.mem_of_getElem? (i := 601) (by decide +kernel)⟩
theorem lw_p27 : lw_okq (⟨"TruthSums$Fit", "searchTogether", "(II)Z"⟩, 4) := ⟨⟨by decide +kernel, by decide +kernel⟩, List.mem_of_getElem? (i := 149) (by decide +kernel), List.mem_of_getElem? (i := 612) (by decide +kernel), List.mem_of_getElem? (i := 613) (by decide +kernel)⟩
theorem lw_p28 : lw_okq (⟨"TruthSums$Fit", "fits", "(IIII)Z"⟩, 4) := ⟨⟨by decide +kernel, by decide +kernel⟩, List.mem_of_getElem? (i := 149) (by decide +kernel), List.mem_of_getElem? (i := 617) (by decide +kernel), List.mem_of_getElem? (i := 618) (by decide +kernel)⟩
theorem lw_p29 : lw_okq (⟨"TruthSumsModel", "advances", "()V"⟩, 20) := ⟨⟨by decide +kernel, by decide +kernel⟩, List.mem_of_getElem? (i := 638) (by decide +kernel), List.mem_of_getElem? (i := 721) (by decide +kernel), List.mem_of_getElem? (i := 722) (by decide +kernel)⟩
theorem lw_p30 : lw_okq (⟨"TruthSumsModel", "byteAt", "(I)I"⟩, 20) := ⟨⟨by decide +kernel, by decide +kernel⟩, List.mem_of_getElem? (i := 638) (by decide +kernel), List.mem_of_getElem? (i := 725) (by decide +kernel), List.mem_of_getElem? (i := 726) (by decide +kernel)⟩
theorem lw_p31 : lw_okq (⟨"TruthSumsModel", "isWell", "()Z"⟩, 20) := ⟨⟨by decide +kernel, by decide +kernel⟩, List.mem_of_getElem? (i := 638) (by decide +kernel), List.mem_of_getElem? (i := 739) (by decide +kernel), List.mem_of_getElem? (i := 740) (by decide +kernel)⟩
def lw_privs_2 : List (MethodName × Nat) := [(⟨"TruthSums$Forcing", "visit", "(LTruthSums$Line;)V"⟩, 3), (⟨"TruthSums", "takeStep", "(LTruthSums$Step;LTruthSums$Line;)I"⟩, 12), (⟨"TruthSums", "lineOrFirst", "(I)LTruthSums$Line;"⟩, 12), (⟨"TruthSums", "isLine", "(I)Z"⟩, 12), (⟨"TruthSums", "lineCount", "()I"⟩, 12), (⟨"TruthSums", "trueWorlds", "()J"⟩, 12), (⟨"TruthSums", "leastTelling", "(J)I"⟩, 12), (⟨"TruthSums", "worldsOfGiven", "(I)J"⟩, 12), (⟨"TruthSums$Line", "isCover", "(I)Z"⟩, 2), (⟨"TruthSums", "cheapestTrueWorld", "()I"⟩, 12), (⟨"TruthSums", "costOf", "(I)I"⟩, 12), (⟨"TruthSums$Fit", "searchTogether", "(II)Z"⟩, 4), (⟨"TruthSums$Fit", "fits", "(IIII)Z"⟩, 4), (⟨"TruthSumsModel", "advances", "()V"⟩, 20), (⟨"TruthSumsModel", "byteAt", "(I)I"⟩, 20), (⟨"TruthSumsModel", "isWell", "()Z"⟩, 20)]
theorem lw_r2 : ∀ q ∈ lw_privs_2, lw_okq q := List.forall_mem_cons.mpr ⟨lw_p16, List.forall_mem_cons.mpr ⟨lw_p17, List.forall_mem_cons.mpr ⟨lw_p18, List.forall_mem_cons.mpr ⟨lw_p19, List.forall_mem_cons.mpr ⟨lw_p20, List.forall_mem_cons.mpr ⟨lw_p21, List.forall_mem_cons.mpr ⟨lw_p22, List.forall_mem_cons.mpr ⟨lw_p23, List.forall_mem_cons.mpr ⟨lw_p24, List.forall_mem_cons.mpr ⟨lw_p25, List.forall_mem_cons.mpr ⟨lw_p26, List.forall_mem_cons.mpr ⟨lw_p27, List.forall_mem_cons.mpr ⟨lw_p28, List.forall_mem_cons.mpr ⟨lw_p29, List.forall_mem_cons.mpr ⟨lw_p30, List.forall_mem_cons.mpr ⟨lw_p31, fun _ h => absurd h List.not_mem_nil⟩⟩⟩⟩⟩⟩⟩⟩⟩⟩⟩⟩⟩⟩⟩⟩
theorem lw_p32 : lw_okq (⟨"TruthSumsModel", "fails", "()V"⟩, 20) := ⟨⟨by decide +kernel, by decide +kernel⟩, List.mem_of_getElem? (i := 638) (by decide +kernel), List.mem_of_getElem? (i := 743) (by decide +kernel), List.mem_of_getElem? (i := 744) (by decide +kernel)⟩
theorem lw_p33 : lw_okq (⟨"TruthSumsModel", "readsLine", "([II)V"⟩, 20) := ⟨⟨by decide +kernel, by decide +kernel⟩, List.mem_of_getElem? (i := 638) (by decide +kernel), List.mem_of_getElem? (i := 747) (by decide +kernel), List.mem_of_getElem? (i := 748) (by decide +kernel)⟩
theorem lw_p34 : lw_okq (⟨"TruthSumsModel", "isToken", "(I)Z"⟩, 20) := ⟨⟨by decide +kernel, by decide +kernel⟩, List.mem_of_getElem? (i := 638) (by decide +kernel), List.mem_of_getElem? (i := 751) (by decide +kernel), List.mem_of_getElem? (i := 752) (by decide +kernel)⟩
theorem lw_p35 : lw_okq (⟨"TruthSumsModel", "takesNumber", "(II)I"⟩, 20) := ⟨⟨by decide +kernel, by decide +kernel⟩, List.mem_of_getElem? (i := 638) (by decide +kernel), List.mem_of_getElem? (i := 755) (by decide +kernel), List.mem_of_getElem? (i := 756) (by decide +kernel)⟩
theorem lw_p36 : lw_okq (⟨"TruthSumsModel", "takes", "(I)V"⟩, 20) := ⟨⟨by decide +kernel, by decide +kernel⟩, List.mem_of_getElem? (i := 638) (by decide +kernel), List.mem_of_getElem? (i := 759) (by decide +kernel), List.mem_of_getElem? (i := 760) (by decide +kernel)⟩
theorem lw_p37 : lw_okq (⟨"TruthSumsModel", "readsStep", "(I)V"⟩, 20) := ⟨⟨by decide +kernel, by decide +kernel⟩, List.mem_of_getElem? (i := 638) (by decide +kernel), List.mem_of_getElem? (i := 767) (by decide +kernel), List.mem_of_getElem? (i := 768) (by decide +kernel)⟩
theorem lw_p38 : lw_okq (⟨"TruthSumsModel", "takesLetter", "()I"⟩, 20) := ⟨⟨by decide +kernel, by decide +kernel⟩, List.mem_of_getElem? (i := 638) (by decide +kernel), List.mem_of_getElem? (i := 771) (by decide +kernel), List.mem_of_getElem? (i := 772) (by decide +kernel)⟩
theorem lw_p39 : lw_okq (⟨"TruthSumsModel", "does", "(II)V"⟩, 20) := ⟨⟨by decide +kernel, by decide +kernel⟩, List.mem_of_getElem? (i := 638) (by decide +kernel), List.mem_of_getElem? (i := 775) (by decide +kernel), List.mem_of_getElem? (i := 776) (by decide +kernel)⟩
theorem lw_p40 : lw_okq (⟨"TruthSumsModel", "isGreat", "(I)Z"⟩, 20) := ⟨⟨by decide +kernel, by decide +kernel⟩, List.mem_of_getElem? (i := 638) (by decide +kernel), List.mem_of_getElem? (i := 782) (by decide +kernel), List.mem_of_getElem? (i := 783) (by decide +kernel)⟩
theorem lw_p41 : lw_okq (⟨"TruthSumsModel", "isRight", "(I)Z"⟩, 20) := ⟨⟨by decide +kernel, by decide +kernel⟩, List.mem_of_getElem? (i := 638) (by decide +kernel), List.mem_of_getElem? (i := 787) (by decide +kernel), List.mem_of_getElem? (i := 788) (by decide +kernel)⟩
theorem lw_p42 : lw_okq (⟨"TruthSumsModel", "weights", "(I)I"⟩, 20) := ⟨⟨by decide +kernel, by decide +kernel⟩, List.mem_of_getElem? (i := 638) (by decide +kernel), List.mem_of_getElem? (i := 791) (by decide +kernel), List.mem_of_getElem? (i := 792) (by decide +kernel)⟩
theorem lw_p43 : lw_okq (⟨"TruthSumsModel", "clashes", "(III)Z"⟩, 20) := ⟨⟨by decide +kernel, by decide +kernel⟩, List.mem_of_getElem? (i := 638) (by decide +kernel), List.mem_of_getElem? (i := 795) (by decide +kernel), List.mem_of_getElem? (i := 796) (by decide +kernel)⟩
theorem lw_p44 : lw_okq (⟨"TruthSumsModel", "isLine", "(I)Z"⟩, 20) := ⟨⟨by decide +kernel, by decide +kernel⟩, List.mem_of_getElem? (i := 638) (by decide +kernel), List.mem_of_getElem? (i := 807) (by decide +kernel), List.mem_of_getElem? (i := 808) (by decide +kernel)⟩
theorem lw_p45 : lw_okq (⟨"TruthSumsModel", "held", "(I)J"⟩, 20) := ⟨⟨by decide +kernel, by decide +kernel⟩, List.mem_of_getElem? (i := 638) (by decide +kernel), List.mem_of_getElem? (i := 816) (by decide +kernel), List.mem_of_getElem? (i := 817) (by decide +kernel)⟩
theorem lw_p46 : lw_okq (⟨"TruthSumsModel", "isHeld", "(II)Z"⟩, 20) := ⟨⟨by decide +kernel, by decide +kernel⟩, List.mem_of_getElem? (i := 638) (by decide +kernel), List.mem_of_getElem? (i := 820) (by decide +kernel), List.mem_of_getElem? (i := 821) (by decide +kernel)⟩
theorem lw_p47 : lw_okq (⟨"TruthSumsModel", "weighs", "(II)I"⟩, 20) := ⟨⟨by decide +kernel, by decide +kernel⟩, List.mem_of_getElem? (i := 638) (by decide +kernel), List.mem_of_getElem? (i := 824) (by decide +kernel), List.mem_of_getElem? (i := 825) (by decide +kernel)⟩
def lw_privs_3 : List (MethodName × Nat) := [(⟨"TruthSumsModel", "fails", "()V"⟩, 20), (⟨"TruthSumsModel", "readsLine", "([II)V"⟩, 20), (⟨"TruthSumsModel", "isToken", "(I)Z"⟩, 20), (⟨"TruthSumsModel", "takesNumber", "(II)I"⟩, 20), (⟨"TruthSumsModel", "takes", "(I)V"⟩, 20), (⟨"TruthSumsModel", "readsStep", "(I)V"⟩, 20), (⟨"TruthSumsModel", "takesLetter", "()I"⟩, 20), (⟨"TruthSumsModel", "does", "(II)V"⟩, 20), (⟨"TruthSumsModel", "isGreat", "(I)Z"⟩, 20), (⟨"TruthSumsModel", "isRight", "(I)Z"⟩, 20), (⟨"TruthSumsModel", "weights", "(I)I"⟩, 20), (⟨"TruthSumsModel", "clashes", "(III)Z"⟩, 20), (⟨"TruthSumsModel", "isLine", "(I)Z"⟩, 20), (⟨"TruthSumsModel", "held", "(I)J"⟩, 20), (⟨"TruthSumsModel", "isHeld", "(II)Z"⟩, 20), (⟨"TruthSumsModel", "weighs", "(II)I"⟩, 20)]
theorem lw_r3 : ∀ q ∈ lw_privs_3, lw_okq q := List.forall_mem_cons.mpr ⟨lw_p32, List.forall_mem_cons.mpr ⟨lw_p33, List.forall_mem_cons.mpr ⟨lw_p34, List.forall_mem_cons.mpr ⟨lw_p35, List.forall_mem_cons.mpr ⟨lw_p36, List.forall_mem_cons.mpr ⟨lw_p37, List.forall_mem_cons.mpr ⟨lw_p38, List.forall_mem_cons.mpr ⟨lw_p39, List.forall_mem_cons.mpr ⟨lw_p40, List.forall_mem_cons.mpr ⟨lw_p41, List.forall_mem_cons.mpr ⟨lw_p42, List.forall_mem_cons.mpr ⟨lw_p43, List.forall_mem_cons.mpr ⟨lw_p44, List.forall_mem_cons.mpr ⟨lw_p45, List.forall_mem_cons.mpr ⟨lw_p46, List.forall_mem_cons.mpr ⟨lw_p47, fun _ h => absurd h List.not_mem_nil⟩⟩⟩⟩⟩⟩⟩⟩⟩⟩⟩⟩⟩⟩⟩⟩
theorem lw_p48 : lw_okq (⟨"TruthSumsModel", "isBroken", "(I)Z"⟩, 20) := ⟨⟨by decide +kernel, by decide +kernel⟩, List.mem_of_getElem? (i := 638) (by decide +kernel), List.mem_of_getElem? (i := 832) (by decide +kernel), List.mem_of_getElem? (i := 833) (by decide +kernel)⟩
theorem lw_p49 : lw_okq (⟨"TruthSumsModel", "trueWorlds", "()J"⟩, 20) := ⟨⟨by decide +kernel, by decide +kernel⟩, List.mem_of_getElem? (i := 638) (by decide +kernel), List.mem_of_getElem? (i := 853) (by decide +kernel), List.mem_of_getElem? (i := 854) (by decide +kernel)⟩
theorem lw_p50 : lw_okq (⟨"TruthSumsModel", "heldBy", "(I)J"⟩, 20) := ⟨⟨by decide +kernel, by decide +kernel⟩, List.mem_of_getElem? (i := 638) (by decide +kernel), List.mem_of_getElem? (i := 857) (by decide +kernel), List.mem_of_getElem? (i := 858) (by decide +kernel)⟩
theorem lw_p51 : lw_okq (⟨"TruthSumsModel", "isCover", "(II)Z"⟩, 20) := ⟨⟨by decide +kernel, by decide +kernel⟩, List.mem_of_getElem? (i := 638) (by decide +kernel), List.mem_of_getElem? (i := 880) (by decide +kernel), List.mem_of_getElem? (i := 881) (by decide +kernel)⟩
theorem lw_p52 : lw_okq (⟨"TruthSumsModel", "fits", "(I)Z"⟩, 20) := ⟨⟨by decide +kernel, by decide +kernel⟩, List.mem_of_getElem? (i := 638) (by decide +kernel), List.mem_of_getElem? (i := 896) (by decide +kernel), List.mem_of_getElem? (i := 897) (by decide +kernel)⟩
def lw_privs_4 : List (MethodName × Nat) := [(⟨"TruthSumsModel", "isBroken", "(I)Z"⟩, 20), (⟨"TruthSumsModel", "trueWorlds", "()J"⟩, 20), (⟨"TruthSumsModel", "heldBy", "(I)J"⟩, 20), (⟨"TruthSumsModel", "isCover", "(II)Z"⟩, 20), (⟨"TruthSumsModel", "fits", "(I)Z"⟩, 20)]
theorem lw_r4 : ∀ q ∈ lw_privs_4, lw_okq q := List.forall_mem_cons.mpr ⟨lw_p48, List.forall_mem_cons.mpr ⟨lw_p49, List.forall_mem_cons.mpr ⟨lw_p50, List.forall_mem_cons.mpr ⟨lw_p51, List.forall_mem_cons.mpr ⟨lw_p52, fun _ h => absurd h List.not_mem_nil⟩⟩⟩⟩⟩
def lw_privs : List (MethodName × Nat) := lw_privs_1 ++ (lw_privs_2 ++ (lw_privs_3 ++ (lw_privs_4)))
def lw_tbl : List Cond := k2_sels lw_privs ++ tables_1
theorem lw_privs_ok : ∀ q ∈ lw_privs, lw_okq q := by
  show ∀ q ∈ lw_privs_1 ++ (lw_privs_2 ++ (lw_privs_3 ++ (lw_privs_4))), lw_okq q
  exact List.forall_mem_append.mpr ⟨lw_r1, List.forall_mem_append.mpr ⟨lw_r2, List.forall_mem_append.mpr ⟨lw_r3, lw_r4⟩⟩⟩
end
section
def RX0 : String := "TruthSums$Fit"
def TX0 : u_T := fun k => match k with
  | 0 => ("TruthSums$Fit", "a", "I", false)
  | 1 => ("TruthSums$Fit", "b", "I", false)
  | 2 => ("TruthSums$Fit", "c", "I", false)
  | _ => ("TruthSums$Fit", "degree", "I", false)
def tyX0 : Nat → FieldType := fun k => match k with
  | 0 => .int
  | 1 => .int
  | 2 => .int
  | _ => .int
theorem nmX0 : ∀ a, a < 4 → ∀ b, b < 4 → a ≠ b → (TX0 a).2.1 ≠ (TX0 b).2.1 := by decide +kernel
theorem tyX0_ok : ∀ k, k < 4 → parseFieldDescriptor (TX0 k).2.2.1 = some (tyX0 k) := by decide +kernel
abbrev cX0_init : ByteArray := prog_2_method_1_code
def yX0_init : MethodName := ⟨RX0, "<init>", "()V"⟩
abbrev cX0_search : ByteArray := prog_2_method_2_code
def yX0_search : MethodName := ⟨RX0, "search", "(I)Z"⟩
abbrev cX0_searchTogether : ByteArray := prog_2_method_3_code
def yX0_searchTogether : MethodName := ⟨RX0, "searchTogether", "(II)Z"⟩
abbrev cX0_fits : ByteArray := prog_2_method_4_code
def yX0_fits : MethodName := ⟨RX0, "fits", "(IIII)Z"⟩
abbrev cX0_part : ByteArray := prog_2_method_5_code
def yX0_part : MethodName := ⟨RX0, "part", "(II)I"⟩
def RX1 : String := "TruthSums$Forcing"
def TX1 : u_T := fun k => match k with
  | 0 => ("TruthSums$Forcing", "so", "I", false)
  | 1 => ("TruthSums$Forcing", "not", "I", false)
  | _ => ("TruthSums$Forcing", "clashes", "Z", false)
def tyX1 : Nat → FieldType := fun k => match k with
  | 0 => .int
  | 1 => .int
  | _ => .boolean
theorem nmX1 : ∀ a, a < 3 → ∀ b, b < 3 → a ≠ b → (TX1 a).2.1 ≠ (TX1 b).2.1 := by decide +kernel
theorem tyX1_ok : ∀ k, k < 3 → parseFieldDescriptor (TX1 k).2.2.1 = some (tyX1 k) := by decide +kernel
abbrev cX1_init : ByteArray := prog_3_method_1_code
def yX1_init : MethodName := ⟨RX1, "<init>", "()V"⟩
abbrev cX1_force : ByteArray := prog_3_method_2_code
def yX1_force : MethodName := ⟨RX1, "force", "([LTruthSums$Line;III)V"⟩
abbrev cX1_passOver : ByteArray := prog_3_method_3_code
def yX1_passOver : MethodName := ⟨RX1, "passOver", "([LTruthSums$Line;I)Z"⟩
abbrev cX1_visit : ByteArray := prog_3_method_4_code
def yX1_visit : MethodName := ⟨RX1, "visit", "(LTruthSums$Line;)V"⟩
def RX2 : String := "TruthSums$Line"
def TX2 : u_T := fun k => match k with
  | 0 => ("TruthSums$Line", "weights", "[I", true)
  | _ => ("TruthSums$Line", "degree", "I", false)
def tyX2 : Nat → FieldType := fun k => match k with
  | 0 => .array .int
  | _ => .int
theorem nmX2 : ∀ a, a < 2 → ∀ b, b < 2 → a ≠ b → (TX2 a).2.1 ≠ (TX2 b).2.1 := by decide +kernel
theorem tyX2_ok : ∀ k, k < 2 → parseFieldDescriptor (TX2 k).2.2.1 = some (tyX2 k) := by decide +kernel
abbrev cX2_init : ByteArray := prog_4_method_1_code
def yX2_init : MethodName := ⟨RX2, "<init>", "()V"⟩
abbrev cX2_becomeEmpty : ByteArray := prog_4_method_2_code
def yX2_becomeEmpty : MethodName := ⟨RX2, "becomeEmpty", "()V"⟩
abbrev cX2_becomeBare : ByteArray := prog_4_method_3_code
def yX2_becomeBare : MethodName := ⟨RX2, "becomeBare", "(II)V"⟩
abbrev cX2_becomeSame : ByteArray := prog_4_method_4_code
def yX2_becomeSame : MethodName := ⟨RX2, "becomeSame", "(LTruthSums$Line;)V"⟩
abbrev cX2_becomeSum : ByteArray := prog_4_method_5_code
def yX2_becomeSum : MethodName := ⟨RX2, "becomeSum", "(LTruthSums$Line;LTruthSums$Line;)V"⟩
abbrev cX2_becomeTimes : ByteArray := prog_4_method_6_code
def yX2_becomeTimes : MethodName := ⟨RX2, "becomeTimes", "(LTruthSums$Line;I)V"⟩
abbrev cX2_becomeCut : ByteArray := prog_4_method_7_code
def yX2_becomeCut : MethodName := ⟨RX2, "becomeCut", "(LTruthSums$Line;I)V"⟩
abbrev cX2_becomeTrimmed : ByteArray := prog_4_method_8_code
def yX2_becomeTrimmed : MethodName := ⟨RX2, "becomeTrimmed", "(LTruthSums$Line;)V"⟩
abbrev cX2_becomeDropped : ByteArray := prog_4_method_9_code
def yX2_becomeDropped : MethodName := ⟨RX2, "becomeDropped", "(LTruthSums$Line;I)V"⟩
abbrev cX2_becomeOpposite : ByteArray := prog_4_method_10_code
def yX2_becomeOpposite : MethodName := ⟨RX2, "becomeOpposite", "(LTruthSums$Line;)V"⟩
abbrev cX2_signed : ByteArray := prog_4_method_11_code
def yX2_signed : MethodName := ⟨RX2, "signed", "(II)I"⟩
abbrev cX2_isTooGreat : ByteArray := prog_4_method_12_code
def yX2_isTooGreat : MethodName := ⟨RX2, "isTooGreat", "()Z"⟩
abbrev cX2_mayWeigh : ByteArray := prog_4_method_13_code
def yX2_mayWeigh : MethodName := ⟨RX2, "mayWeigh", "(II)I"⟩
abbrev cX2_weighsIn : ByteArray := prog_4_method_14_code
def yX2_weighsIn : MethodName := ⟨RX2, "weighsIn", "(I)I"⟩
abbrev cX2_isBroken : ByteArray := prog_4_method_15_code
def yX2_isBroken : MethodName := ⟨RX2, "isBroken", "()Z"⟩
abbrev cX2_worldsHeld : ByteArray := prog_4_method_16_code
def yX2_worldsHeld : MethodName := ⟨RX2, "worldsHeld", "()J"⟩
abbrev cX2_isLeastCover : ByteArray := prog_4_method_17_code
def yX2_isLeastCover : MethodName := ⟨RX2, "isLeastCover", "(I)Z"⟩
abbrev cX2_isCover : ByteArray := prog_4_method_18_code
def yX2_isCover : MethodName := ⟨RX2, "isCover", "(I)Z"⟩
def RX3 : String := "TruthSums$Reader"
def TX3 : u_T := fun k => match k with
  | 0 => ("TruthSums$Reader", "told", "[LTruthSums$Line;", true)
  | 1 => ("TruthSums$Reader", "steps", "[LTruthSums$Step;", true)
  | _ => ("TruthSums$Reader", "tokens", "LTruthSums$Tokens;", true)
def tyX3 : Nat → FieldType := fun k => match k with
  | 0 => .array (.object "TruthSums$Line")
  | 1 => .array (.object "TruthSums$Step")
  | _ => .object "TruthSums$Tokens"
theorem nmX3 : ∀ a, a < 3 → ∀ b, b < 3 → a ≠ b → (TX3 a).2.1 ≠ (TX3 b).2.1 := by decide +kernel
theorem tyX3_ok : ∀ k, k < 3 → parseFieldDescriptor (TX3 k).2.2.1 = some (tyX3 k) := by decide +kernel
abbrev cX3_init : ByteArray := prog_5_method_1_code
def yX3_init : MethodName := ⟨RX3, "<init>", "()V"⟩
abbrev cX3_readGiven : ByteArray := prog_5_method_2_code
def yX3_readGiven : MethodName := ⟨RX3, "readGiven", "(LTruthSums$Text;)I"⟩
abbrev cX3_readProof : ByteArray := prog_5_method_3_code
def yX3_readProof : MethodName := ⟨RX3, "readProof", "(LTruthSums$Text;I)I"⟩
abbrev cX3_take : ByteArray := prog_5_method_4_code
def yX3_take : MethodName := ⟨RX3, "take", "(I)Z"⟩
abbrev cX3_takeLine : ByteArray := prog_5_method_5_code
def yX3_takeLine : MethodName := ⟨RX3, "takeLine", "(LTruthSums$Line;)Z"⟩
abbrev cX3_takeTerm : ByteArray := prog_5_method_6_code
def yX3_takeTerm : MethodName := ⟨RX3, "takeTerm", "(LTruthSums$Line;)Z"⟩
abbrev cX3_takeStepText : ByteArray := prog_5_method_7_code
def yX3_takeStepText : MethodName := ⟨RX3, "takeStepText", "(LTruthSums$Step;I)Z"⟩
abbrev cX3_takeFirst : ByteArray := prog_5_method_8_code
def yX3_takeFirst : MethodName := ⟨RX3, "takeFirst", "(LTruthSums$Step;I)Z"⟩
abbrev cX3_takeSecond : ByteArray := prog_5_method_9_code
def yX3_takeSecond : MethodName := ⟨RX3, "takeSecond", "(LTruthSums$Step;II)Z"⟩
abbrev cX3_takeLetter : ByteArray := prog_5_method_10_code
def yX3_takeLetter : MethodName := ⟨RX3, "takeLetter", "(LTruthSums$Step;)Z"⟩
abbrev cX3_takeNumberWithin : ByteArray := prog_5_method_11_code
def yX3_takeNumberWithin : MethodName := ⟨RX3, "takeNumberWithin", "(II)Z"⟩
def RX4 : String := "TruthSums$Step"
def TX4 : u_T := fun k => match k with
  | 0 => ("TruthSums$Step", "kind", "I", false)
  | 1 => ("TruthSums$Step", "first", "I", false)
  | 2 => ("TruthSums$Step", "second", "I", false)
  | _ => ("TruthSums$Step", "claimed", "LTruthSums$Line;", true)
def tyX4 : Nat → FieldType := fun k => match k with
  | 0 => .int
  | 1 => .int
  | 2 => .int
  | _ => .object "TruthSums$Line"
theorem nmX4 : ∀ a, a < 4 → ∀ b, b < 4 → a ≠ b → (TX4 a).2.1 ≠ (TX4 b).2.1 := by decide +kernel
theorem tyX4_ok : ∀ k, k < 4 → parseFieldDescriptor (TX4 k).2.2.1 = some (tyX4 k) := by decide +kernel
abbrev cX4_init : ByteArray := prog_6_method_1_code
def yX4_init : MethodName := ⟨RX4, "<init>", "()V"⟩
def RX5 : String := "TruthSums$Text"
def TX5 : u_T := fun k => match k with
  | 0 => ("TruthSums$Text", "bytes", "[B", true)
  | _ => ("TruthSums$Text", "length", "I", false)
def tyX5 : Nat → FieldType := fun k => match k with
  | 0 => .array .byte
  | _ => .int
theorem nmX5 : ∀ a, a < 2 → ∀ b, b < 2 → a ≠ b → (TX5 a).2.1 ≠ (TX5 b).2.1 := by decide +kernel
theorem tyX5_ok : ∀ k, k < 2 → parseFieldDescriptor (TX5 k).2.2.1 = some (tyX5 k) := by decide +kernel
abbrev cX5_init : ByteArray := prog_7_method_1_code
def yX5_init : MethodName := ⟨RX5, "<init>", "()V"⟩
abbrev cX5_put : ByteArray := prog_7_method_2_code
def yX5_put : MethodName := ⟨RX5, "put", "(I)V"⟩
abbrev cX5_empty : ByteArray := prog_7_method_3_code
def yX5_empty : MethodName := ⟨RX5, "empty", "()I"⟩
abbrev cX5_at : ByteArray := prog_7_method_4_code
def yX5_at : MethodName := ⟨RX5, "at", "(I)I"⟩
abbrev cX5_spells : ByteArray := prog_7_method_5_code
def yX5_spells : MethodName := ⟨RX5, "spells", "(IILjava/lang/String;)Z"⟩
def RX6 : String := "TruthSums$Tokens"
def TX6 : u_T := fun k => match k with
  | 0 => ("TruthSums$Tokens", "kinds", "[I", true)
  | 1 => ("TruthSums$Tokens", "values", "[I", true)
  | 2 => ("TruthSums$Tokens", "places", "[I", true)
  | 3 => ("TruthSums$Tokens", "count", "I", false)
  | _ => ("TruthSums$Tokens", "now", "I", false)
def tyX6 : Nat → FieldType := fun k => match k with
  | 0 => .array .int
  | 1 => .array .int
  | 2 => .array .int
  | 3 => .int
  | _ => .int
theorem nmX6 : ∀ a, a < 5 → ∀ b, b < 5 → a ≠ b → (TX6 a).2.1 ≠ (TX6 b).2.1 := by decide +kernel
theorem tyX6_ok : ∀ k, k < 5 → parseFieldDescriptor (TX6 k).2.2.1 = some (tyX6 k) := by decide +kernel
abbrev cX6_init : ByteArray := prog_8_method_1_code
def yX6_init : MethodName := ⟨RX6, "<init>", "()V"⟩
abbrev cX6_kind : ByteArray := prog_8_method_2_code
def yX6_kind : MethodName := ⟨RX6, "kind", "()I"⟩
abbrev cX6_value : ByteArray := prog_8_method_3_code
def yX6_value : MethodName := ⟨RX6, "value", "()I"⟩
abbrev cX6_place : ByteArray := prog_8_method_4_code
def yX6_place : MethodName := ⟨RX6, "place", "()I"⟩
abbrev cX6_goOn : ByteArray := prog_8_method_5_code
def yX6_goOn : MethodName := ⟨RX6, "goOn", "()V"⟩
abbrev cX6_split : ByteArray := prog_8_method_6_code
def yX6_split : MethodName := ⟨RX6, "split", "(LTruthSums$Text;)V"⟩
abbrev cX6_put : ByteArray := prog_8_method_7_code
def yX6_put : MethodName := ⟨RX6, "put", "(III)V"⟩
abbrev cX6_putWord : ByteArray := prog_8_method_8_code
def yX6_putWord : MethodName := ⟨RX6, "putWord", "(LTruthSums$Text;I)I"⟩
abbrev cX6_stepKind : ByteArray := prog_8_method_9_code
def yX6_stepKind : MethodName := ⟨RX6, "stepKind", "(LTruthSums$Text;II)I"⟩
abbrev cX6_putNumber : ByteArray := prog_8_method_10_code
def yX6_putNumber : MethodName := ⟨RX6, "putNumber", "(LTruthSums$Text;I)I"⟩
abbrev cX6_putSign : ByteArray := prog_8_method_11_code
def yX6_putSign : MethodName := ⟨RX6, "putSign", "(LTruthSums$Text;I)I"⟩
abbrev cX6_signKind : ByteArray := prog_8_method_12_code
def yX6_signKind : MethodName := ⟨RX6, "signKind", "(I)I"⟩
abbrev cX6_isSmallLetter : ByteArray := prog_8_method_13_code
def yX6_isSmallLetter : MethodName := ⟨RX6, "isSmallLetter", "(I)Z"⟩
abbrev cX6_isDigit : ByteArray := prog_8_method_14_code
def yX6_isDigit : MethodName := ⟨RX6, "isDigit", "(I)Z"⟩
def RX7 : String := "TruthSums"
def TX7 : u_T := fun k => match k with
  | 0 => ("TruthSums", "text", "LTruthSums$Text;", true)
  | 1 => ("TruthSums", "reader", "LTruthSums$Reader;", true)
  | 2 => ("TruthSums", "forcing", "LTruthSums$Forcing;", true)
  | 3 => ("TruthSums", "fitting", "LTruthSums$Fit;", true)
  | 4 => ("TruthSums", "lines", "[LTruthSums$Line;", true)
  | 5 => ("TruthSums", "givenWorlds", "[J", true)
  | 6 => ("TruthSums", "costs", "[I", true)
  | 7 => ("TruthSums", "givenCount", "I", false)
  | 8 => ("TruthSums", "proofCount", "I", false)
  | 9 => ("TruthSums", "stepCount", "I", false)
  | 10 => ("TruthSums", "wrongStep", "I", false)
  | _ => ("TruthSums", "wrongKind", "I", false)
def tyX7 : Nat → FieldType := fun k => match k with
  | 0 => .object "TruthSums$Text"
  | 1 => .object "TruthSums$Reader"
  | 2 => .object "TruthSums$Forcing"
  | 3 => .object "TruthSums$Fit"
  | 4 => .array (.object "TruthSums$Line")
  | 5 => .array .long
  | 6 => .array .int
  | 7 => .int
  | 8 => .int
  | 9 => .int
  | 10 => .int
  | _ => .int
theorem nmX7 : ∀ a, a < 12 → ∀ b, b < 12 → a ≠ b → (TX7 a).2.1 ≠ (TX7 b).2.1 := by decide +kernel
theorem tyX7_ok : ∀ k, k < 12 → parseFieldDescriptor (TX7 k).2.2.1 = some (tyX7 k) := by decide +kernel
abbrev cX7_init : ByteArray := prog_1_method_1_code
def yX7_init : MethodName := ⟨RX7, "<init>", "()V"⟩
abbrev cX7_type : ByteArray := prog_1_method_2_code
def yX7_type : MethodName := ⟨RX7, "type", "(JI)I"⟩
abbrev cX7_clear : ByteArray := prog_1_method_3_code
def yX7_clear : MethodName := ⟨RX7, "clear", "()I"⟩
abbrev cX7_given : ByteArray := prog_1_method_4_code
def yX7_given : MethodName := ⟨RX7, "given", "()I"⟩
abbrev cX7_proof : ByteArray := prog_1_method_5_code
def yX7_proof : MethodName := ⟨RX7, "proof", "()I"⟩
abbrev cX7_wrong : ByteArray := prog_1_method_6_code
def yX7_wrong : MethodName := ⟨RX7, "wrong", "(I)I"⟩
abbrev cX7_forgetProof : ByteArray := prog_1_method_7_code
def yX7_forgetProof : MethodName := ⟨RX7, "forgetProof", "()V"⟩
abbrev cX7_walkProof : ByteArray := prog_1_method_8_code
def yX7_walkProof : MethodName := ⟨RX7, "walkProof", "()V"⟩
abbrev cX7_takeStep : ByteArray := prog_1_method_9_code
def yX7_takeStep : MethodName := ⟨RX7, "takeStep", "(LTruthSums$Step;LTruthSums$Line;)I"⟩
abbrev cX7_lineOrFirst : ByteArray := prog_1_method_10_code
def yX7_lineOrFirst : MethodName := ⟨RX7, "lineOrFirst", "(I)LTruthSums$Line;"⟩
abbrev cX7_takeClaim : ByteArray := prog_1_method_11_code
def yX7_takeClaim : MethodName := ⟨RX7, "takeClaim", "(LTruthSums$Step;ILTruthSums$Line;)I"⟩
abbrev cX7_line : ByteArray := prog_1_method_12_code
def yX7_line : MethodName := ⟨RX7, "line", "(II)I"⟩
abbrev cX7_holds : ByteArray := prog_1_method_13_code
def yX7_holds : MethodName := ⟨RX7, "holds", "(I)J"⟩
abbrev cX7_broken : ByteArray := prog_1_method_14_code
def yX7_broken : MethodName := ⟨RX7, "broken", "(I)I"⟩
abbrev cX7_end : ByteArray := prog_1_method_15_code
def yX7_end : MethodName := ⟨RX7, "end", "()I"⟩
abbrev cX7_both : ByteArray := prog_1_method_16_code
def yX7_both : MethodName := ⟨RX7, "both", "(III)I"⟩
abbrev cX7_lineCount : ByteArray := prog_1_method_17_code
def yX7_lineCount : MethodName := ⟨RX7, "lineCount", "()I"⟩
abbrev cX7_isLine : ByteArray := prog_1_method_18_code
def yX7_isLine : MethodName := ⟨RX7, "isLine", "(I)Z"⟩
abbrev cX7_isWithin : ByteArray := prog_1_method_19_code
def yX7_isWithin : MethodName := ⟨RX7, "isWithin", "(JJ)Z"⟩
abbrev cX7_forced : ByteArray := prog_1_method_20_code
def yX7_forced : MethodName := ⟨RX7, "forced", "(IIII)I"⟩
abbrev cX7_isLetterSet : ByteArray := prog_1_method_21_code
def yX7_isLetterSet : MethodName := ⟨RX7, "isLetterSet", "(I)Z"⟩
abbrev cX7_trues : ByteArray := prog_1_method_22_code
def yX7_trues : MethodName := ⟨RX7, "trues", "()J"⟩
abbrev cX7_told : ByteArray := prog_1_method_23_code
def yX7_told : MethodName := ⟨RX7, "told", "(I)I"⟩
abbrev cX7_tight : ByteArray := prog_1_method_24_code
def yX7_tight : MethodName := ⟨RX7, "tight", "(I)I"⟩
abbrev cX7_needed : ByteArray := prog_1_method_25_code
def yX7_needed : MethodName := ⟨RX7, "needed", "(II)I"⟩
abbrev cX7_covers : ByteArray := prog_1_method_26_code
def yX7_covers : MethodName := ⟨RX7, "covers", "(II)I"⟩
abbrev cX7_cost : ByteArray := prog_1_method_27_code
def yX7_cost : MethodName := ⟨RX7, "cost", "(II)I"⟩
abbrev cX7_least : ByteArray := prog_1_method_28_code
def yX7_least : MethodName := ⟨RX7, "least", "(I)I"⟩
abbrev cX7_fit : ByteArray := prog_1_method_29_code
def yX7_fit : MethodName := ⟨RX7, "fit", "(II)I"⟩
abbrev cX7_count : ByteArray := prog_1_method_30_code
def yX7_count : MethodName := ⟨RX7, "count", "(I)I"⟩
abbrev cX7_trueWorlds : ByteArray := prog_1_method_31_code
def yX7_trueWorlds : MethodName := ⟨RX7, "trueWorlds", "()J"⟩
abbrev cX7_leastTelling : ByteArray := prog_1_method_32_code
def yX7_leastTelling : MethodName := ⟨RX7, "leastTelling", "(J)I"⟩
abbrev cX7_worldsOfGiven : ByteArray := prog_1_method_33_code
def yX7_worldsOfGiven : MethodName := ⟨RX7, "worldsOfGiven", "(I)J"⟩
abbrev cX7_cheapestTrueWorld : ByteArray := prog_1_method_34_code
def yX7_cheapestTrueWorld : MethodName := ⟨RX7, "cheapestTrueWorld", "()I"⟩
abbrev cX7_costOf : ByteArray := prog_1_method_35_code
def yX7_costOf : MethodName := ⟨RX7, "costOf", "(I)I"⟩
abbrev cX7_has : ByteArray := prog_1_method_36_code
def yX7_has : MethodName := ⟨RX7, "has", "(JI)Z"⟩
def RX8 : String := "TruthSumsModel"
def TX8 : u_T := fun k => match k with
  | 0 => ("TruthSumsModel", "thrown", "I", false)
  | 1 => ("TruthSumsModel", "text", "[I", true)
  | 2 => ("TruthSumsModel", "typed", "I", false)
  | 3 => ("TruthSumsModel", "next", "I", false)
  | 4 => ("TruthSumsModel", "token", "I", false)
  | 5 => ("TruthSumsModel", "place", "I", false)
  | 6 => ("TruthSumsModel", "value", "I", false)
  | 7 => ("TruthSumsModel", "fault", "I", false)
  | 8 => ("TruthSumsModel", "line", "[I", true)
  | 9 => ("TruthSumsModel", "given", "I", false)
  | 10 => ("TruthSumsModel", "proved", "I", false)
  | 11 => ("TruthSumsModel", "steps", "I", false)
  | 12 => ("TruthSumsModel", "wrongStep", "I", false)
  | 13 => ("TruthSumsModel", "wrongBy", "I", false)
  | 14 => ("TruthSumsModel", "draft", "[I", true)
  | 15 => ("TruthSumsModel", "step", "[I", true)
  | 16 => ("TruthSumsModel", "so", "I", false)
  | 17 => ("TruthSumsModel", "not", "I", false)
  | 18 => ("TruthSumsModel", "costs", "[I", true)
  | _ => ("TruthSumsModel", "fitted", "[I", true)
def tyX8 : Nat → FieldType := fun k => match k with
  | 0 => .int
  | 1 => .array .int
  | 2 => .int
  | 3 => .int
  | 4 => .int
  | 5 => .int
  | 6 => .int
  | 7 => .int
  | 8 => .array .int
  | 9 => .int
  | 10 => .int
  | 11 => .int
  | 12 => .int
  | 13 => .int
  | 14 => .array .int
  | 15 => .array .int
  | 16 => .int
  | 17 => .int
  | 18 => .array .int
  | _ => .array .int
theorem nmX8 : ∀ a, a < 20 → ∀ b, b < 20 → a ≠ b → (TX8 a).2.1 ≠ (TX8 b).2.1 := by decide +kernel
theorem tyX8_ok : ∀ k, k < 20 → parseFieldDescriptor (TX8 k).2.2.1 = some (tyX8 k) := by decide +kernel
abbrev cX8_init : ByteArray := prog_10_method_1_code
def yX8_init : MethodName := ⟨RX8, "<init>", "()V"⟩
abbrev cX8_in : ByteArray := prog_10_method_3_code
def yX8_in : MethodName := ⟨RX8, "in", "(III)Z"⟩
abbrev cX8_size : ByteArray := prog_10_method_4_code
def yX8_size : MethodName := ⟨RX8, "size", "(I)I"⟩
abbrev cX8_type : ByteArray := prog_10_method_5_code
def yX8_type : MethodName := ⟨RX8, "type", "(JI)I"⟩
abbrev cX8_clear : ByteArray := prog_10_method_6_code
def yX8_clear : MethodName := ⟨RX8, "clear", "()I"⟩
abbrev cX8_byteAt : ByteArray := prog_10_method_7_code
def yX8_byteAt : MethodName := ⟨RX8, "byteAt", "(I)I"⟩
abbrev cX8_add : ByteArray := prog_10_method_8_code
def yX8_add : MethodName := ⟨RX8, "add", "(JI)J"⟩
abbrev cX8_word : ByteArray := prog_10_method_9_code
def yX8_word : MethodName := ⟨RX8, "word", "(IIIII)J"⟩
abbrev cX8_wordOf : ByteArray := prog_10_method_10_code
def yX8_wordOf : MethodName := ⟨RX8, "wordOf", "(J)I"⟩
abbrev cX8_advances : ByteArray := prog_10_method_11_code
def yX8_advances : MethodName := ⟨RX8, "advances", "()V"⟩
abbrev cX8_isWell : ByteArray := prog_10_method_12_code
def yX8_isWell : MethodName := ⟨RX8, "isWell", "()Z"⟩
abbrev cX8_fails : ByteArray := prog_10_method_13_code
def yX8_fails : MethodName := ⟨RX8, "fails", "()V"⟩
abbrev cX8_isToken : ByteArray := prog_10_method_14_code
def yX8_isToken : MethodName := ⟨RX8, "isToken", "(I)Z"⟩
abbrev cX8_takes : ByteArray := prog_10_method_15_code
def yX8_takes : MethodName := ⟨RX8, "takes", "(I)V"⟩
abbrev cX8_takesNumber : ByteArray := prog_10_method_16_code
def yX8_takesNumber : MethodName := ⟨RX8, "takesNumber", "(II)I"⟩
abbrev cX8_takesLetter : ByteArray := prog_10_method_17_code
def yX8_takesLetter : MethodName := ⟨RX8, "takesLetter", "()I"⟩
abbrev cX8_readsLine : ByteArray := prog_10_method_18_code
def yX8_readsLine : MethodName := ⟨RX8, "readsLine", "([II)V"⟩
abbrev cX8_given : ByteArray := prog_10_method_19_code
def yX8_given : MethodName := ⟨RX8, "given", "()I"⟩
abbrev cX8_readsStep : ByteArray := prog_10_method_20_code
def yX8_readsStep : MethodName := ⟨RX8, "readsStep", "(I)V"⟩
abbrev cX8_does : ByteArray := prog_10_method_21_code
def yX8_does : MethodName := ⟨RX8, "does", "(II)V"⟩
abbrev cX8_isGreat : ByteArray := prog_10_method_22_code
def yX8_isGreat : MethodName := ⟨RX8, "isGreat", "(I)Z"⟩
abbrev cX8_weights : ByteArray := prog_10_method_23_code
def yX8_weights : MethodName := ⟨RX8, "weights", "(I)I"⟩
abbrev cX8_isRight : ByteArray := prog_10_method_24_code
def yX8_isRight : MethodName := ⟨RX8, "isRight", "(I)Z"⟩
abbrev cX8_proof : ByteArray := prog_10_method_25_code
def yX8_proof : MethodName := ⟨RX8, "proof", "()I"⟩
abbrev cX8_wrong : ByteArray := prog_10_method_26_code
def yX8_wrong : MethodName := ⟨RX8, "wrong", "(I)I"⟩
abbrev cX8_isLine : ByteArray := prog_10_method_27_code
def yX8_isLine : MethodName := ⟨RX8, "isLine", "(I)Z"⟩
abbrev cX8_line : ByteArray := prog_10_method_28_code
def yX8_line : MethodName := ⟨RX8, "line", "(II)I"⟩
abbrev cX8_weighs : ByteArray := prog_10_method_29_code
def yX8_weighs : MethodName := ⟨RX8, "weighs", "(II)I"⟩
abbrev cX8_isHeld : ByteArray := prog_10_method_30_code
def yX8_isHeld : MethodName := ⟨RX8, "isHeld", "(II)Z"⟩
abbrev cX8_held : ByteArray := prog_10_method_31_code
def yX8_held : MethodName := ⟨RX8, "held", "(I)J"⟩
abbrev cX8_holds : ByteArray := prog_10_method_32_code
def yX8_holds : MethodName := ⟨RX8, "holds", "(I)J"⟩
abbrev cX8_isBroken : ByteArray := prog_10_method_33_code
def yX8_isBroken : MethodName := ⟨RX8, "isBroken", "(I)Z"⟩
abbrev cX8_broken : ByteArray := prog_10_method_34_code
def yX8_broken : MethodName := ⟨RX8, "broken", "(I)I"⟩
abbrev cX8_end : ByteArray := prog_10_method_35_code
def yX8_end : MethodName := ⟨RX8, "end", "()I"⟩
abbrev cX8_both : ByteArray := prog_10_method_36_code
def yX8_both : MethodName := ⟨RX8, "both", "(III)I"⟩
abbrev cX8_clashes : ByteArray := prog_10_method_37_code
def yX8_clashes : MethodName := ⟨RX8, "clashes", "(III)Z"⟩
abbrev cX8_forced : ByteArray := prog_10_method_38_code
def yX8_forced : MethodName := ⟨RX8, "forced", "(IIII)I"⟩
abbrev cX8_heldBy : ByteArray := prog_10_method_39_code
def yX8_heldBy : MethodName := ⟨RX8, "heldBy", "(I)J"⟩
abbrev cX8_trueWorlds : ByteArray := prog_10_method_40_code
def yX8_trueWorlds : MethodName := ⟨RX8, "trueWorlds", "()J"⟩
abbrev cX8_trues : ByteArray := prog_10_method_41_code
def yX8_trues : MethodName := ⟨RX8, "trues", "()J"⟩
abbrev cX8_told : ByteArray := prog_10_method_42_code
def yX8_told : MethodName := ⟨RX8, "told", "(I)I"⟩
abbrev cX8_tight : ByteArray := prog_10_method_43_code
def yX8_tight : MethodName := ⟨RX8, "tight", "(I)I"⟩
abbrev cX8_ones : ByteArray := prog_10_method_44_code
def yX8_ones : MethodName := ⟨RX8, "ones", "(I)I"⟩
abbrev cX8_needed : ByteArray := prog_10_method_45_code
def yX8_needed : MethodName := ⟨RX8, "needed", "(II)I"⟩
abbrev cX8_isCover : ByteArray := prog_10_method_46_code
def yX8_isCover : MethodName := ⟨RX8, "isCover", "(II)Z"⟩
abbrev cX8_covers : ByteArray := prog_10_method_47_code
def yX8_covers : MethodName := ⟨RX8, "covers", "(II)I"⟩
abbrev cX8_cost : ByteArray := prog_10_method_48_code
def yX8_cost : MethodName := ⟨RX8, "cost", "(II)I"⟩
abbrev cX8_least : ByteArray := prog_10_method_49_code
def yX8_least : MethodName := ⟨RX8, "least", "(I)I"⟩
abbrev cX8_weighsOf : ByteArray := prog_10_method_50_code
def yX8_weighsOf : MethodName := ⟨RX8, "weighsOf", "(IIII)I"⟩
abbrev cX8_fits : ByteArray := prog_10_method_51_code
def yX8_fits : MethodName := ⟨RX8, "fits", "(I)Z"⟩
abbrev cX8_fit : ByteArray := prog_10_method_52_code
def yX8_fit : MethodName := ⟨RX8, "fit", "(II)I"⟩
abbrev cX8_count : ByteArray := prog_10_method_53_code
def yX8_count : MethodName := ⟨RX8, "count", "(I)I"⟩
def RJ6 : String := "java/lang/Integer"
def TJ6 : u_T := fun k => match k with
  | _ => ("", "", "", false)
def tyJ6 : Nat → FieldType := fun k => match k with
  | _ => .int
theorem nmJ6 : ∀ a, a < 0 → ∀ b, b < 0 → a ≠ b → (TJ6 a).2.1 ≠ (TJ6 b).2.1 := by decide +kernel
theorem tyJ6_ok : ∀ k, k < 0 → parseFieldDescriptor (TJ6 k).2.2.1 = some (tyJ6 k) := by decide +kernel
abbrev cJ6_bitCount_0f7a4 : ByteArray := prog_11_method_49_code
def yJ6_bitCount_0f7a4 : MethodName := ⟨RJ6, "bitCount", "(I)I"⟩
def RJ13 : String := "java/lang/Long"
def TJ13 : u_T := fun k => match k with
  | _ => ("", "", "", false)
def tyJ13 : Nat → FieldType := fun k => match k with
  | _ => .int
theorem nmJ13 : ∀ a, a < 0 → ∀ b, b < 0 → a ≠ b → (TJ13 a).2.1 ≠ (TJ13 b).2.1 := by decide +kernel
theorem tyJ13_ok : ∀ k, k < 0 → parseFieldDescriptor (TJ13 k).2.2.1 = some (tyJ13 k) := by decide +kernel
abbrev cJ13_bitCount_95d88 : ByteArray := prog_12_method_50_code
def yJ13_bitCount_95d88 : MethodName := ⟨RJ13, "bitCount", "(J)I"⟩
def RJ9 : String := "java/lang/Math"
def TJ9 : u_T := fun k => match k with
  | _ => ("", "", "", false)
def tyJ9 : Nat → FieldType := fun k => match k with
  | _ => .int
theorem nmJ9 : ∀ a, a < 0 → ∀ b, b < 0 → a ≠ b → (TJ9 a).2.1 ≠ (TJ9 b).2.1 := by decide +kernel
theorem tyJ9_ok : ∀ k, k < 0 → parseFieldDescriptor (TJ9 k).2.2.1 = some (tyJ9 k) := by decide +kernel
abbrev cJ9_abs_0f7a4 : ByteArray := prog_13_method_59_code
def yJ9_abs_0f7a4 : MethodName := ⟨RJ9, "abs", "(I)I"⟩
abbrev cJ9_max_7cf53 : ByteArray := prog_13_method_65_code
def yJ9_max_7cf53 : MethodName := ⟨RJ9, "max", "(II)I"⟩
abbrev cJ9_min_7cf53 : ByteArray := prog_13_method_69_code
def yJ9_min_7cf53 : MethodName := ⟨RJ9, "min", "(II)I"⟩
def RJ0 : String := "java/lang/String"
def TJ0 : u_T := fun k => match k with
  | _ => ("", "", "", false)
def tyJ0 : Nat → FieldType := fun k => match k with
  | _ => .int
theorem nmJ0 : ∀ a, a < 0 → ∀ b, b < 0 → a ≠ b → (TJ0 a).2.1 ≠ (TJ0 b).2.1 := by decide +kernel
theorem tyJ0_ok : ∀ k, k < 0 → parseFieldDescriptor (TJ0 k).2.2.1 = some (tyJ0 k) := by decide +kernel
abbrev cJ0_length_8abf5 : ByteArray := prog_14_method_54_code
def yJ0_length_8abf5 : MethodName := ⟨RJ0, "length", "()I"⟩
abbrev cJ0_charAt_5068e : ByteArray := prog_14_method_56_code
def yJ0_charAt_5068e : MethodName := ⟨RJ0, "charAt", "(I)C"⟩
abbrev cJ0_coder_7d493 : ByteArray := prog_14_method_152_code
def yJ0_coder_7d493 : MethodName := ⟨RJ0, "coder", "()B"⟩
abbrev cJ0_isLatin1_aae02 : ByteArray := prog_14_method_154_code
def yJ0_isLatin1_aae02 : MethodName := ⟨RJ0, "isLatin1", "()Z"⟩
abbrev cJ0_checkIndex_df160 : ByteArray := prog_14_method_155_code
def yJ0_checkIndex_df160 : MethodName := ⟨RJ0, "checkIndex", "(II)V"⟩
def RJ1 : String := "java/lang/StringLatin1"
def TJ1 : u_T := fun k => match k with
  | _ => ("", "", "", false)
def tyJ1 : Nat → FieldType := fun k => match k with
  | _ => .int
theorem nmJ1 : ∀ a, a < 0 → ∀ b, b < 0 → a ≠ b → (TJ1 a).2.1 ≠ (TJ1 b).2.1 := by decide +kernel
theorem tyJ1_ok : ∀ k, k < 0 → parseFieldDescriptor (TJ1 k).2.2.1 = some (tyJ1 k) := by decide +kernel
abbrev cJ1_charAt_3b067 : ByteArray := prog_15_method_2_code
def yJ1_charAt_3b067 : MethodName := ⟨RJ1, "charAt", "([BI)C"⟩
def RJ2 : String := "java/lang/StringUTF16"
def TJ2 : u_T := fun k => match k with
  | _ => ("", "", "", false)
def tyJ2 : Nat → FieldType := fun k => match k with
  | _ => .int
theorem nmJ2 : ∀ a, a < 0 → ∀ b, b < 0 → a ≠ b → (TJ2 a).2.1 ≠ (TJ2 b).2.1 := by decide +kernel
theorem tyJ2_ok : ∀ k, k < 0 → parseFieldDescriptor (TJ2 k).2.2.1 = some (tyJ2 k) := by decide +kernel
abbrev cJ2_getChar_3b067 : ByteArray := prog_16_method_5_code
def yJ2_getChar_3b067 : MethodName := ⟨RJ2, "getChar", "([BI)C"⟩
abbrev cJ2_length_9d52b : ByteArray := prog_16_method_6_code
def yJ2_length_9d52b : MethodName := ⟨RJ2, "length", "([B)I"⟩
abbrev cJ2_charAt_3b067 : ByteArray := prog_16_method_83_code
def yJ2_charAt_3b067 : MethodName := ⟨RJ2, "charAt", "([BI)C"⟩
abbrev cJ2_checkIndex_2214a : ByteArray := prog_16_method_91_code
def yJ2_checkIndex_2214a : MethodName := ⟨RJ2, "checkIndex", "(I[B)V"⟩
def RJ3 : String := "jdk/internal/util/Preconditions"
def TJ3 : u_T := fun k => match k with
  | _ => ("", "", "", false)
def tyJ3 : Nat → FieldType := fun k => match k with
  | _ => .int
theorem nmJ3 : ∀ a, a < 0 → ∀ b, b < 0 → a ≠ b → (TJ3 a).2.1 ≠ (TJ3 b).2.1 := by decide +kernel
theorem tyJ3_ok : ∀ k, k < 0 → parseFieldDescriptor (TJ3 k).2.2.1 = some (tyJ3 k) := by decide +kernel
abbrev cJ3_checkIndex_8e157 : ByteArray := prog_17_method_11_code
def yJ3_checkIndex_8e157 : MethodName := ⟨RJ3, "checkIndex", "(IILjava/util/function/BiFunction;)I"⟩
def RL : String := "TruthSumsLaw"
abbrev cL_law : ByteArray := code
def yL_law : MethodName := ⟨RL, "law", "([I)Z"⟩
abbrev vwCl : List vw_C := [(RX0, TX0, 4), (RX1, TX1, 3), (RX2, TX2, 2), (RX3, TX3, 3), (RX4, TX4, 4), (RX5, TX5, 2), (RX6, TX6, 5), (RX7, TX7, 12), (RX8, TX8, 20)]
end
section
theorem dX0_init_0 : decode cX0_init 0 = .ok (.aload_n 0, 1) := by decide +kernel
theorem dX0_init_1 : decode cX0_init 1 = .ok (.invokespecial 1, 3) := by decide +kernel
theorem dX0_init_4 : decode cX0_init 4 = .ok (.return_, 1) := by decide +kernel
theorem dX0_search_0 : decode cX0_search 0 = .ok (.iload_n 1, 1) := by decide +kernel
theorem dX0_search_1 : decode cX0_search 1 = .ok (.ifCond .ne 25, 3) := by decide +kernel
theorem dX0_search_4 : decode cX0_search 4 = .ok (.aload_n 0, 1) := by decide +kernel
theorem dX0_search_5 : decode cX0_search 5 = .ok (.iconst 0, 1) := by decide +kernel
theorem dX0_search_6 : decode cX0_search 6 = .ok (.putfield 7, 3) := by decide +kernel
theorem dX0_search_9 : decode cX0_search 9 = .ok (.aload_n 0, 1) := by decide +kernel
theorem dX0_search_10 : decode cX0_search 10 = .ok (.iconst 0, 1) := by decide +kernel
theorem dX0_search_11 : decode cX0_search 11 = .ok (.putfield 13, 3) := by decide +kernel
theorem dX0_search_14 : decode cX0_search 14 = .ok (.aload_n 0, 1) := by decide +kernel
theorem dX0_search_15 : decode cX0_search 15 = .ok (.iconst 0, 1) := by decide +kernel
theorem dX0_search_16 : decode cX0_search 16 = .ok (.putfield 16, 3) := by decide +kernel
theorem dX0_search_19 : decode cX0_search 19 = .ok (.aload_n 0, 1) := by decide +kernel
theorem dX0_search_20 : decode cX0_search 20 = .ok (.iconst 1, 1) := by decide +kernel
theorem dX0_search_21 : decode cX0_search 21 = .ok (.putfield 19, 3) := by decide +kernel
theorem dX0_search_24 : decode cX0_search 24 = .ok (.iconst 1, 1) := by decide +kernel
theorem dX0_search_25 : decode cX0_search 25 = .ok (.ireturn, 1) := by decide +kernel
theorem dX0_search_26 : decode cX0_search 26 = .ok (.iconst 0, 1) := by decide +kernel
theorem dX0_search_27 : decode cX0_search 27 = .ok (.istore_n 2, 1) := by decide +kernel
theorem dX0_search_28 : decode cX0_search 28 = .ok (.iload_n 2, 1) := by decide +kernel
theorem dX0_search_29 : decode cX0_search 29 = .ok (.bipush 12, 2) := by decide +kernel
theorem dX0_search_31 : decode cX0_search 31 = .ok (.if_icmp .gt 20, 3) := by decide +kernel
theorem dX0_search_34 : decode cX0_search 34 = .ok (.aload_n 0, 1) := by decide +kernel
theorem dX0_search_35 : decode cX0_search 35 = .ok (.iload_n 1, 1) := by decide +kernel
theorem dX0_search_36 : decode cX0_search 36 = .ok (.iload_n 2, 1) := by decide +kernel
theorem dX0_search_37 : decode cX0_search 37 = .ok (.invokevirtual 22, 3) := by decide +kernel
theorem dX0_search_40 : decode cX0_search 40 = .ok (.ifCond .eq 5, 3) := by decide +kernel
theorem dX0_search_43 : decode cX0_search 43 = .ok (.iconst 1, 1) := by decide +kernel
theorem dX0_search_44 : decode cX0_search 44 = .ok (.ireturn, 1) := by decide +kernel
theorem dX0_search_45 : decode cX0_search 45 = .ok (.iinc 2 1, 3) := by decide +kernel
theorem dX0_search_48 : decode cX0_search 48 = .ok (.goto (-20), 3) := by decide +kernel
theorem dX0_search_51 : decode cX0_search 51 = .ok (.iconst 0, 1) := by decide +kernel
theorem dX0_search_52 : decode cX0_search 52 = .ok (.ireturn, 1) := by decide +kernel
theorem dX0_searchTogether_0 : decode cX0_searchTogether 0 = .ok (.bipush (-4), 2) := by decide +kernel
theorem dX0_searchTogether_2 : decode cX0_searchTogether 2 = .ok (.istore_n 3, 1) := by decide +kernel
theorem dX0_searchTogether_3 : decode cX0_searchTogether 3 = .ok (.iload_n 3, 1) := by decide +kernel
theorem dX0_searchTogether_4 : decode cX0_searchTogether 4 = .ok (.iconst 4, 1) := by decide +kernel
theorem dX0_searchTogether_5 : decode cX0_searchTogether 5 = .ok (.if_icmp .gt 79, 3) := by decide +kernel
theorem dX0_searchTogether_8 : decode cX0_searchTogether 8 = .ok (.bipush (-4), 2) := by decide +kernel
theorem dX0_searchTogether_10 : decode cX0_searchTogether 10 = .ok (.istore 4, 2) := by decide +kernel
theorem dX0_searchTogether_12 : decode cX0_searchTogether 12 = .ok (.iload 4, 2) := by decide +kernel
theorem dX0_searchTogether_14 : decode cX0_searchTogether 14 = .ok (.iconst 4, 1) := by decide +kernel
theorem dX0_searchTogether_15 : decode cX0_searchTogether 15 = .ok (.if_icmp .gt 63, 3) := by decide +kernel
theorem dX0_searchTogether_18 : decode cX0_searchTogether 18 = .ok (.iload_n 2, 1) := by decide +kernel
theorem dX0_searchTogether_19 : decode cX0_searchTogether 19 = .ok (.iload_n 3, 1) := by decide +kernel
theorem dX0_searchTogether_20 : decode cX0_searchTogether 20 = .ok (.invokestatic 26, 3) := by decide +kernel
theorem dX0_searchTogether_23 : decode cX0_searchTogether 23 = .ok (.isub, 1) := by decide +kernel
theorem dX0_searchTogether_24 : decode cX0_searchTogether 24 = .ok (.iload 4, 2) := by decide +kernel
theorem dX0_searchTogether_26 : decode cX0_searchTogether 26 = .ok (.invokestatic 26, 3) := by decide +kernel
theorem dX0_searchTogether_29 : decode cX0_searchTogether 29 = .ok (.isub, 1) := by decide +kernel
theorem dX0_searchTogether_30 : decode cX0_searchTogether 30 = .ok (.istore 5, 2) := by decide +kernel
theorem dX0_searchTogether_32 : decode cX0_searchTogether 32 = .ok (.iload 5, 2) := by decide +kernel
theorem dX0_searchTogether_34 : decode cX0_searchTogether 34 = .ok (.ifCond .lt 38, 3) := by decide +kernel
theorem dX0_searchTogether_37 : decode cX0_searchTogether 37 = .ok (.iload 5, 2) := by decide +kernel
theorem dX0_searchTogether_39 : decode cX0_searchTogether 39 = .ok (.iconst 4, 1) := by decide +kernel
theorem dX0_searchTogether_40 : decode cX0_searchTogether 40 = .ok (.if_icmp .gt 32, 3) := by decide +kernel
theorem dX0_searchTogether_43 : decode cX0_searchTogether 43 = .ok (.aload_n 0, 1) := by decide +kernel
theorem dX0_searchTogether_44 : decode cX0_searchTogether 44 = .ok (.iload_n 1, 1) := by decide +kernel
theorem dX0_searchTogether_45 : decode cX0_searchTogether 45 = .ok (.iload_n 3, 1) := by decide +kernel
theorem dX0_searchTogether_46 : decode cX0_searchTogether 46 = .ok (.iload 4, 2) := by decide +kernel
theorem dX0_searchTogether_48 : decode cX0_searchTogether 48 = .ok (.iload 5, 2) := by decide +kernel
theorem dX0_searchTogether_50 : decode cX0_searchTogether 50 = .ok (.ineg, 1) := by decide +kernel
theorem dX0_searchTogether_51 : decode cX0_searchTogether 51 = .ok (.invokevirtual 32, 3) := by decide +kernel
theorem dX0_searchTogether_54 : decode cX0_searchTogether 54 = .ok (.ifCond .ne 16, 3) := by decide +kernel
theorem dX0_searchTogether_57 : decode cX0_searchTogether 57 = .ok (.aload_n 0, 1) := by decide +kernel
theorem dX0_searchTogether_58 : decode cX0_searchTogether 58 = .ok (.iload_n 1, 1) := by decide +kernel
theorem dX0_searchTogether_59 : decode cX0_searchTogether 59 = .ok (.iload_n 3, 1) := by decide +kernel
theorem dX0_searchTogether_60 : decode cX0_searchTogether 60 = .ok (.iload 4, 2) := by decide +kernel
theorem dX0_searchTogether_62 : decode cX0_searchTogether 62 = .ok (.iload 5, 2) := by decide +kernel
theorem dX0_searchTogether_64 : decode cX0_searchTogether 64 = .ok (.invokevirtual 32, 3) := by decide +kernel
theorem dX0_searchTogether_67 : decode cX0_searchTogether 67 = .ok (.ifCond .eq 5, 3) := by decide +kernel
theorem dX0_searchTogether_70 : decode cX0_searchTogether 70 = .ok (.iconst 1, 1) := by decide +kernel
theorem dX0_searchTogether_71 : decode cX0_searchTogether 71 = .ok (.ireturn, 1) := by decide +kernel
theorem dX0_searchTogether_72 : decode cX0_searchTogether 72 = .ok (.iinc 4 1, 3) := by decide +kernel
theorem dX0_searchTogether_75 : decode cX0_searchTogether 75 = .ok (.goto (-63), 3) := by decide +kernel
theorem dX0_searchTogether_78 : decode cX0_searchTogether 78 = .ok (.iinc 3 1, 3) := by decide +kernel
theorem dX0_searchTogether_81 : decode cX0_searchTogether 81 = .ok (.goto (-78), 3) := by decide +kernel
theorem dX0_searchTogether_84 : decode cX0_searchTogether 84 = .ok (.iconst 0, 1) := by decide +kernel
theorem dX0_searchTogether_85 : decode cX0_searchTogether 85 = .ok (.ireturn, 1) := by decide +kernel
theorem dX0_fits_0 : decode cX0_fits 0 = .ok (.ldc 38, 2) := by decide +kernel
theorem dX0_fits_2 : decode cX0_fits 2 = .ok (.istore 5, 2) := by decide +kernel
theorem dX0_fits_4 : decode cX0_fits 4 = .ok (.iconst (-1), 1) := by decide +kernel
theorem dX0_fits_5 : decode cX0_fits 5 = .ok (.istore 6, 2) := by decide +kernel
theorem dX0_fits_7 : decode cX0_fits 7 = .ok (.iconst 0, 1) := by decide +kernel
theorem dX0_fits_8 : decode cX0_fits 8 = .ok (.istore 7, 2) := by decide +kernel
theorem dX0_fits_10 : decode cX0_fits 10 = .ok (.iload 7, 2) := by decide +kernel
theorem dX0_fits_12 : decode cX0_fits 12 = .ok (.bipush 8, 2) := by decide +kernel
theorem dX0_fits_14 : decode cX0_fits 14 = .ok (.if_icmp .ge 78, 3) := by decide +kernel
theorem dX0_fits_17 : decode cX0_fits 17 = .ok (.iload 6, 2) := by decide +kernel
theorem dX0_fits_19 : decode cX0_fits 19 = .ok (.iload 5, 2) := by decide +kernel
theorem dX0_fits_21 : decode cX0_fits 21 = .ok (.if_icmp .ge 71, 3) := by decide +kernel
theorem dX0_fits_24 : decode cX0_fits 24 = .ok (.iload_n 2, 1) := by decide +kernel
theorem dX0_fits_25 : decode cX0_fits 25 = .ok (.iload 7, 2) := by decide +kernel
theorem dX0_fits_27 : decode cX0_fits 27 = .ok (.iconst 1, 1) := by decide +kernel
theorem dX0_fits_28 : decode cX0_fits 28 = .ok (.iand, 1) := by decide +kernel
theorem dX0_fits_29 : decode cX0_fits 29 = .ok (.invokestatic 39, 3) := by decide +kernel
theorem dX0_fits_32 : decode cX0_fits 32 = .ok (.iload_n 3, 1) := by decide +kernel
theorem dX0_fits_33 : decode cX0_fits 33 = .ok (.iload 7, 2) := by decide +kernel
theorem dX0_fits_35 : decode cX0_fits 35 = .ok (.iconst 1, 1) := by decide +kernel
theorem dX0_fits_36 : decode cX0_fits 36 = .ok (.ishr, 1) := by decide +kernel
theorem dX0_fits_37 : decode cX0_fits 37 = .ok (.iconst 1, 1) := by decide +kernel
theorem dX0_fits_38 : decode cX0_fits 38 = .ok (.iand, 1) := by decide +kernel
theorem dX0_fits_39 : decode cX0_fits 39 = .ok (.invokestatic 39, 3) := by decide +kernel
theorem dX0_fits_42 : decode cX0_fits 42 = .ok (.iadd, 1) := by decide +kernel
theorem dX0_fits_43 : decode cX0_fits 43 = .ok (.iload 4, 2) := by decide +kernel
theorem dX0_fits_45 : decode cX0_fits 45 = .ok (.iload 7, 2) := by decide +kernel
theorem dX0_fits_47 : decode cX0_fits 47 = .ok (.iconst 2, 1) := by decide +kernel
theorem dX0_fits_48 : decode cX0_fits 48 = .ok (.ishr, 1) := by decide +kernel
theorem dX0_fits_49 : decode cX0_fits 49 = .ok (.invokestatic 39, 3) := by decide +kernel
theorem dX0_fits_52 : decode cX0_fits 52 = .ok (.iadd, 1) := by decide +kernel
theorem dX0_fits_53 : decode cX0_fits 53 = .ok (.istore 8, 2) := by decide +kernel
theorem dX0_fits_55 : decode cX0_fits 55 = .ok (.iload_n 1, 1) := by decide +kernel
theorem dX0_fits_56 : decode cX0_fits 56 = .ok (.iload 7, 2) := by decide +kernel
theorem dX0_fits_58 : decode cX0_fits 58 = .ok (.ishr, 1) := by decide +kernel
theorem dX0_fits_59 : decode cX0_fits 59 = .ok (.iconst 1, 1) := by decide +kernel
theorem dX0_fits_60 : decode cX0_fits 60 = .ok (.iand, 1) := by decide +kernel
theorem dX0_fits_61 : decode cX0_fits 61 = .ok (.iconst 1, 1) := by decide +kernel
theorem dX0_fits_62 : decode cX0_fits 62 = .ok (.if_icmp .ne 15, 3) := by decide +kernel
theorem dX0_fits_65 : decode cX0_fits 65 = .ok (.iload 5, 2) := by decide +kernel
theorem dX0_fits_67 : decode cX0_fits 67 = .ok (.iload 8, 2) := by decide +kernel
theorem dX0_fits_69 : decode cX0_fits 69 = .ok (.invokestatic 43, 3) := by decide +kernel
theorem dX0_fits_72 : decode cX0_fits 72 = .ok (.istore 5, 2) := by decide +kernel
theorem dX0_fits_74 : decode cX0_fits 74 = .ok (.goto 12, 3) := by decide +kernel
theorem dX0_fits_77 : decode cX0_fits 77 = .ok (.iload 6, 2) := by decide +kernel
theorem dX0_fits_79 : decode cX0_fits 79 = .ok (.iload 8, 2) := by decide +kernel
theorem dX0_fits_81 : decode cX0_fits 81 = .ok (.invokestatic 46, 3) := by decide +kernel
theorem dX0_fits_84 : decode cX0_fits 84 = .ok (.istore 6, 2) := by decide +kernel
theorem dX0_fits_86 : decode cX0_fits 86 = .ok (.iinc 7 1, 3) := by decide +kernel
theorem dX0_fits_89 : decode cX0_fits 89 = .ok (.goto (-79), 3) := by decide +kernel
theorem dX0_fits_92 : decode cX0_fits 92 = .ok (.iload 6, 2) := by decide +kernel
theorem dX0_fits_94 : decode cX0_fits 94 = .ok (.iload 5, 2) := by decide +kernel
theorem dX0_fits_96 : decode cX0_fits 96 = .ok (.if_icmp .lt 5, 3) := by decide +kernel
theorem dX0_fits_99 : decode cX0_fits 99 = .ok (.iconst 0, 1) := by decide +kernel
theorem dX0_fits_100 : decode cX0_fits 100 = .ok (.ireturn, 1) := by decide +kernel
theorem dX0_fits_101 : decode cX0_fits 101 = .ok (.aload_n 0, 1) := by decide +kernel
theorem dX0_fits_102 : decode cX0_fits 102 = .ok (.iload_n 2, 1) := by decide +kernel
theorem dX0_fits_103 : decode cX0_fits 103 = .ok (.putfield 7, 3) := by decide +kernel
theorem dX0_fits_106 : decode cX0_fits 106 = .ok (.aload_n 0, 1) := by decide +kernel
theorem dX0_fits_107 : decode cX0_fits 107 = .ok (.iload_n 3, 1) := by decide +kernel
theorem dX0_fits_108 : decode cX0_fits 108 = .ok (.putfield 13, 3) := by decide +kernel
theorem dX0_fits_111 : decode cX0_fits 111 = .ok (.aload_n 0, 1) := by decide +kernel
theorem dX0_fits_112 : decode cX0_fits 112 = .ok (.iload 4, 2) := by decide +kernel
theorem dX0_fits_114 : decode cX0_fits 114 = .ok (.putfield 16, 3) := by decide +kernel
theorem dX0_fits_117 : decode cX0_fits 117 = .ok (.aload_n 0, 1) := by decide +kernel
theorem dX0_fits_118 : decode cX0_fits 118 = .ok (.iload 5, 2) := by decide +kernel
theorem dX0_fits_120 : decode cX0_fits 120 = .ok (.putfield 19, 3) := by decide +kernel
theorem dX0_fits_123 : decode cX0_fits 123 = .ok (.iconst 1, 1) := by decide +kernel
theorem dX0_fits_124 : decode cX0_fits 124 = .ok (.ireturn, 1) := by decide +kernel
theorem dX0_part_0 : decode cX0_part 0 = .ok (.iload_n 1, 1) := by decide +kernel
theorem dX0_part_1 : decode cX0_part 1 = .ok (.iconst 1, 1) := by decide +kernel
theorem dX0_part_2 : decode cX0_part 2 = .ok (.if_icmp .ne 11, 3) := by decide +kernel
theorem dX0_part_5 : decode cX0_part 5 = .ok (.iload_n 0, 1) := by decide +kernel
theorem dX0_part_6 : decode cX0_part 6 = .ok (.iconst 0, 1) := by decide +kernel
theorem dX0_part_7 : decode cX0_part 7 = .ok (.invokestatic 46, 3) := by decide +kernel
theorem dX0_part_10 : decode cX0_part 10 = .ok (.goto 9, 3) := by decide +kernel
theorem dX0_part_13 : decode cX0_part 13 = .ok (.iload_n 0, 1) := by decide +kernel
theorem dX0_part_14 : decode cX0_part 14 = .ok (.ineg, 1) := by decide +kernel
theorem dX0_part_15 : decode cX0_part 15 = .ok (.iconst 0, 1) := by decide +kernel
theorem dX0_part_16 : decode cX0_part 16 = .ok (.invokestatic 46, 3) := by decide +kernel
theorem dX0_part_19 : decode cX0_part 19 = .ok (.ireturn, 1) := by decide +kernel
theorem dX1_init_0 : decode cX1_init 0 = .ok (.aload_n 0, 1) := by decide +kernel
theorem dX1_init_1 : decode cX1_init 1 = .ok (.invokespecial 3, 3) := by decide +kernel
theorem dX1_init_4 : decode cX1_init 4 = .ok (.return_, 1) := by decide +kernel
theorem dX1_force_0 : decode cX1_force 0 = .ok (.aload_n 0, 1) := by decide +kernel
theorem dX1_force_1 : decode cX1_force 1 = .ok (.iload_n 3, 1) := by decide +kernel
theorem dX1_force_2 : decode cX1_force 2 = .ok (.putfield 9, 3) := by decide +kernel
theorem dX1_force_5 : decode cX1_force 5 = .ok (.aload_n 0, 1) := by decide +kernel
theorem dX1_force_6 : decode cX1_force 6 = .ok (.iload 4, 2) := by decide +kernel
theorem dX1_force_8 : decode cX1_force 8 = .ok (.putfield 15, 3) := by decide +kernel
theorem dX1_force_11 : decode cX1_force 11 = .ok (.aload_n 0, 1) := by decide +kernel
theorem dX1_force_12 : decode cX1_force 12 = .ok (.iconst 0, 1) := by decide +kernel
theorem dX1_force_13 : decode cX1_force 13 = .ok (.putfield 18, 3) := by decide +kernel
theorem dX1_force_16 : decode cX1_force 16 = .ok (.iconst 1, 1) := by decide +kernel
theorem dX1_force_17 : decode cX1_force 17 = .ok (.istore 5, 2) := by decide +kernel
theorem dX1_force_19 : decode cX1_force 19 = .ok (.iconst 0, 1) := by decide +kernel
theorem dX1_force_20 : decode cX1_force 20 = .ok (.istore 6, 2) := by decide +kernel
theorem dX1_force_22 : decode cX1_force 22 = .ok (.iload 6, 2) := by decide +kernel
theorem dX1_force_24 : decode cX1_force 24 = .ok (.bipush 6, 2) := by decide +kernel
theorem dX1_force_26 : decode cX1_force 26 = .ok (.if_icmp .gt 29, 3) := by decide +kernel
theorem dX1_force_29 : decode cX1_force 29 = .ok (.iload 5, 2) := by decide +kernel
theorem dX1_force_31 : decode cX1_force 31 = .ok (.ifCond .eq 24, 3) := by decide +kernel
theorem dX1_force_34 : decode cX1_force 34 = .ok (.aload_n 0, 1) := by decide +kernel
theorem dX1_force_35 : decode cX1_force 35 = .ok (.getfield 18, 3) := by decide +kernel
theorem dX1_force_38 : decode cX1_force 38 = .ok (.ifCond .ne 17, 3) := by decide +kernel
theorem dX1_force_41 : decode cX1_force 41 = .ok (.aload_n 0, 1) := by decide +kernel
theorem dX1_force_42 : decode cX1_force 42 = .ok (.aload_n 1, 1) := by decide +kernel
theorem dX1_force_43 : decode cX1_force 43 = .ok (.iload_n 2, 1) := by decide +kernel
theorem dX1_force_44 : decode cX1_force 44 = .ok (.invokevirtual 22, 3) := by decide +kernel
theorem dX1_force_47 : decode cX1_force 47 = .ok (.istore 5, 2) := by decide +kernel
theorem dX1_force_49 : decode cX1_force 49 = .ok (.iinc 6 1, 3) := by decide +kernel
theorem dX1_force_52 : decode cX1_force 52 = .ok (.goto (-30), 3) := by decide +kernel
theorem dX1_force_55 : decode cX1_force 55 = .ok (.return_, 1) := by decide +kernel
theorem dX1_passOver_0 : decode cX1_passOver 0 = .ok (.aload_n 0, 1) := by decide +kernel
theorem dX1_passOver_1 : decode cX1_passOver 1 = .ok (.getfield 9, 3) := by decide +kernel
theorem dX1_passOver_4 : decode cX1_passOver 4 = .ok (.aload_n 0, 1) := by decide +kernel
theorem dX1_passOver_5 : decode cX1_passOver 5 = .ok (.getfield 15, 3) := by decide +kernel
theorem dX1_passOver_8 : decode cX1_passOver 8 = .ok (.ior, 1) := by decide +kernel
theorem dX1_passOver_9 : decode cX1_passOver 9 = .ok (.istore_n 3, 1) := by decide +kernel
theorem dX1_passOver_10 : decode cX1_passOver 10 = .ok (.iconst 0, 1) := by decide +kernel
theorem dX1_passOver_11 : decode cX1_passOver 11 = .ok (.istore 4, 2) := by decide +kernel
theorem dX1_passOver_13 : decode cX1_passOver 13 = .ok (.iload 4, 2) := by decide +kernel
theorem dX1_passOver_15 : decode cX1_passOver 15 = .ok (.iload_n 2, 1) := by decide +kernel
theorem dX1_passOver_16 : decode cX1_passOver 16 = .ok (.if_icmp .ge 31, 3) := by decide +kernel
theorem dX1_passOver_19 : decode cX1_passOver 19 = .ok (.iload 4, 2) := by decide +kernel
theorem dX1_passOver_21 : decode cX1_passOver 21 = .ok (.aload_n 1, 1) := by decide +kernel
theorem dX1_passOver_22 : decode cX1_passOver 22 = .ok (.arraylength, 1) := by decide +kernel
theorem dX1_passOver_23 : decode cX1_passOver 23 = .ok (.if_icmp .ge 24, 3) := by decide +kernel
theorem dX1_passOver_26 : decode cX1_passOver 26 = .ok (.aload_n 0, 1) := by decide +kernel
theorem dX1_passOver_27 : decode cX1_passOver 27 = .ok (.getfield 18, 3) := by decide +kernel
theorem dX1_passOver_30 : decode cX1_passOver 30 = .ok (.ifCond .ne 17, 3) := by decide +kernel
theorem dX1_passOver_33 : decode cX1_passOver 33 = .ok (.aload_n 0, 1) := by decide +kernel
theorem dX1_passOver_34 : decode cX1_passOver 34 = .ok (.aload_n 1, 1) := by decide +kernel
theorem dX1_passOver_35 : decode cX1_passOver 35 = .ok (.iload 4, 2) := by decide +kernel
theorem dX1_passOver_37 : decode cX1_passOver 37 = .ok (.aaload, 1) := by decide +kernel
theorem dX1_passOver_38 : decode cX1_passOver 38 = .ok (.invokevirtual 26, 3) := by decide +kernel
theorem dX1_passOver_41 : decode cX1_passOver 41 = .ok (.iinc 4 1, 3) := by decide +kernel
theorem dX1_passOver_44 : decode cX1_passOver 44 = .ok (.goto (-31), 3) := by decide +kernel
theorem dX1_passOver_47 : decode cX1_passOver 47 = .ok (.aload_n 0, 1) := by decide +kernel
theorem dX1_passOver_48 : decode cX1_passOver 48 = .ok (.getfield 9, 3) := by decide +kernel
theorem dX1_passOver_51 : decode cX1_passOver 51 = .ok (.aload_n 0, 1) := by decide +kernel
theorem dX1_passOver_52 : decode cX1_passOver 52 = .ok (.getfield 15, 3) := by decide +kernel
theorem dX1_passOver_55 : decode cX1_passOver 55 = .ok (.ior, 1) := by decide +kernel
theorem dX1_passOver_56 : decode cX1_passOver 56 = .ok (.iload_n 3, 1) := by decide +kernel
theorem dX1_passOver_57 : decode cX1_passOver 57 = .ok (.if_icmp .eq 7, 3) := by decide +kernel
theorem dX1_passOver_60 : decode cX1_passOver 60 = .ok (.iconst 1, 1) := by decide +kernel
theorem dX1_passOver_61 : decode cX1_passOver 61 = .ok (.goto 4, 3) := by decide +kernel
theorem dX1_passOver_64 : decode cX1_passOver 64 = .ok (.iconst 0, 1) := by decide +kernel
theorem dX1_passOver_65 : decode cX1_passOver 65 = .ok (.ireturn, 1) := by decide +kernel
theorem dX1_visit_0 : decode cX1_visit 0 = .ok (.aload_n 1, 1) := by decide +kernel
theorem dX1_visit_1 : decode cX1_visit 1 = .ok (.aload_n 0, 1) := by decide +kernel
theorem dX1_visit_2 : decode cX1_visit 2 = .ok (.getfield 9, 3) := by decide +kernel
theorem dX1_visit_5 : decode cX1_visit 5 = .ok (.aload_n 0, 1) := by decide +kernel
theorem dX1_visit_6 : decode cX1_visit 6 = .ok (.getfield 15, 3) := by decide +kernel
theorem dX1_visit_9 : decode cX1_visit 9 = .ok (.invokevirtual 30, 3) := by decide +kernel
theorem dX1_visit_12 : decode cX1_visit 12 = .ok (.aload_n 1, 1) := by decide +kernel
theorem dX1_visit_13 : decode cX1_visit 13 = .ok (.getfield 36, 3) := by decide +kernel
theorem dX1_visit_16 : decode cX1_visit 16 = .ok (.isub, 1) := by decide +kernel
theorem dX1_visit_17 : decode cX1_visit 17 = .ok (.istore_n 2, 1) := by decide +kernel
theorem dX1_visit_18 : decode cX1_visit 18 = .ok (.iload_n 2, 1) := by decide +kernel
theorem dX1_visit_19 : decode cX1_visit 19 = .ok (.ifCond .ge 9, 3) := by decide +kernel
theorem dX1_visit_22 : decode cX1_visit 22 = .ok (.aload_n 0, 1) := by decide +kernel
theorem dX1_visit_23 : decode cX1_visit 23 = .ok (.iconst 1, 1) := by decide +kernel
theorem dX1_visit_24 : decode cX1_visit 24 = .ok (.putfield 18, 3) := by decide +kernel
theorem dX1_visit_27 : decode cX1_visit 27 = .ok (.return_, 1) := by decide +kernel
theorem dX1_visit_28 : decode cX1_visit 28 = .ok (.iconst 0, 1) := by decide +kernel
theorem dX1_visit_29 : decode cX1_visit 29 = .ok (.istore_n 3, 1) := by decide +kernel
theorem dX1_visit_30 : decode cX1_visit 30 = .ok (.iload_n 3, 1) := by decide +kernel
theorem dX1_visit_31 : decode cX1_visit 31 = .ok (.bipush 6, 2) := by decide +kernel
theorem dX1_visit_33 : decode cX1_visit 33 = .ok (.if_icmp .ge 90, 3) := by decide +kernel
theorem dX1_visit_36 : decode cX1_visit 36 = .ok (.aload_n 1, 1) := by decide +kernel
theorem dX1_visit_37 : decode cX1_visit 37 = .ok (.getfield 39, 3) := by decide +kernel
theorem dX1_visit_40 : decode cX1_visit 40 = .ok (.iload_n 3, 1) := by decide +kernel
theorem dX1_visit_41 : decode cX1_visit 41 = .ok (.iaload, 1) := by decide +kernel
theorem dX1_visit_42 : decode cX1_visit 42 = .ok (.istore 4, 2) := by decide +kernel
theorem dX1_visit_44 : decode cX1_visit 44 = .ok (.aload_n 0, 1) := by decide +kernel
theorem dX1_visit_45 : decode cX1_visit 45 = .ok (.getfield 9, 3) := by decide +kernel
theorem dX1_visit_48 : decode cX1_visit 48 = .ok (.aload_n 0, 1) := by decide +kernel
theorem dX1_visit_49 : decode cX1_visit 49 = .ok (.getfield 15, 3) := by decide +kernel
theorem dX1_visit_52 : decode cX1_visit 52 = .ok (.ior, 1) := by decide +kernel
theorem dX1_visit_53 : decode cX1_visit 53 = .ok (.iload_n 3, 1) := by decide +kernel
theorem dX1_visit_54 : decode cX1_visit 54 = .ok (.ishr, 1) := by decide +kernel
theorem dX1_visit_55 : decode cX1_visit 55 = .ok (.iconst 1, 1) := by decide +kernel
theorem dX1_visit_56 : decode cX1_visit 56 = .ok (.iand, 1) := by decide +kernel
theorem dX1_visit_57 : decode cX1_visit 57 = .ok (.ifCond .ne 7, 3) := by decide +kernel
theorem dX1_visit_60 : decode cX1_visit 60 = .ok (.iconst 1, 1) := by decide +kernel
theorem dX1_visit_61 : decode cX1_visit 61 = .ok (.goto 4, 3) := by decide +kernel
theorem dX1_visit_64 : decode cX1_visit 64 = .ok (.iconst 0, 1) := by decide +kernel
theorem dX1_visit_65 : decode cX1_visit 65 = .ok (.istore 5, 2) := by decide +kernel
theorem dX1_visit_67 : decode cX1_visit 67 = .ok (.iload 5, 2) := by decide +kernel
theorem dX1_visit_69 : decode cX1_visit 69 = .ok (.ifCond .eq 24, 3) := by decide +kernel
theorem dX1_visit_72 : decode cX1_visit 72 = .ok (.iload 4, 2) := by decide +kernel
theorem dX1_visit_74 : decode cX1_visit 74 = .ok (.iload_n 2, 1) := by decide +kernel
theorem dX1_visit_75 : decode cX1_visit 75 = .ok (.if_icmp .le 18, 3) := by decide +kernel
theorem dX1_visit_78 : decode cX1_visit 78 = .ok (.aload_n 0, 1) := by decide +kernel
theorem dX1_visit_79 : decode cX1_visit 79 = .ok (.dup, 1) := by decide +kernel
theorem dX1_visit_80 : decode cX1_visit 80 = .ok (.getfield 9, 3) := by decide +kernel
theorem dX1_visit_83 : decode cX1_visit 83 = .ok (.iconst 1, 1) := by decide +kernel
theorem dX1_visit_84 : decode cX1_visit 84 = .ok (.iload_n 3, 1) := by decide +kernel
theorem dX1_visit_85 : decode cX1_visit 85 = .ok (.ishl, 1) := by decide +kernel
theorem dX1_visit_86 : decode cX1_visit 86 = .ok (.ior, 1) := by decide +kernel
theorem dX1_visit_87 : decode cX1_visit 87 = .ok (.putfield 9, 3) := by decide +kernel
theorem dX1_visit_90 : decode cX1_visit 90 = .ok (.goto 27, 3) := by decide +kernel
theorem dX1_visit_93 : decode cX1_visit 93 = .ok (.iload 5, 2) := by decide +kernel
theorem dX1_visit_95 : decode cX1_visit 95 = .ok (.ifCond .eq 22, 3) := by decide +kernel
theorem dX1_visit_98 : decode cX1_visit 98 = .ok (.iload 4, 2) := by decide +kernel
theorem dX1_visit_100 : decode cX1_visit 100 = .ok (.ineg, 1) := by decide +kernel
theorem dX1_visit_101 : decode cX1_visit 101 = .ok (.iload_n 2, 1) := by decide +kernel
theorem dX1_visit_102 : decode cX1_visit 102 = .ok (.if_icmp .le 15, 3) := by decide +kernel
theorem dX1_visit_105 : decode cX1_visit 105 = .ok (.aload_n 0, 1) := by decide +kernel
theorem dX1_visit_106 : decode cX1_visit 106 = .ok (.dup, 1) := by decide +kernel
theorem dX1_visit_107 : decode cX1_visit 107 = .ok (.getfield 15, 3) := by decide +kernel
theorem dX1_visit_110 : decode cX1_visit 110 = .ok (.iconst 1, 1) := by decide +kernel
theorem dX1_visit_111 : decode cX1_visit 111 = .ok (.iload_n 3, 1) := by decide +kernel
theorem dX1_visit_112 : decode cX1_visit 112 = .ok (.ishl, 1) := by decide +kernel
theorem dX1_visit_113 : decode cX1_visit 113 = .ok (.ior, 1) := by decide +kernel
theorem dX1_visit_114 : decode cX1_visit 114 = .ok (.putfield 15, 3) := by decide +kernel
theorem dX1_visit_117 : decode cX1_visit 117 = .ok (.iinc 3 1, 3) := by decide +kernel
theorem dX1_visit_120 : decode cX1_visit 120 = .ok (.goto (-90), 3) := by decide +kernel
theorem dX1_visit_123 : decode cX1_visit 123 = .ok (.return_, 1) := by decide +kernel
theorem dX2_init_0 : decode cX2_init 0 = .ok (.aload_n 0, 1) := by decide +kernel
theorem dX2_init_1 : decode cX2_init 1 = .ok (.invokespecial 3, 3) := by decide +kernel
theorem dX2_init_4 : decode cX2_init 4 = .ok (.aload_n 0, 1) := by decide +kernel
theorem dX2_init_5 : decode cX2_init 5 = .ok (.bipush 6, 2) := by decide +kernel
theorem dX2_init_7 : decode cX2_init 7 = .ok (.newarray .int, 2) := by decide +kernel
theorem dX2_init_9 : decode cX2_init 9 = .ok (.putfield 9, 3) := by decide +kernel
theorem dX2_init_12 : decode cX2_init 12 = .ok (.return_, 1) := by decide +kernel
theorem dX2_becomeEmpty_0 : decode cX2_becomeEmpty 0 = .ok (.iconst 0, 1) := by decide +kernel
theorem dX2_becomeEmpty_1 : decode cX2_becomeEmpty 1 = .ok (.istore_n 1, 1) := by decide +kernel
theorem dX2_becomeEmpty_2 : decode cX2_becomeEmpty 2 = .ok (.iload_n 1, 1) := by decide +kernel
theorem dX2_becomeEmpty_3 : decode cX2_becomeEmpty 3 = .ok (.bipush 6, 2) := by decide +kernel
theorem dX2_becomeEmpty_5 : decode cX2_becomeEmpty 5 = .ok (.if_icmp .ge 16, 3) := by decide +kernel
theorem dX2_becomeEmpty_8 : decode cX2_becomeEmpty 8 = .ok (.aload_n 0, 1) := by decide +kernel
theorem dX2_becomeEmpty_9 : decode cX2_becomeEmpty 9 = .ok (.getfield 9, 3) := by decide +kernel
theorem dX2_becomeEmpty_12 : decode cX2_becomeEmpty 12 = .ok (.iload_n 1, 1) := by decide +kernel
theorem dX2_becomeEmpty_13 : decode cX2_becomeEmpty 13 = .ok (.iconst 0, 1) := by decide +kernel
theorem dX2_becomeEmpty_14 : decode cX2_becomeEmpty 14 = .ok (.iastore, 1) := by decide +kernel
theorem dX2_becomeEmpty_15 : decode cX2_becomeEmpty 15 = .ok (.iinc 1 1, 3) := by decide +kernel
theorem dX2_becomeEmpty_18 : decode cX2_becomeEmpty 18 = .ok (.goto (-16), 3) := by decide +kernel
theorem dX2_becomeEmpty_21 : decode cX2_becomeEmpty 21 = .ok (.aload_n 0, 1) := by decide +kernel
theorem dX2_becomeEmpty_22 : decode cX2_becomeEmpty 22 = .ok (.iconst 0, 1) := by decide +kernel
theorem dX2_becomeEmpty_23 : decode cX2_becomeEmpty 23 = .ok (.putfield 15, 3) := by decide +kernel
theorem dX2_becomeEmpty_26 : decode cX2_becomeEmpty 26 = .ok (.return_, 1) := by decide +kernel
theorem dX2_becomeBare_0 : decode cX2_becomeBare 0 = .ok (.aload_n 0, 1) := by decide +kernel
theorem dX2_becomeBare_1 : decode cX2_becomeBare 1 = .ok (.invokevirtual 19, 3) := by decide +kernel
theorem dX2_becomeBare_4 : decode cX2_becomeBare 4 = .ok (.iload_n 1, 1) := by decide +kernel
theorem dX2_becomeBare_5 : decode cX2_becomeBare 5 = .ok (.ifCond .lt 16, 3) := by decide +kernel
theorem dX2_becomeBare_8 : decode cX2_becomeBare 8 = .ok (.iload_n 1, 1) := by decide +kernel
theorem dX2_becomeBare_9 : decode cX2_becomeBare 9 = .ok (.bipush 6, 2) := by decide +kernel
theorem dX2_becomeBare_11 : decode cX2_becomeBare 11 = .ok (.if_icmp .ge 10, 3) := by decide +kernel
theorem dX2_becomeBare_14 : decode cX2_becomeBare 14 = .ok (.aload_n 0, 1) := by decide +kernel
theorem dX2_becomeBare_15 : decode cX2_becomeBare 15 = .ok (.getfield 9, 3) := by decide +kernel
theorem dX2_becomeBare_18 : decode cX2_becomeBare 18 = .ok (.iload_n 1, 1) := by decide +kernel
theorem dX2_becomeBare_19 : decode cX2_becomeBare 19 = .ok (.iload_n 2, 1) := by decide +kernel
theorem dX2_becomeBare_20 : decode cX2_becomeBare 20 = .ok (.iastore, 1) := by decide +kernel
theorem dX2_becomeBare_21 : decode cX2_becomeBare 21 = .ok (.return_, 1) := by decide +kernel
theorem dX2_becomeSame_0 : decode cX2_becomeSame 0 = .ok (.iconst 0, 1) := by decide +kernel
theorem dX2_becomeSame_1 : decode cX2_becomeSame 1 = .ok (.istore_n 2, 1) := by decide +kernel
theorem dX2_becomeSame_2 : decode cX2_becomeSame 2 = .ok (.iload_n 2, 1) := by decide +kernel
theorem dX2_becomeSame_3 : decode cX2_becomeSame 3 = .ok (.bipush 6, 2) := by decide +kernel
theorem dX2_becomeSame_5 : decode cX2_becomeSame 5 = .ok (.if_icmp .ge 21, 3) := by decide +kernel
theorem dX2_becomeSame_8 : decode cX2_becomeSame 8 = .ok (.aload_n 0, 1) := by decide +kernel
theorem dX2_becomeSame_9 : decode cX2_becomeSame 9 = .ok (.getfield 9, 3) := by decide +kernel
theorem dX2_becomeSame_12 : decode cX2_becomeSame 12 = .ok (.iload_n 2, 1) := by decide +kernel
theorem dX2_becomeSame_13 : decode cX2_becomeSame 13 = .ok (.aload_n 1, 1) := by decide +kernel
theorem dX2_becomeSame_14 : decode cX2_becomeSame 14 = .ok (.getfield 9, 3) := by decide +kernel
theorem dX2_becomeSame_17 : decode cX2_becomeSame 17 = .ok (.iload_n 2, 1) := by decide +kernel
theorem dX2_becomeSame_18 : decode cX2_becomeSame 18 = .ok (.iaload, 1) := by decide +kernel
theorem dX2_becomeSame_19 : decode cX2_becomeSame 19 = .ok (.iastore, 1) := by decide +kernel
theorem dX2_becomeSame_20 : decode cX2_becomeSame 20 = .ok (.iinc 2 1, 3) := by decide +kernel
theorem dX2_becomeSame_23 : decode cX2_becomeSame 23 = .ok (.goto (-21), 3) := by decide +kernel
theorem dX2_becomeSame_26 : decode cX2_becomeSame 26 = .ok (.aload_n 0, 1) := by decide +kernel
theorem dX2_becomeSame_27 : decode cX2_becomeSame 27 = .ok (.aload_n 1, 1) := by decide +kernel
theorem dX2_becomeSame_28 : decode cX2_becomeSame 28 = .ok (.getfield 15, 3) := by decide +kernel
theorem dX2_becomeSame_31 : decode cX2_becomeSame 31 = .ok (.putfield 15, 3) := by decide +kernel
theorem dX2_becomeSame_34 : decode cX2_becomeSame 34 = .ok (.return_, 1) := by decide +kernel
theorem dX2_becomeSum_0 : decode cX2_becomeSum 0 = .ok (.aload_n 1, 1) := by decide +kernel
theorem dX2_becomeSum_1 : decode cX2_becomeSum 1 = .ok (.getfield 15, 3) := by decide +kernel
theorem dX2_becomeSum_4 : decode cX2_becomeSum 4 = .ok (.aload_n 2, 1) := by decide +kernel
theorem dX2_becomeSum_5 : decode cX2_becomeSum 5 = .ok (.getfield 15, 3) := by decide +kernel
theorem dX2_becomeSum_8 : decode cX2_becomeSum 8 = .ok (.iadd, 1) := by decide +kernel
theorem dX2_becomeSum_9 : decode cX2_becomeSum 9 = .ok (.istore_n 3, 1) := by decide +kernel
theorem dX2_becomeSum_10 : decode cX2_becomeSum 10 = .ok (.iconst 0, 1) := by decide +kernel
theorem dX2_becomeSum_11 : decode cX2_becomeSum 11 = .ok (.istore 4, 2) := by decide +kernel
theorem dX2_becomeSum_13 : decode cX2_becomeSum 13 = .ok (.iload 4, 2) := by decide +kernel
theorem dX2_becomeSum_15 : decode cX2_becomeSum 15 = .ok (.bipush 6, 2) := by decide +kernel
theorem dX2_becomeSum_17 : decode cX2_becomeSum 17 = .ok (.if_icmp .ge 75, 3) := by decide +kernel
theorem dX2_becomeSum_20 : decode cX2_becomeSum 20 = .ok (.aload_n 1, 1) := by decide +kernel
theorem dX2_becomeSum_21 : decode cX2_becomeSum 21 = .ok (.getfield 9, 3) := by decide +kernel
theorem dX2_becomeSum_24 : decode cX2_becomeSum 24 = .ok (.iload 4, 2) := by decide +kernel
theorem dX2_becomeSum_26 : decode cX2_becomeSum 26 = .ok (.iaload, 1) := by decide +kernel
theorem dX2_becomeSum_27 : decode cX2_becomeSum 27 = .ok (.istore 5, 2) := by decide +kernel
theorem dX2_becomeSum_29 : decode cX2_becomeSum 29 = .ok (.aload_n 2, 1) := by decide +kernel
theorem dX2_becomeSum_30 : decode cX2_becomeSum 30 = .ok (.getfield 9, 3) := by decide +kernel
theorem dX2_becomeSum_33 : decode cX2_becomeSum 33 = .ok (.iload 4, 2) := by decide +kernel
theorem dX2_becomeSum_35 : decode cX2_becomeSum 35 = .ok (.iaload, 1) := by decide +kernel
theorem dX2_becomeSum_36 : decode cX2_becomeSum 36 = .ok (.istore 6, 2) := by decide +kernel
theorem dX2_becomeSum_38 : decode cX2_becomeSum 38 = .ok (.iload 5, 2) := by decide +kernel
theorem dX2_becomeSum_40 : decode cX2_becomeSum 40 = .ok (.ifCond .ge 8, 3) := by decide +kernel
theorem dX2_becomeSum_43 : decode cX2_becomeSum 43 = .ok (.iload 6, 2) := by decide +kernel
theorem dX2_becomeSum_45 : decode cX2_becomeSum 45 = .ok (.ifCond .gt 13, 3) := by decide +kernel
theorem dX2_becomeSum_48 : decode cX2_becomeSum 48 = .ok (.iload 5, 2) := by decide +kernel
theorem dX2_becomeSum_50 : decode cX2_becomeSum 50 = .ok (.ifCond .le 24, 3) := by decide +kernel
theorem dX2_becomeSum_53 : decode cX2_becomeSum 53 = .ok (.iload 6, 2) := by decide +kernel
theorem dX2_becomeSum_55 : decode cX2_becomeSum 55 = .ok (.ifCond .ge 19, 3) := by decide +kernel
theorem dX2_becomeSum_58 : decode cX2_becomeSum 58 = .ok (.iload_n 3, 1) := by decide +kernel
theorem dX2_becomeSum_59 : decode cX2_becomeSum 59 = .ok (.iload 5, 2) := by decide +kernel
theorem dX2_becomeSum_61 : decode cX2_becomeSum 61 = .ok (.invokestatic 22, 3) := by decide +kernel
theorem dX2_becomeSum_64 : decode cX2_becomeSum 64 = .ok (.iload 6, 2) := by decide +kernel
theorem dX2_becomeSum_66 : decode cX2_becomeSum 66 = .ok (.invokestatic 22, 3) := by decide +kernel
theorem dX2_becomeSum_69 : decode cX2_becomeSum 69 = .ok (.invokestatic 28, 3) := by decide +kernel
theorem dX2_becomeSum_72 : decode cX2_becomeSum 72 = .ok (.isub, 1) := by decide +kernel
theorem dX2_becomeSum_73 : decode cX2_becomeSum 73 = .ok (.istore_n 3, 1) := by decide +kernel
theorem dX2_becomeSum_74 : decode cX2_becomeSum 74 = .ok (.aload_n 0, 1) := by decide +kernel
theorem dX2_becomeSum_75 : decode cX2_becomeSum 75 = .ok (.getfield 9, 3) := by decide +kernel
theorem dX2_becomeSum_78 : decode cX2_becomeSum 78 = .ok (.iload 4, 2) := by decide +kernel
theorem dX2_becomeSum_80 : decode cX2_becomeSum 80 = .ok (.iload 5, 2) := by decide +kernel
theorem dX2_becomeSum_82 : decode cX2_becomeSum 82 = .ok (.iload 6, 2) := by decide +kernel
theorem dX2_becomeSum_84 : decode cX2_becomeSum 84 = .ok (.iadd, 1) := by decide +kernel
theorem dX2_becomeSum_85 : decode cX2_becomeSum 85 = .ok (.iastore, 1) := by decide +kernel
theorem dX2_becomeSum_86 : decode cX2_becomeSum 86 = .ok (.iinc 4 1, 3) := by decide +kernel
theorem dX2_becomeSum_89 : decode cX2_becomeSum 89 = .ok (.goto (-76), 3) := by decide +kernel
theorem dX2_becomeSum_92 : decode cX2_becomeSum 92 = .ok (.aload_n 0, 1) := by decide +kernel
theorem dX2_becomeSum_93 : decode cX2_becomeSum 93 = .ok (.iload_n 3, 1) := by decide +kernel
theorem dX2_becomeSum_94 : decode cX2_becomeSum 94 = .ok (.iconst 0, 1) := by decide +kernel
theorem dX2_becomeSum_95 : decode cX2_becomeSum 95 = .ok (.invokestatic 32, 3) := by decide +kernel
theorem dX2_becomeSum_98 : decode cX2_becomeSum 98 = .ok (.putfield 15, 3) := by decide +kernel
theorem dX2_becomeSum_101 : decode cX2_becomeSum 101 = .ok (.return_, 1) := by decide +kernel
theorem dX2_becomeTimes_0 : decode cX2_becomeTimes 0 = .ok (.iconst 0, 1) := by decide +kernel
theorem dX2_becomeTimes_1 : decode cX2_becomeTimes 1 = .ok (.istore_n 3, 1) := by decide +kernel
theorem dX2_becomeTimes_2 : decode cX2_becomeTimes 2 = .ok (.iload_n 3, 1) := by decide +kernel
theorem dX2_becomeTimes_3 : decode cX2_becomeTimes 3 = .ok (.bipush 6, 2) := by decide +kernel
theorem dX2_becomeTimes_5 : decode cX2_becomeTimes 5 = .ok (.if_icmp .ge 23, 3) := by decide +kernel
theorem dX2_becomeTimes_8 : decode cX2_becomeTimes 8 = .ok (.aload_n 0, 1) := by decide +kernel
theorem dX2_becomeTimes_9 : decode cX2_becomeTimes 9 = .ok (.getfield 9, 3) := by decide +kernel
theorem dX2_becomeTimes_12 : decode cX2_becomeTimes 12 = .ok (.iload_n 3, 1) := by decide +kernel
theorem dX2_becomeTimes_13 : decode cX2_becomeTimes 13 = .ok (.aload_n 1, 1) := by decide +kernel
theorem dX2_becomeTimes_14 : decode cX2_becomeTimes 14 = .ok (.getfield 9, 3) := by decide +kernel
theorem dX2_becomeTimes_17 : decode cX2_becomeTimes 17 = .ok (.iload_n 3, 1) := by decide +kernel
theorem dX2_becomeTimes_18 : decode cX2_becomeTimes 18 = .ok (.iaload, 1) := by decide +kernel
theorem dX2_becomeTimes_19 : decode cX2_becomeTimes 19 = .ok (.iload_n 2, 1) := by decide +kernel
theorem dX2_becomeTimes_20 : decode cX2_becomeTimes 20 = .ok (.imul, 1) := by decide +kernel
theorem dX2_becomeTimes_21 : decode cX2_becomeTimes 21 = .ok (.iastore, 1) := by decide +kernel
theorem dX2_becomeTimes_22 : decode cX2_becomeTimes 22 = .ok (.iinc 3 1, 3) := by decide +kernel
theorem dX2_becomeTimes_25 : decode cX2_becomeTimes 25 = .ok (.goto (-23), 3) := by decide +kernel
theorem dX2_becomeTimes_28 : decode cX2_becomeTimes 28 = .ok (.aload_n 0, 1) := by decide +kernel
theorem dX2_becomeTimes_29 : decode cX2_becomeTimes 29 = .ok (.aload_n 1, 1) := by decide +kernel
theorem dX2_becomeTimes_30 : decode cX2_becomeTimes 30 = .ok (.getfield 15, 3) := by decide +kernel
theorem dX2_becomeTimes_33 : decode cX2_becomeTimes 33 = .ok (.iload_n 2, 1) := by decide +kernel
theorem dX2_becomeTimes_34 : decode cX2_becomeTimes 34 = .ok (.imul, 1) := by decide +kernel
theorem dX2_becomeTimes_35 : decode cX2_becomeTimes 35 = .ok (.putfield 15, 3) := by decide +kernel
theorem dX2_becomeTimes_38 : decode cX2_becomeTimes 38 = .ok (.return_, 1) := by decide +kernel
theorem dX2_becomeCut_0 : decode cX2_becomeCut 0 = .ok (.iload_n 2, 1) := by decide +kernel
theorem dX2_becomeCut_1 : decode cX2_becomeCut 1 = .ok (.iconst 1, 1) := by decide +kernel
theorem dX2_becomeCut_2 : decode cX2_becomeCut 2 = .ok (.invokestatic 32, 3) := by decide +kernel
theorem dX2_becomeCut_5 : decode cX2_becomeCut 5 = .ok (.istore_n 3, 1) := by decide +kernel
theorem dX2_becomeCut_6 : decode cX2_becomeCut 6 = .ok (.iconst 0, 1) := by decide +kernel
theorem dX2_becomeCut_7 : decode cX2_becomeCut 7 = .ok (.istore 4, 2) := by decide +kernel
theorem dX2_becomeCut_9 : decode cX2_becomeCut 9 = .ok (.iload 4, 2) := by decide +kernel
theorem dX2_becomeCut_11 : decode cX2_becomeCut 11 = .ok (.bipush 6, 2) := by decide +kernel
theorem dX2_becomeCut_13 : decode cX2_becomeCut 13 = .ok (.if_icmp .ge 41, 3) := by decide +kernel
theorem dX2_becomeCut_16 : decode cX2_becomeCut 16 = .ok (.aload_n 1, 1) := by decide +kernel
theorem dX2_becomeCut_17 : decode cX2_becomeCut 17 = .ok (.getfield 9, 3) := by decide +kernel
theorem dX2_becomeCut_20 : decode cX2_becomeCut 20 = .ok (.iload 4, 2) := by decide +kernel
theorem dX2_becomeCut_22 : decode cX2_becomeCut 22 = .ok (.iaload, 1) := by decide +kernel
theorem dX2_becomeCut_23 : decode cX2_becomeCut 23 = .ok (.istore 5, 2) := by decide +kernel
theorem dX2_becomeCut_25 : decode cX2_becomeCut 25 = .ok (.aload_n 0, 1) := by decide +kernel
theorem dX2_becomeCut_26 : decode cX2_becomeCut 26 = .ok (.getfield 9, 3) := by decide +kernel
theorem dX2_becomeCut_29 : decode cX2_becomeCut 29 = .ok (.iload 4, 2) := by decide +kernel
theorem dX2_becomeCut_31 : decode cX2_becomeCut 31 = .ok (.iload 5, 2) := by decide +kernel
theorem dX2_becomeCut_33 : decode cX2_becomeCut 33 = .ok (.iload 5, 2) := by decide +kernel
theorem dX2_becomeCut_35 : decode cX2_becomeCut 35 = .ok (.invokestatic 22, 3) := by decide +kernel
theorem dX2_becomeCut_38 : decode cX2_becomeCut 38 = .ok (.iload_n 3, 1) := by decide +kernel
theorem dX2_becomeCut_39 : decode cX2_becomeCut 39 = .ok (.iadd, 1) := by decide +kernel
theorem dX2_becomeCut_40 : decode cX2_becomeCut 40 = .ok (.iconst 1, 1) := by decide +kernel
theorem dX2_becomeCut_41 : decode cX2_becomeCut 41 = .ok (.isub, 1) := by decide +kernel
theorem dX2_becomeCut_42 : decode cX2_becomeCut 42 = .ok (.iload_n 3, 1) := by decide +kernel
theorem dX2_becomeCut_43 : decode cX2_becomeCut 43 = .ok (.idiv, 1) := by decide +kernel
theorem dX2_becomeCut_44 : decode cX2_becomeCut 44 = .ok (.invokestatic 35, 3) := by decide +kernel
theorem dX2_becomeCut_47 : decode cX2_becomeCut 47 = .ok (.iastore, 1) := by decide +kernel
theorem dX2_becomeCut_48 : decode cX2_becomeCut 48 = .ok (.iinc 4 1, 3) := by decide +kernel
theorem dX2_becomeCut_51 : decode cX2_becomeCut 51 = .ok (.goto (-42), 3) := by decide +kernel
theorem dX2_becomeCut_54 : decode cX2_becomeCut 54 = .ok (.aload_n 0, 1) := by decide +kernel
theorem dX2_becomeCut_55 : decode cX2_becomeCut 55 = .ok (.aload_n 1, 1) := by decide +kernel
theorem dX2_becomeCut_56 : decode cX2_becomeCut 56 = .ok (.getfield 15, 3) := by decide +kernel
theorem dX2_becomeCut_59 : decode cX2_becomeCut 59 = .ok (.iload_n 3, 1) := by decide +kernel
theorem dX2_becomeCut_60 : decode cX2_becomeCut 60 = .ok (.iadd, 1) := by decide +kernel
theorem dX2_becomeCut_61 : decode cX2_becomeCut 61 = .ok (.iconst 1, 1) := by decide +kernel
theorem dX2_becomeCut_62 : decode cX2_becomeCut 62 = .ok (.isub, 1) := by decide +kernel
theorem dX2_becomeCut_63 : decode cX2_becomeCut 63 = .ok (.iload_n 3, 1) := by decide +kernel
theorem dX2_becomeCut_64 : decode cX2_becomeCut 64 = .ok (.idiv, 1) := by decide +kernel
theorem dX2_becomeCut_65 : decode cX2_becomeCut 65 = .ok (.putfield 15, 3) := by decide +kernel
theorem dX2_becomeCut_68 : decode cX2_becomeCut 68 = .ok (.return_, 1) := by decide +kernel
theorem dX2_becomeTrimmed_0 : decode cX2_becomeTrimmed 0 = .ok (.iconst 0, 1) := by decide +kernel
theorem dX2_becomeTrimmed_1 : decode cX2_becomeTrimmed 1 = .ok (.istore_n 2, 1) := by decide +kernel
theorem dX2_becomeTrimmed_2 : decode cX2_becomeTrimmed 2 = .ok (.iload_n 2, 1) := by decide +kernel
theorem dX2_becomeTrimmed_3 : decode cX2_becomeTrimmed 3 = .ok (.bipush 6, 2) := by decide +kernel
theorem dX2_becomeTrimmed_5 : decode cX2_becomeTrimmed 5 = .ok (.if_icmp .ge 37, 3) := by decide +kernel
theorem dX2_becomeTrimmed_8 : decode cX2_becomeTrimmed 8 = .ok (.aload_n 1, 1) := by decide +kernel
theorem dX2_becomeTrimmed_9 : decode cX2_becomeTrimmed 9 = .ok (.getfield 9, 3) := by decide +kernel
theorem dX2_becomeTrimmed_12 : decode cX2_becomeTrimmed 12 = .ok (.iload_n 2, 1) := by decide +kernel
theorem dX2_becomeTrimmed_13 : decode cX2_becomeTrimmed 13 = .ok (.iaload, 1) := by decide +kernel
theorem dX2_becomeTrimmed_14 : decode cX2_becomeTrimmed 14 = .ok (.istore_n 3, 1) := by decide +kernel
theorem dX2_becomeTrimmed_15 : decode cX2_becomeTrimmed 15 = .ok (.aload_n 0, 1) := by decide +kernel
theorem dX2_becomeTrimmed_16 : decode cX2_becomeTrimmed 16 = .ok (.getfield 9, 3) := by decide +kernel
theorem dX2_becomeTrimmed_19 : decode cX2_becomeTrimmed 19 = .ok (.iload_n 2, 1) := by decide +kernel
theorem dX2_becomeTrimmed_20 : decode cX2_becomeTrimmed 20 = .ok (.iload_n 3, 1) := by decide +kernel
theorem dX2_becomeTrimmed_21 : decode cX2_becomeTrimmed 21 = .ok (.iload_n 3, 1) := by decide +kernel
theorem dX2_becomeTrimmed_22 : decode cX2_becomeTrimmed 22 = .ok (.invokestatic 22, 3) := by decide +kernel
theorem dX2_becomeTrimmed_25 : decode cX2_becomeTrimmed 25 = .ok (.aload_n 1, 1) := by decide +kernel
theorem dX2_becomeTrimmed_26 : decode cX2_becomeTrimmed 26 = .ok (.getfield 15, 3) := by decide +kernel
theorem dX2_becomeTrimmed_29 : decode cX2_becomeTrimmed 29 = .ok (.invokestatic 28, 3) := by decide +kernel
theorem dX2_becomeTrimmed_32 : decode cX2_becomeTrimmed 32 = .ok (.invokestatic 35, 3) := by decide +kernel
theorem dX2_becomeTrimmed_35 : decode cX2_becomeTrimmed 35 = .ok (.iastore, 1) := by decide +kernel
theorem dX2_becomeTrimmed_36 : decode cX2_becomeTrimmed 36 = .ok (.iinc 2 1, 3) := by decide +kernel
theorem dX2_becomeTrimmed_39 : decode cX2_becomeTrimmed 39 = .ok (.goto (-37), 3) := by decide +kernel
theorem dX2_becomeTrimmed_42 : decode cX2_becomeTrimmed 42 = .ok (.aload_n 0, 1) := by decide +kernel
theorem dX2_becomeTrimmed_43 : decode cX2_becomeTrimmed 43 = .ok (.aload_n 1, 1) := by decide +kernel
theorem dX2_becomeTrimmed_44 : decode cX2_becomeTrimmed 44 = .ok (.getfield 15, 3) := by decide +kernel
theorem dX2_becomeTrimmed_47 : decode cX2_becomeTrimmed 47 = .ok (.putfield 15, 3) := by decide +kernel
theorem dX2_becomeTrimmed_50 : decode cX2_becomeTrimmed 50 = .ok (.return_, 1) := by decide +kernel
theorem dX2_becomeDropped_0 : decode cX2_becomeDropped 0 = .ok (.aload_n 0, 1) := by decide +kernel
theorem dX2_becomeDropped_1 : decode cX2_becomeDropped 1 = .ok (.aload_n 1, 1) := by decide +kernel
theorem dX2_becomeDropped_2 : decode cX2_becomeDropped 2 = .ok (.invokevirtual 38, 3) := by decide +kernel
theorem dX2_becomeDropped_5 : decode cX2_becomeDropped 5 = .ok (.iload_n 2, 1) := by decide +kernel
theorem dX2_becomeDropped_6 : decode cX2_becomeDropped 6 = .ok (.ifCond .lt 38, 3) := by decide +kernel
theorem dX2_becomeDropped_9 : decode cX2_becomeDropped 9 = .ok (.iload_n 2, 1) := by decide +kernel
theorem dX2_becomeDropped_10 : decode cX2_becomeDropped 10 = .ok (.bipush 6, 2) := by decide +kernel
theorem dX2_becomeDropped_12 : decode cX2_becomeDropped 12 = .ok (.if_icmp .ge 32, 3) := by decide +kernel
theorem dX2_becomeDropped_15 : decode cX2_becomeDropped 15 = .ok (.aload_n 0, 1) := by decide +kernel
theorem dX2_becomeDropped_16 : decode cX2_becomeDropped 16 = .ok (.aload_n 0, 1) := by decide +kernel
theorem dX2_becomeDropped_17 : decode cX2_becomeDropped 17 = .ok (.getfield 15, 3) := by decide +kernel
theorem dX2_becomeDropped_20 : decode cX2_becomeDropped 20 = .ok (.aload_n 0, 1) := by decide +kernel
theorem dX2_becomeDropped_21 : decode cX2_becomeDropped 21 = .ok (.getfield 9, 3) := by decide +kernel
theorem dX2_becomeDropped_24 : decode cX2_becomeDropped 24 = .ok (.iload_n 2, 1) := by decide +kernel
theorem dX2_becomeDropped_25 : decode cX2_becomeDropped 25 = .ok (.iaload, 1) := by decide +kernel
theorem dX2_becomeDropped_26 : decode cX2_becomeDropped 26 = .ok (.invokestatic 22, 3) := by decide +kernel
theorem dX2_becomeDropped_29 : decode cX2_becomeDropped 29 = .ok (.isub, 1) := by decide +kernel
theorem dX2_becomeDropped_30 : decode cX2_becomeDropped 30 = .ok (.iconst 0, 1) := by decide +kernel
theorem dX2_becomeDropped_31 : decode cX2_becomeDropped 31 = .ok (.invokestatic 32, 3) := by decide +kernel
theorem dX2_becomeDropped_34 : decode cX2_becomeDropped 34 = .ok (.putfield 15, 3) := by decide +kernel
theorem dX2_becomeDropped_37 : decode cX2_becomeDropped 37 = .ok (.aload_n 0, 1) := by decide +kernel
theorem dX2_becomeDropped_38 : decode cX2_becomeDropped 38 = .ok (.getfield 9, 3) := by decide +kernel
theorem dX2_becomeDropped_41 : decode cX2_becomeDropped 41 = .ok (.iload_n 2, 1) := by decide +kernel
theorem dX2_becomeDropped_42 : decode cX2_becomeDropped 42 = .ok (.iconst 0, 1) := by decide +kernel
theorem dX2_becomeDropped_43 : decode cX2_becomeDropped 43 = .ok (.iastore, 1) := by decide +kernel
theorem dX2_becomeDropped_44 : decode cX2_becomeDropped 44 = .ok (.return_, 1) := by decide +kernel
theorem dX2_becomeOpposite_0 : decode cX2_becomeOpposite 0 = .ok (.iconst 0, 1) := by decide +kernel
theorem dX2_becomeOpposite_1 : decode cX2_becomeOpposite 1 = .ok (.istore_n 2, 1) := by decide +kernel
theorem dX2_becomeOpposite_2 : decode cX2_becomeOpposite 2 = .ok (.iload_n 2, 1) := by decide +kernel
theorem dX2_becomeOpposite_3 : decode cX2_becomeOpposite 3 = .ok (.bipush 6, 2) := by decide +kernel
theorem dX2_becomeOpposite_5 : decode cX2_becomeOpposite 5 = .ok (.if_icmp .ge 22, 3) := by decide +kernel
theorem dX2_becomeOpposite_8 : decode cX2_becomeOpposite 8 = .ok (.aload_n 0, 1) := by decide +kernel
theorem dX2_becomeOpposite_9 : decode cX2_becomeOpposite 9 = .ok (.getfield 9, 3) := by decide +kernel
theorem dX2_becomeOpposite_12 : decode cX2_becomeOpposite 12 = .ok (.iload_n 2, 1) := by decide +kernel
theorem dX2_becomeOpposite_13 : decode cX2_becomeOpposite 13 = .ok (.aload_n 1, 1) := by decide +kernel
theorem dX2_becomeOpposite_14 : decode cX2_becomeOpposite 14 = .ok (.getfield 9, 3) := by decide +kernel
theorem dX2_becomeOpposite_17 : decode cX2_becomeOpposite 17 = .ok (.iload_n 2, 1) := by decide +kernel
theorem dX2_becomeOpposite_18 : decode cX2_becomeOpposite 18 = .ok (.iaload, 1) := by decide +kernel
theorem dX2_becomeOpposite_19 : decode cX2_becomeOpposite 19 = .ok (.ineg, 1) := by decide +kernel
theorem dX2_becomeOpposite_20 : decode cX2_becomeOpposite 20 = .ok (.iastore, 1) := by decide +kernel
theorem dX2_becomeOpposite_21 : decode cX2_becomeOpposite 21 = .ok (.iinc 2 1, 3) := by decide +kernel
theorem dX2_becomeOpposite_24 : decode cX2_becomeOpposite 24 = .ok (.goto (-22), 3) := by decide +kernel
theorem dX2_becomeOpposite_27 : decode cX2_becomeOpposite 27 = .ok (.aload_n 0, 1) := by decide +kernel
theorem dX2_becomeOpposite_28 : decode cX2_becomeOpposite 28 = .ok (.aload_n 1, 1) := by decide +kernel
theorem dX2_becomeOpposite_29 : decode cX2_becomeOpposite 29 = .ok (.iconst 0, 1) := by decide +kernel
theorem dX2_becomeOpposite_30 : decode cX2_becomeOpposite 30 = .ok (.iconst 0, 1) := by decide +kernel
theorem dX2_becomeOpposite_31 : decode cX2_becomeOpposite 31 = .ok (.invokevirtual 42, 3) := by decide +kernel
theorem dX2_becomeOpposite_34 : decode cX2_becomeOpposite 34 = .ok (.iconst 1, 1) := by decide +kernel
theorem dX2_becomeOpposite_35 : decode cX2_becomeOpposite 35 = .ok (.iadd, 1) := by decide +kernel
theorem dX2_becomeOpposite_36 : decode cX2_becomeOpposite 36 = .ok (.aload_n 1, 1) := by decide +kernel
theorem dX2_becomeOpposite_37 : decode cX2_becomeOpposite 37 = .ok (.getfield 15, 3) := by decide +kernel
theorem dX2_becomeOpposite_40 : decode cX2_becomeOpposite 40 = .ok (.isub, 1) := by decide +kernel
theorem dX2_becomeOpposite_41 : decode cX2_becomeOpposite 41 = .ok (.putfield 15, 3) := by decide +kernel
theorem dX2_becomeOpposite_44 : decode cX2_becomeOpposite 44 = .ok (.return_, 1) := by decide +kernel
theorem dX2_signed_0 : decode cX2_signed 0 = .ok (.iload_n 0, 1) := by decide +kernel
theorem dX2_signed_1 : decode cX2_signed 1 = .ok (.ifCond .ge 8, 3) := by decide +kernel
theorem dX2_signed_4 : decode cX2_signed 4 = .ok (.iload_n 1, 1) := by decide +kernel
theorem dX2_signed_5 : decode cX2_signed 5 = .ok (.ineg, 1) := by decide +kernel
theorem dX2_signed_6 : decode cX2_signed 6 = .ok (.goto 4, 3) := by decide +kernel
theorem dX2_signed_9 : decode cX2_signed 9 = .ok (.iload_n 1, 1) := by decide +kernel
theorem dX2_signed_10 : decode cX2_signed 10 = .ok (.ireturn, 1) := by decide +kernel
theorem dX2_isTooGreat_0 : decode cX2_isTooGreat 0 = .ok (.iconst 0, 1) := by decide +kernel
theorem dX2_isTooGreat_1 : decode cX2_isTooGreat 1 = .ok (.istore_n 1, 1) := by decide +kernel
theorem dX2_isTooGreat_2 : decode cX2_isTooGreat 2 = .ok (.iload_n 1, 1) := by decide +kernel
theorem dX2_isTooGreat_3 : decode cX2_isTooGreat 3 = .ok (.bipush 6, 2) := by decide +kernel
theorem dX2_isTooGreat_5 : decode cX2_isTooGreat 5 = .ok (.if_icmp .ge 26, 3) := by decide +kernel
theorem dX2_isTooGreat_8 : decode cX2_isTooGreat 8 = .ok (.aload_n 0, 1) := by decide +kernel
theorem dX2_isTooGreat_9 : decode cX2_isTooGreat 9 = .ok (.getfield 9, 3) := by decide +kernel
theorem dX2_isTooGreat_12 : decode cX2_isTooGreat 12 = .ok (.iload_n 1, 1) := by decide +kernel
theorem dX2_isTooGreat_13 : decode cX2_isTooGreat 13 = .ok (.iaload, 1) := by decide +kernel
theorem dX2_isTooGreat_14 : decode cX2_isTooGreat 14 = .ok (.invokestatic 22, 3) := by decide +kernel
theorem dX2_isTooGreat_17 : decode cX2_isTooGreat 17 = .ok (.sipush 9999, 3) := by decide +kernel
theorem dX2_isTooGreat_20 : decode cX2_isTooGreat 20 = .ok (.if_icmp .le 5, 3) := by decide +kernel
theorem dX2_isTooGreat_23 : decode cX2_isTooGreat 23 = .ok (.iconst 1, 1) := by decide +kernel
theorem dX2_isTooGreat_24 : decode cX2_isTooGreat 24 = .ok (.ireturn, 1) := by decide +kernel
theorem dX2_isTooGreat_25 : decode cX2_isTooGreat 25 = .ok (.iinc 1 1, 3) := by decide +kernel
theorem dX2_isTooGreat_28 : decode cX2_isTooGreat 28 = .ok (.goto (-26), 3) := by decide +kernel
theorem dX2_isTooGreat_31 : decode cX2_isTooGreat 31 = .ok (.aload_n 0, 1) := by decide +kernel
theorem dX2_isTooGreat_32 : decode cX2_isTooGreat 32 = .ok (.getfield 15, 3) := by decide +kernel
theorem dX2_isTooGreat_35 : decode cX2_isTooGreat 35 = .ok (.ldc 45, 2) := by decide +kernel
theorem dX2_isTooGreat_37 : decode cX2_isTooGreat 37 = .ok (.if_icmp .le 7, 3) := by decide +kernel
theorem dX2_isTooGreat_40 : decode cX2_isTooGreat 40 = .ok (.iconst 1, 1) := by decide +kernel
theorem dX2_isTooGreat_41 : decode cX2_isTooGreat 41 = .ok (.goto 4, 3) := by decide +kernel
theorem dX2_isTooGreat_44 : decode cX2_isTooGreat 44 = .ok (.iconst 0, 1) := by decide +kernel
theorem dX2_isTooGreat_45 : decode cX2_isTooGreat 45 = .ok (.ireturn, 1) := by decide +kernel
theorem dX2_mayWeigh_0 : decode cX2_mayWeigh 0 = .ok (.iconst 0, 1) := by decide +kernel
theorem dX2_mayWeigh_1 : decode cX2_mayWeigh 1 = .ok (.istore_n 3, 1) := by decide +kernel
theorem dX2_mayWeigh_2 : decode cX2_mayWeigh 2 = .ok (.iconst 0, 1) := by decide +kernel
theorem dX2_mayWeigh_3 : decode cX2_mayWeigh 3 = .ok (.istore 4, 2) := by decide +kernel
theorem dX2_mayWeigh_5 : decode cX2_mayWeigh 5 = .ok (.iload 4, 2) := by decide +kernel
theorem dX2_mayWeigh_7 : decode cX2_mayWeigh 7 = .ok (.bipush 6, 2) := by decide +kernel
theorem dX2_mayWeigh_9 : decode cX2_mayWeigh 9 = .ok (.if_icmp .ge 48, 3) := by decide +kernel
theorem dX2_mayWeigh_12 : decode cX2_mayWeigh 12 = .ok (.aload_n 0, 1) := by decide +kernel
theorem dX2_mayWeigh_13 : decode cX2_mayWeigh 13 = .ok (.getfield 9, 3) := by decide +kernel
theorem dX2_mayWeigh_16 : decode cX2_mayWeigh 16 = .ok (.iload 4, 2) := by decide +kernel
theorem dX2_mayWeigh_18 : decode cX2_mayWeigh 18 = .ok (.iaload, 1) := by decide +kernel
theorem dX2_mayWeigh_19 : decode cX2_mayWeigh 19 = .ok (.istore 5, 2) := by decide +kernel
theorem dX2_mayWeigh_21 : decode cX2_mayWeigh 21 = .ok (.iload 5, 2) := by decide +kernel
theorem dX2_mayWeigh_23 : decode cX2_mayWeigh 23 = .ok (.ifCond .le 7, 3) := by decide +kernel
theorem dX2_mayWeigh_26 : decode cX2_mayWeigh 26 = .ok (.iload_n 2, 1) := by decide +kernel
theorem dX2_mayWeigh_27 : decode cX2_mayWeigh 27 = .ok (.goto 4, 3) := by decide +kernel
theorem dX2_mayWeigh_30 : decode cX2_mayWeigh 30 = .ok (.iload_n 1, 1) := by decide +kernel
theorem dX2_mayWeigh_31 : decode cX2_mayWeigh 31 = .ok (.istore 6, 2) := by decide +kernel
theorem dX2_mayWeigh_33 : decode cX2_mayWeigh 33 = .ok (.iload 6, 2) := by decide +kernel
theorem dX2_mayWeigh_35 : decode cX2_mayWeigh 35 = .ok (.iload 4, 2) := by decide +kernel
theorem dX2_mayWeigh_37 : decode cX2_mayWeigh 37 = .ok (.ishr, 1) := by decide +kernel
theorem dX2_mayWeigh_38 : decode cX2_mayWeigh 38 = .ok (.iconst 1, 1) := by decide +kernel
theorem dX2_mayWeigh_39 : decode cX2_mayWeigh 39 = .ok (.iand, 1) := by decide +kernel
theorem dX2_mayWeigh_40 : decode cX2_mayWeigh 40 = .ok (.ifCond .ne 11, 3) := by decide +kernel
theorem dX2_mayWeigh_43 : decode cX2_mayWeigh 43 = .ok (.iload_n 3, 1) := by decide +kernel
theorem dX2_mayWeigh_44 : decode cX2_mayWeigh 44 = .ok (.iload 5, 2) := by decide +kernel
theorem dX2_mayWeigh_46 : decode cX2_mayWeigh 46 = .ok (.invokestatic 22, 3) := by decide +kernel
theorem dX2_mayWeigh_49 : decode cX2_mayWeigh 49 = .ok (.iadd, 1) := by decide +kernel
theorem dX2_mayWeigh_50 : decode cX2_mayWeigh 50 = .ok (.istore_n 3, 1) := by decide +kernel
theorem dX2_mayWeigh_51 : decode cX2_mayWeigh 51 = .ok (.iinc 4 1, 3) := by decide +kernel
theorem dX2_mayWeigh_54 : decode cX2_mayWeigh 54 = .ok (.goto (-49), 3) := by decide +kernel
theorem dX2_mayWeigh_57 : decode cX2_mayWeigh 57 = .ok (.iload_n 3, 1) := by decide +kernel
theorem dX2_mayWeigh_58 : decode cX2_mayWeigh 58 = .ok (.ireturn, 1) := by decide +kernel
theorem dX2_weighsIn_0 : decode cX2_weighsIn 0 = .ok (.aload_n 0, 1) := by decide +kernel
theorem dX2_weighsIn_1 : decode cX2_weighsIn 1 = .ok (.iload_n 1, 1) := by decide +kernel
theorem dX2_weighsIn_2 : decode cX2_weighsIn 2 = .ok (.iload_n 1, 1) := by decide +kernel
theorem dX2_weighsIn_3 : decode cX2_weighsIn 3 = .ok (.iconst (-1), 1) := by decide +kernel
theorem dX2_weighsIn_4 : decode cX2_weighsIn 4 = .ok (.ixor, 1) := by decide +kernel
theorem dX2_weighsIn_5 : decode cX2_weighsIn 5 = .ok (.invokevirtual 42, 3) := by decide +kernel
theorem dX2_weighsIn_8 : decode cX2_weighsIn 8 = .ok (.ireturn, 1) := by decide +kernel
theorem dX2_isBroken_0 : decode cX2_isBroken 0 = .ok (.aload_n 0, 1) := by decide +kernel
theorem dX2_isBroken_1 : decode cX2_isBroken 1 = .ok (.iconst 0, 1) := by decide +kernel
theorem dX2_isBroken_2 : decode cX2_isBroken 2 = .ok (.iconst 0, 1) := by decide +kernel
theorem dX2_isBroken_3 : decode cX2_isBroken 3 = .ok (.invokevirtual 42, 3) := by decide +kernel
theorem dX2_isBroken_6 : decode cX2_isBroken 6 = .ok (.aload_n 0, 1) := by decide +kernel
theorem dX2_isBroken_7 : decode cX2_isBroken 7 = .ok (.getfield 15, 3) := by decide +kernel
theorem dX2_isBroken_10 : decode cX2_isBroken 10 = .ok (.if_icmp .ge 7, 3) := by decide +kernel
theorem dX2_isBroken_13 : decode cX2_isBroken 13 = .ok (.iconst 1, 1) := by decide +kernel
theorem dX2_isBroken_14 : decode cX2_isBroken 14 = .ok (.goto 4, 3) := by decide +kernel
theorem dX2_isBroken_17 : decode cX2_isBroken 17 = .ok (.iconst 0, 1) := by decide +kernel
theorem dX2_isBroken_18 : decode cX2_isBroken 18 = .ok (.ireturn, 1) := by decide +kernel
theorem dX2_worldsHeld_0 : decode cX2_worldsHeld 0 = .ok (.lconst 0, 1) := by decide +kernel
theorem dX2_worldsHeld_1 : decode cX2_worldsHeld 1 = .ok (.lstore_n 1, 1) := by decide +kernel
theorem dX2_worldsHeld_2 : decode cX2_worldsHeld 2 = .ok (.iconst 0, 1) := by decide +kernel
theorem dX2_worldsHeld_3 : decode cX2_worldsHeld 3 = .ok (.istore_n 3, 1) := by decide +kernel
theorem dX2_worldsHeld_4 : decode cX2_worldsHeld 4 = .ok (.iload_n 3, 1) := by decide +kernel
theorem dX2_worldsHeld_5 : decode cX2_worldsHeld 5 = .ok (.bipush 64, 2) := by decide +kernel
theorem dX2_worldsHeld_7 : decode cX2_worldsHeld 7 = .ok (.if_icmp .ge 27, 3) := by decide +kernel
theorem dX2_worldsHeld_10 : decode cX2_worldsHeld 10 = .ok (.aload_n 0, 1) := by decide +kernel
theorem dX2_worldsHeld_11 : decode cX2_worldsHeld 11 = .ok (.iload_n 3, 1) := by decide +kernel
theorem dX2_worldsHeld_12 : decode cX2_worldsHeld 12 = .ok (.invokevirtual 46, 3) := by decide +kernel
theorem dX2_worldsHeld_15 : decode cX2_worldsHeld 15 = .ok (.aload_n 0, 1) := by decide +kernel
theorem dX2_worldsHeld_16 : decode cX2_worldsHeld 16 = .ok (.getfield 15, 3) := by decide +kernel
theorem dX2_worldsHeld_19 : decode cX2_worldsHeld 19 = .ok (.if_icmp .lt 9, 3) := by decide +kernel
theorem dX2_worldsHeld_22 : decode cX2_worldsHeld 22 = .ok (.lload_n 1, 1) := by decide +kernel
theorem dX2_worldsHeld_23 : decode cX2_worldsHeld 23 = .ok (.lconst 1, 1) := by decide +kernel
theorem dX2_worldsHeld_24 : decode cX2_worldsHeld 24 = .ok (.iload_n 3, 1) := by decide +kernel
theorem dX2_worldsHeld_25 : decode cX2_worldsHeld 25 = .ok (.lshl, 1) := by decide +kernel
theorem dX2_worldsHeld_26 : decode cX2_worldsHeld 26 = .ok (.lor, 1) := by decide +kernel
theorem dX2_worldsHeld_27 : decode cX2_worldsHeld 27 = .ok (.lstore_n 1, 1) := by decide +kernel
theorem dX2_worldsHeld_28 : decode cX2_worldsHeld 28 = .ok (.iinc 3 1, 3) := by decide +kernel
theorem dX2_worldsHeld_31 : decode cX2_worldsHeld 31 = .ok (.goto (-27), 3) := by decide +kernel
theorem dX2_worldsHeld_34 : decode cX2_worldsHeld 34 = .ok (.lload_n 1, 1) := by decide +kernel
theorem dX2_worldsHeld_35 : decode cX2_worldsHeld 35 = .ok (.lreturn, 1) := by decide +kernel
theorem dX2_isLeastCover_0 : decode cX2_isLeastCover 0 = .ok (.aload_n 0, 1) := by decide +kernel
theorem dX2_isLeastCover_1 : decode cX2_isLeastCover 1 = .ok (.iload_n 1, 1) := by decide +kernel
theorem dX2_isLeastCover_2 : decode cX2_isLeastCover 2 = .ok (.invokevirtual 49, 3) := by decide +kernel
theorem dX2_isLeastCover_5 : decode cX2_isLeastCover 5 = .ok (.ifCond .ne 5, 3) := by decide +kernel
theorem dX2_isLeastCover_8 : decode cX2_isLeastCover 8 = .ok (.iconst 0, 1) := by decide +kernel
theorem dX2_isLeastCover_9 : decode cX2_isLeastCover 9 = .ok (.ireturn, 1) := by decide +kernel
theorem dX2_isLeastCover_10 : decode cX2_isLeastCover 10 = .ok (.iconst 0, 1) := by decide +kernel
theorem dX2_isLeastCover_11 : decode cX2_isLeastCover 11 = .ok (.istore_n 2, 1) := by decide +kernel
theorem dX2_isLeastCover_12 : decode cX2_isLeastCover 12 = .ok (.iload_n 2, 1) := by decide +kernel
theorem dX2_isLeastCover_13 : decode cX2_isLeastCover 13 = .ok (.bipush 6, 2) := by decide +kernel
theorem dX2_isLeastCover_15 : decode cX2_isLeastCover 15 = .ok (.if_icmp .ge 34, 3) := by decide +kernel
theorem dX2_isLeastCover_18 : decode cX2_isLeastCover 18 = .ok (.iload_n 1, 1) := by decide +kernel
theorem dX2_isLeastCover_19 : decode cX2_isLeastCover 19 = .ok (.iload_n 2, 1) := by decide +kernel
theorem dX2_isLeastCover_20 : decode cX2_isLeastCover 20 = .ok (.ishr, 1) := by decide +kernel
theorem dX2_isLeastCover_21 : decode cX2_isLeastCover 21 = .ok (.iconst 1, 1) := by decide +kernel
theorem dX2_isLeastCover_22 : decode cX2_isLeastCover 22 = .ok (.iand, 1) := by decide +kernel
theorem dX2_isLeastCover_23 : decode cX2_isLeastCover 23 = .ok (.iconst 1, 1) := by decide +kernel
theorem dX2_isLeastCover_24 : decode cX2_isLeastCover 24 = .ok (.if_icmp .ne 19, 3) := by decide +kernel
theorem dX2_isLeastCover_27 : decode cX2_isLeastCover 27 = .ok (.aload_n 0, 1) := by decide +kernel
theorem dX2_isLeastCover_28 : decode cX2_isLeastCover 28 = .ok (.iload_n 1, 1) := by decide +kernel
theorem dX2_isLeastCover_29 : decode cX2_isLeastCover 29 = .ok (.iconst 1, 1) := by decide +kernel
theorem dX2_isLeastCover_30 : decode cX2_isLeastCover 30 = .ok (.iload_n 2, 1) := by decide +kernel
theorem dX2_isLeastCover_31 : decode cX2_isLeastCover 31 = .ok (.ishl, 1) := by decide +kernel
theorem dX2_isLeastCover_32 : decode cX2_isLeastCover 32 = .ok (.iconst (-1), 1) := by decide +kernel
theorem dX2_isLeastCover_33 : decode cX2_isLeastCover 33 = .ok (.ixor, 1) := by decide +kernel
theorem dX2_isLeastCover_34 : decode cX2_isLeastCover 34 = .ok (.iand, 1) := by decide +kernel
theorem dX2_isLeastCover_35 : decode cX2_isLeastCover 35 = .ok (.invokevirtual 49, 3) := by decide +kernel
theorem dX2_isLeastCover_38 : decode cX2_isLeastCover 38 = .ok (.ifCond .eq 5, 3) := by decide +kernel
theorem dX2_isLeastCover_41 : decode cX2_isLeastCover 41 = .ok (.iconst 0, 1) := by decide +kernel
theorem dX2_isLeastCover_42 : decode cX2_isLeastCover 42 = .ok (.ireturn, 1) := by decide +kernel
theorem dX2_isLeastCover_43 : decode cX2_isLeastCover 43 = .ok (.iinc 2 1, 3) := by decide +kernel
theorem dX2_isLeastCover_46 : decode cX2_isLeastCover 46 = .ok (.goto (-34), 3) := by decide +kernel
theorem dX2_isLeastCover_49 : decode cX2_isLeastCover 49 = .ok (.iconst 1, 1) := by decide +kernel
theorem dX2_isLeastCover_50 : decode cX2_isLeastCover 50 = .ok (.ireturn, 1) := by decide +kernel
theorem dX2_isCover_0 : decode cX2_isCover 0 = .ok (.iconst 0, 1) := by decide +kernel
theorem dX2_isCover_1 : decode cX2_isCover 1 = .ok (.istore_n 2, 1) := by decide +kernel
theorem dX2_isCover_2 : decode cX2_isCover 2 = .ok (.iconst 0, 1) := by decide +kernel
theorem dX2_isCover_3 : decode cX2_isCover 3 = .ok (.istore_n 3, 1) := by decide +kernel
theorem dX2_isCover_4 : decode cX2_isCover 4 = .ok (.iload_n 3, 1) := by decide +kernel
theorem dX2_isCover_5 : decode cX2_isCover 5 = .ok (.bipush 6, 2) := by decide +kernel
theorem dX2_isCover_7 : decode cX2_isCover 7 = .ok (.if_icmp .ge 29, 3) := by decide +kernel
theorem dX2_isCover_10 : decode cX2_isCover 10 = .ok (.iload_n 1, 1) := by decide +kernel
theorem dX2_isCover_11 : decode cX2_isCover 11 = .ok (.iload_n 3, 1) := by decide +kernel
theorem dX2_isCover_12 : decode cX2_isCover 12 = .ok (.ishr, 1) := by decide +kernel
theorem dX2_isCover_13 : decode cX2_isCover 13 = .ok (.iconst 1, 1) := by decide +kernel
theorem dX2_isCover_14 : decode cX2_isCover 14 = .ok (.iand, 1) := by decide +kernel
theorem dX2_isCover_15 : decode cX2_isCover 15 = .ok (.ifCond .ne 15, 3) := by decide +kernel
theorem dX2_isCover_18 : decode cX2_isCover 18 = .ok (.iload_n 2, 1) := by decide +kernel
theorem dX2_isCover_19 : decode cX2_isCover 19 = .ok (.aload_n 0, 1) := by decide +kernel
theorem dX2_isCover_20 : decode cX2_isCover 20 = .ok (.getfield 9, 3) := by decide +kernel
theorem dX2_isCover_23 : decode cX2_isCover 23 = .ok (.iload_n 3, 1) := by decide +kernel
theorem dX2_isCover_24 : decode cX2_isCover 24 = .ok (.iaload, 1) := by decide +kernel
theorem dX2_isCover_25 : decode cX2_isCover 25 = .ok (.invokestatic 22, 3) := by decide +kernel
theorem dX2_isCover_28 : decode cX2_isCover 28 = .ok (.iadd, 1) := by decide +kernel
theorem dX2_isCover_29 : decode cX2_isCover 29 = .ok (.istore_n 2, 1) := by decide +kernel
theorem dX2_isCover_30 : decode cX2_isCover 30 = .ok (.iinc 3 1, 3) := by decide +kernel
theorem dX2_isCover_33 : decode cX2_isCover 33 = .ok (.goto (-29), 3) := by decide +kernel
theorem dX2_isCover_36 : decode cX2_isCover 36 = .ok (.iload_n 2, 1) := by decide +kernel
theorem dX2_isCover_37 : decode cX2_isCover 37 = .ok (.aload_n 0, 1) := by decide +kernel
theorem dX2_isCover_38 : decode cX2_isCover 38 = .ok (.getfield 15, 3) := by decide +kernel
theorem dX2_isCover_41 : decode cX2_isCover 41 = .ok (.if_icmp .ge 7, 3) := by decide +kernel
theorem dX2_isCover_44 : decode cX2_isCover 44 = .ok (.iconst 1, 1) := by decide +kernel
theorem dX2_isCover_45 : decode cX2_isCover 45 = .ok (.goto 4, 3) := by decide +kernel
theorem dX2_isCover_48 : decode cX2_isCover 48 = .ok (.iconst 0, 1) := by decide +kernel
theorem dX2_isCover_49 : decode cX2_isCover 49 = .ok (.ireturn, 1) := by decide +kernel
theorem dX3_init_0 : decode cX3_init 0 = .ok (.aload_n 0, 1) := by decide +kernel
theorem dX3_init_1 : decode cX3_init 1 = .ok (.invokespecial 3, 3) := by decide +kernel
theorem dX3_init_4 : decode cX3_init 4 = .ok (.aload_n 0, 1) := by decide +kernel
theorem dX3_init_5 : decode cX3_init 5 = .ok (.bipush 8, 2) := by decide +kernel
theorem dX3_init_7 : decode cX3_init 7 = .ok (.anewarray 9, 3) := by decide +kernel
theorem dX3_init_10 : decode cX3_init 10 = .ok (.putfield 11, 3) := by decide +kernel
theorem dX3_init_13 : decode cX3_init 13 = .ok (.aload_n 0, 1) := by decide +kernel
theorem dX3_init_14 : decode cX3_init 14 = .ok (.bipush 24, 2) := by decide +kernel
theorem dX3_init_16 : decode cX3_init 16 = .ok (.anewarray 17, 3) := by decide +kernel
theorem dX3_init_19 : decode cX3_init 19 = .ok (.putfield 19, 3) := by decide +kernel
theorem dX3_init_22 : decode cX3_init 22 = .ok (.aload_n 0, 1) := by decide +kernel
theorem dX3_init_23 : decode cX3_init 23 = .ok (.new 23, 3) := by decide +kernel
theorem dX3_init_26 : decode cX3_init 26 = .ok (.dup, 1) := by decide +kernel
theorem dX3_init_27 : decode cX3_init 27 = .ok (.invokespecial 25, 3) := by decide +kernel
theorem dX3_init_30 : decode cX3_init 30 = .ok (.putfield 26, 3) := by decide +kernel
theorem dX3_init_33 : decode cX3_init 33 = .ok (.iconst 0, 1) := by decide +kernel
theorem dX3_init_34 : decode cX3_init 34 = .ok (.istore_n 1, 1) := by decide +kernel
theorem dX3_init_35 : decode cX3_init 35 = .ok (.iload_n 1, 1) := by decide +kernel
theorem dX3_init_36 : decode cX3_init 36 = .ok (.bipush 8, 2) := by decide +kernel
theorem dX3_init_38 : decode cX3_init 38 = .ok (.if_icmp .ge 22, 3) := by decide +kernel
theorem dX3_init_41 : decode cX3_init 41 = .ok (.aload_n 0, 1) := by decide +kernel
theorem dX3_init_42 : decode cX3_init 42 = .ok (.getfield 11, 3) := by decide +kernel
theorem dX3_init_45 : decode cX3_init 45 = .ok (.iload_n 1, 1) := by decide +kernel
theorem dX3_init_46 : decode cX3_init 46 = .ok (.new 9, 3) := by decide +kernel
theorem dX3_init_49 : decode cX3_init 49 = .ok (.dup, 1) := by decide +kernel
theorem dX3_init_50 : decode cX3_init 50 = .ok (.invokespecial 30, 3) := by decide +kernel
theorem dX3_init_53 : decode cX3_init 53 = .ok (.aastore, 1) := by decide +kernel
theorem dX3_init_54 : decode cX3_init 54 = .ok (.iinc 1 1, 3) := by decide +kernel
theorem dX3_init_57 : decode cX3_init 57 = .ok (.goto (-22), 3) := by decide +kernel
theorem dX3_init_60 : decode cX3_init 60 = .ok (.iconst 0, 1) := by decide +kernel
theorem dX3_init_61 : decode cX3_init 61 = .ok (.istore_n 1, 1) := by decide +kernel
theorem dX3_init_62 : decode cX3_init 62 = .ok (.iload_n 1, 1) := by decide +kernel
theorem dX3_init_63 : decode cX3_init 63 = .ok (.bipush 24, 2) := by decide +kernel
theorem dX3_init_65 : decode cX3_init 65 = .ok (.if_icmp .ge 22, 3) := by decide +kernel
theorem dX3_init_68 : decode cX3_init 68 = .ok (.aload_n 0, 1) := by decide +kernel
theorem dX3_init_69 : decode cX3_init 69 = .ok (.getfield 19, 3) := by decide +kernel
theorem dX3_init_72 : decode cX3_init 72 = .ok (.iload_n 1, 1) := by decide +kernel
theorem dX3_init_73 : decode cX3_init 73 = .ok (.new 17, 3) := by decide +kernel
theorem dX3_init_76 : decode cX3_init 76 = .ok (.dup, 1) := by decide +kernel
theorem dX3_init_77 : decode cX3_init 77 = .ok (.invokespecial 31, 3) := by decide +kernel
theorem dX3_init_80 : decode cX3_init 80 = .ok (.aastore, 1) := by decide +kernel
theorem dX3_init_81 : decode cX3_init 81 = .ok (.iinc 1 1, 3) := by decide +kernel
theorem dX3_init_84 : decode cX3_init 84 = .ok (.goto (-22), 3) := by decide +kernel
theorem dX3_init_87 : decode cX3_init 87 = .ok (.return_, 1) := by decide +kernel
theorem dX3_readGiven_0 : decode cX3_readGiven 0 = .ok (.aload_n 0, 1) := by decide +kernel
theorem dX3_readGiven_1 : decode cX3_readGiven 1 = .ok (.getfield 26, 3) := by decide +kernel
theorem dX3_readGiven_4 : decode cX3_readGiven 4 = .ok (.aload_n 1, 1) := by decide +kernel
theorem dX3_readGiven_5 : decode cX3_readGiven 5 = .ok (.invokevirtual 32, 3) := by decide +kernel
theorem dX3_readGiven_8 : decode cX3_readGiven 8 = .ok (.iconst 0, 1) := by decide +kernel
theorem dX3_readGiven_9 : decode cX3_readGiven 9 = .ok (.istore_n 2, 1) := by decide +kernel
theorem dX3_readGiven_10 : decode cX3_readGiven 10 = .ok (.iload_n 2, 1) := by decide +kernel
theorem dX3_readGiven_11 : decode cX3_readGiven 11 = .ok (.bipush 8, 2) := by decide +kernel
theorem dX3_readGiven_13 : decode cX3_readGiven 13 = .ok (.if_icmp .ge 52, 3) := by decide +kernel
theorem dX3_readGiven_16 : decode cX3_readGiven 16 = .ok (.aload_n 0, 1) := by decide +kernel
theorem dX3_readGiven_17 : decode cX3_readGiven 17 = .ok (.getfield 26, 3) := by decide +kernel
theorem dX3_readGiven_20 : decode cX3_readGiven 20 = .ok (.invokevirtual 36, 3) := by decide +kernel
theorem dX3_readGiven_23 : decode cX3_readGiven 23 = .ok (.ifCond .eq 42, 3) := by decide +kernel
theorem dX3_readGiven_26 : decode cX3_readGiven 26 = .ok (.aload_n 0, 1) := by decide +kernel
theorem dX3_readGiven_27 : decode cX3_readGiven 27 = .ok (.aload_n 0, 1) := by decide +kernel
theorem dX3_readGiven_28 : decode cX3_readGiven 28 = .ok (.getfield 11, 3) := by decide +kernel
theorem dX3_readGiven_31 : decode cX3_readGiven 31 = .ok (.iload_n 2, 1) := by decide +kernel
theorem dX3_readGiven_32 : decode cX3_readGiven 32 = .ok (.aaload, 1) := by decide +kernel
theorem dX3_readGiven_33 : decode cX3_readGiven 33 = .ok (.invokevirtual 40, 3) := by decide +kernel
theorem dX3_readGiven_36 : decode cX3_readGiven 36 = .ok (.ifCond .eq 12, 3) := by decide +kernel
theorem dX3_readGiven_39 : decode cX3_readGiven 39 = .ok (.aload_n 0, 1) := by decide +kernel
theorem dX3_readGiven_40 : decode cX3_readGiven 40 = .ok (.bipush 6, 2) := by decide +kernel
theorem dX3_readGiven_42 : decode cX3_readGiven 42 = .ok (.invokevirtual 44, 3) := by decide +kernel
theorem dX3_readGiven_45 : decode cX3_readGiven 45 = .ok (.ifCond .ne 14, 3) := by decide +kernel
theorem dX3_readGiven_48 : decode cX3_readGiven 48 = .ok (.bipush (-10), 2) := by decide +kernel
theorem dX3_readGiven_50 : decode cX3_readGiven 50 = .ok (.aload_n 0, 1) := by decide +kernel
theorem dX3_readGiven_51 : decode cX3_readGiven 51 = .ok (.getfield 26, 3) := by decide +kernel
theorem dX3_readGiven_54 : decode cX3_readGiven 54 = .ok (.invokevirtual 48, 3) := by decide +kernel
theorem dX3_readGiven_57 : decode cX3_readGiven 57 = .ok (.isub, 1) := by decide +kernel
theorem dX3_readGiven_58 : decode cX3_readGiven 58 = .ok (.ireturn, 1) := by decide +kernel
end
section
theorem dX3_readGiven_59 : decode cX3_readGiven 59 = .ok (.iinc 2 1, 3) := by decide +kernel
theorem dX3_readGiven_62 : decode cX3_readGiven 62 = .ok (.goto (-52), 3) := by decide +kernel
theorem dX3_readGiven_65 : decode cX3_readGiven 65 = .ok (.aload_n 0, 1) := by decide +kernel
theorem dX3_readGiven_66 : decode cX3_readGiven 66 = .ok (.getfield 26, 3) := by decide +kernel
theorem dX3_readGiven_69 : decode cX3_readGiven 69 = .ok (.invokevirtual 36, 3) := by decide +kernel
theorem dX3_readGiven_72 : decode cX3_readGiven 72 = .ok (.ifCond .ne 7, 3) := by decide +kernel
theorem dX3_readGiven_75 : decode cX3_readGiven 75 = .ok (.iload_n 2, 1) := by decide +kernel
theorem dX3_readGiven_76 : decode cX3_readGiven 76 = .ok (.goto 13, 3) := by decide +kernel
theorem dX3_readGiven_79 : decode cX3_readGiven 79 = .ok (.bipush (-10), 2) := by decide +kernel
theorem dX3_readGiven_81 : decode cX3_readGiven 81 = .ok (.aload_n 0, 1) := by decide +kernel
theorem dX3_readGiven_82 : decode cX3_readGiven 82 = .ok (.getfield 26, 3) := by decide +kernel
theorem dX3_readGiven_85 : decode cX3_readGiven 85 = .ok (.invokevirtual 48, 3) := by decide +kernel
theorem dX3_readGiven_88 : decode cX3_readGiven 88 = .ok (.isub, 1) := by decide +kernel
theorem dX3_readGiven_89 : decode cX3_readGiven 89 = .ok (.ireturn, 1) := by decide +kernel
theorem dX3_readProof_0 : decode cX3_readProof 0 = .ok (.aload_n 0, 1) := by decide +kernel
theorem dX3_readProof_1 : decode cX3_readProof 1 = .ok (.getfield 26, 3) := by decide +kernel
theorem dX3_readProof_4 : decode cX3_readProof 4 = .ok (.aload_n 1, 1) := by decide +kernel
theorem dX3_readProof_5 : decode cX3_readProof 5 = .ok (.invokevirtual 32, 3) := by decide +kernel
theorem dX3_readProof_8 : decode cX3_readProof 8 = .ok (.iconst 0, 1) := by decide +kernel
theorem dX3_readProof_9 : decode cX3_readProof 9 = .ok (.istore_n 3, 1) := by decide +kernel
theorem dX3_readProof_10 : decode cX3_readProof 10 = .ok (.iload_n 3, 1) := by decide +kernel
theorem dX3_readProof_11 : decode cX3_readProof 11 = .ok (.bipush 24, 2) := by decide +kernel
theorem dX3_readProof_13 : decode cX3_readProof 13 = .ok (.if_icmp .ge 55, 3) := by decide +kernel
theorem dX3_readProof_16 : decode cX3_readProof 16 = .ok (.aload_n 0, 1) := by decide +kernel
theorem dX3_readProof_17 : decode cX3_readProof 17 = .ok (.getfield 26, 3) := by decide +kernel
theorem dX3_readProof_20 : decode cX3_readProof 20 = .ok (.invokevirtual 36, 3) := by decide +kernel
theorem dX3_readProof_23 : decode cX3_readProof 23 = .ok (.ifCond .eq 45, 3) := by decide +kernel
theorem dX3_readProof_26 : decode cX3_readProof 26 = .ok (.aload_n 0, 1) := by decide +kernel
theorem dX3_readProof_27 : decode cX3_readProof 27 = .ok (.aload_n 0, 1) := by decide +kernel
theorem dX3_readProof_28 : decode cX3_readProof 28 = .ok (.getfield 19, 3) := by decide +kernel
theorem dX3_readProof_31 : decode cX3_readProof 31 = .ok (.iload_n 3, 1) := by decide +kernel
theorem dX3_readProof_32 : decode cX3_readProof 32 = .ok (.aaload, 1) := by decide +kernel
theorem dX3_readProof_33 : decode cX3_readProof 33 = .ok (.iload_n 2, 1) := by decide +kernel
theorem dX3_readProof_34 : decode cX3_readProof 34 = .ok (.iload_n 3, 1) := by decide +kernel
theorem dX3_readProof_35 : decode cX3_readProof 35 = .ok (.iadd, 1) := by decide +kernel
theorem dX3_readProof_36 : decode cX3_readProof 36 = .ok (.invokevirtual 51, 3) := by decide +kernel
theorem dX3_readProof_39 : decode cX3_readProof 39 = .ok (.ifCond .eq 12, 3) := by decide +kernel
theorem dX3_readProof_42 : decode cX3_readProof 42 = .ok (.aload_n 0, 1) := by decide +kernel
theorem dX3_readProof_43 : decode cX3_readProof 43 = .ok (.bipush 6, 2) := by decide +kernel
theorem dX3_readProof_45 : decode cX3_readProof 45 = .ok (.invokevirtual 44, 3) := by decide +kernel
theorem dX3_readProof_48 : decode cX3_readProof 48 = .ok (.ifCond .ne 14, 3) := by decide +kernel
theorem dX3_readProof_51 : decode cX3_readProof 51 = .ok (.bipush (-10), 2) := by decide +kernel
theorem dX3_readProof_53 : decode cX3_readProof 53 = .ok (.aload_n 0, 1) := by decide +kernel
theorem dX3_readProof_54 : decode cX3_readProof 54 = .ok (.getfield 26, 3) := by decide +kernel
theorem dX3_readProof_57 : decode cX3_readProof 57 = .ok (.invokevirtual 48, 3) := by decide +kernel
theorem dX3_readProof_60 : decode cX3_readProof 60 = .ok (.isub, 1) := by decide +kernel
theorem dX3_readProof_61 : decode cX3_readProof 61 = .ok (.ireturn, 1) := by decide +kernel
theorem dX3_readProof_62 : decode cX3_readProof 62 = .ok (.iinc 3 1, 3) := by decide +kernel
theorem dX3_readProof_65 : decode cX3_readProof 65 = .ok (.goto (-55), 3) := by decide +kernel
theorem dX3_readProof_68 : decode cX3_readProof 68 = .ok (.aload_n 0, 1) := by decide +kernel
theorem dX3_readProof_69 : decode cX3_readProof 69 = .ok (.getfield 26, 3) := by decide +kernel
theorem dX3_readProof_72 : decode cX3_readProof 72 = .ok (.invokevirtual 36, 3) := by decide +kernel
theorem dX3_readProof_75 : decode cX3_readProof 75 = .ok (.ifCond .ne 7, 3) := by decide +kernel
theorem dX3_readProof_78 : decode cX3_readProof 78 = .ok (.iload_n 3, 1) := by decide +kernel
theorem dX3_readProof_79 : decode cX3_readProof 79 = .ok (.goto 13, 3) := by decide +kernel
theorem dX3_readProof_82 : decode cX3_readProof 82 = .ok (.bipush (-10), 2) := by decide +kernel
theorem dX3_readProof_84 : decode cX3_readProof 84 = .ok (.aload_n 0, 1) := by decide +kernel
theorem dX3_readProof_85 : decode cX3_readProof 85 = .ok (.getfield 26, 3) := by decide +kernel
theorem dX3_readProof_88 : decode cX3_readProof 88 = .ok (.invokevirtual 48, 3) := by decide +kernel
theorem dX3_readProof_91 : decode cX3_readProof 91 = .ok (.isub, 1) := by decide +kernel
theorem dX3_readProof_92 : decode cX3_readProof 92 = .ok (.ireturn, 1) := by decide +kernel
theorem dX3_take_0 : decode cX3_take 0 = .ok (.aload_n 0, 1) := by decide +kernel
theorem dX3_take_1 : decode cX3_take 1 = .ok (.getfield 26, 3) := by decide +kernel
theorem dX3_take_4 : decode cX3_take 4 = .ok (.invokevirtual 36, 3) := by decide +kernel
theorem dX3_take_7 : decode cX3_take 7 = .ok (.iload_n 1, 1) := by decide +kernel
theorem dX3_take_8 : decode cX3_take 8 = .ok (.if_icmp .eq 5, 3) := by decide +kernel
theorem dX3_take_11 : decode cX3_take 11 = .ok (.iconst 0, 1) := by decide +kernel
theorem dX3_take_12 : decode cX3_take 12 = .ok (.ireturn, 1) := by decide +kernel
theorem dX3_take_13 : decode cX3_take 13 = .ok (.aload_n 0, 1) := by decide +kernel
theorem dX3_take_14 : decode cX3_take 14 = .ok (.getfield 26, 3) := by decide +kernel
theorem dX3_take_17 : decode cX3_take 17 = .ok (.invokevirtual 55, 3) := by decide +kernel
theorem dX3_take_20 : decode cX3_take 20 = .ok (.iconst 1, 1) := by decide +kernel
theorem dX3_take_21 : decode cX3_take 21 = .ok (.ireturn, 1) := by decide +kernel
theorem dX3_takeLine_0 : decode cX3_takeLine 0 = .ok (.aload_n 1, 1) := by decide +kernel
theorem dX3_takeLine_1 : decode cX3_takeLine 1 = .ok (.invokevirtual 58, 3) := by decide +kernel
theorem dX3_takeLine_4 : decode cX3_takeLine 4 = .ok (.iconst 0, 1) := by decide +kernel
theorem dX3_takeLine_5 : decode cX3_takeLine 5 = .ok (.istore_n 2, 1) := by decide +kernel
theorem dX3_takeLine_6 : decode cX3_takeLine 6 = .ok (.iload_n 2, 1) := by decide +kernel
theorem dX3_takeLine_7 : decode cX3_takeLine 7 = .ok (.bipush 6, 2) := by decide +kernel
theorem dX3_takeLine_9 : decode cX3_takeLine 9 = .ok (.if_icmp .gt 30, 3) := by decide +kernel
theorem dX3_takeLine_12 : decode cX3_takeLine 12 = .ok (.aload_n 0, 1) := by decide +kernel
theorem dX3_takeLine_13 : decode cX3_takeLine 13 = .ok (.aload_n 1, 1) := by decide +kernel
theorem dX3_takeLine_14 : decode cX3_takeLine 14 = .ok (.invokevirtual 61, 3) := by decide +kernel
theorem dX3_takeLine_17 : decode cX3_takeLine 17 = .ok (.ifCond .ne 5, 3) := by decide +kernel
theorem dX3_takeLine_20 : decode cX3_takeLine 20 = .ok (.iconst 0, 1) := by decide +kernel
theorem dX3_takeLine_21 : decode cX3_takeLine 21 = .ok (.ireturn, 1) := by decide +kernel
theorem dX3_takeLine_22 : decode cX3_takeLine 22 = .ok (.aload_n 0, 1) := by decide +kernel
theorem dX3_takeLine_23 : decode cX3_takeLine 23 = .ok (.iconst 4, 1) := by decide +kernel
theorem dX3_takeLine_24 : decode cX3_takeLine 24 = .ok (.invokevirtual 44, 3) := by decide +kernel
theorem dX3_takeLine_27 : decode cX3_takeLine 27 = .ok (.ifCond .ne 6, 3) := by decide +kernel
theorem dX3_takeLine_30 : decode cX3_takeLine 30 = .ok (.goto 9, 3) := by decide +kernel
theorem dX3_takeLine_33 : decode cX3_takeLine 33 = .ok (.iinc 2 1, 3) := by decide +kernel
theorem dX3_takeLine_36 : decode cX3_takeLine 36 = .ok (.goto (-30), 3) := by decide +kernel
theorem dX3_takeLine_39 : decode cX3_takeLine 39 = .ok (.aload_n 0, 1) := by decide +kernel
theorem dX3_takeLine_40 : decode cX3_takeLine 40 = .ok (.iconst 3, 1) := by decide +kernel
theorem dX3_takeLine_41 : decode cX3_takeLine 41 = .ok (.invokevirtual 44, 3) := by decide +kernel
theorem dX3_takeLine_44 : decode cX3_takeLine 44 = .ok (.ifCond .ne 5, 3) := by decide +kernel
theorem dX3_takeLine_47 : decode cX3_takeLine 47 = .ok (.iconst 0, 1) := by decide +kernel
theorem dX3_takeLine_48 : decode cX3_takeLine 48 = .ok (.ireturn, 1) := by decide +kernel
theorem dX3_takeLine_49 : decode cX3_takeLine 49 = .ok (.aload_n 1, 1) := by decide +kernel
theorem dX3_takeLine_50 : decode cX3_takeLine 50 = .ok (.aload_n 0, 1) := by decide +kernel
theorem dX3_takeLine_51 : decode cX3_takeLine 51 = .ok (.getfield 26, 3) := by decide +kernel
theorem dX3_takeLine_54 : decode cX3_takeLine 54 = .ok (.invokevirtual 64, 3) := by decide +kernel
theorem dX3_takeLine_57 : decode cX3_takeLine 57 = .ok (.putfield 67, 3) := by decide +kernel
theorem dX3_takeLine_60 : decode cX3_takeLine 60 = .ok (.aload_n 0, 1) := by decide +kernel
theorem dX3_takeLine_61 : decode cX3_takeLine 61 = .ok (.iconst 0, 1) := by decide +kernel
theorem dX3_takeLine_62 : decode cX3_takeLine 62 = .ok (.sipush 999, 3) := by decide +kernel
theorem dX3_takeLine_65 : decode cX3_takeLine 65 = .ok (.invokevirtual 71, 3) := by decide +kernel
theorem dX3_takeLine_68 : decode cX3_takeLine 68 = .ok (.ireturn, 1) := by decide +kernel
theorem dX3_takeTerm_0 : decode cX3_takeTerm 0 = .ok (.iconst 1, 1) := by decide +kernel
theorem dX3_takeTerm_1 : decode cX3_takeTerm 1 = .ok (.istore_n 2, 1) := by decide +kernel
theorem dX3_takeTerm_2 : decode cX3_takeTerm 2 = .ok (.aload_n 0, 1) := by decide +kernel
theorem dX3_takeTerm_3 : decode cX3_takeTerm 3 = .ok (.getfield 26, 3) := by decide +kernel
theorem dX3_takeTerm_6 : decode cX3_takeTerm 6 = .ok (.invokevirtual 36, 3) := by decide +kernel
theorem dX3_takeTerm_9 : decode cX3_takeTerm 9 = .ok (.iconst 2, 1) := by decide +kernel
theorem dX3_takeTerm_10 : decode cX3_takeTerm 10 = .ok (.if_icmp .ne 23, 3) := by decide +kernel
theorem dX3_takeTerm_13 : decode cX3_takeTerm 13 = .ok (.aload_n 0, 1) := by decide +kernel
theorem dX3_takeTerm_14 : decode cX3_takeTerm 14 = .ok (.getfield 26, 3) := by decide +kernel
theorem dX3_takeTerm_17 : decode cX3_takeTerm 17 = .ok (.invokevirtual 64, 3) := by decide +kernel
theorem dX3_takeTerm_20 : decode cX3_takeTerm 20 = .ok (.istore_n 2, 1) := by decide +kernel
theorem dX3_takeTerm_21 : decode cX3_takeTerm 21 = .ok (.aload_n 0, 1) := by decide +kernel
theorem dX3_takeTerm_22 : decode cX3_takeTerm 22 = .ok (.iconst 1, 1) := by decide +kernel
theorem dX3_takeTerm_23 : decode cX3_takeTerm 23 = .ok (.bipush 99, 2) := by decide +kernel
theorem dX3_takeTerm_25 : decode cX3_takeTerm 25 = .ok (.invokevirtual 71, 3) := by decide +kernel
theorem dX3_takeTerm_28 : decode cX3_takeTerm 28 = .ok (.ifCond .ne 5, 3) := by decide +kernel
theorem dX3_takeTerm_31 : decode cX3_takeTerm 31 = .ok (.iconst 0, 1) := by decide +kernel
theorem dX3_takeTerm_32 : decode cX3_takeTerm 32 = .ok (.ireturn, 1) := by decide +kernel
theorem dX3_takeTerm_33 : decode cX3_takeTerm 33 = .ok (.aload_n 0, 1) := by decide +kernel
theorem dX3_takeTerm_34 : decode cX3_takeTerm 34 = .ok (.iconst 5, 1) := by decide +kernel
theorem dX3_takeTerm_35 : decode cX3_takeTerm 35 = .ok (.invokevirtual 44, 3) := by decide +kernel
theorem dX3_takeTerm_38 : decode cX3_takeTerm 38 = .ok (.ifCond .eq 6, 3) := by decide +kernel
theorem dX3_takeTerm_41 : decode cX3_takeTerm 41 = .ok (.iload_n 2, 1) := by decide +kernel
theorem dX3_takeTerm_42 : decode cX3_takeTerm 42 = .ok (.ineg, 1) := by decide +kernel
theorem dX3_takeTerm_43 : decode cX3_takeTerm 43 = .ok (.istore_n 2, 1) := by decide +kernel
theorem dX3_takeTerm_44 : decode cX3_takeTerm 44 = .ok (.aload_n 0, 1) := by decide +kernel
theorem dX3_takeTerm_45 : decode cX3_takeTerm 45 = .ok (.getfield 26, 3) := by decide +kernel
theorem dX3_takeTerm_48 : decode cX3_takeTerm 48 = .ok (.invokevirtual 64, 3) := by decide +kernel
theorem dX3_takeTerm_51 : decode cX3_takeTerm 51 = .ok (.istore_n 3, 1) := by decide +kernel
theorem dX3_takeTerm_52 : decode cX3_takeTerm 52 = .ok (.aload_n 0, 1) := by decide +kernel
theorem dX3_takeTerm_53 : decode cX3_takeTerm 53 = .ok (.getfield 26, 3) := by decide +kernel
theorem dX3_takeTerm_56 : decode cX3_takeTerm 56 = .ok (.invokevirtual 36, 3) := by decide +kernel
theorem dX3_takeTerm_59 : decode cX3_takeTerm 59 = .ok (.iconst 1, 1) := by decide +kernel
theorem dX3_takeTerm_60 : decode cX3_takeTerm 60 = .ok (.if_icmp .ne 22, 3) := by decide +kernel
theorem dX3_takeTerm_63 : decode cX3_takeTerm 63 = .ok (.iload_n 3, 1) := by decide +kernel
theorem dX3_takeTerm_64 : decode cX3_takeTerm 64 = .ok (.ifCond .lt 18, 3) := by decide +kernel
theorem dX3_takeTerm_67 : decode cX3_takeTerm 67 = .ok (.iload_n 3, 1) := by decide +kernel
theorem dX3_takeTerm_68 : decode cX3_takeTerm 68 = .ok (.bipush 6, 2) := by decide +kernel
theorem dX3_takeTerm_70 : decode cX3_takeTerm 70 = .ok (.if_icmp .ge 12, 3) := by decide +kernel
theorem dX3_takeTerm_73 : decode cX3_takeTerm 73 = .ok (.aload_n 1, 1) := by decide +kernel
theorem dX3_takeTerm_74 : decode cX3_takeTerm 74 = .ok (.getfield 75, 3) := by decide +kernel
theorem dX3_takeTerm_77 : decode cX3_takeTerm 77 = .ok (.iload_n 3, 1) := by decide +kernel
theorem dX3_takeTerm_78 : decode cX3_takeTerm 78 = .ok (.iaload, 1) := by decide +kernel
theorem dX3_takeTerm_79 : decode cX3_takeTerm 79 = .ok (.ifCond .eq 5, 3) := by decide +kernel
theorem dX3_takeTerm_82 : decode cX3_takeTerm 82 = .ok (.iconst 0, 1) := by decide +kernel
theorem dX3_takeTerm_83 : decode cX3_takeTerm 83 = .ok (.ireturn, 1) := by decide +kernel
theorem dX3_takeTerm_84 : decode cX3_takeTerm 84 = .ok (.aload_n 1, 1) := by decide +kernel
theorem dX3_takeTerm_85 : decode cX3_takeTerm 85 = .ok (.getfield 75, 3) := by decide +kernel
theorem dX3_takeTerm_88 : decode cX3_takeTerm 88 = .ok (.iload_n 3, 1) := by decide +kernel
theorem dX3_takeTerm_89 : decode cX3_takeTerm 89 = .ok (.iload_n 2, 1) := by decide +kernel
theorem dX3_takeTerm_90 : decode cX3_takeTerm 90 = .ok (.iastore, 1) := by decide +kernel
theorem dX3_takeTerm_91 : decode cX3_takeTerm 91 = .ok (.aload_n 0, 1) := by decide +kernel
theorem dX3_takeTerm_92 : decode cX3_takeTerm 92 = .ok (.getfield 26, 3) := by decide +kernel
theorem dX3_takeTerm_95 : decode cX3_takeTerm 95 = .ok (.invokevirtual 55, 3) := by decide +kernel
theorem dX3_takeTerm_98 : decode cX3_takeTerm 98 = .ok (.iconst 1, 1) := by decide +kernel
theorem dX3_takeTerm_99 : decode cX3_takeTerm 99 = .ok (.ireturn, 1) := by decide +kernel
theorem dX3_takeStepText_0 : decode cX3_takeStepText 0 = .ok (.aload_n 1, 1) := by decide +kernel
theorem dX3_takeStepText_1 : decode cX3_takeStepText 1 = .ok (.aload_n 0, 1) := by decide +kernel
theorem dX3_takeStepText_2 : decode cX3_takeStepText 2 = .ok (.getfield 26, 3) := by decide +kernel
theorem dX3_takeStepText_5 : decode cX3_takeStepText 5 = .ok (.invokevirtual 64, 3) := by decide +kernel
theorem dX3_takeStepText_8 : decode cX3_takeStepText 8 = .ok (.putfield 79, 3) := by decide +kernel
theorem dX3_takeStepText_11 : decode cX3_takeStepText 11 = .ok (.aload_n 0, 1) := by decide +kernel
theorem dX3_takeStepText_12 : decode cX3_takeStepText 12 = .ok (.bipush 7, 2) := by decide +kernel
theorem dX3_takeStepText_14 : decode cX3_takeStepText 14 = .ok (.invokevirtual 44, 3) := by decide +kernel
theorem dX3_takeStepText_17 : decode cX3_takeStepText 17 = .ok (.ifCond .ne 5, 3) := by decide +kernel
theorem dX3_takeStepText_20 : decode cX3_takeStepText 20 = .ok (.iconst 0, 1) := by decide +kernel
theorem dX3_takeStepText_21 : decode cX3_takeStepText 21 = .ok (.ireturn, 1) := by decide +kernel
theorem dX3_takeStepText_22 : decode cX3_takeStepText 22 = .ok (.aload_n 1, 1) := by decide +kernel
theorem dX3_takeStepText_23 : decode cX3_takeStepText 23 = .ok (.getfield 79, 3) := by decide +kernel
theorem dX3_takeStepText_26 : decode cX3_takeStepText 26 = .ok (.tableswitch 144 1 8 #[91, 118, 144, 61, 68, 55, 55, 46], 46) := by decide +kernel
theorem dX3_takeStepText_72 : decode cX3_takeStepText 72 = .ok (.aload_n 0, 1) := by decide +kernel
theorem dX3_takeStepText_73 : decode cX3_takeStepText 73 = .ok (.aload_n 1, 1) := by decide +kernel
theorem dX3_takeStepText_74 : decode cX3_takeStepText 74 = .ok (.getfield 81, 3) := by decide +kernel
theorem dX3_takeStepText_77 : decode cX3_takeStepText 77 = .ok (.invokevirtual 40, 3) := by decide +kernel
theorem dX3_takeStepText_80 : decode cX3_takeStepText 80 = .ok (.ireturn, 1) := by decide +kernel
theorem dX3_takeStepText_81 : decode cX3_takeStepText 81 = .ok (.aload_n 0, 1) := by decide +kernel
theorem dX3_takeStepText_82 : decode cX3_takeStepText 82 = .ok (.aload_n 1, 1) := by decide +kernel
theorem dX3_takeStepText_83 : decode cX3_takeStepText 83 = .ok (.invokevirtual 85, 3) := by decide +kernel
theorem dX3_takeStepText_86 : decode cX3_takeStepText 86 = .ok (.ireturn, 1) := by decide +kernel
theorem dX3_takeStepText_87 : decode cX3_takeStepText 87 = .ok (.aload_n 0, 1) := by decide +kernel
theorem dX3_takeStepText_88 : decode cX3_takeStepText 88 = .ok (.aload_n 1, 1) := by decide +kernel
theorem dX3_takeStepText_89 : decode cX3_takeStepText 89 = .ok (.iload_n 2, 1) := by decide +kernel
theorem dX3_takeStepText_90 : decode cX3_takeStepText 90 = .ok (.invokevirtual 89, 3) := by decide +kernel
theorem dX3_takeStepText_93 : decode cX3_takeStepText 93 = .ok (.ireturn, 1) := by decide +kernel
theorem dX3_takeStepText_94 : decode cX3_takeStepText 94 = .ok (.aload_n 0, 1) := by decide +kernel
theorem dX3_takeStepText_95 : decode cX3_takeStepText 95 = .ok (.aload_n 1, 1) := by decide +kernel
theorem dX3_takeStepText_96 : decode cX3_takeStepText 96 = .ok (.iload_n 2, 1) := by decide +kernel
theorem dX3_takeStepText_97 : decode cX3_takeStepText 97 = .ok (.invokevirtual 89, 3) := by decide +kernel
theorem dX3_takeStepText_100 : decode cX3_takeStepText 100 = .ok (.ifCond .eq 15, 3) := by decide +kernel
theorem dX3_takeStepText_103 : decode cX3_takeStepText 103 = .ok (.aload_n 0, 1) := by decide +kernel
theorem dX3_takeStepText_104 : decode cX3_takeStepText 104 = .ok (.aload_n 1, 1) := by decide +kernel
theorem dX3_takeStepText_105 : decode cX3_takeStepText 105 = .ok (.invokevirtual 85, 3) := by decide +kernel
theorem dX3_takeStepText_108 : decode cX3_takeStepText 108 = .ok (.ifCond .eq 7, 3) := by decide +kernel
theorem dX3_takeStepText_111 : decode cX3_takeStepText 111 = .ok (.iconst 1, 1) := by decide +kernel
theorem dX3_takeStepText_112 : decode cX3_takeStepText 112 = .ok (.goto 4, 3) := by decide +kernel
theorem dX3_takeStepText_115 : decode cX3_takeStepText 115 = .ok (.iconst 0, 1) := by decide +kernel
theorem dX3_takeStepText_116 : decode cX3_takeStepText 116 = .ok (.ireturn, 1) := by decide +kernel
theorem dX3_takeStepText_117 : decode cX3_takeStepText 117 = .ok (.aload_n 0, 1) := by decide +kernel
theorem dX3_takeStepText_118 : decode cX3_takeStepText 118 = .ok (.aload_n 1, 1) := by decide +kernel
theorem dX3_takeStepText_119 : decode cX3_takeStepText 119 = .ok (.iload_n 2, 1) := by decide +kernel
theorem dX3_takeStepText_120 : decode cX3_takeStepText 120 = .ok (.invokevirtual 89, 3) := by decide +kernel
theorem dX3_takeStepText_123 : decode cX3_takeStepText 123 = .ok (.ifCond .eq 19, 3) := by decide +kernel
theorem dX3_takeStepText_126 : decode cX3_takeStepText 126 = .ok (.aload_n 0, 1) := by decide +kernel
theorem dX3_takeStepText_127 : decode cX3_takeStepText 127 = .ok (.aload_n 1, 1) := by decide +kernel
theorem dX3_takeStepText_128 : decode cX3_takeStepText 128 = .ok (.iconst 0, 1) := by decide +kernel
theorem dX3_takeStepText_129 : decode cX3_takeStepText 129 = .ok (.iload_n 2, 1) := by decide +kernel
theorem dX3_takeStepText_130 : decode cX3_takeStepText 130 = .ok (.iconst 1, 1) := by decide +kernel
theorem dX3_takeStepText_131 : decode cX3_takeStepText 131 = .ok (.isub, 1) := by decide +kernel
theorem dX3_takeStepText_132 : decode cX3_takeStepText 132 = .ok (.invokevirtual 92, 3) := by decide +kernel
theorem dX3_takeStepText_135 : decode cX3_takeStepText 135 = .ok (.ifCond .eq 7, 3) := by decide +kernel
theorem dX3_takeStepText_138 : decode cX3_takeStepText 138 = .ok (.iconst 1, 1) := by decide +kernel
theorem dX3_takeStepText_139 : decode cX3_takeStepText 139 = .ok (.goto 4, 3) := by decide +kernel
theorem dX3_takeStepText_142 : decode cX3_takeStepText 142 = .ok (.iconst 0, 1) := by decide +kernel
theorem dX3_takeStepText_143 : decode cX3_takeStepText 143 = .ok (.ireturn, 1) := by decide +kernel
theorem dX3_takeStepText_144 : decode cX3_takeStepText 144 = .ok (.aload_n 0, 1) := by decide +kernel
theorem dX3_takeStepText_145 : decode cX3_takeStepText 145 = .ok (.aload_n 1, 1) := by decide +kernel
theorem dX3_takeStepText_146 : decode cX3_takeStepText 146 = .ok (.iload_n 2, 1) := by decide +kernel
theorem dX3_takeStepText_147 : decode cX3_takeStepText 147 = .ok (.invokevirtual 89, 3) := by decide +kernel
theorem dX3_takeStepText_150 : decode cX3_takeStepText 150 = .ok (.ifCond .eq 18, 3) := by decide +kernel
theorem dX3_takeStepText_153 : decode cX3_takeStepText 153 = .ok (.aload_n 0, 1) := by decide +kernel
theorem dX3_takeStepText_154 : decode cX3_takeStepText 154 = .ok (.aload_n 1, 1) := by decide +kernel
theorem dX3_takeStepText_155 : decode cX3_takeStepText 155 = .ok (.iconst 1, 1) := by decide +kernel
theorem dX3_takeStepText_156 : decode cX3_takeStepText 156 = .ok (.bipush 99, 2) := by decide +kernel
theorem dX3_takeStepText_158 : decode cX3_takeStepText 158 = .ok (.invokevirtual 92, 3) := by decide +kernel
theorem dX3_takeStepText_161 : decode cX3_takeStepText 161 = .ok (.ifCond .eq 7, 3) := by decide +kernel
theorem dX3_takeStepText_164 : decode cX3_takeStepText 164 = .ok (.iconst 1, 1) := by decide +kernel
theorem dX3_takeStepText_165 : decode cX3_takeStepText 165 = .ok (.goto 4, 3) := by decide +kernel
theorem dX3_takeStepText_168 : decode cX3_takeStepText 168 = .ok (.iconst 0, 1) := by decide +kernel
theorem dX3_takeStepText_169 : decode cX3_takeStepText 169 = .ok (.ireturn, 1) := by decide +kernel
theorem dX3_takeStepText_170 : decode cX3_takeStepText 170 = .ok (.aload_n 0, 1) := by decide +kernel
theorem dX3_takeStepText_171 : decode cX3_takeStepText 171 = .ok (.aload_n 1, 1) := by decide +kernel
theorem dX3_takeStepText_172 : decode cX3_takeStepText 172 = .ok (.iload_n 2, 1) := by decide +kernel
theorem dX3_takeStepText_173 : decode cX3_takeStepText 173 = .ok (.invokevirtual 89, 3) := by decide +kernel
theorem dX3_takeStepText_176 : decode cX3_takeStepText 176 = .ok (.ifCond .eq 18, 3) := by decide +kernel
theorem dX3_takeStepText_179 : decode cX3_takeStepText 179 = .ok (.aload_n 0, 1) := by decide +kernel
theorem dX3_takeStepText_180 : decode cX3_takeStepText 180 = .ok (.aload_n 1, 1) := by decide +kernel
theorem dX3_takeStepText_181 : decode cX3_takeStepText 181 = .ok (.iconst 2, 1) := by decide +kernel
theorem dX3_takeStepText_182 : decode cX3_takeStepText 182 = .ok (.bipush 99, 2) := by decide +kernel
theorem dX3_takeStepText_184 : decode cX3_takeStepText 184 = .ok (.invokevirtual 92, 3) := by decide +kernel
theorem dX3_takeStepText_187 : decode cX3_takeStepText 187 = .ok (.ifCond .eq 7, 3) := by decide +kernel
theorem dX3_takeStepText_190 : decode cX3_takeStepText 190 = .ok (.iconst 1, 1) := by decide +kernel
theorem dX3_takeStepText_191 : decode cX3_takeStepText 191 = .ok (.goto 4, 3) := by decide +kernel
theorem dX3_takeStepText_194 : decode cX3_takeStepText 194 = .ok (.iconst 0, 1) := by decide +kernel
theorem dX3_takeStepText_195 : decode cX3_takeStepText 195 = .ok (.ireturn, 1) := by decide +kernel
theorem dX3_takeFirst_0 : decode cX3_takeFirst 0 = .ok (.aload_n 1, 1) := by decide +kernel
theorem dX3_takeFirst_1 : decode cX3_takeFirst 1 = .ok (.aload_n 0, 1) := by decide +kernel
theorem dX3_takeFirst_2 : decode cX3_takeFirst 2 = .ok (.getfield 26, 3) := by decide +kernel
theorem dX3_takeFirst_5 : decode cX3_takeFirst 5 = .ok (.invokevirtual 64, 3) := by decide +kernel
theorem dX3_takeFirst_8 : decode cX3_takeFirst 8 = .ok (.putfield 96, 3) := by decide +kernel
theorem dX3_takeFirst_11 : decode cX3_takeFirst 11 = .ok (.aload_n 0, 1) := by decide +kernel
theorem dX3_takeFirst_12 : decode cX3_takeFirst 12 = .ok (.iconst 0, 1) := by decide +kernel
theorem dX3_takeFirst_13 : decode cX3_takeFirst 13 = .ok (.iload_n 2, 1) := by decide +kernel
theorem dX3_takeFirst_14 : decode cX3_takeFirst 14 = .ok (.iconst 1, 1) := by decide +kernel
theorem dX3_takeFirst_15 : decode cX3_takeFirst 15 = .ok (.isub, 1) := by decide +kernel
theorem dX3_takeFirst_16 : decode cX3_takeFirst 16 = .ok (.invokevirtual 71, 3) := by decide +kernel
theorem dX3_takeFirst_19 : decode cX3_takeFirst 19 = .ok (.ireturn, 1) := by decide +kernel
theorem dX3_takeSecond_0 : decode cX3_takeSecond 0 = .ok (.aload_n 1, 1) := by decide +kernel
theorem dX3_takeSecond_1 : decode cX3_takeSecond 1 = .ok (.aload_n 0, 1) := by decide +kernel
theorem dX3_takeSecond_2 : decode cX3_takeSecond 2 = .ok (.getfield 26, 3) := by decide +kernel
theorem dX3_takeSecond_5 : decode cX3_takeSecond 5 = .ok (.invokevirtual 64, 3) := by decide +kernel
theorem dX3_takeSecond_8 : decode cX3_takeSecond 8 = .ok (.putfield 99, 3) := by decide +kernel
theorem dX3_takeSecond_11 : decode cX3_takeSecond 11 = .ok (.aload_n 0, 1) := by decide +kernel
theorem dX3_takeSecond_12 : decode cX3_takeSecond 12 = .ok (.iload_n 2, 1) := by decide +kernel
theorem dX3_takeSecond_13 : decode cX3_takeSecond 13 = .ok (.iload_n 3, 1) := by decide +kernel
theorem dX3_takeSecond_14 : decode cX3_takeSecond 14 = .ok (.invokevirtual 71, 3) := by decide +kernel
theorem dX3_takeSecond_17 : decode cX3_takeSecond 17 = .ok (.ireturn, 1) := by decide +kernel
theorem dX3_takeLetter_0 : decode cX3_takeLetter 0 = .ok (.aload_n 1, 1) := by decide +kernel
theorem dX3_takeLetter_1 : decode cX3_takeLetter 1 = .ok (.aload_n 0, 1) := by decide +kernel
theorem dX3_takeLetter_2 : decode cX3_takeLetter 2 = .ok (.getfield 26, 3) := by decide +kernel
theorem dX3_takeLetter_5 : decode cX3_takeLetter 5 = .ok (.invokevirtual 64, 3) := by decide +kernel
theorem dX3_takeLetter_8 : decode cX3_takeLetter 8 = .ok (.putfield 99, 3) := by decide +kernel
theorem dX3_takeLetter_11 : decode cX3_takeLetter 11 = .ok (.aload_n 0, 1) := by decide +kernel
theorem dX3_takeLetter_12 : decode cX3_takeLetter 12 = .ok (.iconst 1, 1) := by decide +kernel
theorem dX3_takeLetter_13 : decode cX3_takeLetter 13 = .ok (.invokevirtual 44, 3) := by decide +kernel
theorem dX3_takeLetter_16 : decode cX3_takeLetter 16 = .ok (.ireturn, 1) := by decide +kernel
theorem dX3_takeNumberWithin_0 : decode cX3_takeNumberWithin 0 = .ok (.aload_n 0, 1) := by decide +kernel
theorem dX3_takeNumberWithin_1 : decode cX3_takeNumberWithin 1 = .ok (.getfield 26, 3) := by decide +kernel
theorem dX3_takeNumberWithin_4 : decode cX3_takeNumberWithin 4 = .ok (.invokevirtual 36, 3) := by decide +kernel
theorem dX3_takeNumberWithin_7 : decode cX3_takeNumberWithin 7 = .ok (.iconst 2, 1) := by decide +kernel
theorem dX3_takeNumberWithin_8 : decode cX3_takeNumberWithin 8 = .ok (.if_icmp .ne 25, 3) := by decide +kernel
theorem dX3_takeNumberWithin_11 : decode cX3_takeNumberWithin 11 = .ok (.aload_n 0, 1) := by decide +kernel
theorem dX3_takeNumberWithin_12 : decode cX3_takeNumberWithin 12 = .ok (.getfield 26, 3) := by decide +kernel
theorem dX3_takeNumberWithin_15 : decode cX3_takeNumberWithin 15 = .ok (.invokevirtual 64, 3) := by decide +kernel
theorem dX3_takeNumberWithin_18 : decode cX3_takeNumberWithin 18 = .ok (.iload_n 1, 1) := by decide +kernel
theorem dX3_takeNumberWithin_19 : decode cX3_takeNumberWithin 19 = .ok (.if_icmp .lt 14, 3) := by decide +kernel
theorem dX3_takeNumberWithin_22 : decode cX3_takeNumberWithin 22 = .ok (.aload_n 0, 1) := by decide +kernel
theorem dX3_takeNumberWithin_23 : decode cX3_takeNumberWithin 23 = .ok (.getfield 26, 3) := by decide +kernel
theorem dX3_takeNumberWithin_26 : decode cX3_takeNumberWithin 26 = .ok (.invokevirtual 64, 3) := by decide +kernel
theorem dX3_takeNumberWithin_29 : decode cX3_takeNumberWithin 29 = .ok (.iload_n 2, 1) := by decide +kernel
theorem dX3_takeNumberWithin_30 : decode cX3_takeNumberWithin 30 = .ok (.if_icmp .le 5, 3) := by decide +kernel
theorem dX3_takeNumberWithin_33 : decode cX3_takeNumberWithin 33 = .ok (.iconst 0, 1) := by decide +kernel
theorem dX3_takeNumberWithin_34 : decode cX3_takeNumberWithin 34 = .ok (.ireturn, 1) := by decide +kernel
theorem dX3_takeNumberWithin_35 : decode cX3_takeNumberWithin 35 = .ok (.aload_n 0, 1) := by decide +kernel
theorem dX3_takeNumberWithin_36 : decode cX3_takeNumberWithin 36 = .ok (.getfield 26, 3) := by decide +kernel
theorem dX3_takeNumberWithin_39 : decode cX3_takeNumberWithin 39 = .ok (.invokevirtual 55, 3) := by decide +kernel
theorem dX3_takeNumberWithin_42 : decode cX3_takeNumberWithin 42 = .ok (.iconst 1, 1) := by decide +kernel
theorem dX3_takeNumberWithin_43 : decode cX3_takeNumberWithin 43 = .ok (.ireturn, 1) := by decide +kernel
theorem dX4_init_0 : decode cX4_init 0 = .ok (.aload_n 0, 1) := by decide +kernel
theorem dX4_init_1 : decode cX4_init 1 = .ok (.invokespecial 1, 3) := by decide +kernel
theorem dX4_init_4 : decode cX4_init 4 = .ok (.aload_n 0, 1) := by decide +kernel
theorem dX4_init_5 : decode cX4_init 5 = .ok (.new 7, 3) := by decide +kernel
theorem dX4_init_8 : decode cX4_init 8 = .ok (.dup, 1) := by decide +kernel
theorem dX4_init_9 : decode cX4_init 9 = .ok (.invokespecial 9, 3) := by decide +kernel
theorem dX4_init_12 : decode cX4_init 12 = .ok (.putfield 10, 3) := by decide +kernel
theorem dX4_init_15 : decode cX4_init 15 = .ok (.return_, 1) := by decide +kernel
theorem dX5_init_0 : decode cX5_init 0 = .ok (.aload_n 0, 1) := by decide +kernel
theorem dX5_init_1 : decode cX5_init 1 = .ok (.invokespecial 3, 3) := by decide +kernel
theorem dX5_init_4 : decode cX5_init 4 = .ok (.aload_n 0, 1) := by decide +kernel
theorem dX5_init_5 : decode cX5_init 5 = .ok (.sipush 400, 3) := by decide +kernel
theorem dX5_init_8 : decode cX5_init 8 = .ok (.newarray .byte, 2) := by decide +kernel
theorem dX5_init_10 : decode cX5_init 10 = .ok (.putfield 9, 3) := by decide +kernel
theorem dX5_init_13 : decode cX5_init 13 = .ok (.return_, 1) := by decide +kernel
theorem dX5_put_0 : decode cX5_put 0 = .ok (.aload_n 0, 1) := by decide +kernel
theorem dX5_put_1 : decode cX5_put 1 = .ok (.getfield 15, 3) := by decide +kernel
theorem dX5_put_4 : decode cX5_put 4 = .ok (.sipush 400, 3) := by decide +kernel
theorem dX5_put_7 : decode cX5_put 7 = .ok (.if_icmp .ge 24, 3) := by decide +kernel
theorem dX5_put_10 : decode cX5_put 10 = .ok (.aload_n 0, 1) := by decide +kernel
theorem dX5_put_11 : decode cX5_put 11 = .ok (.getfield 9, 3) := by decide +kernel
theorem dX5_put_14 : decode cX5_put 14 = .ok (.aload_n 0, 1) := by decide +kernel
theorem dX5_put_15 : decode cX5_put 15 = .ok (.getfield 15, 3) := by decide +kernel
theorem dX5_put_18 : decode cX5_put 18 = .ok (.iload_n 1, 1) := by decide +kernel
theorem dX5_put_19 : decode cX5_put 19 = .ok (.i2b, 1) := by decide +kernel
theorem dX5_put_20 : decode cX5_put 20 = .ok (.bastore, 1) := by decide +kernel
theorem dX5_put_21 : decode cX5_put 21 = .ok (.aload_n 0, 1) := by decide +kernel
theorem dX5_put_22 : decode cX5_put 22 = .ok (.dup, 1) := by decide +kernel
theorem dX5_put_23 : decode cX5_put 23 = .ok (.getfield 15, 3) := by decide +kernel
theorem dX5_put_26 : decode cX5_put 26 = .ok (.iconst 1, 1) := by decide +kernel
theorem dX5_put_27 : decode cX5_put 27 = .ok (.iadd, 1) := by decide +kernel
theorem dX5_put_28 : decode cX5_put 28 = .ok (.putfield 15, 3) := by decide +kernel
theorem dX5_put_31 : decode cX5_put 31 = .ok (.return_, 1) := by decide +kernel
theorem dX5_empty_0 : decode cX5_empty 0 = .ok (.aload_n 0, 1) := by decide +kernel
theorem dX5_empty_1 : decode cX5_empty 1 = .ok (.getfield 15, 3) := by decide +kernel
theorem dX5_empty_4 : decode cX5_empty 4 = .ok (.istore_n 1, 1) := by decide +kernel
theorem dX5_empty_5 : decode cX5_empty 5 = .ok (.aload_n 0, 1) := by decide +kernel
theorem dX5_empty_6 : decode cX5_empty 6 = .ok (.iconst 0, 1) := by decide +kernel
theorem dX5_empty_7 : decode cX5_empty 7 = .ok (.putfield 15, 3) := by decide +kernel
theorem dX5_empty_10 : decode cX5_empty 10 = .ok (.iload_n 1, 1) := by decide +kernel
theorem dX5_empty_11 : decode cX5_empty 11 = .ok (.ireturn, 1) := by decide +kernel
theorem dX5_at_0 : decode cX5_at 0 = .ok (.iload_n 1, 1) := by decide +kernel
theorem dX5_at_1 : decode cX5_at 1 = .ok (.ifCond .lt 31, 3) := by decide +kernel
theorem dX5_at_4 : decode cX5_at 4 = .ok (.iload_n 1, 1) := by decide +kernel
theorem dX5_at_5 : decode cX5_at 5 = .ok (.aload_n 0, 1) := by decide +kernel
theorem dX5_at_6 : decode cX5_at 6 = .ok (.getfield 15, 3) := by decide +kernel
theorem dX5_at_9 : decode cX5_at 9 = .ok (.if_icmp .ge 23, 3) := by decide +kernel
theorem dX5_at_12 : decode cX5_at 12 = .ok (.iload_n 1, 1) := by decide +kernel
theorem dX5_at_13 : decode cX5_at 13 = .ok (.sipush 400, 3) := by decide +kernel
theorem dX5_at_16 : decode cX5_at 16 = .ok (.if_icmp .ge 16, 3) := by decide +kernel
theorem dX5_at_19 : decode cX5_at 19 = .ok (.aload_n 0, 1) := by decide +kernel
theorem dX5_at_20 : decode cX5_at 20 = .ok (.getfield 9, 3) := by decide +kernel
theorem dX5_at_23 : decode cX5_at 23 = .ok (.iload_n 1, 1) := by decide +kernel
theorem dX5_at_24 : decode cX5_at 24 = .ok (.baload, 1) := by decide +kernel
theorem dX5_at_25 : decode cX5_at 25 = .ok (.sipush 255, 3) := by decide +kernel
theorem dX5_at_28 : decode cX5_at 28 = .ok (.iand, 1) := by decide +kernel
theorem dX5_at_29 : decode cX5_at 29 = .ok (.goto 4, 3) := by decide +kernel
theorem dX5_at_32 : decode cX5_at 32 = .ok (.iconst (-1), 1) := by decide +kernel
theorem dX5_at_33 : decode cX5_at 33 = .ok (.ireturn, 1) := by decide +kernel
theorem dX5_spells_0 : decode cX5_spells 0 = .ok (.iload_n 2, 1) := by decide +kernel
theorem dX5_spells_1 : decode cX5_spells 1 = .ok (.iload_n 1, 1) := by decide +kernel
theorem dX5_spells_2 : decode cX5_spells 2 = .ok (.isub, 1) := by decide +kernel
theorem dX5_spells_3 : decode cX5_spells 3 = .ok (.aload_n 3, 1) := by decide +kernel
theorem dX5_spells_4 : decode cX5_spells 4 = .ok (.invokevirtual 19, 3) := by decide +kernel
theorem dX5_spells_7 : decode cX5_spells 7 = .ok (.if_icmp .eq 5, 3) := by decide +kernel
theorem dX5_spells_10 : decode cX5_spells 10 = .ok (.iconst 0, 1) := by decide +kernel
theorem dX5_spells_11 : decode cX5_spells 11 = .ok (.ireturn, 1) := by decide +kernel
theorem dX5_spells_12 : decode cX5_spells 12 = .ok (.iconst 0, 1) := by decide +kernel
theorem dX5_spells_13 : decode cX5_spells 13 = .ok (.istore 4, 2) := by decide +kernel
theorem dX5_spells_15 : decode cX5_spells 15 = .ok (.iload 4, 2) := by decide +kernel
theorem dX5_spells_17 : decode cX5_spells 17 = .ok (.aload_n 3, 1) := by decide +kernel
theorem dX5_spells_18 : decode cX5_spells 18 = .ok (.invokevirtual 19, 3) := by decide +kernel
theorem dX5_spells_21 : decode cX5_spells 21 = .ok (.if_icmp .ge 28, 3) := by decide +kernel
theorem dX5_spells_24 : decode cX5_spells 24 = .ok (.aload_n 0, 1) := by decide +kernel
theorem dX5_spells_25 : decode cX5_spells 25 = .ok (.iload_n 1, 1) := by decide +kernel
theorem dX5_spells_26 : decode cX5_spells 26 = .ok (.iload 4, 2) := by decide +kernel
theorem dX5_spells_28 : decode cX5_spells 28 = .ok (.iadd, 1) := by decide +kernel
theorem dX5_spells_29 : decode cX5_spells 29 = .ok (.invokevirtual 24, 3) := by decide +kernel
theorem dX5_spells_32 : decode cX5_spells 32 = .ok (.aload_n 3, 1) := by decide +kernel
theorem dX5_spells_33 : decode cX5_spells 33 = .ok (.iload 4, 2) := by decide +kernel
theorem dX5_spells_35 : decode cX5_spells 35 = .ok (.invokevirtual 28, 3) := by decide +kernel
theorem dX5_spells_38 : decode cX5_spells 38 = .ok (.if_icmp .eq 5, 3) := by decide +kernel
theorem dX5_spells_41 : decode cX5_spells 41 = .ok (.iconst 0, 1) := by decide +kernel
theorem dX5_spells_42 : decode cX5_spells 42 = .ok (.ireturn, 1) := by decide +kernel
theorem dX5_spells_43 : decode cX5_spells 43 = .ok (.iinc 4 1, 3) := by decide +kernel
theorem dX5_spells_46 : decode cX5_spells 46 = .ok (.goto (-31), 3) := by decide +kernel
theorem dX5_spells_49 : decode cX5_spells 49 = .ok (.iconst 1, 1) := by decide +kernel
theorem dX5_spells_50 : decode cX5_spells 50 = .ok (.ireturn, 1) := by decide +kernel
theorem dX6_init_0 : decode cX6_init 0 = .ok (.aload_n 0, 1) := by decide +kernel
theorem dX6_init_1 : decode cX6_init 1 = .ok (.invokespecial 3, 3) := by decide +kernel
theorem dX6_init_4 : decode cX6_init 4 = .ok (.aload_n 0, 1) := by decide +kernel
theorem dX6_init_5 : decode cX6_init 5 = .ok (.sipush 401, 3) := by decide +kernel
theorem dX6_init_8 : decode cX6_init 8 = .ok (.newarray .int, 2) := by decide +kernel
theorem dX6_init_10 : decode cX6_init 10 = .ok (.putfield 9, 3) := by decide +kernel
theorem dX6_init_13 : decode cX6_init 13 = .ok (.aload_n 0, 1) := by decide +kernel
theorem dX6_init_14 : decode cX6_init 14 = .ok (.sipush 401, 3) := by decide +kernel
theorem dX6_init_17 : decode cX6_init 17 = .ok (.newarray .int, 2) := by decide +kernel
theorem dX6_init_19 : decode cX6_init 19 = .ok (.putfield 15, 3) := by decide +kernel
theorem dX6_init_22 : decode cX6_init 22 = .ok (.aload_n 0, 1) := by decide +kernel
theorem dX6_init_23 : decode cX6_init 23 = .ok (.sipush 401, 3) := by decide +kernel
theorem dX6_init_26 : decode cX6_init 26 = .ok (.newarray .int, 2) := by decide +kernel
theorem dX6_init_28 : decode cX6_init 28 = .ok (.putfield 18, 3) := by decide +kernel
theorem dX6_init_31 : decode cX6_init 31 = .ok (.return_, 1) := by decide +kernel
theorem dX6_kind_0 : decode cX6_kind 0 = .ok (.aload_n 0, 1) := by decide +kernel
theorem dX6_kind_1 : decode cX6_kind 1 = .ok (.getfield 9, 3) := by decide +kernel
theorem dX6_kind_4 : decode cX6_kind 4 = .ok (.aload_n 0, 1) := by decide +kernel
theorem dX6_kind_5 : decode cX6_kind 5 = .ok (.getfield 21, 3) := by decide +kernel
theorem dX6_kind_8 : decode cX6_kind 8 = .ok (.iaload, 1) := by decide +kernel
theorem dX6_kind_9 : decode cX6_kind 9 = .ok (.ireturn, 1) := by decide +kernel
theorem dX6_value_0 : decode cX6_value 0 = .ok (.aload_n 0, 1) := by decide +kernel
theorem dX6_value_1 : decode cX6_value 1 = .ok (.getfield 15, 3) := by decide +kernel
theorem dX6_value_4 : decode cX6_value 4 = .ok (.aload_n 0, 1) := by decide +kernel
theorem dX6_value_5 : decode cX6_value 5 = .ok (.getfield 21, 3) := by decide +kernel
theorem dX6_value_8 : decode cX6_value 8 = .ok (.iaload, 1) := by decide +kernel
theorem dX6_value_9 : decode cX6_value 9 = .ok (.ireturn, 1) := by decide +kernel
theorem dX6_place_0 : decode cX6_place 0 = .ok (.aload_n 0, 1) := by decide +kernel
theorem dX6_place_1 : decode cX6_place 1 = .ok (.getfield 18, 3) := by decide +kernel
theorem dX6_place_4 : decode cX6_place 4 = .ok (.aload_n 0, 1) := by decide +kernel
theorem dX6_place_5 : decode cX6_place 5 = .ok (.getfield 21, 3) := by decide +kernel
theorem dX6_place_8 : decode cX6_place 8 = .ok (.iaload, 1) := by decide +kernel
theorem dX6_place_9 : decode cX6_place 9 = .ok (.ireturn, 1) := by decide +kernel
theorem dX6_goOn_0 : decode cX6_goOn 0 = .ok (.aload_n 0, 1) := by decide +kernel
theorem dX6_goOn_1 : decode cX6_goOn 1 = .ok (.getfield 21, 3) := by decide +kernel
theorem dX6_goOn_4 : decode cX6_goOn 4 = .ok (.aload_n 0, 1) := by decide +kernel
theorem dX6_goOn_5 : decode cX6_goOn 5 = .ok (.getfield 25, 3) := by decide +kernel
theorem dX6_goOn_8 : decode cX6_goOn 8 = .ok (.iconst 1, 1) := by decide +kernel
theorem dX6_goOn_9 : decode cX6_goOn 9 = .ok (.isub, 1) := by decide +kernel
theorem dX6_goOn_10 : decode cX6_goOn 10 = .ok (.if_icmp .ge 13, 3) := by decide +kernel
theorem dX6_goOn_13 : decode cX6_goOn 13 = .ok (.aload_n 0, 1) := by decide +kernel
theorem dX6_goOn_14 : decode cX6_goOn 14 = .ok (.dup, 1) := by decide +kernel
theorem dX6_goOn_15 : decode cX6_goOn 15 = .ok (.getfield 21, 3) := by decide +kernel
theorem dX6_goOn_18 : decode cX6_goOn 18 = .ok (.iconst 1, 1) := by decide +kernel
theorem dX6_goOn_19 : decode cX6_goOn 19 = .ok (.iadd, 1) := by decide +kernel
theorem dX6_goOn_20 : decode cX6_goOn 20 = .ok (.putfield 21, 3) := by decide +kernel
theorem dX6_goOn_23 : decode cX6_goOn 23 = .ok (.return_, 1) := by decide +kernel
theorem dX6_split_0 : decode cX6_split 0 = .ok (.aload_n 0, 1) := by decide +kernel
theorem dX6_split_1 : decode cX6_split 1 = .ok (.iconst 0, 1) := by decide +kernel
theorem dX6_split_2 : decode cX6_split 2 = .ok (.putfield 21, 3) := by decide +kernel
theorem dX6_split_5 : decode cX6_split 5 = .ok (.aload_n 0, 1) := by decide +kernel
theorem dX6_split_6 : decode cX6_split 6 = .ok (.iconst 0, 1) := by decide +kernel
theorem dX6_split_7 : decode cX6_split 7 = .ok (.putfield 25, 3) := by decide +kernel
theorem dX6_split_10 : decode cX6_split 10 = .ok (.iconst 0, 1) := by decide +kernel
theorem dX6_split_11 : decode cX6_split 11 = .ok (.istore_n 2, 1) := by decide +kernel
theorem dX6_split_12 : decode cX6_split 12 = .ok (.iconst 0, 1) := by decide +kernel
theorem dX6_split_13 : decode cX6_split 13 = .ok (.istore_n 3, 1) := by decide +kernel
theorem dX6_split_14 : decode cX6_split 14 = .ok (.iload_n 3, 1) := by decide +kernel
theorem dX6_split_15 : decode cX6_split 15 = .ok (.sipush 400, 3) := by decide +kernel
theorem dX6_split_18 : decode cX6_split 18 = .ok (.if_icmp .ge 80, 3) := by decide +kernel
theorem dX6_split_21 : decode cX6_split 21 = .ok (.iload_n 2, 1) := by decide +kernel
theorem dX6_split_22 : decode cX6_split 22 = .ok (.aload_n 1, 1) := by decide +kernel
theorem dX6_split_23 : decode cX6_split 23 = .ok (.getfield 28, 3) := by decide +kernel
theorem dX6_split_26 : decode cX6_split 26 = .ok (.if_icmp .ge 72, 3) := by decide +kernel
theorem dX6_split_29 : decode cX6_split 29 = .ok (.aload_n 1, 1) := by decide +kernel
theorem dX6_split_30 : decode cX6_split 30 = .ok (.iload_n 2, 1) := by decide +kernel
theorem dX6_split_31 : decode cX6_split 31 = .ok (.invokevirtual 33, 3) := by decide +kernel
theorem dX6_split_34 : decode cX6_split 34 = .ok (.istore 4, 2) := by decide +kernel
theorem dX6_split_36 : decode cX6_split 36 = .ok (.iload 4, 2) := by decide +kernel
theorem dX6_split_38 : decode cX6_split 38 = .ok (.invokestatic 37, 3) := by decide +kernel
theorem dX6_split_41 : decode cX6_split 41 = .ok (.ifCond .eq 13, 3) := by decide +kernel
theorem dX6_split_44 : decode cX6_split 44 = .ok (.aload_n 0, 1) := by decide +kernel
theorem dX6_split_45 : decode cX6_split 45 = .ok (.aload_n 1, 1) := by decide +kernel
theorem dX6_split_46 : decode cX6_split 46 = .ok (.iload_n 2, 1) := by decide +kernel
theorem dX6_split_47 : decode cX6_split 47 = .ok (.invokevirtual 41, 3) := by decide +kernel
theorem dX6_split_50 : decode cX6_split 50 = .ok (.istore_n 2, 1) := by decide +kernel
theorem dX6_split_51 : decode cX6_split 51 = .ok (.goto 41, 3) := by decide +kernel
theorem dX6_split_54 : decode cX6_split 54 = .ok (.iload 4, 2) := by decide +kernel
theorem dX6_split_56 : decode cX6_split 56 = .ok (.invokestatic 45, 3) := by decide +kernel
theorem dX6_split_59 : decode cX6_split 59 = .ok (.ifCond .eq 13, 3) := by decide +kernel
theorem dX6_split_62 : decode cX6_split 62 = .ok (.aload_n 0, 1) := by decide +kernel
theorem dX6_split_63 : decode cX6_split 63 = .ok (.aload_n 1, 1) := by decide +kernel
theorem dX6_split_64 : decode cX6_split 64 = .ok (.iload_n 2, 1) := by decide +kernel
theorem dX6_split_65 : decode cX6_split 65 = .ok (.invokevirtual 48, 3) := by decide +kernel
theorem dX6_split_68 : decode cX6_split 68 = .ok (.istore_n 2, 1) := by decide +kernel
theorem dX6_split_69 : decode cX6_split 69 = .ok (.goto 23, 3) := by decide +kernel
theorem dX6_split_72 : decode cX6_split 72 = .ok (.iload 4, 2) := by decide +kernel
theorem dX6_split_74 : decode cX6_split 74 = .ok (.bipush 32, 2) := by decide +kernel
theorem dX6_split_76 : decode cX6_split 76 = .ok (.if_icmp .ne 9, 3) := by decide +kernel
theorem dX6_split_79 : decode cX6_split 79 = .ok (.iinc 2 1, 3) := by decide +kernel
theorem dX6_split_82 : decode cX6_split 82 = .ok (.goto 10, 3) := by decide +kernel
theorem dX6_split_85 : decode cX6_split 85 = .ok (.aload_n 0, 1) := by decide +kernel
theorem dX6_split_86 : decode cX6_split 86 = .ok (.aload_n 1, 1) := by decide +kernel
theorem dX6_split_87 : decode cX6_split 87 = .ok (.iload_n 2, 1) := by decide +kernel
theorem dX6_split_88 : decode cX6_split 88 = .ok (.invokevirtual 51, 3) := by decide +kernel
theorem dX6_split_91 : decode cX6_split 91 = .ok (.istore_n 2, 1) := by decide +kernel
theorem dX6_split_92 : decode cX6_split 92 = .ok (.iinc 3 1, 3) := by decide +kernel
theorem dX6_split_95 : decode cX6_split 95 = .ok (.goto (-81), 3) := by decide +kernel
theorem dX6_split_98 : decode cX6_split 98 = .ok (.aload_n 0, 1) := by decide +kernel
theorem dX6_split_99 : decode cX6_split 99 = .ok (.iconst 0, 1) := by decide +kernel
theorem dX6_split_100 : decode cX6_split 100 = .ok (.iconst 0, 1) := by decide +kernel
theorem dX6_split_101 : decode cX6_split 101 = .ok (.aload_n 1, 1) := by decide +kernel
theorem dX6_split_102 : decode cX6_split 102 = .ok (.getfield 28, 3) := by decide +kernel
theorem dX6_split_105 : decode cX6_split 105 = .ok (.invokevirtual 54, 3) := by decide +kernel
theorem dX6_split_108 : decode cX6_split 108 = .ok (.return_, 1) := by decide +kernel
theorem dX6_put_0 : decode cX6_put 0 = .ok (.aload_n 0, 1) := by decide +kernel
theorem dX6_put_1 : decode cX6_put 1 = .ok (.getfield 25, 3) := by decide +kernel
theorem dX6_put_4 : decode cX6_put 4 = .ok (.aload_n 0, 1) := by decide +kernel
theorem dX6_put_5 : decode cX6_put 5 = .ok (.getfield 9, 3) := by decide +kernel
theorem dX6_put_8 : decode cX6_put 8 = .ok (.arraylength, 1) := by decide +kernel
theorem dX6_put_9 : decode cX6_put 9 = .ok (.if_icmp .ge 43, 3) := by decide +kernel
theorem dX6_put_12 : decode cX6_put 12 = .ok (.aload_n 0, 1) := by decide +kernel
theorem dX6_put_13 : decode cX6_put 13 = .ok (.getfield 9, 3) := by decide +kernel
theorem dX6_put_16 : decode cX6_put 16 = .ok (.aload_n 0, 1) := by decide +kernel
theorem dX6_put_17 : decode cX6_put 17 = .ok (.getfield 25, 3) := by decide +kernel
theorem dX6_put_20 : decode cX6_put 20 = .ok (.iload_n 1, 1) := by decide +kernel
theorem dX6_put_21 : decode cX6_put 21 = .ok (.iastore, 1) := by decide +kernel
theorem dX6_put_22 : decode cX6_put 22 = .ok (.aload_n 0, 1) := by decide +kernel
theorem dX6_put_23 : decode cX6_put 23 = .ok (.getfield 15, 3) := by decide +kernel
theorem dX6_put_26 : decode cX6_put 26 = .ok (.aload_n 0, 1) := by decide +kernel
theorem dX6_put_27 : decode cX6_put 27 = .ok (.getfield 25, 3) := by decide +kernel
theorem dX6_put_30 : decode cX6_put 30 = .ok (.iload_n 2, 1) := by decide +kernel
theorem dX6_put_31 : decode cX6_put 31 = .ok (.iastore, 1) := by decide +kernel
theorem dX6_put_32 : decode cX6_put 32 = .ok (.aload_n 0, 1) := by decide +kernel
theorem dX6_put_33 : decode cX6_put 33 = .ok (.getfield 18, 3) := by decide +kernel
theorem dX6_put_36 : decode cX6_put 36 = .ok (.aload_n 0, 1) := by decide +kernel
theorem dX6_put_37 : decode cX6_put 37 = .ok (.getfield 25, 3) := by decide +kernel
theorem dX6_put_40 : decode cX6_put 40 = .ok (.iload_n 3, 1) := by decide +kernel
theorem dX6_put_41 : decode cX6_put 41 = .ok (.iastore, 1) := by decide +kernel
theorem dX6_put_42 : decode cX6_put 42 = .ok (.aload_n 0, 1) := by decide +kernel
theorem dX6_put_43 : decode cX6_put 43 = .ok (.dup, 1) := by decide +kernel
theorem dX6_put_44 : decode cX6_put 44 = .ok (.getfield 25, 3) := by decide +kernel
theorem dX6_put_47 : decode cX6_put 47 = .ok (.iconst 1, 1) := by decide +kernel
theorem dX6_put_48 : decode cX6_put 48 = .ok (.iadd, 1) := by decide +kernel
theorem dX6_put_49 : decode cX6_put 49 = .ok (.putfield 25, 3) := by decide +kernel
theorem dX6_put_52 : decode cX6_put 52 = .ok (.return_, 1) := by decide +kernel
theorem dX6_putWord_0 : decode cX6_putWord 0 = .ok (.iload_n 2, 1) := by decide +kernel
theorem dX6_putWord_1 : decode cX6_putWord 1 = .ok (.iconst 1, 1) := by decide +kernel
theorem dX6_putWord_2 : decode cX6_putWord 2 = .ok (.iadd, 1) := by decide +kernel
theorem dX6_putWord_3 : decode cX6_putWord 3 = .ok (.istore_n 3, 1) := by decide +kernel
theorem dX6_putWord_4 : decode cX6_putWord 4 = .ok (.iload_n 3, 1) := by decide +kernel
theorem dX6_putWord_5 : decode cX6_putWord 5 = .ok (.aload_n 1, 1) := by decide +kernel
theorem dX6_putWord_6 : decode cX6_putWord 6 = .ok (.getfield 28, 3) := by decide +kernel
theorem dX6_putWord_9 : decode cX6_putWord 9 = .ok (.if_icmp .ge 20, 3) := by decide +kernel
theorem dX6_putWord_12 : decode cX6_putWord 12 = .ok (.aload_n 1, 1) := by decide +kernel
theorem dX6_putWord_13 : decode cX6_putWord 13 = .ok (.iload_n 3, 1) := by decide +kernel
theorem dX6_putWord_14 : decode cX6_putWord 14 = .ok (.invokevirtual 33, 3) := by decide +kernel
theorem dX6_putWord_17 : decode cX6_putWord 17 = .ok (.invokestatic 37, 3) := by decide +kernel
theorem dX6_putWord_20 : decode cX6_putWord 20 = .ok (.ifCond .eq 9, 3) := by decide +kernel
theorem dX6_putWord_23 : decode cX6_putWord 23 = .ok (.iinc 3 1, 3) := by decide +kernel
theorem dX6_putWord_26 : decode cX6_putWord 26 = .ok (.goto (-22), 3) := by decide +kernel
theorem dX6_putWord_29 : decode cX6_putWord 29 = .ok (.iload_n 3, 1) := by decide +kernel
theorem dX6_putWord_30 : decode cX6_putWord 30 = .ok (.iload_n 2, 1) := by decide +kernel
theorem dX6_putWord_31 : decode cX6_putWord 31 = .ok (.iconst 1, 1) := by decide +kernel
theorem dX6_putWord_32 : decode cX6_putWord 32 = .ok (.iadd, 1) := by decide +kernel
theorem dX6_putWord_33 : decode cX6_putWord 33 = .ok (.if_icmp .ne 36, 3) := by decide +kernel
theorem dX6_putWord_36 : decode cX6_putWord 36 = .ok (.aload_n 1, 1) := by decide +kernel
theorem dX6_putWord_37 : decode cX6_putWord 37 = .ok (.iload_n 2, 1) := by decide +kernel
theorem dX6_putWord_38 : decode cX6_putWord 38 = .ok (.invokevirtual 33, 3) := by decide +kernel
theorem dX6_putWord_41 : decode cX6_putWord 41 = .ok (.bipush 97, 2) := by decide +kernel
theorem dX6_putWord_43 : decode cX6_putWord 43 = .ok (.isub, 1) := by decide +kernel
theorem dX6_putWord_44 : decode cX6_putWord 44 = .ok (.istore 4, 2) := by decide +kernel
theorem dX6_putWord_46 : decode cX6_putWord 46 = .ok (.aload_n 0, 1) := by decide +kernel
theorem dX6_putWord_47 : decode cX6_putWord 47 = .ok (.iload 4, 2) := by decide +kernel
theorem dX6_putWord_49 : decode cX6_putWord 49 = .ok (.bipush 6, 2) := by decide +kernel
theorem dX6_putWord_51 : decode cX6_putWord 51 = .ok (.if_icmp .ge 7, 3) := by decide +kernel
theorem dX6_putWord_54 : decode cX6_putWord 54 = .ok (.iconst 1, 1) := by decide +kernel
theorem dX6_putWord_55 : decode cX6_putWord 55 = .ok (.goto 5, 3) := by decide +kernel
theorem dX6_putWord_58 : decode cX6_putWord 58 = .ok (.bipush 8, 2) := by decide +kernel
theorem dX6_putWord_60 : decode cX6_putWord 60 = .ok (.iload 4, 2) := by decide +kernel
theorem dX6_putWord_62 : decode cX6_putWord 62 = .ok (.iload_n 2, 1) := by decide +kernel
theorem dX6_putWord_63 : decode cX6_putWord 63 = .ok (.invokevirtual 54, 3) := by decide +kernel
theorem dX6_putWord_66 : decode cX6_putWord 66 = .ok (.goto 30, 3) := by decide +kernel
theorem dX6_putWord_69 : decode cX6_putWord 69 = .ok (.aload_n 1, 1) := by decide +kernel
theorem dX6_putWord_70 : decode cX6_putWord 70 = .ok (.iload_n 2, 1) := by decide +kernel
theorem dX6_putWord_71 : decode cX6_putWord 71 = .ok (.iload_n 3, 1) := by decide +kernel
theorem dX6_putWord_72 : decode cX6_putWord 72 = .ok (.invokestatic 58, 3) := by decide +kernel
theorem dX6_putWord_75 : decode cX6_putWord 75 = .ok (.istore 4, 2) := by decide +kernel
theorem dX6_putWord_77 : decode cX6_putWord 77 = .ok (.aload_n 0, 1) := by decide +kernel
theorem dX6_putWord_78 : decode cX6_putWord 78 = .ok (.iload 4, 2) := by decide +kernel
theorem dX6_putWord_80 : decode cX6_putWord 80 = .ok (.ifCond .ne 8, 3) := by decide +kernel
theorem dX6_putWord_83 : decode cX6_putWord 83 = .ok (.bipush 8, 2) := by decide +kernel
theorem dX6_putWord_85 : decode cX6_putWord 85 = .ok (.goto 5, 3) := by decide +kernel
theorem dX6_putWord_88 : decode cX6_putWord 88 = .ok (.bipush 7, 2) := by decide +kernel
theorem dX6_putWord_90 : decode cX6_putWord 90 = .ok (.iload 4, 2) := by decide +kernel
theorem dX6_putWord_92 : decode cX6_putWord 92 = .ok (.iload_n 2, 1) := by decide +kernel
theorem dX6_putWord_93 : decode cX6_putWord 93 = .ok (.invokevirtual 54, 3) := by decide +kernel
theorem dX6_putWord_96 : decode cX6_putWord 96 = .ok (.iload_n 3, 1) := by decide +kernel
theorem dX6_putWord_97 : decode cX6_putWord 97 = .ok (.ireturn, 1) := by decide +kernel
theorem dX6_stepKind_0 : decode cX6_stepKind 0 = .ok (.aload_n 0, 1) := by decide +kernel
theorem dX6_stepKind_1 : decode cX6_stepKind 1 = .ok (.iload_n 1, 1) := by decide +kernel
theorem dX6_stepKind_2 : decode cX6_stepKind 2 = .ok (.iload_n 2, 1) := by decide +kernel
theorem dX6_stepKind_3 : decode cX6_stepKind 3 = .ok (.ldc 62, 2) := by decide +kernel
theorem dX6_stepKind_5 : decode cX6_stepKind 5 = .ok (.invokevirtual 64, 3) := by decide +kernel
theorem dX6_stepKind_8 : decode cX6_stepKind 8 = .ok (.ifCond .eq 5, 3) := by decide +kernel
theorem dX6_stepKind_11 : decode cX6_stepKind 11 = .ok (.iconst 1, 1) := by decide +kernel
theorem dX6_stepKind_12 : decode cX6_stepKind 12 = .ok (.ireturn, 1) := by decide +kernel
theorem dX6_stepKind_13 : decode cX6_stepKind 13 = .ok (.aload_n 0, 1) := by decide +kernel
theorem dX6_stepKind_14 : decode cX6_stepKind 14 = .ok (.iload_n 1, 1) := by decide +kernel
theorem dX6_stepKind_15 : decode cX6_stepKind 15 = .ok (.iload_n 2, 1) := by decide +kernel
theorem dX6_stepKind_16 : decode cX6_stepKind 16 = .ok (.ldc 70, 2) := by decide +kernel
theorem dX6_stepKind_18 : decode cX6_stepKind 18 = .ok (.invokevirtual 64, 3) := by decide +kernel
theorem dX6_stepKind_21 : decode cX6_stepKind 21 = .ok (.ifCond .eq 5, 3) := by decide +kernel
theorem dX6_stepKind_24 : decode cX6_stepKind 24 = .ok (.iconst 2, 1) := by decide +kernel
theorem dX6_stepKind_25 : decode cX6_stepKind 25 = .ok (.ireturn, 1) := by decide +kernel
theorem dX6_stepKind_26 : decode cX6_stepKind 26 = .ok (.aload_n 0, 1) := by decide +kernel
theorem dX6_stepKind_27 : decode cX6_stepKind 27 = .ok (.iload_n 1, 1) := by decide +kernel
theorem dX6_stepKind_28 : decode cX6_stepKind 28 = .ok (.iload_n 2, 1) := by decide +kernel
theorem dX6_stepKind_29 : decode cX6_stepKind 29 = .ok (.ldc 72, 2) := by decide +kernel
theorem dX6_stepKind_31 : decode cX6_stepKind 31 = .ok (.invokevirtual 64, 3) := by decide +kernel
theorem dX6_stepKind_34 : decode cX6_stepKind 34 = .ok (.ifCond .eq 5, 3) := by decide +kernel
theorem dX6_stepKind_37 : decode cX6_stepKind 37 = .ok (.iconst 3, 1) := by decide +kernel
theorem dX6_stepKind_38 : decode cX6_stepKind 38 = .ok (.ireturn, 1) := by decide +kernel
theorem dX6_stepKind_39 : decode cX6_stepKind 39 = .ok (.aload_n 0, 1) := by decide +kernel
theorem dX6_stepKind_40 : decode cX6_stepKind 40 = .ok (.iload_n 1, 1) := by decide +kernel
theorem dX6_stepKind_41 : decode cX6_stepKind 41 = .ok (.iload_n 2, 1) := by decide +kernel
theorem dX6_stepKind_42 : decode cX6_stepKind 42 = .ok (.ldc 74, 2) := by decide +kernel
theorem dX6_stepKind_44 : decode cX6_stepKind 44 = .ok (.invokevirtual 64, 3) := by decide +kernel
theorem dX6_stepKind_47 : decode cX6_stepKind 47 = .ok (.ifCond .eq 5, 3) := by decide +kernel
theorem dX6_stepKind_50 : decode cX6_stepKind 50 = .ok (.iconst 4, 1) := by decide +kernel
theorem dX6_stepKind_51 : decode cX6_stepKind 51 = .ok (.ireturn, 1) := by decide +kernel
theorem dX6_stepKind_52 : decode cX6_stepKind 52 = .ok (.aload_n 0, 1) := by decide +kernel
theorem dX6_stepKind_53 : decode cX6_stepKind 53 = .ok (.iload_n 1, 1) := by decide +kernel
theorem dX6_stepKind_54 : decode cX6_stepKind 54 = .ok (.iload_n 2, 1) := by decide +kernel
theorem dX6_stepKind_55 : decode cX6_stepKind 55 = .ok (.ldc 76, 2) := by decide +kernel
theorem dX6_stepKind_57 : decode cX6_stepKind 57 = .ok (.invokevirtual 64, 3) := by decide +kernel
theorem dX6_stepKind_60 : decode cX6_stepKind 60 = .ok (.ifCond .eq 5, 3) := by decide +kernel
theorem dX6_stepKind_63 : decode cX6_stepKind 63 = .ok (.iconst 5, 1) := by decide +kernel
theorem dX6_stepKind_64 : decode cX6_stepKind 64 = .ok (.ireturn, 1) := by decide +kernel
theorem dX6_stepKind_65 : decode cX6_stepKind 65 = .ok (.aload_n 0, 1) := by decide +kernel
theorem dX6_stepKind_66 : decode cX6_stepKind 66 = .ok (.iload_n 1, 1) := by decide +kernel
theorem dX6_stepKind_67 : decode cX6_stepKind 67 = .ok (.iload_n 2, 1) := by decide +kernel
theorem dX6_stepKind_68 : decode cX6_stepKind 68 = .ok (.ldc 78, 2) := by decide +kernel
theorem dX6_stepKind_70 : decode cX6_stepKind 70 = .ok (.invokevirtual 64, 3) := by decide +kernel
theorem dX6_stepKind_73 : decode cX6_stepKind 73 = .ok (.ifCond .eq 6, 3) := by decide +kernel
theorem dX6_stepKind_76 : decode cX6_stepKind 76 = .ok (.bipush 6, 2) := by decide +kernel
theorem dX6_stepKind_78 : decode cX6_stepKind 78 = .ok (.ireturn, 1) := by decide +kernel
theorem dX6_stepKind_79 : decode cX6_stepKind 79 = .ok (.aload_n 0, 1) := by decide +kernel
theorem dX6_stepKind_80 : decode cX6_stepKind 80 = .ok (.iload_n 1, 1) := by decide +kernel
theorem dX6_stepKind_81 : decode cX6_stepKind 81 = .ok (.iload_n 2, 1) := by decide +kernel
theorem dX6_stepKind_82 : decode cX6_stepKind 82 = .ok (.ldc 80, 2) := by decide +kernel
theorem dX6_stepKind_84 : decode cX6_stepKind 84 = .ok (.invokevirtual 64, 3) := by decide +kernel
theorem dX6_stepKind_87 : decode cX6_stepKind 87 = .ok (.ifCond .eq 6, 3) := by decide +kernel
theorem dX6_stepKind_90 : decode cX6_stepKind 90 = .ok (.bipush 7, 2) := by decide +kernel
theorem dX6_stepKind_92 : decode cX6_stepKind 92 = .ok (.ireturn, 1) := by decide +kernel
theorem dX6_stepKind_93 : decode cX6_stepKind 93 = .ok (.aload_n 0, 1) := by decide +kernel
theorem dX6_stepKind_94 : decode cX6_stepKind 94 = .ok (.iload_n 1, 1) := by decide +kernel
theorem dX6_stepKind_95 : decode cX6_stepKind 95 = .ok (.iload_n 2, 1) := by decide +kernel
theorem dX6_stepKind_96 : decode cX6_stepKind 96 = .ok (.ldc 82, 2) := by decide +kernel
theorem dX6_stepKind_98 : decode cX6_stepKind 98 = .ok (.invokevirtual 64, 3) := by decide +kernel
theorem dX6_stepKind_101 : decode cX6_stepKind 101 = .ok (.ifCond .eq 8, 3) := by decide +kernel
theorem dX6_stepKind_104 : decode cX6_stepKind 104 = .ok (.bipush 8, 2) := by decide +kernel
theorem dX6_stepKind_106 : decode cX6_stepKind 106 = .ok (.goto 4, 3) := by decide +kernel
theorem dX6_stepKind_109 : decode cX6_stepKind 109 = .ok (.iconst 0, 1) := by decide +kernel
theorem dX6_stepKind_110 : decode cX6_stepKind 110 = .ok (.ireturn, 1) := by decide +kernel
theorem dX6_putNumber_0 : decode cX6_putNumber 0 = .ok (.iconst 0, 1) := by decide +kernel
theorem dX6_putNumber_1 : decode cX6_putNumber 1 = .ok (.istore_n 3, 1) := by decide +kernel
theorem dX6_putNumber_2 : decode cX6_putNumber 2 = .ok (.iload_n 2, 1) := by decide +kernel
theorem dX6_putNumber_3 : decode cX6_putNumber 3 = .ok (.istore 4, 2) := by decide +kernel
theorem dX6_putNumber_5 : decode cX6_putNumber 5 = .ok (.iload 4, 2) := by decide +kernel
theorem dX6_putNumber_7 : decode cX6_putNumber 7 = .ok (.aload_n 1, 1) := by decide +kernel
theorem dX6_putNumber_8 : decode cX6_putNumber 8 = .ok (.getfield 28, 3) := by decide +kernel
theorem dX6_putNumber_11 : decode cX6_putNumber 11 = .ok (.if_icmp .ge 42, 3) := by decide +kernel
theorem dX6_putNumber_14 : decode cX6_putNumber 14 = .ok (.aload_n 1, 1) := by decide +kernel
theorem dX6_putNumber_15 : decode cX6_putNumber 15 = .ok (.iload 4, 2) := by decide +kernel
theorem dX6_putNumber_17 : decode cX6_putNumber 17 = .ok (.invokevirtual 33, 3) := by decide +kernel
theorem dX6_putNumber_20 : decode cX6_putNumber 20 = .ok (.invokestatic 45, 3) := by decide +kernel
theorem dX6_putNumber_23 : decode cX6_putNumber 23 = .ok (.ifCond .eq 30, 3) := by decide +kernel
theorem dX6_putNumber_26 : decode cX6_putNumber 26 = .ok (.iload_n 3, 1) := by decide +kernel
theorem dX6_putNumber_27 : decode cX6_putNumber 27 = .ok (.bipush 10, 2) := by decide +kernel
theorem dX6_putNumber_29 : decode cX6_putNumber 29 = .ok (.imul, 1) := by decide +kernel
theorem dX6_putNumber_30 : decode cX6_putNumber 30 = .ok (.aload_n 1, 1) := by decide +kernel
theorem dX6_putNumber_31 : decode cX6_putNumber 31 = .ok (.iload 4, 2) := by decide +kernel
theorem dX6_putNumber_33 : decode cX6_putNumber 33 = .ok (.invokevirtual 33, 3) := by decide +kernel
theorem dX6_putNumber_36 : decode cX6_putNumber 36 = .ok (.iadd, 1) := by decide +kernel
theorem dX6_putNumber_37 : decode cX6_putNumber 37 = .ok (.bipush 48, 2) := by decide +kernel
theorem dX6_putNumber_39 : decode cX6_putNumber 39 = .ok (.isub, 1) := by decide +kernel
theorem dX6_putNumber_40 : decode cX6_putNumber 40 = .ok (.sipush 1000, 3) := by decide +kernel
theorem dX6_putNumber_43 : decode cX6_putNumber 43 = .ok (.invokestatic 84, 3) := by decide +kernel
theorem dX6_putNumber_46 : decode cX6_putNumber 46 = .ok (.istore_n 3, 1) := by decide +kernel
theorem dX6_putNumber_47 : decode cX6_putNumber 47 = .ok (.iinc 4 1, 3) := by decide +kernel
theorem dX6_putNumber_50 : decode cX6_putNumber 50 = .ok (.goto (-45), 3) := by decide +kernel
theorem dX6_putNumber_53 : decode cX6_putNumber 53 = .ok (.aload_n 1, 1) := by decide +kernel
theorem dX6_putNumber_54 : decode cX6_putNumber 54 = .ok (.iload_n 2, 1) := by decide +kernel
theorem dX6_putNumber_55 : decode cX6_putNumber 55 = .ok (.invokevirtual 33, 3) := by decide +kernel
theorem dX6_putNumber_58 : decode cX6_putNumber 58 = .ok (.bipush 48, 2) := by decide +kernel
theorem dX6_putNumber_60 : decode cX6_putNumber 60 = .ok (.if_icmp .ne 15, 3) := by decide +kernel
theorem dX6_putNumber_63 : decode cX6_putNumber 63 = .ok (.iload 4, 2) := by decide +kernel
theorem dX6_putNumber_65 : decode cX6_putNumber 65 = .ok (.iload_n 2, 1) := by decide +kernel
theorem dX6_putNumber_66 : decode cX6_putNumber 66 = .ok (.iconst 1, 1) := by decide +kernel
theorem dX6_putNumber_67 : decode cX6_putNumber 67 = .ok (.iadd, 1) := by decide +kernel
theorem dX6_putNumber_68 : decode cX6_putNumber 68 = .ok (.if_icmp .le 7, 3) := by decide +kernel
theorem dX6_putNumber_71 : decode cX6_putNumber 71 = .ok (.iconst 1, 1) := by decide +kernel
theorem dX6_putNumber_72 : decode cX6_putNumber 72 = .ok (.goto 4, 3) := by decide +kernel
theorem dX6_putNumber_75 : decode cX6_putNumber 75 = .ok (.iconst 0, 1) := by decide +kernel
theorem dX6_putNumber_76 : decode cX6_putNumber 76 = .ok (.istore 5, 2) := by decide +kernel
theorem dX6_putNumber_78 : decode cX6_putNumber 78 = .ok (.aload_n 0, 1) := by decide +kernel
theorem dX6_putNumber_79 : decode cX6_putNumber 79 = .ok (.iload 5, 2) := by decide +kernel
theorem dX6_putNumber_81 : decode cX6_putNumber 81 = .ok (.ifCond .ne 10, 3) := by decide +kernel
theorem dX6_putNumber_84 : decode cX6_putNumber 84 = .ok (.iload_n 3, 1) := by decide +kernel
theorem dX6_putNumber_85 : decode cX6_putNumber 85 = .ok (.sipush 999, 3) := by decide +kernel
theorem dX6_putNumber_88 : decode cX6_putNumber 88 = .ok (.if_icmp .le 8, 3) := by decide +kernel
theorem dX6_putNumber_91 : decode cX6_putNumber 91 = .ok (.bipush 8, 2) := by decide +kernel
theorem dX6_putNumber_93 : decode cX6_putNumber 93 = .ok (.goto 4, 3) := by decide +kernel
theorem dX6_putNumber_96 : decode cX6_putNumber 96 = .ok (.iconst 2, 1) := by decide +kernel
theorem dX6_putNumber_97 : decode cX6_putNumber 97 = .ok (.iload_n 3, 1) := by decide +kernel
theorem dX6_putNumber_98 : decode cX6_putNumber 98 = .ok (.iload_n 2, 1) := by decide +kernel
theorem dX6_putNumber_99 : decode cX6_putNumber 99 = .ok (.invokevirtual 54, 3) := by decide +kernel
theorem dX6_putNumber_102 : decode cX6_putNumber 102 = .ok (.iload 4, 2) := by decide +kernel
theorem dX6_putNumber_104 : decode cX6_putNumber 104 = .ok (.ireturn, 1) := by decide +kernel
theorem dX6_putSign_0 : decode cX6_putSign 0 = .ok (.aload_n 1, 1) := by decide +kernel
theorem dX6_putSign_1 : decode cX6_putSign 1 = .ok (.iload_n 2, 1) := by decide +kernel
theorem dX6_putSign_2 : decode cX6_putSign 2 = .ok (.invokevirtual 33, 3) := by decide +kernel
theorem dX6_putSign_5 : decode cX6_putSign 5 = .ok (.istore_n 3, 1) := by decide +kernel
theorem dX6_putSign_6 : decode cX6_putSign 6 = .ok (.iload_n 3, 1) := by decide +kernel
theorem dX6_putSign_7 : decode cX6_putSign 7 = .ok (.bipush 62, 2) := by decide +kernel
theorem dX6_putSign_9 : decode cX6_putSign 9 = .ok (.if_icmp .ne 19, 3) := by decide +kernel
theorem dX6_putSign_12 : decode cX6_putSign 12 = .ok (.aload_n 1, 1) := by decide +kernel
theorem dX6_putSign_13 : decode cX6_putSign 13 = .ok (.iload_n 2, 1) := by decide +kernel
theorem dX6_putSign_14 : decode cX6_putSign 14 = .ok (.iconst 1, 1) := by decide +kernel
theorem dX6_putSign_15 : decode cX6_putSign 15 = .ok (.iadd, 1) := by decide +kernel
theorem dX6_putSign_16 : decode cX6_putSign 16 = .ok (.invokevirtual 33, 3) := by decide +kernel
theorem dX6_putSign_19 : decode cX6_putSign 19 = .ok (.bipush 61, 2) := by decide +kernel
theorem dX6_putSign_21 : decode cX6_putSign 21 = .ok (.if_icmp .ne 7, 3) := by decide +kernel
theorem dX6_putSign_24 : decode cX6_putSign 24 = .ok (.iconst 1, 1) := by decide +kernel
theorem dX6_putSign_25 : decode cX6_putSign 25 = .ok (.goto 4, 3) := by decide +kernel
theorem dX6_putSign_28 : decode cX6_putSign 28 = .ok (.iconst 0, 1) := by decide +kernel
theorem dX6_putSign_29 : decode cX6_putSign 29 = .ok (.istore 4, 2) := by decide +kernel
theorem dX6_putSign_31 : decode cX6_putSign 31 = .ok (.aload_n 0, 1) := by decide +kernel
theorem dX6_putSign_32 : decode cX6_putSign 32 = .ok (.iload 4, 2) := by decide +kernel
theorem dX6_putSign_34 : decode cX6_putSign 34 = .ok (.ifCond .eq 7, 3) := by decide +kernel
theorem dX6_putSign_37 : decode cX6_putSign 37 = .ok (.iconst 3, 1) := by decide +kernel
theorem dX6_putSign_38 : decode cX6_putSign 38 = .ok (.goto 7, 3) := by decide +kernel
theorem dX6_putSign_41 : decode cX6_putSign 41 = .ok (.iload_n 3, 1) := by decide +kernel
theorem dX6_putSign_42 : decode cX6_putSign 42 = .ok (.invokestatic 90, 3) := by decide +kernel
theorem dX6_putSign_45 : decode cX6_putSign 45 = .ok (.iconst 0, 1) := by decide +kernel
theorem dX6_putSign_46 : decode cX6_putSign 46 = .ok (.iload_n 2, 1) := by decide +kernel
theorem dX6_putSign_47 : decode cX6_putSign 47 = .ok (.invokevirtual 54, 3) := by decide +kernel
theorem dX6_putSign_50 : decode cX6_putSign 50 = .ok (.iload 4, 2) := by decide +kernel
theorem dX6_putSign_52 : decode cX6_putSign 52 = .ok (.ifCond .eq 9, 3) := by decide +kernel
theorem dX6_putSign_55 : decode cX6_putSign 55 = .ok (.iload_n 2, 1) := by decide +kernel
theorem dX6_putSign_56 : decode cX6_putSign 56 = .ok (.iconst 2, 1) := by decide +kernel
theorem dX6_putSign_57 : decode cX6_putSign 57 = .ok (.iadd, 1) := by decide +kernel
theorem dX6_putSign_58 : decode cX6_putSign 58 = .ok (.goto 6, 3) := by decide +kernel
theorem dX6_putSign_61 : decode cX6_putSign 61 = .ok (.iload_n 2, 1) := by decide +kernel
theorem dX6_putSign_62 : decode cX6_putSign 62 = .ok (.iconst 1, 1) := by decide +kernel
theorem dX6_putSign_63 : decode cX6_putSign 63 = .ok (.iadd, 1) := by decide +kernel
theorem dX6_putSign_64 : decode cX6_putSign 64 = .ok (.ireturn, 1) := by decide +kernel
theorem dX6_signKind_0 : decode cX6_signKind 0 = .ok (.iload_n 0, 1) := by decide +kernel
theorem dX6_signKind_1 : decode cX6_signKind 1 = .ok (.lookupswitch 42 #[(33, 37), (43, 35), (59, 39)], 35) := by decide +kernel
theorem dX6_signKind_36 : decode cX6_signKind 36 = .ok (.iconst 4, 1) := by decide +kernel
theorem dX6_signKind_37 : decode cX6_signKind 37 = .ok (.ireturn, 1) := by decide +kernel
theorem dX6_signKind_38 : decode cX6_signKind 38 = .ok (.iconst 5, 1) := by decide +kernel
theorem dX6_signKind_39 : decode cX6_signKind 39 = .ok (.ireturn, 1) := by decide +kernel
theorem dX6_signKind_40 : decode cX6_signKind 40 = .ok (.bipush 6, 2) := by decide +kernel
theorem dX6_signKind_42 : decode cX6_signKind 42 = .ok (.ireturn, 1) := by decide +kernel
theorem dX6_signKind_43 : decode cX6_signKind 43 = .ok (.bipush 8, 2) := by decide +kernel
theorem dX6_signKind_45 : decode cX6_signKind 45 = .ok (.ireturn, 1) := by decide +kernel
theorem dX6_isSmallLetter_0 : decode cX6_isSmallLetter 0 = .ok (.iload_n 0, 1) := by decide +kernel
theorem dX6_isSmallLetter_1 : decode cX6_isSmallLetter 1 = .ok (.bipush 97, 2) := by decide +kernel
theorem dX6_isSmallLetter_3 : decode cX6_isSmallLetter 3 = .ok (.if_icmp .lt 13, 3) := by decide +kernel
theorem dX6_isSmallLetter_6 : decode cX6_isSmallLetter 6 = .ok (.iload_n 0, 1) := by decide +kernel
theorem dX6_isSmallLetter_7 : decode cX6_isSmallLetter 7 = .ok (.bipush 122, 2) := by decide +kernel
theorem dX6_isSmallLetter_9 : decode cX6_isSmallLetter 9 = .ok (.if_icmp .gt 7, 3) := by decide +kernel
theorem dX6_isSmallLetter_12 : decode cX6_isSmallLetter 12 = .ok (.iconst 1, 1) := by decide +kernel
theorem dX6_isSmallLetter_13 : decode cX6_isSmallLetter 13 = .ok (.goto 4, 3) := by decide +kernel
theorem dX6_isSmallLetter_16 : decode cX6_isSmallLetter 16 = .ok (.iconst 0, 1) := by decide +kernel
theorem dX6_isSmallLetter_17 : decode cX6_isSmallLetter 17 = .ok (.ireturn, 1) := by decide +kernel
theorem dX6_isDigit_0 : decode cX6_isDigit 0 = .ok (.iload_n 0, 1) := by decide +kernel
theorem dX6_isDigit_1 : decode cX6_isDigit 1 = .ok (.bipush 48, 2) := by decide +kernel
theorem dX6_isDigit_3 : decode cX6_isDigit 3 = .ok (.if_icmp .lt 13, 3) := by decide +kernel
theorem dX6_isDigit_6 : decode cX6_isDigit 6 = .ok (.iload_n 0, 1) := by decide +kernel
theorem dX6_isDigit_7 : decode cX6_isDigit 7 = .ok (.bipush 57, 2) := by decide +kernel
theorem dX6_isDigit_9 : decode cX6_isDigit 9 = .ok (.if_icmp .gt 7, 3) := by decide +kernel
theorem dX6_isDigit_12 : decode cX6_isDigit 12 = .ok (.iconst 1, 1) := by decide +kernel
theorem dX6_isDigit_13 : decode cX6_isDigit 13 = .ok (.goto 4, 3) := by decide +kernel
theorem dX6_isDigit_16 : decode cX6_isDigit 16 = .ok (.iconst 0, 1) := by decide +kernel
theorem dX6_isDigit_17 : decode cX6_isDigit 17 = .ok (.ireturn, 1) := by decide +kernel
theorem dX7_init_0 : decode cX7_init 0 = .ok (.aload_n 0, 1) := by decide +kernel
theorem dX7_init_1 : decode cX7_init 1 = .ok (.invokespecial 1, 3) := by decide +kernel
theorem dX7_init_4 : decode cX7_init 4 = .ok (.aload_n 0, 1) := by decide +kernel
theorem dX7_init_5 : decode cX7_init 5 = .ok (.new 7, 3) := by decide +kernel
theorem dX7_init_8 : decode cX7_init 8 = .ok (.dup, 1) := by decide +kernel
theorem dX7_init_9 : decode cX7_init 9 = .ok (.invokespecial 9, 3) := by decide +kernel
theorem dX7_init_12 : decode cX7_init 12 = .ok (.putfield 10, 3) := by decide +kernel
theorem dX7_init_15 : decode cX7_init 15 = .ok (.aload_n 0, 1) := by decide +kernel
theorem dX7_init_16 : decode cX7_init 16 = .ok (.new 16, 3) := by decide +kernel
theorem dX7_init_19 : decode cX7_init 19 = .ok (.dup, 1) := by decide +kernel
theorem dX7_init_20 : decode cX7_init 20 = .ok (.invokespecial 18, 3) := by decide +kernel
theorem dX7_init_23 : decode cX7_init 23 = .ok (.putfield 19, 3) := by decide +kernel
theorem dX7_init_26 : decode cX7_init 26 = .ok (.aload_n 0, 1) := by decide +kernel
theorem dX7_init_27 : decode cX7_init 27 = .ok (.new 23, 3) := by decide +kernel
theorem dX7_init_30 : decode cX7_init 30 = .ok (.dup, 1) := by decide +kernel
theorem dX7_init_31 : decode cX7_init 31 = .ok (.invokespecial 25, 3) := by decide +kernel
theorem dX7_init_34 : decode cX7_init 34 = .ok (.putfield 26, 3) := by decide +kernel
theorem dX7_init_37 : decode cX7_init 37 = .ok (.aload_n 0, 1) := by decide +kernel
theorem dX7_init_38 : decode cX7_init 38 = .ok (.new 30, 3) := by decide +kernel
theorem dX7_init_41 : decode cX7_init 41 = .ok (.dup, 1) := by decide +kernel
theorem dX7_init_42 : decode cX7_init 42 = .ok (.invokespecial 32, 3) := by decide +kernel
theorem dX7_init_45 : decode cX7_init 45 = .ok (.putfield 33, 3) := by decide +kernel
theorem dX7_init_48 : decode cX7_init 48 = .ok (.aload_n 0, 1) := by decide +kernel
theorem dX7_init_49 : decode cX7_init 49 = .ok (.bipush 32, 2) := by decide +kernel
theorem dX7_init_51 : decode cX7_init 51 = .ok (.anewarray 37, 3) := by decide +kernel
theorem dX7_init_54 : decode cX7_init 54 = .ok (.putfield 39, 3) := by decide +kernel
theorem dX7_init_57 : decode cX7_init 57 = .ok (.iconst 0, 1) := by decide +kernel
theorem dX7_init_58 : decode cX7_init 58 = .ok (.istore_n 1, 1) := by decide +kernel
end
section
theorem dX7_init_59 : decode cX7_init 59 = .ok (.iload_n 1, 1) := by decide +kernel
theorem dX7_init_60 : decode cX7_init 60 = .ok (.aload_n 0, 1) := by decide +kernel
theorem dX7_init_61 : decode cX7_init 61 = .ok (.getfield 39, 3) := by decide +kernel
theorem dX7_init_64 : decode cX7_init 64 = .ok (.arraylength, 1) := by decide +kernel
theorem dX7_init_65 : decode cX7_init 65 = .ok (.if_icmp .ge 22, 3) := by decide +kernel
theorem dX7_init_68 : decode cX7_init 68 = .ok (.aload_n 0, 1) := by decide +kernel
theorem dX7_init_69 : decode cX7_init 69 = .ok (.getfield 39, 3) := by decide +kernel
theorem dX7_init_72 : decode cX7_init 72 = .ok (.iload_n 1, 1) := by decide +kernel
theorem dX7_init_73 : decode cX7_init 73 = .ok (.new 37, 3) := by decide +kernel
theorem dX7_init_76 : decode cX7_init 76 = .ok (.dup, 1) := by decide +kernel
theorem dX7_init_77 : decode cX7_init 77 = .ok (.invokespecial 43, 3) := by decide +kernel
theorem dX7_init_80 : decode cX7_init 80 = .ok (.aastore, 1) := by decide +kernel
theorem dX7_init_81 : decode cX7_init 81 = .ok (.iinc 1 1, 3) := by decide +kernel
theorem dX7_init_84 : decode cX7_init 84 = .ok (.goto (-25), 3) := by decide +kernel
theorem dX7_init_87 : decode cX7_init 87 = .ok (.aload_n 0, 1) := by decide +kernel
theorem dX7_init_88 : decode cX7_init 88 = .ok (.bipush 8, 2) := by decide +kernel
theorem dX7_init_90 : decode cX7_init 90 = .ok (.newarray .long, 2) := by decide +kernel
theorem dX7_init_92 : decode cX7_init 92 = .ok (.putfield 44, 3) := by decide +kernel
theorem dX7_init_95 : decode cX7_init 95 = .ok (.aload_n 0, 1) := by decide +kernel
theorem dX7_init_96 : decode cX7_init 96 = .ok (.bipush 6, 2) := by decide +kernel
theorem dX7_init_98 : decode cX7_init 98 = .ok (.newarray .int, 2) := by decide +kernel
theorem dX7_init_100 : decode cX7_init 100 = .ok (.putfield 48, 3) := by decide +kernel
theorem dX7_init_103 : decode cX7_init 103 = .ok (.aload_n 0, 1) := by decide +kernel
theorem dX7_init_104 : decode cX7_init 104 = .ok (.bipush (-9), 2) := by decide +kernel
theorem dX7_init_106 : decode cX7_init 106 = .ok (.putfield 52, 3) := by decide +kernel
theorem dX7_init_109 : decode cX7_init 109 = .ok (.aload_n 0, 1) := by decide +kernel
theorem dX7_init_110 : decode cX7_init 110 = .ok (.bipush (-9), 2) := by decide +kernel
theorem dX7_init_112 : decode cX7_init 112 = .ok (.putfield 56, 3) := by decide +kernel
theorem dX7_init_115 : decode cX7_init 115 = .ok (.return_, 1) := by decide +kernel
theorem dX7_type_0 : decode cX7_type 0 = .ok (.iload_n 3, 1) := by decide +kernel
theorem dX7_type_1 : decode cX7_type 1 = .ok (.iconst 1, 1) := by decide +kernel
theorem dX7_type_2 : decode cX7_type 2 = .ok (.if_icmp .lt 9, 3) := by decide +kernel
theorem dX7_type_5 : decode cX7_type 5 = .ok (.iload_n 3, 1) := by decide +kernel
theorem dX7_type_6 : decode cX7_type 6 = .ok (.bipush 8, 2) := by decide +kernel
theorem dX7_type_8 : decode cX7_type 8 = .ok (.if_icmp .le 5, 3) := by decide +kernel
theorem dX7_type_11 : decode cX7_type 11 = .ok (.iconst (-1), 1) := by decide +kernel
theorem dX7_type_12 : decode cX7_type 12 = .ok (.ireturn, 1) := by decide +kernel
theorem dX7_type_13 : decode cX7_type 13 = .ok (.aload_n 0, 1) := by decide +kernel
theorem dX7_type_14 : decode cX7_type 14 = .ok (.getfield 10, 3) := by decide +kernel
theorem dX7_type_17 : decode cX7_type 17 = .ok (.getfield 59, 3) := by decide +kernel
theorem dX7_type_20 : decode cX7_type 20 = .ok (.iload_n 3, 1) := by decide +kernel
theorem dX7_type_21 : decode cX7_type 21 = .ok (.iadd, 1) := by decide +kernel
theorem dX7_type_22 : decode cX7_type 22 = .ok (.sipush 400, 3) := by decide +kernel
theorem dX7_type_25 : decode cX7_type 25 = .ok (.if_icmp .le 6, 3) := by decide +kernel
theorem dX7_type_28 : decode cX7_type 28 = .ok (.bipush (-3), 2) := by decide +kernel
theorem dX7_type_30 : decode cX7_type 30 = .ok (.ireturn, 1) := by decide +kernel
theorem dX7_type_31 : decode cX7_type 31 = .ok (.iload_n 3, 1) := by decide +kernel
theorem dX7_type_32 : decode cX7_type 32 = .ok (.iconst 1, 1) := by decide +kernel
theorem dX7_type_33 : decode cX7_type 33 = .ok (.isub, 1) := by decide +kernel
theorem dX7_type_34 : decode cX7_type 34 = .ok (.istore 4, 2) := by decide +kernel
theorem dX7_type_36 : decode cX7_type 36 = .ok (.iload 4, 2) := by decide +kernel
theorem dX7_type_38 : decode cX7_type 38 = .ok (.ifCond .lt 28, 3) := by decide +kernel
theorem dX7_type_41 : decode cX7_type 41 = .ok (.aload_n 0, 1) := by decide +kernel
theorem dX7_type_42 : decode cX7_type 42 = .ok (.getfield 10, 3) := by decide +kernel
theorem dX7_type_45 : decode cX7_type 45 = .ok (.lload_n 1, 1) := by decide +kernel
theorem dX7_type_46 : decode cX7_type 46 = .ok (.bipush 8, 2) := by decide +kernel
theorem dX7_type_48 : decode cX7_type 48 = .ok (.iload 4, 2) := by decide +kernel
theorem dX7_type_50 : decode cX7_type 50 = .ok (.imul, 1) := by decide +kernel
theorem dX7_type_51 : decode cX7_type 51 = .ok (.lushr, 1) := by decide +kernel
theorem dX7_type_52 : decode cX7_type 52 = .ok (.l2i, 1) := by decide +kernel
theorem dX7_type_53 : decode cX7_type 53 = .ok (.sipush 255, 3) := by decide +kernel
theorem dX7_type_56 : decode cX7_type 56 = .ok (.iand, 1) := by decide +kernel
theorem dX7_type_57 : decode cX7_type 57 = .ok (.invokevirtual 62, 3) := by decide +kernel
theorem dX7_type_60 : decode cX7_type 60 = .ok (.iinc 4 (-1), 3) := by decide +kernel
theorem dX7_type_63 : decode cX7_type 63 = .ok (.goto (-27), 3) := by decide +kernel
theorem dX7_type_66 : decode cX7_type 66 = .ok (.aload_n 0, 1) := by decide +kernel
theorem dX7_type_67 : decode cX7_type 67 = .ok (.getfield 10, 3) := by decide +kernel
theorem dX7_type_70 : decode cX7_type 70 = .ok (.getfield 59, 3) := by decide +kernel
theorem dX7_type_73 : decode cX7_type 73 = .ok (.ireturn, 1) := by decide +kernel
theorem dX7_clear_0 : decode cX7_clear 0 = .ok (.aload_n 0, 1) := by decide +kernel
theorem dX7_clear_1 : decode cX7_clear 1 = .ok (.getfield 10, 3) := by decide +kernel
theorem dX7_clear_4 : decode cX7_clear 4 = .ok (.invokevirtual 66, 3) := by decide +kernel
theorem dX7_clear_7 : decode cX7_clear 7 = .ok (.ireturn, 1) := by decide +kernel
theorem dX7_given_0 : decode cX7_given 0 = .ok (.aload_n 0, 1) := by decide +kernel
theorem dX7_given_1 : decode cX7_given 1 = .ok (.getfield 19, 3) := by decide +kernel
theorem dX7_given_4 : decode cX7_given 4 = .ok (.aload_n 0, 1) := by decide +kernel
theorem dX7_given_5 : decode cX7_given 5 = .ok (.getfield 10, 3) := by decide +kernel
theorem dX7_given_8 : decode cX7_given 8 = .ok (.invokevirtual 70, 3) := by decide +kernel
theorem dX7_given_11 : decode cX7_given 11 = .ok (.istore_n 1, 1) := by decide +kernel
theorem dX7_given_12 : decode cX7_given 12 = .ok (.iload_n 1, 1) := by decide +kernel
theorem dX7_given_13 : decode cX7_given 13 = .ok (.ifCond .ge 5, 3) := by decide +kernel
theorem dX7_given_16 : decode cX7_given 16 = .ok (.iload_n 1, 1) := by decide +kernel
theorem dX7_given_17 : decode cX7_given 17 = .ok (.ireturn, 1) := by decide +kernel
theorem dX7_given_18 : decode cX7_given 18 = .ok (.iconst 0, 1) := by decide +kernel
theorem dX7_given_19 : decode cX7_given 19 = .ok (.istore_n 2, 1) := by decide +kernel
theorem dX7_given_20 : decode cX7_given 20 = .ok (.iload_n 2, 1) := by decide +kernel
theorem dX7_given_21 : decode cX7_given 21 = .ok (.iload_n 1, 1) := by decide +kernel
theorem dX7_given_22 : decode cX7_given 22 = .ok (.if_icmp .ge 33, 3) := by decide +kernel
theorem dX7_given_25 : decode cX7_given 25 = .ok (.iload_n 2, 1) := by decide +kernel
theorem dX7_given_26 : decode cX7_given 26 = .ok (.bipush 8, 2) := by decide +kernel
theorem dX7_given_28 : decode cX7_given 28 = .ok (.if_icmp .ge 27, 3) := by decide +kernel
theorem dX7_given_31 : decode cX7_given 31 = .ok (.aload_n 0, 1) := by decide +kernel
theorem dX7_given_32 : decode cX7_given 32 = .ok (.getfield 39, 3) := by decide +kernel
theorem dX7_given_35 : decode cX7_given 35 = .ok (.iload_n 2, 1) := by decide +kernel
theorem dX7_given_36 : decode cX7_given 36 = .ok (.aaload, 1) := by decide +kernel
theorem dX7_given_37 : decode cX7_given 37 = .ok (.aload_n 0, 1) := by decide +kernel
theorem dX7_given_38 : decode cX7_given 38 = .ok (.getfield 19, 3) := by decide +kernel
theorem dX7_given_41 : decode cX7_given 41 = .ok (.getfield 74, 3) := by decide +kernel
theorem dX7_given_44 : decode cX7_given 44 = .ok (.iload_n 2, 1) := by decide +kernel
theorem dX7_given_45 : decode cX7_given 45 = .ok (.aaload, 1) := by decide +kernel
theorem dX7_given_46 : decode cX7_given 46 = .ok (.invokevirtual 77, 3) := by decide +kernel
theorem dX7_given_49 : decode cX7_given 49 = .ok (.iinc 2 1, 3) := by decide +kernel
theorem dX7_given_52 : decode cX7_given 52 = .ok (.goto (-32), 3) := by decide +kernel
theorem dX7_given_55 : decode cX7_given 55 = .ok (.aload_n 0, 1) := by decide +kernel
theorem dX7_given_56 : decode cX7_given 56 = .ok (.iload_n 1, 1) := by decide +kernel
theorem dX7_given_57 : decode cX7_given 57 = .ok (.putfield 81, 3) := by decide +kernel
theorem dX7_given_60 : decode cX7_given 60 = .ok (.aload_n 0, 1) := by decide +kernel
theorem dX7_given_61 : decode cX7_given 61 = .ok (.invokevirtual 84, 3) := by decide +kernel
theorem dX7_given_64 : decode cX7_given 64 = .ok (.aload_n 0, 1) := by decide +kernel
theorem dX7_given_65 : decode cX7_given 65 = .ok (.getfield 10, 3) := by decide +kernel
theorem dX7_given_68 : decode cX7_given 68 = .ok (.invokevirtual 66, 3) := by decide +kernel
theorem dX7_given_71 : decode cX7_given 71 = .ok (.pop, 1) := by decide +kernel
theorem dX7_given_72 : decode cX7_given 72 = .ok (.iload_n 1, 1) := by decide +kernel
theorem dX7_given_73 : decode cX7_given 73 = .ok (.ireturn, 1) := by decide +kernel
theorem dX7_proof_0 : decode cX7_proof 0 = .ok (.aload_n 0, 1) := by decide +kernel
theorem dX7_proof_1 : decode cX7_proof 1 = .ok (.getfield 19, 3) := by decide +kernel
theorem dX7_proof_4 : decode cX7_proof 4 = .ok (.aload_n 0, 1) := by decide +kernel
theorem dX7_proof_5 : decode cX7_proof 5 = .ok (.getfield 10, 3) := by decide +kernel
theorem dX7_proof_8 : decode cX7_proof 8 = .ok (.aload_n 0, 1) := by decide +kernel
theorem dX7_proof_9 : decode cX7_proof 9 = .ok (.getfield 81, 3) := by decide +kernel
theorem dX7_proof_12 : decode cX7_proof 12 = .ok (.invokevirtual 87, 3) := by decide +kernel
theorem dX7_proof_15 : decode cX7_proof 15 = .ok (.istore_n 1, 1) := by decide +kernel
theorem dX7_proof_16 : decode cX7_proof 16 = .ok (.iload_n 1, 1) := by decide +kernel
theorem dX7_proof_17 : decode cX7_proof 17 = .ok (.ifCond .ge 5, 3) := by decide +kernel
theorem dX7_proof_20 : decode cX7_proof 20 = .ok (.iload_n 1, 1) := by decide +kernel
theorem dX7_proof_21 : decode cX7_proof 21 = .ok (.ireturn, 1) := by decide +kernel
theorem dX7_proof_22 : decode cX7_proof 22 = .ok (.aload_n 0, 1) := by decide +kernel
theorem dX7_proof_23 : decode cX7_proof 23 = .ok (.invokevirtual 84, 3) := by decide +kernel
theorem dX7_proof_26 : decode cX7_proof 26 = .ok (.aload_n 0, 1) := by decide +kernel
theorem dX7_proof_27 : decode cX7_proof 27 = .ok (.iload_n 1, 1) := by decide +kernel
theorem dX7_proof_28 : decode cX7_proof 28 = .ok (.putfield 91, 3) := by decide +kernel
theorem dX7_proof_31 : decode cX7_proof 31 = .ok (.aload_n 0, 1) := by decide +kernel
theorem dX7_proof_32 : decode cX7_proof 32 = .ok (.invokevirtual 94, 3) := by decide +kernel
theorem dX7_proof_35 : decode cX7_proof 35 = .ok (.aload_n 0, 1) := by decide +kernel
theorem dX7_proof_36 : decode cX7_proof 36 = .ok (.getfield 10, 3) := by decide +kernel
theorem dX7_proof_39 : decode cX7_proof 39 = .ok (.invokevirtual 66, 3) := by decide +kernel
theorem dX7_proof_42 : decode cX7_proof 42 = .ok (.pop, 1) := by decide +kernel
theorem dX7_proof_43 : decode cX7_proof 43 = .ok (.aload_n 0, 1) := by decide +kernel
theorem dX7_proof_44 : decode cX7_proof 44 = .ok (.getfield 97, 3) := by decide +kernel
theorem dX7_proof_47 : decode cX7_proof 47 = .ok (.ireturn, 1) := by decide +kernel
theorem dX7_wrong_0 : decode cX7_wrong 0 = .ok (.iload_n 1, 1) := by decide +kernel
theorem dX7_wrong_1 : decode cX7_wrong 1 = .ok (.ifCond .ne 8, 3) := by decide +kernel
theorem dX7_wrong_4 : decode cX7_wrong 4 = .ok (.aload_n 0, 1) := by decide +kernel
theorem dX7_wrong_5 : decode cX7_wrong 5 = .ok (.getfield 52, 3) := by decide +kernel
theorem dX7_wrong_8 : decode cX7_wrong 8 = .ok (.ireturn, 1) := by decide +kernel
theorem dX7_wrong_9 : decode cX7_wrong 9 = .ok (.iload_n 1, 1) := by decide +kernel
theorem dX7_wrong_10 : decode cX7_wrong 10 = .ok (.iconst 1, 1) := by decide +kernel
theorem dX7_wrong_11 : decode cX7_wrong 11 = .ok (.if_icmp .ne 10, 3) := by decide +kernel
theorem dX7_wrong_14 : decode cX7_wrong 14 = .ok (.aload_n 0, 1) := by decide +kernel
theorem dX7_wrong_15 : decode cX7_wrong 15 = .ok (.getfield 56, 3) := by decide +kernel
theorem dX7_wrong_18 : decode cX7_wrong 18 = .ok (.goto 4, 3) := by decide +kernel
theorem dX7_wrong_21 : decode cX7_wrong 21 = .ok (.iconst (-1), 1) := by decide +kernel
theorem dX7_wrong_22 : decode cX7_wrong 22 = .ok (.ireturn, 1) := by decide +kernel
theorem dX7_forgetProof_0 : decode cX7_forgetProof 0 = .ok (.aload_n 0, 1) := by decide +kernel
theorem dX7_forgetProof_1 : decode cX7_forgetProof 1 = .ok (.iconst 0, 1) := by decide +kernel
theorem dX7_forgetProof_2 : decode cX7_forgetProof 2 = .ok (.putfield 97, 3) := by decide +kernel
theorem dX7_forgetProof_5 : decode cX7_forgetProof 5 = .ok (.aload_n 0, 1) := by decide +kernel
theorem dX7_forgetProof_6 : decode cX7_forgetProof 6 = .ok (.iconst 0, 1) := by decide +kernel
theorem dX7_forgetProof_7 : decode cX7_forgetProof 7 = .ok (.putfield 91, 3) := by decide +kernel
theorem dX7_forgetProof_10 : decode cX7_forgetProof 10 = .ok (.aload_n 0, 1) := by decide +kernel
theorem dX7_forgetProof_11 : decode cX7_forgetProof 11 = .ok (.bipush (-9), 2) := by decide +kernel
theorem dX7_forgetProof_13 : decode cX7_forgetProof 13 = .ok (.putfield 52, 3) := by decide +kernel
theorem dX7_forgetProof_16 : decode cX7_forgetProof 16 = .ok (.aload_n 0, 1) := by decide +kernel
theorem dX7_forgetProof_17 : decode cX7_forgetProof 17 = .ok (.bipush (-9), 2) := by decide +kernel
theorem dX7_forgetProof_19 : decode cX7_forgetProof 19 = .ok (.putfield 56, 3) := by decide +kernel
theorem dX7_forgetProof_22 : decode cX7_forgetProof 22 = .ok (.return_, 1) := by decide +kernel
theorem dX7_walkProof_0 : decode cX7_walkProof 0 = .ok (.iconst 0, 1) := by decide +kernel
theorem dX7_walkProof_1 : decode cX7_walkProof 1 = .ok (.istore_n 1, 1) := by decide +kernel
theorem dX7_walkProof_2 : decode cX7_walkProof 2 = .ok (.iload_n 1, 1) := by decide +kernel
theorem dX7_walkProof_3 : decode cX7_walkProof 3 = .ok (.aload_n 0, 1) := by decide +kernel
theorem dX7_walkProof_4 : decode cX7_walkProof 4 = .ok (.getfield 91, 3) := by decide +kernel
theorem dX7_walkProof_7 : decode cX7_walkProof 7 = .ok (.if_icmp .ge 110, 3) := by decide +kernel
theorem dX7_walkProof_10 : decode cX7_walkProof 10 = .ok (.iload_n 1, 1) := by decide +kernel
theorem dX7_walkProof_11 : decode cX7_walkProof 11 = .ok (.bipush 24, 2) := by decide +kernel
theorem dX7_walkProof_13 : decode cX7_walkProof 13 = .ok (.if_icmp .ge 104, 3) := by decide +kernel
theorem dX7_walkProof_16 : decode cX7_walkProof 16 = .ok (.aload_n 0, 1) := by decide +kernel
theorem dX7_walkProof_17 : decode cX7_walkProof 17 = .ok (.getfield 81, 3) := by decide +kernel
theorem dX7_walkProof_20 : decode cX7_walkProof 20 = .ok (.iload_n 1, 1) := by decide +kernel
theorem dX7_walkProof_21 : decode cX7_walkProof 21 = .ok (.iadd, 1) := by decide +kernel
theorem dX7_walkProof_22 : decode cX7_walkProof 22 = .ok (.aload_n 0, 1) := by decide +kernel
theorem dX7_walkProof_23 : decode cX7_walkProof 23 = .ok (.getfield 39, 3) := by decide +kernel
theorem dX7_walkProof_26 : decode cX7_walkProof 26 = .ok (.arraylength, 1) := by decide +kernel
theorem dX7_walkProof_27 : decode cX7_walkProof 27 = .ok (.if_icmp .ge 90, 3) := by decide +kernel
theorem dX7_walkProof_30 : decode cX7_walkProof 30 = .ok (.aload_n 0, 1) := by decide +kernel
theorem dX7_walkProof_31 : decode cX7_walkProof 31 = .ok (.getfield 19, 3) := by decide +kernel
theorem dX7_walkProof_34 : decode cX7_walkProof 34 = .ok (.getfield 100, 3) := by decide +kernel
theorem dX7_walkProof_37 : decode cX7_walkProof 37 = .ok (.iload_n 1, 1) := by decide +kernel
theorem dX7_walkProof_38 : decode cX7_walkProof 38 = .ok (.aaload, 1) := by decide +kernel
theorem dX7_walkProof_39 : decode cX7_walkProof 39 = .ok (.astore_n 2, 1) := by decide +kernel
theorem dX7_walkProof_40 : decode cX7_walkProof 40 = .ok (.aload_n 0, 1) := by decide +kernel
theorem dX7_walkProof_41 : decode cX7_walkProof 41 = .ok (.getfield 81, 3) := by decide +kernel
theorem dX7_walkProof_44 : decode cX7_walkProof 44 = .ok (.iload_n 1, 1) := by decide +kernel
theorem dX7_walkProof_45 : decode cX7_walkProof 45 = .ok (.iadd, 1) := by decide +kernel
theorem dX7_walkProof_46 : decode cX7_walkProof 46 = .ok (.istore_n 3, 1) := by decide +kernel
theorem dX7_walkProof_47 : decode cX7_walkProof 47 = .ok (.aload_n 2, 1) := by decide +kernel
theorem dX7_walkProof_48 : decode cX7_walkProof 48 = .ok (.getfield 104, 3) := by decide +kernel
theorem dX7_walkProof_51 : decode cX7_walkProof 51 = .ok (.bipush 8, 2) := by decide +kernel
theorem dX7_walkProof_53 : decode cX7_walkProof 53 = .ok (.if_icmp .ne 18, 3) := by decide +kernel
theorem dX7_walkProof_56 : decode cX7_walkProof 56 = .ok (.aload_n 0, 1) := by decide +kernel
theorem dX7_walkProof_57 : decode cX7_walkProof 57 = .ok (.aload_n 2, 1) := by decide +kernel
theorem dX7_walkProof_58 : decode cX7_walkProof 58 = .ok (.iload_n 3, 1) := by decide +kernel
theorem dX7_walkProof_59 : decode cX7_walkProof 59 = .ok (.aload_n 0, 1) := by decide +kernel
theorem dX7_walkProof_60 : decode cX7_walkProof 60 = .ok (.getfield 39, 3) := by decide +kernel
theorem dX7_walkProof_63 : decode cX7_walkProof 63 = .ok (.iload_n 3, 1) := by decide +kernel
theorem dX7_walkProof_64 : decode cX7_walkProof 64 = .ok (.aaload, 1) := by decide +kernel
theorem dX7_walkProof_65 : decode cX7_walkProof 65 = .ok (.invokevirtual 109, 3) := by decide +kernel
theorem dX7_walkProof_68 : decode cX7_walkProof 68 = .ok (.goto 14, 3) := by decide +kernel
theorem dX7_walkProof_71 : decode cX7_walkProof 71 = .ok (.aload_n 0, 1) := by decide +kernel
theorem dX7_walkProof_72 : decode cX7_walkProof 72 = .ok (.aload_n 2, 1) := by decide +kernel
theorem dX7_walkProof_73 : decode cX7_walkProof 73 = .ok (.aload_n 0, 1) := by decide +kernel
theorem dX7_walkProof_74 : decode cX7_walkProof 74 = .ok (.getfield 39, 3) := by decide +kernel
theorem dX7_walkProof_77 : decode cX7_walkProof 77 = .ok (.iload_n 3, 1) := by decide +kernel
theorem dX7_walkProof_78 : decode cX7_walkProof 78 = .ok (.aaload, 1) := by decide +kernel
theorem dX7_walkProof_79 : decode cX7_walkProof 79 = .ok (.invokevirtual 113, 3) := by decide +kernel
theorem dX7_walkProof_82 : decode cX7_walkProof 82 = .ok (.istore 4, 2) := by decide +kernel
theorem dX7_walkProof_84 : decode cX7_walkProof 84 = .ok (.iload 4, 2) := by decide +kernel
theorem dX7_walkProof_86 : decode cX7_walkProof 86 = .ok (.ifCond .eq 15, 3) := by decide +kernel
theorem dX7_walkProof_89 : decode cX7_walkProof 89 = .ok (.aload_n 0, 1) := by decide +kernel
theorem dX7_walkProof_90 : decode cX7_walkProof 90 = .ok (.iload_n 1, 1) := by decide +kernel
theorem dX7_walkProof_91 : decode cX7_walkProof 91 = .ok (.putfield 52, 3) := by decide +kernel
theorem dX7_walkProof_94 : decode cX7_walkProof 94 = .ok (.aload_n 0, 1) := by decide +kernel
theorem dX7_walkProof_95 : decode cX7_walkProof 95 = .ok (.iload 4, 2) := by decide +kernel
theorem dX7_walkProof_97 : decode cX7_walkProof 97 = .ok (.putfield 56, 3) := by decide +kernel
theorem dX7_walkProof_100 : decode cX7_walkProof 100 = .ok (.return_, 1) := by decide +kernel
theorem dX7_walkProof_101 : decode cX7_walkProof 101 = .ok (.aload_n 0, 1) := by decide +kernel
theorem dX7_walkProof_102 : decode cX7_walkProof 102 = .ok (.dup, 1) := by decide +kernel
theorem dX7_walkProof_103 : decode cX7_walkProof 103 = .ok (.getfield 97, 3) := by decide +kernel
theorem dX7_walkProof_106 : decode cX7_walkProof 106 = .ok (.iconst 1, 1) := by decide +kernel
theorem dX7_walkProof_107 : decode cX7_walkProof 107 = .ok (.iadd, 1) := by decide +kernel
theorem dX7_walkProof_108 : decode cX7_walkProof 108 = .ok (.putfield 97, 3) := by decide +kernel
theorem dX7_walkProof_111 : decode cX7_walkProof 111 = .ok (.iinc 1 1, 3) := by decide +kernel
theorem dX7_walkProof_114 : decode cX7_walkProof 114 = .ok (.goto (-112), 3) := by decide +kernel
theorem dX7_walkProof_117 : decode cX7_walkProof 117 = .ok (.return_, 1) := by decide +kernel
theorem dX7_takeStep_0 : decode cX7_takeStep 0 = .ok (.aload_n 1, 1) := by decide +kernel
theorem dX7_takeStep_1 : decode cX7_takeStep 1 = .ok (.getfield 104, 3) := by decide +kernel
theorem dX7_takeStep_4 : decode cX7_takeStep 4 = .ok (.tableswitch 131 1 5 #[36, 59, 78, 97, 112], 36) := by decide +kernel
theorem dX7_takeStep_40 : decode cX7_takeStep 40 = .ok (.aload_n 2, 1) := by decide +kernel
theorem dX7_takeStep_41 : decode cX7_takeStep 41 = .ok (.aload_n 0, 1) := by decide +kernel
theorem dX7_takeStep_42 : decode cX7_takeStep 42 = .ok (.aload_n 1, 1) := by decide +kernel
theorem dX7_takeStep_43 : decode cX7_takeStep 43 = .ok (.getfield 117, 3) := by decide +kernel
theorem dX7_takeStep_46 : decode cX7_takeStep 46 = .ok (.invokevirtual 120, 3) := by decide +kernel
theorem dX7_takeStep_49 : decode cX7_takeStep 49 = .ok (.aload_n 0, 1) := by decide +kernel
theorem dX7_takeStep_50 : decode cX7_takeStep 50 = .ok (.aload_n 1, 1) := by decide +kernel
theorem dX7_takeStep_51 : decode cX7_takeStep 51 = .ok (.getfield 124, 3) := by decide +kernel
theorem dX7_takeStep_54 : decode cX7_takeStep 54 = .ok (.invokevirtual 120, 3) := by decide +kernel
theorem dX7_takeStep_57 : decode cX7_takeStep 57 = .ok (.invokevirtual 127, 3) := by decide +kernel
theorem dX7_takeStep_60 : decode cX7_takeStep 60 = .ok (.goto 97, 3) := by decide +kernel
theorem dX7_takeStep_63 : decode cX7_takeStep 63 = .ok (.aload_n 2, 1) := by decide +kernel
theorem dX7_takeStep_64 : decode cX7_takeStep 64 = .ok (.aload_n 0, 1) := by decide +kernel
theorem dX7_takeStep_65 : decode cX7_takeStep 65 = .ok (.aload_n 1, 1) := by decide +kernel
theorem dX7_takeStep_66 : decode cX7_takeStep 66 = .ok (.getfield 117, 3) := by decide +kernel
theorem dX7_takeStep_69 : decode cX7_takeStep 69 = .ok (.invokevirtual 120, 3) := by decide +kernel
theorem dX7_takeStep_72 : decode cX7_takeStep 72 = .ok (.aload_n 1, 1) := by decide +kernel
theorem dX7_takeStep_73 : decode cX7_takeStep 73 = .ok (.getfield 124, 3) := by decide +kernel
theorem dX7_takeStep_76 : decode cX7_takeStep 76 = .ok (.invokevirtual 131, 3) := by decide +kernel
theorem dX7_takeStep_79 : decode cX7_takeStep 79 = .ok (.goto 78, 3) := by decide +kernel
theorem dX7_takeStep_82 : decode cX7_takeStep 82 = .ok (.aload_n 2, 1) := by decide +kernel
theorem dX7_takeStep_83 : decode cX7_takeStep 83 = .ok (.aload_n 0, 1) := by decide +kernel
theorem dX7_takeStep_84 : decode cX7_takeStep 84 = .ok (.aload_n 1, 1) := by decide +kernel
theorem dX7_takeStep_85 : decode cX7_takeStep 85 = .ok (.getfield 117, 3) := by decide +kernel
theorem dX7_takeStep_88 : decode cX7_takeStep 88 = .ok (.invokevirtual 120, 3) := by decide +kernel
theorem dX7_takeStep_91 : decode cX7_takeStep 91 = .ok (.aload_n 1, 1) := by decide +kernel
theorem dX7_takeStep_92 : decode cX7_takeStep 92 = .ok (.getfield 124, 3) := by decide +kernel
theorem dX7_takeStep_95 : decode cX7_takeStep 95 = .ok (.invokevirtual 135, 3) := by decide +kernel
theorem dX7_takeStep_98 : decode cX7_takeStep 98 = .ok (.goto 59, 3) := by decide +kernel
theorem dX7_takeStep_101 : decode cX7_takeStep 101 = .ok (.aload_n 2, 1) := by decide +kernel
theorem dX7_takeStep_102 : decode cX7_takeStep 102 = .ok (.aload_n 0, 1) := by decide +kernel
theorem dX7_takeStep_103 : decode cX7_takeStep 103 = .ok (.aload_n 1, 1) := by decide +kernel
theorem dX7_takeStep_104 : decode cX7_takeStep 104 = .ok (.getfield 117, 3) := by decide +kernel
theorem dX7_takeStep_107 : decode cX7_takeStep 107 = .ok (.invokevirtual 120, 3) := by decide +kernel
theorem dX7_takeStep_110 : decode cX7_takeStep 110 = .ok (.invokevirtual 138, 3) := by decide +kernel
theorem dX7_takeStep_113 : decode cX7_takeStep 113 = .ok (.goto 44, 3) := by decide +kernel
theorem dX7_takeStep_116 : decode cX7_takeStep 116 = .ok (.aload_n 2, 1) := by decide +kernel
theorem dX7_takeStep_117 : decode cX7_takeStep 117 = .ok (.aload_n 0, 1) := by decide +kernel
theorem dX7_takeStep_118 : decode cX7_takeStep 118 = .ok (.aload_n 1, 1) := by decide +kernel
theorem dX7_takeStep_119 : decode cX7_takeStep 119 = .ok (.getfield 117, 3) := by decide +kernel
theorem dX7_takeStep_122 : decode cX7_takeStep 122 = .ok (.invokevirtual 120, 3) := by decide +kernel
theorem dX7_takeStep_125 : decode cX7_takeStep 125 = .ok (.aload_n 1, 1) := by decide +kernel
theorem dX7_takeStep_126 : decode cX7_takeStep 126 = .ok (.getfield 124, 3) := by decide +kernel
theorem dX7_takeStep_129 : decode cX7_takeStep 129 = .ok (.invokevirtual 141, 3) := by decide +kernel
theorem dX7_takeStep_132 : decode cX7_takeStep 132 = .ok (.goto 25, 3) := by decide +kernel
theorem dX7_takeStep_135 : decode cX7_takeStep 135 = .ok (.aload_n 2, 1) := by decide +kernel
theorem dX7_takeStep_136 : decode cX7_takeStep 136 = .ok (.aload_n 1, 1) := by decide +kernel
theorem dX7_takeStep_137 : decode cX7_takeStep 137 = .ok (.getfield 124, 3) := by decide +kernel
theorem dX7_takeStep_140 : decode cX7_takeStep 140 = .ok (.aload_n 1, 1) := by decide +kernel
theorem dX7_takeStep_141 : decode cX7_takeStep 141 = .ok (.getfield 104, 3) := by decide +kernel
theorem dX7_takeStep_144 : decode cX7_takeStep 144 = .ok (.bipush 6, 2) := by decide +kernel
theorem dX7_takeStep_146 : decode cX7_takeStep 146 = .ok (.if_icmp .ne 7, 3) := by decide +kernel
theorem dX7_takeStep_149 : decode cX7_takeStep 149 = .ok (.iconst 1, 1) := by decide +kernel
theorem dX7_takeStep_150 : decode cX7_takeStep 150 = .ok (.goto 4, 3) := by decide +kernel
theorem dX7_takeStep_153 : decode cX7_takeStep 153 = .ok (.iconst (-1), 1) := by decide +kernel
theorem dX7_takeStep_154 : decode cX7_takeStep 154 = .ok (.invokevirtual 144, 3) := by decide +kernel
theorem dX7_takeStep_157 : decode cX7_takeStep 157 = .ok (.aload_n 2, 1) := by decide +kernel
theorem dX7_takeStep_158 : decode cX7_takeStep 158 = .ok (.invokevirtual 148, 3) := by decide +kernel
theorem dX7_takeStep_161 : decode cX7_takeStep 161 = .ok (.ifCond .eq 7, 3) := by decide +kernel
theorem dX7_takeStep_164 : decode cX7_takeStep 164 = .ok (.iconst 1, 1) := by decide +kernel
theorem dX7_takeStep_165 : decode cX7_takeStep 165 = .ok (.goto 4, 3) := by decide +kernel
theorem dX7_takeStep_168 : decode cX7_takeStep 168 = .ok (.iconst 0, 1) := by decide +kernel
theorem dX7_takeStep_169 : decode cX7_takeStep 169 = .ok (.ireturn, 1) := by decide +kernel
theorem dX7_lineOrFirst_0 : decode cX7_lineOrFirst 0 = .ok (.aload_n 0, 1) := by decide +kernel
theorem dX7_lineOrFirst_1 : decode cX7_lineOrFirst 1 = .ok (.iload_n 1, 1) := by decide +kernel
theorem dX7_lineOrFirst_2 : decode cX7_lineOrFirst 2 = .ok (.invokevirtual 152, 3) := by decide +kernel
theorem dX7_lineOrFirst_5 : decode cX7_lineOrFirst 5 = .ok (.ifCond .eq 12, 3) := by decide +kernel
theorem dX7_lineOrFirst_8 : decode cX7_lineOrFirst 8 = .ok (.aload_n 0, 1) := by decide +kernel
theorem dX7_lineOrFirst_9 : decode cX7_lineOrFirst 9 = .ok (.getfield 39, 3) := by decide +kernel
theorem dX7_lineOrFirst_12 : decode cX7_lineOrFirst 12 = .ok (.iload_n 1, 1) := by decide +kernel
theorem dX7_lineOrFirst_13 : decode cX7_lineOrFirst 13 = .ok (.aaload, 1) := by decide +kernel
theorem dX7_lineOrFirst_14 : decode cX7_lineOrFirst 14 = .ok (.goto 9, 3) := by decide +kernel
theorem dX7_lineOrFirst_17 : decode cX7_lineOrFirst 17 = .ok (.aload_n 0, 1) := by decide +kernel
theorem dX7_lineOrFirst_18 : decode cX7_lineOrFirst 18 = .ok (.getfield 39, 3) := by decide +kernel
theorem dX7_lineOrFirst_21 : decode cX7_lineOrFirst 21 = .ok (.iconst 0, 1) := by decide +kernel
theorem dX7_lineOrFirst_22 : decode cX7_lineOrFirst 22 = .ok (.aaload, 1) := by decide +kernel
theorem dX7_lineOrFirst_23 : decode cX7_lineOrFirst 23 = .ok (.areturn, 1) := by decide +kernel
theorem dX7_takeClaim_0 : decode cX7_takeClaim 0 = .ok (.aload_n 3, 1) := by decide +kernel
theorem dX7_takeClaim_1 : decode cX7_takeClaim 1 = .ok (.aload_n 1, 1) := by decide +kernel
theorem dX7_takeClaim_2 : decode cX7_takeClaim 2 = .ok (.getfield 156, 3) := by decide +kernel
theorem dX7_takeClaim_5 : decode cX7_takeClaim 5 = .ok (.invokevirtual 160, 3) := by decide +kernel
theorem dX7_takeClaim_8 : decode cX7_takeClaim 8 = .ok (.aload_n 0, 1) := by decide +kernel
theorem dX7_takeClaim_9 : decode cX7_takeClaim 9 = .ok (.getfield 26, 3) := by decide +kernel
theorem dX7_takeClaim_12 : decode cX7_takeClaim 12 = .ok (.aload_n 0, 1) := by decide +kernel
theorem dX7_takeClaim_13 : decode cX7_takeClaim 13 = .ok (.getfield 39, 3) := by decide +kernel
theorem dX7_takeClaim_16 : decode cX7_takeClaim 16 = .ok (.iload_n 2, 1) := by decide +kernel
theorem dX7_takeClaim_17 : decode cX7_takeClaim 17 = .ok (.iconst 1, 1) := by decide +kernel
theorem dX7_takeClaim_18 : decode cX7_takeClaim 18 = .ok (.iadd, 1) := by decide +kernel
theorem dX7_takeClaim_19 : decode cX7_takeClaim 19 = .ok (.iconst 0, 1) := by decide +kernel
theorem dX7_takeClaim_20 : decode cX7_takeClaim 20 = .ok (.iconst 0, 1) := by decide +kernel
theorem dX7_takeClaim_21 : decode cX7_takeClaim 21 = .ok (.invokevirtual 163, 3) := by decide +kernel
theorem dX7_takeClaim_24 : decode cX7_takeClaim 24 = .ok (.aload_n 0, 1) := by decide +kernel
theorem dX7_takeClaim_25 : decode cX7_takeClaim 25 = .ok (.getfield 26, 3) := by decide +kernel
theorem dX7_takeClaim_28 : decode cX7_takeClaim 28 = .ok (.getfield 167, 3) := by decide +kernel
theorem dX7_takeClaim_31 : decode cX7_takeClaim 31 = .ok (.ifCond .ne 5, 3) := by decide +kernel
theorem dX7_takeClaim_34 : decode cX7_takeClaim 34 = .ok (.iconst 2, 1) := by decide +kernel
theorem dX7_takeClaim_35 : decode cX7_takeClaim 35 = .ok (.ireturn, 1) := by decide +kernel
theorem dX7_takeClaim_36 : decode cX7_takeClaim 36 = .ok (.aload_n 3, 1) := by decide +kernel
theorem dX7_takeClaim_37 : decode cX7_takeClaim 37 = .ok (.aload_n 1, 1) := by decide +kernel
theorem dX7_takeClaim_38 : decode cX7_takeClaim 38 = .ok (.getfield 156, 3) := by decide +kernel
theorem dX7_takeClaim_41 : decode cX7_takeClaim 41 = .ok (.invokevirtual 77, 3) := by decide +kernel
theorem dX7_takeClaim_44 : decode cX7_takeClaim 44 = .ok (.iconst 0, 1) := by decide +kernel
theorem dX7_takeClaim_45 : decode cX7_takeClaim 45 = .ok (.ireturn, 1) := by decide +kernel
theorem dX7_line_0 : decode cX7_line 0 = .ok (.aload_n 0, 1) := by decide +kernel
theorem dX7_line_1 : decode cX7_line 1 = .ok (.iload_n 1, 1) := by decide +kernel
theorem dX7_line_2 : decode cX7_line 2 = .ok (.invokevirtual 152, 3) := by decide +kernel
theorem dX7_line_5 : decode cX7_line 5 = .ok (.ifCond .eq 13, 3) := by decide +kernel
theorem dX7_line_8 : decode cX7_line 8 = .ok (.iload_n 2, 1) := by decide +kernel
theorem dX7_line_9 : decode cX7_line 9 = .ok (.ifCond .lt 9, 3) := by decide +kernel
theorem dX7_line_12 : decode cX7_line 12 = .ok (.iload_n 2, 1) := by decide +kernel
theorem dX7_line_13 : decode cX7_line 13 = .ok (.bipush 6, 2) := by decide +kernel
theorem dX7_line_15 : decode cX7_line 15 = .ok (.if_icmp .le 6, 3) := by decide +kernel
theorem dX7_line_18 : decode cX7_line 18 = .ok (.ldc 171, 2) := by decide +kernel
theorem dX7_line_20 : decode cX7_line 20 = .ok (.ireturn, 1) := by decide +kernel
theorem dX7_line_21 : decode cX7_line 21 = .ok (.iload_n 2, 1) := by decide +kernel
theorem dX7_line_22 : decode cX7_line 22 = .ok (.bipush 6, 2) := by decide +kernel
theorem dX7_line_24 : decode cX7_line 24 = .ok (.if_icmp .ne 15, 3) := by decide +kernel
theorem dX7_line_27 : decode cX7_line 27 = .ok (.aload_n 0, 1) := by decide +kernel
theorem dX7_line_28 : decode cX7_line 28 = .ok (.getfield 39, 3) := by decide +kernel
theorem dX7_line_31 : decode cX7_line 31 = .ok (.iload_n 1, 1) := by decide +kernel
theorem dX7_line_32 : decode cX7_line 32 = .ok (.aaload, 1) := by decide +kernel
theorem dX7_line_33 : decode cX7_line 33 = .ok (.getfield 172, 3) := by decide +kernel
theorem dX7_line_36 : decode cX7_line 36 = .ok (.goto 14, 3) := by decide +kernel
theorem dX7_line_39 : decode cX7_line 39 = .ok (.aload_n 0, 1) := by decide +kernel
theorem dX7_line_40 : decode cX7_line 40 = .ok (.getfield 39, 3) := by decide +kernel
theorem dX7_line_43 : decode cX7_line 43 = .ok (.iload_n 1, 1) := by decide +kernel
theorem dX7_line_44 : decode cX7_line 44 = .ok (.aaload, 1) := by decide +kernel
theorem dX7_line_45 : decode cX7_line 45 = .ok (.getfield 175, 3) := by decide +kernel
theorem dX7_line_48 : decode cX7_line 48 = .ok (.iload_n 2, 1) := by decide +kernel
theorem dX7_line_49 : decode cX7_line 49 = .ok (.iaload, 1) := by decide +kernel
theorem dX7_line_50 : decode cX7_line 50 = .ok (.ireturn, 1) := by decide +kernel
theorem dX7_holds_0 : decode cX7_holds 0 = .ok (.aload_n 0, 1) := by decide +kernel
theorem dX7_holds_1 : decode cX7_holds 1 = .ok (.iload_n 1, 1) := by decide +kernel
theorem dX7_holds_2 : decode cX7_holds 2 = .ok (.invokevirtual 152, 3) := by decide +kernel
theorem dX7_holds_5 : decode cX7_holds 5 = .ok (.ifCond .eq 15, 3) := by decide +kernel
theorem dX7_holds_8 : decode cX7_holds 8 = .ok (.aload_n 0, 1) := by decide +kernel
theorem dX7_holds_9 : decode cX7_holds 9 = .ok (.getfield 39, 3) := by decide +kernel
theorem dX7_holds_12 : decode cX7_holds 12 = .ok (.iload_n 1, 1) := by decide +kernel
theorem dX7_holds_13 : decode cX7_holds 13 = .ok (.aaload, 1) := by decide +kernel
theorem dX7_holds_14 : decode cX7_holds 14 = .ok (.invokevirtual 178, 3) := by decide +kernel
theorem dX7_holds_17 : decode cX7_holds 17 = .ok (.goto 4, 3) := by decide +kernel
theorem dX7_holds_20 : decode cX7_holds 20 = .ok (.lconst 0, 1) := by decide +kernel
theorem dX7_holds_21 : decode cX7_holds 21 = .ok (.lreturn, 1) := by decide +kernel
theorem dX7_broken_0 : decode cX7_broken 0 = .ok (.aload_n 0, 1) := by decide +kernel
theorem dX7_broken_1 : decode cX7_broken 1 = .ok (.iload_n 1, 1) := by decide +kernel
theorem dX7_broken_2 : decode cX7_broken 2 = .ok (.invokevirtual 152, 3) := by decide +kernel
theorem dX7_broken_5 : decode cX7_broken 5 = .ok (.ifCond .ne 5, 3) := by decide +kernel
theorem dX7_broken_8 : decode cX7_broken 8 = .ok (.iconst (-1), 1) := by decide +kernel
theorem dX7_broken_9 : decode cX7_broken 9 = .ok (.ireturn, 1) := by decide +kernel
theorem dX7_broken_10 : decode cX7_broken 10 = .ok (.aload_n 0, 1) := by decide +kernel
theorem dX7_broken_11 : decode cX7_broken 11 = .ok (.getfield 39, 3) := by decide +kernel
theorem dX7_broken_14 : decode cX7_broken 14 = .ok (.iload_n 1, 1) := by decide +kernel
theorem dX7_broken_15 : decode cX7_broken 15 = .ok (.aaload, 1) := by decide +kernel
theorem dX7_broken_16 : decode cX7_broken 16 = .ok (.invokevirtual 182, 3) := by decide +kernel
theorem dX7_broken_19 : decode cX7_broken 19 = .ok (.ifCond .eq 7, 3) := by decide +kernel
theorem dX7_broken_22 : decode cX7_broken 22 = .ok (.iconst 1, 1) := by decide +kernel
theorem dX7_broken_23 : decode cX7_broken 23 = .ok (.goto 4, 3) := by decide +kernel
theorem dX7_broken_26 : decode cX7_broken 26 = .ok (.iconst 0, 1) := by decide +kernel
theorem dX7_broken_27 : decode cX7_broken 27 = .ok (.ireturn, 1) := by decide +kernel
theorem dX7_end_0 : decode cX7_end 0 = .ok (.iconst 0, 1) := by decide +kernel
theorem dX7_end_1 : decode cX7_end 1 = .ok (.istore_n 1, 1) := by decide +kernel
theorem dX7_end_2 : decode cX7_end 2 = .ok (.iload_n 1, 1) := by decide +kernel
theorem dX7_end_3 : decode cX7_end 3 = .ok (.aload_n 0, 1) := by decide +kernel
theorem dX7_end_4 : decode cX7_end 4 = .ok (.invokevirtual 185, 3) := by decide +kernel
theorem dX7_end_7 : decode cX7_end 7 = .ok (.if_icmp .ge 32, 3) := by decide +kernel
theorem dX7_end_10 : decode cX7_end 10 = .ok (.iload_n 1, 1) := by decide +kernel
theorem dX7_end_11 : decode cX7_end 11 = .ok (.aload_n 0, 1) := by decide +kernel
theorem dX7_end_12 : decode cX7_end 12 = .ok (.getfield 39, 3) := by decide +kernel
theorem dX7_end_15 : decode cX7_end 15 = .ok (.arraylength, 1) := by decide +kernel
theorem dX7_end_16 : decode cX7_end 16 = .ok (.if_icmp .ge 23, 3) := by decide +kernel
theorem dX7_end_19 : decode cX7_end 19 = .ok (.aload_n 0, 1) := by decide +kernel
theorem dX7_end_20 : decode cX7_end 20 = .ok (.getfield 39, 3) := by decide +kernel
theorem dX7_end_23 : decode cX7_end 23 = .ok (.iload_n 1, 1) := by decide +kernel
theorem dX7_end_24 : decode cX7_end 24 = .ok (.aaload, 1) := by decide +kernel
theorem dX7_end_25 : decode cX7_end 25 = .ok (.invokevirtual 182, 3) := by decide +kernel
theorem dX7_end_28 : decode cX7_end 28 = .ok (.ifCond .eq 5, 3) := by decide +kernel
theorem dX7_end_31 : decode cX7_end 31 = .ok (.iload_n 1, 1) := by decide +kernel
theorem dX7_end_32 : decode cX7_end 32 = .ok (.ireturn, 1) := by decide +kernel
theorem dX7_end_33 : decode cX7_end 33 = .ok (.iinc 1 1, 3) := by decide +kernel
theorem dX7_end_36 : decode cX7_end 36 = .ok (.goto (-34), 3) := by decide +kernel
theorem dX7_end_39 : decode cX7_end 39 = .ok (.bipush (-9), 2) := by decide +kernel
theorem dX7_end_41 : decode cX7_end 41 = .ok (.ireturn, 1) := by decide +kernel
theorem dX7_both_0 : decode cX7_both 0 = .ok (.aload_n 0, 1) := by decide +kernel
theorem dX7_both_1 : decode cX7_both 1 = .ok (.iload_n 1, 1) := by decide +kernel
theorem dX7_both_2 : decode cX7_both 2 = .ok (.invokevirtual 152, 3) := by decide +kernel
theorem dX7_both_5 : decode cX7_both 5 = .ok (.ifCond .eq 20, 3) := by decide +kernel
theorem dX7_both_8 : decode cX7_both 8 = .ok (.aload_n 0, 1) := by decide +kernel
theorem dX7_both_9 : decode cX7_both 9 = .ok (.iload_n 2, 1) := by decide +kernel
theorem dX7_both_10 : decode cX7_both 10 = .ok (.invokevirtual 152, 3) := by decide +kernel
theorem dX7_both_13 : decode cX7_both 13 = .ok (.ifCond .eq 12, 3) := by decide +kernel
theorem dX7_both_16 : decode cX7_both 16 = .ok (.iload_n 3, 1) := by decide +kernel
theorem dX7_both_17 : decode cX7_both 17 = .ok (.ifCond .lt 8, 3) := by decide +kernel
theorem dX7_both_20 : decode cX7_both 20 = .ok (.iload_n 3, 1) := by decide +kernel
theorem dX7_both_21 : decode cX7_both 21 = .ok (.iconst 1, 1) := by decide +kernel
theorem dX7_both_22 : decode cX7_both 22 = .ok (.if_icmp .le 5, 3) := by decide +kernel
theorem dX7_both_25 : decode cX7_both 25 = .ok (.iconst (-1), 1) := by decide +kernel
theorem dX7_both_26 : decode cX7_both 26 = .ok (.ireturn, 1) := by decide +kernel
theorem dX7_both_27 : decode cX7_both 27 = .ok (.aload_n 0, 1) := by decide +kernel
theorem dX7_both_28 : decode cX7_both 28 = .ok (.getfield 39, 3) := by decide +kernel
theorem dX7_both_31 : decode cX7_both 31 = .ok (.iload_n 1, 1) := by decide +kernel
theorem dX7_both_32 : decode cX7_both 32 = .ok (.aaload, 1) := by decide +kernel
theorem dX7_both_33 : decode cX7_both 33 = .ok (.invokevirtual 178, 3) := by decide +kernel
theorem dX7_both_36 : decode cX7_both 36 = .ok (.lstore 4, 2) := by decide +kernel
theorem dX7_both_38 : decode cX7_both 38 = .ok (.aload_n 0, 1) := by decide +kernel
theorem dX7_both_39 : decode cX7_both 39 = .ok (.getfield 39, 3) := by decide +kernel
theorem dX7_both_42 : decode cX7_both 42 = .ok (.iload_n 2, 1) := by decide +kernel
theorem dX7_both_43 : decode cX7_both 43 = .ok (.aaload, 1) := by decide +kernel
theorem dX7_both_44 : decode cX7_both 44 = .ok (.invokevirtual 178, 3) := by decide +kernel
theorem dX7_both_47 : decode cX7_both 47 = .ok (.lstore 6, 2) := by decide +kernel
theorem dX7_both_49 : decode cX7_both 49 = .ok (.iload_n 3, 1) := by decide +kernel
theorem dX7_both_50 : decode cX7_both 50 = .ok (.ifCond .ne 19, 3) := by decide +kernel
theorem dX7_both_53 : decode cX7_both 53 = .ok (.lload 4, 2) := by decide +kernel
theorem dX7_both_55 : decode cX7_both 55 = .ok (.lload 6, 2) := by decide +kernel
theorem dX7_both_57 : decode cX7_both 57 = .ok (.lcmp, 1) := by decide +kernel
theorem dX7_both_58 : decode cX7_both 58 = .ok (.ifCond .ne 7, 3) := by decide +kernel
theorem dX7_both_61 : decode cX7_both 61 = .ok (.iconst 1, 1) := by decide +kernel
theorem dX7_both_62 : decode cX7_both 62 = .ok (.goto 14, 3) := by decide +kernel
theorem dX7_both_65 : decode cX7_both 65 = .ok (.iconst 0, 1) := by decide +kernel
theorem dX7_both_66 : decode cX7_both 66 = .ok (.goto 10, 3) := by decide +kernel
theorem dX7_both_69 : decode cX7_both 69 = .ok (.lload 4, 2) := by decide +kernel
theorem dX7_both_71 : decode cX7_both 71 = .ok (.lload 6, 2) := by decide +kernel
theorem dX7_both_73 : decode cX7_both 73 = .ok (.invokestatic 188, 3) := by decide +kernel
theorem dX7_both_76 : decode cX7_both 76 = .ok (.istore 8, 2) := by decide +kernel
theorem dX7_both_78 : decode cX7_both 78 = .ok (.iload 8, 2) := by decide +kernel
theorem dX7_both_80 : decode cX7_both 80 = .ok (.ifCond .eq 7, 3) := by decide +kernel
theorem dX7_both_83 : decode cX7_both 83 = .ok (.iconst 1, 1) := by decide +kernel
theorem dX7_both_84 : decode cX7_both 84 = .ok (.goto 4, 3) := by decide +kernel
theorem dX7_both_87 : decode cX7_both 87 = .ok (.iconst 0, 1) := by decide +kernel
theorem dX7_both_88 : decode cX7_both 88 = .ok (.ireturn, 1) := by decide +kernel
theorem dX7_lineCount_0 : decode cX7_lineCount 0 = .ok (.aload_n 0, 1) := by decide +kernel
theorem dX7_lineCount_1 : decode cX7_lineCount 1 = .ok (.getfield 81, 3) := by decide +kernel
theorem dX7_lineCount_4 : decode cX7_lineCount 4 = .ok (.aload_n 0, 1) := by decide +kernel
theorem dX7_lineCount_5 : decode cX7_lineCount 5 = .ok (.getfield 97, 3) := by decide +kernel
theorem dX7_lineCount_8 : decode cX7_lineCount 8 = .ok (.iadd, 1) := by decide +kernel
theorem dX7_lineCount_9 : decode cX7_lineCount 9 = .ok (.ireturn, 1) := by decide +kernel
theorem dX7_isLine_0 : decode cX7_isLine 0 = .ok (.iload_n 1, 1) := by decide +kernel
theorem dX7_isLine_1 : decode cX7_isLine 1 = .ok (.ifCond .lt 24, 3) := by decide +kernel
theorem dX7_isLine_4 : decode cX7_isLine 4 = .ok (.iload_n 1, 1) := by decide +kernel
theorem dX7_isLine_5 : decode cX7_isLine 5 = .ok (.aload_n 0, 1) := by decide +kernel
theorem dX7_isLine_6 : decode cX7_isLine 6 = .ok (.invokevirtual 185, 3) := by decide +kernel
theorem dX7_isLine_9 : decode cX7_isLine 9 = .ok (.if_icmp .ge 16, 3) := by decide +kernel
theorem dX7_isLine_12 : decode cX7_isLine 12 = .ok (.iload_n 1, 1) := by decide +kernel
theorem dX7_isLine_13 : decode cX7_isLine 13 = .ok (.aload_n 0, 1) := by decide +kernel
theorem dX7_isLine_14 : decode cX7_isLine 14 = .ok (.getfield 39, 3) := by decide +kernel
theorem dX7_isLine_17 : decode cX7_isLine 17 = .ok (.arraylength, 1) := by decide +kernel
theorem dX7_isLine_18 : decode cX7_isLine 18 = .ok (.if_icmp .ge 7, 3) := by decide +kernel
theorem dX7_isLine_21 : decode cX7_isLine 21 = .ok (.iconst 1, 1) := by decide +kernel
theorem dX7_isLine_22 : decode cX7_isLine 22 = .ok (.goto 4, 3) := by decide +kernel
theorem dX7_isLine_25 : decode cX7_isLine 25 = .ok (.iconst 0, 1) := by decide +kernel
theorem dX7_isLine_26 : decode cX7_isLine 26 = .ok (.ireturn, 1) := by decide +kernel
theorem dX7_isWithin_0 : decode cX7_isWithin 0 = .ok (.lload_n 0, 1) := by decide +kernel
theorem dX7_isWithin_1 : decode cX7_isWithin 1 = .ok (.lload_n 2, 1) := by decide +kernel
theorem dX7_isWithin_2 : decode cX7_isWithin 2 = .ok (.ldc2_w 192, 3) := by decide +kernel
theorem dX7_isWithin_5 : decode cX7_isWithin 5 = .ok (.lxor, 1) := by decide +kernel
theorem dX7_isWithin_6 : decode cX7_isWithin 6 = .ok (.land, 1) := by decide +kernel
theorem dX7_isWithin_7 : decode cX7_isWithin 7 = .ok (.lconst 0, 1) := by decide +kernel
theorem dX7_isWithin_8 : decode cX7_isWithin 8 = .ok (.lcmp, 1) := by decide +kernel
theorem dX7_isWithin_9 : decode cX7_isWithin 9 = .ok (.ifCond .ne 7, 3) := by decide +kernel
theorem dX7_isWithin_12 : decode cX7_isWithin 12 = .ok (.iconst 1, 1) := by decide +kernel
theorem dX7_isWithin_13 : decode cX7_isWithin 13 = .ok (.goto 4, 3) := by decide +kernel
theorem dX7_isWithin_16 : decode cX7_isWithin 16 = .ok (.iconst 0, 1) := by decide +kernel
theorem dX7_isWithin_17 : decode cX7_isWithin 17 = .ok (.ireturn, 1) := by decide +kernel
theorem dX7_forced_0 : decode cX7_forced 0 = .ok (.iload_n 1, 1) := by decide +kernel
theorem dX7_forced_1 : decode cX7_forced 1 = .ok (.ifCond .lt 25, 3) := by decide +kernel
theorem dX7_forced_4 : decode cX7_forced 4 = .ok (.iload_n 1, 1) := by decide +kernel
theorem dX7_forced_5 : decode cX7_forced 5 = .ok (.aload_n 0, 1) := by decide +kernel
theorem dX7_forced_6 : decode cX7_forced 6 = .ok (.invokevirtual 185, 3) := by decide +kernel
theorem dX7_forced_9 : decode cX7_forced 9 = .ok (.if_icmp .gt 17, 3) := by decide +kernel
theorem dX7_forced_12 : decode cX7_forced 12 = .ok (.iload_n 2, 1) := by decide +kernel
theorem dX7_forced_13 : decode cX7_forced 13 = .ok (.invokestatic 194, 3) := by decide +kernel
theorem dX7_forced_16 : decode cX7_forced 16 = .ok (.ifCond .eq 10, 3) := by decide +kernel
theorem dX7_forced_19 : decode cX7_forced 19 = .ok (.iload_n 3, 1) := by decide +kernel
theorem dX7_forced_20 : decode cX7_forced 20 = .ok (.invokestatic 194, 3) := by decide +kernel
theorem dX7_forced_23 : decode cX7_forced 23 = .ok (.ifCond .ne 5, 3) := by decide +kernel
theorem dX7_forced_26 : decode cX7_forced 26 = .ok (.iconst (-1), 1) := by decide +kernel
theorem dX7_forced_27 : decode cX7_forced 27 = .ok (.ireturn, 1) := by decide +kernel
theorem dX7_forced_28 : decode cX7_forced 28 = .ok (.iload_n 2, 1) := by decide +kernel
theorem dX7_forced_29 : decode cX7_forced 29 = .ok (.iload_n 3, 1) := by decide +kernel
theorem dX7_forced_30 : decode cX7_forced 30 = .ok (.iand, 1) := by decide +kernel
theorem dX7_forced_31 : decode cX7_forced 31 = .ok (.ifCond .ne 14, 3) := by decide +kernel
theorem dX7_forced_34 : decode cX7_forced 34 = .ok (.iload 4, 2) := by decide +kernel
theorem dX7_forced_36 : decode cX7_forced 36 = .ok (.ifCond .lt 9, 3) := by decide +kernel
theorem dX7_forced_39 : decode cX7_forced 39 = .ok (.iload 4, 2) := by decide +kernel
theorem dX7_forced_41 : decode cX7_forced 41 = .ok (.iconst 2, 1) := by decide +kernel
theorem dX7_forced_42 : decode cX7_forced 42 = .ok (.if_icmp .le 5, 3) := by decide +kernel
theorem dX7_forced_45 : decode cX7_forced 45 = .ok (.iconst (-1), 1) := by decide +kernel
theorem dX7_forced_46 : decode cX7_forced 46 = .ok (.ireturn, 1) := by decide +kernel
theorem dX7_forced_47 : decode cX7_forced 47 = .ok (.aload_n 0, 1) := by decide +kernel
theorem dX7_forced_48 : decode cX7_forced 48 = .ok (.getfield 26, 3) := by decide +kernel
theorem dX7_forced_51 : decode cX7_forced 51 = .ok (.aload_n 0, 1) := by decide +kernel
theorem dX7_forced_52 : decode cX7_forced 52 = .ok (.getfield 39, 3) := by decide +kernel
theorem dX7_forced_55 : decode cX7_forced 55 = .ok (.iload_n 1, 1) := by decide +kernel
theorem dX7_forced_56 : decode cX7_forced 56 = .ok (.iload_n 2, 1) := by decide +kernel
theorem dX7_forced_57 : decode cX7_forced 57 = .ok (.iload_n 3, 1) := by decide +kernel
theorem dX7_forced_58 : decode cX7_forced 58 = .ok (.invokevirtual 163, 3) := by decide +kernel
theorem dX7_forced_61 : decode cX7_forced 61 = .ok (.iload 4, 2) := by decide +kernel
theorem dX7_forced_63 : decode cX7_forced 63 = .ok (.ifCond .ne 11, 3) := by decide +kernel
theorem dX7_forced_66 : decode cX7_forced 66 = .ok (.aload_n 0, 1) := by decide +kernel
theorem dX7_forced_67 : decode cX7_forced 67 = .ok (.getfield 26, 3) := by decide +kernel
theorem dX7_forced_70 : decode cX7_forced 70 = .ok (.getfield 197, 3) := by decide +kernel
theorem dX7_forced_73 : decode cX7_forced 73 = .ok (.ireturn, 1) := by decide +kernel
theorem dX7_forced_74 : decode cX7_forced 74 = .ok (.iload 4, 2) := by decide +kernel
theorem dX7_forced_76 : decode cX7_forced 76 = .ok (.iconst 1, 1) := by decide +kernel
theorem dX7_forced_77 : decode cX7_forced 77 = .ok (.if_icmp .ne 11, 3) := by decide +kernel
theorem dX7_forced_80 : decode cX7_forced 80 = .ok (.aload_n 0, 1) := by decide +kernel
theorem dX7_forced_81 : decode cX7_forced 81 = .ok (.getfield 26, 3) := by decide +kernel
theorem dX7_forced_84 : decode cX7_forced 84 = .ok (.getfield 200, 3) := by decide +kernel
theorem dX7_forced_87 : decode cX7_forced 87 = .ok (.ireturn, 1) := by decide +kernel
theorem dX7_forced_88 : decode cX7_forced 88 = .ok (.aload_n 0, 1) := by decide +kernel
theorem dX7_forced_89 : decode cX7_forced 89 = .ok (.getfield 26, 3) := by decide +kernel
theorem dX7_forced_92 : decode cX7_forced 92 = .ok (.getfield 167, 3) := by decide +kernel
theorem dX7_forced_95 : decode cX7_forced 95 = .ok (.ifCond .eq 7, 3) := by decide +kernel
theorem dX7_forced_98 : decode cX7_forced 98 = .ok (.iconst 1, 1) := by decide +kernel
theorem dX7_forced_99 : decode cX7_forced 99 = .ok (.goto 4, 3) := by decide +kernel
theorem dX7_forced_102 : decode cX7_forced 102 = .ok (.iconst 0, 1) := by decide +kernel
theorem dX7_forced_103 : decode cX7_forced 103 = .ok (.ireturn, 1) := by decide +kernel
theorem dX7_isLetterSet_0 : decode cX7_isLetterSet 0 = .ok (.iload_n 0, 1) := by decide +kernel
theorem dX7_isLetterSet_1 : decode cX7_isLetterSet 1 = .ok (.ifCond .lt 13, 3) := by decide +kernel
theorem dX7_isLetterSet_4 : decode cX7_isLetterSet 4 = .ok (.iload_n 0, 1) := by decide +kernel
theorem dX7_isLetterSet_5 : decode cX7_isLetterSet 5 = .ok (.bipush 63, 2) := by decide +kernel
theorem dX7_isLetterSet_7 : decode cX7_isLetterSet 7 = .ok (.if_icmp .gt 7, 3) := by decide +kernel
theorem dX7_isLetterSet_10 : decode cX7_isLetterSet 10 = .ok (.iconst 1, 1) := by decide +kernel
theorem dX7_isLetterSet_11 : decode cX7_isLetterSet 11 = .ok (.goto 4, 3) := by decide +kernel
theorem dX7_isLetterSet_14 : decode cX7_isLetterSet 14 = .ok (.iconst 0, 1) := by decide +kernel
theorem dX7_isLetterSet_15 : decode cX7_isLetterSet 15 = .ok (.ireturn, 1) := by decide +kernel
theorem dX7_trues_0 : decode cX7_trues 0 = .ok (.aload_n 0, 1) := by decide +kernel
theorem dX7_trues_1 : decode cX7_trues 1 = .ok (.invokevirtual 203, 3) := by decide +kernel
theorem dX7_trues_4 : decode cX7_trues 4 = .ok (.lreturn, 1) := by decide +kernel
theorem dX7_told_0 : decode cX7_told 0 = .ok (.aload_n 0, 1) := by decide +kernel
theorem dX7_told_1 : decode cX7_told 1 = .ok (.iload_n 1, 1) := by decide +kernel
theorem dX7_told_2 : decode cX7_told 2 = .ok (.invokevirtual 152, 3) := by decide +kernel
theorem dX7_told_5 : decode cX7_told 5 = .ok (.ifCond .ne 5, 3) := by decide +kernel
theorem dX7_told_8 : decode cX7_told 8 = .ok (.iconst (-1), 1) := by decide +kernel
theorem dX7_told_9 : decode cX7_told 9 = .ok (.ireturn, 1) := by decide +kernel
theorem dX7_told_10 : decode cX7_told 10 = .ok (.aload_n 0, 1) := by decide +kernel
theorem dX7_told_11 : decode cX7_told 11 = .ok (.invokevirtual 203, 3) := by decide +kernel
theorem dX7_told_14 : decode cX7_told 14 = .ok (.aload_n 0, 1) := by decide +kernel
theorem dX7_told_15 : decode cX7_told 15 = .ok (.getfield 39, 3) := by decide +kernel
theorem dX7_told_18 : decode cX7_told 18 = .ok (.iload_n 1, 1) := by decide +kernel
theorem dX7_told_19 : decode cX7_told 19 = .ok (.aaload, 1) := by decide +kernel
theorem dX7_told_20 : decode cX7_told 20 = .ok (.invokevirtual 178, 3) := by decide +kernel
theorem dX7_told_23 : decode cX7_told 23 = .ok (.invokestatic 188, 3) := by decide +kernel
theorem dX7_told_26 : decode cX7_told 26 = .ok (.ifCond .eq 7, 3) := by decide +kernel
theorem dX7_told_29 : decode cX7_told 29 = .ok (.iconst 1, 1) := by decide +kernel
theorem dX7_told_30 : decode cX7_told 30 = .ok (.goto 4, 3) := by decide +kernel
theorem dX7_told_33 : decode cX7_told 33 = .ok (.iconst 0, 1) := by decide +kernel
theorem dX7_told_34 : decode cX7_told 34 = .ok (.ireturn, 1) := by decide +kernel
theorem dX7_tight_0 : decode cX7_tight 0 = .ok (.aload_n 0, 1) := by decide +kernel
theorem dX7_tight_1 : decode cX7_tight 1 = .ok (.iload_n 1, 1) := by decide +kernel
theorem dX7_tight_2 : decode cX7_tight 2 = .ok (.invokevirtual 152, 3) := by decide +kernel
theorem dX7_tight_5 : decode cX7_tight 5 = .ok (.ifCond .ne 5, 3) := by decide +kernel
theorem dX7_tight_8 : decode cX7_tight 8 = .ok (.iconst (-1), 1) := by decide +kernel
theorem dX7_tight_9 : decode cX7_tight 9 = .ok (.ireturn, 1) := by decide +kernel
theorem dX7_tight_10 : decode cX7_tight 10 = .ok (.aload_n 0, 1) := by decide +kernel
theorem dX7_tight_11 : decode cX7_tight 11 = .ok (.invokevirtual 203, 3) := by decide +kernel
theorem dX7_tight_14 : decode cX7_tight 14 = .ok (.lstore_n 2, 1) := by decide +kernel
theorem dX7_tight_15 : decode cX7_tight 15 = .ok (.bipush (-9), 2) := by decide +kernel
theorem dX7_tight_17 : decode cX7_tight 17 = .ok (.istore 4, 2) := by decide +kernel
theorem dX7_tight_19 : decode cX7_tight 19 = .ok (.iconst 0, 1) := by decide +kernel
theorem dX7_tight_20 : decode cX7_tight 20 = .ok (.istore 5, 2) := by decide +kernel
theorem dX7_tight_22 : decode cX7_tight 22 = .ok (.iload 5, 2) := by decide +kernel
theorem dX7_tight_24 : decode cX7_tight 24 = .ok (.bipush 64, 2) := by decide +kernel
theorem dX7_tight_26 : decode cX7_tight 26 = .ok (.if_icmp .ge 49, 3) := by decide +kernel
theorem dX7_tight_29 : decode cX7_tight 29 = .ok (.lload_n 2, 1) := by decide +kernel
theorem dX7_tight_30 : decode cX7_tight 30 = .ok (.iload 5, 2) := by decide +kernel
theorem dX7_tight_32 : decode cX7_tight 32 = .ok (.invokestatic 206, 3) := by decide +kernel
theorem dX7_tight_35 : decode cX7_tight 35 = .ok (.ifCond .eq 34, 3) := by decide +kernel
theorem dX7_tight_38 : decode cX7_tight 38 = .ok (.aload_n 0, 1) := by decide +kernel
theorem dX7_tight_39 : decode cX7_tight 39 = .ok (.getfield 39, 3) := by decide +kernel
theorem dX7_tight_42 : decode cX7_tight 42 = .ok (.iload_n 1, 1) := by decide +kernel
theorem dX7_tight_43 : decode cX7_tight 43 = .ok (.aaload, 1) := by decide +kernel
theorem dX7_tight_44 : decode cX7_tight 44 = .ok (.iload 5, 2) := by decide +kernel
theorem dX7_tight_46 : decode cX7_tight 46 = .ok (.invokevirtual 210, 3) := by decide +kernel
theorem dX7_tight_49 : decode cX7_tight 49 = .ok (.istore 6, 2) := by decide +kernel
theorem dX7_tight_51 : decode cX7_tight 51 = .ok (.iload 4, 2) := by decide +kernel
theorem dX7_tight_53 : decode cX7_tight 53 = .ok (.bipush (-9), 2) := by decide +kernel
theorem dX7_tight_55 : decode cX7_tight 55 = .ok (.if_icmp .eq 10, 3) := by decide +kernel
theorem dX7_tight_58 : decode cX7_tight 58 = .ok (.iload 6, 2) := by decide +kernel
theorem dX7_tight_60 : decode cX7_tight 60 = .ok (.iload 4, 2) := by decide +kernel
theorem dX7_tight_62 : decode cX7_tight 62 = .ok (.if_icmp .ge 7, 3) := by decide +kernel
theorem dX7_tight_65 : decode cX7_tight 65 = .ok (.iload 6, 2) := by decide +kernel
theorem dX7_tight_67 : decode cX7_tight 67 = .ok (.istore 4, 2) := by decide +kernel
theorem dX7_tight_69 : decode cX7_tight 69 = .ok (.iinc 5 1, 3) := by decide +kernel
theorem dX7_tight_72 : decode cX7_tight 72 = .ok (.goto (-50), 3) := by decide +kernel
theorem dX7_tight_75 : decode cX7_tight 75 = .ok (.iload 4, 2) := by decide +kernel
theorem dX7_tight_77 : decode cX7_tight 77 = .ok (.ireturn, 1) := by decide +kernel
theorem dX7_needed_0 : decode cX7_needed 0 = .ok (.aload_n 0, 1) := by decide +kernel
theorem dX7_needed_1 : decode cX7_needed 1 = .ok (.iload_n 1, 1) := by decide +kernel
theorem dX7_needed_2 : decode cX7_needed 2 = .ok (.invokevirtual 152, 3) := by decide +kernel
theorem dX7_needed_5 : decode cX7_needed 5 = .ok (.ifCond .eq 12, 3) := by decide +kernel
theorem dX7_needed_8 : decode cX7_needed 8 = .ok (.iload_n 2, 1) := by decide +kernel
theorem dX7_needed_9 : decode cX7_needed 9 = .ok (.ifCond .lt 8, 3) := by decide +kernel
theorem dX7_needed_12 : decode cX7_needed 12 = .ok (.iload_n 2, 1) := by decide +kernel
theorem dX7_needed_13 : decode cX7_needed 13 = .ok (.iconst 1, 1) := by decide +kernel
theorem dX7_needed_14 : decode cX7_needed 14 = .ok (.if_icmp .le 5, 3) := by decide +kernel
theorem dX7_needed_17 : decode cX7_needed 17 = .ok (.iconst (-1), 1) := by decide +kernel
theorem dX7_needed_18 : decode cX7_needed 18 = .ok (.ireturn, 1) := by decide +kernel
theorem dX7_needed_19 : decode cX7_needed 19 = .ok (.aload_n 0, 1) := by decide +kernel
theorem dX7_needed_20 : decode cX7_needed 20 = .ok (.aload_n 0, 1) := by decide +kernel
theorem dX7_needed_21 : decode cX7_needed 21 = .ok (.getfield 39, 3) := by decide +kernel
theorem dX7_needed_24 : decode cX7_needed 24 = .ok (.iload_n 1, 1) := by decide +kernel
theorem dX7_needed_25 : decode cX7_needed 25 = .ok (.aaload, 1) := by decide +kernel
theorem dX7_needed_26 : decode cX7_needed 26 = .ok (.invokevirtual 178, 3) := by decide +kernel
theorem dX7_needed_29 : decode cX7_needed 29 = .ok (.invokevirtual 214, 3) := by decide +kernel
theorem dX7_needed_32 : decode cX7_needed 32 = .ok (.istore_n 3, 1) := by decide +kernel
theorem dX7_needed_33 : decode cX7_needed 33 = .ok (.iload_n 3, 1) := by decide +kernel
theorem dX7_needed_34 : decode cX7_needed 34 = .ok (.bipush (-9), 2) := by decide +kernel
theorem dX7_needed_36 : decode cX7_needed 36 = .ok (.if_icmp .ne 6, 3) := by decide +kernel
theorem dX7_needed_39 : decode cX7_needed 39 = .ok (.bipush (-9), 2) := by decide +kernel
theorem dX7_needed_41 : decode cX7_needed 41 = .ok (.ireturn, 1) := by decide +kernel
theorem dX7_needed_42 : decode cX7_needed 42 = .ok (.iload_n 2, 1) := by decide +kernel
theorem dX7_needed_43 : decode cX7_needed 43 = .ok (.ifCond .ne 10, 3) := by decide +kernel
theorem dX7_needed_46 : decode cX7_needed 46 = .ok (.iload_n 3, 1) := by decide +kernel
theorem dX7_needed_47 : decode cX7_needed 47 = .ok (.invokestatic 218, 3) := by decide +kernel
theorem dX7_needed_50 : decode cX7_needed 50 = .ok (.goto 4, 3) := by decide +kernel
theorem dX7_needed_53 : decode cX7_needed 53 = .ok (.iload_n 3, 1) := by decide +kernel
theorem dX7_needed_54 : decode cX7_needed 54 = .ok (.ireturn, 1) := by decide +kernel
theorem dX7_covers_0 : decode cX7_covers 0 = .ok (.aload_n 0, 1) := by decide +kernel
theorem dX7_covers_1 : decode cX7_covers 1 = .ok (.iload_n 1, 1) := by decide +kernel
theorem dX7_covers_2 : decode cX7_covers 2 = .ok (.invokevirtual 152, 3) := by decide +kernel
theorem dX7_covers_5 : decode cX7_covers 5 = .ok (.ifCond .eq 8, 3) := by decide +kernel
theorem dX7_covers_8 : decode cX7_covers 8 = .ok (.iload_n 2, 1) := by decide +kernel
theorem dX7_covers_9 : decode cX7_covers 9 = .ok (.iconst (-1), 1) := by decide +kernel
theorem dX7_covers_10 : decode cX7_covers 10 = .ok (.if_icmp .ge 5, 3) := by decide +kernel
theorem dX7_covers_13 : decode cX7_covers 13 = .ok (.iconst (-1), 1) := by decide +kernel
theorem dX7_covers_14 : decode cX7_covers 14 = .ok (.ireturn, 1) := by decide +kernel
theorem dX7_covers_15 : decode cX7_covers 15 = .ok (.iconst 0, 1) := by decide +kernel
theorem dX7_covers_16 : decode cX7_covers 16 = .ok (.istore_n 3, 1) := by decide +kernel
theorem dX7_covers_17 : decode cX7_covers 17 = .ok (.iconst 0, 1) := by decide +kernel
theorem dX7_covers_18 : decode cX7_covers 18 = .ok (.istore 4, 2) := by decide +kernel
theorem dX7_covers_20 : decode cX7_covers 20 = .ok (.iload 4, 2) := by decide +kernel
theorem dX7_covers_22 : decode cX7_covers 22 = .ok (.bipush 63, 2) := by decide +kernel
theorem dX7_covers_24 : decode cX7_covers 24 = .ok (.if_icmp .gt 34, 3) := by decide +kernel
theorem dX7_covers_27 : decode cX7_covers 27 = .ok (.aload_n 0, 1) := by decide +kernel
theorem dX7_covers_28 : decode cX7_covers 28 = .ok (.getfield 39, 3) := by decide +kernel
theorem dX7_covers_31 : decode cX7_covers 31 = .ok (.iload_n 1, 1) := by decide +kernel
theorem dX7_covers_32 : decode cX7_covers 32 = .ok (.aaload, 1) := by decide +kernel
theorem dX7_covers_33 : decode cX7_covers 33 = .ok (.iload 4, 2) := by decide +kernel
theorem dX7_covers_35 : decode cX7_covers 35 = .ok (.invokevirtual 223, 3) := by decide +kernel
theorem dX7_covers_38 : decode cX7_covers 38 = .ok (.ifCond .eq 14, 3) := by decide +kernel
theorem dX7_covers_41 : decode cX7_covers 41 = .ok (.iload_n 3, 1) := by decide +kernel
theorem dX7_covers_42 : decode cX7_covers 42 = .ok (.iload_n 2, 1) := by decide +kernel
theorem dX7_covers_43 : decode cX7_covers 43 = .ok (.if_icmp .ne 6, 3) := by decide +kernel
theorem dX7_covers_46 : decode cX7_covers 46 = .ok (.iload 4, 2) := by decide +kernel
theorem dX7_covers_48 : decode cX7_covers 48 = .ok (.ireturn, 1) := by decide +kernel
theorem dX7_covers_49 : decode cX7_covers 49 = .ok (.iinc 3 1, 3) := by decide +kernel
theorem dX7_covers_52 : decode cX7_covers 52 = .ok (.iinc 4 1, 3) := by decide +kernel
theorem dX7_covers_55 : decode cX7_covers 55 = .ok (.goto (-35), 3) := by decide +kernel
theorem dX7_covers_58 : decode cX7_covers 58 = .ok (.iload_n 2, 1) := by decide +kernel
theorem dX7_covers_59 : decode cX7_covers 59 = .ok (.iconst (-1), 1) := by decide +kernel
theorem dX7_covers_60 : decode cX7_covers 60 = .ok (.if_icmp .ne 7, 3) := by decide +kernel
theorem dX7_covers_63 : decode cX7_covers 63 = .ok (.iload_n 3, 1) := by decide +kernel
theorem dX7_covers_64 : decode cX7_covers 64 = .ok (.goto 4, 3) := by decide +kernel
theorem dX7_covers_67 : decode cX7_covers 67 = .ok (.iconst (-1), 1) := by decide +kernel
theorem dX7_covers_68 : decode cX7_covers 68 = .ok (.ireturn, 1) := by decide +kernel
theorem dX7_cost_0 : decode cX7_cost 0 = .ok (.iload_n 1, 1) := by decide +kernel
theorem dX7_cost_1 : decode cX7_cost 1 = .ok (.ifCond .lt 19, 3) := by decide +kernel
theorem dX7_cost_4 : decode cX7_cost 4 = .ok (.iload_n 1, 1) := by decide +kernel
theorem dX7_cost_5 : decode cX7_cost 5 = .ok (.bipush 6, 2) := by decide +kernel
theorem dX7_cost_7 : decode cX7_cost 7 = .ok (.if_icmp .ge 13, 3) := by decide +kernel
theorem dX7_cost_10 : decode cX7_cost 10 = .ok (.iload_n 2, 1) := by decide +kernel
theorem dX7_cost_11 : decode cX7_cost 11 = .ok (.ifCond .lt 9, 3) := by decide +kernel
theorem dX7_cost_14 : decode cX7_cost 14 = .ok (.iload_n 2, 1) := by decide +kernel
theorem dX7_cost_15 : decode cX7_cost 15 = .ok (.bipush 99, 2) := by decide +kernel
theorem dX7_cost_17 : decode cX7_cost 17 = .ok (.if_icmp .le 5, 3) := by decide +kernel
theorem dX7_cost_20 : decode cX7_cost 20 = .ok (.iconst (-1), 1) := by decide +kernel
theorem dX7_cost_21 : decode cX7_cost 21 = .ok (.ireturn, 1) := by decide +kernel
theorem dX7_cost_22 : decode cX7_cost 22 = .ok (.aload_n 0, 1) := by decide +kernel
theorem dX7_cost_23 : decode cX7_cost 23 = .ok (.getfield 48, 3) := by decide +kernel
theorem dX7_cost_26 : decode cX7_cost 26 = .ok (.iload_n 1, 1) := by decide +kernel
theorem dX7_cost_27 : decode cX7_cost 27 = .ok (.iaload, 1) := by decide +kernel
theorem dX7_cost_28 : decode cX7_cost 28 = .ok (.istore_n 3, 1) := by decide +kernel
theorem dX7_cost_29 : decode cX7_cost 29 = .ok (.aload_n 0, 1) := by decide +kernel
theorem dX7_cost_30 : decode cX7_cost 30 = .ok (.getfield 48, 3) := by decide +kernel
theorem dX7_cost_33 : decode cX7_cost 33 = .ok (.iload_n 1, 1) := by decide +kernel
theorem dX7_cost_34 : decode cX7_cost 34 = .ok (.iload_n 2, 1) := by decide +kernel
theorem dX7_cost_35 : decode cX7_cost 35 = .ok (.iastore, 1) := by decide +kernel
theorem dX7_cost_36 : decode cX7_cost 36 = .ok (.iload_n 3, 1) := by decide +kernel
theorem dX7_cost_37 : decode cX7_cost 37 = .ok (.ireturn, 1) := by decide +kernel
theorem dX7_least_0 : decode cX7_least 0 = .ok (.iload_n 1, 1) := by decide +kernel
theorem dX7_least_1 : decode cX7_least 1 = .ok (.ifCond .lt 8, 3) := by decide +kernel
theorem dX7_least_4 : decode cX7_least 4 = .ok (.iload_n 1, 1) := by decide +kernel
theorem dX7_least_5 : decode cX7_least 5 = .ok (.iconst 1, 1) := by decide +kernel
theorem dX7_least_6 : decode cX7_least 6 = .ok (.if_icmp .le 5, 3) := by decide +kernel
theorem dX7_least_9 : decode cX7_least 9 = .ok (.iconst (-1), 1) := by decide +kernel
theorem dX7_least_10 : decode cX7_least 10 = .ok (.ireturn, 1) := by decide +kernel
theorem dX7_least_11 : decode cX7_least 11 = .ok (.aload_n 0, 1) := by decide +kernel
theorem dX7_least_12 : decode cX7_least 12 = .ok (.invokevirtual 226, 3) := by decide +kernel
theorem dX7_least_15 : decode cX7_least 15 = .ok (.istore_n 2, 1) := by decide +kernel
theorem dX7_least_16 : decode cX7_least 16 = .ok (.iload_n 1, 1) := by decide +kernel
theorem dX7_least_17 : decode cX7_least 17 = .ok (.ifCond .eq 9, 3) := by decide +kernel
theorem dX7_least_20 : decode cX7_least 20 = .ok (.iload_n 2, 1) := by decide +kernel
theorem dX7_least_21 : decode cX7_least 21 = .ok (.bipush (-9), 2) := by decide +kernel
theorem dX7_least_23 : decode cX7_least 23 = .ok (.if_icmp .ne 7, 3) := by decide +kernel
theorem dX7_least_26 : decode cX7_least 26 = .ok (.iload_n 2, 1) := by decide +kernel
theorem dX7_least_27 : decode cX7_least 27 = .ok (.goto 8, 3) := by decide +kernel
theorem dX7_least_30 : decode cX7_least 30 = .ok (.aload_n 0, 1) := by decide +kernel
theorem dX7_least_31 : decode cX7_least 31 = .ok (.iload_n 2, 1) := by decide +kernel
theorem dX7_least_32 : decode cX7_least 32 = .ok (.invokevirtual 229, 3) := by decide +kernel
theorem dX7_least_35 : decode cX7_least 35 = .ok (.ireturn, 1) := by decide +kernel
theorem dX7_fit_0 : decode cX7_fit 0 = .ok (.iload_n 1, 1) := by decide +kernel
theorem dX7_fit_1 : decode cX7_fit 1 = .ok (.ifCond .lt 19, 3) := by decide +kernel
theorem dX7_fit_4 : decode cX7_fit 4 = .ok (.iload_n 1, 1) := by decide +kernel
theorem dX7_fit_5 : decode cX7_fit 5 = .ok (.sipush 255, 3) := by decide +kernel
theorem dX7_fit_8 : decode cX7_fit 8 = .ok (.if_icmp .gt 12, 3) := by decide +kernel
theorem dX7_fit_11 : decode cX7_fit 11 = .ok (.iload_n 2, 1) := by decide +kernel
theorem dX7_fit_12 : decode cX7_fit 12 = .ok (.ifCond .lt 8, 3) := by decide +kernel
theorem dX7_fit_15 : decode cX7_fit 15 = .ok (.iload_n 2, 1) := by decide +kernel
theorem dX7_fit_16 : decode cX7_fit 16 = .ok (.iconst 4, 1) := by decide +kernel
theorem dX7_fit_17 : decode cX7_fit 17 = .ok (.if_icmp .le 6, 3) := by decide +kernel
theorem dX7_fit_20 : decode cX7_fit 20 = .ok (.ldc 171, 2) := by decide +kernel
theorem dX7_fit_22 : decode cX7_fit 22 = .ok (.ireturn, 1) := by decide +kernel
theorem dX7_fit_23 : decode cX7_fit 23 = .ok (.aload_n 0, 1) := by decide +kernel
theorem dX7_fit_24 : decode cX7_fit 24 = .ok (.getfield 33, 3) := by decide +kernel
theorem dX7_fit_27 : decode cX7_fit 27 = .ok (.iload_n 1, 1) := by decide +kernel
theorem dX7_fit_28 : decode cX7_fit 28 = .ok (.invokevirtual 232, 3) := by decide +kernel
theorem dX7_fit_31 : decode cX7_fit 31 = .ok (.ifCond .ne 6, 3) := by decide +kernel
theorem dX7_fit_34 : decode cX7_fit 34 = .ok (.ldc 171, 2) := by decide +kernel
theorem dX7_fit_36 : decode cX7_fit 36 = .ok (.ireturn, 1) := by decide +kernel
theorem dX7_fit_37 : decode cX7_fit 37 = .ok (.iload_n 2, 1) := by decide +kernel
theorem dX7_fit_38 : decode cX7_fit 38 = .ok (.tableswitch 62 0 3 #[30, 38, 46, 54], 30) := by decide +kernel
theorem dX7_fit_68 : decode cX7_fit 68 = .ok (.aload_n 0, 1) := by decide +kernel
theorem dX7_fit_69 : decode cX7_fit 69 = .ok (.getfield 33, 3) := by decide +kernel
theorem dX7_fit_72 : decode cX7_fit 72 = .ok (.getfield 235, 3) := by decide +kernel
theorem dX7_fit_75 : decode cX7_fit 75 = .ok (.ireturn, 1) := by decide +kernel
theorem dX7_fit_76 : decode cX7_fit 76 = .ok (.aload_n 0, 1) := by decide +kernel
theorem dX7_fit_77 : decode cX7_fit 77 = .ok (.getfield 33, 3) := by decide +kernel
theorem dX7_fit_80 : decode cX7_fit 80 = .ok (.getfield 238, 3) := by decide +kernel
theorem dX7_fit_83 : decode cX7_fit 83 = .ok (.ireturn, 1) := by decide +kernel
theorem dX7_fit_84 : decode cX7_fit 84 = .ok (.aload_n 0, 1) := by decide +kernel
theorem dX7_fit_85 : decode cX7_fit 85 = .ok (.getfield 33, 3) := by decide +kernel
theorem dX7_fit_88 : decode cX7_fit 88 = .ok (.getfield 241, 3) := by decide +kernel
theorem dX7_fit_91 : decode cX7_fit 91 = .ok (.ireturn, 1) := by decide +kernel
theorem dX7_fit_92 : decode cX7_fit 92 = .ok (.aload_n 0, 1) := by decide +kernel
theorem dX7_fit_93 : decode cX7_fit 93 = .ok (.getfield 33, 3) := by decide +kernel
theorem dX7_fit_96 : decode cX7_fit 96 = .ok (.getfield 244, 3) := by decide +kernel
theorem dX7_fit_99 : decode cX7_fit 99 = .ok (.ireturn, 1) := by decide +kernel
theorem dX7_fit_100 : decode cX7_fit 100 = .ok (.aload_n 0, 1) := by decide +kernel
theorem dX7_fit_101 : decode cX7_fit 101 = .ok (.getfield 33, 3) := by decide +kernel
theorem dX7_fit_104 : decode cX7_fit 104 = .ok (.getfield 235, 3) := by decide +kernel
theorem dX7_fit_107 : decode cX7_fit 107 = .ok (.invokestatic 245, 3) := by decide +kernel
theorem dX7_fit_110 : decode cX7_fit 110 = .ok (.aload_n 0, 1) := by decide +kernel
theorem dX7_fit_111 : decode cX7_fit 111 = .ok (.getfield 33, 3) := by decide +kernel
theorem dX7_fit_114 : decode cX7_fit 114 = .ok (.getfield 238, 3) := by decide +kernel
theorem dX7_fit_117 : decode cX7_fit 117 = .ok (.invokestatic 245, 3) := by decide +kernel
theorem dX7_fit_120 : decode cX7_fit 120 = .ok (.iadd, 1) := by decide +kernel
theorem dX7_fit_121 : decode cX7_fit 121 = .ok (.aload_n 0, 1) := by decide +kernel
theorem dX7_fit_122 : decode cX7_fit 122 = .ok (.getfield 33, 3) := by decide +kernel
theorem dX7_fit_125 : decode cX7_fit 125 = .ok (.getfield 241, 3) := by decide +kernel
theorem dX7_fit_128 : decode cX7_fit 128 = .ok (.invokestatic 245, 3) := by decide +kernel
theorem dX7_fit_131 : decode cX7_fit 131 = .ok (.iadd, 1) := by decide +kernel
theorem dX7_fit_132 : decode cX7_fit 132 = .ok (.ireturn, 1) := by decide +kernel
theorem dX7_count_0 : decode cX7_count 0 = .ok (.iload_n 1, 1) := by decide +kernel
theorem dX7_count_1 : decode cX7_count 1 = .ok (.tableswitch 66 0 4 #[35, 40, 45, 50, 58], 35) := by decide +kernel
theorem dX7_count_36 : decode cX7_count 36 = .ok (.aload_n 0, 1) := by decide +kernel
theorem dX7_count_37 : decode cX7_count 37 = .ok (.getfield 81, 3) := by decide +kernel
theorem dX7_count_40 : decode cX7_count 40 = .ok (.ireturn, 1) := by decide +kernel
theorem dX7_count_41 : decode cX7_count 41 = .ok (.aload_n 0, 1) := by decide +kernel
theorem dX7_count_42 : decode cX7_count 42 = .ok (.getfield 97, 3) := by decide +kernel
theorem dX7_count_45 : decode cX7_count 45 = .ok (.ireturn, 1) := by decide +kernel
theorem dX7_count_46 : decode cX7_count 46 = .ok (.aload_n 0, 1) := by decide +kernel
theorem dX7_count_47 : decode cX7_count 47 = .ok (.getfield 91, 3) := by decide +kernel
theorem dX7_count_50 : decode cX7_count 50 = .ok (.ireturn, 1) := by decide +kernel
theorem dX7_count_51 : decode cX7_count 51 = .ok (.aload_n 0, 1) := by decide +kernel
end
section
theorem dX7_count_52 : decode cX7_count 52 = .ok (.invokevirtual 203, 3) := by decide +kernel
theorem dX7_count_55 : decode cX7_count 55 = .ok (.invokestatic 250, 3) := by decide +kernel
theorem dX7_count_58 : decode cX7_count 58 = .ok (.ireturn, 1) := by decide +kernel
theorem dX7_count_59 : decode cX7_count 59 = .ok (.aload_n 0, 1) := by decide +kernel
theorem dX7_count_60 : decode cX7_count 60 = .ok (.getfield 10, 3) := by decide +kernel
theorem dX7_count_63 : decode cX7_count 63 = .ok (.getfield 59, 3) := by decide +kernel
theorem dX7_count_66 : decode cX7_count 66 = .ok (.ireturn, 1) := by decide +kernel
theorem dX7_count_67 : decode cX7_count 67 = .ok (.iconst (-1), 1) := by decide +kernel
theorem dX7_count_68 : decode cX7_count 68 = .ok (.ireturn, 1) := by decide +kernel
theorem dX7_trueWorlds_0 : decode cX7_trueWorlds 0 = .ok (.ldc2_w 192, 3) := by decide +kernel
theorem dX7_trueWorlds_3 : decode cX7_trueWorlds 3 = .ok (.lstore_n 1, 1) := by decide +kernel
theorem dX7_trueWorlds_4 : decode cX7_trueWorlds 4 = .ok (.iconst 0, 1) := by decide +kernel
theorem dX7_trueWorlds_5 : decode cX7_trueWorlds 5 = .ok (.istore_n 3, 1) := by decide +kernel
theorem dX7_trueWorlds_6 : decode cX7_trueWorlds 6 = .ok (.iload_n 3, 1) := by decide +kernel
theorem dX7_trueWorlds_7 : decode cX7_trueWorlds 7 = .ok (.aload_n 0, 1) := by decide +kernel
theorem dX7_trueWorlds_8 : decode cX7_trueWorlds 8 = .ok (.getfield 81, 3) := by decide +kernel
theorem dX7_trueWorlds_11 : decode cX7_trueWorlds 11 = .ok (.if_icmp .ge 27, 3) := by decide +kernel
theorem dX7_trueWorlds_14 : decode cX7_trueWorlds 14 = .ok (.iload_n 3, 1) := by decide +kernel
theorem dX7_trueWorlds_15 : decode cX7_trueWorlds 15 = .ok (.bipush 8, 2) := by decide +kernel
theorem dX7_trueWorlds_17 : decode cX7_trueWorlds 17 = .ok (.if_icmp .ge 21, 3) := by decide +kernel
theorem dX7_trueWorlds_20 : decode cX7_trueWorlds 20 = .ok (.lload_n 1, 1) := by decide +kernel
theorem dX7_trueWorlds_21 : decode cX7_trueWorlds 21 = .ok (.aload_n 0, 1) := by decide +kernel
theorem dX7_trueWorlds_22 : decode cX7_trueWorlds 22 = .ok (.getfield 39, 3) := by decide +kernel
theorem dX7_trueWorlds_25 : decode cX7_trueWorlds 25 = .ok (.iload_n 3, 1) := by decide +kernel
theorem dX7_trueWorlds_26 : decode cX7_trueWorlds 26 = .ok (.aaload, 1) := by decide +kernel
theorem dX7_trueWorlds_27 : decode cX7_trueWorlds 27 = .ok (.invokevirtual 178, 3) := by decide +kernel
theorem dX7_trueWorlds_30 : decode cX7_trueWorlds 30 = .ok (.land, 1) := by decide +kernel
theorem dX7_trueWorlds_31 : decode cX7_trueWorlds 31 = .ok (.lstore_n 1, 1) := by decide +kernel
theorem dX7_trueWorlds_32 : decode cX7_trueWorlds 32 = .ok (.iinc 3 1, 3) := by decide +kernel
theorem dX7_trueWorlds_35 : decode cX7_trueWorlds 35 = .ok (.goto (-29), 3) := by decide +kernel
theorem dX7_trueWorlds_38 : decode cX7_trueWorlds 38 = .ok (.lload_n 1, 1) := by decide +kernel
theorem dX7_trueWorlds_39 : decode cX7_trueWorlds 39 = .ok (.lreturn, 1) := by decide +kernel
theorem dX7_leastTelling_0 : decode cX7_leastTelling 0 = .ok (.iconst 0, 1) := by decide +kernel
theorem dX7_leastTelling_1 : decode cX7_leastTelling 1 = .ok (.istore_n 3, 1) := by decide +kernel
theorem dX7_leastTelling_2 : decode cX7_leastTelling 2 = .ok (.iload_n 3, 1) := by decide +kernel
theorem dX7_leastTelling_3 : decode cX7_leastTelling 3 = .ok (.aload_n 0, 1) := by decide +kernel
theorem dX7_leastTelling_4 : decode cX7_leastTelling 4 = .ok (.getfield 81, 3) := by decide +kernel
theorem dX7_leastTelling_7 : decode cX7_leastTelling 7 = .ok (.if_icmp .ge 30, 3) := by decide +kernel
theorem dX7_leastTelling_10 : decode cX7_leastTelling 10 = .ok (.iload_n 3, 1) := by decide +kernel
theorem dX7_leastTelling_11 : decode cX7_leastTelling 11 = .ok (.bipush 8, 2) := by decide +kernel
theorem dX7_leastTelling_13 : decode cX7_leastTelling 13 = .ok (.if_icmp .ge 24, 3) := by decide +kernel
theorem dX7_leastTelling_16 : decode cX7_leastTelling 16 = .ok (.aload_n 0, 1) := by decide +kernel
theorem dX7_leastTelling_17 : decode cX7_leastTelling 17 = .ok (.getfield 44, 3) := by decide +kernel
theorem dX7_leastTelling_20 : decode cX7_leastTelling 20 = .ok (.iload_n 3, 1) := by decide +kernel
theorem dX7_leastTelling_21 : decode cX7_leastTelling 21 = .ok (.aload_n 0, 1) := by decide +kernel
theorem dX7_leastTelling_22 : decode cX7_leastTelling 22 = .ok (.getfield 39, 3) := by decide +kernel
theorem dX7_leastTelling_25 : decode cX7_leastTelling 25 = .ok (.iload_n 3, 1) := by decide +kernel
theorem dX7_leastTelling_26 : decode cX7_leastTelling 26 = .ok (.aaload, 1) := by decide +kernel
theorem dX7_leastTelling_27 : decode cX7_leastTelling 27 = .ok (.invokevirtual 178, 3) := by decide +kernel
theorem dX7_leastTelling_30 : decode cX7_leastTelling 30 = .ok (.lastore, 1) := by decide +kernel
theorem dX7_leastTelling_31 : decode cX7_leastTelling 31 = .ok (.iinc 3 1, 3) := by decide +kernel
theorem dX7_leastTelling_34 : decode cX7_leastTelling 34 = .ok (.goto (-32), 3) := by decide +kernel
theorem dX7_leastTelling_37 : decode cX7_leastTelling 37 = .ok (.bipush (-9), 2) := by decide +kernel
theorem dX7_leastTelling_39 : decode cX7_leastTelling 39 = .ok (.istore_n 3, 1) := by decide +kernel
theorem dX7_leastTelling_40 : decode cX7_leastTelling 40 = .ok (.bipush 9, 2) := by decide +kernel
theorem dX7_leastTelling_42 : decode cX7_leastTelling 42 = .ok (.istore 4, 2) := by decide +kernel
theorem dX7_leastTelling_44 : decode cX7_leastTelling 44 = .ok (.iconst 0, 1) := by decide +kernel
theorem dX7_leastTelling_45 : decode cX7_leastTelling 45 = .ok (.istore 5, 2) := by decide +kernel
theorem dX7_leastTelling_47 : decode cX7_leastTelling 47 = .ok (.iload 5, 2) := by decide +kernel
theorem dX7_leastTelling_49 : decode cX7_leastTelling 49 = .ok (.iconst 1, 1) := by decide +kernel
theorem dX7_leastTelling_50 : decode cX7_leastTelling 50 = .ok (.aload_n 0, 1) := by decide +kernel
theorem dX7_leastTelling_51 : decode cX7_leastTelling 51 = .ok (.getfield 81, 3) := by decide +kernel
theorem dX7_leastTelling_54 : decode cX7_leastTelling 54 = .ok (.ishl, 1) := by decide +kernel
theorem dX7_leastTelling_55 : decode cX7_leastTelling 55 = .ok (.if_icmp .ge 43, 3) := by decide +kernel
theorem dX7_leastTelling_58 : decode cX7_leastTelling 58 = .ok (.iload 5, 2) := by decide +kernel
theorem dX7_leastTelling_60 : decode cX7_leastTelling 60 = .ok (.invokestatic 218, 3) := by decide +kernel
theorem dX7_leastTelling_63 : decode cX7_leastTelling 63 = .ok (.istore 6, 2) := by decide +kernel
theorem dX7_leastTelling_65 : decode cX7_leastTelling 65 = .ok (.iload 6, 2) := by decide +kernel
theorem dX7_leastTelling_67 : decode cX7_leastTelling 67 = .ok (.iload 4, 2) := by decide +kernel
theorem dX7_leastTelling_69 : decode cX7_leastTelling 69 = .ok (.if_icmp .ge 23, 3) := by decide +kernel
theorem dX7_leastTelling_72 : decode cX7_leastTelling 72 = .ok (.aload_n 0, 1) := by decide +kernel
theorem dX7_leastTelling_73 : decode cX7_leastTelling 73 = .ok (.iload 5, 2) := by decide +kernel
theorem dX7_leastTelling_75 : decode cX7_leastTelling 75 = .ok (.invokevirtual 254, 3) := by decide +kernel
theorem dX7_leastTelling_78 : decode cX7_leastTelling 78 = .ok (.lload_n 1, 1) := by decide +kernel
theorem dX7_leastTelling_79 : decode cX7_leastTelling 79 = .ok (.invokestatic 188, 3) := by decide +kernel
theorem dX7_leastTelling_82 : decode cX7_leastTelling 82 = .ok (.ifCond .eq 10, 3) := by decide +kernel
theorem dX7_leastTelling_85 : decode cX7_leastTelling 85 = .ok (.iload 5, 2) := by decide +kernel
theorem dX7_leastTelling_87 : decode cX7_leastTelling 87 = .ok (.istore_n 3, 1) := by decide +kernel
theorem dX7_leastTelling_88 : decode cX7_leastTelling 88 = .ok (.iload 6, 2) := by decide +kernel
theorem dX7_leastTelling_90 : decode cX7_leastTelling 90 = .ok (.istore 4, 2) := by decide +kernel
theorem dX7_leastTelling_92 : decode cX7_leastTelling 92 = .ok (.iinc 5 1, 3) := by decide +kernel
theorem dX7_leastTelling_95 : decode cX7_leastTelling 95 = .ok (.goto (-48), 3) := by decide +kernel
theorem dX7_leastTelling_98 : decode cX7_leastTelling 98 = .ok (.iload_n 3, 1) := by decide +kernel
theorem dX7_leastTelling_99 : decode cX7_leastTelling 99 = .ok (.ireturn, 1) := by decide +kernel
theorem dX7_worldsOfGiven_0 : decode cX7_worldsOfGiven 0 = .ok (.ldc2_w 192, 3) := by decide +kernel
theorem dX7_worldsOfGiven_3 : decode cX7_worldsOfGiven 3 = .ok (.lstore_n 2, 1) := by decide +kernel
theorem dX7_worldsOfGiven_4 : decode cX7_worldsOfGiven 4 = .ok (.iconst 0, 1) := by decide +kernel
theorem dX7_worldsOfGiven_5 : decode cX7_worldsOfGiven 5 = .ok (.istore 4, 2) := by decide +kernel
theorem dX7_worldsOfGiven_7 : decode cX7_worldsOfGiven 7 = .ok (.iload 4, 2) := by decide +kernel
theorem dX7_worldsOfGiven_9 : decode cX7_worldsOfGiven 9 = .ok (.bipush 8, 2) := by decide +kernel
theorem dX7_worldsOfGiven_11 : decode cX7_worldsOfGiven 11 = .ok (.if_icmp .ge 29, 3) := by decide +kernel
theorem dX7_worldsOfGiven_14 : decode cX7_worldsOfGiven 14 = .ok (.iload_n 1, 1) := by decide +kernel
theorem dX7_worldsOfGiven_15 : decode cX7_worldsOfGiven 15 = .ok (.iload 4, 2) := by decide +kernel
theorem dX7_worldsOfGiven_17 : decode cX7_worldsOfGiven 17 = .ok (.ishr, 1) := by decide +kernel
theorem dX7_worldsOfGiven_18 : decode cX7_worldsOfGiven 18 = .ok (.iconst 1, 1) := by decide +kernel
theorem dX7_worldsOfGiven_19 : decode cX7_worldsOfGiven 19 = .ok (.iand, 1) := by decide +kernel
theorem dX7_worldsOfGiven_20 : decode cX7_worldsOfGiven 20 = .ok (.iconst 1, 1) := by decide +kernel
theorem dX7_worldsOfGiven_21 : decode cX7_worldsOfGiven 21 = .ok (.if_icmp .ne 13, 3) := by decide +kernel
theorem dX7_worldsOfGiven_24 : decode cX7_worldsOfGiven 24 = .ok (.lload_n 2, 1) := by decide +kernel
theorem dX7_worldsOfGiven_25 : decode cX7_worldsOfGiven 25 = .ok (.aload_n 0, 1) := by decide +kernel
theorem dX7_worldsOfGiven_26 : decode cX7_worldsOfGiven 26 = .ok (.getfield 44, 3) := by decide +kernel
theorem dX7_worldsOfGiven_29 : decode cX7_worldsOfGiven 29 = .ok (.iload 4, 2) := by decide +kernel
theorem dX7_worldsOfGiven_31 : decode cX7_worldsOfGiven 31 = .ok (.laload, 1) := by decide +kernel
theorem dX7_worldsOfGiven_32 : decode cX7_worldsOfGiven 32 = .ok (.land, 1) := by decide +kernel
theorem dX7_worldsOfGiven_33 : decode cX7_worldsOfGiven 33 = .ok (.lstore_n 2, 1) := by decide +kernel
theorem dX7_worldsOfGiven_34 : decode cX7_worldsOfGiven 34 = .ok (.iinc 4 1, 3) := by decide +kernel
theorem dX7_worldsOfGiven_37 : decode cX7_worldsOfGiven 37 = .ok (.goto (-30), 3) := by decide +kernel
theorem dX7_worldsOfGiven_40 : decode cX7_worldsOfGiven 40 = .ok (.lload_n 2, 1) := by decide +kernel
theorem dX7_worldsOfGiven_41 : decode cX7_worldsOfGiven 41 = .ok (.lreturn, 1) := by decide +kernel
theorem dX7_cheapestTrueWorld_0 : decode cX7_cheapestTrueWorld 0 = .ok (.aload_n 0, 1) := by decide +kernel
theorem dX7_cheapestTrueWorld_1 : decode cX7_cheapestTrueWorld 1 = .ok (.invokevirtual 203, 3) := by decide +kernel
theorem dX7_cheapestTrueWorld_4 : decode cX7_cheapestTrueWorld 4 = .ok (.lstore_n 1, 1) := by decide +kernel
theorem dX7_cheapestTrueWorld_5 : decode cX7_cheapestTrueWorld 5 = .ok (.bipush (-9), 2) := by decide +kernel
theorem dX7_cheapestTrueWorld_7 : decode cX7_cheapestTrueWorld 7 = .ok (.istore_n 3, 1) := by decide +kernel
theorem dX7_cheapestTrueWorld_8 : decode cX7_cheapestTrueWorld 8 = .ok (.iconst 0, 1) := by decide +kernel
theorem dX7_cheapestTrueWorld_9 : decode cX7_cheapestTrueWorld 9 = .ok (.istore 4, 2) := by decide +kernel
theorem dX7_cheapestTrueWorld_11 : decode cX7_cheapestTrueWorld 11 = .ok (.iload 4, 2) := by decide +kernel
theorem dX7_cheapestTrueWorld_13 : decode cX7_cheapestTrueWorld 13 = .ok (.bipush 64, 2) := by decide +kernel
theorem dX7_cheapestTrueWorld_15 : decode cX7_cheapestTrueWorld 15 = .ok (.if_icmp .ge 41, 3) := by decide +kernel
theorem dX7_cheapestTrueWorld_18 : decode cX7_cheapestTrueWorld 18 = .ok (.lload_n 1, 1) := by decide +kernel
theorem dX7_cheapestTrueWorld_19 : decode cX7_cheapestTrueWorld 19 = .ok (.iload 4, 2) := by decide +kernel
theorem dX7_cheapestTrueWorld_21 : decode cX7_cheapestTrueWorld 21 = .ok (.invokestatic 206, 3) := by decide +kernel
theorem dX7_cheapestTrueWorld_24 : decode cX7_cheapestTrueWorld 24 = .ok (.ifCond .eq 26, 3) := by decide +kernel
theorem dX7_cheapestTrueWorld_27 : decode cX7_cheapestTrueWorld 27 = .ok (.iload_n 3, 1) := by decide +kernel
theorem dX7_cheapestTrueWorld_28 : decode cX7_cheapestTrueWorld 28 = .ok (.bipush (-9), 2) := by decide +kernel
theorem dX7_cheapestTrueWorld_30 : decode cX7_cheapestTrueWorld 30 = .ok (.if_icmp .eq 17, 3) := by decide +kernel
theorem dX7_cheapestTrueWorld_33 : decode cX7_cheapestTrueWorld 33 = .ok (.aload_n 0, 1) := by decide +kernel
theorem dX7_cheapestTrueWorld_34 : decode cX7_cheapestTrueWorld 34 = .ok (.iload 4, 2) := by decide +kernel
theorem dX7_cheapestTrueWorld_36 : decode cX7_cheapestTrueWorld 36 = .ok (.invokevirtual 229, 3) := by decide +kernel
theorem dX7_cheapestTrueWorld_39 : decode cX7_cheapestTrueWorld 39 = .ok (.aload_n 0, 1) := by decide +kernel
theorem dX7_cheapestTrueWorld_40 : decode cX7_cheapestTrueWorld 40 = .ok (.iload_n 3, 1) := by decide +kernel
theorem dX7_cheapestTrueWorld_41 : decode cX7_cheapestTrueWorld 41 = .ok (.invokevirtual 229, 3) := by decide +kernel
theorem dX7_cheapestTrueWorld_44 : decode cX7_cheapestTrueWorld 44 = .ok (.if_icmp .ge 6, 3) := by decide +kernel
theorem dX7_cheapestTrueWorld_47 : decode cX7_cheapestTrueWorld 47 = .ok (.iload 4, 2) := by decide +kernel
theorem dX7_cheapestTrueWorld_49 : decode cX7_cheapestTrueWorld 49 = .ok (.istore_n 3, 1) := by decide +kernel
theorem dX7_cheapestTrueWorld_50 : decode cX7_cheapestTrueWorld 50 = .ok (.iinc 4 1, 3) := by decide +kernel
theorem dX7_cheapestTrueWorld_53 : decode cX7_cheapestTrueWorld 53 = .ok (.goto (-42), 3) := by decide +kernel
theorem dX7_cheapestTrueWorld_56 : decode cX7_cheapestTrueWorld 56 = .ok (.iload_n 3, 1) := by decide +kernel
theorem dX7_cheapestTrueWorld_57 : decode cX7_cheapestTrueWorld 57 = .ok (.ireturn, 1) := by decide +kernel
theorem dX7_costOf_0 : decode cX7_costOf 0 = .ok (.iconst 0, 1) := by decide +kernel
theorem dX7_costOf_1 : decode cX7_costOf 1 = .ok (.istore_n 2, 1) := by decide +kernel
theorem dX7_costOf_2 : decode cX7_costOf 2 = .ok (.iconst 0, 1) := by decide +kernel
theorem dX7_costOf_3 : decode cX7_costOf 3 = .ok (.istore_n 3, 1) := by decide +kernel
theorem dX7_costOf_4 : decode cX7_costOf 4 = .ok (.iload_n 3, 1) := by decide +kernel
theorem dX7_costOf_5 : decode cX7_costOf 5 = .ok (.bipush 6, 2) := by decide +kernel
theorem dX7_costOf_7 : decode cX7_costOf 7 = .ok (.if_icmp .ge 27, 3) := by decide +kernel
theorem dX7_costOf_10 : decode cX7_costOf 10 = .ok (.iload_n 1, 1) := by decide +kernel
theorem dX7_costOf_11 : decode cX7_costOf 11 = .ok (.iload_n 3, 1) := by decide +kernel
theorem dX7_costOf_12 : decode cX7_costOf 12 = .ok (.ishr, 1) := by decide +kernel
theorem dX7_costOf_13 : decode cX7_costOf 13 = .ok (.iconst 1, 1) := by decide +kernel
theorem dX7_costOf_14 : decode cX7_costOf 14 = .ok (.iand, 1) := by decide +kernel
theorem dX7_costOf_15 : decode cX7_costOf 15 = .ok (.iconst 1, 1) := by decide +kernel
theorem dX7_costOf_16 : decode cX7_costOf 16 = .ok (.if_icmp .ne 12, 3) := by decide +kernel
theorem dX7_costOf_19 : decode cX7_costOf 19 = .ok (.iload_n 2, 1) := by decide +kernel
theorem dX7_costOf_20 : decode cX7_costOf 20 = .ok (.aload_n 0, 1) := by decide +kernel
theorem dX7_costOf_21 : decode cX7_costOf 21 = .ok (.getfield 48, 3) := by decide +kernel
theorem dX7_costOf_24 : decode cX7_costOf 24 = .ok (.iload_n 3, 1) := by decide +kernel
theorem dX7_costOf_25 : decode cX7_costOf 25 = .ok (.iaload, 1) := by decide +kernel
theorem dX7_costOf_26 : decode cX7_costOf 26 = .ok (.iadd, 1) := by decide +kernel
theorem dX7_costOf_27 : decode cX7_costOf 27 = .ok (.istore_n 2, 1) := by decide +kernel
theorem dX7_costOf_28 : decode cX7_costOf 28 = .ok (.iinc 3 1, 3) := by decide +kernel
theorem dX7_costOf_31 : decode cX7_costOf 31 = .ok (.goto (-27), 3) := by decide +kernel
theorem dX7_costOf_34 : decode cX7_costOf 34 = .ok (.iload_n 2, 1) := by decide +kernel
theorem dX7_costOf_35 : decode cX7_costOf 35 = .ok (.ireturn, 1) := by decide +kernel
theorem dX7_has_0 : decode cX7_has 0 = .ok (.lload_n 0, 1) := by decide +kernel
theorem dX7_has_1 : decode cX7_has 1 = .ok (.iload_n 2, 1) := by decide +kernel
theorem dX7_has_2 : decode cX7_has 2 = .ok (.lushr, 1) := by decide +kernel
theorem dX7_has_3 : decode cX7_has 3 = .ok (.lconst 1, 1) := by decide +kernel
theorem dX7_has_4 : decode cX7_has 4 = .ok (.land, 1) := by decide +kernel
theorem dX7_has_5 : decode cX7_has 5 = .ok (.lconst 1, 1) := by decide +kernel
theorem dX7_has_6 : decode cX7_has 6 = .ok (.lcmp, 1) := by decide +kernel
theorem dX7_has_7 : decode cX7_has 7 = .ok (.ifCond .ne 7, 3) := by decide +kernel
theorem dX7_has_10 : decode cX7_has 10 = .ok (.iconst 1, 1) := by decide +kernel
theorem dX7_has_11 : decode cX7_has 11 = .ok (.goto 4, 3) := by decide +kernel
theorem dX7_has_14 : decode cX7_has 14 = .ok (.iconst 0, 1) := by decide +kernel
theorem dX7_has_15 : decode cX7_has 15 = .ok (.ireturn, 1) := by decide +kernel
theorem dX8_init_0 : decode cX8_init 0 = .ok (.aload_n 0, 1) := by decide +kernel
theorem dX8_init_1 : decode cX8_init 1 = .ok (.invokespecial 1, 3) := by decide +kernel
theorem dX8_init_4 : decode cX8_init 4 = .ok (.aload_n 0, 1) := by decide +kernel
theorem dX8_init_5 : decode cX8_init 5 = .ok (.sipush 400, 3) := by decide +kernel
theorem dX8_init_8 : decode cX8_init 8 = .ok (.newarray .int, 2) := by decide +kernel
theorem dX8_init_10 : decode cX8_init 10 = .ok (.putfield 7, 3) := by decide +kernel
theorem dX8_init_13 : decode cX8_init 13 = .ok (.aload_n 0, 1) := by decide +kernel
theorem dX8_init_14 : decode cX8_init 14 = .ok (.sipush 231, 3) := by decide +kernel
theorem dX8_init_17 : decode cX8_init 17 = .ok (.newarray .int, 2) := by decide +kernel
theorem dX8_init_19 : decode cX8_init 19 = .ok (.putfield 13, 3) := by decide +kernel
theorem dX8_init_22 : decode cX8_init 22 = .ok (.aload_n 0, 1) := by decide +kernel
theorem dX8_init_23 : decode cX8_init 23 = .ok (.bipush (-9), 2) := by decide +kernel
theorem dX8_init_25 : decode cX8_init 25 = .ok (.putfield 16, 3) := by decide +kernel
theorem dX8_init_28 : decode cX8_init 28 = .ok (.aload_n 0, 1) := by decide +kernel
theorem dX8_init_29 : decode cX8_init 29 = .ok (.bipush (-9), 2) := by decide +kernel
theorem dX8_init_31 : decode cX8_init 31 = .ok (.putfield 20, 3) := by decide +kernel
theorem dX8_init_34 : decode cX8_init 34 = .ok (.aload_n 0, 1) := by decide +kernel
theorem dX8_init_35 : decode cX8_init 35 = .ok (.bipush 56, 2) := by decide +kernel
theorem dX8_init_37 : decode cX8_init 37 = .ok (.newarray .int, 2) := by decide +kernel
theorem dX8_init_39 : decode cX8_init 39 = .ok (.putfield 23, 3) := by decide +kernel
theorem dX8_init_42 : decode cX8_init 42 = .ok (.aload_n 0, 1) := by decide +kernel
theorem dX8_init_43 : decode cX8_init 43 = .ok (.sipush 240, 3) := by decide +kernel
theorem dX8_init_46 : decode cX8_init 46 = .ok (.newarray .int, 2) := by decide +kernel
theorem dX8_init_48 : decode cX8_init 48 = .ok (.putfield 26, 3) := by decide +kernel
theorem dX8_init_51 : decode cX8_init 51 = .ok (.aload_n 0, 1) := by decide +kernel
theorem dX8_init_52 : decode cX8_init 52 = .ok (.bipush 6, 2) := by decide +kernel
theorem dX8_init_54 : decode cX8_init 54 = .ok (.newarray .int, 2) := by decide +kernel
theorem dX8_init_56 : decode cX8_init 56 = .ok (.putfield 29, 3) := by decide +kernel
theorem dX8_init_59 : decode cX8_init 59 = .ok (.aload_n 0, 1) := by decide +kernel
theorem dX8_init_60 : decode cX8_init 60 = .ok (.iconst 5, 1) := by decide +kernel
theorem dX8_init_61 : decode cX8_init 61 = .ok (.newarray .int, 2) := by decide +kernel
theorem dX8_init_63 : decode cX8_init 63 = .ok (.putfield 32, 3) := by decide +kernel
theorem dX8_init_66 : decode cX8_init 66 = .ok (.return_, 1) := by decide +kernel
theorem dX8_in_0 : decode cX8_in 0 = .ok (.iload_n 0, 1) := by decide +kernel
theorem dX8_in_1 : decode cX8_in 1 = .ok (.iload_n 1, 1) := by decide +kernel
theorem dX8_in_2 : decode cX8_in 2 = .ok (.if_icmp .lt 12, 3) := by decide +kernel
theorem dX8_in_5 : decode cX8_in 5 = .ok (.iload_n 0, 1) := by decide +kernel
theorem dX8_in_6 : decode cX8_in 6 = .ok (.iload_n 2, 1) := by decide +kernel
theorem dX8_in_7 : decode cX8_in 7 = .ok (.if_icmp .gt 7, 3) := by decide +kernel
theorem dX8_in_10 : decode cX8_in 10 = .ok (.iconst 1, 1) := by decide +kernel
theorem dX8_in_11 : decode cX8_in 11 = .ok (.goto 4, 3) := by decide +kernel
theorem dX8_in_14 : decode cX8_in 14 = .ok (.iconst 0, 1) := by decide +kernel
theorem dX8_in_15 : decode cX8_in 15 = .ok (.ireturn, 1) := by decide +kernel
theorem dX8_size_0 : decode cX8_size 0 = .ok (.iload_n 0, 1) := by decide +kernel
theorem dX8_size_1 : decode cX8_size 1 = .ok (.ifCond .ge 8, 3) := by decide +kernel
theorem dX8_size_4 : decode cX8_size 4 = .ok (.iload_n 0, 1) := by decide +kernel
theorem dX8_size_5 : decode cX8_size 5 = .ok (.ineg, 1) := by decide +kernel
theorem dX8_size_6 : decode cX8_size 6 = .ok (.goto 4, 3) := by decide +kernel
theorem dX8_size_9 : decode cX8_size 9 = .ok (.iload_n 0, 1) := by decide +kernel
theorem dX8_size_10 : decode cX8_size 10 = .ok (.ireturn, 1) := by decide +kernel
theorem dX8_type_0 : decode cX8_type 0 = .ok (.aload_n 0, 1) := by decide +kernel
theorem dX8_type_1 : decode cX8_type 1 = .ok (.iconst 0, 1) := by decide +kernel
theorem dX8_type_2 : decode cX8_type 2 = .ok (.putfield 35, 3) := by decide +kernel
theorem dX8_type_5 : decode cX8_type 5 = .ok (.iload_n 3, 1) := by decide +kernel
theorem dX8_type_6 : decode cX8_type 6 = .ok (.iconst 1, 1) := by decide +kernel
theorem dX8_type_7 : decode cX8_type 7 = .ok (.bipush 8, 2) := by decide +kernel
theorem dX8_type_9 : decode cX8_type 9 = .ok (.invokestatic 38, 3) := by decide +kernel
theorem dX8_type_12 : decode cX8_type 12 = .ok (.ifCond .ne 5, 3) := by decide +kernel
theorem dX8_type_15 : decode cX8_type 15 = .ok (.iconst (-1), 1) := by decide +kernel
theorem dX8_type_16 : decode cX8_type 16 = .ok (.ireturn, 1) := by decide +kernel
theorem dX8_type_17 : decode cX8_type 17 = .ok (.aload_n 0, 1) := by decide +kernel
theorem dX8_type_18 : decode cX8_type 18 = .ok (.getfield 42, 3) := by decide +kernel
theorem dX8_type_21 : decode cX8_type 21 = .ok (.iload_n 3, 1) := by decide +kernel
theorem dX8_type_22 : decode cX8_type 22 = .ok (.iadd, 1) := by decide +kernel
theorem dX8_type_23 : decode cX8_type 23 = .ok (.sipush 400, 3) := by decide +kernel
theorem dX8_type_26 : decode cX8_type 26 = .ok (.if_icmp .le 6, 3) := by decide +kernel
theorem dX8_type_29 : decode cX8_type 29 = .ok (.bipush (-3), 2) := by decide +kernel
theorem dX8_type_31 : decode cX8_type 31 = .ok (.ireturn, 1) := by decide +kernel
theorem dX8_type_32 : decode cX8_type 32 = .ok (.iload_n 3, 1) := by decide +kernel
theorem dX8_type_33 : decode cX8_type 33 = .ok (.iconst 1, 1) := by decide +kernel
theorem dX8_type_34 : decode cX8_type 34 = .ok (.isub, 1) := by decide +kernel
theorem dX8_type_35 : decode cX8_type 35 = .ok (.istore 4, 2) := by decide +kernel
theorem dX8_type_37 : decode cX8_type 37 = .ok (.iload 4, 2) := by decide +kernel
theorem dX8_type_39 : decode cX8_type 39 = .ok (.ifCond .lt 40, 3) := by decide +kernel
theorem dX8_type_42 : decode cX8_type 42 = .ok (.aload_n 0, 1) := by decide +kernel
theorem dX8_type_43 : decode cX8_type 43 = .ok (.getfield 7, 3) := by decide +kernel
theorem dX8_type_46 : decode cX8_type 46 = .ok (.aload_n 0, 1) := by decide +kernel
theorem dX8_type_47 : decode cX8_type 47 = .ok (.getfield 42, 3) := by decide +kernel
theorem dX8_type_50 : decode cX8_type 50 = .ok (.lload_n 1, 1) := by decide +kernel
theorem dX8_type_51 : decode cX8_type 51 = .ok (.bipush 8, 2) := by decide +kernel
theorem dX8_type_53 : decode cX8_type 53 = .ok (.iload 4, 2) := by decide +kernel
theorem dX8_type_55 : decode cX8_type 55 = .ok (.imul, 1) := by decide +kernel
theorem dX8_type_56 : decode cX8_type 56 = .ok (.lshr, 1) := by decide +kernel
theorem dX8_type_57 : decode cX8_type 57 = .ok (.ldc2_w 45, 3) := by decide +kernel
theorem dX8_type_60 : decode cX8_type 60 = .ok (.land, 1) := by decide +kernel
theorem dX8_type_61 : decode cX8_type 61 = .ok (.l2i, 1) := by decide +kernel
theorem dX8_type_62 : decode cX8_type 62 = .ok (.iastore, 1) := by decide +kernel
theorem dX8_type_63 : decode cX8_type 63 = .ok (.aload_n 0, 1) := by decide +kernel
theorem dX8_type_64 : decode cX8_type 64 = .ok (.dup, 1) := by decide +kernel
theorem dX8_type_65 : decode cX8_type 65 = .ok (.getfield 42, 3) := by decide +kernel
theorem dX8_type_68 : decode cX8_type 68 = .ok (.iconst 1, 1) := by decide +kernel
theorem dX8_type_69 : decode cX8_type 69 = .ok (.iadd, 1) := by decide +kernel
theorem dX8_type_70 : decode cX8_type 70 = .ok (.putfield 42, 3) := by decide +kernel
theorem dX8_type_73 : decode cX8_type 73 = .ok (.iinc 4 (-1), 3) := by decide +kernel
theorem dX8_type_76 : decode cX8_type 76 = .ok (.goto (-39), 3) := by decide +kernel
theorem dX8_type_79 : decode cX8_type 79 = .ok (.aload_n 0, 1) := by decide +kernel
theorem dX8_type_80 : decode cX8_type 80 = .ok (.getfield 42, 3) := by decide +kernel
theorem dX8_type_83 : decode cX8_type 83 = .ok (.ireturn, 1) := by decide +kernel
theorem dX8_clear_0 : decode cX8_clear 0 = .ok (.aload_n 0, 1) := by decide +kernel
theorem dX8_clear_1 : decode cX8_clear 1 = .ok (.iconst 0, 1) := by decide +kernel
theorem dX8_clear_2 : decode cX8_clear 2 = .ok (.putfield 35, 3) := by decide +kernel
theorem dX8_clear_5 : decode cX8_clear 5 = .ok (.aload_n 0, 1) := by decide +kernel
theorem dX8_clear_6 : decode cX8_clear 6 = .ok (.getfield 42, 3) := by decide +kernel
theorem dX8_clear_9 : decode cX8_clear 9 = .ok (.istore_n 1, 1) := by decide +kernel
theorem dX8_clear_10 : decode cX8_clear 10 = .ok (.aload_n 0, 1) := by decide +kernel
theorem dX8_clear_11 : decode cX8_clear 11 = .ok (.iconst 0, 1) := by decide +kernel
theorem dX8_clear_12 : decode cX8_clear 12 = .ok (.putfield 42, 3) := by decide +kernel
theorem dX8_clear_15 : decode cX8_clear 15 = .ok (.iload_n 1, 1) := by decide +kernel
theorem dX8_clear_16 : decode cX8_clear 16 = .ok (.ireturn, 1) := by decide +kernel
theorem dX8_byteAt_0 : decode cX8_byteAt 0 = .ok (.iload_n 1, 1) := by decide +kernel
theorem dX8_byteAt_1 : decode cX8_byteAt 1 = .ok (.aload_n 0, 1) := by decide +kernel
theorem dX8_byteAt_2 : decode cX8_byteAt 2 = .ok (.getfield 42, 3) := by decide +kernel
theorem dX8_byteAt_5 : decode cX8_byteAt 5 = .ok (.if_icmp .ge 12, 3) := by decide +kernel
theorem dX8_byteAt_8 : decode cX8_byteAt 8 = .ok (.aload_n 0, 1) := by decide +kernel
theorem dX8_byteAt_9 : decode cX8_byteAt 9 = .ok (.getfield 7, 3) := by decide +kernel
theorem dX8_byteAt_12 : decode cX8_byteAt 12 = .ok (.iload_n 1, 1) := by decide +kernel
theorem dX8_byteAt_13 : decode cX8_byteAt 13 = .ok (.iaload, 1) := by decide +kernel
theorem dX8_byteAt_14 : decode cX8_byteAt 14 = .ok (.goto 4, 3) := by decide +kernel
theorem dX8_byteAt_17 : decode cX8_byteAt 17 = .ok (.iconst (-1), 1) := by decide +kernel
theorem dX8_byteAt_18 : decode cX8_byteAt 18 = .ok (.ireturn, 1) := by decide +kernel
theorem dX8_add_0 : decode cX8_add 0 = .ok (.iload_n 2, 1) := by decide +kernel
theorem dX8_add_1 : decode cX8_add 1 = .ok (.ifCond .ne 7, 3) := by decide +kernel
theorem dX8_add_4 : decode cX8_add 4 = .ok (.lload_n 0, 1) := by decide +kernel
theorem dX8_add_5 : decode cX8_add 5 = .ok (.goto 11, 3) := by decide +kernel
theorem dX8_add_8 : decode cX8_add 8 = .ok (.ldc2_w 47, 3) := by decide +kernel
theorem dX8_add_11 : decode cX8_add 11 = .ok (.lload_n 0, 1) := by decide +kernel
theorem dX8_add_12 : decode cX8_add 12 = .ok (.lmul, 1) := by decide +kernel
theorem dX8_add_13 : decode cX8_add 13 = .ok (.iload_n 2, 1) := by decide +kernel
theorem dX8_add_14 : decode cX8_add 14 = .ok (.i2l, 1) := by decide +kernel
theorem dX8_add_15 : decode cX8_add 15 = .ok (.ladd, 1) := by decide +kernel
theorem dX8_add_16 : decode cX8_add 16 = .ok (.lreturn, 1) := by decide +kernel
theorem dX8_word_0 : decode cX8_word 0 = .ok (.lconst 0, 1) := by decide +kernel
theorem dX8_word_1 : decode cX8_word 1 = .ok (.iload_n 0, 1) := by decide +kernel
theorem dX8_word_2 : decode cX8_word 2 = .ok (.invokestatic 49, 3) := by decide +kernel
theorem dX8_word_5 : decode cX8_word 5 = .ok (.iload_n 1, 1) := by decide +kernel
theorem dX8_word_6 : decode cX8_word 6 = .ok (.invokestatic 49, 3) := by decide +kernel
theorem dX8_word_9 : decode cX8_word 9 = .ok (.iload_n 2, 1) := by decide +kernel
theorem dX8_word_10 : decode cX8_word 10 = .ok (.invokestatic 49, 3) := by decide +kernel
theorem dX8_word_13 : decode cX8_word 13 = .ok (.iload_n 3, 1) := by decide +kernel
theorem dX8_word_14 : decode cX8_word 14 = .ok (.invokestatic 49, 3) := by decide +kernel
theorem dX8_word_17 : decode cX8_word 17 = .ok (.iload 4, 2) := by decide +kernel
theorem dX8_word_19 : decode cX8_word 19 = .ok (.invokestatic 49, 3) := by decide +kernel
theorem dX8_word_22 : decode cX8_word 22 = .ok (.lreturn, 1) := by decide +kernel
theorem dX8_wordOf_0 : decode cX8_wordOf 0 = .ok (.lload_n 0, 1) := by decide +kernel
theorem dX8_wordOf_1 : decode cX8_wordOf 1 = .ok (.bipush 97, 2) := by decide +kernel
theorem dX8_wordOf_3 : decode cX8_wordOf 3 = .ok (.bipush 100, 2) := by decide +kernel
theorem dX8_wordOf_5 : decode cX8_wordOf 5 = .ok (.bipush 100, 2) := by decide +kernel
theorem dX8_wordOf_7 : decode cX8_wordOf 7 = .ok (.iconst 0, 1) := by decide +kernel
theorem dX8_wordOf_8 : decode cX8_wordOf 8 = .ok (.iconst 0, 1) := by decide +kernel
theorem dX8_wordOf_9 : decode cX8_wordOf 9 = .ok (.invokestatic 53, 3) := by decide +kernel
theorem dX8_wordOf_12 : decode cX8_wordOf 12 = .ok (.lcmp, 1) := by decide +kernel
theorem dX8_wordOf_13 : decode cX8_wordOf 13 = .ok (.ifCond .ne 7, 3) := by decide +kernel
theorem dX8_wordOf_16 : decode cX8_wordOf 16 = .ok (.iconst 0, 1) := by decide +kernel
theorem dX8_wordOf_17 : decode cX8_wordOf 17 = .ok (.goto 152, 3) := by decide +kernel
theorem dX8_wordOf_20 : decode cX8_wordOf 20 = .ok (.lload_n 0, 1) := by decide +kernel
theorem dX8_wordOf_21 : decode cX8_wordOf 21 = .ok (.bipush 116, 2) := by decide +kernel
theorem dX8_wordOf_23 : decode cX8_wordOf 23 = .ok (.bipush 105, 2) := by decide +kernel
theorem dX8_wordOf_25 : decode cX8_wordOf 25 = .ok (.bipush 109, 2) := by decide +kernel
theorem dX8_wordOf_27 : decode cX8_wordOf 27 = .ok (.bipush 101, 2) := by decide +kernel
theorem dX8_wordOf_29 : decode cX8_wordOf 29 = .ok (.bipush 115, 2) := by decide +kernel
theorem dX8_wordOf_31 : decode cX8_wordOf 31 = .ok (.invokestatic 53, 3) := by decide +kernel
theorem dX8_wordOf_34 : decode cX8_wordOf 34 = .ok (.lcmp, 1) := by decide +kernel
theorem dX8_wordOf_35 : decode cX8_wordOf 35 = .ok (.ifCond .ne 7, 3) := by decide +kernel
theorem dX8_wordOf_38 : decode cX8_wordOf 38 = .ok (.iconst 1, 1) := by decide +kernel
theorem dX8_wordOf_39 : decode cX8_wordOf 39 = .ok (.goto 130, 3) := by decide +kernel
theorem dX8_wordOf_42 : decode cX8_wordOf 42 = .ok (.lload_n 0, 1) := by decide +kernel
theorem dX8_wordOf_43 : decode cX8_wordOf 43 = .ok (.bipush 99, 2) := by decide +kernel
theorem dX8_wordOf_45 : decode cX8_wordOf 45 = .ok (.bipush 117, 2) := by decide +kernel
theorem dX8_wordOf_47 : decode cX8_wordOf 47 = .ok (.bipush 116, 2) := by decide +kernel
theorem dX8_wordOf_49 : decode cX8_wordOf 49 = .ok (.iconst 0, 1) := by decide +kernel
theorem dX8_wordOf_50 : decode cX8_wordOf 50 = .ok (.iconst 0, 1) := by decide +kernel
theorem dX8_wordOf_51 : decode cX8_wordOf 51 = .ok (.invokestatic 53, 3) := by decide +kernel
theorem dX8_wordOf_54 : decode cX8_wordOf 54 = .ok (.lcmp, 1) := by decide +kernel
theorem dX8_wordOf_55 : decode cX8_wordOf 55 = .ok (.ifCond .ne 7, 3) := by decide +kernel
theorem dX8_wordOf_58 : decode cX8_wordOf 58 = .ok (.iconst 2, 1) := by decide +kernel
theorem dX8_wordOf_59 : decode cX8_wordOf 59 = .ok (.goto 110, 3) := by decide +kernel
theorem dX8_wordOf_62 : decode cX8_wordOf 62 = .ok (.lload_n 0, 1) := by decide +kernel
theorem dX8_wordOf_63 : decode cX8_wordOf 63 = .ok (.bipush 116, 2) := by decide +kernel
theorem dX8_wordOf_65 : decode cX8_wordOf 65 = .ok (.bipush 114, 2) := by decide +kernel
theorem dX8_wordOf_67 : decode cX8_wordOf 67 = .ok (.bipush 105, 2) := by decide +kernel
theorem dX8_wordOf_69 : decode cX8_wordOf 69 = .ok (.bipush 109, 2) := by decide +kernel
theorem dX8_wordOf_71 : decode cX8_wordOf 71 = .ok (.iconst 0, 1) := by decide +kernel
theorem dX8_wordOf_72 : decode cX8_wordOf 72 = .ok (.invokestatic 53, 3) := by decide +kernel
theorem dX8_wordOf_75 : decode cX8_wordOf 75 = .ok (.lcmp, 1) := by decide +kernel
theorem dX8_wordOf_76 : decode cX8_wordOf 76 = .ok (.ifCond .ne 7, 3) := by decide +kernel
theorem dX8_wordOf_79 : decode cX8_wordOf 79 = .ok (.iconst 3, 1) := by decide +kernel
theorem dX8_wordOf_80 : decode cX8_wordOf 80 = .ok (.goto 89, 3) := by decide +kernel
theorem dX8_wordOf_83 : decode cX8_wordOf 83 = .ok (.lload_n 0, 1) := by decide +kernel
theorem dX8_wordOf_84 : decode cX8_wordOf 84 = .ok (.bipush 100, 2) := by decide +kernel
theorem dX8_wordOf_86 : decode cX8_wordOf 86 = .ok (.bipush 114, 2) := by decide +kernel
theorem dX8_wordOf_88 : decode cX8_wordOf 88 = .ok (.bipush 111, 2) := by decide +kernel
theorem dX8_wordOf_90 : decode cX8_wordOf 90 = .ok (.bipush 112, 2) := by decide +kernel
theorem dX8_wordOf_92 : decode cX8_wordOf 92 = .ok (.iconst 0, 1) := by decide +kernel
theorem dX8_wordOf_93 : decode cX8_wordOf 93 = .ok (.invokestatic 53, 3) := by decide +kernel
theorem dX8_wordOf_96 : decode cX8_wordOf 96 = .ok (.lcmp, 1) := by decide +kernel
theorem dX8_wordOf_97 : decode cX8_wordOf 97 = .ok (.ifCond .ne 7, 3) := by decide +kernel
theorem dX8_wordOf_100 : decode cX8_wordOf 100 = .ok (.iconst 4, 1) := by decide +kernel
theorem dX8_wordOf_101 : decode cX8_wordOf 101 = .ok (.goto 68, 3) := by decide +kernel
theorem dX8_wordOf_104 : decode cX8_wordOf 104 = .ok (.lload_n 0, 1) := by decide +kernel
theorem dX8_wordOf_105 : decode cX8_wordOf 105 = .ok (.bipush 115, 2) := by decide +kernel
theorem dX8_wordOf_107 : decode cX8_wordOf 107 = .ok (.bipush 111, 2) := by decide +kernel
theorem dX8_wordOf_109 : decode cX8_wordOf 109 = .ok (.iconst 0, 1) := by decide +kernel
theorem dX8_wordOf_110 : decode cX8_wordOf 110 = .ok (.iconst 0, 1) := by decide +kernel
theorem dX8_wordOf_111 : decode cX8_wordOf 111 = .ok (.iconst 0, 1) := by decide +kernel
theorem dX8_wordOf_112 : decode cX8_wordOf 112 = .ok (.invokestatic 53, 3) := by decide +kernel
theorem dX8_wordOf_115 : decode cX8_wordOf 115 = .ok (.lcmp, 1) := by decide +kernel
theorem dX8_wordOf_116 : decode cX8_wordOf 116 = .ok (.ifCond .ne 7, 3) := by decide +kernel
theorem dX8_wordOf_119 : decode cX8_wordOf 119 = .ok (.iconst 5, 1) := by decide +kernel
theorem dX8_wordOf_120 : decode cX8_wordOf 120 = .ok (.goto 49, 3) := by decide +kernel
theorem dX8_wordOf_123 : decode cX8_wordOf 123 = .ok (.lload_n 0, 1) := by decide +kernel
theorem dX8_wordOf_124 : decode cX8_wordOf 124 = .ok (.bipush 110, 2) := by decide +kernel
theorem dX8_wordOf_126 : decode cX8_wordOf 126 = .ok (.bipush 111, 2) := by decide +kernel
theorem dX8_wordOf_128 : decode cX8_wordOf 128 = .ok (.bipush 116, 2) := by decide +kernel
theorem dX8_wordOf_130 : decode cX8_wordOf 130 = .ok (.iconst 0, 1) := by decide +kernel
theorem dX8_wordOf_131 : decode cX8_wordOf 131 = .ok (.iconst 0, 1) := by decide +kernel
theorem dX8_wordOf_132 : decode cX8_wordOf 132 = .ok (.invokestatic 53, 3) := by decide +kernel
theorem dX8_wordOf_135 : decode cX8_wordOf 135 = .ok (.lcmp, 1) := by decide +kernel
theorem dX8_wordOf_136 : decode cX8_wordOf 136 = .ok (.ifCond .ne 8, 3) := by decide +kernel
theorem dX8_wordOf_139 : decode cX8_wordOf 139 = .ok (.bipush 6, 2) := by decide +kernel
theorem dX8_wordOf_141 : decode cX8_wordOf 141 = .ok (.goto 28, 3) := by decide +kernel
theorem dX8_wordOf_144 : decode cX8_wordOf 144 = .ok (.lload_n 0, 1) := by decide +kernel
theorem dX8_wordOf_145 : decode cX8_wordOf 145 = .ok (.bipush 99, 2) := by decide +kernel
theorem dX8_wordOf_147 : decode cX8_wordOf 147 = .ok (.bipush 108, 2) := by decide +kernel
theorem dX8_wordOf_149 : decode cX8_wordOf 149 = .ok (.bipush 97, 2) := by decide +kernel
theorem dX8_wordOf_151 : decode cX8_wordOf 151 = .ok (.bipush 105, 2) := by decide +kernel
theorem dX8_wordOf_153 : decode cX8_wordOf 153 = .ok (.bipush 109, 2) := by decide +kernel
theorem dX8_wordOf_155 : decode cX8_wordOf 155 = .ok (.invokestatic 53, 3) := by decide +kernel
theorem dX8_wordOf_158 : decode cX8_wordOf 158 = .ok (.lcmp, 1) := by decide +kernel
theorem dX8_wordOf_159 : decode cX8_wordOf 159 = .ok (.ifCond .ne 8, 3) := by decide +kernel
theorem dX8_wordOf_162 : decode cX8_wordOf 162 = .ok (.bipush 7, 2) := by decide +kernel
theorem dX8_wordOf_164 : decode cX8_wordOf 164 = .ok (.goto 5, 3) := by decide +kernel
theorem dX8_wordOf_167 : decode cX8_wordOf 167 = .ok (.bipush (-9), 2) := by decide +kernel
theorem dX8_wordOf_169 : decode cX8_wordOf 169 = .ok (.ireturn, 1) := by decide +kernel
theorem dX8_advances_0 : decode cX8_advances 0 = .ok (.aload_n 0, 1) := by decide +kernel
theorem dX8_advances_1 : decode cX8_advances 1 = .ok (.aload_n 0, 1) := by decide +kernel
theorem dX8_advances_2 : decode cX8_advances 2 = .ok (.getfield 57, 3) := by decide +kernel
theorem dX8_advances_5 : decode cX8_advances 5 = .ok (.invokevirtual 60, 3) := by decide +kernel
theorem dX8_advances_8 : decode cX8_advances 8 = .ok (.bipush 32, 2) := by decide +kernel
theorem dX8_advances_10 : decode cX8_advances 10 = .ok (.if_icmp .ne 16, 3) := by decide +kernel
theorem dX8_advances_13 : decode cX8_advances 13 = .ok (.aload_n 0, 1) := by decide +kernel
theorem dX8_advances_14 : decode cX8_advances 14 = .ok (.dup, 1) := by decide +kernel
theorem dX8_advances_15 : decode cX8_advances 15 = .ok (.getfield 57, 3) := by decide +kernel
theorem dX8_advances_18 : decode cX8_advances 18 = .ok (.iconst 1, 1) := by decide +kernel
theorem dX8_advances_19 : decode cX8_advances 19 = .ok (.iadd, 1) := by decide +kernel
theorem dX8_advances_20 : decode cX8_advances 20 = .ok (.putfield 57, 3) := by decide +kernel
theorem dX8_advances_23 : decode cX8_advances 23 = .ok (.goto (-23), 3) := by decide +kernel
theorem dX8_advances_26 : decode cX8_advances 26 = .ok (.aload_n 0, 1) := by decide +kernel
theorem dX8_advances_27 : decode cX8_advances 27 = .ok (.aload_n 0, 1) := by decide +kernel
theorem dX8_advances_28 : decode cX8_advances 28 = .ok (.getfield 57, 3) := by decide +kernel
theorem dX8_advances_31 : decode cX8_advances 31 = .ok (.putfield 64, 3) := by decide +kernel
theorem dX8_advances_34 : decode cX8_advances 34 = .ok (.aload_n 0, 1) := by decide +kernel
theorem dX8_advances_35 : decode cX8_advances 35 = .ok (.aload_n 0, 1) := by decide +kernel
theorem dX8_advances_36 : decode cX8_advances 36 = .ok (.getfield 57, 3) := by decide +kernel
theorem dX8_advances_39 : decode cX8_advances 39 = .ok (.invokevirtual 60, 3) := by decide +kernel
theorem dX8_advances_42 : decode cX8_advances 42 = .ok (.istore_n 1, 1) := by decide +kernel
theorem dX8_advances_43 : decode cX8_advances 43 = .ok (.iload_n 1, 1) := by decide +kernel
theorem dX8_advances_44 : decode cX8_advances 44 = .ok (.ifCond .ge 11, 3) := by decide +kernel
theorem dX8_advances_47 : decode cX8_advances 47 = .ok (.aload_n 0, 1) := by decide +kernel
theorem dX8_advances_48 : decode cX8_advances 48 = .ok (.iconst 0, 1) := by decide +kernel
theorem dX8_advances_49 : decode cX8_advances 49 = .ok (.putfield 67, 3) := by decide +kernel
theorem dX8_advances_52 : decode cX8_advances 52 = .ok (.goto 380, 3) := by decide +kernel
theorem dX8_advances_55 : decode cX8_advances 55 = .ok (.iload_n 1, 1) := by decide +kernel
theorem dX8_advances_56 : decode cX8_advances 56 = .ok (.bipush 97, 2) := by decide +kernel
theorem dX8_advances_58 : decode cX8_advances 58 = .ok (.bipush 122, 2) := by decide +kernel
theorem dX8_advances_60 : decode cX8_advances 60 = .ok (.invokestatic 38, 3) := by decide +kernel
theorem dX8_advances_63 : decode cX8_advances 63 = .ok (.ifCond .eq 140, 3) := by decide +kernel
theorem dX8_advances_66 : decode cX8_advances 66 = .ok (.lconst 0, 1) := by decide +kernel
theorem dX8_advances_67 : decode cX8_advances 67 = .ok (.lstore_n 2, 1) := by decide +kernel
theorem dX8_advances_68 : decode cX8_advances 68 = .ok (.iconst 0, 1) := by decide +kernel
theorem dX8_advances_69 : decode cX8_advances 69 = .ok (.istore 4, 2) := by decide +kernel
theorem dX8_advances_71 : decode cX8_advances 71 = .ok (.aload_n 0, 1) := by decide +kernel
theorem dX8_advances_72 : decode cX8_advances 72 = .ok (.aload_n 0, 1) := by decide +kernel
theorem dX8_advances_73 : decode cX8_advances 73 = .ok (.getfield 57, 3) := by decide +kernel
theorem dX8_advances_76 : decode cX8_advances 76 = .ok (.invokevirtual 60, 3) := by decide +kernel
theorem dX8_advances_79 : decode cX8_advances 79 = .ok (.bipush 97, 2) := by decide +kernel
theorem dX8_advances_81 : decode cX8_advances 81 = .ok (.bipush 122, 2) := by decide +kernel
theorem dX8_advances_83 : decode cX8_advances 83 = .ok (.invokestatic 38, 3) := by decide +kernel
theorem dX8_advances_86 : decode cX8_advances 86 = .ok (.ifCond .eq 42, 3) := by decide +kernel
theorem dX8_advances_89 : decode cX8_advances 89 = .ok (.iload 4, 2) := by decide +kernel
theorem dX8_advances_91 : decode cX8_advances 91 = .ok (.iconst 5, 1) := by decide +kernel
theorem dX8_advances_92 : decode cX8_advances 92 = .ok (.if_icmp .ge 18, 3) := by decide +kernel
theorem dX8_advances_95 : decode cX8_advances 95 = .ok (.lload_n 2, 1) := by decide +kernel
theorem dX8_advances_96 : decode cX8_advances 96 = .ok (.aload_n 0, 1) := by decide +kernel
theorem dX8_advances_97 : decode cX8_advances 97 = .ok (.aload_n 0, 1) := by decide +kernel
theorem dX8_advances_98 : decode cX8_advances 98 = .ok (.getfield 57, 3) := by decide +kernel
theorem dX8_advances_101 : decode cX8_advances 101 = .ok (.invokevirtual 60, 3) := by decide +kernel
theorem dX8_advances_104 : decode cX8_advances 104 = .ok (.invokestatic 49, 3) := by decide +kernel
theorem dX8_advances_107 : decode cX8_advances 107 = .ok (.goto 4, 3) := by decide +kernel
theorem dX8_advances_110 : decode cX8_advances 110 = .ok (.lload_n 2, 1) := by decide +kernel
theorem dX8_advances_111 : decode cX8_advances 111 = .ok (.lstore_n 2, 1) := by decide +kernel
theorem dX8_advances_112 : decode cX8_advances 112 = .ok (.iinc 4 1, 3) := by decide +kernel
theorem dX8_advances_115 : decode cX8_advances 115 = .ok (.aload_n 0, 1) := by decide +kernel
theorem dX8_advances_116 : decode cX8_advances 116 = .ok (.dup, 1) := by decide +kernel
theorem dX8_advances_117 : decode cX8_advances 117 = .ok (.getfield 57, 3) := by decide +kernel
theorem dX8_advances_120 : decode cX8_advances 120 = .ok (.iconst 1, 1) := by decide +kernel
theorem dX8_advances_121 : decode cX8_advances 121 = .ok (.iadd, 1) := by decide +kernel
theorem dX8_advances_122 : decode cX8_advances 122 = .ok (.putfield 57, 3) := by decide +kernel
theorem dX8_advances_125 : decode cX8_advances 125 = .ok (.goto (-54), 3) := by decide +kernel
theorem dX8_advances_128 : decode cX8_advances 128 = .ok (.aload_n 0, 1) := by decide +kernel
theorem dX8_advances_129 : decode cX8_advances 129 = .ok (.iload 4, 2) := by decide +kernel
theorem dX8_advances_131 : decode cX8_advances 131 = .ok (.iconst 1, 1) := by decide +kernel
theorem dX8_advances_132 : decode cX8_advances 132 = .ok (.if_icmp .ne 10, 3) := by decide +kernel
theorem dX8_advances_135 : decode cX8_advances 135 = .ok (.iload_n 1, 1) := by decide +kernel
theorem dX8_advances_136 : decode cX8_advances 136 = .ok (.bipush 97, 2) := by decide +kernel
theorem dX8_advances_138 : decode cX8_advances 138 = .ok (.isub, 1) := by decide +kernel
theorem dX8_advances_139 : decode cX8_advances 139 = .ok (.goto 18, 3) := by decide +kernel
theorem dX8_advances_142 : decode cX8_advances 142 = .ok (.iload 4, 2) := by decide +kernel
theorem dX8_advances_144 : decode cX8_advances 144 = .ok (.iconst 5, 1) := by decide +kernel
theorem dX8_advances_145 : decode cX8_advances 145 = .ok (.if_icmp .le 8, 3) := by decide +kernel
theorem dX8_advances_148 : decode cX8_advances 148 = .ok (.bipush (-9), 2) := by decide +kernel
theorem dX8_advances_150 : decode cX8_advances 150 = .ok (.goto 7, 3) := by decide +kernel
theorem dX8_advances_153 : decode cX8_advances 153 = .ok (.lload_n 2, 1) := by decide +kernel
theorem dX8_advances_154 : decode cX8_advances 154 = .ok (.invokestatic 70, 3) := by decide +kernel
theorem dX8_advances_157 : decode cX8_advances 157 = .ok (.putfield 74, 3) := by decide +kernel
theorem dX8_advances_160 : decode cX8_advances 160 = .ok (.aload_n 0, 1) := by decide +kernel
theorem dX8_advances_161 : decode cX8_advances 161 = .ok (.iload 4, 2) := by decide +kernel
theorem dX8_advances_163 : decode cX8_advances 163 = .ok (.iconst 1, 1) := by decide +kernel
theorem dX8_advances_164 : decode cX8_advances 164 = .ok (.if_icmp .ne 18, 3) := by decide +kernel
theorem dX8_advances_167 : decode cX8_advances 167 = .ok (.iload_n 1, 1) := by decide +kernel
theorem dX8_advances_168 : decode cX8_advances 168 = .ok (.bipush 103, 2) := by decide +kernel
theorem dX8_advances_170 : decode cX8_advances 170 = .ok (.if_icmp .ge 7, 3) := by decide +kernel
theorem dX8_advances_173 : decode cX8_advances 173 = .ok (.iconst 1, 1) := by decide +kernel
theorem dX8_advances_174 : decode cX8_advances 174 = .ok (.goto 23, 3) := by decide +kernel
theorem dX8_advances_177 : decode cX8_advances 177 = .ok (.bipush 8, 2) := by decide +kernel
theorem dX8_advances_179 : decode cX8_advances 179 = .ok (.goto 18, 3) := by decide +kernel
theorem dX8_advances_182 : decode cX8_advances 182 = .ok (.aload_n 0, 1) := by decide +kernel
theorem dX8_advances_183 : decode cX8_advances 183 = .ok (.getfield 74, 3) := by decide +kernel
theorem dX8_advances_186 : decode cX8_advances 186 = .ok (.bipush (-9), 2) := by decide +kernel
theorem dX8_advances_188 : decode cX8_advances 188 = .ok (.if_icmp .ne 8, 3) := by decide +kernel
theorem dX8_advances_191 : decode cX8_advances 191 = .ok (.bipush 8, 2) := by decide +kernel
theorem dX8_advances_193 : decode cX8_advances 193 = .ok (.goto 4, 3) := by decide +kernel
theorem dX8_advances_196 : decode cX8_advances 196 = .ok (.iconst 2, 1) := by decide +kernel
theorem dX8_advances_197 : decode cX8_advances 197 = .ok (.putfield 67, 3) := by decide +kernel
theorem dX8_advances_200 : decode cX8_advances 200 = .ok (.goto 232, 3) := by decide +kernel
theorem dX8_advances_203 : decode cX8_advances 203 = .ok (.iload_n 1, 1) := by decide +kernel
theorem dX8_advances_204 : decode cX8_advances 204 = .ok (.bipush 48, 2) := by decide +kernel
theorem dX8_advances_206 : decode cX8_advances 206 = .ok (.bipush 57, 2) := by decide +kernel
theorem dX8_advances_208 : decode cX8_advances 208 = .ok (.invokestatic 38, 3) := by decide +kernel
theorem dX8_advances_211 : decode cX8_advances 211 = .ok (.ifCond .eq 121, 3) := by decide +kernel
theorem dX8_advances_214 : decode cX8_advances 214 = .ok (.aload_n 0, 1) := by decide +kernel
theorem dX8_advances_215 : decode cX8_advances 215 = .ok (.iconst 0, 1) := by decide +kernel
theorem dX8_advances_216 : decode cX8_advances 216 = .ok (.putfield 74, 3) := by decide +kernel
theorem dX8_advances_219 : decode cX8_advances 219 = .ok (.aload_n 0, 1) := by decide +kernel
theorem dX8_advances_220 : decode cX8_advances 220 = .ok (.aload_n 0, 1) := by decide +kernel
theorem dX8_advances_221 : decode cX8_advances 221 = .ok (.getfield 57, 3) := by decide +kernel
theorem dX8_advances_224 : decode cX8_advances 224 = .ok (.invokevirtual 60, 3) := by decide +kernel
theorem dX8_advances_227 : decode cX8_advances 227 = .ok (.bipush 48, 2) := by decide +kernel
theorem dX8_advances_229 : decode cX8_advances 229 = .ok (.bipush 57, 2) := by decide +kernel
theorem dX8_advances_231 : decode cX8_advances 231 = .ok (.invokestatic 38, 3) := by decide +kernel
theorem dX8_advances_234 : decode cX8_advances 234 = .ok (.ifCond .eq 56, 3) := by decide +kernel
theorem dX8_advances_237 : decode cX8_advances 237 = .ok (.aload_n 0, 1) := by decide +kernel
theorem dX8_advances_238 : decode cX8_advances 238 = .ok (.aload_n 0, 1) := by decide +kernel
theorem dX8_advances_239 : decode cX8_advances 239 = .ok (.getfield 74, 3) := by decide +kernel
theorem dX8_advances_242 : decode cX8_advances 242 = .ok (.sipush 999, 3) := by decide +kernel
theorem dX8_advances_245 : decode cX8_advances 245 = .ok (.if_icmp .le 10, 3) := by decide +kernel
theorem dX8_advances_248 : decode cX8_advances 248 = .ok (.aload_n 0, 1) := by decide +kernel
theorem dX8_advances_249 : decode cX8_advances 249 = .ok (.getfield 74, 3) := by decide +kernel
theorem dX8_advances_252 : decode cX8_advances 252 = .ok (.goto 22, 3) := by decide +kernel
theorem dX8_advances_255 : decode cX8_advances 255 = .ok (.bipush 10, 2) := by decide +kernel
theorem dX8_advances_257 : decode cX8_advances 257 = .ok (.aload_n 0, 1) := by decide +kernel
theorem dX8_advances_258 : decode cX8_advances 258 = .ok (.getfield 74, 3) := by decide +kernel
theorem dX8_advances_261 : decode cX8_advances 261 = .ok (.imul, 1) := by decide +kernel
theorem dX8_advances_262 : decode cX8_advances 262 = .ok (.aload_n 0, 1) := by decide +kernel
theorem dX8_advances_263 : decode cX8_advances 263 = .ok (.aload_n 0, 1) := by decide +kernel
theorem dX8_advances_264 : decode cX8_advances 264 = .ok (.getfield 57, 3) := by decide +kernel
theorem dX8_advances_267 : decode cX8_advances 267 = .ok (.invokevirtual 60, 3) := by decide +kernel
theorem dX8_advances_270 : decode cX8_advances 270 = .ok (.iadd, 1) := by decide +kernel
theorem dX8_advances_271 : decode cX8_advances 271 = .ok (.bipush 48, 2) := by decide +kernel
theorem dX8_advances_273 : decode cX8_advances 273 = .ok (.isub, 1) := by decide +kernel
theorem dX8_advances_274 : decode cX8_advances 274 = .ok (.putfield 74, 3) := by decide +kernel
theorem dX8_advances_277 : decode cX8_advances 277 = .ok (.aload_n 0, 1) := by decide +kernel
theorem dX8_advances_278 : decode cX8_advances 278 = .ok (.dup, 1) := by decide +kernel
theorem dX8_advances_279 : decode cX8_advances 279 = .ok (.getfield 57, 3) := by decide +kernel
theorem dX8_advances_282 : decode cX8_advances 282 = .ok (.iconst 1, 1) := by decide +kernel
theorem dX8_advances_283 : decode cX8_advances 283 = .ok (.iadd, 1) := by decide +kernel
theorem dX8_advances_284 : decode cX8_advances 284 = .ok (.putfield 57, 3) := by decide +kernel
theorem dX8_advances_287 : decode cX8_advances 287 = .ok (.goto (-68), 3) := by decide +kernel
theorem dX8_advances_290 : decode cX8_advances 290 = .ok (.aload_n 0, 1) := by decide +kernel
theorem dX8_advances_291 : decode cX8_advances 291 = .ok (.aload_n 0, 1) := by decide +kernel
theorem dX8_advances_292 : decode cX8_advances 292 = .ok (.getfield 74, 3) := by decide +kernel
theorem dX8_advances_295 : decode cX8_advances 295 = .ok (.sipush 999, 3) := by decide +kernel
theorem dX8_advances_298 : decode cX8_advances 298 = .ok (.if_icmp .gt 22, 3) := by decide +kernel
theorem dX8_advances_301 : decode cX8_advances 301 = .ok (.iload_n 1, 1) := by decide +kernel
theorem dX8_advances_302 : decode cX8_advances 302 = .ok (.bipush 48, 2) := by decide +kernel
theorem dX8_advances_304 : decode cX8_advances 304 = .ok (.if_icmp .ne 21, 3) := by decide +kernel
theorem dX8_advances_307 : decode cX8_advances 307 = .ok (.aload_n 0, 1) := by decide +kernel
theorem dX8_advances_308 : decode cX8_advances 308 = .ok (.getfield 57, 3) := by decide +kernel
theorem dX8_advances_311 : decode cX8_advances 311 = .ok (.aload_n 0, 1) := by decide +kernel
theorem dX8_advances_312 : decode cX8_advances 312 = .ok (.getfield 64, 3) := by decide +kernel
theorem dX8_advances_315 : decode cX8_advances 315 = .ok (.isub, 1) := by decide +kernel
theorem dX8_advances_316 : decode cX8_advances 316 = .ok (.iconst 1, 1) := by decide +kernel
theorem dX8_advances_317 : decode cX8_advances 317 = .ok (.if_icmp .le 8, 3) := by decide +kernel
theorem dX8_advances_320 : decode cX8_advances 320 = .ok (.bipush 8, 2) := by decide +kernel
theorem dX8_advances_322 : decode cX8_advances 322 = .ok (.goto 4, 3) := by decide +kernel
theorem dX8_advances_325 : decode cX8_advances 325 = .ok (.iconst 3, 1) := by decide +kernel
theorem dX8_advances_326 : decode cX8_advances 326 = .ok (.putfield 67, 3) := by decide +kernel
theorem dX8_advances_329 : decode cX8_advances 329 = .ok (.goto 103, 3) := by decide +kernel
theorem dX8_advances_332 : decode cX8_advances 332 = .ok (.iload_n 1, 1) := by decide +kernel
theorem dX8_advances_333 : decode cX8_advances 333 = .ok (.bipush 62, 2) := by decide +kernel
theorem dX8_advances_335 : decode cX8_advances 335 = .ok (.if_icmp .ne 49, 3) := by decide +kernel
theorem dX8_advances_338 : decode cX8_advances 338 = .ok (.aload_n 0, 1) := by decide +kernel
theorem dX8_advances_339 : decode cX8_advances 339 = .ok (.dup, 1) := by decide +kernel
theorem dX8_advances_340 : decode cX8_advances 340 = .ok (.getfield 57, 3) := by decide +kernel
theorem dX8_advances_343 : decode cX8_advances 343 = .ok (.iconst 1, 1) := by decide +kernel
theorem dX8_advances_344 : decode cX8_advances 344 = .ok (.iadd, 1) := by decide +kernel
theorem dX8_advances_345 : decode cX8_advances 345 = .ok (.putfield 57, 3) := by decide +kernel
theorem dX8_advances_348 : decode cX8_advances 348 = .ok (.aload_n 0, 1) := by decide +kernel
theorem dX8_advances_349 : decode cX8_advances 349 = .ok (.aload_n 0, 1) := by decide +kernel
theorem dX8_advances_350 : decode cX8_advances 350 = .ok (.aload_n 0, 1) := by decide +kernel
theorem dX8_advances_351 : decode cX8_advances 351 = .ok (.getfield 57, 3) := by decide +kernel
theorem dX8_advances_354 : decode cX8_advances 354 = .ok (.invokevirtual 60, 3) := by decide +kernel
theorem dX8_advances_357 : decode cX8_advances 357 = .ok (.bipush 61, 2) := by decide +kernel
theorem dX8_advances_359 : decode cX8_advances 359 = .ok (.if_icmp .ne 7, 3) := by decide +kernel
theorem dX8_advances_362 : decode cX8_advances 362 = .ok (.iconst 4, 1) := by decide +kernel
theorem dX8_advances_363 : decode cX8_advances 363 = .ok (.goto 5, 3) := by decide +kernel
theorem dX8_advances_366 : decode cX8_advances 366 = .ok (.bipush 8, 2) := by decide +kernel
theorem dX8_advances_368 : decode cX8_advances 368 = .ok (.putfield 67, 3) := by decide +kernel
theorem dX8_advances_371 : decode cX8_advances 371 = .ok (.aload_n 0, 1) := by decide +kernel
theorem dX8_advances_372 : decode cX8_advances 372 = .ok (.dup, 1) := by decide +kernel
theorem dX8_advances_373 : decode cX8_advances 373 = .ok (.getfield 57, 3) := by decide +kernel
theorem dX8_advances_376 : decode cX8_advances 376 = .ok (.iconst 1, 1) := by decide +kernel
theorem dX8_advances_377 : decode cX8_advances 377 = .ok (.iadd, 1) := by decide +kernel
theorem dX8_advances_378 : decode cX8_advances 378 = .ok (.putfield 57, 3) := by decide +kernel
theorem dX8_advances_381 : decode cX8_advances 381 = .ok (.goto 51, 3) := by decide +kernel
theorem dX8_advances_384 : decode cX8_advances 384 = .ok (.aload_n 0, 1) := by decide +kernel
theorem dX8_advances_385 : decode cX8_advances 385 = .ok (.dup, 1) := by decide +kernel
theorem dX8_advances_386 : decode cX8_advances 386 = .ok (.getfield 57, 3) := by decide +kernel
theorem dX8_advances_389 : decode cX8_advances 389 = .ok (.iconst 1, 1) := by decide +kernel
theorem dX8_advances_390 : decode cX8_advances 390 = .ok (.iadd, 1) := by decide +kernel
theorem dX8_advances_391 : decode cX8_advances 391 = .ok (.putfield 57, 3) := by decide +kernel
theorem dX8_advances_394 : decode cX8_advances 394 = .ok (.aload_n 0, 1) := by decide +kernel
theorem dX8_advances_395 : decode cX8_advances 395 = .ok (.iload_n 1, 1) := by decide +kernel
theorem dX8_advances_396 : decode cX8_advances 396 = .ok (.bipush 43, 2) := by decide +kernel
theorem dX8_advances_398 : decode cX8_advances 398 = .ok (.if_icmp .ne 7, 3) := by decide +kernel
theorem dX8_advances_401 : decode cX8_advances 401 = .ok (.iconst 5, 1) := by decide +kernel
theorem dX8_advances_402 : decode cX8_advances 402 = .ok (.goto 27, 3) := by decide +kernel
theorem dX8_advances_405 : decode cX8_advances 405 = .ok (.iload_n 1, 1) := by decide +kernel
theorem dX8_advances_406 : decode cX8_advances 406 = .ok (.bipush 33, 2) := by decide +kernel
theorem dX8_advances_408 : decode cX8_advances 408 = .ok (.if_icmp .ne 8, 3) := by decide +kernel
theorem dX8_advances_411 : decode cX8_advances 411 = .ok (.bipush 6, 2) := by decide +kernel
theorem dX8_advances_413 : decode cX8_advances 413 = .ok (.goto 16, 3) := by decide +kernel
theorem dX8_advances_416 : decode cX8_advances 416 = .ok (.iload_n 1, 1) := by decide +kernel
theorem dX8_advances_417 : decode cX8_advances 417 = .ok (.bipush 59, 2) := by decide +kernel
theorem dX8_advances_419 : decode cX8_advances 419 = .ok (.if_icmp .ne 8, 3) := by decide +kernel
theorem dX8_advances_422 : decode cX8_advances 422 = .ok (.bipush 7, 2) := by decide +kernel
theorem dX8_advances_424 : decode cX8_advances 424 = .ok (.goto 5, 3) := by decide +kernel
theorem dX8_advances_427 : decode cX8_advances 427 = .ok (.bipush 8, 2) := by decide +kernel
theorem dX8_advances_429 : decode cX8_advances 429 = .ok (.putfield 67, 3) := by decide +kernel
theorem dX8_advances_432 : decode cX8_advances 432 = .ok (.return_, 1) := by decide +kernel
theorem dX8_isWell_0 : decode cX8_isWell 0 = .ok (.aload_n 0, 1) := by decide +kernel
theorem dX8_isWell_1 : decode cX8_isWell 1 = .ok (.getfield 77, 3) := by decide +kernel
theorem dX8_isWell_4 : decode cX8_isWell 4 = .ok (.ifCond .ge 7, 3) := by decide +kernel
theorem dX8_isWell_7 : decode cX8_isWell 7 = .ok (.iconst 1, 1) := by decide +kernel
theorem dX8_isWell_8 : decode cX8_isWell 8 = .ok (.goto 4, 3) := by decide +kernel
theorem dX8_isWell_11 : decode cX8_isWell 11 = .ok (.iconst 0, 1) := by decide +kernel
theorem dX8_isWell_12 : decode cX8_isWell 12 = .ok (.ireturn, 1) := by decide +kernel
theorem dX8_fails_0 : decode cX8_fails 0 = .ok (.aload_n 0, 1) := by decide +kernel
theorem dX8_fails_1 : decode cX8_fails 1 = .ok (.aload_n 0, 1) := by decide +kernel
theorem dX8_fails_2 : decode cX8_fails 2 = .ok (.getfield 77, 3) := by decide +kernel
theorem dX8_fails_5 : decode cX8_fails 5 = .ok (.ifCond .ge 10, 3) := by decide +kernel
theorem dX8_fails_8 : decode cX8_fails 8 = .ok (.aload_n 0, 1) := by decide +kernel
theorem dX8_fails_9 : decode cX8_fails 9 = .ok (.getfield 64, 3) := by decide +kernel
theorem dX8_fails_12 : decode cX8_fails 12 = .ok (.goto 7, 3) := by decide +kernel
theorem dX8_fails_15 : decode cX8_fails 15 = .ok (.aload_n 0, 1) := by decide +kernel
theorem dX8_fails_16 : decode cX8_fails 16 = .ok (.getfield 77, 3) := by decide +kernel
theorem dX8_fails_19 : decode cX8_fails 19 = .ok (.putfield 77, 3) := by decide +kernel
theorem dX8_fails_22 : decode cX8_fails 22 = .ok (.return_, 1) := by decide +kernel
theorem dX8_isToken_0 : decode cX8_isToken 0 = .ok (.aload_n 0, 1) := by decide +kernel
theorem dX8_isToken_1 : decode cX8_isToken 1 = .ok (.invokevirtual 80, 3) := by decide +kernel
theorem dX8_isToken_4 : decode cX8_isToken 4 = .ok (.ifCond .eq 15, 3) := by decide +kernel
theorem dX8_isToken_7 : decode cX8_isToken 7 = .ok (.aload_n 0, 1) := by decide +kernel
theorem dX8_isToken_8 : decode cX8_isToken 8 = .ok (.getfield 67, 3) := by decide +kernel
theorem dX8_isToken_11 : decode cX8_isToken 11 = .ok (.iload_n 1, 1) := by decide +kernel
theorem dX8_isToken_12 : decode cX8_isToken 12 = .ok (.if_icmp .ne 7, 3) := by decide +kernel
theorem dX8_isToken_15 : decode cX8_isToken 15 = .ok (.iconst 1, 1) := by decide +kernel
theorem dX8_isToken_16 : decode cX8_isToken 16 = .ok (.goto 4, 3) := by decide +kernel
theorem dX8_isToken_19 : decode cX8_isToken 19 = .ok (.iconst 0, 1) := by decide +kernel
theorem dX8_isToken_20 : decode cX8_isToken 20 = .ok (.ireturn, 1) := by decide +kernel
theorem dX8_takes_0 : decode cX8_takes 0 = .ok (.aload_n 0, 1) := by decide +kernel
theorem dX8_takes_1 : decode cX8_takes 1 = .ok (.iload_n 1, 1) := by decide +kernel
theorem dX8_takes_2 : decode cX8_takes 2 = .ok (.invokevirtual 84, 3) := by decide +kernel
theorem dX8_takes_5 : decode cX8_takes 5 = .ok (.ifCond .eq 10, 3) := by decide +kernel
theorem dX8_takes_8 : decode cX8_takes 8 = .ok (.aload_n 0, 1) := by decide +kernel
theorem dX8_takes_9 : decode cX8_takes 9 = .ok (.invokevirtual 88, 3) := by decide +kernel
theorem dX8_takes_12 : decode cX8_takes 12 = .ok (.goto 7, 3) := by decide +kernel
theorem dX8_takes_15 : decode cX8_takes 15 = .ok (.aload_n 0, 1) := by decide +kernel
theorem dX8_takes_16 : decode cX8_takes 16 = .ok (.invokevirtual 91, 3) := by decide +kernel
theorem dX8_takes_19 : decode cX8_takes 19 = .ok (.return_, 1) := by decide +kernel
theorem dX8_takesNumber_0 : decode cX8_takesNumber 0 = .ok (.aload_n 0, 1) := by decide +kernel
theorem dX8_takesNumber_1 : decode cX8_takesNumber 1 = .ok (.iconst 3, 1) := by decide +kernel
theorem dX8_takesNumber_2 : decode cX8_takesNumber 2 = .ok (.invokevirtual 84, 3) := by decide +kernel
theorem dX8_takesNumber_5 : decode cX8_takesNumber 5 = .ok (.ifCond .eq 15, 3) := by decide +kernel
theorem dX8_takesNumber_8 : decode cX8_takesNumber 8 = .ok (.aload_n 0, 1) := by decide +kernel
theorem dX8_takesNumber_9 : decode cX8_takesNumber 9 = .ok (.getfield 74, 3) := by decide +kernel
theorem dX8_takesNumber_12 : decode cX8_takesNumber 12 = .ok (.iload_n 1, 1) := by decide +kernel
theorem dX8_takesNumber_13 : decode cX8_takesNumber 13 = .ok (.iload_n 2, 1) := by decide +kernel
theorem dX8_takesNumber_14 : decode cX8_takesNumber 14 = .ok (.invokestatic 38, 3) := by decide +kernel
theorem dX8_takesNumber_17 : decode cX8_takesNumber 17 = .ok (.ifCond .ne 9, 3) := by decide +kernel
theorem dX8_takesNumber_20 : decode cX8_takesNumber 20 = .ok (.aload_n 0, 1) := by decide +kernel
theorem dX8_takesNumber_21 : decode cX8_takesNumber 21 = .ok (.invokevirtual 91, 3) := by decide +kernel
theorem dX8_takesNumber_24 : decode cX8_takesNumber 24 = .ok (.iconst 0, 1) := by decide +kernel
theorem dX8_takesNumber_25 : decode cX8_takesNumber 25 = .ok (.ireturn, 1) := by decide +kernel
theorem dX8_takesNumber_26 : decode cX8_takesNumber 26 = .ok (.aload_n 0, 1) := by decide +kernel
theorem dX8_takesNumber_27 : decode cX8_takesNumber 27 = .ok (.getfield 74, 3) := by decide +kernel
theorem dX8_takesNumber_30 : decode cX8_takesNumber 30 = .ok (.istore_n 3, 1) := by decide +kernel
theorem dX8_takesNumber_31 : decode cX8_takesNumber 31 = .ok (.aload_n 0, 1) := by decide +kernel
theorem dX8_takesNumber_32 : decode cX8_takesNumber 32 = .ok (.invokevirtual 88, 3) := by decide +kernel
theorem dX8_takesNumber_35 : decode cX8_takesNumber 35 = .ok (.iload_n 3, 1) := by decide +kernel
theorem dX8_takesNumber_36 : decode cX8_takesNumber 36 = .ok (.ireturn, 1) := by decide +kernel
theorem dX8_takesLetter_0 : decode cX8_takesLetter 0 = .ok (.aload_n 0, 1) := by decide +kernel
theorem dX8_takesLetter_1 : decode cX8_takesLetter 1 = .ok (.iconst 1, 1) := by decide +kernel
theorem dX8_takesLetter_2 : decode cX8_takesLetter 2 = .ok (.invokevirtual 84, 3) := by decide +kernel
theorem dX8_takesLetter_5 : decode cX8_takesLetter 5 = .ok (.ifCond .ne 9, 3) := by decide +kernel
theorem dX8_takesLetter_8 : decode cX8_takesLetter 8 = .ok (.aload_n 0, 1) := by decide +kernel
theorem dX8_takesLetter_9 : decode cX8_takesLetter 9 = .ok (.invokevirtual 91, 3) := by decide +kernel
theorem dX8_takesLetter_12 : decode cX8_takesLetter 12 = .ok (.iconst 0, 1) := by decide +kernel
theorem dX8_takesLetter_13 : decode cX8_takesLetter 13 = .ok (.ireturn, 1) := by decide +kernel
theorem dX8_takesLetter_14 : decode cX8_takesLetter 14 = .ok (.aload_n 0, 1) := by decide +kernel
theorem dX8_takesLetter_15 : decode cX8_takesLetter 15 = .ok (.getfield 74, 3) := by decide +kernel
theorem dX8_takesLetter_18 : decode cX8_takesLetter 18 = .ok (.istore_n 1, 1) := by decide +kernel
theorem dX8_takesLetter_19 : decode cX8_takesLetter 19 = .ok (.aload_n 0, 1) := by decide +kernel
theorem dX8_takesLetter_20 : decode cX8_takesLetter 20 = .ok (.invokevirtual 88, 3) := by decide +kernel
theorem dX8_takesLetter_23 : decode cX8_takesLetter 23 = .ok (.iload_n 1, 1) := by decide +kernel
theorem dX8_takesLetter_24 : decode cX8_takesLetter 24 = .ok (.ireturn, 1) := by decide +kernel
theorem dX8_readsLine_0 : decode cX8_readsLine 0 = .ok (.iconst 0, 1) := by decide +kernel
theorem dX8_readsLine_1 : decode cX8_readsLine 1 = .ok (.istore_n 3, 1) := by decide +kernel
theorem dX8_readsLine_2 : decode cX8_readsLine 2 = .ok (.iload_n 3, 1) := by decide +kernel
theorem dX8_readsLine_3 : decode cX8_readsLine 3 = .ok (.bipush 7, 2) := by decide +kernel
theorem dX8_readsLine_5 : decode cX8_readsLine 5 = .ok (.if_icmp .ge 15, 3) := by decide +kernel
theorem dX8_readsLine_8 : decode cX8_readsLine 8 = .ok (.aload_n 1, 1) := by decide +kernel
theorem dX8_readsLine_9 : decode cX8_readsLine 9 = .ok (.iload_n 2, 1) := by decide +kernel
theorem dX8_readsLine_10 : decode cX8_readsLine 10 = .ok (.iload_n 3, 1) := by decide +kernel
theorem dX8_readsLine_11 : decode cX8_readsLine 11 = .ok (.iadd, 1) := by decide +kernel
theorem dX8_readsLine_12 : decode cX8_readsLine 12 = .ok (.iconst 0, 1) := by decide +kernel
theorem dX8_readsLine_13 : decode cX8_readsLine 13 = .ok (.iastore, 1) := by decide +kernel
theorem dX8_readsLine_14 : decode cX8_readsLine 14 = .ok (.iinc 3 1, 3) := by decide +kernel
theorem dX8_readsLine_17 : decode cX8_readsLine 17 = .ok (.goto (-15), 3) := by decide +kernel
theorem dX8_readsLine_20 : decode cX8_readsLine 20 = .ok (.iconst 1, 1) := by decide +kernel
theorem dX8_readsLine_21 : decode cX8_readsLine 21 = .ok (.istore_n 3, 1) := by decide +kernel
theorem dX8_readsLine_22 : decode cX8_readsLine 22 = .ok (.iload_n 3, 1) := by decide +kernel
theorem dX8_readsLine_23 : decode cX8_readsLine 23 = .ok (.ifCond .eq 105, 3) := by decide +kernel
theorem dX8_readsLine_26 : decode cX8_readsLine 26 = .ok (.aload_n 0, 1) := by decide +kernel
theorem dX8_readsLine_27 : decode cX8_readsLine 27 = .ok (.invokevirtual 80, 3) := by decide +kernel
theorem dX8_readsLine_30 : decode cX8_readsLine 30 = .ok (.ifCond .eq 98, 3) := by decide +kernel
theorem dX8_readsLine_33 : decode cX8_readsLine 33 = .ok (.iconst 1, 1) := by decide +kernel
theorem dX8_readsLine_34 : decode cX8_readsLine 34 = .ok (.istore 4, 2) := by decide +kernel
theorem dX8_readsLine_36 : decode cX8_readsLine 36 = .ok (.aload_n 0, 1) := by decide +kernel
theorem dX8_readsLine_37 : decode cX8_readsLine 37 = .ok (.iconst 3, 1) := by decide +kernel
theorem dX8_readsLine_38 : decode cX8_readsLine 38 = .ok (.invokevirtual 84, 3) := by decide +kernel
theorem dX8_readsLine_41 : decode cX8_readsLine 41 = .ok (.ifCond .eq 12, 3) := by decide +kernel
theorem dX8_readsLine_44 : decode cX8_readsLine 44 = .ok (.aload_n 0, 1) := by decide +kernel
theorem dX8_readsLine_45 : decode cX8_readsLine 45 = .ok (.iconst 1, 1) := by decide +kernel
theorem dX8_readsLine_46 : decode cX8_readsLine 46 = .ok (.bipush 99, 2) := by decide +kernel
theorem dX8_readsLine_48 : decode cX8_readsLine 48 = .ok (.invokevirtual 94, 3) := by decide +kernel
theorem dX8_readsLine_51 : decode cX8_readsLine 51 = .ok (.istore 4, 2) := by decide +kernel
theorem dX8_readsLine_53 : decode cX8_readsLine 53 = .ok (.aload_n 0, 1) := by decide +kernel
theorem dX8_readsLine_54 : decode cX8_readsLine 54 = .ok (.bipush 6, 2) := by decide +kernel
theorem dX8_readsLine_56 : decode cX8_readsLine 56 = .ok (.invokevirtual 84, 3) := by decide +kernel
theorem dX8_readsLine_59 : decode cX8_readsLine 59 = .ok (.ifCond .eq 12, 3) := by decide +kernel
theorem dX8_readsLine_62 : decode cX8_readsLine 62 = .ok (.iload 4, 2) := by decide +kernel
theorem dX8_readsLine_64 : decode cX8_readsLine 64 = .ok (.ineg, 1) := by decide +kernel
theorem dX8_readsLine_65 : decode cX8_readsLine 65 = .ok (.istore 4, 2) := by decide +kernel
theorem dX8_readsLine_67 : decode cX8_readsLine 67 = .ok (.aload_n 0, 1) := by decide +kernel
theorem dX8_readsLine_68 : decode cX8_readsLine 68 = .ok (.invokevirtual 88, 3) := by decide +kernel
theorem dX8_readsLine_71 : decode cX8_readsLine 71 = .ok (.aload_n 0, 1) := by decide +kernel
theorem dX8_readsLine_72 : decode cX8_readsLine 72 = .ok (.iconst 1, 1) := by decide +kernel
theorem dX8_readsLine_73 : decode cX8_readsLine 73 = .ok (.invokevirtual 84, 3) := by decide +kernel
theorem dX8_readsLine_76 : decode cX8_readsLine 76 = .ok (.ifCond .eq 31, 3) := by decide +kernel
theorem dX8_readsLine_79 : decode cX8_readsLine 79 = .ok (.aload_n 1, 1) := by decide +kernel
theorem dX8_readsLine_80 : decode cX8_readsLine 80 = .ok (.iload_n 2, 1) := by decide +kernel
theorem dX8_readsLine_81 : decode cX8_readsLine 81 = .ok (.aload_n 0, 1) := by decide +kernel
theorem dX8_readsLine_82 : decode cX8_readsLine 82 = .ok (.getfield 74, 3) := by decide +kernel
theorem dX8_readsLine_85 : decode cX8_readsLine 85 = .ok (.iadd, 1) := by decide +kernel
theorem dX8_readsLine_86 : decode cX8_readsLine 86 = .ok (.iaload, 1) := by decide +kernel
theorem dX8_readsLine_87 : decode cX8_readsLine 87 = .ok (.ifCond .ne 20, 3) := by decide +kernel
theorem dX8_readsLine_90 : decode cX8_readsLine 90 = .ok (.aload_n 1, 1) := by decide +kernel
theorem dX8_readsLine_91 : decode cX8_readsLine 91 = .ok (.iload_n 2, 1) := by decide +kernel
theorem dX8_readsLine_92 : decode cX8_readsLine 92 = .ok (.aload_n 0, 1) := by decide +kernel
theorem dX8_readsLine_93 : decode cX8_readsLine 93 = .ok (.getfield 74, 3) := by decide +kernel
theorem dX8_readsLine_96 : decode cX8_readsLine 96 = .ok (.iadd, 1) := by decide +kernel
theorem dX8_readsLine_97 : decode cX8_readsLine 97 = .ok (.iload 4, 2) := by decide +kernel
theorem dX8_readsLine_99 : decode cX8_readsLine 99 = .ok (.iastore, 1) := by decide +kernel
theorem dX8_readsLine_100 : decode cX8_readsLine 100 = .ok (.aload_n 0, 1) := by decide +kernel
theorem dX8_readsLine_101 : decode cX8_readsLine 101 = .ok (.invokevirtual 88, 3) := by decide +kernel
theorem dX8_readsLine_104 : decode cX8_readsLine 104 = .ok (.goto 7, 3) := by decide +kernel
theorem dX8_readsLine_107 : decode cX8_readsLine 107 = .ok (.aload_n 0, 1) := by decide +kernel
theorem dX8_readsLine_108 : decode cX8_readsLine 108 = .ok (.invokevirtual 91, 3) := by decide +kernel
theorem dX8_readsLine_111 : decode cX8_readsLine 111 = .ok (.aload_n 0, 1) := by decide +kernel
theorem dX8_readsLine_112 : decode cX8_readsLine 112 = .ok (.iconst 5, 1) := by decide +kernel
theorem dX8_readsLine_113 : decode cX8_readsLine 113 = .ok (.invokevirtual 84, 3) := by decide +kernel
theorem dX8_readsLine_116 : decode cX8_readsLine 116 = .ok (.istore_n 3, 1) := by decide +kernel
theorem dX8_readsLine_117 : decode cX8_readsLine 117 = .ok (.iload_n 3, 1) := by decide +kernel
theorem dX8_readsLine_118 : decode cX8_readsLine 118 = .ok (.ifCond .eq 7, 3) := by decide +kernel
theorem dX8_readsLine_121 : decode cX8_readsLine 121 = .ok (.aload_n 0, 1) := by decide +kernel
theorem dX8_readsLine_122 : decode cX8_readsLine 122 = .ok (.invokevirtual 88, 3) := by decide +kernel
theorem dX8_readsLine_125 : decode cX8_readsLine 125 = .ok (.goto (-103), 3) := by decide +kernel
theorem dX8_readsLine_128 : decode cX8_readsLine 128 = .ok (.aload_n 0, 1) := by decide +kernel
theorem dX8_readsLine_129 : decode cX8_readsLine 129 = .ok (.iconst 4, 1) := by decide +kernel
theorem dX8_readsLine_130 : decode cX8_readsLine 130 = .ok (.invokevirtual 98, 3) := by decide +kernel
theorem dX8_readsLine_133 : decode cX8_readsLine 133 = .ok (.aload_n 1, 1) := by decide +kernel
theorem dX8_readsLine_134 : decode cX8_readsLine 134 = .ok (.iload_n 2, 1) := by decide +kernel
theorem dX8_readsLine_135 : decode cX8_readsLine 135 = .ok (.bipush 6, 2) := by decide +kernel
theorem dX8_readsLine_137 : decode cX8_readsLine 137 = .ok (.iadd, 1) := by decide +kernel
theorem dX8_readsLine_138 : decode cX8_readsLine 138 = .ok (.aload_n 0, 1) := by decide +kernel
theorem dX8_readsLine_139 : decode cX8_readsLine 139 = .ok (.iconst 0, 1) := by decide +kernel
theorem dX8_readsLine_140 : decode cX8_readsLine 140 = .ok (.sipush 999, 3) := by decide +kernel
theorem dX8_readsLine_143 : decode cX8_readsLine 143 = .ok (.invokevirtual 94, 3) := by decide +kernel
theorem dX8_readsLine_146 : decode cX8_readsLine 146 = .ok (.iastore, 1) := by decide +kernel
theorem dX8_readsLine_147 : decode cX8_readsLine 147 = .ok (.return_, 1) := by decide +kernel
theorem dX8_given_0 : decode cX8_given 0 = .ok (.aload_n 0, 1) := by decide +kernel
theorem dX8_given_1 : decode cX8_given 1 = .ok (.iconst 0, 1) := by decide +kernel
theorem dX8_given_2 : decode cX8_given 2 = .ok (.putfield 35, 3) := by decide +kernel
theorem dX8_given_5 : decode cX8_given 5 = .ok (.aload_n 0, 1) := by decide +kernel
theorem dX8_given_6 : decode cX8_given 6 = .ok (.iconst (-1), 1) := by decide +kernel
theorem dX8_given_7 : decode cX8_given 7 = .ok (.putfield 77, 3) := by decide +kernel
theorem dX8_given_10 : decode cX8_given 10 = .ok (.aload_n 0, 1) := by decide +kernel
theorem dX8_given_11 : decode cX8_given 11 = .ok (.iconst 0, 1) := by decide +kernel
theorem dX8_given_12 : decode cX8_given 12 = .ok (.putfield 57, 3) := by decide +kernel
theorem dX8_given_15 : decode cX8_given 15 = .ok (.iconst 0, 1) := by decide +kernel
theorem dX8_given_16 : decode cX8_given 16 = .ok (.istore_n 1, 1) := by decide +kernel
theorem dX8_given_17 : decode cX8_given 17 = .ok (.aload_n 0, 1) := by decide +kernel
theorem dX8_given_18 : decode cX8_given 18 = .ok (.invokevirtual 88, 3) := by decide +kernel
theorem dX8_given_21 : decode cX8_given 21 = .ok (.aload_n 0, 1) := by decide +kernel
theorem dX8_given_22 : decode cX8_given 22 = .ok (.invokevirtual 80, 3) := by decide +kernel
end
section
theorem dX8_given_25 : decode cX8_given 25 = .ok (.ifCond .eq 47, 3) := by decide +kernel
theorem dX8_given_28 : decode cX8_given 28 = .ok (.aload_n 0, 1) := by decide +kernel
theorem dX8_given_29 : decode cX8_given 29 = .ok (.getfield 67, 3) := by decide +kernel
theorem dX8_given_32 : decode cX8_given 32 = .ok (.ifCond .eq 40, 3) := by decide +kernel
theorem dX8_given_35 : decode cX8_given 35 = .ok (.iload_n 1, 1) := by decide +kernel
theorem dX8_given_36 : decode cX8_given 36 = .ok (.bipush 8, 2) := by decide +kernel
theorem dX8_given_38 : decode cX8_given 38 = .ok (.if_icmp .ne 10, 3) := by decide +kernel
theorem dX8_given_41 : decode cX8_given 41 = .ok (.aload_n 0, 1) := by decide +kernel
theorem dX8_given_42 : decode cX8_given 42 = .ok (.invokevirtual 91, 3) := by decide +kernel
theorem dX8_given_45 : decode cX8_given 45 = .ok (.goto (-24), 3) := by decide +kernel
theorem dX8_given_48 : decode cX8_given 48 = .ok (.aload_n 0, 1) := by decide +kernel
theorem dX8_given_49 : decode cX8_given 49 = .ok (.aload_n 0, 1) := by decide +kernel
theorem dX8_given_50 : decode cX8_given 50 = .ok (.getfield 23, 3) := by decide +kernel
theorem dX8_given_53 : decode cX8_given 53 = .ok (.bipush 7, 2) := by decide +kernel
theorem dX8_given_55 : decode cX8_given 55 = .ok (.iload_n 1, 1) := by decide +kernel
theorem dX8_given_56 : decode cX8_given 56 = .ok (.imul, 1) := by decide +kernel
theorem dX8_given_57 : decode cX8_given 57 = .ok (.invokevirtual 102, 3) := by decide +kernel
theorem dX8_given_60 : decode cX8_given 60 = .ok (.aload_n 0, 1) := by decide +kernel
theorem dX8_given_61 : decode cX8_given 61 = .ok (.bipush 7, 2) := by decide +kernel
theorem dX8_given_63 : decode cX8_given 63 = .ok (.invokevirtual 98, 3) := by decide +kernel
theorem dX8_given_66 : decode cX8_given 66 = .ok (.iinc 1 1, 3) := by decide +kernel
theorem dX8_given_69 : decode cX8_given 69 = .ok (.goto (-48), 3) := by decide +kernel
theorem dX8_given_72 : decode cX8_given 72 = .ok (.aload_n 0, 1) := by decide +kernel
theorem dX8_given_73 : decode cX8_given 73 = .ok (.invokevirtual 80, 3) := by decide +kernel
theorem dX8_given_76 : decode cX8_given 76 = .ok (.ifCond .ne 11, 3) := by decide +kernel
theorem dX8_given_79 : decode cX8_given 79 = .ok (.bipush (-10), 2) := by decide +kernel
theorem dX8_given_81 : decode cX8_given 81 = .ok (.aload_n 0, 1) := by decide +kernel
theorem dX8_given_82 : decode cX8_given 82 = .ok (.getfield 77, 3) := by decide +kernel
theorem dX8_given_85 : decode cX8_given 85 = .ok (.isub, 1) := by decide +kernel
theorem dX8_given_86 : decode cX8_given 86 = .ok (.ireturn, 1) := by decide +kernel
theorem dX8_given_87 : decode cX8_given 87 = .ok (.iconst 0, 1) := by decide +kernel
theorem dX8_given_88 : decode cX8_given 88 = .ok (.istore_n 2, 1) := by decide +kernel
theorem dX8_given_89 : decode cX8_given 89 = .ok (.iload_n 2, 1) := by decide +kernel
theorem dX8_given_90 : decode cX8_given 90 = .ok (.bipush 56, 2) := by decide +kernel
theorem dX8_given_92 : decode cX8_given 92 = .ok (.if_icmp .ge 21, 3) := by decide +kernel
theorem dX8_given_95 : decode cX8_given 95 = .ok (.aload_n 0, 1) := by decide +kernel
theorem dX8_given_96 : decode cX8_given 96 = .ok (.getfield 13, 3) := by decide +kernel
theorem dX8_given_99 : decode cX8_given 99 = .ok (.iload_n 2, 1) := by decide +kernel
theorem dX8_given_100 : decode cX8_given 100 = .ok (.aload_n 0, 1) := by decide +kernel
theorem dX8_given_101 : decode cX8_given 101 = .ok (.getfield 23, 3) := by decide +kernel
theorem dX8_given_104 : decode cX8_given 104 = .ok (.iload_n 2, 1) := by decide +kernel
theorem dX8_given_105 : decode cX8_given 105 = .ok (.iaload, 1) := by decide +kernel
theorem dX8_given_106 : decode cX8_given 106 = .ok (.iastore, 1) := by decide +kernel
theorem dX8_given_107 : decode cX8_given 107 = .ok (.iinc 2 1, 3) := by decide +kernel
theorem dX8_given_110 : decode cX8_given 110 = .ok (.goto (-21), 3) := by decide +kernel
theorem dX8_given_113 : decode cX8_given 113 = .ok (.aload_n 0, 1) := by decide +kernel
theorem dX8_given_114 : decode cX8_given 114 = .ok (.iload_n 1, 1) := by decide +kernel
theorem dX8_given_115 : decode cX8_given 115 = .ok (.putfield 106, 3) := by decide +kernel
theorem dX8_given_118 : decode cX8_given 118 = .ok (.aload_n 0, 1) := by decide +kernel
theorem dX8_given_119 : decode cX8_given 119 = .ok (.iconst 0, 1) := by decide +kernel
theorem dX8_given_120 : decode cX8_given 120 = .ok (.putfield 109, 3) := by decide +kernel
theorem dX8_given_123 : decode cX8_given 123 = .ok (.aload_n 0, 1) := by decide +kernel
theorem dX8_given_124 : decode cX8_given 124 = .ok (.iconst 0, 1) := by decide +kernel
theorem dX8_given_125 : decode cX8_given 125 = .ok (.putfield 112, 3) := by decide +kernel
theorem dX8_given_128 : decode cX8_given 128 = .ok (.aload_n 0, 1) := by decide +kernel
theorem dX8_given_129 : decode cX8_given 129 = .ok (.bipush (-9), 2) := by decide +kernel
theorem dX8_given_131 : decode cX8_given 131 = .ok (.putfield 16, 3) := by decide +kernel
theorem dX8_given_134 : decode cX8_given 134 = .ok (.aload_n 0, 1) := by decide +kernel
theorem dX8_given_135 : decode cX8_given 135 = .ok (.bipush (-9), 2) := by decide +kernel
theorem dX8_given_137 : decode cX8_given 137 = .ok (.putfield 20, 3) := by decide +kernel
theorem dX8_given_140 : decode cX8_given 140 = .ok (.aload_n 0, 1) := by decide +kernel
theorem dX8_given_141 : decode cX8_given 141 = .ok (.iconst 0, 1) := by decide +kernel
theorem dX8_given_142 : decode cX8_given 142 = .ok (.putfield 42, 3) := by decide +kernel
theorem dX8_given_145 : decode cX8_given 145 = .ok (.aload_n 0, 1) := by decide +kernel
theorem dX8_given_146 : decode cX8_given 146 = .ok (.getfield 106, 3) := by decide +kernel
theorem dX8_given_149 : decode cX8_given 149 = .ok (.ireturn, 1) := by decide +kernel
theorem dX8_readsStep_0 : decode cX8_readsStep 0 = .ok (.bipush 10, 2) := by decide +kernel
theorem dX8_readsStep_2 : decode cX8_readsStep 2 = .ok (.iload_n 1, 1) := by decide +kernel
theorem dX8_readsStep_3 : decode cX8_readsStep 3 = .ok (.imul, 1) := by decide +kernel
theorem dX8_readsStep_4 : decode cX8_readsStep 4 = .ok (.istore_n 2, 1) := by decide +kernel
theorem dX8_readsStep_5 : decode cX8_readsStep 5 = .ok (.aload_n 0, 1) := by decide +kernel
theorem dX8_readsStep_6 : decode cX8_readsStep 6 = .ok (.iconst 2, 1) := by decide +kernel
theorem dX8_readsStep_7 : decode cX8_readsStep 7 = .ok (.invokevirtual 84, 3) := by decide +kernel
theorem dX8_readsStep_10 : decode cX8_readsStep 10 = .ok (.ifCond .ne 8, 3) := by decide +kernel
theorem dX8_readsStep_13 : decode cX8_readsStep 13 = .ok (.aload_n 0, 1) := by decide +kernel
theorem dX8_readsStep_14 : decode cX8_readsStep 14 = .ok (.invokevirtual 91, 3) := by decide +kernel
theorem dX8_readsStep_17 : decode cX8_readsStep 17 = .ok (.return_, 1) := by decide +kernel
theorem dX8_readsStep_18 : decode cX8_readsStep 18 = .ok (.aload_n 0, 1) := by decide +kernel
theorem dX8_readsStep_19 : decode cX8_readsStep 19 = .ok (.getfield 74, 3) := by decide +kernel
theorem dX8_readsStep_22 : decode cX8_readsStep 22 = .ok (.istore_n 3, 1) := by decide +kernel
theorem dX8_readsStep_23 : decode cX8_readsStep 23 = .ok (.aload_n 0, 1) := by decide +kernel
theorem dX8_readsStep_24 : decode cX8_readsStep 24 = .ok (.getfield 26, 3) := by decide +kernel
theorem dX8_readsStep_27 : decode cX8_readsStep 27 = .ok (.iload_n 2, 1) := by decide +kernel
theorem dX8_readsStep_28 : decode cX8_readsStep 28 = .ok (.iload_n 3, 1) := by decide +kernel
theorem dX8_readsStep_29 : decode cX8_readsStep 29 = .ok (.iastore, 1) := by decide +kernel
theorem dX8_readsStep_30 : decode cX8_readsStep 30 = .ok (.aload_n 0, 1) := by decide +kernel
theorem dX8_readsStep_31 : decode cX8_readsStep 31 = .ok (.invokevirtual 88, 3) := by decide +kernel
theorem dX8_readsStep_34 : decode cX8_readsStep 34 = .ok (.iload_n 3, 1) := by decide +kernel
theorem dX8_readsStep_35 : decode cX8_readsStep 35 = .ok (.iconst 5, 1) := by decide +kernel
theorem dX8_readsStep_36 : decode cX8_readsStep 36 = .ok (.if_icmp .ge 24, 3) := by decide +kernel
theorem dX8_readsStep_39 : decode cX8_readsStep 39 = .ok (.aload_n 0, 1) := by decide +kernel
theorem dX8_readsStep_40 : decode cX8_readsStep 40 = .ok (.getfield 26, 3) := by decide +kernel
theorem dX8_readsStep_43 : decode cX8_readsStep 43 = .ok (.iload_n 2, 1) := by decide +kernel
theorem dX8_readsStep_44 : decode cX8_readsStep 44 = .ok (.iconst 1, 1) := by decide +kernel
theorem dX8_readsStep_45 : decode cX8_readsStep 45 = .ok (.iadd, 1) := by decide +kernel
theorem dX8_readsStep_46 : decode cX8_readsStep 46 = .ok (.aload_n 0, 1) := by decide +kernel
theorem dX8_readsStep_47 : decode cX8_readsStep 47 = .ok (.iconst 0, 1) := by decide +kernel
theorem dX8_readsStep_48 : decode cX8_readsStep 48 = .ok (.aload_n 0, 1) := by decide +kernel
theorem dX8_readsStep_49 : decode cX8_readsStep 49 = .ok (.getfield 106, 3) := by decide +kernel
theorem dX8_readsStep_52 : decode cX8_readsStep 52 = .ok (.iload_n 1, 1) := by decide +kernel
theorem dX8_readsStep_53 : decode cX8_readsStep 53 = .ok (.iadd, 1) := by decide +kernel
theorem dX8_readsStep_54 : decode cX8_readsStep 54 = .ok (.iconst 1, 1) := by decide +kernel
theorem dX8_readsStep_55 : decode cX8_readsStep 55 = .ok (.isub, 1) := by decide +kernel
theorem dX8_readsStep_56 : decode cX8_readsStep 56 = .ok (.invokevirtual 94, 3) := by decide +kernel
theorem dX8_readsStep_59 : decode cX8_readsStep 59 = .ok (.iastore, 1) := by decide +kernel
theorem dX8_readsStep_60 : decode cX8_readsStep 60 = .ok (.iload_n 3, 1) := by decide +kernel
theorem dX8_readsStep_61 : decode cX8_readsStep 61 = .ok (.ifCond .ne 27, 3) := by decide +kernel
theorem dX8_readsStep_64 : decode cX8_readsStep 64 = .ok (.aload_n 0, 1) := by decide +kernel
theorem dX8_readsStep_65 : decode cX8_readsStep 65 = .ok (.getfield 26, 3) := by decide +kernel
theorem dX8_readsStep_68 : decode cX8_readsStep 68 = .ok (.iload_n 2, 1) := by decide +kernel
theorem dX8_readsStep_69 : decode cX8_readsStep 69 = .ok (.iconst 2, 1) := by decide +kernel
theorem dX8_readsStep_70 : decode cX8_readsStep 70 = .ok (.iadd, 1) := by decide +kernel
theorem dX8_readsStep_71 : decode cX8_readsStep 71 = .ok (.aload_n 0, 1) := by decide +kernel
theorem dX8_readsStep_72 : decode cX8_readsStep 72 = .ok (.iconst 0, 1) := by decide +kernel
theorem dX8_readsStep_73 : decode cX8_readsStep 73 = .ok (.aload_n 0, 1) := by decide +kernel
theorem dX8_readsStep_74 : decode cX8_readsStep 74 = .ok (.getfield 106, 3) := by decide +kernel
theorem dX8_readsStep_77 : decode cX8_readsStep 77 = .ok (.iload_n 1, 1) := by decide +kernel
theorem dX8_readsStep_78 : decode cX8_readsStep 78 = .ok (.iadd, 1) := by decide +kernel
theorem dX8_readsStep_79 : decode cX8_readsStep 79 = .ok (.iconst 1, 1) := by decide +kernel
theorem dX8_readsStep_80 : decode cX8_readsStep 80 = .ok (.isub, 1) := by decide +kernel
theorem dX8_readsStep_81 : decode cX8_readsStep 81 = .ok (.invokevirtual 94, 3) := by decide +kernel
theorem dX8_readsStep_84 : decode cX8_readsStep 84 = .ok (.iastore, 1) := by decide +kernel
theorem dX8_readsStep_85 : decode cX8_readsStep 85 = .ok (.goto 88, 3) := by decide +kernel
theorem dX8_readsStep_88 : decode cX8_readsStep 88 = .ok (.iload_n 3, 1) := by decide +kernel
theorem dX8_readsStep_89 : decode cX8_readsStep 89 = .ok (.iconst 1, 1) := by decide +kernel
theorem dX8_readsStep_90 : decode cX8_readsStep 90 = .ok (.if_icmp .eq 8, 3) := by decide +kernel
theorem dX8_readsStep_93 : decode cX8_readsStep 93 = .ok (.iload_n 3, 1) := by decide +kernel
theorem dX8_readsStep_94 : decode cX8_readsStep 94 = .ok (.iconst 2, 1) := by decide +kernel
theorem dX8_readsStep_95 : decode cX8_readsStep 95 = .ok (.if_icmp .ne 30, 3) := by decide +kernel
theorem dX8_readsStep_98 : decode cX8_readsStep 98 = .ok (.aload_n 0, 1) := by decide +kernel
theorem dX8_readsStep_99 : decode cX8_readsStep 99 = .ok (.getfield 26, 3) := by decide +kernel
theorem dX8_readsStep_102 : decode cX8_readsStep 102 = .ok (.iload_n 2, 1) := by decide +kernel
theorem dX8_readsStep_103 : decode cX8_readsStep 103 = .ok (.iconst 2, 1) := by decide +kernel
theorem dX8_readsStep_104 : decode cX8_readsStep 104 = .ok (.iadd, 1) := by decide +kernel
theorem dX8_readsStep_105 : decode cX8_readsStep 105 = .ok (.aload_n 0, 1) := by decide +kernel
theorem dX8_readsStep_106 : decode cX8_readsStep 106 = .ok (.iload_n 3, 1) := by decide +kernel
theorem dX8_readsStep_107 : decode cX8_readsStep 107 = .ok (.iconst 1, 1) := by decide +kernel
theorem dX8_readsStep_108 : decode cX8_readsStep 108 = .ok (.if_icmp .ne 7, 3) := by decide +kernel
theorem dX8_readsStep_111 : decode cX8_readsStep 111 = .ok (.iconst 1, 1) := by decide +kernel
theorem dX8_readsStep_112 : decode cX8_readsStep 112 = .ok (.goto 4, 3) := by decide +kernel
theorem dX8_readsStep_115 : decode cX8_readsStep 115 = .ok (.iconst 2, 1) := by decide +kernel
theorem dX8_readsStep_116 : decode cX8_readsStep 116 = .ok (.bipush 99, 2) := by decide +kernel
theorem dX8_readsStep_118 : decode cX8_readsStep 118 = .ok (.invokevirtual 94, 3) := by decide +kernel
theorem dX8_readsStep_121 : decode cX8_readsStep 121 = .ok (.iastore, 1) := by decide +kernel
theorem dX8_readsStep_122 : decode cX8_readsStep 122 = .ok (.goto 51, 3) := by decide +kernel
theorem dX8_readsStep_125 : decode cX8_readsStep 125 = .ok (.iload_n 3, 1) := by decide +kernel
theorem dX8_readsStep_126 : decode cX8_readsStep 126 = .ok (.iconst 4, 1) := by decide +kernel
theorem dX8_readsStep_127 : decode cX8_readsStep 127 = .ok (.if_icmp .eq 14, 3) := by decide +kernel
theorem dX8_readsStep_130 : decode cX8_readsStep 130 = .ok (.iload_n 3, 1) := by decide +kernel
theorem dX8_readsStep_131 : decode cX8_readsStep 131 = .ok (.iconst 5, 1) := by decide +kernel
theorem dX8_readsStep_132 : decode cX8_readsStep 132 = .ok (.if_icmp .eq 9, 3) := by decide +kernel
theorem dX8_readsStep_135 : decode cX8_readsStep 135 = .ok (.iload_n 3, 1) := by decide +kernel
theorem dX8_readsStep_136 : decode cX8_readsStep 136 = .ok (.bipush 6, 2) := by decide +kernel
theorem dX8_readsStep_138 : decode cX8_readsStep 138 = .ok (.if_icmp .ne 18, 3) := by decide +kernel
theorem dX8_readsStep_141 : decode cX8_readsStep 141 = .ok (.aload_n 0, 1) := by decide +kernel
theorem dX8_readsStep_142 : decode cX8_readsStep 142 = .ok (.getfield 26, 3) := by decide +kernel
theorem dX8_readsStep_145 : decode cX8_readsStep 145 = .ok (.iload_n 2, 1) := by decide +kernel
theorem dX8_readsStep_146 : decode cX8_readsStep 146 = .ok (.iconst 2, 1) := by decide +kernel
theorem dX8_readsStep_147 : decode cX8_readsStep 147 = .ok (.iadd, 1) := by decide +kernel
theorem dX8_readsStep_148 : decode cX8_readsStep 148 = .ok (.aload_n 0, 1) := by decide +kernel
theorem dX8_readsStep_149 : decode cX8_readsStep 149 = .ok (.invokevirtual 115, 3) := by decide +kernel
theorem dX8_readsStep_152 : decode cX8_readsStep 152 = .ok (.iastore, 1) := by decide +kernel
theorem dX8_readsStep_153 : decode cX8_readsStep 153 = .ok (.goto 20, 3) := by decide +kernel
theorem dX8_readsStep_156 : decode cX8_readsStep 156 = .ok (.iload_n 3, 1) := by decide +kernel
theorem dX8_readsStep_157 : decode cX8_readsStep 157 = .ok (.bipush 7, 2) := by decide +kernel
theorem dX8_readsStep_159 : decode cX8_readsStep 159 = .ok (.if_icmp .ne 14, 3) := by decide +kernel
theorem dX8_readsStep_162 : decode cX8_readsStep 162 = .ok (.aload_n 0, 1) := by decide +kernel
theorem dX8_readsStep_163 : decode cX8_readsStep 163 = .ok (.aload_n 0, 1) := by decide +kernel
theorem dX8_readsStep_164 : decode cX8_readsStep 164 = .ok (.getfield 26, 3) := by decide +kernel
theorem dX8_readsStep_167 : decode cX8_readsStep 167 = .ok (.iload_n 2, 1) := by decide +kernel
theorem dX8_readsStep_168 : decode cX8_readsStep 168 = .ok (.iconst 3, 1) := by decide +kernel
theorem dX8_readsStep_169 : decode cX8_readsStep 169 = .ok (.iadd, 1) := by decide +kernel
theorem dX8_readsStep_170 : decode cX8_readsStep 170 = .ok (.invokevirtual 102, 3) := by decide +kernel
theorem dX8_readsStep_173 : decode cX8_readsStep 173 = .ok (.aload_n 0, 1) := by decide +kernel
theorem dX8_readsStep_174 : decode cX8_readsStep 174 = .ok (.bipush 7, 2) := by decide +kernel
theorem dX8_readsStep_176 : decode cX8_readsStep 176 = .ok (.invokevirtual 98, 3) := by decide +kernel
theorem dX8_readsStep_179 : decode cX8_readsStep 179 = .ok (.return_, 1) := by decide +kernel
theorem dX8_does_0 : decode cX8_does 0 = .ok (.bipush 10, 2) := by decide +kernel
theorem dX8_does_2 : decode cX8_does 2 = .ok (.iload_n 1, 1) := by decide +kernel
theorem dX8_does_3 : decode cX8_does 3 = .ok (.imul, 1) := by decide +kernel
theorem dX8_does_4 : decode cX8_does 4 = .ok (.istore_n 3, 1) := by decide +kernel
theorem dX8_does_5 : decode cX8_does 5 = .ok (.aload_n 0, 1) := by decide +kernel
theorem dX8_does_6 : decode cX8_does 6 = .ok (.getfield 26, 3) := by decide +kernel
theorem dX8_does_9 : decode cX8_does 9 = .ok (.iload_n 3, 1) := by decide +kernel
theorem dX8_does_10 : decode cX8_does 10 = .ok (.iaload, 1) := by decide +kernel
theorem dX8_does_11 : decode cX8_does 11 = .ok (.istore 4, 2) := by decide +kernel
theorem dX8_does_13 : decode cX8_does 13 = .ok (.bipush 7, 2) := by decide +kernel
theorem dX8_does_15 : decode cX8_does 15 = .ok (.aload_n 0, 1) := by decide +kernel
theorem dX8_does_16 : decode cX8_does 16 = .ok (.getfield 26, 3) := by decide +kernel
theorem dX8_does_19 : decode cX8_does 19 = .ok (.iload_n 3, 1) := by decide +kernel
theorem dX8_does_20 : decode cX8_does 20 = .ok (.iconst 1, 1) := by decide +kernel
theorem dX8_does_21 : decode cX8_does 21 = .ok (.iadd, 1) := by decide +kernel
theorem dX8_does_22 : decode cX8_does 22 = .ok (.iaload, 1) := by decide +kernel
theorem dX8_does_23 : decode cX8_does 23 = .ok (.imul, 1) := by decide +kernel
theorem dX8_does_24 : decode cX8_does 24 = .ok (.istore 5, 2) := by decide +kernel
theorem dX8_does_26 : decode cX8_does 26 = .ok (.aload_n 0, 1) := by decide +kernel
theorem dX8_does_27 : decode cX8_does 27 = .ok (.getfield 26, 3) := by decide +kernel
theorem dX8_does_30 : decode cX8_does 30 = .ok (.iload_n 3, 1) := by decide +kernel
theorem dX8_does_31 : decode cX8_does 31 = .ok (.iconst 2, 1) := by decide +kernel
theorem dX8_does_32 : decode cX8_does 32 = .ok (.iadd, 1) := by decide +kernel
theorem dX8_does_33 : decode cX8_does 33 = .ok (.iaload, 1) := by decide +kernel
theorem dX8_does_34 : decode cX8_does 34 = .ok (.istore 6, 2) := by decide +kernel
theorem dX8_does_36 : decode cX8_does 36 = .ok (.iconst 0, 1) := by decide +kernel
theorem dX8_does_37 : decode cX8_does 37 = .ok (.istore 7, 2) := by decide +kernel
theorem dX8_does_39 : decode cX8_does 39 = .ok (.iload 7, 2) := by decide +kernel
theorem dX8_does_41 : decode cX8_does 41 = .ok (.bipush 7, 2) := by decide +kernel
theorem dX8_does_43 : decode cX8_does 43 = .ok (.if_icmp .ge 59, 3) := by decide +kernel
theorem dX8_does_46 : decode cX8_does 46 = .ok (.aload_n 0, 1) := by decide +kernel
theorem dX8_does_47 : decode cX8_does 47 = .ok (.getfield 13, 3) := by decide +kernel
theorem dX8_does_50 : decode cX8_does 50 = .ok (.iload_n 2, 1) := by decide +kernel
theorem dX8_does_51 : decode cX8_does 51 = .ok (.iload 7, 2) := by decide +kernel
theorem dX8_does_53 : decode cX8_does 53 = .ok (.iadd, 1) := by decide +kernel
theorem dX8_does_54 : decode cX8_does 54 = .ok (.iload 4, 2) := by decide +kernel
theorem dX8_does_56 : decode cX8_does 56 = .ok (.iconst 5, 1) := by decide +kernel
theorem dX8_does_57 : decode cX8_does 57 = .ok (.if_icmp .ge 16, 3) := by decide +kernel
theorem dX8_does_60 : decode cX8_does 60 = .ok (.aload_n 0, 1) := by decide +kernel
theorem dX8_does_61 : decode cX8_does 61 = .ok (.getfield 13, 3) := by decide +kernel
theorem dX8_does_64 : decode cX8_does 64 = .ok (.iload 5, 2) := by decide +kernel
theorem dX8_does_66 : decode cX8_does 66 = .ok (.iload 7, 2) := by decide +kernel
theorem dX8_does_68 : decode cX8_does 68 = .ok (.iadd, 1) := by decide +kernel
theorem dX8_does_69 : decode cX8_does 69 = .ok (.iaload, 1) := by decide +kernel
theorem dX8_does_70 : decode cX8_does 70 = .ok (.goto 25, 3) := by decide +kernel
theorem dX8_does_73 : decode cX8_does 73 = .ok (.iload 4, 2) := by decide +kernel
theorem dX8_does_75 : decode cX8_does 75 = .ok (.bipush 7, 2) := by decide +kernel
theorem dX8_does_77 : decode cX8_does 77 = .ok (.if_icmp .ne 17, 3) := by decide +kernel
theorem dX8_does_80 : decode cX8_does 80 = .ok (.aload_n 0, 1) := by decide +kernel
theorem dX8_does_81 : decode cX8_does 81 = .ok (.getfield 26, 3) := by decide +kernel
theorem dX8_does_84 : decode cX8_does 84 = .ok (.iload_n 3, 1) := by decide +kernel
theorem dX8_does_85 : decode cX8_does 85 = .ok (.iconst 3, 1) := by decide +kernel
theorem dX8_does_86 : decode cX8_does 86 = .ok (.iadd, 1) := by decide +kernel
theorem dX8_does_87 : decode cX8_does 87 = .ok (.iload 7, 2) := by decide +kernel
theorem dX8_does_89 : decode cX8_does 89 = .ok (.iadd, 1) := by decide +kernel
theorem dX8_does_90 : decode cX8_does 90 = .ok (.iaload, 1) := by decide +kernel
theorem dX8_does_91 : decode cX8_does 91 = .ok (.goto 4, 3) := by decide +kernel
theorem dX8_does_94 : decode cX8_does 94 = .ok (.iconst 0, 1) := by decide +kernel
theorem dX8_does_95 : decode cX8_does 95 = .ok (.iastore, 1) := by decide +kernel
theorem dX8_does_96 : decode cX8_does 96 = .ok (.iinc 7 1, 3) := by decide +kernel
theorem dX8_does_99 : decode cX8_does 99 = .ok (.goto (-60), 3) := by decide +kernel
theorem dX8_does_102 : decode cX8_does 102 = .ok (.iload 4, 2) := by decide +kernel
theorem dX8_does_104 : decode cX8_does 104 = .ok (.ifCond .ne 172, 3) := by decide +kernel
theorem dX8_does_107 : decode cX8_does 107 = .ok (.bipush 7, 2) := by decide +kernel
theorem dX8_does_109 : decode cX8_does 109 = .ok (.iload 6, 2) := by decide +kernel
theorem dX8_does_111 : decode cX8_does 111 = .ok (.imul, 1) := by decide +kernel
theorem dX8_does_112 : decode cX8_does 112 = .ok (.istore 7, 2) := by decide +kernel
theorem dX8_does_114 : decode cX8_does 114 = .ok (.aload_n 0, 1) := by decide +kernel
theorem dX8_does_115 : decode cX8_does 115 = .ok (.getfield 13, 3) := by decide +kernel
theorem dX8_does_118 : decode cX8_does 118 = .ok (.iload 5, 2) := by decide +kernel
theorem dX8_does_120 : decode cX8_does 120 = .ok (.bipush 6, 2) := by decide +kernel
theorem dX8_does_122 : decode cX8_does 122 = .ok (.iadd, 1) := by decide +kernel
theorem dX8_does_123 : decode cX8_does 123 = .ok (.iaload, 1) := by decide +kernel
theorem dX8_does_124 : decode cX8_does 124 = .ok (.aload_n 0, 1) := by decide +kernel
theorem dX8_does_125 : decode cX8_does 125 = .ok (.getfield 13, 3) := by decide +kernel
theorem dX8_does_128 : decode cX8_does 128 = .ok (.iload 7, 2) := by decide +kernel
theorem dX8_does_130 : decode cX8_does 130 = .ok (.bipush 6, 2) := by decide +kernel
theorem dX8_does_132 : decode cX8_does 132 = .ok (.iadd, 1) := by decide +kernel
theorem dX8_does_133 : decode cX8_does 133 = .ok (.iaload, 1) := by decide +kernel
theorem dX8_does_134 : decode cX8_does 134 = .ok (.iadd, 1) := by decide +kernel
theorem dX8_does_135 : decode cX8_does 135 = .ok (.istore 8, 2) := by decide +kernel
theorem dX8_does_137 : decode cX8_does 137 = .ok (.iconst 0, 1) := by decide +kernel
theorem dX8_does_138 : decode cX8_does 138 = .ok (.istore 9, 2) := by decide +kernel
theorem dX8_does_140 : decode cX8_does 140 = .ok (.iload 9, 2) := by decide +kernel
theorem dX8_does_142 : decode cX8_does 142 = .ok (.bipush 6, 2) := by decide +kernel
theorem dX8_does_144 : decode cX8_does 144 = .ok (.if_icmp .ge 109, 3) := by decide +kernel
theorem dX8_does_147 : decode cX8_does 147 = .ok (.aload_n 0, 1) := by decide +kernel
theorem dX8_does_148 : decode cX8_does 148 = .ok (.getfield 13, 3) := by decide +kernel
theorem dX8_does_151 : decode cX8_does 151 = .ok (.iload 5, 2) := by decide +kernel
theorem dX8_does_153 : decode cX8_does 153 = .ok (.iload 9, 2) := by decide +kernel
theorem dX8_does_155 : decode cX8_does 155 = .ok (.iadd, 1) := by decide +kernel
theorem dX8_does_156 : decode cX8_does 156 = .ok (.iaload, 1) := by decide +kernel
theorem dX8_does_157 : decode cX8_does 157 = .ok (.istore 10, 2) := by decide +kernel
theorem dX8_does_159 : decode cX8_does 159 = .ok (.aload_n 0, 1) := by decide +kernel
theorem dX8_does_160 : decode cX8_does 160 = .ok (.getfield 13, 3) := by decide +kernel
theorem dX8_does_163 : decode cX8_does 163 = .ok (.iload 7, 2) := by decide +kernel
theorem dX8_does_165 : decode cX8_does 165 = .ok (.iload 9, 2) := by decide +kernel
theorem dX8_does_167 : decode cX8_does 167 = .ok (.iadd, 1) := by decide +kernel
theorem dX8_does_168 : decode cX8_does 168 = .ok (.iaload, 1) := by decide +kernel
theorem dX8_does_169 : decode cX8_does 169 = .ok (.istore 11, 2) := by decide +kernel
theorem dX8_does_171 : decode cX8_does 171 = .ok (.iload 10, 2) := by decide +kernel
theorem dX8_does_173 : decode cX8_does 173 = .ok (.invokestatic 119, 3) := by decide +kernel
theorem dX8_does_176 : decode cX8_does 176 = .ok (.iload 11, 2) := by decide +kernel
theorem dX8_does_178 : decode cX8_does 178 = .ok (.invokestatic 119, 3) := by decide +kernel
theorem dX8_does_181 : decode cX8_does 181 = .ok (.if_icmp .ge 11, 3) := by decide +kernel
theorem dX8_does_184 : decode cX8_does 184 = .ok (.iload 10, 2) := by decide +kernel
theorem dX8_does_186 : decode cX8_does 186 = .ok (.invokestatic 119, 3) := by decide +kernel
theorem dX8_does_189 : decode cX8_does 189 = .ok (.goto 8, 3) := by decide +kernel
theorem dX8_does_192 : decode cX8_does 192 = .ok (.iload 11, 2) := by decide +kernel
theorem dX8_does_194 : decode cX8_does 194 = .ok (.invokestatic 119, 3) := by decide +kernel
theorem dX8_does_197 : decode cX8_does 197 = .ok (.istore 12, 2) := by decide +kernel
theorem dX8_does_199 : decode cX8_does 199 = .ok (.iload 8, 2) := by decide +kernel
theorem dX8_does_201 : decode cX8_does 201 = .ok (.iload 10, 2) := by decide +kernel
theorem dX8_does_203 : decode cX8_does 203 = .ok (.ifCond .ge 7, 3) := by decide +kernel
theorem dX8_does_206 : decode cX8_does 206 = .ok (.iconst 1, 1) := by decide +kernel
theorem dX8_does_207 : decode cX8_does 207 = .ok (.goto 4, 3) := by decide +kernel
theorem dX8_does_210 : decode cX8_does 210 = .ok (.iconst 0, 1) := by decide +kernel
theorem dX8_does_211 : decode cX8_does 211 = .ok (.iload 11, 2) := by decide +kernel
theorem dX8_does_213 : decode cX8_does 213 = .ok (.ifCond .ge 7, 3) := by decide +kernel
theorem dX8_does_216 : decode cX8_does 216 = .ok (.iconst 1, 1) := by decide +kernel
theorem dX8_does_217 : decode cX8_does 217 = .ok (.goto 4, 3) := by decide +kernel
theorem dX8_does_220 : decode cX8_does 220 = .ok (.iconst 0, 1) := by decide +kernel
theorem dX8_does_221 : decode cX8_does 221 = .ok (.if_icmp .eq 8, 3) := by decide +kernel
theorem dX8_does_224 : decode cX8_does 224 = .ok (.iload 12, 2) := by decide +kernel
theorem dX8_does_226 : decode cX8_does 226 = .ok (.goto 4, 3) := by decide +kernel
theorem dX8_does_229 : decode cX8_does 229 = .ok (.iconst 0, 1) := by decide +kernel
theorem dX8_does_230 : decode cX8_does 230 = .ok (.isub, 1) := by decide +kernel
theorem dX8_does_231 : decode cX8_does 231 = .ok (.istore 8, 2) := by decide +kernel
theorem dX8_does_233 : decode cX8_does 233 = .ok (.aload_n 0, 1) := by decide +kernel
theorem dX8_does_234 : decode cX8_does 234 = .ok (.getfield 13, 3) := by decide +kernel
theorem dX8_does_237 : decode cX8_does 237 = .ok (.iload_n 2, 1) := by decide +kernel
theorem dX8_does_238 : decode cX8_does 238 = .ok (.iload 9, 2) := by decide +kernel
theorem dX8_does_240 : decode cX8_does 240 = .ok (.iadd, 1) := by decide +kernel
theorem dX8_does_241 : decode cX8_does 241 = .ok (.iload 10, 2) := by decide +kernel
theorem dX8_does_243 : decode cX8_does 243 = .ok (.iload 11, 2) := by decide +kernel
theorem dX8_does_245 : decode cX8_does 245 = .ok (.iadd, 1) := by decide +kernel
theorem dX8_does_246 : decode cX8_does 246 = .ok (.iastore, 1) := by decide +kernel
theorem dX8_does_247 : decode cX8_does 247 = .ok (.iinc 9 1, 3) := by decide +kernel
theorem dX8_does_250 : decode cX8_does 250 = .ok (.goto (-110), 3) := by decide +kernel
theorem dX8_does_253 : decode cX8_does 253 = .ok (.aload_n 0, 1) := by decide +kernel
theorem dX8_does_254 : decode cX8_does 254 = .ok (.getfield 13, 3) := by decide +kernel
theorem dX8_does_257 : decode cX8_does 257 = .ok (.iload_n 2, 1) := by decide +kernel
theorem dX8_does_258 : decode cX8_does 258 = .ok (.bipush 6, 2) := by decide +kernel
theorem dX8_does_260 : decode cX8_does 260 = .ok (.iadd, 1) := by decide +kernel
theorem dX8_does_261 : decode cX8_does 261 = .ok (.iload 8, 2) := by decide +kernel
theorem dX8_does_263 : decode cX8_does 263 = .ok (.ifCond .ge 7, 3) := by decide +kernel
theorem dX8_does_266 : decode cX8_does 266 = .ok (.iconst 0, 1) := by decide +kernel
theorem dX8_does_267 : decode cX8_does 267 = .ok (.goto 5, 3) := by decide +kernel
theorem dX8_does_270 : decode cX8_does 270 = .ok (.iload 8, 2) := by decide +kernel
theorem dX8_does_272 : decode cX8_does 272 = .ok (.iastore, 1) := by decide +kernel
theorem dX8_does_273 : decode cX8_does 273 = .ok (.goto 298, 3) := by decide +kernel
theorem dX8_does_276 : decode cX8_does 276 = .ok (.iload 4, 2) := by decide +kernel
theorem dX8_does_278 : decode cX8_does 278 = .ok (.iconst 1, 1) := by decide +kernel
theorem dX8_does_279 : decode cX8_does 279 = .ok (.if_icmp .ne 36, 3) := by decide +kernel
theorem dX8_does_282 : decode cX8_does 282 = .ok (.iconst 0, 1) := by decide +kernel
theorem dX8_does_283 : decode cX8_does 283 = .ok (.istore 7, 2) := by decide +kernel
theorem dX8_does_285 : decode cX8_does 285 = .ok (.iload 7, 2) := by decide +kernel
theorem dX8_does_287 : decode cX8_does 287 = .ok (.bipush 7, 2) := by decide +kernel
theorem dX8_does_289 : decode cX8_does 289 = .ok (.if_icmp .ge 23, 3) := by decide +kernel
theorem dX8_does_292 : decode cX8_does 292 = .ok (.aload_n 0, 1) := by decide +kernel
theorem dX8_does_293 : decode cX8_does 293 = .ok (.getfield 13, 3) := by decide +kernel
theorem dX8_does_296 : decode cX8_does 296 = .ok (.iload_n 2, 1) := by decide +kernel
theorem dX8_does_297 : decode cX8_does 297 = .ok (.iload 7, 2) := by decide +kernel
theorem dX8_does_299 : decode cX8_does 299 = .ok (.iadd, 1) := by decide +kernel
theorem dX8_does_300 : decode cX8_does 300 = .ok (.dup2, 1) := by decide +kernel
theorem dX8_does_301 : decode cX8_does 301 = .ok (.iaload, 1) := by decide +kernel
theorem dX8_does_302 : decode cX8_does 302 = .ok (.iload 6, 2) := by decide +kernel
theorem dX8_does_304 : decode cX8_does 304 = .ok (.imul, 1) := by decide +kernel
theorem dX8_does_305 : decode cX8_does 305 = .ok (.iastore, 1) := by decide +kernel
theorem dX8_does_306 : decode cX8_does 306 = .ok (.iinc 7 1, 3) := by decide +kernel
theorem dX8_does_309 : decode cX8_does 309 = .ok (.goto (-24), 3) := by decide +kernel
theorem dX8_does_312 : decode cX8_does 312 = .ok (.goto 259, 3) := by decide +kernel
theorem dX8_does_315 : decode cX8_does 315 = .ok (.iload 4, 2) := by decide +kernel
theorem dX8_does_317 : decode cX8_does 317 = .ok (.iconst 2, 1) := by decide +kernel
theorem dX8_does_318 : decode cX8_does 318 = .ok (.if_icmp .ne 73, 3) := by decide +kernel
theorem dX8_does_321 : decode cX8_does 321 = .ok (.iconst 0, 1) := by decide +kernel
theorem dX8_does_322 : decode cX8_does 322 = .ok (.istore 7, 2) := by decide +kernel
theorem dX8_does_324 : decode cX8_does 324 = .ok (.iload 7, 2) := by decide +kernel
theorem dX8_does_326 : decode cX8_does 326 = .ok (.bipush 7, 2) := by decide +kernel
theorem dX8_does_328 : decode cX8_does 328 = .ok (.if_icmp .ge 60, 3) := by decide +kernel
theorem dX8_does_331 : decode cX8_does 331 = .ok (.aload_n 0, 1) := by decide +kernel
theorem dX8_does_332 : decode cX8_does 332 = .ok (.getfield 13, 3) := by decide +kernel
theorem dX8_does_335 : decode cX8_does 335 = .ok (.iload_n 2, 1) := by decide +kernel
theorem dX8_does_336 : decode cX8_does 336 = .ok (.iload 7, 2) := by decide +kernel
theorem dX8_does_338 : decode cX8_does 338 = .ok (.iadd, 1) := by decide +kernel
theorem dX8_does_339 : decode cX8_does 339 = .ok (.iaload, 1) := by decide +kernel
theorem dX8_does_340 : decode cX8_does 340 = .ok (.invokestatic 119, 3) := by decide +kernel
theorem dX8_does_343 : decode cX8_does 343 = .ok (.iload 6, 2) := by decide +kernel
theorem dX8_does_345 : decode cX8_does 345 = .ok (.iadd, 1) := by decide +kernel
theorem dX8_does_346 : decode cX8_does 346 = .ok (.iconst 1, 1) := by decide +kernel
theorem dX8_does_347 : decode cX8_does 347 = .ok (.isub, 1) := by decide +kernel
theorem dX8_does_348 : decode cX8_does 348 = .ok (.iload 6, 2) := by decide +kernel
theorem dX8_does_350 : decode cX8_does 350 = .ok (.idiv, 1) := by decide +kernel
theorem dX8_does_351 : decode cX8_does 351 = .ok (.istore 8, 2) := by decide +kernel
theorem dX8_does_353 : decode cX8_does 353 = .ok (.aload_n 0, 1) := by decide +kernel
theorem dX8_does_354 : decode cX8_does 354 = .ok (.getfield 13, 3) := by decide +kernel
theorem dX8_does_357 : decode cX8_does 357 = .ok (.iload_n 2, 1) := by decide +kernel
theorem dX8_does_358 : decode cX8_does 358 = .ok (.iload 7, 2) := by decide +kernel
theorem dX8_does_360 : decode cX8_does 360 = .ok (.iadd, 1) := by decide +kernel
theorem dX8_does_361 : decode cX8_does 361 = .ok (.aload_n 0, 1) := by decide +kernel
theorem dX8_does_362 : decode cX8_does 362 = .ok (.getfield 13, 3) := by decide +kernel
theorem dX8_does_365 : decode cX8_does 365 = .ok (.iload_n 2, 1) := by decide +kernel
theorem dX8_does_366 : decode cX8_does 366 = .ok (.iload 7, 2) := by decide +kernel
theorem dX8_does_368 : decode cX8_does 368 = .ok (.iadd, 1) := by decide +kernel
theorem dX8_does_369 : decode cX8_does 369 = .ok (.iaload, 1) := by decide +kernel
theorem dX8_does_370 : decode cX8_does 370 = .ok (.ifCond .ge 9, 3) := by decide +kernel
theorem dX8_does_373 : decode cX8_does 373 = .ok (.iload 8, 2) := by decide +kernel
theorem dX8_does_375 : decode cX8_does 375 = .ok (.ineg, 1) := by decide +kernel
theorem dX8_does_376 : decode cX8_does 376 = .ok (.goto 5, 3) := by decide +kernel
theorem dX8_does_379 : decode cX8_does 379 = .ok (.iload 8, 2) := by decide +kernel
theorem dX8_does_381 : decode cX8_does 381 = .ok (.iastore, 1) := by decide +kernel
theorem dX8_does_382 : decode cX8_does 382 = .ok (.iinc 7 1, 3) := by decide +kernel
theorem dX8_does_385 : decode cX8_does 385 = .ok (.goto (-61), 3) := by decide +kernel
theorem dX8_does_388 : decode cX8_does 388 = .ok (.goto 183, 3) := by decide +kernel
theorem dX8_does_391 : decode cX8_does 391 = .ok (.iload 4, 2) := by decide +kernel
theorem dX8_does_393 : decode cX8_does 393 = .ok (.iconst 3, 1) := by decide +kernel
theorem dX8_does_394 : decode cX8_does 394 = .ok (.if_icmp .ne 81, 3) := by decide +kernel
theorem dX8_does_397 : decode cX8_does 397 = .ok (.aload_n 0, 1) := by decide +kernel
theorem dX8_does_398 : decode cX8_does 398 = .ok (.getfield 13, 3) := by decide +kernel
theorem dX8_does_401 : decode cX8_does 401 = .ok (.iload_n 2, 1) := by decide +kernel
theorem dX8_does_402 : decode cX8_does 402 = .ok (.bipush 6, 2) := by decide +kernel
theorem dX8_does_404 : decode cX8_does 404 = .ok (.iadd, 1) := by decide +kernel
theorem dX8_does_405 : decode cX8_does 405 = .ok (.iaload, 1) := by decide +kernel
theorem dX8_does_406 : decode cX8_does 406 = .ok (.istore 7, 2) := by decide +kernel
theorem dX8_does_408 : decode cX8_does 408 = .ok (.iconst 0, 1) := by decide +kernel
theorem dX8_does_409 : decode cX8_does 409 = .ok (.istore 8, 2) := by decide +kernel
theorem dX8_does_411 : decode cX8_does 411 = .ok (.iload 8, 2) := by decide +kernel
theorem dX8_does_413 : decode cX8_does 413 = .ok (.bipush 6, 2) := by decide +kernel
theorem dX8_does_415 : decode cX8_does 415 = .ok (.if_icmp .ge 57, 3) := by decide +kernel
theorem dX8_does_418 : decode cX8_does 418 = .ok (.aload_n 0, 1) := by decide +kernel
theorem dX8_does_419 : decode cX8_does 419 = .ok (.getfield 13, 3) := by decide +kernel
theorem dX8_does_422 : decode cX8_does 422 = .ok (.iload_n 2, 1) := by decide +kernel
theorem dX8_does_423 : decode cX8_does 423 = .ok (.iload 8, 2) := by decide +kernel
theorem dX8_does_425 : decode cX8_does 425 = .ok (.iadd, 1) := by decide +kernel
theorem dX8_does_426 : decode cX8_does 426 = .ok (.iaload, 1) := by decide +kernel
theorem dX8_does_427 : decode cX8_does 427 = .ok (.istore 9, 2) := by decide +kernel
theorem dX8_does_429 : decode cX8_does 429 = .ok (.aload_n 0, 1) := by decide +kernel
theorem dX8_does_430 : decode cX8_does 430 = .ok (.getfield 13, 3) := by decide +kernel
theorem dX8_does_433 : decode cX8_does 433 = .ok (.iload_n 2, 1) := by decide +kernel
theorem dX8_does_434 : decode cX8_does 434 = .ok (.iload 8, 2) := by decide +kernel
theorem dX8_does_436 : decode cX8_does 436 = .ok (.iadd, 1) := by decide +kernel
theorem dX8_does_437 : decode cX8_does 437 = .ok (.iload 9, 2) := by decide +kernel
theorem dX8_does_439 : decode cX8_does 439 = .ok (.iload 7, 2) := by decide +kernel
theorem dX8_does_441 : decode cX8_does 441 = .ok (.if_icmp .le 8, 3) := by decide +kernel
theorem dX8_does_444 : decode cX8_does 444 = .ok (.iload 7, 2) := by decide +kernel
theorem dX8_does_446 : decode cX8_does 446 = .ok (.goto 19, 3) := by decide +kernel
theorem dX8_does_449 : decode cX8_does 449 = .ok (.iload 9, 2) := by decide +kernel
theorem dX8_does_451 : decode cX8_does 451 = .ok (.iload 7, 2) := by decide +kernel
theorem dX8_does_453 : decode cX8_does 453 = .ok (.ineg, 1) := by decide +kernel
theorem dX8_does_454 : decode cX8_does 454 = .ok (.if_icmp .ge 9, 3) := by decide +kernel
theorem dX8_does_457 : decode cX8_does 457 = .ok (.iload 7, 2) := by decide +kernel
theorem dX8_does_459 : decode cX8_does 459 = .ok (.ineg, 1) := by decide +kernel
theorem dX8_does_460 : decode cX8_does 460 = .ok (.goto 5, 3) := by decide +kernel
theorem dX8_does_463 : decode cX8_does 463 = .ok (.iload 9, 2) := by decide +kernel
theorem dX8_does_465 : decode cX8_does 465 = .ok (.iastore, 1) := by decide +kernel
theorem dX8_does_466 : decode cX8_does 466 = .ok (.iinc 8 1, 3) := by decide +kernel
theorem dX8_does_469 : decode cX8_does 469 = .ok (.goto (-58), 3) := by decide +kernel
theorem dX8_does_472 : decode cX8_does 472 = .ok (.goto 99, 3) := by decide +kernel
theorem dX8_does_475 : decode cX8_does 475 = .ok (.iload 4, 2) := by decide +kernel
theorem dX8_does_477 : decode cX8_does 477 = .ok (.iconst 4, 1) := by decide +kernel
theorem dX8_does_478 : decode cX8_does 478 = .ok (.if_icmp .ne 60, 3) := by decide +kernel
theorem dX8_does_481 : decode cX8_does 481 = .ok (.aload_n 0, 1) := by decide +kernel
theorem dX8_does_482 : decode cX8_does 482 = .ok (.getfield 13, 3) := by decide +kernel
theorem dX8_does_485 : decode cX8_does 485 = .ok (.iload_n 2, 1) := by decide +kernel
theorem dX8_does_486 : decode cX8_does 486 = .ok (.bipush 6, 2) := by decide +kernel
theorem dX8_does_488 : decode cX8_does 488 = .ok (.iadd, 1) := by decide +kernel
theorem dX8_does_489 : decode cX8_does 489 = .ok (.iaload, 1) := by decide +kernel
theorem dX8_does_490 : decode cX8_does 490 = .ok (.aload_n 0, 1) := by decide +kernel
theorem dX8_does_491 : decode cX8_does 491 = .ok (.getfield 13, 3) := by decide +kernel
theorem dX8_does_494 : decode cX8_does 494 = .ok (.iload_n 2, 1) := by decide +kernel
theorem dX8_does_495 : decode cX8_does 495 = .ok (.iload 6, 2) := by decide +kernel
theorem dX8_does_497 : decode cX8_does 497 = .ok (.iadd, 1) := by decide +kernel
theorem dX8_does_498 : decode cX8_does 498 = .ok (.iaload, 1) := by decide +kernel
theorem dX8_does_499 : decode cX8_does 499 = .ok (.invokestatic 119, 3) := by decide +kernel
theorem dX8_does_502 : decode cX8_does 502 = .ok (.isub, 1) := by decide +kernel
theorem dX8_does_503 : decode cX8_does 503 = .ok (.istore 7, 2) := by decide +kernel
theorem dX8_does_505 : decode cX8_does 505 = .ok (.aload_n 0, 1) := by decide +kernel
theorem dX8_does_506 : decode cX8_does 506 = .ok (.getfield 13, 3) := by decide +kernel
theorem dX8_does_509 : decode cX8_does 509 = .ok (.iload_n 2, 1) := by decide +kernel
theorem dX8_does_510 : decode cX8_does 510 = .ok (.iload 6, 2) := by decide +kernel
theorem dX8_does_512 : decode cX8_does 512 = .ok (.iadd, 1) := by decide +kernel
theorem dX8_does_513 : decode cX8_does 513 = .ok (.iconst 0, 1) := by decide +kernel
theorem dX8_does_514 : decode cX8_does 514 = .ok (.iastore, 1) := by decide +kernel
theorem dX8_does_515 : decode cX8_does 515 = .ok (.aload_n 0, 1) := by decide +kernel
theorem dX8_does_516 : decode cX8_does 516 = .ok (.getfield 13, 3) := by decide +kernel
theorem dX8_does_519 : decode cX8_does 519 = .ok (.iload_n 2, 1) := by decide +kernel
theorem dX8_does_520 : decode cX8_does 520 = .ok (.bipush 6, 2) := by decide +kernel
theorem dX8_does_522 : decode cX8_does 522 = .ok (.iadd, 1) := by decide +kernel
theorem dX8_does_523 : decode cX8_does 523 = .ok (.iload 7, 2) := by decide +kernel
theorem dX8_does_525 : decode cX8_does 525 = .ok (.ifCond .ge 7, 3) := by decide +kernel
theorem dX8_does_528 : decode cX8_does 528 = .ok (.iconst 0, 1) := by decide +kernel
theorem dX8_does_529 : decode cX8_does 529 = .ok (.goto 5, 3) := by decide +kernel
theorem dX8_does_532 : decode cX8_does 532 = .ok (.iload 7, 2) := by decide +kernel
theorem dX8_does_534 : decode cX8_does 534 = .ok (.iastore, 1) := by decide +kernel
theorem dX8_does_535 : decode cX8_does 535 = .ok (.goto 36, 3) := by decide +kernel
theorem dX8_does_538 : decode cX8_does 538 = .ok (.iload 4, 2) := by decide +kernel
theorem dX8_does_540 : decode cX8_does 540 = .ok (.iconst 5, 1) := by decide +kernel
theorem dX8_does_541 : decode cX8_does 541 = .ok (.if_icmp .eq 10, 3) := by decide +kernel
theorem dX8_does_544 : decode cX8_does 544 = .ok (.iload 4, 2) := by decide +kernel
theorem dX8_does_546 : decode cX8_does 546 = .ok (.bipush 6, 2) := by decide +kernel
theorem dX8_does_548 : decode cX8_does 548 = .ok (.if_icmp .ne 23, 3) := by decide +kernel
theorem dX8_does_551 : decode cX8_does 551 = .ok (.aload_n 0, 1) := by decide +kernel
theorem dX8_does_552 : decode cX8_does 552 = .ok (.getfield 13, 3) := by decide +kernel
theorem dX8_does_555 : decode cX8_does 555 = .ok (.iload_n 2, 1) := by decide +kernel
theorem dX8_does_556 : decode cX8_does 556 = .ok (.iload 6, 2) := by decide +kernel
theorem dX8_does_558 : decode cX8_does 558 = .ok (.iadd, 1) := by decide +kernel
theorem dX8_does_559 : decode cX8_does 559 = .ok (.iload 4, 2) := by decide +kernel
theorem dX8_does_561 : decode cX8_does 561 = .ok (.iconst 5, 1) := by decide +kernel
theorem dX8_does_562 : decode cX8_does 562 = .ok (.if_icmp .ne 7, 3) := by decide +kernel
theorem dX8_does_565 : decode cX8_does 565 = .ok (.iconst 1, 1) := by decide +kernel
theorem dX8_does_566 : decode cX8_does 566 = .ok (.goto 4, 3) := by decide +kernel
theorem dX8_does_569 : decode cX8_does 569 = .ok (.iconst (-1), 1) := by decide +kernel
theorem dX8_does_570 : decode cX8_does 570 = .ok (.iastore, 1) := by decide +kernel
theorem dX8_does_571 : decode cX8_does 571 = .ok (.return_, 1) := by decide +kernel
theorem dX8_isGreat_0 : decode cX8_isGreat 0 = .ok (.aload_n 0, 1) := by decide +kernel
theorem dX8_isGreat_1 : decode cX8_isGreat 1 = .ok (.getfield 13, 3) := by decide +kernel
theorem dX8_isGreat_4 : decode cX8_isGreat 4 = .ok (.iload_n 1, 1) := by decide +kernel
theorem dX8_isGreat_5 : decode cX8_isGreat 5 = .ok (.bipush 6, 2) := by decide +kernel
theorem dX8_isGreat_7 : decode cX8_isGreat 7 = .ok (.iadd, 1) := by decide +kernel
theorem dX8_isGreat_8 : decode cX8_isGreat 8 = .ok (.iaload, 1) := by decide +kernel
theorem dX8_isGreat_9 : decode cX8_isGreat 9 = .ok (.ldc 122, 2) := by decide +kernel
theorem dX8_isGreat_11 : decode cX8_isGreat 11 = .ok (.if_icmp .le 7, 3) := by decide +kernel
theorem dX8_isGreat_14 : decode cX8_isGreat 14 = .ok (.iconst 1, 1) := by decide +kernel
theorem dX8_isGreat_15 : decode cX8_isGreat 15 = .ok (.goto 4, 3) := by decide +kernel
theorem dX8_isGreat_18 : decode cX8_isGreat 18 = .ok (.iconst 0, 1) := by decide +kernel
theorem dX8_isGreat_19 : decode cX8_isGreat 19 = .ok (.istore_n 2, 1) := by decide +kernel
theorem dX8_isGreat_20 : decode cX8_isGreat 20 = .ok (.iconst 0, 1) := by decide +kernel
theorem dX8_isGreat_21 : decode cX8_isGreat 21 = .ok (.istore_n 3, 1) := by decide +kernel
theorem dX8_isGreat_22 : decode cX8_isGreat 22 = .ok (.iload_n 3, 1) := by decide +kernel
theorem dX8_isGreat_23 : decode cX8_isGreat 23 = .ok (.bipush 6, 2) := by decide +kernel
theorem dX8_isGreat_25 : decode cX8_isGreat 25 = .ok (.if_icmp .ge 34, 3) := by decide +kernel
theorem dX8_isGreat_28 : decode cX8_isGreat 28 = .ok (.iload_n 2, 1) := by decide +kernel
theorem dX8_isGreat_29 : decode cX8_isGreat 29 = .ok (.aload_n 0, 1) := by decide +kernel
theorem dX8_isGreat_30 : decode cX8_isGreat 30 = .ok (.getfield 13, 3) := by decide +kernel
theorem dX8_isGreat_33 : decode cX8_isGreat 33 = .ok (.iload_n 1, 1) := by decide +kernel
theorem dX8_isGreat_34 : decode cX8_isGreat 34 = .ok (.iload_n 3, 1) := by decide +kernel
theorem dX8_isGreat_35 : decode cX8_isGreat 35 = .ok (.iadd, 1) := by decide +kernel
theorem dX8_isGreat_36 : decode cX8_isGreat 36 = .ok (.iaload, 1) := by decide +kernel
theorem dX8_isGreat_37 : decode cX8_isGreat 37 = .ok (.invokestatic 119, 3) := by decide +kernel
theorem dX8_isGreat_40 : decode cX8_isGreat 40 = .ok (.sipush 9999, 3) := by decide +kernel
theorem dX8_isGreat_43 : decode cX8_isGreat 43 = .ok (.if_icmp .le 7, 3) := by decide +kernel
theorem dX8_isGreat_46 : decode cX8_isGreat 46 = .ok (.iconst 1, 1) := by decide +kernel
theorem dX8_isGreat_47 : decode cX8_isGreat 47 = .ok (.goto 4, 3) := by decide +kernel
theorem dX8_isGreat_50 : decode cX8_isGreat 50 = .ok (.iconst 0, 1) := by decide +kernel
theorem dX8_isGreat_51 : decode cX8_isGreat 51 = .ok (.ior, 1) := by decide +kernel
theorem dX8_isGreat_52 : decode cX8_isGreat 52 = .ok (.istore_n 2, 1) := by decide +kernel
theorem dX8_isGreat_53 : decode cX8_isGreat 53 = .ok (.iinc 3 1, 3) := by decide +kernel
theorem dX8_isGreat_56 : decode cX8_isGreat 56 = .ok (.goto (-34), 3) := by decide +kernel
theorem dX8_isGreat_59 : decode cX8_isGreat 59 = .ok (.iload_n 2, 1) := by decide +kernel
theorem dX8_isGreat_60 : decode cX8_isGreat 60 = .ok (.ireturn, 1) := by decide +kernel
theorem dX8_weights_0 : decode cX8_weights 0 = .ok (.iconst 0, 1) := by decide +kernel
theorem dX8_weights_1 : decode cX8_weights 1 = .ok (.istore_n 2, 1) := by decide +kernel
theorem dX8_weights_2 : decode cX8_weights 2 = .ok (.iconst 0, 1) := by decide +kernel
theorem dX8_weights_3 : decode cX8_weights 3 = .ok (.istore_n 3, 1) := by decide +kernel
theorem dX8_weights_4 : decode cX8_weights 4 = .ok (.iload_n 3, 1) := by decide +kernel
theorem dX8_weights_5 : decode cX8_weights 5 = .ok (.bipush 6, 2) := by decide +kernel
theorem dX8_weights_7 : decode cX8_weights 7 = .ok (.if_icmp .ge 23, 3) := by decide +kernel
theorem dX8_weights_10 : decode cX8_weights 10 = .ok (.iload_n 2, 1) := by decide +kernel
theorem dX8_weights_11 : decode cX8_weights 11 = .ok (.aload_n 0, 1) := by decide +kernel
theorem dX8_weights_12 : decode cX8_weights 12 = .ok (.getfield 13, 3) := by decide +kernel
theorem dX8_weights_15 : decode cX8_weights 15 = .ok (.iload_n 1, 1) := by decide +kernel
theorem dX8_weights_16 : decode cX8_weights 16 = .ok (.iload_n 3, 1) := by decide +kernel
theorem dX8_weights_17 : decode cX8_weights 17 = .ok (.iadd, 1) := by decide +kernel
theorem dX8_weights_18 : decode cX8_weights 18 = .ok (.iaload, 1) := by decide +kernel
theorem dX8_weights_19 : decode cX8_weights 19 = .ok (.invokestatic 119, 3) := by decide +kernel
theorem dX8_weights_22 : decode cX8_weights 22 = .ok (.iadd, 1) := by decide +kernel
theorem dX8_weights_23 : decode cX8_weights 23 = .ok (.istore_n 2, 1) := by decide +kernel
theorem dX8_weights_24 : decode cX8_weights 24 = .ok (.iinc 3 1, 3) := by decide +kernel
theorem dX8_weights_27 : decode cX8_weights 27 = .ok (.goto (-23), 3) := by decide +kernel
theorem dX8_weights_30 : decode cX8_weights 30 = .ok (.iload_n 2, 1) := by decide +kernel
theorem dX8_weights_31 : decode cX8_weights 31 = .ok (.ireturn, 1) := by decide +kernel
theorem dX8_isRight_0 : decode cX8_isRight 0 = .ok (.bipush 7, 2) := by decide +kernel
theorem dX8_isRight_2 : decode cX8_isRight 2 = .ok (.iload_n 1, 1) := by decide +kernel
theorem dX8_isRight_3 : decode cX8_isRight 3 = .ok (.imul, 1) := by decide +kernel
theorem dX8_isRight_4 : decode cX8_isRight 4 = .ok (.istore_n 2, 1) := by decide +kernel
theorem dX8_isRight_5 : decode cX8_isRight 5 = .ok (.aload_n 0, 1) := by decide +kernel
theorem dX8_isRight_6 : decode cX8_isRight 6 = .ok (.iload_n 2, 1) := by decide +kernel
theorem dX8_isRight_7 : decode cX8_isRight 7 = .ok (.invokevirtual 123, 3) := by decide +kernel
theorem dX8_isRight_10 : decode cX8_isRight 10 = .ok (.iconst 1, 1) := by decide +kernel
theorem dX8_isRight_11 : decode cX8_isRight 11 = .ok (.iadd, 1) := by decide +kernel
theorem dX8_isRight_12 : decode cX8_isRight 12 = .ok (.aload_n 0, 1) := by decide +kernel
theorem dX8_isRight_13 : decode cX8_isRight 13 = .ok (.getfield 13, 3) := by decide +kernel
theorem dX8_isRight_16 : decode cX8_isRight 16 = .ok (.iload_n 2, 1) := by decide +kernel
theorem dX8_isRight_17 : decode cX8_isRight 17 = .ok (.bipush 6, 2) := by decide +kernel
theorem dX8_isRight_19 : decode cX8_isRight 19 = .ok (.iadd, 1) := by decide +kernel
theorem dX8_isRight_20 : decode cX8_isRight 20 = .ok (.iaload, 1) := by decide +kernel
theorem dX8_isRight_21 : decode cX8_isRight 21 = .ok (.isub, 1) := by decide +kernel
theorem dX8_isRight_22 : decode cX8_isRight 22 = .ok (.istore_n 3, 1) := by decide +kernel
theorem dX8_isRight_23 : decode cX8_isRight 23 = .ok (.aload_n 0, 1) := by decide +kernel
theorem dX8_isRight_24 : decode cX8_isRight 24 = .ok (.getfield 13, 3) := by decide +kernel
theorem dX8_isRight_27 : decode cX8_isRight 27 = .ok (.iload_n 2, 1) := by decide +kernel
theorem dX8_isRight_28 : decode cX8_isRight 28 = .ok (.bipush 6, 2) := by decide +kernel
theorem dX8_isRight_30 : decode cX8_isRight 30 = .ok (.iadd, 1) := by decide +kernel
theorem dX8_isRight_31 : decode cX8_isRight 31 = .ok (.iaload, 1) := by decide +kernel
theorem dX8_isRight_32 : decode cX8_isRight 32 = .ok (.istore 4, 2) := by decide +kernel
theorem dX8_isRight_34 : decode cX8_isRight 34 = .ok (.aload_n 0, 1) := by decide +kernel
theorem dX8_isRight_35 : decode cX8_isRight 35 = .ok (.getfield 13, 3) := by decide +kernel
theorem dX8_isRight_38 : decode cX8_isRight 38 = .ok (.iload_n 2, 1) := by decide +kernel
theorem dX8_isRight_39 : decode cX8_isRight 39 = .ok (.bipush 6, 2) := by decide +kernel
theorem dX8_isRight_41 : decode cX8_isRight 41 = .ok (.iadd, 1) := by decide +kernel
theorem dX8_isRight_42 : decode cX8_isRight 42 = .ok (.iload_n 3, 1) := by decide +kernel
theorem dX8_isRight_43 : decode cX8_isRight 43 = .ok (.ifCond .ge 7, 3) := by decide +kernel
theorem dX8_isRight_46 : decode cX8_isRight 46 = .ok (.iconst 0, 1) := by decide +kernel
theorem dX8_isRight_47 : decode cX8_isRight 47 = .ok (.goto 4, 3) := by decide +kernel
theorem dX8_isRight_50 : decode cX8_isRight 50 = .ok (.iload_n 3, 1) := by decide +kernel
theorem dX8_isRight_51 : decode cX8_isRight 51 = .ok (.iastore, 1) := by decide +kernel
theorem dX8_isRight_52 : decode cX8_isRight 52 = .ok (.iconst 0, 1) := by decide +kernel
theorem dX8_isRight_53 : decode cX8_isRight 53 = .ok (.istore 5, 2) := by decide +kernel
theorem dX8_isRight_55 : decode cX8_isRight 55 = .ok (.iload 5, 2) := by decide +kernel
theorem dX8_isRight_57 : decode cX8_isRight 57 = .ok (.bipush 6, 2) := by decide +kernel
theorem dX8_isRight_59 : decode cX8_isRight 59 = .ok (.if_icmp .ge 28, 3) := by decide +kernel
theorem dX8_isRight_62 : decode cX8_isRight 62 = .ok (.aload_n 0, 1) := by decide +kernel
theorem dX8_isRight_63 : decode cX8_isRight 63 = .ok (.getfield 13, 3) := by decide +kernel
theorem dX8_isRight_66 : decode cX8_isRight 66 = .ok (.iload_n 2, 1) := by decide +kernel
theorem dX8_isRight_67 : decode cX8_isRight 67 = .ok (.iload 5, 2) := by decide +kernel
theorem dX8_isRight_69 : decode cX8_isRight 69 = .ok (.iadd, 1) := by decide +kernel
theorem dX8_isRight_70 : decode cX8_isRight 70 = .ok (.aload_n 0, 1) := by decide +kernel
theorem dX8_isRight_71 : decode cX8_isRight 71 = .ok (.getfield 13, 3) := by decide +kernel
theorem dX8_isRight_74 : decode cX8_isRight 74 = .ok (.iload_n 2, 1) := by decide +kernel
theorem dX8_isRight_75 : decode cX8_isRight 75 = .ok (.iload 5, 2) := by decide +kernel
theorem dX8_isRight_77 : decode cX8_isRight 77 = .ok (.iadd, 1) := by decide +kernel
theorem dX8_isRight_78 : decode cX8_isRight 78 = .ok (.iaload, 1) := by decide +kernel
theorem dX8_isRight_79 : decode cX8_isRight 79 = .ok (.ineg, 1) := by decide +kernel
theorem dX8_isRight_80 : decode cX8_isRight 80 = .ok (.iastore, 1) := by decide +kernel
theorem dX8_isRight_81 : decode cX8_isRight 81 = .ok (.iinc 5 1, 3) := by decide +kernel
theorem dX8_isRight_84 : decode cX8_isRight 84 = .ok (.goto (-29), 3) := by decide +kernel
theorem dX8_isRight_87 : decode cX8_isRight 87 = .ok (.aload_n 0, 1) := by decide +kernel
theorem dX8_isRight_88 : decode cX8_isRight 88 = .ok (.iload_n 1, 1) := by decide +kernel
theorem dX8_isRight_89 : decode cX8_isRight 89 = .ok (.iconst 1, 1) := by decide +kernel
theorem dX8_isRight_90 : decode cX8_isRight 90 = .ok (.iadd, 1) := by decide +kernel
theorem dX8_isRight_91 : decode cX8_isRight 91 = .ok (.iconst 0, 1) := by decide +kernel
theorem dX8_isRight_92 : decode cX8_isRight 92 = .ok (.iconst 0, 1) := by decide +kernel
theorem dX8_isRight_93 : decode cX8_isRight 93 = .ok (.invokevirtual 126, 3) := by decide +kernel
theorem dX8_isRight_96 : decode cX8_isRight 96 = .ok (.istore 5, 2) := by decide +kernel
theorem dX8_isRight_98 : decode cX8_isRight 98 = .ok (.iconst 0, 1) := by decide +kernel
theorem dX8_isRight_99 : decode cX8_isRight 99 = .ok (.istore 6, 2) := by decide +kernel
theorem dX8_isRight_101 : decode cX8_isRight 101 = .ok (.iload 6, 2) := by decide +kernel
theorem dX8_isRight_103 : decode cX8_isRight 103 = .ok (.bipush 6, 2) := by decide +kernel
theorem dX8_isRight_105 : decode cX8_isRight 105 = .ok (.if_icmp .ge 28, 3) := by decide +kernel
theorem dX8_isRight_108 : decode cX8_isRight 108 = .ok (.aload_n 0, 1) := by decide +kernel
theorem dX8_isRight_109 : decode cX8_isRight 109 = .ok (.getfield 13, 3) := by decide +kernel
theorem dX8_isRight_112 : decode cX8_isRight 112 = .ok (.iload_n 2, 1) := by decide +kernel
theorem dX8_isRight_113 : decode cX8_isRight 113 = .ok (.iload 6, 2) := by decide +kernel
theorem dX8_isRight_115 : decode cX8_isRight 115 = .ok (.iadd, 1) := by decide +kernel
theorem dX8_isRight_116 : decode cX8_isRight 116 = .ok (.aload_n 0, 1) := by decide +kernel
theorem dX8_isRight_117 : decode cX8_isRight 117 = .ok (.getfield 13, 3) := by decide +kernel
theorem dX8_isRight_120 : decode cX8_isRight 120 = .ok (.iload_n 2, 1) := by decide +kernel
theorem dX8_isRight_121 : decode cX8_isRight 121 = .ok (.iload 6, 2) := by decide +kernel
theorem dX8_isRight_123 : decode cX8_isRight 123 = .ok (.iadd, 1) := by decide +kernel
theorem dX8_isRight_124 : decode cX8_isRight 124 = .ok (.iaload, 1) := by decide +kernel
theorem dX8_isRight_125 : decode cX8_isRight 125 = .ok (.ineg, 1) := by decide +kernel
theorem dX8_isRight_126 : decode cX8_isRight 126 = .ok (.iastore, 1) := by decide +kernel
theorem dX8_isRight_127 : decode cX8_isRight 127 = .ok (.iinc 6 1, 3) := by decide +kernel
theorem dX8_isRight_130 : decode cX8_isRight 130 = .ok (.goto (-29), 3) := by decide +kernel
theorem dX8_isRight_133 : decode cX8_isRight 133 = .ok (.aload_n 0, 1) := by decide +kernel
theorem dX8_isRight_134 : decode cX8_isRight 134 = .ok (.getfield 13, 3) := by decide +kernel
theorem dX8_isRight_137 : decode cX8_isRight 137 = .ok (.iload_n 2, 1) := by decide +kernel
theorem dX8_isRight_138 : decode cX8_isRight 138 = .ok (.bipush 6, 2) := by decide +kernel
theorem dX8_isRight_140 : decode cX8_isRight 140 = .ok (.iadd, 1) := by decide +kernel
theorem dX8_isRight_141 : decode cX8_isRight 141 = .ok (.iload 4, 2) := by decide +kernel
theorem dX8_isRight_143 : decode cX8_isRight 143 = .ok (.iastore, 1) := by decide +kernel
theorem dX8_isRight_144 : decode cX8_isRight 144 = .ok (.iload 5, 2) := by decide +kernel
theorem dX8_isRight_146 : decode cX8_isRight 146 = .ok (.ireturn, 1) := by decide +kernel
theorem dX8_proof_0 : decode cX8_proof 0 = .ok (.aload_n 0, 1) := by decide +kernel
theorem dX8_proof_1 : decode cX8_proof 1 = .ok (.iconst 0, 1) := by decide +kernel
theorem dX8_proof_2 : decode cX8_proof 2 = .ok (.putfield 35, 3) := by decide +kernel
theorem dX8_proof_5 : decode cX8_proof 5 = .ok (.aload_n 0, 1) := by decide +kernel
theorem dX8_proof_6 : decode cX8_proof 6 = .ok (.iconst (-1), 1) := by decide +kernel
theorem dX8_proof_7 : decode cX8_proof 7 = .ok (.putfield 77, 3) := by decide +kernel
theorem dX8_proof_10 : decode cX8_proof 10 = .ok (.aload_n 0, 1) := by decide +kernel
theorem dX8_proof_11 : decode cX8_proof 11 = .ok (.iconst 0, 1) := by decide +kernel
theorem dX8_proof_12 : decode cX8_proof 12 = .ok (.putfield 57, 3) := by decide +kernel
theorem dX8_proof_15 : decode cX8_proof 15 = .ok (.iconst 0, 1) := by decide +kernel
theorem dX8_proof_16 : decode cX8_proof 16 = .ok (.istore_n 1, 1) := by decide +kernel
theorem dX8_proof_17 : decode cX8_proof 17 = .ok (.aload_n 0, 1) := by decide +kernel
theorem dX8_proof_18 : decode cX8_proof 18 = .ok (.invokevirtual 88, 3) := by decide +kernel
theorem dX8_proof_21 : decode cX8_proof 21 = .ok (.aload_n 0, 1) := by decide +kernel
theorem dX8_proof_22 : decode cX8_proof 22 = .ok (.invokevirtual 80, 3) := by decide +kernel
theorem dX8_proof_25 : decode cX8_proof 25 = .ok (.ifCond .eq 34, 3) := by decide +kernel
theorem dX8_proof_28 : decode cX8_proof 28 = .ok (.aload_n 0, 1) := by decide +kernel
theorem dX8_proof_29 : decode cX8_proof 29 = .ok (.getfield 67, 3) := by decide +kernel
theorem dX8_proof_32 : decode cX8_proof 32 = .ok (.ifCond .eq 27, 3) := by decide +kernel
theorem dX8_proof_35 : decode cX8_proof 35 = .ok (.iload_n 1, 1) := by decide +kernel
theorem dX8_proof_36 : decode cX8_proof 36 = .ok (.bipush 24, 2) := by decide +kernel
theorem dX8_proof_38 : decode cX8_proof 38 = .ok (.if_icmp .ne 10, 3) := by decide +kernel
theorem dX8_proof_41 : decode cX8_proof 41 = .ok (.aload_n 0, 1) := by decide +kernel
theorem dX8_proof_42 : decode cX8_proof 42 = .ok (.invokevirtual 91, 3) := by decide +kernel
theorem dX8_proof_45 : decode cX8_proof 45 = .ok (.goto (-24), 3) := by decide +kernel
theorem dX8_proof_48 : decode cX8_proof 48 = .ok (.aload_n 0, 1) := by decide +kernel
theorem dX8_proof_49 : decode cX8_proof 49 = .ok (.iload_n 1, 1) := by decide +kernel
theorem dX8_proof_50 : decode cX8_proof 50 = .ok (.invokevirtual 129, 3) := by decide +kernel
theorem dX8_proof_53 : decode cX8_proof 53 = .ok (.iinc 1 1, 3) := by decide +kernel
theorem dX8_proof_56 : decode cX8_proof 56 = .ok (.goto (-35), 3) := by decide +kernel
theorem dX8_proof_59 : decode cX8_proof 59 = .ok (.aload_n 0, 1) := by decide +kernel
theorem dX8_proof_60 : decode cX8_proof 60 = .ok (.invokevirtual 80, 3) := by decide +kernel
theorem dX8_proof_63 : decode cX8_proof 63 = .ok (.ifCond .ne 11, 3) := by decide +kernel
theorem dX8_proof_66 : decode cX8_proof 66 = .ok (.bipush (-10), 2) := by decide +kernel
theorem dX8_proof_68 : decode cX8_proof 68 = .ok (.aload_n 0, 1) := by decide +kernel
theorem dX8_proof_69 : decode cX8_proof 69 = .ok (.getfield 77, 3) := by decide +kernel
theorem dX8_proof_72 : decode cX8_proof 72 = .ok (.isub, 1) := by decide +kernel
theorem dX8_proof_73 : decode cX8_proof 73 = .ok (.ireturn, 1) := by decide +kernel
theorem dX8_proof_74 : decode cX8_proof 74 = .ok (.aload_n 0, 1) := by decide +kernel
theorem dX8_proof_75 : decode cX8_proof 75 = .ok (.iload_n 1, 1) := by decide +kernel
theorem dX8_proof_76 : decode cX8_proof 76 = .ok (.putfield 112, 3) := by decide +kernel
theorem dX8_proof_79 : decode cX8_proof 79 = .ok (.aload_n 0, 1) := by decide +kernel
theorem dX8_proof_80 : decode cX8_proof 80 = .ok (.iconst 0, 1) := by decide +kernel
theorem dX8_proof_81 : decode cX8_proof 81 = .ok (.putfield 109, 3) := by decide +kernel
theorem dX8_proof_84 : decode cX8_proof 84 = .ok (.aload_n 0, 1) := by decide +kernel
theorem dX8_proof_85 : decode cX8_proof 85 = .ok (.bipush (-9), 2) := by decide +kernel
theorem dX8_proof_87 : decode cX8_proof 87 = .ok (.putfield 16, 3) := by decide +kernel
theorem dX8_proof_90 : decode cX8_proof 90 = .ok (.aload_n 0, 1) := by decide +kernel
theorem dX8_proof_91 : decode cX8_proof 91 = .ok (.bipush (-9), 2) := by decide +kernel
theorem dX8_proof_93 : decode cX8_proof 93 = .ok (.putfield 20, 3) := by decide +kernel
theorem dX8_proof_96 : decode cX8_proof 96 = .ok (.aload_n 0, 1) := by decide +kernel
theorem dX8_proof_97 : decode cX8_proof 97 = .ok (.iconst 0, 1) := by decide +kernel
theorem dX8_proof_98 : decode cX8_proof 98 = .ok (.putfield 42, 3) := by decide +kernel
theorem dX8_proof_101 : decode cX8_proof 101 = .ok (.iconst 0, 1) := by decide +kernel
theorem dX8_proof_102 : decode cX8_proof 102 = .ok (.istore_n 2, 1) := by decide +kernel
theorem dX8_proof_103 : decode cX8_proof 103 = .ok (.iload_n 2, 1) := by decide +kernel
theorem dX8_proof_104 : decode cX8_proof 104 = .ok (.aload_n 0, 1) := by decide +kernel
theorem dX8_proof_105 : decode cX8_proof 105 = .ok (.getfield 112, 3) := by decide +kernel
theorem dX8_proof_108 : decode cX8_proof 108 = .ok (.if_icmp .ge 147, 3) := by decide +kernel
theorem dX8_proof_111 : decode cX8_proof 111 = .ok (.aload_n 0, 1) := by decide +kernel
theorem dX8_proof_112 : decode cX8_proof 112 = .ok (.getfield 16, 3) := by decide +kernel
theorem dX8_proof_115 : decode cX8_proof 115 = .ok (.bipush (-9), 2) := by decide +kernel
theorem dX8_proof_117 : decode cX8_proof 117 = .ok (.if_icmp .ne 138, 3) := by decide +kernel
theorem dX8_proof_120 : decode cX8_proof 120 = .ok (.aload_n 0, 1) := by decide +kernel
theorem dX8_proof_121 : decode cX8_proof 121 = .ok (.getfield 106, 3) := by decide +kernel
theorem dX8_proof_124 : decode cX8_proof 124 = .ok (.aload_n 0, 1) := by decide +kernel
theorem dX8_proof_125 : decode cX8_proof 125 = .ok (.getfield 109, 3) := by decide +kernel
theorem dX8_proof_128 : decode cX8_proof 128 = .ok (.iadd, 1) := by decide +kernel
theorem dX8_proof_129 : decode cX8_proof 129 = .ok (.istore_n 3, 1) := by decide +kernel
theorem dX8_proof_130 : decode cX8_proof 130 = .ok (.aload_n 0, 1) := by decide +kernel
theorem dX8_proof_131 : decode cX8_proof 131 = .ok (.iload_n 2, 1) := by decide +kernel
theorem dX8_proof_132 : decode cX8_proof 132 = .ok (.bipush 7, 2) := by decide +kernel
theorem dX8_proof_134 : decode cX8_proof 134 = .ok (.iload_n 3, 1) := by decide +kernel
theorem dX8_proof_135 : decode cX8_proof 135 = .ok (.imul, 1) := by decide +kernel
theorem dX8_proof_136 : decode cX8_proof 136 = .ok (.invokevirtual 132, 3) := by decide +kernel
theorem dX8_proof_139 : decode cX8_proof 139 = .ok (.aload_n 0, 1) := by decide +kernel
theorem dX8_proof_140 : decode cX8_proof 140 = .ok (.bipush 7, 2) := by decide +kernel
theorem dX8_proof_142 : decode cX8_proof 142 = .ok (.iload_n 3, 1) := by decide +kernel
theorem dX8_proof_143 : decode cX8_proof 143 = .ok (.imul, 1) := by decide +kernel
theorem dX8_proof_144 : decode cX8_proof 144 = .ok (.invokevirtual 136, 3) := by decide +kernel
theorem dX8_proof_147 : decode cX8_proof 147 = .ok (.istore 4, 2) := by decide +kernel
theorem dX8_proof_149 : decode cX8_proof 149 = .ok (.iload 4, 2) := by decide +kernel
theorem dX8_proof_151 : decode cX8_proof 151 = .ok (.ifCond .ne 25, 3) := by decide +kernel
theorem dX8_proof_154 : decode cX8_proof 154 = .ok (.aload_n 0, 1) := by decide +kernel
theorem dX8_proof_155 : decode cX8_proof 155 = .ok (.getfield 26, 3) := by decide +kernel
theorem dX8_proof_158 : decode cX8_proof 158 = .ok (.bipush 10, 2) := by decide +kernel
theorem dX8_proof_160 : decode cX8_proof 160 = .ok (.iload_n 2, 1) := by decide +kernel
theorem dX8_proof_161 : decode cX8_proof 161 = .ok (.imul, 1) := by decide +kernel
theorem dX8_proof_162 : decode cX8_proof 162 = .ok (.iaload, 1) := by decide +kernel
theorem dX8_proof_163 : decode cX8_proof 163 = .ok (.bipush 7, 2) := by decide +kernel
theorem dX8_proof_165 : decode cX8_proof 165 = .ok (.if_icmp .ne 11, 3) := by decide +kernel
theorem dX8_proof_168 : decode cX8_proof 168 = .ok (.aload_n 0, 1) := by decide +kernel
theorem dX8_proof_169 : decode cX8_proof 169 = .ok (.iload_n 3, 1) := by decide +kernel
theorem dX8_proof_170 : decode cX8_proof 170 = .ok (.invokevirtual 139, 3) := by decide +kernel
theorem dX8_proof_173 : decode cX8_proof 173 = .ok (.ifCond .eq 7, 3) := by decide +kernel
theorem dX8_proof_176 : decode cX8_proof 176 = .ok (.iconst 1, 1) := by decide +kernel
theorem dX8_proof_177 : decode cX8_proof 177 = .ok (.goto 4, 3) := by decide +kernel
theorem dX8_proof_180 : decode cX8_proof 180 = .ok (.iconst 0, 1) := by decide +kernel
theorem dX8_proof_181 : decode cX8_proof 181 = .ok (.istore 5, 2) := by decide +kernel
theorem dX8_proof_183 : decode cX8_proof 183 = .ok (.aload_n 0, 1) := by decide +kernel
theorem dX8_proof_184 : decode cX8_proof 184 = .ok (.iload 4, 2) := by decide +kernel
theorem dX8_proof_186 : decode cX8_proof 186 = .ok (.ifCond .eq 7, 3) := by decide +kernel
theorem dX8_proof_189 : decode cX8_proof 189 = .ok (.iconst 1, 1) := by decide +kernel
theorem dX8_proof_190 : decode cX8_proof 190 = .ok (.goto 14, 3) := by decide +kernel
theorem dX8_proof_193 : decode cX8_proof 193 = .ok (.iload 5, 2) := by decide +kernel
theorem dX8_proof_195 : decode cX8_proof 195 = .ok (.ifCond .eq 8, 3) := by decide +kernel
theorem dX8_proof_198 : decode cX8_proof 198 = .ok (.bipush (-9), 2) := by decide +kernel
theorem dX8_proof_200 : decode cX8_proof 200 = .ok (.goto 4, 3) := by decide +kernel
theorem dX8_proof_203 : decode cX8_proof 203 = .ok (.iconst 2, 1) := by decide +kernel
theorem dX8_proof_204 : decode cX8_proof 204 = .ok (.putfield 20, 3) := by decide +kernel
theorem dX8_proof_207 : decode cX8_proof 207 = .ok (.aload_n 0, 1) := by decide +kernel
theorem dX8_proof_208 : decode cX8_proof 208 = .ok (.aload_n 0, 1) := by decide +kernel
theorem dX8_proof_209 : decode cX8_proof 209 = .ok (.getfield 20, 3) := by decide +kernel
theorem dX8_proof_212 : decode cX8_proof 212 = .ok (.bipush (-9), 2) := by decide +kernel
theorem dX8_proof_214 : decode cX8_proof 214 = .ok (.if_icmp .ne 8, 3) := by decide +kernel
theorem dX8_proof_217 : decode cX8_proof 217 = .ok (.bipush (-9), 2) := by decide +kernel
theorem dX8_proof_219 : decode cX8_proof 219 = .ok (.goto 4, 3) := by decide +kernel
theorem dX8_proof_222 : decode cX8_proof 222 = .ok (.iload_n 2, 1) := by decide +kernel
theorem dX8_proof_223 : decode cX8_proof 223 = .ok (.putfield 16, 3) := by decide +kernel
theorem dX8_proof_226 : decode cX8_proof 226 = .ok (.aload_n 0, 1) := by decide +kernel
theorem dX8_proof_227 : decode cX8_proof 227 = .ok (.dup, 1) := by decide +kernel
theorem dX8_proof_228 : decode cX8_proof 228 = .ok (.getfield 109, 3) := by decide +kernel
theorem dX8_proof_231 : decode cX8_proof 231 = .ok (.aload_n 0, 1) := by decide +kernel
theorem dX8_proof_232 : decode cX8_proof 232 = .ok (.getfield 20, 3) := by decide +kernel
theorem dX8_proof_235 : decode cX8_proof 235 = .ok (.bipush (-9), 2) := by decide +kernel
theorem dX8_proof_237 : decode cX8_proof 237 = .ok (.if_icmp .ne 7, 3) := by decide +kernel
theorem dX8_proof_240 : decode cX8_proof 240 = .ok (.iconst 1, 1) := by decide +kernel
theorem dX8_proof_241 : decode cX8_proof 241 = .ok (.goto 4, 3) := by decide +kernel
theorem dX8_proof_244 : decode cX8_proof 244 = .ok (.iconst 0, 1) := by decide +kernel
theorem dX8_proof_245 : decode cX8_proof 245 = .ok (.iadd, 1) := by decide +kernel
theorem dX8_proof_246 : decode cX8_proof 246 = .ok (.putfield 109, 3) := by decide +kernel
theorem dX8_proof_249 : decode cX8_proof 249 = .ok (.iinc 2 1, 3) := by decide +kernel
theorem dX8_proof_252 : decode cX8_proof 252 = .ok (.goto (-149), 3) := by decide +kernel
theorem dX8_proof_255 : decode cX8_proof 255 = .ok (.aload_n 0, 1) := by decide +kernel
theorem dX8_proof_256 : decode cX8_proof 256 = .ok (.getfield 109, 3) := by decide +kernel
theorem dX8_proof_259 : decode cX8_proof 259 = .ok (.ireturn, 1) := by decide +kernel
theorem dX8_wrong_0 : decode cX8_wrong 0 = .ok (.aload_n 0, 1) := by decide +kernel
theorem dX8_wrong_1 : decode cX8_wrong 1 = .ok (.iconst 0, 1) := by decide +kernel
theorem dX8_wrong_2 : decode cX8_wrong 2 = .ok (.putfield 35, 3) := by decide +kernel
theorem dX8_wrong_5 : decode cX8_wrong 5 = .ok (.iload_n 1, 1) := by decide +kernel
theorem dX8_wrong_6 : decode cX8_wrong 6 = .ok (.ifCond .ne 10, 3) := by decide +kernel
theorem dX8_wrong_9 : decode cX8_wrong 9 = .ok (.aload_n 0, 1) := by decide +kernel
theorem dX8_wrong_10 : decode cX8_wrong 10 = .ok (.getfield 16, 3) := by decide +kernel
theorem dX8_wrong_13 : decode cX8_wrong 13 = .ok (.goto 16, 3) := by decide +kernel
theorem dX8_wrong_16 : decode cX8_wrong 16 = .ok (.iload_n 1, 1) := by decide +kernel
theorem dX8_wrong_17 : decode cX8_wrong 17 = .ok (.iconst 1, 1) := by decide +kernel
theorem dX8_wrong_18 : decode cX8_wrong 18 = .ok (.if_icmp .ne 10, 3) := by decide +kernel
theorem dX8_wrong_21 : decode cX8_wrong 21 = .ok (.aload_n 0, 1) := by decide +kernel
theorem dX8_wrong_22 : decode cX8_wrong 22 = .ok (.getfield 20, 3) := by decide +kernel
theorem dX8_wrong_25 : decode cX8_wrong 25 = .ok (.goto 4, 3) := by decide +kernel
theorem dX8_wrong_28 : decode cX8_wrong 28 = .ok (.iconst (-1), 1) := by decide +kernel
theorem dX8_wrong_29 : decode cX8_wrong 29 = .ok (.ireturn, 1) := by decide +kernel
theorem dX8_isLine_0 : decode cX8_isLine 0 = .ok (.iload_n 1, 1) := by decide +kernel
theorem dX8_isLine_1 : decode cX8_isLine 1 = .ok (.iconst 0, 1) := by decide +kernel
theorem dX8_isLine_2 : decode cX8_isLine 2 = .ok (.aload_n 0, 1) := by decide +kernel
theorem dX8_isLine_3 : decode cX8_isLine 3 = .ok (.getfield 106, 3) := by decide +kernel
theorem dX8_isLine_6 : decode cX8_isLine 6 = .ok (.aload_n 0, 1) := by decide +kernel
theorem dX8_isLine_7 : decode cX8_isLine 7 = .ok (.getfield 109, 3) := by decide +kernel
theorem dX8_isLine_10 : decode cX8_isLine 10 = .ok (.iadd, 1) := by decide +kernel
theorem dX8_isLine_11 : decode cX8_isLine 11 = .ok (.iconst 1, 1) := by decide +kernel
end
section
theorem dX8_isLine_12 : decode cX8_isLine 12 = .ok (.isub, 1) := by decide +kernel
theorem dX8_isLine_13 : decode cX8_isLine 13 = .ok (.invokestatic 38, 3) := by decide +kernel
theorem dX8_isLine_16 : decode cX8_isLine 16 = .ok (.ireturn, 1) := by decide +kernel
theorem dX8_line_0 : decode cX8_line 0 = .ok (.aload_n 0, 1) := by decide +kernel
theorem dX8_line_1 : decode cX8_line 1 = .ok (.iconst 0, 1) := by decide +kernel
theorem dX8_line_2 : decode cX8_line 2 = .ok (.putfield 35, 3) := by decide +kernel
theorem dX8_line_5 : decode cX8_line 5 = .ok (.aload_n 0, 1) := by decide +kernel
theorem dX8_line_6 : decode cX8_line 6 = .ok (.iload_n 1, 1) := by decide +kernel
theorem dX8_line_7 : decode cX8_line 7 = .ok (.invokevirtual 142, 3) := by decide +kernel
theorem dX8_line_10 : decode cX8_line 10 = .ok (.ifCond .eq 27, 3) := by decide +kernel
theorem dX8_line_13 : decode cX8_line 13 = .ok (.iload_n 2, 1) := by decide +kernel
theorem dX8_line_14 : decode cX8_line 14 = .ok (.iconst 0, 1) := by decide +kernel
theorem dX8_line_15 : decode cX8_line 15 = .ok (.bipush 6, 2) := by decide +kernel
theorem dX8_line_17 : decode cX8_line 17 = .ok (.invokestatic 38, 3) := by decide +kernel
theorem dX8_line_20 : decode cX8_line 20 = .ok (.ifCond .eq 17, 3) := by decide +kernel
theorem dX8_line_23 : decode cX8_line 23 = .ok (.aload_n 0, 1) := by decide +kernel
theorem dX8_line_24 : decode cX8_line 24 = .ok (.getfield 13, 3) := by decide +kernel
theorem dX8_line_27 : decode cX8_line 27 = .ok (.bipush 7, 2) := by decide +kernel
theorem dX8_line_29 : decode cX8_line 29 = .ok (.iload_n 1, 1) := by decide +kernel
theorem dX8_line_30 : decode cX8_line 30 = .ok (.imul, 1) := by decide +kernel
theorem dX8_line_31 : decode cX8_line 31 = .ok (.iload_n 2, 1) := by decide +kernel
theorem dX8_line_32 : decode cX8_line 32 = .ok (.iadd, 1) := by decide +kernel
theorem dX8_line_33 : decode cX8_line 33 = .ok (.iaload, 1) := by decide +kernel
theorem dX8_line_34 : decode cX8_line 34 = .ok (.goto 5, 3) := by decide +kernel
theorem dX8_line_37 : decode cX8_line 37 = .ok (.ldc 145, 2) := by decide +kernel
theorem dX8_line_39 : decode cX8_line 39 = .ok (.ireturn, 1) := by decide +kernel
theorem dX8_weighs_0 : decode cX8_weighs 0 = .ok (.iconst 0, 1) := by decide +kernel
theorem dX8_weighs_1 : decode cX8_weighs 1 = .ok (.istore_n 3, 1) := by decide +kernel
theorem dX8_weighs_2 : decode cX8_weighs 2 = .ok (.iconst 0, 1) := by decide +kernel
theorem dX8_weighs_3 : decode cX8_weighs 3 = .ok (.istore 4, 2) := by decide +kernel
theorem dX8_weighs_5 : decode cX8_weighs 5 = .ok (.iload 4, 2) := by decide +kernel
theorem dX8_weighs_7 : decode cX8_weighs 7 = .ok (.bipush 6, 2) := by decide +kernel
theorem dX8_weighs_9 : decode cX8_weighs 9 = .ok (.if_icmp .ge 60, 3) := by decide +kernel
theorem dX8_weighs_12 : decode cX8_weighs 12 = .ok (.aload_n 0, 1) := by decide +kernel
theorem dX8_weighs_13 : decode cX8_weighs 13 = .ok (.getfield 13, 3) := by decide +kernel
theorem dX8_weighs_16 : decode cX8_weighs 16 = .ok (.iload_n 1, 1) := by decide +kernel
theorem dX8_weighs_17 : decode cX8_weighs 17 = .ok (.iload 4, 2) := by decide +kernel
theorem dX8_weighs_19 : decode cX8_weighs 19 = .ok (.iadd, 1) := by decide +kernel
theorem dX8_weighs_20 : decode cX8_weighs 20 = .ok (.iaload, 1) := by decide +kernel
theorem dX8_weighs_21 : decode cX8_weighs 21 = .ok (.istore 5, 2) := by decide +kernel
theorem dX8_weighs_23 : decode cX8_weighs 23 = .ok (.iload_n 3, 1) := by decide +kernel
theorem dX8_weighs_24 : decode cX8_weighs 24 = .ok (.iload 5, 2) := by decide +kernel
theorem dX8_weighs_26 : decode cX8_weighs 26 = .ok (.ifCond .le 7, 3) := by decide +kernel
theorem dX8_weighs_29 : decode cX8_weighs 29 = .ok (.iconst 1, 1) := by decide +kernel
theorem dX8_weighs_30 : decode cX8_weighs 30 = .ok (.goto 4, 3) := by decide +kernel
theorem dX8_weighs_33 : decode cX8_weighs 33 = .ok (.iconst 0, 1) := by decide +kernel
theorem dX8_weighs_34 : decode cX8_weighs 34 = .ok (.iload_n 2, 1) := by decide +kernel
theorem dX8_weighs_35 : decode cX8_weighs 35 = .ok (.iload 4, 2) := by decide +kernel
theorem dX8_weighs_37 : decode cX8_weighs 37 = .ok (.ishr, 1) := by decide +kernel
theorem dX8_weighs_38 : decode cX8_weighs 38 = .ok (.iconst 1, 1) := by decide +kernel
theorem dX8_weighs_39 : decode cX8_weighs 39 = .ok (.iand, 1) := by decide +kernel
theorem dX8_weighs_40 : decode cX8_weighs 40 = .ok (.iconst 1, 1) := by decide +kernel
theorem dX8_weighs_41 : decode cX8_weighs 41 = .ok (.if_icmp .ne 7, 3) := by decide +kernel
theorem dX8_weighs_44 : decode cX8_weighs 44 = .ok (.iconst 1, 1) := by decide +kernel
theorem dX8_weighs_45 : decode cX8_weighs 45 = .ok (.goto 4, 3) := by decide +kernel
theorem dX8_weighs_48 : decode cX8_weighs 48 = .ok (.iconst 0, 1) := by decide +kernel
theorem dX8_weighs_49 : decode cX8_weighs 49 = .ok (.if_icmp .ne 11, 3) := by decide +kernel
theorem dX8_weighs_52 : decode cX8_weighs 52 = .ok (.iload 5, 2) := by decide +kernel
theorem dX8_weighs_54 : decode cX8_weighs 54 = .ok (.invokestatic 119, 3) := by decide +kernel
theorem dX8_weighs_57 : decode cX8_weighs 57 = .ok (.goto 4, 3) := by decide +kernel
theorem dX8_weighs_60 : decode cX8_weighs 60 = .ok (.iconst 0, 1) := by decide +kernel
theorem dX8_weighs_61 : decode cX8_weighs 61 = .ok (.iadd, 1) := by decide +kernel
theorem dX8_weighs_62 : decode cX8_weighs 62 = .ok (.istore_n 3, 1) := by decide +kernel
theorem dX8_weighs_63 : decode cX8_weighs 63 = .ok (.iinc 4 1, 3) := by decide +kernel
theorem dX8_weighs_66 : decode cX8_weighs 66 = .ok (.goto (-61), 3) := by decide +kernel
theorem dX8_weighs_69 : decode cX8_weighs 69 = .ok (.iload_n 3, 1) := by decide +kernel
theorem dX8_weighs_70 : decode cX8_weighs 70 = .ok (.ireturn, 1) := by decide +kernel
theorem dX8_isHeld_0 : decode cX8_isHeld 0 = .ok (.aload_n 0, 1) := by decide +kernel
theorem dX8_isHeld_1 : decode cX8_isHeld 1 = .ok (.bipush 7, 2) := by decide +kernel
theorem dX8_isHeld_3 : decode cX8_isHeld 3 = .ok (.iload_n 1, 1) := by decide +kernel
theorem dX8_isHeld_4 : decode cX8_isHeld 4 = .ok (.imul, 1) := by decide +kernel
theorem dX8_isHeld_5 : decode cX8_isHeld 5 = .ok (.iload_n 2, 1) := by decide +kernel
theorem dX8_isHeld_6 : decode cX8_isHeld 6 = .ok (.invokevirtual 146, 3) := by decide +kernel
theorem dX8_isHeld_9 : decode cX8_isHeld 9 = .ok (.aload_n 0, 1) := by decide +kernel
theorem dX8_isHeld_10 : decode cX8_isHeld 10 = .ok (.getfield 13, 3) := by decide +kernel
theorem dX8_isHeld_13 : decode cX8_isHeld 13 = .ok (.bipush 7, 2) := by decide +kernel
theorem dX8_isHeld_15 : decode cX8_isHeld 15 = .ok (.iload_n 1, 1) := by decide +kernel
theorem dX8_isHeld_16 : decode cX8_isHeld 16 = .ok (.imul, 1) := by decide +kernel
theorem dX8_isHeld_17 : decode cX8_isHeld 17 = .ok (.bipush 6, 2) := by decide +kernel
theorem dX8_isHeld_19 : decode cX8_isHeld 19 = .ok (.iadd, 1) := by decide +kernel
theorem dX8_isHeld_20 : decode cX8_isHeld 20 = .ok (.iaload, 1) := by decide +kernel
theorem dX8_isHeld_21 : decode cX8_isHeld 21 = .ok (.if_icmp .lt 7, 3) := by decide +kernel
theorem dX8_isHeld_24 : decode cX8_isHeld 24 = .ok (.iconst 1, 1) := by decide +kernel
theorem dX8_isHeld_25 : decode cX8_isHeld 25 = .ok (.goto 4, 3) := by decide +kernel
theorem dX8_isHeld_28 : decode cX8_isHeld 28 = .ok (.iconst 0, 1) := by decide +kernel
theorem dX8_isHeld_29 : decode cX8_isHeld 29 = .ok (.ireturn, 1) := by decide +kernel
theorem dX8_held_0 : decode cX8_held 0 = .ok (.lconst 0, 1) := by decide +kernel
theorem dX8_held_1 : decode cX8_held 1 = .ok (.lstore_n 2, 1) := by decide +kernel
theorem dX8_held_2 : decode cX8_held 2 = .ok (.iconst 0, 1) := by decide +kernel
theorem dX8_held_3 : decode cX8_held 3 = .ok (.istore 4, 2) := by decide +kernel
theorem dX8_held_5 : decode cX8_held 5 = .ok (.iload 4, 2) := by decide +kernel
theorem dX8_held_7 : decode cX8_held 7 = .ok (.bipush 64, 2) := by decide +kernel
theorem dX8_held_9 : decode cX8_held 9 = .ok (.if_icmp .ge 30, 3) := by decide +kernel
theorem dX8_held_12 : decode cX8_held 12 = .ok (.lload_n 2, 1) := by decide +kernel
theorem dX8_held_13 : decode cX8_held 13 = .ok (.aload_n 0, 1) := by decide +kernel
theorem dX8_held_14 : decode cX8_held 14 = .ok (.iload_n 1, 1) := by decide +kernel
theorem dX8_held_15 : decode cX8_held 15 = .ok (.iload 4, 2) := by decide +kernel
theorem dX8_held_17 : decode cX8_held 17 = .ok (.invokevirtual 149, 3) := by decide +kernel
theorem dX8_held_20 : decode cX8_held 20 = .ok (.ifCond .eq 10, 3) := by decide +kernel
theorem dX8_held_23 : decode cX8_held 23 = .ok (.lconst 1, 1) := by decide +kernel
theorem dX8_held_24 : decode cX8_held 24 = .ok (.iload 4, 2) := by decide +kernel
theorem dX8_held_26 : decode cX8_held 26 = .ok (.lshl, 1) := by decide +kernel
theorem dX8_held_27 : decode cX8_held 27 = .ok (.goto 4, 3) := by decide +kernel
theorem dX8_held_30 : decode cX8_held 30 = .ok (.lconst 0, 1) := by decide +kernel
theorem dX8_held_31 : decode cX8_held 31 = .ok (.lor, 1) := by decide +kernel
theorem dX8_held_32 : decode cX8_held 32 = .ok (.lstore_n 2, 1) := by decide +kernel
theorem dX8_held_33 : decode cX8_held 33 = .ok (.iinc 4 1, 3) := by decide +kernel
theorem dX8_held_36 : decode cX8_held 36 = .ok (.goto (-31), 3) := by decide +kernel
theorem dX8_held_39 : decode cX8_held 39 = .ok (.lload_n 2, 1) := by decide +kernel
theorem dX8_held_40 : decode cX8_held 40 = .ok (.lreturn, 1) := by decide +kernel
theorem dX8_holds_0 : decode cX8_holds 0 = .ok (.aload_n 0, 1) := by decide +kernel
theorem dX8_holds_1 : decode cX8_holds 1 = .ok (.iconst 0, 1) := by decide +kernel
theorem dX8_holds_2 : decode cX8_holds 2 = .ok (.putfield 35, 3) := by decide +kernel
theorem dX8_holds_5 : decode cX8_holds 5 = .ok (.aload_n 0, 1) := by decide +kernel
theorem dX8_holds_6 : decode cX8_holds 6 = .ok (.iload_n 1, 1) := by decide +kernel
theorem dX8_holds_7 : decode cX8_holds 7 = .ok (.invokevirtual 142, 3) := by decide +kernel
theorem dX8_holds_10 : decode cX8_holds 10 = .ok (.ifCond .eq 11, 3) := by decide +kernel
theorem dX8_holds_13 : decode cX8_holds 13 = .ok (.aload_n 0, 1) := by decide +kernel
theorem dX8_holds_14 : decode cX8_holds 14 = .ok (.iload_n 1, 1) := by decide +kernel
theorem dX8_holds_15 : decode cX8_holds 15 = .ok (.invokevirtual 153, 3) := by decide +kernel
theorem dX8_holds_18 : decode cX8_holds 18 = .ok (.goto 4, 3) := by decide +kernel
theorem dX8_holds_21 : decode cX8_holds 21 = .ok (.lconst 0, 1) := by decide +kernel
theorem dX8_holds_22 : decode cX8_holds 22 = .ok (.lreturn, 1) := by decide +kernel
theorem dX8_isBroken_0 : decode cX8_isBroken 0 = .ok (.aload_n 0, 1) := by decide +kernel
theorem dX8_isBroken_1 : decode cX8_isBroken 1 = .ok (.bipush 7, 2) := by decide +kernel
theorem dX8_isBroken_3 : decode cX8_isBroken 3 = .ok (.iload_n 1, 1) := by decide +kernel
theorem dX8_isBroken_4 : decode cX8_isBroken 4 = .ok (.imul, 1) := by decide +kernel
theorem dX8_isBroken_5 : decode cX8_isBroken 5 = .ok (.invokevirtual 123, 3) := by decide +kernel
theorem dX8_isBroken_8 : decode cX8_isBroken 8 = .ok (.aload_n 0, 1) := by decide +kernel
theorem dX8_isBroken_9 : decode cX8_isBroken 9 = .ok (.getfield 13, 3) := by decide +kernel
theorem dX8_isBroken_12 : decode cX8_isBroken 12 = .ok (.bipush 7, 2) := by decide +kernel
theorem dX8_isBroken_14 : decode cX8_isBroken 14 = .ok (.iload_n 1, 1) := by decide +kernel
theorem dX8_isBroken_15 : decode cX8_isBroken 15 = .ok (.imul, 1) := by decide +kernel
theorem dX8_isBroken_16 : decode cX8_isBroken 16 = .ok (.bipush 6, 2) := by decide +kernel
theorem dX8_isBroken_18 : decode cX8_isBroken 18 = .ok (.iadd, 1) := by decide +kernel
theorem dX8_isBroken_19 : decode cX8_isBroken 19 = .ok (.iaload, 1) := by decide +kernel
theorem dX8_isBroken_20 : decode cX8_isBroken 20 = .ok (.if_icmp .ge 7, 3) := by decide +kernel
theorem dX8_isBroken_23 : decode cX8_isBroken 23 = .ok (.iconst 1, 1) := by decide +kernel
theorem dX8_isBroken_24 : decode cX8_isBroken 24 = .ok (.goto 4, 3) := by decide +kernel
theorem dX8_isBroken_27 : decode cX8_isBroken 27 = .ok (.iconst 0, 1) := by decide +kernel
theorem dX8_isBroken_28 : decode cX8_isBroken 28 = .ok (.ireturn, 1) := by decide +kernel
theorem dX8_broken_0 : decode cX8_broken 0 = .ok (.aload_n 0, 1) := by decide +kernel
theorem dX8_broken_1 : decode cX8_broken 1 = .ok (.iconst 0, 1) := by decide +kernel
theorem dX8_broken_2 : decode cX8_broken 2 = .ok (.putfield 35, 3) := by decide +kernel
theorem dX8_broken_5 : decode cX8_broken 5 = .ok (.aload_n 0, 1) := by decide +kernel
theorem dX8_broken_6 : decode cX8_broken 6 = .ok (.iload_n 1, 1) := by decide +kernel
theorem dX8_broken_7 : decode cX8_broken 7 = .ok (.invokevirtual 142, 3) := by decide +kernel
theorem dX8_broken_10 : decode cX8_broken 10 = .ok (.ifCond .ne 7, 3) := by decide +kernel
theorem dX8_broken_13 : decode cX8_broken 13 = .ok (.iconst (-1), 1) := by decide +kernel
theorem dX8_broken_14 : decode cX8_broken 14 = .ok (.goto 16, 3) := by decide +kernel
theorem dX8_broken_17 : decode cX8_broken 17 = .ok (.aload_n 0, 1) := by decide +kernel
theorem dX8_broken_18 : decode cX8_broken 18 = .ok (.iload_n 1, 1) := by decide +kernel
theorem dX8_broken_19 : decode cX8_broken 19 = .ok (.invokevirtual 157, 3) := by decide +kernel
theorem dX8_broken_22 : decode cX8_broken 22 = .ok (.ifCond .eq 7, 3) := by decide +kernel
theorem dX8_broken_25 : decode cX8_broken 25 = .ok (.iconst 1, 1) := by decide +kernel
theorem dX8_broken_26 : decode cX8_broken 26 = .ok (.goto 4, 3) := by decide +kernel
theorem dX8_broken_29 : decode cX8_broken 29 = .ok (.iconst 0, 1) := by decide +kernel
theorem dX8_broken_30 : decode cX8_broken 30 = .ok (.ireturn, 1) := by decide +kernel
theorem dX8_end_0 : decode cX8_end 0 = .ok (.aload_n 0, 1) := by decide +kernel
theorem dX8_end_1 : decode cX8_end 1 = .ok (.iconst 0, 1) := by decide +kernel
theorem dX8_end_2 : decode cX8_end 2 = .ok (.putfield 35, 3) := by decide +kernel
theorem dX8_end_5 : decode cX8_end 5 = .ok (.iconst 0, 1) := by decide +kernel
theorem dX8_end_6 : decode cX8_end 6 = .ok (.istore_n 1, 1) := by decide +kernel
theorem dX8_end_7 : decode cX8_end 7 = .ok (.iload_n 1, 1) := by decide +kernel
theorem dX8_end_8 : decode cX8_end 8 = .ok (.aload_n 0, 1) := by decide +kernel
theorem dX8_end_9 : decode cX8_end 9 = .ok (.getfield 106, 3) := by decide +kernel
theorem dX8_end_12 : decode cX8_end 12 = .ok (.aload_n 0, 1) := by decide +kernel
theorem dX8_end_13 : decode cX8_end 13 = .ok (.getfield 109, 3) := by decide +kernel
theorem dX8_end_16 : decode cX8_end 16 = .ok (.iadd, 1) := by decide +kernel
theorem dX8_end_17 : decode cX8_end 17 = .ok (.if_icmp .ge 19, 3) := by decide +kernel
theorem dX8_end_20 : decode cX8_end 20 = .ok (.aload_n 0, 1) := by decide +kernel
theorem dX8_end_21 : decode cX8_end 21 = .ok (.iload_n 1, 1) := by decide +kernel
theorem dX8_end_22 : decode cX8_end 22 = .ok (.invokevirtual 157, 3) := by decide +kernel
theorem dX8_end_25 : decode cX8_end 25 = .ok (.ifCond .eq 5, 3) := by decide +kernel
theorem dX8_end_28 : decode cX8_end 28 = .ok (.iload_n 1, 1) := by decide +kernel
theorem dX8_end_29 : decode cX8_end 29 = .ok (.ireturn, 1) := by decide +kernel
theorem dX8_end_30 : decode cX8_end 30 = .ok (.iinc 1 1, 3) := by decide +kernel
theorem dX8_end_33 : decode cX8_end 33 = .ok (.goto (-26), 3) := by decide +kernel
theorem dX8_end_36 : decode cX8_end 36 = .ok (.bipush (-9), 2) := by decide +kernel
theorem dX8_end_38 : decode cX8_end 38 = .ok (.ireturn, 1) := by decide +kernel
theorem dX8_both_0 : decode cX8_both 0 = .ok (.aload_n 0, 1) := by decide +kernel
theorem dX8_both_1 : decode cX8_both 1 = .ok (.iconst 0, 1) := by decide +kernel
theorem dX8_both_2 : decode cX8_both 2 = .ok (.putfield 35, 3) := by decide +kernel
theorem dX8_both_5 : decode cX8_both 5 = .ok (.aload_n 0, 1) := by decide +kernel
theorem dX8_both_6 : decode cX8_both 6 = .ok (.iload_n 1, 1) := by decide +kernel
theorem dX8_both_7 : decode cX8_both 7 = .ok (.invokevirtual 142, 3) := by decide +kernel
theorem dX8_both_10 : decode cX8_both 10 = .ok (.ifCond .eq 20, 3) := by decide +kernel
theorem dX8_both_13 : decode cX8_both 13 = .ok (.aload_n 0, 1) := by decide +kernel
theorem dX8_both_14 : decode cX8_both 14 = .ok (.iload_n 2, 1) := by decide +kernel
theorem dX8_both_15 : decode cX8_both 15 = .ok (.invokevirtual 142, 3) := by decide +kernel
theorem dX8_both_18 : decode cX8_both 18 = .ok (.ifCond .eq 12, 3) := by decide +kernel
theorem dX8_both_21 : decode cX8_both 21 = .ok (.iload_n 3, 1) := by decide +kernel
theorem dX8_both_22 : decode cX8_both 22 = .ok (.iconst 0, 1) := by decide +kernel
theorem dX8_both_23 : decode cX8_both 23 = .ok (.iconst 1, 1) := by decide +kernel
theorem dX8_both_24 : decode cX8_both 24 = .ok (.invokestatic 38, 3) := by decide +kernel
theorem dX8_both_27 : decode cX8_both 27 = .ok (.ifCond .ne 5, 3) := by decide +kernel
theorem dX8_both_30 : decode cX8_both 30 = .ok (.iconst (-1), 1) := by decide +kernel
theorem dX8_both_31 : decode cX8_both 31 = .ok (.ireturn, 1) := by decide +kernel
theorem dX8_both_32 : decode cX8_both 32 = .ok (.aload_n 0, 1) := by decide +kernel
theorem dX8_both_33 : decode cX8_both 33 = .ok (.iload_n 1, 1) := by decide +kernel
theorem dX8_both_34 : decode cX8_both 34 = .ok (.invokevirtual 153, 3) := by decide +kernel
theorem dX8_both_37 : decode cX8_both 37 = .ok (.lstore 4, 2) := by decide +kernel
theorem dX8_both_39 : decode cX8_both 39 = .ok (.aload_n 0, 1) := by decide +kernel
theorem dX8_both_40 : decode cX8_both 40 = .ok (.iload_n 2, 1) := by decide +kernel
theorem dX8_both_41 : decode cX8_both 41 = .ok (.invokevirtual 153, 3) := by decide +kernel
theorem dX8_both_44 : decode cX8_both 44 = .ok (.lstore 6, 2) := by decide +kernel
theorem dX8_both_46 : decode cX8_both 46 = .ok (.iload_n 3, 1) := by decide +kernel
theorem dX8_both_47 : decode cX8_both 47 = .ok (.ifCond .ne 14, 3) := by decide +kernel
theorem dX8_both_50 : decode cX8_both 50 = .ok (.lload 4, 2) := by decide +kernel
theorem dX8_both_52 : decode cX8_both 52 = .ok (.lload 6, 2) := by decide +kernel
theorem dX8_both_54 : decode cX8_both 54 = .ok (.lcmp, 1) := by decide +kernel
theorem dX8_both_55 : decode cX8_both 55 = .ok (.ifCond .ne 24, 3) := by decide +kernel
theorem dX8_both_58 : decode cX8_both 58 = .ok (.goto 17, 3) := by decide +kernel
theorem dX8_both_61 : decode cX8_both 61 = .ok (.lload 4, 2) := by decide +kernel
theorem dX8_both_63 : decode cX8_both 63 = .ok (.lload 6, 2) := by decide +kernel
theorem dX8_both_65 : decode cX8_both 65 = .ok (.ldc2_w 160, 3) := by decide +kernel
theorem dX8_both_68 : decode cX8_both 68 = .ok (.lxor, 1) := by decide +kernel
theorem dX8_both_69 : decode cX8_both 69 = .ok (.land, 1) := by decide +kernel
theorem dX8_both_70 : decode cX8_both 70 = .ok (.lconst 0, 1) := by decide +kernel
theorem dX8_both_71 : decode cX8_both 71 = .ok (.lcmp, 1) := by decide +kernel
theorem dX8_both_72 : decode cX8_both 72 = .ok (.ifCond .ne 7, 3) := by decide +kernel
theorem dX8_both_75 : decode cX8_both 75 = .ok (.iconst 1, 1) := by decide +kernel
theorem dX8_both_76 : decode cX8_both 76 = .ok (.goto 4, 3) := by decide +kernel
theorem dX8_both_79 : decode cX8_both 79 = .ok (.iconst 0, 1) := by decide +kernel
theorem dX8_both_80 : decode cX8_both 80 = .ok (.ireturn, 1) := by decide +kernel
theorem dX8_clashes_0 : decode cX8_clashes 0 = .ok (.aload_n 0, 1) := by decide +kernel
theorem dX8_clashes_1 : decode cX8_clashes 1 = .ok (.iload_n 2, 1) := by decide +kernel
theorem dX8_clashes_2 : decode cX8_clashes 2 = .ok (.putfield 162, 3) := by decide +kernel
theorem dX8_clashes_5 : decode cX8_clashes 5 = .ok (.aload_n 0, 1) := by decide +kernel
theorem dX8_clashes_6 : decode cX8_clashes 6 = .ok (.iload_n 3, 1) := by decide +kernel
theorem dX8_clashes_7 : decode cX8_clashes 7 = .ok (.putfield 165, 3) := by decide +kernel
theorem dX8_clashes_10 : decode cX8_clashes 10 = .ok (.iconst 1, 1) := by decide +kernel
theorem dX8_clashes_11 : decode cX8_clashes 11 = .ok (.istore 4, 2) := by decide +kernel
theorem dX8_clashes_13 : decode cX8_clashes 13 = .ok (.iload 4, 2) := by decide +kernel
theorem dX8_clashes_15 : decode cX8_clashes 15 = .ok (.ifCond .eq 224, 3) := by decide +kernel
theorem dX8_clashes_18 : decode cX8_clashes 18 = .ok (.iconst 0, 1) := by decide +kernel
theorem dX8_clashes_19 : decode cX8_clashes 19 = .ok (.istore 4, 2) := by decide +kernel
theorem dX8_clashes_21 : decode cX8_clashes 21 = .ok (.iconst 0, 1) := by decide +kernel
theorem dX8_clashes_22 : decode cX8_clashes 22 = .ok (.istore 5, 2) := by decide +kernel
theorem dX8_clashes_24 : decode cX8_clashes 24 = .ok (.iload 5, 2) := by decide +kernel
theorem dX8_clashes_26 : decode cX8_clashes 26 = .ok (.iload_n 1, 1) := by decide +kernel
theorem dX8_clashes_27 : decode cX8_clashes 27 = .ok (.if_icmp .ge 209, 3) := by decide +kernel
theorem dX8_clashes_30 : decode cX8_clashes 30 = .ok (.bipush 7, 2) := by decide +kernel
theorem dX8_clashes_32 : decode cX8_clashes 32 = .ok (.iload 5, 2) := by decide +kernel
theorem dX8_clashes_34 : decode cX8_clashes 34 = .ok (.imul, 1) := by decide +kernel
theorem dX8_clashes_35 : decode cX8_clashes 35 = .ok (.istore 6, 2) := by decide +kernel
theorem dX8_clashes_37 : decode cX8_clashes 37 = .ok (.aload_n 0, 1) := by decide +kernel
theorem dX8_clashes_38 : decode cX8_clashes 38 = .ok (.getfield 13, 3) := by decide +kernel
theorem dX8_clashes_41 : decode cX8_clashes 41 = .ok (.iload 6, 2) := by decide +kernel
theorem dX8_clashes_43 : decode cX8_clashes 43 = .ok (.bipush 6, 2) := by decide +kernel
theorem dX8_clashes_45 : decode cX8_clashes 45 = .ok (.iadd, 1) := by decide +kernel
theorem dX8_clashes_46 : decode cX8_clashes 46 = .ok (.iaload, 1) := by decide +kernel
theorem dX8_clashes_47 : decode cX8_clashes 47 = .ok (.ineg, 1) := by decide +kernel
theorem dX8_clashes_48 : decode cX8_clashes 48 = .ok (.istore 7, 2) := by decide +kernel
theorem dX8_clashes_50 : decode cX8_clashes 50 = .ok (.iconst 0, 1) := by decide +kernel
theorem dX8_clashes_51 : decode cX8_clashes 51 = .ok (.istore 8, 2) := by decide +kernel
theorem dX8_clashes_53 : decode cX8_clashes 53 = .ok (.iload 8, 2) := by decide +kernel
theorem dX8_clashes_55 : decode cX8_clashes 55 = .ok (.bipush 6, 2) := by decide +kernel
theorem dX8_clashes_57 : decode cX8_clashes 57 = .ok (.if_icmp .ge 64, 3) := by decide +kernel
theorem dX8_clashes_60 : decode cX8_clashes 60 = .ok (.aload_n 0, 1) := by decide +kernel
theorem dX8_clashes_61 : decode cX8_clashes 61 = .ok (.getfield 13, 3) := by decide +kernel
theorem dX8_clashes_64 : decode cX8_clashes 64 = .ok (.iload 6, 2) := by decide +kernel
theorem dX8_clashes_66 : decode cX8_clashes 66 = .ok (.iload 8, 2) := by decide +kernel
theorem dX8_clashes_68 : decode cX8_clashes 68 = .ok (.iadd, 1) := by decide +kernel
theorem dX8_clashes_69 : decode cX8_clashes 69 = .ok (.iaload, 1) := by decide +kernel
theorem dX8_clashes_70 : decode cX8_clashes 70 = .ok (.istore 9, 2) := by decide +kernel
theorem dX8_clashes_72 : decode cX8_clashes 72 = .ok (.iload 9, 2) := by decide +kernel
theorem dX8_clashes_74 : decode cX8_clashes 74 = .ok (.ifCond .le 10, 3) := by decide +kernel
theorem dX8_clashes_77 : decode cX8_clashes 77 = .ok (.aload_n 0, 1) := by decide +kernel
theorem dX8_clashes_78 : decode cX8_clashes 78 = .ok (.getfield 165, 3) := by decide +kernel
theorem dX8_clashes_81 : decode cX8_clashes 81 = .ok (.goto 7, 3) := by decide +kernel
theorem dX8_clashes_84 : decode cX8_clashes 84 = .ok (.aload_n 0, 1) := by decide +kernel
theorem dX8_clashes_85 : decode cX8_clashes 85 = .ok (.getfield 162, 3) := by decide +kernel
theorem dX8_clashes_88 : decode cX8_clashes 88 = .ok (.istore 10, 2) := by decide +kernel
theorem dX8_clashes_90 : decode cX8_clashes 90 = .ok (.iload 7, 2) := by decide +kernel
theorem dX8_clashes_92 : decode cX8_clashes 92 = .ok (.iload 10, 2) := by decide +kernel
theorem dX8_clashes_94 : decode cX8_clashes 94 = .ok (.iload 8, 2) := by decide +kernel
theorem dX8_clashes_96 : decode cX8_clashes 96 = .ok (.ishr, 1) := by decide +kernel
theorem dX8_clashes_97 : decode cX8_clashes 97 = .ok (.iconst 1, 1) := by decide +kernel
theorem dX8_clashes_98 : decode cX8_clashes 98 = .ok (.iand, 1) := by decide +kernel
theorem dX8_clashes_99 : decode cX8_clashes 99 = .ok (.iconst 1, 1) := by decide +kernel
theorem dX8_clashes_100 : decode cX8_clashes 100 = .ok (.if_icmp .ne 7, 3) := by decide +kernel
theorem dX8_clashes_103 : decode cX8_clashes 103 = .ok (.iconst 0, 1) := by decide +kernel
theorem dX8_clashes_104 : decode cX8_clashes 104 = .ok (.goto 8, 3) := by decide +kernel
theorem dX8_clashes_107 : decode cX8_clashes 107 = .ok (.iload 9, 2) := by decide +kernel
theorem dX8_clashes_109 : decode cX8_clashes 109 = .ok (.invokestatic 119, 3) := by decide +kernel
theorem dX8_clashes_112 : decode cX8_clashes 112 = .ok (.iadd, 1) := by decide +kernel
theorem dX8_clashes_113 : decode cX8_clashes 113 = .ok (.istore 7, 2) := by decide +kernel
theorem dX8_clashes_115 : decode cX8_clashes 115 = .ok (.iinc 8 1, 3) := by decide +kernel
theorem dX8_clashes_118 : decode cX8_clashes 118 = .ok (.goto (-65), 3) := by decide +kernel
theorem dX8_clashes_121 : decode cX8_clashes 121 = .ok (.iload 7, 2) := by decide +kernel
theorem dX8_clashes_123 : decode cX8_clashes 123 = .ok (.ifCond .ge 5, 3) := by decide +kernel
theorem dX8_clashes_126 : decode cX8_clashes 126 = .ok (.iconst 1, 1) := by decide +kernel
theorem dX8_clashes_127 : decode cX8_clashes 127 = .ok (.ireturn, 1) := by decide +kernel
theorem dX8_clashes_128 : decode cX8_clashes 128 = .ok (.iconst 0, 1) := by decide +kernel
theorem dX8_clashes_129 : decode cX8_clashes 129 = .ok (.istore 8, 2) := by decide +kernel
theorem dX8_clashes_131 : decode cX8_clashes 131 = .ok (.iload 8, 2) := by decide +kernel
theorem dX8_clashes_133 : decode cX8_clashes 133 = .ok (.bipush 6, 2) := by decide +kernel
theorem dX8_clashes_135 : decode cX8_clashes 135 = .ok (.if_icmp .ge 95, 3) := by decide +kernel
theorem dX8_clashes_138 : decode cX8_clashes 138 = .ok (.aload_n 0, 1) := by decide +kernel
theorem dX8_clashes_139 : decode cX8_clashes 139 = .ok (.getfield 13, 3) := by decide +kernel
theorem dX8_clashes_142 : decode cX8_clashes 142 = .ok (.iload 6, 2) := by decide +kernel
theorem dX8_clashes_144 : decode cX8_clashes 144 = .ok (.iload 8, 2) := by decide +kernel
theorem dX8_clashes_146 : decode cX8_clashes 146 = .ok (.iadd, 1) := by decide +kernel
theorem dX8_clashes_147 : decode cX8_clashes 147 = .ok (.iaload, 1) := by decide +kernel
theorem dX8_clashes_148 : decode cX8_clashes 148 = .ok (.istore 9, 2) := by decide +kernel
theorem dX8_clashes_150 : decode cX8_clashes 150 = .ok (.aload_n 0, 1) := by decide +kernel
theorem dX8_clashes_151 : decode cX8_clashes 151 = .ok (.getfield 162, 3) := by decide +kernel
theorem dX8_clashes_154 : decode cX8_clashes 154 = .ok (.aload_n 0, 1) := by decide +kernel
theorem dX8_clashes_155 : decode cX8_clashes 155 = .ok (.getfield 165, 3) := by decide +kernel
theorem dX8_clashes_158 : decode cX8_clashes 158 = .ok (.ior, 1) := by decide +kernel
theorem dX8_clashes_159 : decode cX8_clashes 159 = .ok (.iload 8, 2) := by decide +kernel
theorem dX8_clashes_161 : decode cX8_clashes 161 = .ok (.ishr, 1) := by decide +kernel
theorem dX8_clashes_162 : decode cX8_clashes 162 = .ok (.iconst 1, 1) := by decide +kernel
theorem dX8_clashes_163 : decode cX8_clashes 163 = .ok (.iand, 1) := by decide +kernel
theorem dX8_clashes_164 : decode cX8_clashes 164 = .ok (.ifCond .ne 60, 3) := by decide +kernel
theorem dX8_clashes_167 : decode cX8_clashes 167 = .ok (.iload 9, 2) := by decide +kernel
theorem dX8_clashes_169 : decode cX8_clashes 169 = .ok (.invokestatic 119, 3) := by decide +kernel
theorem dX8_clashes_172 : decode cX8_clashes 172 = .ok (.iload 7, 2) := by decide +kernel
theorem dX8_clashes_174 : decode cX8_clashes 174 = .ok (.if_icmp .le 50, 3) := by decide +kernel
theorem dX8_clashes_177 : decode cX8_clashes 177 = .ok (.aload_n 0, 1) := by decide +kernel
theorem dX8_clashes_178 : decode cX8_clashes 178 = .ok (.dup, 1) := by decide +kernel
theorem dX8_clashes_179 : decode cX8_clashes 179 = .ok (.getfield 162, 3) := by decide +kernel
theorem dX8_clashes_182 : decode cX8_clashes 182 = .ok (.iload 9, 2) := by decide +kernel
theorem dX8_clashes_184 : decode cX8_clashes 184 = .ok (.ifCond .le 10, 3) := by decide +kernel
theorem dX8_clashes_187 : decode cX8_clashes 187 = .ok (.iconst 1, 1) := by decide +kernel
theorem dX8_clashes_188 : decode cX8_clashes 188 = .ok (.iload 8, 2) := by decide +kernel
theorem dX8_clashes_190 : decode cX8_clashes 190 = .ok (.ishl, 1) := by decide +kernel
theorem dX8_clashes_191 : decode cX8_clashes 191 = .ok (.goto 4, 3) := by decide +kernel
theorem dX8_clashes_194 : decode cX8_clashes 194 = .ok (.iconst 0, 1) := by decide +kernel
theorem dX8_clashes_195 : decode cX8_clashes 195 = .ok (.ior, 1) := by decide +kernel
theorem dX8_clashes_196 : decode cX8_clashes 196 = .ok (.putfield 162, 3) := by decide +kernel
theorem dX8_clashes_199 : decode cX8_clashes 199 = .ok (.aload_n 0, 1) := by decide +kernel
theorem dX8_clashes_200 : decode cX8_clashes 200 = .ok (.dup, 1) := by decide +kernel
theorem dX8_clashes_201 : decode cX8_clashes 201 = .ok (.getfield 165, 3) := by decide +kernel
theorem dX8_clashes_204 : decode cX8_clashes 204 = .ok (.iload 9, 2) := by decide +kernel
theorem dX8_clashes_206 : decode cX8_clashes 206 = .ok (.ifCond .ge 10, 3) := by decide +kernel
theorem dX8_clashes_209 : decode cX8_clashes 209 = .ok (.iconst 1, 1) := by decide +kernel
theorem dX8_clashes_210 : decode cX8_clashes 210 = .ok (.iload 8, 2) := by decide +kernel
theorem dX8_clashes_212 : decode cX8_clashes 212 = .ok (.ishl, 1) := by decide +kernel
theorem dX8_clashes_213 : decode cX8_clashes 213 = .ok (.goto 4, 3) := by decide +kernel
theorem dX8_clashes_216 : decode cX8_clashes 216 = .ok (.iconst 0, 1) := by decide +kernel
theorem dX8_clashes_217 : decode cX8_clashes 217 = .ok (.ior, 1) := by decide +kernel
theorem dX8_clashes_218 : decode cX8_clashes 218 = .ok (.putfield 165, 3) := by decide +kernel
theorem dX8_clashes_221 : decode cX8_clashes 221 = .ok (.iconst 1, 1) := by decide +kernel
theorem dX8_clashes_222 : decode cX8_clashes 222 = .ok (.istore 4, 2) := by decide +kernel
theorem dX8_clashes_224 : decode cX8_clashes 224 = .ok (.iinc 8 1, 3) := by decide +kernel
theorem dX8_clashes_227 : decode cX8_clashes 227 = .ok (.goto (-96), 3) := by decide +kernel
theorem dX8_clashes_230 : decode cX8_clashes 230 = .ok (.iinc 5 1, 3) := by decide +kernel
theorem dX8_clashes_233 : decode cX8_clashes 233 = .ok (.goto (-209), 3) := by decide +kernel
theorem dX8_clashes_236 : decode cX8_clashes 236 = .ok (.goto (-223), 3) := by decide +kernel
theorem dX8_clashes_239 : decode cX8_clashes 239 = .ok (.iconst 0, 1) := by decide +kernel
theorem dX8_clashes_240 : decode cX8_clashes 240 = .ok (.ireturn, 1) := by decide +kernel
theorem dX8_forced_0 : decode cX8_forced 0 = .ok (.aload_n 0, 1) := by decide +kernel
theorem dX8_forced_1 : decode cX8_forced 1 = .ok (.iconst 0, 1) := by decide +kernel
theorem dX8_forced_2 : decode cX8_forced 2 = .ok (.putfield 35, 3) := by decide +kernel
theorem dX8_forced_5 : decode cX8_forced 5 = .ok (.iload_n 1, 1) := by decide +kernel
theorem dX8_forced_6 : decode cX8_forced 6 = .ok (.iconst 0, 1) := by decide +kernel
theorem dX8_forced_7 : decode cX8_forced 7 = .ok (.aload_n 0, 1) := by decide +kernel
theorem dX8_forced_8 : decode cX8_forced 8 = .ok (.getfield 106, 3) := by decide +kernel
theorem dX8_forced_11 : decode cX8_forced 11 = .ok (.aload_n 0, 1) := by decide +kernel
theorem dX8_forced_12 : decode cX8_forced 12 = .ok (.getfield 109, 3) := by decide +kernel
theorem dX8_forced_15 : decode cX8_forced 15 = .ok (.iadd, 1) := by decide +kernel
theorem dX8_forced_16 : decode cX8_forced 16 = .ok (.invokestatic 38, 3) := by decide +kernel
theorem dX8_forced_19 : decode cX8_forced 19 = .ok (.ifCond .eq 39, 3) := by decide +kernel
theorem dX8_forced_22 : decode cX8_forced 22 = .ok (.iload_n 2, 1) := by decide +kernel
theorem dX8_forced_23 : decode cX8_forced 23 = .ok (.iconst 0, 1) := by decide +kernel
theorem dX8_forced_24 : decode cX8_forced 24 = .ok (.bipush 63, 2) := by decide +kernel
theorem dX8_forced_26 : decode cX8_forced 26 = .ok (.invokestatic 38, 3) := by decide +kernel
theorem dX8_forced_29 : decode cX8_forced 29 = .ok (.ifCond .eq 29, 3) := by decide +kernel
theorem dX8_forced_32 : decode cX8_forced 32 = .ok (.iload_n 3, 1) := by decide +kernel
theorem dX8_forced_33 : decode cX8_forced 33 = .ok (.iconst 0, 1) := by decide +kernel
theorem dX8_forced_34 : decode cX8_forced 34 = .ok (.bipush 63, 2) := by decide +kernel
theorem dX8_forced_36 : decode cX8_forced 36 = .ok (.invokestatic 38, 3) := by decide +kernel
theorem dX8_forced_39 : decode cX8_forced 39 = .ok (.ifCond .eq 19, 3) := by decide +kernel
theorem dX8_forced_42 : decode cX8_forced 42 = .ok (.iload_n 2, 1) := by decide +kernel
theorem dX8_forced_43 : decode cX8_forced 43 = .ok (.iload_n 3, 1) := by decide +kernel
theorem dX8_forced_44 : decode cX8_forced 44 = .ok (.iand, 1) := by decide +kernel
theorem dX8_forced_45 : decode cX8_forced 45 = .ok (.ifCond .ne 13, 3) := by decide +kernel
theorem dX8_forced_48 : decode cX8_forced 48 = .ok (.iload 4, 2) := by decide +kernel
theorem dX8_forced_50 : decode cX8_forced 50 = .ok (.iconst 0, 1) := by decide +kernel
theorem dX8_forced_51 : decode cX8_forced 51 = .ok (.iconst 2, 1) := by decide +kernel
theorem dX8_forced_52 : decode cX8_forced 52 = .ok (.invokestatic 38, 3) := by decide +kernel
theorem dX8_forced_55 : decode cX8_forced 55 = .ok (.ifCond .ne 5, 3) := by decide +kernel
theorem dX8_forced_58 : decode cX8_forced 58 = .ok (.iconst (-1), 1) := by decide +kernel
theorem dX8_forced_59 : decode cX8_forced 59 = .ok (.ireturn, 1) := by decide +kernel
theorem dX8_forced_60 : decode cX8_forced 60 = .ok (.aload_n 0, 1) := by decide +kernel
theorem dX8_forced_61 : decode cX8_forced 61 = .ok (.iload_n 1, 1) := by decide +kernel
theorem dX8_forced_62 : decode cX8_forced 62 = .ok (.iload_n 2, 1) := by decide +kernel
theorem dX8_forced_63 : decode cX8_forced 63 = .ok (.iload_n 3, 1) := by decide +kernel
theorem dX8_forced_64 : decode cX8_forced 64 = .ok (.invokevirtual 126, 3) := by decide +kernel
theorem dX8_forced_67 : decode cX8_forced 67 = .ok (.istore 5, 2) := by decide +kernel
theorem dX8_forced_69 : decode cX8_forced 69 = .ok (.iload 4, 2) := by decide +kernel
theorem dX8_forced_71 : decode cX8_forced 71 = .ok (.ifCond .ne 10, 3) := by decide +kernel
theorem dX8_forced_74 : decode cX8_forced 74 = .ok (.aload_n 0, 1) := by decide +kernel
theorem dX8_forced_75 : decode cX8_forced 75 = .ok (.getfield 162, 3) := by decide +kernel
theorem dX8_forced_78 : decode cX8_forced 78 = .ok (.goto 26, 3) := by decide +kernel
theorem dX8_forced_81 : decode cX8_forced 81 = .ok (.iload 4, 2) := by decide +kernel
theorem dX8_forced_83 : decode cX8_forced 83 = .ok (.iconst 1, 1) := by decide +kernel
theorem dX8_forced_84 : decode cX8_forced 84 = .ok (.if_icmp .ne 10, 3) := by decide +kernel
theorem dX8_forced_87 : decode cX8_forced 87 = .ok (.aload_n 0, 1) := by decide +kernel
theorem dX8_forced_88 : decode cX8_forced 88 = .ok (.getfield 165, 3) := by decide +kernel
theorem dX8_forced_91 : decode cX8_forced 91 = .ok (.goto 13, 3) := by decide +kernel
theorem dX8_forced_94 : decode cX8_forced 94 = .ok (.iload 5, 2) := by decide +kernel
theorem dX8_forced_96 : decode cX8_forced 96 = .ok (.ifCond .eq 7, 3) := by decide +kernel
theorem dX8_forced_99 : decode cX8_forced 99 = .ok (.iconst 1, 1) := by decide +kernel
theorem dX8_forced_100 : decode cX8_forced 100 = .ok (.goto 4, 3) := by decide +kernel
theorem dX8_forced_103 : decode cX8_forced 103 = .ok (.iconst 0, 1) := by decide +kernel
theorem dX8_forced_104 : decode cX8_forced 104 = .ok (.ireturn, 1) := by decide +kernel
theorem dX8_heldBy_0 : decode cX8_heldBy 0 = .ok (.ldc2_w 160, 3) := by decide +kernel
theorem dX8_heldBy_3 : decode cX8_heldBy 3 = .ok (.lstore_n 2, 1) := by decide +kernel
theorem dX8_heldBy_4 : decode cX8_heldBy 4 = .ok (.iconst 0, 1) := by decide +kernel
theorem dX8_heldBy_5 : decode cX8_heldBy 5 = .ok (.istore 4, 2) := by decide +kernel
theorem dX8_heldBy_7 : decode cX8_heldBy 7 = .ok (.iload 4, 2) := by decide +kernel
theorem dX8_heldBy_9 : decode cX8_heldBy 9 = .ok (.aload_n 0, 1) := by decide +kernel
theorem dX8_heldBy_10 : decode cX8_heldBy 10 = .ok (.getfield 106, 3) := by decide +kernel
theorem dX8_heldBy_13 : decode cX8_heldBy 13 = .ok (.if_icmp .ge 34, 3) := by decide +kernel
theorem dX8_heldBy_16 : decode cX8_heldBy 16 = .ok (.lload_n 2, 1) := by decide +kernel
theorem dX8_heldBy_17 : decode cX8_heldBy 17 = .ok (.iload_n 1, 1) := by decide +kernel
theorem dX8_heldBy_18 : decode cX8_heldBy 18 = .ok (.iload 4, 2) := by decide +kernel
theorem dX8_heldBy_20 : decode cX8_heldBy 20 = .ok (.ishr, 1) := by decide +kernel
theorem dX8_heldBy_21 : decode cX8_heldBy 21 = .ok (.iconst 1, 1) := by decide +kernel
theorem dX8_heldBy_22 : decode cX8_heldBy 22 = .ok (.iand, 1) := by decide +kernel
theorem dX8_heldBy_23 : decode cX8_heldBy 23 = .ok (.iconst 1, 1) := by decide +kernel
theorem dX8_heldBy_24 : decode cX8_heldBy 24 = .ok (.if_icmp .ne 12, 3) := by decide +kernel
theorem dX8_heldBy_27 : decode cX8_heldBy 27 = .ok (.aload_n 0, 1) := by decide +kernel
theorem dX8_heldBy_28 : decode cX8_heldBy 28 = .ok (.iload 4, 2) := by decide +kernel
theorem dX8_heldBy_30 : decode cX8_heldBy 30 = .ok (.invokevirtual 153, 3) := by decide +kernel
theorem dX8_heldBy_33 : decode cX8_heldBy 33 = .ok (.goto 6, 3) := by decide +kernel
theorem dX8_heldBy_36 : decode cX8_heldBy 36 = .ok (.ldc2_w 160, 3) := by decide +kernel
theorem dX8_heldBy_39 : decode cX8_heldBy 39 = .ok (.land, 1) := by decide +kernel
theorem dX8_heldBy_40 : decode cX8_heldBy 40 = .ok (.lstore_n 2, 1) := by decide +kernel
theorem dX8_heldBy_41 : decode cX8_heldBy 41 = .ok (.iinc 4 1, 3) := by decide +kernel
theorem dX8_heldBy_44 : decode cX8_heldBy 44 = .ok (.goto (-37), 3) := by decide +kernel
theorem dX8_heldBy_47 : decode cX8_heldBy 47 = .ok (.lload_n 2, 1) := by decide +kernel
theorem dX8_heldBy_48 : decode cX8_heldBy 48 = .ok (.lreturn, 1) := by decide +kernel
theorem dX8_trueWorlds_0 : decode cX8_trueWorlds 0 = .ok (.aload_n 0, 1) := by decide +kernel
theorem dX8_trueWorlds_1 : decode cX8_trueWorlds 1 = .ok (.iconst 1, 1) := by decide +kernel
theorem dX8_trueWorlds_2 : decode cX8_trueWorlds 2 = .ok (.aload_n 0, 1) := by decide +kernel
theorem dX8_trueWorlds_3 : decode cX8_trueWorlds 3 = .ok (.getfield 106, 3) := by decide +kernel
theorem dX8_trueWorlds_6 : decode cX8_trueWorlds 6 = .ok (.ishl, 1) := by decide +kernel
theorem dX8_trueWorlds_7 : decode cX8_trueWorlds 7 = .ok (.iconst 1, 1) := by decide +kernel
theorem dX8_trueWorlds_8 : decode cX8_trueWorlds 8 = .ok (.isub, 1) := by decide +kernel
theorem dX8_trueWorlds_9 : decode cX8_trueWorlds 9 = .ok (.invokevirtual 168, 3) := by decide +kernel
theorem dX8_trueWorlds_12 : decode cX8_trueWorlds 12 = .ok (.lreturn, 1) := by decide +kernel
theorem dX8_trues_0 : decode cX8_trues 0 = .ok (.aload_n 0, 1) := by decide +kernel
theorem dX8_trues_1 : decode cX8_trues 1 = .ok (.iconst 0, 1) := by decide +kernel
theorem dX8_trues_2 : decode cX8_trues 2 = .ok (.putfield 35, 3) := by decide +kernel
theorem dX8_trues_5 : decode cX8_trues 5 = .ok (.aload_n 0, 1) := by decide +kernel
theorem dX8_trues_6 : decode cX8_trues 6 = .ok (.invokevirtual 171, 3) := by decide +kernel
theorem dX8_trues_9 : decode cX8_trues 9 = .ok (.lreturn, 1) := by decide +kernel
theorem dX8_told_0 : decode cX8_told 0 = .ok (.aload_n 0, 1) := by decide +kernel
theorem dX8_told_1 : decode cX8_told 1 = .ok (.iconst 0, 1) := by decide +kernel
theorem dX8_told_2 : decode cX8_told 2 = .ok (.putfield 35, 3) := by decide +kernel
theorem dX8_told_5 : decode cX8_told 5 = .ok (.aload_n 0, 1) := by decide +kernel
theorem dX8_told_6 : decode cX8_told 6 = .ok (.iload_n 1, 1) := by decide +kernel
theorem dX8_told_7 : decode cX8_told 7 = .ok (.invokevirtual 142, 3) := by decide +kernel
theorem dX8_told_10 : decode cX8_told 10 = .ok (.ifCond .ne 7, 3) := by decide +kernel
theorem dX8_told_13 : decode cX8_told 13 = .ok (.iconst (-1), 1) := by decide +kernel
theorem dX8_told_14 : decode cX8_told 14 = .ok (.goto 27, 3) := by decide +kernel
theorem dX8_told_17 : decode cX8_told 17 = .ok (.aload_n 0, 1) := by decide +kernel
theorem dX8_told_18 : decode cX8_told 18 = .ok (.invokevirtual 171, 3) := by decide +kernel
theorem dX8_told_21 : decode cX8_told 21 = .ok (.aload_n 0, 1) := by decide +kernel
theorem dX8_told_22 : decode cX8_told 22 = .ok (.iload_n 1, 1) := by decide +kernel
theorem dX8_told_23 : decode cX8_told 23 = .ok (.invokevirtual 153, 3) := by decide +kernel
theorem dX8_told_26 : decode cX8_told 26 = .ok (.ldc2_w 160, 3) := by decide +kernel
theorem dX8_told_29 : decode cX8_told 29 = .ok (.lxor, 1) := by decide +kernel
theorem dX8_told_30 : decode cX8_told 30 = .ok (.land, 1) := by decide +kernel
theorem dX8_told_31 : decode cX8_told 31 = .ok (.lconst 0, 1) := by decide +kernel
theorem dX8_told_32 : decode cX8_told 32 = .ok (.lcmp, 1) := by decide +kernel
theorem dX8_told_33 : decode cX8_told 33 = .ok (.ifCond .ne 7, 3) := by decide +kernel
theorem dX8_told_36 : decode cX8_told 36 = .ok (.iconst 1, 1) := by decide +kernel
theorem dX8_told_37 : decode cX8_told 37 = .ok (.goto 4, 3) := by decide +kernel
theorem dX8_told_40 : decode cX8_told 40 = .ok (.iconst 0, 1) := by decide +kernel
theorem dX8_told_41 : decode cX8_told 41 = .ok (.ireturn, 1) := by decide +kernel
theorem dX8_tight_0 : decode cX8_tight 0 = .ok (.aload_n 0, 1) := by decide +kernel
theorem dX8_tight_1 : decode cX8_tight 1 = .ok (.iconst 0, 1) := by decide +kernel
theorem dX8_tight_2 : decode cX8_tight 2 = .ok (.putfield 35, 3) := by decide +kernel
theorem dX8_tight_5 : decode cX8_tight 5 = .ok (.aload_n 0, 1) := by decide +kernel
theorem dX8_tight_6 : decode cX8_tight 6 = .ok (.iload_n 1, 1) := by decide +kernel
theorem dX8_tight_7 : decode cX8_tight 7 = .ok (.invokevirtual 142, 3) := by decide +kernel
theorem dX8_tight_10 : decode cX8_tight 10 = .ok (.ifCond .ne 5, 3) := by decide +kernel
theorem dX8_tight_13 : decode cX8_tight 13 = .ok (.iconst (-1), 1) := by decide +kernel
theorem dX8_tight_14 : decode cX8_tight 14 = .ok (.ireturn, 1) := by decide +kernel
theorem dX8_tight_15 : decode cX8_tight 15 = .ok (.aload_n 0, 1) := by decide +kernel
theorem dX8_tight_16 : decode cX8_tight 16 = .ok (.invokevirtual 171, 3) := by decide +kernel
theorem dX8_tight_19 : decode cX8_tight 19 = .ok (.lstore_n 2, 1) := by decide +kernel
theorem dX8_tight_20 : decode cX8_tight 20 = .ok (.bipush (-9), 2) := by decide +kernel
theorem dX8_tight_22 : decode cX8_tight 22 = .ok (.istore 4, 2) := by decide +kernel
theorem dX8_tight_24 : decode cX8_tight 24 = .ok (.iconst 0, 1) := by decide +kernel
theorem dX8_tight_25 : decode cX8_tight 25 = .ok (.istore 5, 2) := by decide +kernel
theorem dX8_tight_27 : decode cX8_tight 27 = .ok (.iload 5, 2) := by decide +kernel
theorem dX8_tight_29 : decode cX8_tight 29 = .ok (.bipush 64, 2) := by decide +kernel
theorem dX8_tight_31 : decode cX8_tight 31 = .ok (.if_icmp .ge 55, 3) := by decide +kernel
theorem dX8_tight_34 : decode cX8_tight 34 = .ok (.aload_n 0, 1) := by decide +kernel
theorem dX8_tight_35 : decode cX8_tight 35 = .ok (.bipush 7, 2) := by decide +kernel
theorem dX8_tight_37 : decode cX8_tight 37 = .ok (.iload_n 1, 1) := by decide +kernel
theorem dX8_tight_38 : decode cX8_tight 38 = .ok (.imul, 1) := by decide +kernel
theorem dX8_tight_39 : decode cX8_tight 39 = .ok (.iload 5, 2) := by decide +kernel
theorem dX8_tight_41 : decode cX8_tight 41 = .ok (.invokevirtual 146, 3) := by decide +kernel
theorem dX8_tight_44 : decode cX8_tight 44 = .ok (.istore 6, 2) := by decide +kernel
theorem dX8_tight_46 : decode cX8_tight 46 = .ok (.lload_n 2, 1) := by decide +kernel
theorem dX8_tight_47 : decode cX8_tight 47 = .ok (.iload 5, 2) := by decide +kernel
theorem dX8_tight_49 : decode cX8_tight 49 = .ok (.lshr, 1) := by decide +kernel
theorem dX8_tight_50 : decode cX8_tight 50 = .ok (.lconst 1, 1) := by decide +kernel
theorem dX8_tight_51 : decode cX8_tight 51 = .ok (.land, 1) := by decide +kernel
theorem dX8_tight_52 : decode cX8_tight 52 = .ok (.lconst 1, 1) := by decide +kernel
theorem dX8_tight_53 : decode cX8_tight 53 = .ok (.lcmp, 1) := by decide +kernel
theorem dX8_tight_54 : decode cX8_tight 54 = .ok (.ifCond .ne 22, 3) := by decide +kernel
theorem dX8_tight_57 : decode cX8_tight 57 = .ok (.iload 4, 2) := by decide +kernel
theorem dX8_tight_59 : decode cX8_tight 59 = .ok (.bipush (-9), 2) := by decide +kernel
theorem dX8_tight_61 : decode cX8_tight 61 = .ok (.if_icmp .eq 10, 3) := by decide +kernel
theorem dX8_tight_64 : decode cX8_tight 64 = .ok (.iload 6, 2) := by decide +kernel
theorem dX8_tight_66 : decode cX8_tight 66 = .ok (.iload 4, 2) := by decide +kernel
theorem dX8_tight_68 : decode cX8_tight 68 = .ok (.if_icmp .ge 8, 3) := by decide +kernel
theorem dX8_tight_71 : decode cX8_tight 71 = .ok (.iload 6, 2) := by decide +kernel
theorem dX8_tight_73 : decode cX8_tight 73 = .ok (.goto 5, 3) := by decide +kernel
theorem dX8_tight_76 : decode cX8_tight 76 = .ok (.iload 4, 2) := by decide +kernel
theorem dX8_tight_78 : decode cX8_tight 78 = .ok (.istore 4, 2) := by decide +kernel
theorem dX8_tight_80 : decode cX8_tight 80 = .ok (.iinc 5 1, 3) := by decide +kernel
theorem dX8_tight_83 : decode cX8_tight 83 = .ok (.goto (-56), 3) := by decide +kernel
theorem dX8_tight_86 : decode cX8_tight 86 = .ok (.iload 4, 2) := by decide +kernel
theorem dX8_tight_88 : decode cX8_tight 88 = .ok (.ireturn, 1) := by decide +kernel
theorem dX8_ones_0 : decode cX8_ones 0 = .ok (.iconst 0, 1) := by decide +kernel
theorem dX8_ones_1 : decode cX8_ones 1 = .ok (.istore_n 1, 1) := by decide +kernel
theorem dX8_ones_2 : decode cX8_ones 2 = .ok (.iconst 0, 1) := by decide +kernel
theorem dX8_ones_3 : decode cX8_ones 3 = .ok (.istore_n 2, 1) := by decide +kernel
theorem dX8_ones_4 : decode cX8_ones 4 = .ok (.iload_n 2, 1) := by decide +kernel
theorem dX8_ones_5 : decode cX8_ones 5 = .ok (.bipush 8, 2) := by decide +kernel
theorem dX8_ones_7 : decode cX8_ones 7 = .ok (.if_icmp .ge 17, 3) := by decide +kernel
theorem dX8_ones_10 : decode cX8_ones 10 = .ok (.iload_n 1, 1) := by decide +kernel
theorem dX8_ones_11 : decode cX8_ones 11 = .ok (.iload_n 0, 1) := by decide +kernel
theorem dX8_ones_12 : decode cX8_ones 12 = .ok (.iload_n 2, 1) := by decide +kernel
theorem dX8_ones_13 : decode cX8_ones 13 = .ok (.ishr, 1) := by decide +kernel
theorem dX8_ones_14 : decode cX8_ones 14 = .ok (.iconst 1, 1) := by decide +kernel
theorem dX8_ones_15 : decode cX8_ones 15 = .ok (.iand, 1) := by decide +kernel
theorem dX8_ones_16 : decode cX8_ones 16 = .ok (.iadd, 1) := by decide +kernel
theorem dX8_ones_17 : decode cX8_ones 17 = .ok (.istore_n 1, 1) := by decide +kernel
theorem dX8_ones_18 : decode cX8_ones 18 = .ok (.iinc 2 1, 3) := by decide +kernel
theorem dX8_ones_21 : decode cX8_ones 21 = .ok (.goto (-17), 3) := by decide +kernel
theorem dX8_ones_24 : decode cX8_ones 24 = .ok (.iload_n 1, 1) := by decide +kernel
theorem dX8_ones_25 : decode cX8_ones 25 = .ok (.ireturn, 1) := by decide +kernel
theorem dX8_needed_0 : decode cX8_needed 0 = .ok (.aload_n 0, 1) := by decide +kernel
theorem dX8_needed_1 : decode cX8_needed 1 = .ok (.iconst 0, 1) := by decide +kernel
theorem dX8_needed_2 : decode cX8_needed 2 = .ok (.putfield 35, 3) := by decide +kernel
theorem dX8_needed_5 : decode cX8_needed 5 = .ok (.aload_n 0, 1) := by decide +kernel
theorem dX8_needed_6 : decode cX8_needed 6 = .ok (.iload_n 1, 1) := by decide +kernel
theorem dX8_needed_7 : decode cX8_needed 7 = .ok (.invokevirtual 142, 3) := by decide +kernel
theorem dX8_needed_10 : decode cX8_needed 10 = .ok (.ifCond .eq 12, 3) := by decide +kernel
theorem dX8_needed_13 : decode cX8_needed 13 = .ok (.iload_n 2, 1) := by decide +kernel
theorem dX8_needed_14 : decode cX8_needed 14 = .ok (.iconst 0, 1) := by decide +kernel
theorem dX8_needed_15 : decode cX8_needed 15 = .ok (.iconst 1, 1) := by decide +kernel
theorem dX8_needed_16 : decode cX8_needed 16 = .ok (.invokestatic 38, 3) := by decide +kernel
theorem dX8_needed_19 : decode cX8_needed 19 = .ok (.ifCond .ne 5, 3) := by decide +kernel
theorem dX8_needed_22 : decode cX8_needed 22 = .ok (.iconst (-1), 1) := by decide +kernel
theorem dX8_needed_23 : decode cX8_needed 23 = .ok (.ireturn, 1) := by decide +kernel
theorem dX8_needed_24 : decode cX8_needed 24 = .ok (.aload_n 0, 1) := by decide +kernel
theorem dX8_needed_25 : decode cX8_needed 25 = .ok (.iload_n 1, 1) := by decide +kernel
theorem dX8_needed_26 : decode cX8_needed 26 = .ok (.invokevirtual 153, 3) := by decide +kernel
theorem dX8_needed_29 : decode cX8_needed 29 = .ok (.lstore_n 3, 1) := by decide +kernel
theorem dX8_needed_30 : decode cX8_needed 30 = .ok (.bipush (-9), 2) := by decide +kernel
theorem dX8_needed_32 : decode cX8_needed 32 = .ok (.istore 5, 2) := by decide +kernel
theorem dX8_needed_34 : decode cX8_needed 34 = .ok (.iconst 0, 1) := by decide +kernel
theorem dX8_needed_35 : decode cX8_needed 35 = .ok (.istore 6, 2) := by decide +kernel
theorem dX8_needed_37 : decode cX8_needed 37 = .ok (.iload 6, 2) := by decide +kernel
theorem dX8_needed_39 : decode cX8_needed 39 = .ok (.iconst 1, 1) := by decide +kernel
theorem dX8_needed_40 : decode cX8_needed 40 = .ok (.aload_n 0, 1) := by decide +kernel
theorem dX8_needed_41 : decode cX8_needed 41 = .ok (.getfield 106, 3) := by decide +kernel
theorem dX8_needed_44 : decode cX8_needed 44 = .ok (.ishl, 1) := by decide +kernel
theorem dX8_needed_45 : decode cX8_needed 45 = .ok (.if_icmp .ge 50, 3) := by decide +kernel
theorem dX8_needed_48 : decode cX8_needed 48 = .ok (.iload 5, 2) := by decide +kernel
theorem dX8_needed_50 : decode cX8_needed 50 = .ok (.bipush (-9), 2) := by decide +kernel
theorem dX8_needed_52 : decode cX8_needed 52 = .ok (.if_icmp .eq 16, 3) := by decide +kernel
theorem dX8_needed_55 : decode cX8_needed 55 = .ok (.iload 6, 2) := by decide +kernel
theorem dX8_needed_57 : decode cX8_needed 57 = .ok (.invokestatic 175, 3) := by decide +kernel
theorem dX8_needed_60 : decode cX8_needed 60 = .ok (.iload 5, 2) := by decide +kernel
theorem dX8_needed_62 : decode cX8_needed 62 = .ok (.invokestatic 175, 3) := by decide +kernel
theorem dX8_needed_65 : decode cX8_needed 65 = .ok (.if_icmp .ge 24, 3) := by decide +kernel
theorem dX8_needed_68 : decode cX8_needed 68 = .ok (.aload_n 0, 1) := by decide +kernel
theorem dX8_needed_69 : decode cX8_needed 69 = .ok (.iload 6, 2) := by decide +kernel
theorem dX8_needed_71 : decode cX8_needed 71 = .ok (.invokevirtual 168, 3) := by decide +kernel
theorem dX8_needed_74 : decode cX8_needed 74 = .ok (.lload_n 3, 1) := by decide +kernel
theorem dX8_needed_75 : decode cX8_needed 75 = .ok (.ldc2_w 160, 3) := by decide +kernel
theorem dX8_needed_78 : decode cX8_needed 78 = .ok (.lxor, 1) := by decide +kernel
theorem dX8_needed_79 : decode cX8_needed 79 = .ok (.land, 1) := by decide +kernel
theorem dX8_needed_80 : decode cX8_needed 80 = .ok (.lconst 0, 1) := by decide +kernel
theorem dX8_needed_81 : decode cX8_needed 81 = .ok (.lcmp, 1) := by decide +kernel
theorem dX8_needed_82 : decode cX8_needed 82 = .ok (.ifCond .ne 7, 3) := by decide +kernel
theorem dX8_needed_85 : decode cX8_needed 85 = .ok (.iload 6, 2) := by decide +kernel
theorem dX8_needed_87 : decode cX8_needed 87 = .ok (.istore 5, 2) := by decide +kernel
theorem dX8_needed_89 : decode cX8_needed 89 = .ok (.iinc 6 1, 3) := by decide +kernel
theorem dX8_needed_92 : decode cX8_needed 92 = .ok (.goto (-55), 3) := by decide +kernel
theorem dX8_needed_95 : decode cX8_needed 95 = .ok (.iload 5, 2) := by decide +kernel
theorem dX8_needed_97 : decode cX8_needed 97 = .ok (.bipush (-9), 2) := by decide +kernel
theorem dX8_needed_99 : decode cX8_needed 99 = .ok (.if_icmp .eq 8, 3) := by decide +kernel
theorem dX8_needed_102 : decode cX8_needed 102 = .ok (.iload_n 2, 1) := by decide +kernel
theorem dX8_needed_103 : decode cX8_needed 103 = .ok (.iconst 1, 1) := by decide +kernel
theorem dX8_needed_104 : decode cX8_needed 104 = .ok (.if_icmp .ne 8, 3) := by decide +kernel
theorem dX8_needed_107 : decode cX8_needed 107 = .ok (.iload 5, 2) := by decide +kernel
theorem dX8_needed_109 : decode cX8_needed 109 = .ok (.goto 8, 3) := by decide +kernel
theorem dX8_needed_112 : decode cX8_needed 112 = .ok (.iload 5, 2) := by decide +kernel
theorem dX8_needed_114 : decode cX8_needed 114 = .ok (.invokestatic 175, 3) := by decide +kernel
theorem dX8_needed_117 : decode cX8_needed 117 = .ok (.ireturn, 1) := by decide +kernel
theorem dX8_isCover_0 : decode cX8_isCover 0 = .ok (.aload_n 0, 1) := by decide +kernel
theorem dX8_isCover_1 : decode cX8_isCover 1 = .ok (.getfield 13, 3) := by decide +kernel
theorem dX8_isCover_4 : decode cX8_isCover 4 = .ok (.iload_n 1, 1) := by decide +kernel
theorem dX8_isCover_5 : decode cX8_isCover 5 = .ok (.bipush 6, 2) := by decide +kernel
theorem dX8_isCover_7 : decode cX8_isCover 7 = .ok (.iadd, 1) := by decide +kernel
theorem dX8_isCover_8 : decode cX8_isCover 8 = .ok (.iaload, 1) := by decide +kernel
theorem dX8_isCover_9 : decode cX8_isCover 9 = .ok (.ineg, 1) := by decide +kernel
theorem dX8_isCover_10 : decode cX8_isCover 10 = .ok (.istore_n 3, 1) := by decide +kernel
theorem dX8_isCover_11 : decode cX8_isCover 11 = .ok (.iconst 0, 1) := by decide +kernel
theorem dX8_isCover_12 : decode cX8_isCover 12 = .ok (.istore 4, 2) := by decide +kernel
theorem dX8_isCover_14 : decode cX8_isCover 14 = .ok (.iload 4, 2) := by decide +kernel
theorem dX8_isCover_16 : decode cX8_isCover 16 = .ok (.bipush 6, 2) := by decide +kernel
theorem dX8_isCover_18 : decode cX8_isCover 18 = .ok (.if_icmp .ge 38, 3) := by decide +kernel
theorem dX8_isCover_21 : decode cX8_isCover 21 = .ok (.iload_n 3, 1) := by decide +kernel
theorem dX8_isCover_22 : decode cX8_isCover 22 = .ok (.iload_n 2, 1) := by decide +kernel
theorem dX8_isCover_23 : decode cX8_isCover 23 = .ok (.iload 4, 2) := by decide +kernel
theorem dX8_isCover_25 : decode cX8_isCover 25 = .ok (.ishr, 1) := by decide +kernel
theorem dX8_isCover_26 : decode cX8_isCover 26 = .ok (.iconst 1, 1) := by decide +kernel
theorem dX8_isCover_27 : decode cX8_isCover 27 = .ok (.iand, 1) := by decide +kernel
theorem dX8_isCover_28 : decode cX8_isCover 28 = .ok (.iconst 1, 1) := by decide +kernel
theorem dX8_isCover_29 : decode cX8_isCover 29 = .ok (.if_icmp .ne 7, 3) := by decide +kernel
theorem dX8_isCover_32 : decode cX8_isCover 32 = .ok (.iconst 0, 1) := by decide +kernel
theorem dX8_isCover_33 : decode cX8_isCover 33 = .ok (.goto 15, 3) := by decide +kernel
theorem dX8_isCover_36 : decode cX8_isCover 36 = .ok (.aload_n 0, 1) := by decide +kernel
theorem dX8_isCover_37 : decode cX8_isCover 37 = .ok (.getfield 13, 3) := by decide +kernel
theorem dX8_isCover_40 : decode cX8_isCover 40 = .ok (.iload_n 1, 1) := by decide +kernel
theorem dX8_isCover_41 : decode cX8_isCover 41 = .ok (.iload 4, 2) := by decide +kernel
theorem dX8_isCover_43 : decode cX8_isCover 43 = .ok (.iadd, 1) := by decide +kernel
theorem dX8_isCover_44 : decode cX8_isCover 44 = .ok (.iaload, 1) := by decide +kernel
theorem dX8_isCover_45 : decode cX8_isCover 45 = .ok (.invokestatic 119, 3) := by decide +kernel
theorem dX8_isCover_48 : decode cX8_isCover 48 = .ok (.iadd, 1) := by decide +kernel
theorem dX8_isCover_49 : decode cX8_isCover 49 = .ok (.istore_n 3, 1) := by decide +kernel
theorem dX8_isCover_50 : decode cX8_isCover 50 = .ok (.iinc 4 1, 3) := by decide +kernel
theorem dX8_isCover_53 : decode cX8_isCover 53 = .ok (.goto (-39), 3) := by decide +kernel
theorem dX8_isCover_56 : decode cX8_isCover 56 = .ok (.iload_n 3, 1) := by decide +kernel
theorem dX8_isCover_57 : decode cX8_isCover 57 = .ok (.ifCond .ge 7, 3) := by decide +kernel
theorem dX8_isCover_60 : decode cX8_isCover 60 = .ok (.iconst 1, 1) := by decide +kernel
theorem dX8_isCover_61 : decode cX8_isCover 61 = .ok (.goto 4, 3) := by decide +kernel
theorem dX8_isCover_64 : decode cX8_isCover 64 = .ok (.iconst 0, 1) := by decide +kernel
theorem dX8_isCover_65 : decode cX8_isCover 65 = .ok (.ireturn, 1) := by decide +kernel
theorem dX8_covers_0 : decode cX8_covers 0 = .ok (.aload_n 0, 1) := by decide +kernel
theorem dX8_covers_1 : decode cX8_covers 1 = .ok (.iconst 0, 1) := by decide +kernel
theorem dX8_covers_2 : decode cX8_covers 2 = .ok (.putfield 35, 3) := by decide +kernel
theorem dX8_covers_5 : decode cX8_covers 5 = .ok (.aload_n 0, 1) := by decide +kernel
theorem dX8_covers_6 : decode cX8_covers 6 = .ok (.iload_n 1, 1) := by decide +kernel
theorem dX8_covers_7 : decode cX8_covers 7 = .ok (.invokevirtual 142, 3) := by decide +kernel
theorem dX8_covers_10 : decode cX8_covers 10 = .ok (.ifCond .eq 8, 3) := by decide +kernel
theorem dX8_covers_13 : decode cX8_covers 13 = .ok (.iload_n 2, 1) := by decide +kernel
theorem dX8_covers_14 : decode cX8_covers 14 = .ok (.iconst (-1), 1) := by decide +kernel
theorem dX8_covers_15 : decode cX8_covers 15 = .ok (.if_icmp .ge 5, 3) := by decide +kernel
theorem dX8_covers_18 : decode cX8_covers 18 = .ok (.iconst (-1), 1) := by decide +kernel
theorem dX8_covers_19 : decode cX8_covers 19 = .ok (.ireturn, 1) := by decide +kernel
theorem dX8_covers_20 : decode cX8_covers 20 = .ok (.bipush 7, 2) := by decide +kernel
theorem dX8_covers_22 : decode cX8_covers 22 = .ok (.iload_n 1, 1) := by decide +kernel
theorem dX8_covers_23 : decode cX8_covers 23 = .ok (.imul, 1) := by decide +kernel
theorem dX8_covers_24 : decode cX8_covers 24 = .ok (.istore_n 3, 1) := by decide +kernel
theorem dX8_covers_25 : decode cX8_covers 25 = .ok (.iconst 0, 1) := by decide +kernel
theorem dX8_covers_26 : decode cX8_covers 26 = .ok (.istore 4, 2) := by decide +kernel
theorem dX8_covers_28 : decode cX8_covers 28 = .ok (.iconst 0, 1) := by decide +kernel
theorem dX8_covers_29 : decode cX8_covers 29 = .ok (.istore 5, 2) := by decide +kernel
theorem dX8_covers_31 : decode cX8_covers 31 = .ok (.iload 5, 2) := by decide +kernel
theorem dX8_covers_33 : decode cX8_covers 33 = .ok (.bipush 64, 2) := by decide +kernel
theorem dX8_covers_35 : decode cX8_covers 35 = .ok (.if_icmp .ge 114, 3) := by decide +kernel
theorem dX8_covers_38 : decode cX8_covers 38 = .ok (.aload_n 0, 1) := by decide +kernel
theorem dX8_covers_39 : decode cX8_covers 39 = .ok (.iload_n 3, 1) := by decide +kernel
theorem dX8_covers_40 : decode cX8_covers 40 = .ok (.iload 5, 2) := by decide +kernel
theorem dX8_covers_42 : decode cX8_covers 42 = .ok (.invokevirtual 178, 3) := by decide +kernel
theorem dX8_covers_45 : decode cX8_covers 45 = .ok (.istore 6, 2) := by decide +kernel
theorem dX8_covers_47 : decode cX8_covers 47 = .ok (.iconst 0, 1) := by decide +kernel
theorem dX8_covers_48 : decode cX8_covers 48 = .ok (.istore 7, 2) := by decide +kernel
theorem dX8_covers_50 : decode cX8_covers 50 = .ok (.iload 7, 2) := by decide +kernel
theorem dX8_covers_52 : decode cX8_covers 52 = .ok (.bipush 6, 2) := by decide +kernel
theorem dX8_covers_54 : decode cX8_covers 54 = .ok (.if_icmp .ge 60, 3) := by decide +kernel
theorem dX8_covers_57 : decode cX8_covers 57 = .ok (.iload 6, 2) := by decide +kernel
theorem dX8_covers_59 : decode cX8_covers 59 = .ok (.ifCond .eq 46, 3) := by decide +kernel
theorem dX8_covers_62 : decode cX8_covers 62 = .ok (.iload 5, 2) := by decide +kernel
theorem dX8_covers_64 : decode cX8_covers 64 = .ok (.iload 7, 2) := by decide +kernel
theorem dX8_covers_66 : decode cX8_covers 66 = .ok (.ishr, 1) := by decide +kernel
theorem dX8_covers_67 : decode cX8_covers 67 = .ok (.iconst 1, 1) := by decide +kernel
theorem dX8_covers_68 : decode cX8_covers 68 = .ok (.iand, 1) := by decide +kernel
theorem dX8_covers_69 : decode cX8_covers 69 = .ok (.ifCond .eq 32, 3) := by decide +kernel
theorem dX8_covers_72 : decode cX8_covers 72 = .ok (.aload_n 0, 1) := by decide +kernel
theorem dX8_covers_73 : decode cX8_covers 73 = .ok (.getfield 13, 3) := by decide +kernel
theorem dX8_covers_76 : decode cX8_covers 76 = .ok (.iload_n 3, 1) := by decide +kernel
theorem dX8_covers_77 : decode cX8_covers 77 = .ok (.iload 7, 2) := by decide +kernel
theorem dX8_covers_79 : decode cX8_covers 79 = .ok (.iadd, 1) := by decide +kernel
theorem dX8_covers_80 : decode cX8_covers 80 = .ok (.iaload, 1) := by decide +kernel
theorem dX8_covers_81 : decode cX8_covers 81 = .ok (.ifCond .eq 24, 3) := by decide +kernel
theorem dX8_covers_84 : decode cX8_covers 84 = .ok (.aload_n 0, 1) := by decide +kernel
theorem dX8_covers_85 : decode cX8_covers 85 = .ok (.iload_n 3, 1) := by decide +kernel
theorem dX8_covers_86 : decode cX8_covers 86 = .ok (.iload 5, 2) := by decide +kernel
theorem dX8_covers_88 : decode cX8_covers 88 = .ok (.iconst 1, 1) := by decide +kernel
theorem dX8_covers_89 : decode cX8_covers 89 = .ok (.iload 7, 2) := by decide +kernel
theorem dX8_covers_91 : decode cX8_covers 91 = .ok (.ishl, 1) := by decide +kernel
theorem dX8_covers_92 : decode cX8_covers 92 = .ok (.iconst (-1), 1) := by decide +kernel
theorem dX8_covers_93 : decode cX8_covers 93 = .ok (.ixor, 1) := by decide +kernel
theorem dX8_covers_94 : decode cX8_covers 94 = .ok (.iand, 1) := by decide +kernel
theorem dX8_covers_95 : decode cX8_covers 95 = .ok (.invokevirtual 178, 3) := by decide +kernel
theorem dX8_covers_98 : decode cX8_covers 98 = .ok (.ifCond .ne 7, 3) := by decide +kernel
theorem dX8_covers_101 : decode cX8_covers 101 = .ok (.iconst 1, 1) := by decide +kernel
theorem dX8_covers_102 : decode cX8_covers 102 = .ok (.goto 4, 3) := by decide +kernel
theorem dX8_covers_105 : decode cX8_covers 105 = .ok (.iconst 0, 1) := by decide +kernel
theorem dX8_covers_106 : decode cX8_covers 106 = .ok (.istore 6, 2) := by decide +kernel
theorem dX8_covers_108 : decode cX8_covers 108 = .ok (.iinc 7 1, 3) := by decide +kernel
theorem dX8_covers_111 : decode cX8_covers 111 = .ok (.goto (-61), 3) := by decide +kernel
theorem dX8_covers_114 : decode cX8_covers 114 = .ok (.iload 6, 2) := by decide +kernel
theorem dX8_covers_116 : decode cX8_covers 116 = .ok (.ifCond .eq 12, 3) := by decide +kernel
theorem dX8_covers_119 : decode cX8_covers 119 = .ok (.iload 4, 2) := by decide +kernel
theorem dX8_covers_121 : decode cX8_covers 121 = .ok (.iload_n 2, 1) := by decide +kernel
theorem dX8_covers_122 : decode cX8_covers 122 = .ok (.if_icmp .ne 6, 3) := by decide +kernel
theorem dX8_covers_125 : decode cX8_covers 125 = .ok (.iload 5, 2) := by decide +kernel
theorem dX8_covers_127 : decode cX8_covers 127 = .ok (.ireturn, 1) := by decide +kernel
theorem dX8_covers_128 : decode cX8_covers 128 = .ok (.iload 4, 2) := by decide +kernel
theorem dX8_covers_130 : decode cX8_covers 130 = .ok (.iload 6, 2) := by decide +kernel
theorem dX8_covers_132 : decode cX8_covers 132 = .ok (.ifCond .eq 7, 3) := by decide +kernel
theorem dX8_covers_135 : decode cX8_covers 135 = .ok (.iconst 1, 1) := by decide +kernel
theorem dX8_covers_136 : decode cX8_covers 136 = .ok (.goto 4, 3) := by decide +kernel
theorem dX8_covers_139 : decode cX8_covers 139 = .ok (.iconst 0, 1) := by decide +kernel
theorem dX8_covers_140 : decode cX8_covers 140 = .ok (.iadd, 1) := by decide +kernel
theorem dX8_covers_141 : decode cX8_covers 141 = .ok (.istore 4, 2) := by decide +kernel
theorem dX8_covers_143 : decode cX8_covers 143 = .ok (.iinc 5 1, 3) := by decide +kernel
theorem dX8_covers_146 : decode cX8_covers 146 = .ok (.goto (-115), 3) := by decide +kernel
theorem dX8_covers_149 : decode cX8_covers 149 = .ok (.iload_n 2, 1) := by decide +kernel
theorem dX8_covers_150 : decode cX8_covers 150 = .ok (.ifCond .ge 8, 3) := by decide +kernel
theorem dX8_covers_153 : decode cX8_covers 153 = .ok (.iload 4, 2) := by decide +kernel
theorem dX8_covers_155 : decode cX8_covers 155 = .ok (.goto 4, 3) := by decide +kernel
theorem dX8_covers_158 : decode cX8_covers 158 = .ok (.iconst (-1), 1) := by decide +kernel
theorem dX8_covers_159 : decode cX8_covers 159 = .ok (.ireturn, 1) := by decide +kernel
theorem dX8_cost_0 : decode cX8_cost 0 = .ok (.aload_n 0, 1) := by decide +kernel
theorem dX8_cost_1 : decode cX8_cost 1 = .ok (.iconst 0, 1) := by decide +kernel
theorem dX8_cost_2 : decode cX8_cost 2 = .ok (.putfield 35, 3) := by decide +kernel
theorem dX8_cost_5 : decode cX8_cost 5 = .ok (.iload_n 1, 1) := by decide +kernel
theorem dX8_cost_6 : decode cX8_cost 6 = .ok (.iconst 0, 1) := by decide +kernel
theorem dX8_cost_7 : decode cX8_cost 7 = .ok (.iconst 5, 1) := by decide +kernel
theorem dX8_cost_8 : decode cX8_cost 8 = .ok (.invokestatic 38, 3) := by decide +kernel
theorem dX8_cost_11 : decode cX8_cost 11 = .ok (.ifCond .eq 13, 3) := by decide +kernel
theorem dX8_cost_14 : decode cX8_cost 14 = .ok (.iload_n 2, 1) := by decide +kernel
theorem dX8_cost_15 : decode cX8_cost 15 = .ok (.iconst 0, 1) := by decide +kernel
theorem dX8_cost_16 : decode cX8_cost 16 = .ok (.bipush 99, 2) := by decide +kernel
theorem dX8_cost_18 : decode cX8_cost 18 = .ok (.invokestatic 38, 3) := by decide +kernel
theorem dX8_cost_21 : decode cX8_cost 21 = .ok (.ifCond .ne 5, 3) := by decide +kernel
theorem dX8_cost_24 : decode cX8_cost 24 = .ok (.iconst (-1), 1) := by decide +kernel
theorem dX8_cost_25 : decode cX8_cost 25 = .ok (.ireturn, 1) := by decide +kernel
theorem dX8_cost_26 : decode cX8_cost 26 = .ok (.aload_n 0, 1) := by decide +kernel
theorem dX8_cost_27 : decode cX8_cost 27 = .ok (.getfield 29, 3) := by decide +kernel
theorem dX8_cost_30 : decode cX8_cost 30 = .ok (.iload_n 1, 1) := by decide +kernel
theorem dX8_cost_31 : decode cX8_cost 31 = .ok (.iaload, 1) := by decide +kernel
theorem dX8_cost_32 : decode cX8_cost 32 = .ok (.istore_n 3, 1) := by decide +kernel
theorem dX8_cost_33 : decode cX8_cost 33 = .ok (.aload_n 0, 1) := by decide +kernel
theorem dX8_cost_34 : decode cX8_cost 34 = .ok (.getfield 29, 3) := by decide +kernel
theorem dX8_cost_37 : decode cX8_cost 37 = .ok (.iload_n 1, 1) := by decide +kernel
theorem dX8_cost_38 : decode cX8_cost 38 = .ok (.iload_n 2, 1) := by decide +kernel
theorem dX8_cost_39 : decode cX8_cost 39 = .ok (.iastore, 1) := by decide +kernel
theorem dX8_cost_40 : decode cX8_cost 40 = .ok (.iload_n 3, 1) := by decide +kernel
theorem dX8_cost_41 : decode cX8_cost 41 = .ok (.ireturn, 1) := by decide +kernel
theorem dX8_least_0 : decode cX8_least 0 = .ok (.aload_n 0, 1) := by decide +kernel
theorem dX8_least_1 : decode cX8_least 1 = .ok (.iconst 0, 1) := by decide +kernel
theorem dX8_least_2 : decode cX8_least 2 = .ok (.putfield 35, 3) := by decide +kernel
theorem dX8_least_5 : decode cX8_least 5 = .ok (.iload_n 1, 1) := by decide +kernel
theorem dX8_least_6 : decode cX8_least 6 = .ok (.iconst 0, 1) := by decide +kernel
theorem dX8_least_7 : decode cX8_least 7 = .ok (.iconst 1, 1) := by decide +kernel
theorem dX8_least_8 : decode cX8_least 8 = .ok (.invokestatic 38, 3) := by decide +kernel
theorem dX8_least_11 : decode cX8_least 11 = .ok (.ifCond .ne 5, 3) := by decide +kernel
theorem dX8_least_14 : decode cX8_least 14 = .ok (.iconst (-1), 1) := by decide +kernel
theorem dX8_least_15 : decode cX8_least 15 = .ok (.ireturn, 1) := by decide +kernel
theorem dX8_least_16 : decode cX8_least 16 = .ok (.aload_n 0, 1) := by decide +kernel
theorem dX8_least_17 : decode cX8_least 17 = .ok (.invokevirtual 171, 3) := by decide +kernel
theorem dX8_least_20 : decode cX8_least 20 = .ok (.lstore_n 2, 1) := by decide +kernel
theorem dX8_least_21 : decode cX8_least 21 = .ok (.bipush (-9), 2) := by decide +kernel
theorem dX8_least_23 : decode cX8_least 23 = .ok (.istore 4, 2) := by decide +kernel
theorem dX8_least_25 : decode cX8_least 25 = .ok (.iconst 0, 1) := by decide +kernel
theorem dX8_least_26 : decode cX8_least 26 = .ok (.istore 5, 2) := by decide +kernel
theorem dX8_least_28 : decode cX8_least 28 = .ok (.iconst 0, 1) := by decide +kernel
theorem dX8_least_29 : decode cX8_least 29 = .ok (.istore 6, 2) := by decide +kernel
theorem dX8_least_31 : decode cX8_least 31 = .ok (.iload 6, 2) := by decide +kernel
theorem dX8_least_33 : decode cX8_least 33 = .ok (.bipush 64, 2) := by decide +kernel
theorem dX8_least_35 : decode cX8_least 35 = .ok (.if_icmp .ge 88, 3) := by decide +kernel
theorem dX8_least_38 : decode cX8_least 38 = .ok (.iconst 0, 1) := by decide +kernel
theorem dX8_least_39 : decode cX8_least 39 = .ok (.istore 7, 2) := by decide +kernel
theorem dX8_least_41 : decode cX8_least 41 = .ok (.iconst 0, 1) := by decide +kernel
theorem dX8_least_42 : decode cX8_least 42 = .ok (.istore 8, 2) := by decide +kernel
theorem dX8_least_44 : decode cX8_least 44 = .ok (.iload 8, 2) := by decide +kernel
theorem dX8_least_46 : decode cX8_least 46 = .ok (.bipush 6, 2) := by decide +kernel
theorem dX8_least_48 : decode cX8_least 48 = .ok (.if_icmp .ge 36, 3) := by decide +kernel
theorem dX8_least_51 : decode cX8_least 51 = .ok (.iload 7, 2) := by decide +kernel
theorem dX8_least_53 : decode cX8_least 53 = .ok (.iload 6, 2) := by decide +kernel
theorem dX8_least_55 : decode cX8_least 55 = .ok (.iload 8, 2) := by decide +kernel
theorem dX8_least_57 : decode cX8_least 57 = .ok (.ishr, 1) := by decide +kernel
theorem dX8_least_58 : decode cX8_least 58 = .ok (.iconst 1, 1) := by decide +kernel
theorem dX8_least_59 : decode cX8_least 59 = .ok (.iand, 1) := by decide +kernel
theorem dX8_least_60 : decode cX8_least 60 = .ok (.iconst 1, 1) := by decide +kernel
theorem dX8_least_61 : decode cX8_least 61 = .ok (.if_icmp .ne 13, 3) := by decide +kernel
theorem dX8_least_64 : decode cX8_least 64 = .ok (.aload_n 0, 1) := by decide +kernel
theorem dX8_least_65 : decode cX8_least 65 = .ok (.getfield 29, 3) := by decide +kernel
theorem dX8_least_68 : decode cX8_least 68 = .ok (.iload 8, 2) := by decide +kernel
theorem dX8_least_70 : decode cX8_least 70 = .ok (.iaload, 1) := by decide +kernel
theorem dX8_least_71 : decode cX8_least 71 = .ok (.goto 4, 3) := by decide +kernel
end
section
theorem dX8_least_74 : decode cX8_least 74 = .ok (.iconst 0, 1) := by decide +kernel
theorem dX8_least_75 : decode cX8_least 75 = .ok (.iadd, 1) := by decide +kernel
theorem dX8_least_76 : decode cX8_least 76 = .ok (.istore 7, 2) := by decide +kernel
theorem dX8_least_78 : decode cX8_least 78 = .ok (.iinc 8 1, 3) := by decide +kernel
theorem dX8_least_81 : decode cX8_least 81 = .ok (.goto (-37), 3) := by decide +kernel
theorem dX8_least_84 : decode cX8_least 84 = .ok (.lload_n 2, 1) := by decide +kernel
theorem dX8_least_85 : decode cX8_least 85 = .ok (.iload 6, 2) := by decide +kernel
theorem dX8_least_87 : decode cX8_least 87 = .ok (.lshr, 1) := by decide +kernel
theorem dX8_least_88 : decode cX8_least 88 = .ok (.lconst 1, 1) := by decide +kernel
theorem dX8_least_89 : decode cX8_least 89 = .ok (.land, 1) := by decide +kernel
theorem dX8_least_90 : decode cX8_least 90 = .ok (.lconst 1, 1) := by decide +kernel
theorem dX8_least_91 : decode cX8_least 91 = .ok (.lcmp, 1) := by decide +kernel
theorem dX8_least_92 : decode cX8_least 92 = .ok (.ifCond .ne 25, 3) := by decide +kernel
theorem dX8_least_95 : decode cX8_least 95 = .ok (.iload 4, 2) := by decide +kernel
theorem dX8_least_97 : decode cX8_least 97 = .ok (.bipush (-9), 2) := by decide +kernel
theorem dX8_least_99 : decode cX8_least 99 = .ok (.if_icmp .eq 10, 3) := by decide +kernel
theorem dX8_least_102 : decode cX8_least 102 = .ok (.iload 7, 2) := by decide +kernel
theorem dX8_least_104 : decode cX8_least 104 = .ok (.iload 5, 2) := by decide +kernel
theorem dX8_least_106 : decode cX8_least 106 = .ok (.if_icmp .ge 11, 3) := by decide +kernel
theorem dX8_least_109 : decode cX8_least 109 = .ok (.iload 6, 2) := by decide +kernel
theorem dX8_least_111 : decode cX8_least 111 = .ok (.istore 4, 2) := by decide +kernel
theorem dX8_least_113 : decode cX8_least 113 = .ok (.iload 7, 2) := by decide +kernel
theorem dX8_least_115 : decode cX8_least 115 = .ok (.istore 5, 2) := by decide +kernel
theorem dX8_least_117 : decode cX8_least 117 = .ok (.iinc 6 1, 3) := by decide +kernel
theorem dX8_least_120 : decode cX8_least 120 = .ok (.goto (-89), 3) := by decide +kernel
theorem dX8_least_123 : decode cX8_least 123 = .ok (.iload 4, 2) := by decide +kernel
theorem dX8_least_125 : decode cX8_least 125 = .ok (.bipush (-9), 2) := by decide +kernel
theorem dX8_least_127 : decode cX8_least 127 = .ok (.if_icmp .eq 7, 3) := by decide +kernel
theorem dX8_least_130 : decode cX8_least 130 = .ok (.iload_n 1, 1) := by decide +kernel
theorem dX8_least_131 : decode cX8_least 131 = .ok (.ifCond .ne 8, 3) := by decide +kernel
theorem dX8_least_134 : decode cX8_least 134 = .ok (.iload 4, 2) := by decide +kernel
theorem dX8_least_136 : decode cX8_least 136 = .ok (.goto 5, 3) := by decide +kernel
theorem dX8_least_139 : decode cX8_least 139 = .ok (.iload 5, 2) := by decide +kernel
theorem dX8_least_141 : decode cX8_least 141 = .ok (.ireturn, 1) := by decide +kernel
theorem dX8_weighsOf_0 : decode cX8_weighsOf 0 = .ok (.iload_n 0, 1) := by decide +kernel
theorem dX8_weighsOf_1 : decode cX8_weighsOf 1 = .ok (.ifCond .le 7, 3) := by decide +kernel
theorem dX8_weighsOf_4 : decode cX8_weighsOf 4 = .ok (.iconst 1, 1) := by decide +kernel
theorem dX8_weighsOf_5 : decode cX8_weighsOf 5 = .ok (.goto 4, 3) := by decide +kernel
theorem dX8_weighsOf_8 : decode cX8_weighsOf 8 = .ok (.iconst 0, 1) := by decide +kernel
theorem dX8_weighsOf_9 : decode cX8_weighsOf 9 = .ok (.iload_n 3, 1) := by decide +kernel
theorem dX8_weighsOf_10 : decode cX8_weighsOf 10 = .ok (.iconst 1, 1) := by decide +kernel
theorem dX8_weighsOf_11 : decode cX8_weighsOf 11 = .ok (.iand, 1) := by decide +kernel
theorem dX8_weighsOf_12 : decode cX8_weighsOf 12 = .ok (.iconst 1, 1) := by decide +kernel
theorem dX8_weighsOf_13 : decode cX8_weighsOf 13 = .ok (.if_icmp .ne 7, 3) := by decide +kernel
theorem dX8_weighsOf_16 : decode cX8_weighsOf 16 = .ok (.iconst 1, 1) := by decide +kernel
theorem dX8_weighsOf_17 : decode cX8_weighsOf 17 = .ok (.goto 4, 3) := by decide +kernel
theorem dX8_weighsOf_20 : decode cX8_weighsOf 20 = .ok (.iconst 0, 1) := by decide +kernel
theorem dX8_weighsOf_21 : decode cX8_weighsOf 21 = .ok (.if_icmp .ne 10, 3) := by decide +kernel
theorem dX8_weighsOf_24 : decode cX8_weighsOf 24 = .ok (.iload_n 0, 1) := by decide +kernel
theorem dX8_weighsOf_25 : decode cX8_weighsOf 25 = .ok (.invokestatic 119, 3) := by decide +kernel
theorem dX8_weighsOf_28 : decode cX8_weighsOf 28 = .ok (.goto 4, 3) := by decide +kernel
theorem dX8_weighsOf_31 : decode cX8_weighsOf 31 = .ok (.iconst 0, 1) := by decide +kernel
theorem dX8_weighsOf_32 : decode cX8_weighsOf 32 = .ok (.istore 4, 2) := by decide +kernel
theorem dX8_weighsOf_34 : decode cX8_weighsOf 34 = .ok (.iload 4, 2) := by decide +kernel
theorem dX8_weighsOf_36 : decode cX8_weighsOf 36 = .ok (.iload_n 1, 1) := by decide +kernel
theorem dX8_weighsOf_37 : decode cX8_weighsOf 37 = .ok (.ifCond .le 7, 3) := by decide +kernel
theorem dX8_weighsOf_40 : decode cX8_weighsOf 40 = .ok (.iconst 1, 1) := by decide +kernel
theorem dX8_weighsOf_41 : decode cX8_weighsOf 41 = .ok (.goto 4, 3) := by decide +kernel
theorem dX8_weighsOf_44 : decode cX8_weighsOf 44 = .ok (.iconst 0, 1) := by decide +kernel
theorem dX8_weighsOf_45 : decode cX8_weighsOf 45 = .ok (.iload_n 3, 1) := by decide +kernel
theorem dX8_weighsOf_46 : decode cX8_weighsOf 46 = .ok (.iconst 1, 1) := by decide +kernel
theorem dX8_weighsOf_47 : decode cX8_weighsOf 47 = .ok (.ishr, 1) := by decide +kernel
theorem dX8_weighsOf_48 : decode cX8_weighsOf 48 = .ok (.iconst 1, 1) := by decide +kernel
theorem dX8_weighsOf_49 : decode cX8_weighsOf 49 = .ok (.iand, 1) := by decide +kernel
theorem dX8_weighsOf_50 : decode cX8_weighsOf 50 = .ok (.iconst 1, 1) := by decide +kernel
theorem dX8_weighsOf_51 : decode cX8_weighsOf 51 = .ok (.if_icmp .ne 7, 3) := by decide +kernel
theorem dX8_weighsOf_54 : decode cX8_weighsOf 54 = .ok (.iconst 1, 1) := by decide +kernel
theorem dX8_weighsOf_55 : decode cX8_weighsOf 55 = .ok (.goto 4, 3) := by decide +kernel
theorem dX8_weighsOf_58 : decode cX8_weighsOf 58 = .ok (.iconst 0, 1) := by decide +kernel
theorem dX8_weighsOf_59 : decode cX8_weighsOf 59 = .ok (.if_icmp .ne 10, 3) := by decide +kernel
theorem dX8_weighsOf_62 : decode cX8_weighsOf 62 = .ok (.iload_n 1, 1) := by decide +kernel
theorem dX8_weighsOf_63 : decode cX8_weighsOf 63 = .ok (.invokestatic 119, 3) := by decide +kernel
theorem dX8_weighsOf_66 : decode cX8_weighsOf 66 = .ok (.goto 4, 3) := by decide +kernel
theorem dX8_weighsOf_69 : decode cX8_weighsOf 69 = .ok (.iconst 0, 1) := by decide +kernel
theorem dX8_weighsOf_70 : decode cX8_weighsOf 70 = .ok (.iadd, 1) := by decide +kernel
theorem dX8_weighsOf_71 : decode cX8_weighsOf 71 = .ok (.istore 4, 2) := by decide +kernel
theorem dX8_weighsOf_73 : decode cX8_weighsOf 73 = .ok (.iload 4, 2) := by decide +kernel
theorem dX8_weighsOf_75 : decode cX8_weighsOf 75 = .ok (.iload_n 2, 1) := by decide +kernel
theorem dX8_weighsOf_76 : decode cX8_weighsOf 76 = .ok (.ifCond .le 7, 3) := by decide +kernel
theorem dX8_weighsOf_79 : decode cX8_weighsOf 79 = .ok (.iconst 1, 1) := by decide +kernel
theorem dX8_weighsOf_80 : decode cX8_weighsOf 80 = .ok (.goto 4, 3) := by decide +kernel
theorem dX8_weighsOf_83 : decode cX8_weighsOf 83 = .ok (.iconst 0, 1) := by decide +kernel
theorem dX8_weighsOf_84 : decode cX8_weighsOf 84 = .ok (.iload_n 3, 1) := by decide +kernel
theorem dX8_weighsOf_85 : decode cX8_weighsOf 85 = .ok (.iconst 2, 1) := by decide +kernel
theorem dX8_weighsOf_86 : decode cX8_weighsOf 86 = .ok (.ishr, 1) := by decide +kernel
theorem dX8_weighsOf_87 : decode cX8_weighsOf 87 = .ok (.iconst 1, 1) := by decide +kernel
theorem dX8_weighsOf_88 : decode cX8_weighsOf 88 = .ok (.if_icmp .ne 7, 3) := by decide +kernel
theorem dX8_weighsOf_91 : decode cX8_weighsOf 91 = .ok (.iconst 1, 1) := by decide +kernel
theorem dX8_weighsOf_92 : decode cX8_weighsOf 92 = .ok (.goto 4, 3) := by decide +kernel
theorem dX8_weighsOf_95 : decode cX8_weighsOf 95 = .ok (.iconst 0, 1) := by decide +kernel
theorem dX8_weighsOf_96 : decode cX8_weighsOf 96 = .ok (.if_icmp .ne 10, 3) := by decide +kernel
theorem dX8_weighsOf_99 : decode cX8_weighsOf 99 = .ok (.iload_n 2, 1) := by decide +kernel
theorem dX8_weighsOf_100 : decode cX8_weighsOf 100 = .ok (.invokestatic 119, 3) := by decide +kernel
theorem dX8_weighsOf_103 : decode cX8_weighsOf 103 = .ok (.goto 4, 3) := by decide +kernel
theorem dX8_weighsOf_106 : decode cX8_weighsOf 106 = .ok (.iconst 0, 1) := by decide +kernel
theorem dX8_weighsOf_107 : decode cX8_weighsOf 107 = .ok (.iadd, 1) := by decide +kernel
theorem dX8_weighsOf_108 : decode cX8_weighsOf 108 = .ok (.ireturn, 1) := by decide +kernel
theorem dX8_fits_0 : decode cX8_fits 0 = .ok (.iload_n 1, 1) := by decide +kernel
theorem dX8_fits_1 : decode cX8_fits 1 = .ok (.ifCond .eq 10, 3) := by decide +kernel
theorem dX8_fits_4 : decode cX8_fits 4 = .ok (.iload_n 1, 1) := by decide +kernel
theorem dX8_fits_5 : decode cX8_fits 5 = .ok (.sipush 255, 3) := by decide +kernel
theorem dX8_fits_8 : decode cX8_fits 8 = .ok (.if_icmp .ne 7, 3) := by decide +kernel
theorem dX8_fits_11 : decode cX8_fits 11 = .ok (.iconst 1, 1) := by decide +kernel
theorem dX8_fits_12 : decode cX8_fits 12 = .ok (.goto 4, 3) := by decide +kernel
theorem dX8_fits_15 : decode cX8_fits 15 = .ok (.iconst 0, 1) := by decide +kernel
theorem dX8_fits_16 : decode cX8_fits 16 = .ok (.istore_n 2, 1) := by decide +kernel
theorem dX8_fits_17 : decode cX8_fits 17 = .ok (.iconst 0, 1) := by decide +kernel
theorem dX8_fits_18 : decode cX8_fits 18 = .ok (.istore_n 3, 1) := by decide +kernel
theorem dX8_fits_19 : decode cX8_fits 19 = .ok (.iload_n 3, 1) := by decide +kernel
theorem dX8_fits_20 : decode cX8_fits 20 = .ok (.iconst 5, 1) := by decide +kernel
theorem dX8_fits_21 : decode cX8_fits 21 = .ok (.if_icmp .ge 29, 3) := by decide +kernel
theorem dX8_fits_24 : decode cX8_fits 24 = .ok (.aload_n 0, 1) := by decide +kernel
theorem dX8_fits_25 : decode cX8_fits 25 = .ok (.getfield 32, 3) := by decide +kernel
theorem dX8_fits_28 : decode cX8_fits 28 = .ok (.iload_n 3, 1) := by decide +kernel
theorem dX8_fits_29 : decode cX8_fits 29 = .ok (.iload_n 3, 1) := by decide +kernel
theorem dX8_fits_30 : decode cX8_fits 30 = .ok (.iconst 3, 1) := by decide +kernel
theorem dX8_fits_31 : decode cX8_fits 31 = .ok (.if_icmp .ne 11, 3) := by decide +kernel
theorem dX8_fits_34 : decode cX8_fits 34 = .ok (.iload_n 1, 1) := by decide +kernel
theorem dX8_fits_35 : decode cX8_fits 35 = .ok (.ifCond .ne 7, 3) := by decide +kernel
theorem dX8_fits_38 : decode cX8_fits 38 = .ok (.iconst 1, 1) := by decide +kernel
theorem dX8_fits_39 : decode cX8_fits 39 = .ok (.goto 4, 3) := by decide +kernel
theorem dX8_fits_42 : decode cX8_fits 42 = .ok (.iconst 0, 1) := by decide +kernel
theorem dX8_fits_43 : decode cX8_fits 43 = .ok (.iastore, 1) := by decide +kernel
theorem dX8_fits_44 : decode cX8_fits 44 = .ok (.iinc 3 1, 3) := by decide +kernel
theorem dX8_fits_47 : decode cX8_fits 47 = .ok (.goto (-28), 3) := by decide +kernel
theorem dX8_fits_50 : decode cX8_fits 50 = .ok (.iconst 0, 1) := by decide +kernel
theorem dX8_fits_51 : decode cX8_fits 51 = .ok (.istore_n 3, 1) := by decide +kernel
theorem dX8_fits_52 : decode cX8_fits 52 = .ok (.iload_n 3, 1) := by decide +kernel
theorem dX8_fits_53 : decode cX8_fits 53 = .ok (.sipush 729, 3) := by decide +kernel
theorem dX8_fits_56 : decode cX8_fits 56 = .ok (.if_icmp .ge 211, 3) := by decide +kernel
theorem dX8_fits_59 : decode cX8_fits 59 = .ok (.iload_n 1, 1) := by decide +kernel
theorem dX8_fits_60 : decode cX8_fits 60 = .ok (.ifCond .le 207, 3) := by decide +kernel
theorem dX8_fits_63 : decode cX8_fits 63 = .ok (.iload_n 1, 1) := by decide +kernel
theorem dX8_fits_64 : decode cX8_fits 64 = .ok (.sipush 255, 3) := by decide +kernel
theorem dX8_fits_67 : decode cX8_fits 67 = .ok (.if_icmp .ge 200, 3) := by decide +kernel
theorem dX8_fits_70 : decode cX8_fits 70 = .ok (.iload_n 3, 1) := by decide +kernel
theorem dX8_fits_71 : decode cX8_fits 71 = .ok (.bipush 81, 2) := by decide +kernel
theorem dX8_fits_73 : decode cX8_fits 73 = .ok (.idiv, 1) := by decide +kernel
theorem dX8_fits_74 : decode cX8_fits 74 = .ok (.iconst 4, 1) := by decide +kernel
theorem dX8_fits_75 : decode cX8_fits 75 = .ok (.isub, 1) := by decide +kernel
theorem dX8_fits_76 : decode cX8_fits 76 = .ok (.istore 4, 2) := by decide +kernel
theorem dX8_fits_78 : decode cX8_fits 78 = .ok (.iload_n 3, 1) := by decide +kernel
theorem dX8_fits_79 : decode cX8_fits 79 = .ok (.bipush 9, 2) := by decide +kernel
theorem dX8_fits_81 : decode cX8_fits 81 = .ok (.idiv, 1) := by decide +kernel
theorem dX8_fits_82 : decode cX8_fits 82 = .ok (.bipush 9, 2) := by decide +kernel
theorem dX8_fits_84 : decode cX8_fits 84 = .ok (.irem, 1) := by decide +kernel
theorem dX8_fits_85 : decode cX8_fits 85 = .ok (.iconst 4, 1) := by decide +kernel
theorem dX8_fits_86 : decode cX8_fits 86 = .ok (.isub, 1) := by decide +kernel
theorem dX8_fits_87 : decode cX8_fits 87 = .ok (.istore 5, 2) := by decide +kernel
theorem dX8_fits_89 : decode cX8_fits 89 = .ok (.iload_n 3, 1) := by decide +kernel
theorem dX8_fits_90 : decode cX8_fits 90 = .ok (.bipush 9, 2) := by decide +kernel
theorem dX8_fits_92 : decode cX8_fits 92 = .ok (.irem, 1) := by decide +kernel
theorem dX8_fits_93 : decode cX8_fits 93 = .ok (.iconst 4, 1) := by decide +kernel
theorem dX8_fits_94 : decode cX8_fits 94 = .ok (.isub, 1) := by decide +kernel
theorem dX8_fits_95 : decode cX8_fits 95 = .ok (.istore 6, 2) := by decide +kernel
theorem dX8_fits_97 : decode cX8_fits 97 = .ok (.bipush 99, 2) := by decide +kernel
theorem dX8_fits_99 : decode cX8_fits 99 = .ok (.istore 7, 2) := by decide +kernel
theorem dX8_fits_101 : decode cX8_fits 101 = .ok (.iconst (-1), 1) := by decide +kernel
theorem dX8_fits_102 : decode cX8_fits 102 = .ok (.istore 8, 2) := by decide +kernel
theorem dX8_fits_104 : decode cX8_fits 104 = .ok (.iconst 0, 1) := by decide +kernel
theorem dX8_fits_105 : decode cX8_fits 105 = .ok (.istore 9, 2) := by decide +kernel
theorem dX8_fits_107 : decode cX8_fits 107 = .ok (.iload 9, 2) := by decide +kernel
theorem dX8_fits_109 : decode cX8_fits 109 = .ok (.bipush 8, 2) := by decide +kernel
theorem dX8_fits_111 : decode cX8_fits 111 = .ok (.if_icmp .ge 67, 3) := by decide +kernel
theorem dX8_fits_114 : decode cX8_fits 114 = .ok (.iload 4, 2) := by decide +kernel
theorem dX8_fits_116 : decode cX8_fits 116 = .ok (.iload 5, 2) := by decide +kernel
theorem dX8_fits_118 : decode cX8_fits 118 = .ok (.iload 6, 2) := by decide +kernel
theorem dX8_fits_120 : decode cX8_fits 120 = .ok (.iload 9, 2) := by decide +kernel
theorem dX8_fits_122 : decode cX8_fits 122 = .ok (.invokestatic 181, 3) := by decide +kernel
theorem dX8_fits_125 : decode cX8_fits 125 = .ok (.istore 10, 2) := by decide +kernel
theorem dX8_fits_127 : decode cX8_fits 127 = .ok (.iload_n 1, 1) := by decide +kernel
theorem dX8_fits_128 : decode cX8_fits 128 = .ok (.iload 9, 2) := by decide +kernel
theorem dX8_fits_130 : decode cX8_fits 130 = .ok (.ishr, 1) := by decide +kernel
theorem dX8_fits_131 : decode cX8_fits 131 = .ok (.iconst 1, 1) := by decide +kernel
theorem dX8_fits_132 : decode cX8_fits 132 = .ok (.iand, 1) := by decide +kernel
theorem dX8_fits_133 : decode cX8_fits 133 = .ok (.iconst 1, 1) := by decide +kernel
theorem dX8_fits_134 : decode cX8_fits 134 = .ok (.if_icmp .ne 22, 3) := by decide +kernel
theorem dX8_fits_137 : decode cX8_fits 137 = .ok (.iload 10, 2) := by decide +kernel
theorem dX8_fits_139 : decode cX8_fits 139 = .ok (.iload 7, 2) := by decide +kernel
theorem dX8_fits_141 : decode cX8_fits 141 = .ok (.if_icmp .ge 8, 3) := by decide +kernel
theorem dX8_fits_144 : decode cX8_fits 144 = .ok (.iload 10, 2) := by decide +kernel
theorem dX8_fits_146 : decode cX8_fits 146 = .ok (.goto 5, 3) := by decide +kernel
theorem dX8_fits_149 : decode cX8_fits 149 = .ok (.iload 7, 2) := by decide +kernel
theorem dX8_fits_151 : decode cX8_fits 151 = .ok (.istore 7, 2) := by decide +kernel
theorem dX8_fits_153 : decode cX8_fits 153 = .ok (.goto 19, 3) := by decide +kernel
theorem dX8_fits_156 : decode cX8_fits 156 = .ok (.iload 10, 2) := by decide +kernel
theorem dX8_fits_158 : decode cX8_fits 158 = .ok (.iload 8, 2) := by decide +kernel
theorem dX8_fits_160 : decode cX8_fits 160 = .ok (.if_icmp .le 8, 3) := by decide +kernel
theorem dX8_fits_163 : decode cX8_fits 163 = .ok (.iload 10, 2) := by decide +kernel
theorem dX8_fits_165 : decode cX8_fits 165 = .ok (.goto 5, 3) := by decide +kernel
theorem dX8_fits_168 : decode cX8_fits 168 = .ok (.iload 8, 2) := by decide +kernel
theorem dX8_fits_170 : decode cX8_fits 170 = .ok (.istore 8, 2) := by decide +kernel
theorem dX8_fits_172 : decode cX8_fits 172 = .ok (.iinc 9 1, 3) := by decide +kernel
theorem dX8_fits_175 : decode cX8_fits 175 = .ok (.goto (-68), 3) := by decide +kernel
theorem dX8_fits_178 : decode cX8_fits 178 = .ok (.iload 4, 2) := by decide +kernel
theorem dX8_fits_180 : decode cX8_fits 180 = .ok (.invokestatic 119, 3) := by decide +kernel
theorem dX8_fits_183 : decode cX8_fits 183 = .ok (.iload 5, 2) := by decide +kernel
theorem dX8_fits_185 : decode cX8_fits 185 = .ok (.invokestatic 119, 3) := by decide +kernel
theorem dX8_fits_188 : decode cX8_fits 188 = .ok (.iadd, 1) := by decide +kernel
theorem dX8_fits_189 : decode cX8_fits 189 = .ok (.iload 6, 2) := by decide +kernel
theorem dX8_fits_191 : decode cX8_fits 191 = .ok (.invokestatic 119, 3) := by decide +kernel
theorem dX8_fits_194 : decode cX8_fits 194 = .ok (.iadd, 1) := by decide +kernel
theorem dX8_fits_195 : decode cX8_fits 195 = .ok (.istore 9, 2) := by decide +kernel
theorem dX8_fits_197 : decode cX8_fits 197 = .ok (.iload 8, 2) := by decide +kernel
theorem dX8_fits_199 : decode cX8_fits 199 = .ok (.iload 7, 2) := by decide +kernel
theorem dX8_fits_201 : decode cX8_fits 201 = .ok (.if_icmp .ge 60, 3) := by decide +kernel
theorem dX8_fits_204 : decode cX8_fits 204 = .ok (.iload_n 2, 1) := by decide +kernel
theorem dX8_fits_205 : decode cX8_fits 205 = .ok (.ifCond .eq 14, 3) := by decide +kernel
theorem dX8_fits_208 : decode cX8_fits 208 = .ok (.iload 9, 2) := by decide +kernel
theorem dX8_fits_210 : decode cX8_fits 210 = .ok (.aload_n 0, 1) := by decide +kernel
theorem dX8_fits_211 : decode cX8_fits 211 = .ok (.getfield 32, 3) := by decide +kernel
theorem dX8_fits_214 : decode cX8_fits 214 = .ok (.iconst 4, 1) := by decide +kernel
theorem dX8_fits_215 : decode cX8_fits 215 = .ok (.iaload, 1) := by decide +kernel
theorem dX8_fits_216 : decode cX8_fits 216 = .ok (.if_icmp .ge 45, 3) := by decide +kernel
theorem dX8_fits_219 : decode cX8_fits 219 = .ok (.iconst 1, 1) := by decide +kernel
theorem dX8_fits_220 : decode cX8_fits 220 = .ok (.istore_n 2, 1) := by decide +kernel
theorem dX8_fits_221 : decode cX8_fits 221 = .ok (.aload_n 0, 1) := by decide +kernel
theorem dX8_fits_222 : decode cX8_fits 222 = .ok (.getfield 32, 3) := by decide +kernel
theorem dX8_fits_225 : decode cX8_fits 225 = .ok (.iconst 0, 1) := by decide +kernel
theorem dX8_fits_226 : decode cX8_fits 226 = .ok (.iload 4, 2) := by decide +kernel
theorem dX8_fits_228 : decode cX8_fits 228 = .ok (.iastore, 1) := by decide +kernel
theorem dX8_fits_229 : decode cX8_fits 229 = .ok (.aload_n 0, 1) := by decide +kernel
theorem dX8_fits_230 : decode cX8_fits 230 = .ok (.getfield 32, 3) := by decide +kernel
theorem dX8_fits_233 : decode cX8_fits 233 = .ok (.iconst 1, 1) := by decide +kernel
theorem dX8_fits_234 : decode cX8_fits 234 = .ok (.iload 5, 2) := by decide +kernel
theorem dX8_fits_236 : decode cX8_fits 236 = .ok (.iastore, 1) := by decide +kernel
theorem dX8_fits_237 : decode cX8_fits 237 = .ok (.aload_n 0, 1) := by decide +kernel
theorem dX8_fits_238 : decode cX8_fits 238 = .ok (.getfield 32, 3) := by decide +kernel
theorem dX8_fits_241 : decode cX8_fits 241 = .ok (.iconst 2, 1) := by decide +kernel
theorem dX8_fits_242 : decode cX8_fits 242 = .ok (.iload 6, 2) := by decide +kernel
theorem dX8_fits_244 : decode cX8_fits 244 = .ok (.iastore, 1) := by decide +kernel
theorem dX8_fits_245 : decode cX8_fits 245 = .ok (.aload_n 0, 1) := by decide +kernel
theorem dX8_fits_246 : decode cX8_fits 246 = .ok (.getfield 32, 3) := by decide +kernel
theorem dX8_fits_249 : decode cX8_fits 249 = .ok (.iconst 3, 1) := by decide +kernel
theorem dX8_fits_250 : decode cX8_fits 250 = .ok (.iload 7, 2) := by decide +kernel
theorem dX8_fits_252 : decode cX8_fits 252 = .ok (.iastore, 1) := by decide +kernel
theorem dX8_fits_253 : decode cX8_fits 253 = .ok (.aload_n 0, 1) := by decide +kernel
theorem dX8_fits_254 : decode cX8_fits 254 = .ok (.getfield 32, 3) := by decide +kernel
theorem dX8_fits_257 : decode cX8_fits 257 = .ok (.iconst 4, 1) := by decide +kernel
theorem dX8_fits_258 : decode cX8_fits 258 = .ok (.iload 9, 2) := by decide +kernel
theorem dX8_fits_260 : decode cX8_fits 260 = .ok (.iastore, 1) := by decide +kernel
theorem dX8_fits_261 : decode cX8_fits 261 = .ok (.iinc 3 1, 3) := by decide +kernel
theorem dX8_fits_264 : decode cX8_fits 264 = .ok (.goto (-212), 3) := by decide +kernel
theorem dX8_fits_267 : decode cX8_fits 267 = .ok (.iload_n 2, 1) := by decide +kernel
theorem dX8_fits_268 : decode cX8_fits 268 = .ok (.ireturn, 1) := by decide +kernel
theorem dX8_fit_0 : decode cX8_fit 0 = .ok (.aload_n 0, 1) := by decide +kernel
theorem dX8_fit_1 : decode cX8_fit 1 = .ok (.iconst 0, 1) := by decide +kernel
theorem dX8_fit_2 : decode cX8_fit 2 = .ok (.putfield 35, 3) := by decide +kernel
theorem dX8_fit_5 : decode cX8_fit 5 = .ok (.iload_n 1, 1) := by decide +kernel
theorem dX8_fit_6 : decode cX8_fit 6 = .ok (.iconst 0, 1) := by decide +kernel
theorem dX8_fit_7 : decode cX8_fit 7 = .ok (.sipush 255, 3) := by decide +kernel
theorem dX8_fit_10 : decode cX8_fit 10 = .ok (.invokestatic 38, 3) := by decide +kernel
theorem dX8_fit_13 : decode cX8_fit 13 = .ok (.ifCond .eq 29, 3) := by decide +kernel
theorem dX8_fit_16 : decode cX8_fit 16 = .ok (.iload_n 2, 1) := by decide +kernel
theorem dX8_fit_17 : decode cX8_fit 17 = .ok (.iconst 0, 1) := by decide +kernel
theorem dX8_fit_18 : decode cX8_fit 18 = .ok (.iconst 4, 1) := by decide +kernel
theorem dX8_fit_19 : decode cX8_fit 19 = .ok (.invokestatic 38, 3) := by decide +kernel
theorem dX8_fit_22 : decode cX8_fit 22 = .ok (.ifCond .eq 20, 3) := by decide +kernel
theorem dX8_fit_25 : decode cX8_fit 25 = .ok (.aload_n 0, 1) := by decide +kernel
theorem dX8_fit_26 : decode cX8_fit 26 = .ok (.iload_n 1, 1) := by decide +kernel
theorem dX8_fit_27 : decode cX8_fit 27 = .ok (.invokevirtual 185, 3) := by decide +kernel
theorem dX8_fit_30 : decode cX8_fit 30 = .ok (.ifCond .eq 12, 3) := by decide +kernel
theorem dX8_fit_33 : decode cX8_fit 33 = .ok (.aload_n 0, 1) := by decide +kernel
theorem dX8_fit_34 : decode cX8_fit 34 = .ok (.getfield 32, 3) := by decide +kernel
theorem dX8_fit_37 : decode cX8_fit 37 = .ok (.iload_n 2, 1) := by decide +kernel
theorem dX8_fit_38 : decode cX8_fit 38 = .ok (.iaload, 1) := by decide +kernel
theorem dX8_fit_39 : decode cX8_fit 39 = .ok (.goto 5, 3) := by decide +kernel
theorem dX8_fit_42 : decode cX8_fit 42 = .ok (.ldc 145, 2) := by decide +kernel
theorem dX8_fit_44 : decode cX8_fit 44 = .ok (.ireturn, 1) := by decide +kernel
theorem dX8_count_0 : decode cX8_count 0 = .ok (.aload_n 0, 1) := by decide +kernel
theorem dX8_count_1 : decode cX8_count 1 = .ok (.iconst 0, 1) := by decide +kernel
theorem dX8_count_2 : decode cX8_count 2 = .ok (.putfield 35, 3) := by decide +kernel
theorem dX8_count_5 : decode cX8_count 5 = .ok (.aload_n 0, 1) := by decide +kernel
theorem dX8_count_6 : decode cX8_count 6 = .ok (.invokevirtual 171, 3) := by decide +kernel
theorem dX8_count_9 : decode cX8_count 9 = .ok (.lstore_n 2, 1) := by decide +kernel
theorem dX8_count_10 : decode cX8_count 10 = .ok (.iconst 0, 1) := by decide +kernel
theorem dX8_count_11 : decode cX8_count 11 = .ok (.istore 4, 2) := by decide +kernel
theorem dX8_count_13 : decode cX8_count 13 = .ok (.iconst 0, 1) := by decide +kernel
theorem dX8_count_14 : decode cX8_count 14 = .ok (.istore 5, 2) := by decide +kernel
theorem dX8_count_16 : decode cX8_count 16 = .ok (.iload 5, 2) := by decide +kernel
theorem dX8_count_18 : decode cX8_count 18 = .ok (.bipush 64, 2) := by decide +kernel
theorem dX8_count_20 : decode cX8_count 20 = .ok (.if_icmp .ge 21, 3) := by decide +kernel
theorem dX8_count_23 : decode cX8_count 23 = .ok (.iload 4, 2) := by decide +kernel
theorem dX8_count_25 : decode cX8_count 25 = .ok (.lload_n 2, 1) := by decide +kernel
theorem dX8_count_26 : decode cX8_count 26 = .ok (.iload 5, 2) := by decide +kernel
theorem dX8_count_28 : decode cX8_count 28 = .ok (.lshr, 1) := by decide +kernel
theorem dX8_count_29 : decode cX8_count 29 = .ok (.lconst 1, 1) := by decide +kernel
theorem dX8_count_30 : decode cX8_count 30 = .ok (.land, 1) := by decide +kernel
theorem dX8_count_31 : decode cX8_count 31 = .ok (.l2i, 1) := by decide +kernel
theorem dX8_count_32 : decode cX8_count 32 = .ok (.iadd, 1) := by decide +kernel
theorem dX8_count_33 : decode cX8_count 33 = .ok (.istore 4, 2) := by decide +kernel
theorem dX8_count_35 : decode cX8_count 35 = .ok (.iinc 5 1, 3) := by decide +kernel
theorem dX8_count_38 : decode cX8_count 38 = .ok (.goto (-22), 3) := by decide +kernel
theorem dX8_count_41 : decode cX8_count 41 = .ok (.iload_n 1, 1) := by decide +kernel
theorem dX8_count_42 : decode cX8_count 42 = .ok (.ifCond .ne 10, 3) := by decide +kernel
theorem dX8_count_45 : decode cX8_count 45 = .ok (.aload_n 0, 1) := by decide +kernel
theorem dX8_count_46 : decode cX8_count 46 = .ok (.getfield 106, 3) := by decide +kernel
theorem dX8_count_49 : decode cX8_count 49 = .ok (.goto 50, 3) := by decide +kernel
theorem dX8_count_52 : decode cX8_count 52 = .ok (.iload_n 1, 1) := by decide +kernel
theorem dX8_count_53 : decode cX8_count 53 = .ok (.iconst 1, 1) := by decide +kernel
theorem dX8_count_54 : decode cX8_count 54 = .ok (.if_icmp .ne 10, 3) := by decide +kernel
theorem dX8_count_57 : decode cX8_count 57 = .ok (.aload_n 0, 1) := by decide +kernel
theorem dX8_count_58 : decode cX8_count 58 = .ok (.getfield 109, 3) := by decide +kernel
theorem dX8_count_61 : decode cX8_count 61 = .ok (.goto 38, 3) := by decide +kernel
theorem dX8_count_64 : decode cX8_count 64 = .ok (.iload_n 1, 1) := by decide +kernel
theorem dX8_count_65 : decode cX8_count 65 = .ok (.iconst 2, 1) := by decide +kernel
theorem dX8_count_66 : decode cX8_count 66 = .ok (.if_icmp .ne 10, 3) := by decide +kernel
theorem dX8_count_69 : decode cX8_count 69 = .ok (.aload_n 0, 1) := by decide +kernel
theorem dX8_count_70 : decode cX8_count 70 = .ok (.getfield 112, 3) := by decide +kernel
theorem dX8_count_73 : decode cX8_count 73 = .ok (.goto 26, 3) := by decide +kernel
theorem dX8_count_76 : decode cX8_count 76 = .ok (.iload_n 1, 1) := by decide +kernel
theorem dX8_count_77 : decode cX8_count 77 = .ok (.iconst 3, 1) := by decide +kernel
theorem dX8_count_78 : decode cX8_count 78 = .ok (.if_icmp .ne 8, 3) := by decide +kernel
theorem dX8_count_81 : decode cX8_count 81 = .ok (.iload 4, 2) := by decide +kernel
theorem dX8_count_83 : decode cX8_count 83 = .ok (.goto 16, 3) := by decide +kernel
theorem dX8_count_86 : decode cX8_count 86 = .ok (.iload_n 1, 1) := by decide +kernel
theorem dX8_count_87 : decode cX8_count 87 = .ok (.iconst 4, 1) := by decide +kernel
theorem dX8_count_88 : decode cX8_count 88 = .ok (.if_icmp .ne 10, 3) := by decide +kernel
theorem dX8_count_91 : decode cX8_count 91 = .ok (.aload_n 0, 1) := by decide +kernel
theorem dX8_count_92 : decode cX8_count 92 = .ok (.getfield 42, 3) := by decide +kernel
theorem dX8_count_95 : decode cX8_count 95 = .ok (.goto 4, 3) := by decide +kernel
theorem dX8_count_98 : decode cX8_count 98 = .ok (.iconst (-1), 1) := by decide +kernel
theorem dX8_count_99 : decode cX8_count 99 = .ok (.ireturn, 1) := by decide +kernel
theorem dJ6_bitCount_0f7a4_0 : decode cJ6_bitCount_0f7a4 0 = .ok (.iload_n 0, 1) := by decide +kernel
theorem dJ6_bitCount_0f7a4_1 : decode cJ6_bitCount_0f7a4 1 = .ok (.iload_n 0, 1) := by decide +kernel
theorem dJ6_bitCount_0f7a4_2 : decode cJ6_bitCount_0f7a4 2 = .ok (.iconst 1, 1) := by decide +kernel
theorem dJ6_bitCount_0f7a4_3 : decode cJ6_bitCount_0f7a4 3 = .ok (.iushr, 1) := by decide +kernel
theorem dJ6_bitCount_0f7a4_4 : decode cJ6_bitCount_0f7a4 4 = .ok (.ldc_w 265, 3) := by decide +kernel
theorem dJ6_bitCount_0f7a4_7 : decode cJ6_bitCount_0f7a4 7 = .ok (.iand, 1) := by decide +kernel
theorem dJ6_bitCount_0f7a4_8 : decode cJ6_bitCount_0f7a4 8 = .ok (.isub, 1) := by decide +kernel
theorem dJ6_bitCount_0f7a4_9 : decode cJ6_bitCount_0f7a4 9 = .ok (.istore_n 0, 1) := by decide +kernel
theorem dJ6_bitCount_0f7a4_10 : decode cJ6_bitCount_0f7a4 10 = .ok (.iload_n 0, 1) := by decide +kernel
theorem dJ6_bitCount_0f7a4_11 : decode cJ6_bitCount_0f7a4 11 = .ok (.ldc_w 266, 3) := by decide +kernel
theorem dJ6_bitCount_0f7a4_14 : decode cJ6_bitCount_0f7a4 14 = .ok (.iand, 1) := by decide +kernel
theorem dJ6_bitCount_0f7a4_15 : decode cJ6_bitCount_0f7a4 15 = .ok (.iload_n 0, 1) := by decide +kernel
theorem dJ6_bitCount_0f7a4_16 : decode cJ6_bitCount_0f7a4 16 = .ok (.iconst 2, 1) := by decide +kernel
theorem dJ6_bitCount_0f7a4_17 : decode cJ6_bitCount_0f7a4 17 = .ok (.iushr, 1) := by decide +kernel
theorem dJ6_bitCount_0f7a4_18 : decode cJ6_bitCount_0f7a4 18 = .ok (.ldc_w 266, 3) := by decide +kernel
theorem dJ6_bitCount_0f7a4_21 : decode cJ6_bitCount_0f7a4 21 = .ok (.iand, 1) := by decide +kernel
theorem dJ6_bitCount_0f7a4_22 : decode cJ6_bitCount_0f7a4 22 = .ok (.iadd, 1) := by decide +kernel
theorem dJ6_bitCount_0f7a4_23 : decode cJ6_bitCount_0f7a4 23 = .ok (.istore_n 0, 1) := by decide +kernel
theorem dJ6_bitCount_0f7a4_24 : decode cJ6_bitCount_0f7a4 24 = .ok (.iload_n 0, 1) := by decide +kernel
theorem dJ6_bitCount_0f7a4_25 : decode cJ6_bitCount_0f7a4 25 = .ok (.iload_n 0, 1) := by decide +kernel
theorem dJ6_bitCount_0f7a4_26 : decode cJ6_bitCount_0f7a4 26 = .ok (.iconst 4, 1) := by decide +kernel
theorem dJ6_bitCount_0f7a4_27 : decode cJ6_bitCount_0f7a4 27 = .ok (.iushr, 1) := by decide +kernel
theorem dJ6_bitCount_0f7a4_28 : decode cJ6_bitCount_0f7a4 28 = .ok (.iadd, 1) := by decide +kernel
theorem dJ6_bitCount_0f7a4_29 : decode cJ6_bitCount_0f7a4 29 = .ok (.ldc_w 267, 3) := by decide +kernel
theorem dJ6_bitCount_0f7a4_32 : decode cJ6_bitCount_0f7a4 32 = .ok (.iand, 1) := by decide +kernel
theorem dJ6_bitCount_0f7a4_33 : decode cJ6_bitCount_0f7a4 33 = .ok (.istore_n 0, 1) := by decide +kernel
theorem dJ6_bitCount_0f7a4_34 : decode cJ6_bitCount_0f7a4 34 = .ok (.iload_n 0, 1) := by decide +kernel
theorem dJ6_bitCount_0f7a4_35 : decode cJ6_bitCount_0f7a4 35 = .ok (.iload_n 0, 1) := by decide +kernel
theorem dJ6_bitCount_0f7a4_36 : decode cJ6_bitCount_0f7a4 36 = .ok (.bipush 8, 2) := by decide +kernel
theorem dJ6_bitCount_0f7a4_38 : decode cJ6_bitCount_0f7a4 38 = .ok (.iushr, 1) := by decide +kernel
theorem dJ6_bitCount_0f7a4_39 : decode cJ6_bitCount_0f7a4 39 = .ok (.iadd, 1) := by decide +kernel
theorem dJ6_bitCount_0f7a4_40 : decode cJ6_bitCount_0f7a4 40 = .ok (.istore_n 0, 1) := by decide +kernel
theorem dJ6_bitCount_0f7a4_41 : decode cJ6_bitCount_0f7a4 41 = .ok (.iload_n 0, 1) := by decide +kernel
theorem dJ6_bitCount_0f7a4_42 : decode cJ6_bitCount_0f7a4 42 = .ok (.iload_n 0, 1) := by decide +kernel
theorem dJ6_bitCount_0f7a4_43 : decode cJ6_bitCount_0f7a4 43 = .ok (.bipush 16, 2) := by decide +kernel
theorem dJ6_bitCount_0f7a4_45 : decode cJ6_bitCount_0f7a4 45 = .ok (.iushr, 1) := by decide +kernel
theorem dJ6_bitCount_0f7a4_46 : decode cJ6_bitCount_0f7a4 46 = .ok (.iadd, 1) := by decide +kernel
theorem dJ6_bitCount_0f7a4_47 : decode cJ6_bitCount_0f7a4 47 = .ok (.istore_n 0, 1) := by decide +kernel
theorem dJ6_bitCount_0f7a4_48 : decode cJ6_bitCount_0f7a4 48 = .ok (.iload_n 0, 1) := by decide +kernel
theorem dJ6_bitCount_0f7a4_49 : decode cJ6_bitCount_0f7a4 49 = .ok (.bipush 63, 2) := by decide +kernel
theorem dJ6_bitCount_0f7a4_51 : decode cJ6_bitCount_0f7a4 51 = .ok (.iand, 1) := by decide +kernel
theorem dJ6_bitCount_0f7a4_52 : decode cJ6_bitCount_0f7a4 52 = .ok (.ireturn, 1) := by decide +kernel
theorem dJ13_bitCount_95d88_0 : decode cJ13_bitCount_95d88 0 = .ok (.lload_n 0, 1) := by decide +kernel
theorem dJ13_bitCount_95d88_1 : decode cJ13_bitCount_95d88 1 = .ok (.lload_n 0, 1) := by decide +kernel
theorem dJ13_bitCount_95d88_2 : decode cJ13_bitCount_95d88 2 = .ok (.iconst 1, 1) := by decide +kernel
theorem dJ13_bitCount_95d88_3 : decode cJ13_bitCount_95d88 3 = .ok (.lushr, 1) := by decide +kernel
theorem dJ13_bitCount_95d88_4 : decode cJ13_bitCount_95d88 4 = .ok (.ldc2_w 314, 3) := by decide +kernel
theorem dJ13_bitCount_95d88_7 : decode cJ13_bitCount_95d88 7 = .ok (.land, 1) := by decide +kernel
theorem dJ13_bitCount_95d88_8 : decode cJ13_bitCount_95d88 8 = .ok (.lsub, 1) := by decide +kernel
theorem dJ13_bitCount_95d88_9 : decode cJ13_bitCount_95d88 9 = .ok (.lstore_n 0, 1) := by decide +kernel
theorem dJ13_bitCount_95d88_10 : decode cJ13_bitCount_95d88 10 = .ok (.lload_n 0, 1) := by decide +kernel
theorem dJ13_bitCount_95d88_11 : decode cJ13_bitCount_95d88 11 = .ok (.ldc2_w 316, 3) := by decide +kernel
theorem dJ13_bitCount_95d88_14 : decode cJ13_bitCount_95d88 14 = .ok (.land, 1) := by decide +kernel
theorem dJ13_bitCount_95d88_15 : decode cJ13_bitCount_95d88 15 = .ok (.lload_n 0, 1) := by decide +kernel
theorem dJ13_bitCount_95d88_16 : decode cJ13_bitCount_95d88 16 = .ok (.iconst 2, 1) := by decide +kernel
theorem dJ13_bitCount_95d88_17 : decode cJ13_bitCount_95d88 17 = .ok (.lushr, 1) := by decide +kernel
theorem dJ13_bitCount_95d88_18 : decode cJ13_bitCount_95d88 18 = .ok (.ldc2_w 316, 3) := by decide +kernel
theorem dJ13_bitCount_95d88_21 : decode cJ13_bitCount_95d88 21 = .ok (.land, 1) := by decide +kernel
theorem dJ13_bitCount_95d88_22 : decode cJ13_bitCount_95d88 22 = .ok (.ladd, 1) := by decide +kernel
theorem dJ13_bitCount_95d88_23 : decode cJ13_bitCount_95d88 23 = .ok (.lstore_n 0, 1) := by decide +kernel
theorem dJ13_bitCount_95d88_24 : decode cJ13_bitCount_95d88 24 = .ok (.lload_n 0, 1) := by decide +kernel
theorem dJ13_bitCount_95d88_25 : decode cJ13_bitCount_95d88 25 = .ok (.lload_n 0, 1) := by decide +kernel
theorem dJ13_bitCount_95d88_26 : decode cJ13_bitCount_95d88 26 = .ok (.iconst 4, 1) := by decide +kernel
theorem dJ13_bitCount_95d88_27 : decode cJ13_bitCount_95d88 27 = .ok (.lushr, 1) := by decide +kernel
theorem dJ13_bitCount_95d88_28 : decode cJ13_bitCount_95d88 28 = .ok (.ladd, 1) := by decide +kernel
theorem dJ13_bitCount_95d88_29 : decode cJ13_bitCount_95d88 29 = .ok (.ldc2_w 318, 3) := by decide +kernel
theorem dJ13_bitCount_95d88_32 : decode cJ13_bitCount_95d88 32 = .ok (.land, 1) := by decide +kernel
theorem dJ13_bitCount_95d88_33 : decode cJ13_bitCount_95d88 33 = .ok (.lstore_n 0, 1) := by decide +kernel
theorem dJ13_bitCount_95d88_34 : decode cJ13_bitCount_95d88 34 = .ok (.lload_n 0, 1) := by decide +kernel
theorem dJ13_bitCount_95d88_35 : decode cJ13_bitCount_95d88 35 = .ok (.lload_n 0, 1) := by decide +kernel
theorem dJ13_bitCount_95d88_36 : decode cJ13_bitCount_95d88 36 = .ok (.bipush 8, 2) := by decide +kernel
theorem dJ13_bitCount_95d88_38 : decode cJ13_bitCount_95d88 38 = .ok (.lushr, 1) := by decide +kernel
theorem dJ13_bitCount_95d88_39 : decode cJ13_bitCount_95d88 39 = .ok (.ladd, 1) := by decide +kernel
theorem dJ13_bitCount_95d88_40 : decode cJ13_bitCount_95d88 40 = .ok (.lstore_n 0, 1) := by decide +kernel
theorem dJ13_bitCount_95d88_41 : decode cJ13_bitCount_95d88 41 = .ok (.lload_n 0, 1) := by decide +kernel
theorem dJ13_bitCount_95d88_42 : decode cJ13_bitCount_95d88 42 = .ok (.lload_n 0, 1) := by decide +kernel
theorem dJ13_bitCount_95d88_43 : decode cJ13_bitCount_95d88 43 = .ok (.bipush 16, 2) := by decide +kernel
theorem dJ13_bitCount_95d88_45 : decode cJ13_bitCount_95d88 45 = .ok (.lushr, 1) := by decide +kernel
theorem dJ13_bitCount_95d88_46 : decode cJ13_bitCount_95d88 46 = .ok (.ladd, 1) := by decide +kernel
theorem dJ13_bitCount_95d88_47 : decode cJ13_bitCount_95d88 47 = .ok (.lstore_n 0, 1) := by decide +kernel
theorem dJ13_bitCount_95d88_48 : decode cJ13_bitCount_95d88 48 = .ok (.lload_n 0, 1) := by decide +kernel
theorem dJ13_bitCount_95d88_49 : decode cJ13_bitCount_95d88 49 = .ok (.lload_n 0, 1) := by decide +kernel
theorem dJ13_bitCount_95d88_50 : decode cJ13_bitCount_95d88 50 = .ok (.bipush 32, 2) := by decide +kernel
theorem dJ13_bitCount_95d88_52 : decode cJ13_bitCount_95d88 52 = .ok (.lushr, 1) := by decide +kernel
theorem dJ13_bitCount_95d88_53 : decode cJ13_bitCount_95d88 53 = .ok (.ladd, 1) := by decide +kernel
theorem dJ13_bitCount_95d88_54 : decode cJ13_bitCount_95d88 54 = .ok (.lstore_n 0, 1) := by decide +kernel
theorem dJ13_bitCount_95d88_55 : decode cJ13_bitCount_95d88 55 = .ok (.lload_n 0, 1) := by decide +kernel
theorem dJ13_bitCount_95d88_56 : decode cJ13_bitCount_95d88 56 = .ok (.l2i, 1) := by decide +kernel
theorem dJ13_bitCount_95d88_57 : decode cJ13_bitCount_95d88 57 = .ok (.bipush 127, 2) := by decide +kernel
theorem dJ13_bitCount_95d88_59 : decode cJ13_bitCount_95d88 59 = .ok (.iand, 1) := by decide +kernel
theorem dJ13_bitCount_95d88_60 : decode cJ13_bitCount_95d88 60 = .ok (.ireturn, 1) := by decide +kernel
theorem dJ9_abs_0f7a4_0 : decode cJ9_abs_0f7a4 0 = .ok (.iload_n 0, 1) := by decide +kernel
theorem dJ9_abs_0f7a4_1 : decode cJ9_abs_0f7a4 1 = .ok (.ifCond .ge 8, 3) := by decide +kernel
theorem dJ9_abs_0f7a4_4 : decode cJ9_abs_0f7a4 4 = .ok (.iload_n 0, 1) := by decide +kernel
theorem dJ9_abs_0f7a4_5 : decode cJ9_abs_0f7a4 5 = .ok (.ineg, 1) := by decide +kernel
theorem dJ9_abs_0f7a4_6 : decode cJ9_abs_0f7a4 6 = .ok (.goto 4, 3) := by decide +kernel
theorem dJ9_abs_0f7a4_9 : decode cJ9_abs_0f7a4 9 = .ok (.iload_n 0, 1) := by decide +kernel
theorem dJ9_abs_0f7a4_10 : decode cJ9_abs_0f7a4 10 = .ok (.ireturn, 1) := by decide +kernel
theorem dJ9_max_7cf53_0 : decode cJ9_max_7cf53 0 = .ok (.iload_n 0, 1) := by decide +kernel
theorem dJ9_max_7cf53_1 : decode cJ9_max_7cf53 1 = .ok (.iload_n 1, 1) := by decide +kernel
theorem dJ9_max_7cf53_2 : decode cJ9_max_7cf53 2 = .ok (.if_icmp .lt 7, 3) := by decide +kernel
theorem dJ9_max_7cf53_5 : decode cJ9_max_7cf53 5 = .ok (.iload_n 0, 1) := by decide +kernel
theorem dJ9_max_7cf53_6 : decode cJ9_max_7cf53 6 = .ok (.goto 4, 3) := by decide +kernel
theorem dJ9_max_7cf53_9 : decode cJ9_max_7cf53 9 = .ok (.iload_n 1, 1) := by decide +kernel
theorem dJ9_max_7cf53_10 : decode cJ9_max_7cf53 10 = .ok (.ireturn, 1) := by decide +kernel
theorem dJ9_min_7cf53_0 : decode cJ9_min_7cf53 0 = .ok (.iload_n 0, 1) := by decide +kernel
theorem dJ9_min_7cf53_1 : decode cJ9_min_7cf53 1 = .ok (.iload_n 1, 1) := by decide +kernel
theorem dJ9_min_7cf53_2 : decode cJ9_min_7cf53 2 = .ok (.if_icmp .gt 7, 3) := by decide +kernel
theorem dJ9_min_7cf53_5 : decode cJ9_min_7cf53 5 = .ok (.iload_n 0, 1) := by decide +kernel
theorem dJ9_min_7cf53_6 : decode cJ9_min_7cf53 6 = .ok (.goto 4, 3) := by decide +kernel
theorem dJ9_min_7cf53_9 : decode cJ9_min_7cf53 9 = .ok (.iload_n 1, 1) := by decide +kernel
theorem dJ9_min_7cf53_10 : decode cJ9_min_7cf53 10 = .ok (.ireturn, 1) := by decide +kernel
theorem dJ0_length_8abf5_0 : decode cJ0_length_8abf5 0 = .ok (.aload_n 0, 1) := by decide +kernel
theorem dJ0_length_8abf5_1 : decode cJ0_length_8abf5 1 = .ok (.getfield 9, 3) := by decide +kernel
theorem dJ0_length_8abf5_4 : decode cJ0_length_8abf5 4 = .ok (.arraylength, 1) := by decide +kernel
theorem dJ0_length_8abf5_5 : decode cJ0_length_8abf5 5 = .ok (.aload_n 0, 1) := by decide +kernel
theorem dJ0_length_8abf5_6 : decode cJ0_length_8abf5 6 = .ok (.invokevirtual 335, 3) := by decide +kernel
theorem dJ0_length_8abf5_9 : decode cJ0_length_8abf5 9 = .ok (.ishr, 1) := by decide +kernel
theorem dJ0_length_8abf5_10 : decode cJ0_length_8abf5 10 = .ok (.ireturn, 1) := by decide +kernel
theorem dJ0_charAt_5068e_0 : decode cJ0_charAt_5068e 0 = .ok (.aload_n 0, 1) := by decide +kernel
theorem dJ0_charAt_5068e_1 : decode cJ0_charAt_5068e 1 = .ok (.invokevirtual 492, 3) := by decide +kernel
theorem dJ0_charAt_5068e_4 : decode cJ0_charAt_5068e 4 = .ok (.ifCond .eq 12, 3) := by decide +kernel
theorem dJ0_charAt_5068e_7 : decode cJ0_charAt_5068e 7 = .ok (.aload_n 0, 1) := by decide +kernel
theorem dJ0_charAt_5068e_8 : decode cJ0_charAt_5068e 8 = .ok (.getfield 9, 3) := by decide +kernel
theorem dJ0_charAt_5068e_11 : decode cJ0_charAt_5068e 11 = .ok (.iload_n 1, 1) := by decide +kernel
theorem dJ0_charAt_5068e_12 : decode cJ0_charAt_5068e 12 = .ok (.invokestatic 495, 3) := by decide +kernel
theorem dJ0_charAt_5068e_15 : decode cJ0_charAt_5068e 15 = .ok (.ireturn, 1) := by decide +kernel
theorem dJ0_charAt_5068e_16 : decode cJ0_charAt_5068e 16 = .ok (.aload_n 0, 1) := by decide +kernel
theorem dJ0_charAt_5068e_17 : decode cJ0_charAt_5068e 17 = .ok (.getfield 9, 3) := by decide +kernel
theorem dJ0_charAt_5068e_20 : decode cJ0_charAt_5068e 20 = .ok (.iload_n 1, 1) := by decide +kernel
theorem dJ0_charAt_5068e_21 : decode cJ0_charAt_5068e 21 = .ok (.invokestatic 498, 3) := by decide +kernel
theorem dJ0_charAt_5068e_24 : decode cJ0_charAt_5068e 24 = .ok (.ireturn, 1) := by decide +kernel
theorem dJ0_coder_7d493_0 : decode cJ0_coder_7d493 0 = .ok (.getstatic 38, 3) := by decide +kernel
theorem dJ0_coder_7d493_3 : decode cJ0_coder_7d493 3 = .ok (.ifCond .eq 10, 3) := by decide +kernel
theorem dJ0_coder_7d493_6 : decode cJ0_coder_7d493 6 = .ok (.aload_n 0, 1) := by decide +kernel
theorem dJ0_coder_7d493_7 : decode cJ0_coder_7d493 7 = .ok (.getfield 15, 3) := by decide +kernel
theorem dJ0_coder_7d493_10 : decode cJ0_coder_7d493 10 = .ok (.goto 4, 3) := by decide +kernel
theorem dJ0_coder_7d493_13 : decode cJ0_coder_7d493 13 = .ok (.iconst 1, 1) := by decide +kernel
theorem dJ0_coder_7d493_14 : decode cJ0_coder_7d493 14 = .ok (.ireturn, 1) := by decide +kernel
theorem dJ0_isLatin1_aae02_0 : decode cJ0_isLatin1_aae02 0 = .ok (.getstatic 38, 3) := by decide +kernel
theorem dJ0_isLatin1_aae02_3 : decode cJ0_isLatin1_aae02 3 = .ok (.ifCond .eq 14, 3) := by decide +kernel
theorem dJ0_isLatin1_aae02_6 : decode cJ0_isLatin1_aae02 6 = .ok (.aload_n 0, 1) := by decide +kernel
theorem dJ0_isLatin1_aae02_7 : decode cJ0_isLatin1_aae02 7 = .ok (.getfield 15, 3) := by decide +kernel
theorem dJ0_isLatin1_aae02_10 : decode cJ0_isLatin1_aae02 10 = .ok (.ifCond .ne 7, 3) := by decide +kernel
theorem dJ0_isLatin1_aae02_13 : decode cJ0_isLatin1_aae02 13 = .ok (.iconst 1, 1) := by decide +kernel
theorem dJ0_isLatin1_aae02_14 : decode cJ0_isLatin1_aae02 14 = .ok (.goto 4, 3) := by decide +kernel
theorem dJ0_isLatin1_aae02_17 : decode cJ0_isLatin1_aae02 17 = .ok (.iconst 0, 1) := by decide +kernel
theorem dJ0_isLatin1_aae02_18 : decode cJ0_isLatin1_aae02 18 = .ok (.ireturn, 1) := by decide +kernel
theorem dJ0_checkIndex_df160_0 : decode cJ0_checkIndex_df160 0 = .ok (.iload_n 0, 1) := by decide +kernel
theorem dJ0_checkIndex_df160_1 : decode cJ0_checkIndex_df160 1 = .ok (.iload_n 1, 1) := by decide +kernel
theorem dJ0_checkIndex_df160_2 : decode cJ0_checkIndex_df160 2 = .ok (.getstatic 1053, 3) := by decide +kernel
theorem dJ0_checkIndex_df160_5 : decode cJ0_checkIndex_df160 5 = .ok (.invokestatic 1059, 3) := by decide +kernel
theorem dJ0_checkIndex_df160_8 : decode cJ0_checkIndex_df160 8 = .ok (.pop, 1) := by decide +kernel
theorem dJ0_checkIndex_df160_9 : decode cJ0_checkIndex_df160 9 = .ok (.return_, 1) := by decide +kernel
theorem dJ1_charAt_3b067_0 : decode cJ1_charAt_3b067 0 = .ok (.iload_n 1, 1) := by decide +kernel
theorem dJ1_charAt_3b067_1 : decode cJ1_charAt_3b067 1 = .ok (.aload_n 0, 1) := by decide +kernel
theorem dJ1_charAt_3b067_2 : decode cJ1_charAt_3b067 2 = .ok (.arraylength, 1) := by decide +kernel
theorem dJ1_charAt_3b067_3 : decode cJ1_charAt_3b067 3 = .ok (.invokestatic 9, 3) := by decide +kernel
theorem dJ1_charAt_3b067_6 : decode cJ1_charAt_3b067 6 = .ok (.aload_n 0, 1) := by decide +kernel
theorem dJ1_charAt_3b067_7 : decode cJ1_charAt_3b067 7 = .ok (.iload_n 1, 1) := by decide +kernel
theorem dJ1_charAt_3b067_8 : decode cJ1_charAt_3b067 8 = .ok (.baload, 1) := by decide +kernel
theorem dJ1_charAt_3b067_9 : decode cJ1_charAt_3b067 9 = .ok (.sipush 255, 3) := by decide +kernel
theorem dJ1_charAt_3b067_12 : decode cJ1_charAt_3b067 12 = .ok (.iand, 1) := by decide +kernel
theorem dJ1_charAt_3b067_13 : decode cJ1_charAt_3b067 13 = .ok (.i2c, 1) := by decide +kernel
theorem dJ1_charAt_3b067_14 : decode cJ1_charAt_3b067 14 = .ok (.ireturn, 1) := by decide +kernel
theorem dJ2_getChar_3b067_0 : decode cJ2_getChar_3b067 0 = .ok (.getstatic 44, 3) := by decide +kernel
theorem dJ2_getChar_3b067_3 : decode cJ2_getChar_3b067 3 = .ok (.ifCond .ne 25, 3) := by decide +kernel
theorem dJ2_getChar_3b067_6 : decode cJ2_getChar_3b067 6 = .ok (.iload_n 1, 1) := by decide +kernel
theorem dJ2_getChar_3b067_7 : decode cJ2_getChar_3b067 7 = .ok (.ifCond .lt 11, 3) := by decide +kernel
theorem dJ2_getChar_3b067_10 : decode cJ2_getChar_3b067 10 = .ok (.iload_n 1, 1) := by decide +kernel
theorem dJ2_getChar_3b067_11 : decode cJ2_getChar_3b067 11 = .ok (.aload_n 0, 1) := by decide +kernel
theorem dJ2_getChar_3b067_12 : decode cJ2_getChar_3b067 12 = .ok (.invokestatic 48, 3) := by decide +kernel
theorem dJ2_getChar_3b067_15 : decode cJ2_getChar_3b067 15 = .ok (.if_icmp .lt 13, 3) := by decide +kernel
theorem dJ2_getChar_3b067_18 : decode cJ2_getChar_3b067 18 = .ok (.new 52, 3) := by decide +kernel
theorem dJ2_getChar_3b067_21 : decode cJ2_getChar_3b067 21 = .ok (.dup, 1) := by decide +kernel
theorem dJ2_getChar_3b067_22 : decode cJ2_getChar_3b067 22 = .ok (.ldc 54, 2) := by decide +kernel
theorem dJ2_getChar_3b067_24 : decode cJ2_getChar_3b067 24 = .ok (.invokespecial 56, 3) := by decide +kernel
theorem dJ2_getChar_3b067_27 : decode cJ2_getChar_3b067 27 = .ok (.athrow, 1) := by decide +kernel
theorem dJ2_getChar_3b067_28 : decode cJ2_getChar_3b067 28 = .ok (.iload_n 1, 1) := by decide +kernel
theorem dJ2_getChar_3b067_29 : decode cJ2_getChar_3b067 29 = .ok (.iconst 1, 1) := by decide +kernel
theorem dJ2_getChar_3b067_30 : decode cJ2_getChar_3b067 30 = .ok (.ishl, 1) := by decide +kernel
theorem dJ2_getChar_3b067_31 : decode cJ2_getChar_3b067 31 = .ok (.istore_n 1, 1) := by decide +kernel
theorem dJ2_getChar_3b067_32 : decode cJ2_getChar_3b067 32 = .ok (.aload_n 0, 1) := by decide +kernel
theorem dJ2_getChar_3b067_33 : decode cJ2_getChar_3b067 33 = .ok (.iload_n 1, 1) := by decide +kernel
theorem dJ2_getChar_3b067_34 : decode cJ2_getChar_3b067 34 = .ok (.iinc 1 1, 3) := by decide +kernel
theorem dJ2_getChar_3b067_37 : decode cJ2_getChar_3b067 37 = .ok (.baload, 1) := by decide +kernel
theorem dJ2_getChar_3b067_38 : decode cJ2_getChar_3b067 38 = .ok (.sipush 255, 3) := by decide +kernel
theorem dJ2_getChar_3b067_41 : decode cJ2_getChar_3b067 41 = .ok (.iand, 1) := by decide +kernel
theorem dJ2_getChar_3b067_42 : decode cJ2_getChar_3b067 42 = .ok (.getstatic 59, 3) := by decide +kernel
theorem dJ2_getChar_3b067_45 : decode cJ2_getChar_3b067 45 = .ok (.ishl, 1) := by decide +kernel
theorem dJ2_getChar_3b067_46 : decode cJ2_getChar_3b067 46 = .ok (.aload_n 0, 1) := by decide +kernel
theorem dJ2_getChar_3b067_47 : decode cJ2_getChar_3b067 47 = .ok (.iload_n 1, 1) := by decide +kernel
theorem dJ2_getChar_3b067_48 : decode cJ2_getChar_3b067 48 = .ok (.baload, 1) := by decide +kernel
theorem dJ2_getChar_3b067_49 : decode cJ2_getChar_3b067 49 = .ok (.sipush 255, 3) := by decide +kernel
theorem dJ2_getChar_3b067_52 : decode cJ2_getChar_3b067 52 = .ok (.iand, 1) := by decide +kernel
theorem dJ2_getChar_3b067_53 : decode cJ2_getChar_3b067 53 = .ok (.getstatic 63, 3) := by decide +kernel
theorem dJ2_getChar_3b067_56 : decode cJ2_getChar_3b067 56 = .ok (.ishl, 1) := by decide +kernel
theorem dJ2_getChar_3b067_57 : decode cJ2_getChar_3b067 57 = .ok (.ior, 1) := by decide +kernel
theorem dJ2_getChar_3b067_58 : decode cJ2_getChar_3b067 58 = .ok (.i2c, 1) := by decide +kernel
theorem dJ2_getChar_3b067_59 : decode cJ2_getChar_3b067 59 = .ok (.ireturn, 1) := by decide +kernel
theorem dJ2_length_9d52b_0 : decode cJ2_length_9d52b 0 = .ok (.aload_n 0, 1) := by decide +kernel
theorem dJ2_length_9d52b_1 : decode cJ2_length_9d52b 1 = .ok (.arraylength, 1) := by decide +kernel
theorem dJ2_length_9d52b_2 : decode cJ2_length_9d52b 2 = .ok (.iconst 1, 1) := by decide +kernel
theorem dJ2_length_9d52b_3 : decode cJ2_length_9d52b 3 = .ok (.ishr, 1) := by decide +kernel
theorem dJ2_length_9d52b_4 : decode cJ2_length_9d52b 4 = .ok (.ireturn, 1) := by decide +kernel
theorem dJ2_charAt_3b067_0 : decode cJ2_charAt_3b067 0 = .ok (.iload_n 1, 1) := by decide +kernel
theorem dJ2_charAt_3b067_1 : decode cJ2_charAt_3b067 1 = .ok (.aload_n 0, 1) := by decide +kernel
theorem dJ2_charAt_3b067_2 : decode cJ2_charAt_3b067 2 = .ok (.invokestatic 67, 3) := by decide +kernel
theorem dJ2_charAt_3b067_5 : decode cJ2_charAt_3b067 5 = .ok (.aload_n 0, 1) := by decide +kernel
theorem dJ2_charAt_3b067_6 : decode cJ2_charAt_3b067 6 = .ok (.iload_n 1, 1) := by decide +kernel
theorem dJ2_charAt_3b067_7 : decode cJ2_charAt_3b067 7 = .ok (.invokestatic 71, 3) := by decide +kernel
theorem dJ2_charAt_3b067_10 : decode cJ2_charAt_3b067 10 = .ok (.ireturn, 1) := by decide +kernel
theorem dJ2_checkIndex_2214a_0 : decode cJ2_checkIndex_2214a 0 = .ok (.iload_n 0, 1) := by decide +kernel
theorem dJ2_checkIndex_2214a_1 : decode cJ2_checkIndex_2214a 1 = .ok (.aload_n 1, 1) := by decide +kernel
theorem dJ2_checkIndex_2214a_2 : decode cJ2_checkIndex_2214a 2 = .ok (.invokestatic 48, 3) := by decide +kernel
theorem dJ2_checkIndex_2214a_5 : decode cJ2_checkIndex_2214a 5 = .ok (.invokestatic 414, 3) := by decide +kernel
theorem dJ2_checkIndex_2214a_8 : decode cJ2_checkIndex_2214a 8 = .ok (.return_, 1) := by decide +kernel
theorem dJ3_checkIndex_8e157_0 : decode cJ3_checkIndex_8e157 0 = .ok (.iload_n 0, 1) := by decide +kernel
theorem dJ3_checkIndex_8e157_1 : decode cJ3_checkIndex_8e157 1 = .ok (.ifCond .lt 8, 3) := by decide +kernel
theorem dJ3_checkIndex_8e157_4 : decode cJ3_checkIndex_8e157 4 = .ok (.iload_n 0, 1) := by decide +kernel
theorem dJ3_checkIndex_8e157_5 : decode cJ3_checkIndex_8e157 5 = .ok (.iload_n 1, 1) := by decide +kernel
theorem dJ3_checkIndex_8e157_6 : decode cJ3_checkIndex_8e157 6 = .ok (.if_icmp .lt 10, 3) := by decide +kernel
theorem dJ3_checkIndex_8e157_9 : decode cJ3_checkIndex_8e157 9 = .ok (.aload_n 2, 1) := by decide +kernel
theorem dJ3_checkIndex_8e157_10 : decode cJ3_checkIndex_8e157 10 = .ok (.iload_n 0, 1) := by decide +kernel
theorem dJ3_checkIndex_8e157_11 : decode cJ3_checkIndex_8e157 11 = .ok (.iload_n 1, 1) := by decide +kernel
theorem dJ3_checkIndex_8e157_12 : decode cJ3_checkIndex_8e157 12 = .ok (.invokestatic 95, 3) := by decide +kernel
theorem dJ3_checkIndex_8e157_15 : decode cJ3_checkIndex_8e157 15 = .ok (.athrow, 1) := by decide +kernel
theorem dJ3_checkIndex_8e157_16 : decode cJ3_checkIndex_8e157 16 = .ok (.iload_n 0, 1) := by decide +kernel
theorem dJ3_checkIndex_8e157_17 : decode cJ3_checkIndex_8e157 17 = .ok (.ireturn, 1) := by decide +kernel
theorem dL_law_0 : decode cL_law 0 = .ok (.new 7, 3) := by decide +kernel
theorem dL_law_3 : decode cL_law 3 = .ok (.dup, 1) := by decide +kernel
theorem dL_law_4 : decode cL_law 4 = .ok (.invokespecial 9, 3) := by decide +kernel
theorem dL_law_7 : decode cL_law 7 = .ok (.astore_n 1, 1) := by decide +kernel
theorem dL_law_8 : decode cL_law 8 = .ok (.new 10, 3) := by decide +kernel
theorem dL_law_11 : decode cL_law 11 = .ok (.dup, 1) := by decide +kernel
theorem dL_law_12 : decode cL_law 12 = .ok (.invokespecial 12, 3) := by decide +kernel
theorem dL_law_15 : decode cL_law 15 = .ok (.astore_n 2, 1) := by decide +kernel
theorem dL_law_16 : decode cL_law 16 = .ok (.iconst 0, 1) := by decide +kernel
theorem dL_law_17 : decode cL_law 17 = .ok (.istore_n 3, 1) := by decide +kernel
theorem dL_law_18 : decode cL_law 18 = .ok (.iload_n 3, 1) := by decide +kernel
theorem dL_law_19 : decode cL_law 19 = .ok (.aload_n 0, 1) := by decide +kernel
theorem dL_law_20 : decode cL_law 20 = .ok (.arraylength, 1) := by decide +kernel
theorem dL_law_21 : decode cL_law 21 = .ok (.iconst 5, 1) := by decide +kernel
theorem dL_law_22 : decode cL_law 22 = .ok (.isub, 1) := by decide +kernel
theorem dL_law_23 : decode cL_law 23 = .ok (.if_icmp .gt 663, 3) := by decide +kernel
theorem dL_law_26 : decode cL_law 26 = .ok (.aload_n 0, 1) := by decide +kernel
theorem dL_law_27 : decode cL_law 27 = .ok (.iload_n 3, 1) := by decide +kernel
theorem dL_law_28 : decode cL_law 28 = .ok (.iaload, 1) := by decide +kernel
theorem dL_law_29 : decode cL_law 29 = .ok (.bipush 31, 2) := by decide +kernel
theorem dL_law_31 : decode cL_law 31 = .ok (.iand, 1) := by decide +kernel
theorem dL_law_32 : decode cL_law 32 = .ok (.tableswitch 648 0 19 #[96, 159, 172, 185, 198, 221, 254, 278, 301, 314, 357, 410, 424, 447, 470, 503, 536, 569, 592, 625], 96) := by decide +kernel
theorem dL_law_128 : decode cL_law 128 = .ok (.aload_n 1, 1) := by decide +kernel
theorem dL_law_129 : decode cL_law 129 = .ok (.aload_n 0, 1) := by decide +kernel
theorem dL_law_130 : decode cL_law 130 = .ok (.iload_n 3, 1) := by decide +kernel
theorem dL_law_131 : decode cL_law 131 = .ok (.iconst 1, 1) := by decide +kernel
theorem dL_law_132 : decode cL_law 132 = .ok (.iadd, 1) := by decide +kernel
theorem dL_law_133 : decode cL_law 133 = .ok (.iaload, 1) := by decide +kernel
theorem dL_law_134 : decode cL_law 134 = .ok (.i2l, 1) := by decide +kernel
theorem dL_law_135 : decode cL_law 135 = .ok (.bipush 32, 2) := by decide +kernel
theorem dL_law_137 : decode cL_law 137 = .ok (.lshl, 1) := by decide +kernel
theorem dL_law_138 : decode cL_law 138 = .ok (.aload_n 0, 1) := by decide +kernel
theorem dL_law_139 : decode cL_law 139 = .ok (.iload_n 3, 1) := by decide +kernel
theorem dL_law_140 : decode cL_law 140 = .ok (.iconst 2, 1) := by decide +kernel
theorem dL_law_141 : decode cL_law 141 = .ok (.iadd, 1) := by decide +kernel
theorem dL_law_142 : decode cL_law 142 = .ok (.iaload, 1) := by decide +kernel
theorem dL_law_143 : decode cL_law 143 = .ok (.i2l, 1) := by decide +kernel
theorem dL_law_144 : decode cL_law 144 = .ok (.ldc2_w 13, 3) := by decide +kernel
theorem dL_law_147 : decode cL_law 147 = .ok (.land, 1) := by decide +kernel
theorem dL_law_148 : decode cL_law 148 = .ok (.lor, 1) := by decide +kernel
theorem dL_law_149 : decode cL_law 149 = .ok (.aload_n 0, 1) := by decide +kernel
theorem dL_law_150 : decode cL_law 150 = .ok (.iload_n 3, 1) := by decide +kernel
theorem dL_law_151 : decode cL_law 151 = .ok (.iconst 3, 1) := by decide +kernel
theorem dL_law_152 : decode cL_law 152 = .ok (.iadd, 1) := by decide +kernel
theorem dL_law_153 : decode cL_law 153 = .ok (.iaload, 1) := by decide +kernel
theorem dL_law_154 : decode cL_law 154 = .ok (.invokevirtual 15, 3) := by decide +kernel
theorem dL_law_157 : decode cL_law 157 = .ok (.aload_n 2, 1) := by decide +kernel
theorem dL_law_158 : decode cL_law 158 = .ok (.aload_n 0, 1) := by decide +kernel
theorem dL_law_159 : decode cL_law 159 = .ok (.iload_n 3, 1) := by decide +kernel
theorem dL_law_160 : decode cL_law 160 = .ok (.iconst 1, 1) := by decide +kernel
theorem dL_law_161 : decode cL_law 161 = .ok (.iadd, 1) := by decide +kernel
theorem dL_law_162 : decode cL_law 162 = .ok (.iaload, 1) := by decide +kernel
theorem dL_law_163 : decode cL_law 163 = .ok (.i2l, 1) := by decide +kernel
theorem dL_law_164 : decode cL_law 164 = .ok (.bipush 32, 2) := by decide +kernel
theorem dL_law_166 : decode cL_law 166 = .ok (.lshl, 1) := by decide +kernel
theorem dL_law_167 : decode cL_law 167 = .ok (.aload_n 0, 1) := by decide +kernel
theorem dL_law_168 : decode cL_law 168 = .ok (.iload_n 3, 1) := by decide +kernel
theorem dL_law_169 : decode cL_law 169 = .ok (.iconst 2, 1) := by decide +kernel
theorem dL_law_170 : decode cL_law 170 = .ok (.iadd, 1) := by decide +kernel
theorem dL_law_171 : decode cL_law 171 = .ok (.iaload, 1) := by decide +kernel
theorem dL_law_172 : decode cL_law 172 = .ok (.i2l, 1) := by decide +kernel
theorem dL_law_173 : decode cL_law 173 = .ok (.ldc2_w 13, 3) := by decide +kernel
theorem dL_law_176 : decode cL_law 176 = .ok (.land, 1) := by decide +kernel
theorem dL_law_177 : decode cL_law 177 = .ok (.lor, 1) := by decide +kernel
theorem dL_law_178 : decode cL_law 178 = .ok (.aload_n 0, 1) := by decide +kernel
theorem dL_law_179 : decode cL_law 179 = .ok (.iload_n 3, 1) := by decide +kernel
theorem dL_law_180 : decode cL_law 180 = .ok (.iconst 3, 1) := by decide +kernel
theorem dL_law_181 : decode cL_law 181 = .ok (.iadd, 1) := by decide +kernel
theorem dL_law_182 : decode cL_law 182 = .ok (.iaload, 1) := by decide +kernel
theorem dL_law_183 : decode cL_law 183 = .ok (.invokevirtual 19, 3) := by decide +kernel
theorem dL_law_186 : decode cL_law 186 = .ok (.if_icmp .eq 494, 3) := by decide +kernel
theorem dL_law_189 : decode cL_law 189 = .ok (.iconst 0, 1) := by decide +kernel
theorem dL_law_190 : decode cL_law 190 = .ok (.ireturn, 1) := by decide +kernel
theorem dL_law_191 : decode cL_law 191 = .ok (.aload_n 1, 1) := by decide +kernel
theorem dL_law_192 : decode cL_law 192 = .ok (.invokevirtual 20, 3) := by decide +kernel
theorem dL_law_195 : decode cL_law 195 = .ok (.aload_n 2, 1) := by decide +kernel
theorem dL_law_196 : decode cL_law 196 = .ok (.invokevirtual 24, 3) := by decide +kernel
theorem dL_law_199 : decode cL_law 199 = .ok (.if_icmp .eq 481, 3) := by decide +kernel
theorem dL_law_202 : decode cL_law 202 = .ok (.iconst 0, 1) := by decide +kernel
theorem dL_law_203 : decode cL_law 203 = .ok (.ireturn, 1) := by decide +kernel
theorem dL_law_204 : decode cL_law 204 = .ok (.aload_n 1, 1) := by decide +kernel
theorem dL_law_205 : decode cL_law 205 = .ok (.invokevirtual 25, 3) := by decide +kernel
theorem dL_law_208 : decode cL_law 208 = .ok (.aload_n 2, 1) := by decide +kernel
theorem dL_law_209 : decode cL_law 209 = .ok (.invokevirtual 28, 3) := by decide +kernel
theorem dL_law_212 : decode cL_law 212 = .ok (.if_icmp .eq 468, 3) := by decide +kernel
theorem dL_law_215 : decode cL_law 215 = .ok (.iconst 0, 1) := by decide +kernel
theorem dL_law_216 : decode cL_law 216 = .ok (.ireturn, 1) := by decide +kernel
theorem dL_law_217 : decode cL_law 217 = .ok (.aload_n 1, 1) := by decide +kernel
theorem dL_law_218 : decode cL_law 218 = .ok (.invokevirtual 29, 3) := by decide +kernel
theorem dL_law_221 : decode cL_law 221 = .ok (.aload_n 2, 1) := by decide +kernel
theorem dL_law_222 : decode cL_law 222 = .ok (.invokevirtual 32, 3) := by decide +kernel
theorem dL_law_225 : decode cL_law 225 = .ok (.if_icmp .eq 455, 3) := by decide +kernel
theorem dL_law_228 : decode cL_law 228 = .ok (.iconst 0, 1) := by decide +kernel
theorem dL_law_229 : decode cL_law 229 = .ok (.ireturn, 1) := by decide +kernel
theorem dL_law_230 : decode cL_law 230 = .ok (.aload_n 1, 1) := by decide +kernel
theorem dL_law_231 : decode cL_law 231 = .ok (.aload_n 0, 1) := by decide +kernel
theorem dL_law_232 : decode cL_law 232 = .ok (.iload_n 3, 1) := by decide +kernel
theorem dL_law_233 : decode cL_law 233 = .ok (.iconst 1, 1) := by decide +kernel
theorem dL_law_234 : decode cL_law 234 = .ok (.iadd, 1) := by decide +kernel
theorem dL_law_235 : decode cL_law 235 = .ok (.iaload, 1) := by decide +kernel
theorem dL_law_236 : decode cL_law 236 = .ok (.invokevirtual 33, 3) := by decide +kernel
theorem dL_law_239 : decode cL_law 239 = .ok (.aload_n 2, 1) := by decide +kernel
theorem dL_law_240 : decode cL_law 240 = .ok (.aload_n 0, 1) := by decide +kernel
theorem dL_law_241 : decode cL_law 241 = .ok (.iload_n 3, 1) := by decide +kernel
theorem dL_law_242 : decode cL_law 242 = .ok (.iconst 1, 1) := by decide +kernel
theorem dL_law_243 : decode cL_law 243 = .ok (.iadd, 1) := by decide +kernel
theorem dL_law_244 : decode cL_law 244 = .ok (.iaload, 1) := by decide +kernel
theorem dL_law_245 : decode cL_law 245 = .ok (.invokevirtual 37, 3) := by decide +kernel
theorem dL_law_248 : decode cL_law 248 = .ok (.if_icmp .eq 432, 3) := by decide +kernel
theorem dL_law_251 : decode cL_law 251 = .ok (.iconst 0, 1) := by decide +kernel
theorem dL_law_252 : decode cL_law 252 = .ok (.ireturn, 1) := by decide +kernel
theorem dL_law_253 : decode cL_law 253 = .ok (.aload_n 1, 1) := by decide +kernel
theorem dL_law_254 : decode cL_law 254 = .ok (.aload_n 0, 1) := by decide +kernel
theorem dL_law_255 : decode cL_law 255 = .ok (.iload_n 3, 1) := by decide +kernel
theorem dL_law_256 : decode cL_law 256 = .ok (.iconst 1, 1) := by decide +kernel
theorem dL_law_257 : decode cL_law 257 = .ok (.iadd, 1) := by decide +kernel
theorem dL_law_258 : decode cL_law 258 = .ok (.iaload, 1) := by decide +kernel
theorem dL_law_259 : decode cL_law 259 = .ok (.aload_n 0, 1) := by decide +kernel
theorem dL_law_260 : decode cL_law 260 = .ok (.iload_n 3, 1) := by decide +kernel
theorem dL_law_261 : decode cL_law 261 = .ok (.iconst 2, 1) := by decide +kernel
theorem dL_law_262 : decode cL_law 262 = .ok (.iadd, 1) := by decide +kernel
theorem dL_law_263 : decode cL_law 263 = .ok (.iaload, 1) := by decide +kernel
theorem dL_law_264 : decode cL_law 264 = .ok (.invokevirtual 38, 3) := by decide +kernel
theorem dL_law_267 : decode cL_law 267 = .ok (.aload_n 2, 1) := by decide +kernel
theorem dL_law_268 : decode cL_law 268 = .ok (.aload_n 0, 1) := by decide +kernel
theorem dL_law_269 : decode cL_law 269 = .ok (.iload_n 3, 1) := by decide +kernel
theorem dL_law_270 : decode cL_law 270 = .ok (.iconst 1, 1) := by decide +kernel
theorem dL_law_271 : decode cL_law 271 = .ok (.iadd, 1) := by decide +kernel
theorem dL_law_272 : decode cL_law 272 = .ok (.iaload, 1) := by decide +kernel
theorem dL_law_273 : decode cL_law 273 = .ok (.aload_n 0, 1) := by decide +kernel
theorem dL_law_274 : decode cL_law 274 = .ok (.iload_n 3, 1) := by decide +kernel
theorem dL_law_275 : decode cL_law 275 = .ok (.iconst 2, 1) := by decide +kernel
theorem dL_law_276 : decode cL_law 276 = .ok (.iadd, 1) := by decide +kernel
theorem dL_law_277 : decode cL_law 277 = .ok (.iaload, 1) := by decide +kernel
theorem dL_law_278 : decode cL_law 278 = .ok (.invokevirtual 42, 3) := by decide +kernel
theorem dL_law_281 : decode cL_law 281 = .ok (.if_icmp .eq 399, 3) := by decide +kernel
theorem dL_law_284 : decode cL_law 284 = .ok (.iconst 0, 1) := by decide +kernel
theorem dL_law_285 : decode cL_law 285 = .ok (.ireturn, 1) := by decide +kernel
theorem dL_law_286 : decode cL_law 286 = .ok (.aload_n 1, 1) := by decide +kernel
theorem dL_law_287 : decode cL_law 287 = .ok (.aload_n 0, 1) := by decide +kernel
theorem dL_law_288 : decode cL_law 288 = .ok (.iload_n 3, 1) := by decide +kernel
theorem dL_law_289 : decode cL_law 289 = .ok (.iconst 1, 1) := by decide +kernel
theorem dL_law_290 : decode cL_law 290 = .ok (.iadd, 1) := by decide +kernel
theorem dL_law_291 : decode cL_law 291 = .ok (.iaload, 1) := by decide +kernel
theorem dL_law_292 : decode cL_law 292 = .ok (.invokevirtual 43, 3) := by decide +kernel
theorem dL_law_295 : decode cL_law 295 = .ok (.aload_n 2, 1) := by decide +kernel
theorem dL_law_296 : decode cL_law 296 = .ok (.aload_n 0, 1) := by decide +kernel
theorem dL_law_297 : decode cL_law 297 = .ok (.iload_n 3, 1) := by decide +kernel
theorem dL_law_298 : decode cL_law 298 = .ok (.iconst 1, 1) := by decide +kernel
theorem dL_law_299 : decode cL_law 299 = .ok (.iadd, 1) := by decide +kernel
theorem dL_law_300 : decode cL_law 300 = .ok (.iaload, 1) := by decide +kernel
theorem dL_law_301 : decode cL_law 301 = .ok (.invokevirtual 47, 3) := by decide +kernel
theorem dL_law_304 : decode cL_law 304 = .ok (.lcmp, 1) := by decide +kernel
theorem dL_law_305 : decode cL_law 305 = .ok (.ifCond .eq 375, 3) := by decide +kernel
theorem dL_law_308 : decode cL_law 308 = .ok (.iconst 0, 1) := by decide +kernel
theorem dL_law_309 : decode cL_law 309 = .ok (.ireturn, 1) := by decide +kernel
theorem dL_law_310 : decode cL_law 310 = .ok (.aload_n 1, 1) := by decide +kernel
theorem dL_law_311 : decode cL_law 311 = .ok (.aload_n 0, 1) := by decide +kernel
theorem dL_law_312 : decode cL_law 312 = .ok (.iload_n 3, 1) := by decide +kernel
theorem dL_law_313 : decode cL_law 313 = .ok (.iconst 1, 1) := by decide +kernel
theorem dL_law_314 : decode cL_law 314 = .ok (.iadd, 1) := by decide +kernel
theorem dL_law_315 : decode cL_law 315 = .ok (.iaload, 1) := by decide +kernel
theorem dL_law_316 : decode cL_law 316 = .ok (.invokevirtual 48, 3) := by decide +kernel
theorem dL_law_319 : decode cL_law 319 = .ok (.aload_n 2, 1) := by decide +kernel
theorem dL_law_320 : decode cL_law 320 = .ok (.aload_n 0, 1) := by decide +kernel
theorem dL_law_321 : decode cL_law 321 = .ok (.iload_n 3, 1) := by decide +kernel
theorem dL_law_322 : decode cL_law 322 = .ok (.iconst 1, 1) := by decide +kernel
theorem dL_law_323 : decode cL_law 323 = .ok (.iadd, 1) := by decide +kernel
theorem dL_law_324 : decode cL_law 324 = .ok (.iaload, 1) := by decide +kernel
theorem dL_law_325 : decode cL_law 325 = .ok (.invokevirtual 51, 3) := by decide +kernel
theorem dL_law_328 : decode cL_law 328 = .ok (.if_icmp .eq 352, 3) := by decide +kernel
theorem dL_law_331 : decode cL_law 331 = .ok (.iconst 0, 1) := by decide +kernel
theorem dL_law_332 : decode cL_law 332 = .ok (.ireturn, 1) := by decide +kernel
theorem dL_law_333 : decode cL_law 333 = .ok (.aload_n 1, 1) := by decide +kernel
theorem dL_law_334 : decode cL_law 334 = .ok (.invokevirtual 52, 3) := by decide +kernel
theorem dL_law_337 : decode cL_law 337 = .ok (.aload_n 2, 1) := by decide +kernel
theorem dL_law_338 : decode cL_law 338 = .ok (.invokevirtual 55, 3) := by decide +kernel
theorem dL_law_341 : decode cL_law 341 = .ok (.if_icmp .eq 339, 3) := by decide +kernel
theorem dL_law_344 : decode cL_law 344 = .ok (.iconst 0, 1) := by decide +kernel
theorem dL_law_345 : decode cL_law 345 = .ok (.ireturn, 1) := by decide +kernel
theorem dL_law_346 : decode cL_law 346 = .ok (.aload_n 1, 1) := by decide +kernel
theorem dL_law_347 : decode cL_law 347 = .ok (.aload_n 0, 1) := by decide +kernel
theorem dL_law_348 : decode cL_law 348 = .ok (.iload_n 3, 1) := by decide +kernel
theorem dL_law_349 : decode cL_law 349 = .ok (.iconst 1, 1) := by decide +kernel
theorem dL_law_350 : decode cL_law 350 = .ok (.iadd, 1) := by decide +kernel
theorem dL_law_351 : decode cL_law 351 = .ok (.iaload, 1) := by decide +kernel
theorem dL_law_352 : decode cL_law 352 = .ok (.aload_n 0, 1) := by decide +kernel
theorem dL_law_353 : decode cL_law 353 = .ok (.iload_n 3, 1) := by decide +kernel
theorem dL_law_354 : decode cL_law 354 = .ok (.iconst 2, 1) := by decide +kernel
theorem dL_law_355 : decode cL_law 355 = .ok (.iadd, 1) := by decide +kernel
theorem dL_law_356 : decode cL_law 356 = .ok (.iaload, 1) := by decide +kernel
theorem dL_law_357 : decode cL_law 357 = .ok (.aload_n 0, 1) := by decide +kernel
theorem dL_law_358 : decode cL_law 358 = .ok (.iload_n 3, 1) := by decide +kernel
theorem dL_law_359 : decode cL_law 359 = .ok (.iconst 3, 1) := by decide +kernel
theorem dL_law_360 : decode cL_law 360 = .ok (.iadd, 1) := by decide +kernel
theorem dL_law_361 : decode cL_law 361 = .ok (.iaload, 1) := by decide +kernel
theorem dL_law_362 : decode cL_law 362 = .ok (.invokevirtual 56, 3) := by decide +kernel
theorem dL_law_365 : decode cL_law 365 = .ok (.aload_n 2, 1) := by decide +kernel
theorem dL_law_366 : decode cL_law 366 = .ok (.aload_n 0, 1) := by decide +kernel
theorem dL_law_367 : decode cL_law 367 = .ok (.iload_n 3, 1) := by decide +kernel
theorem dL_law_368 : decode cL_law 368 = .ok (.iconst 1, 1) := by decide +kernel
theorem dL_law_369 : decode cL_law 369 = .ok (.iadd, 1) := by decide +kernel
theorem dL_law_370 : decode cL_law 370 = .ok (.iaload, 1) := by decide +kernel
theorem dL_law_371 : decode cL_law 371 = .ok (.aload_n 0, 1) := by decide +kernel
theorem dL_law_372 : decode cL_law 372 = .ok (.iload_n 3, 1) := by decide +kernel
theorem dL_law_373 : decode cL_law 373 = .ok (.iconst 2, 1) := by decide +kernel
theorem dL_law_374 : decode cL_law 374 = .ok (.iadd, 1) := by decide +kernel
theorem dL_law_375 : decode cL_law 375 = .ok (.iaload, 1) := by decide +kernel
theorem dL_law_376 : decode cL_law 376 = .ok (.aload_n 0, 1) := by decide +kernel
theorem dL_law_377 : decode cL_law 377 = .ok (.iload_n 3, 1) := by decide +kernel
theorem dL_law_378 : decode cL_law 378 = .ok (.iconst 3, 1) := by decide +kernel
theorem dL_law_379 : decode cL_law 379 = .ok (.iadd, 1) := by decide +kernel
theorem dL_law_380 : decode cL_law 380 = .ok (.iaload, 1) := by decide +kernel
theorem dL_law_381 : decode cL_law 381 = .ok (.invokevirtual 60, 3) := by decide +kernel
theorem dL_law_384 : decode cL_law 384 = .ok (.if_icmp .eq 296, 3) := by decide +kernel
theorem dL_law_387 : decode cL_law 387 = .ok (.iconst 0, 1) := by decide +kernel
theorem dL_law_388 : decode cL_law 388 = .ok (.ireturn, 1) := by decide +kernel
theorem dL_law_389 : decode cL_law 389 = .ok (.aload_n 1, 1) := by decide +kernel
theorem dL_law_390 : decode cL_law 390 = .ok (.aload_n 0, 1) := by decide +kernel
theorem dL_law_391 : decode cL_law 391 = .ok (.iload_n 3, 1) := by decide +kernel
theorem dL_law_392 : decode cL_law 392 = .ok (.iconst 1, 1) := by decide +kernel
theorem dL_law_393 : decode cL_law 393 = .ok (.iadd, 1) := by decide +kernel
theorem dL_law_394 : decode cL_law 394 = .ok (.iaload, 1) := by decide +kernel
theorem dL_law_395 : decode cL_law 395 = .ok (.aload_n 0, 1) := by decide +kernel
theorem dL_law_396 : decode cL_law 396 = .ok (.iload_n 3, 1) := by decide +kernel
theorem dL_law_397 : decode cL_law 397 = .ok (.iconst 2, 1) := by decide +kernel
theorem dL_law_398 : decode cL_law 398 = .ok (.iadd, 1) := by decide +kernel
theorem dL_law_399 : decode cL_law 399 = .ok (.iaload, 1) := by decide +kernel
theorem dL_law_400 : decode cL_law 400 = .ok (.aload_n 0, 1) := by decide +kernel
theorem dL_law_401 : decode cL_law 401 = .ok (.iload_n 3, 1) := by decide +kernel
theorem dL_law_402 : decode cL_law 402 = .ok (.iconst 3, 1) := by decide +kernel
theorem dL_law_403 : decode cL_law 403 = .ok (.iadd, 1) := by decide +kernel
theorem dL_law_404 : decode cL_law 404 = .ok (.iaload, 1) := by decide +kernel
theorem dL_law_405 : decode cL_law 405 = .ok (.aload_n 0, 1) := by decide +kernel
theorem dL_law_406 : decode cL_law 406 = .ok (.iload_n 3, 1) := by decide +kernel
theorem dL_law_407 : decode cL_law 407 = .ok (.iconst 4, 1) := by decide +kernel
theorem dL_law_408 : decode cL_law 408 = .ok (.iadd, 1) := by decide +kernel
theorem dL_law_409 : decode cL_law 409 = .ok (.iaload, 1) := by decide +kernel
theorem dL_law_410 : decode cL_law 410 = .ok (.invokevirtual 61, 3) := by decide +kernel
theorem dL_law_413 : decode cL_law 413 = .ok (.aload_n 2, 1) := by decide +kernel
theorem dL_law_414 : decode cL_law 414 = .ok (.aload_n 0, 1) := by decide +kernel
theorem dL_law_415 : decode cL_law 415 = .ok (.iload_n 3, 1) := by decide +kernel
theorem dL_law_416 : decode cL_law 416 = .ok (.iconst 1, 1) := by decide +kernel
theorem dL_law_417 : decode cL_law 417 = .ok (.iadd, 1) := by decide +kernel
theorem dL_law_418 : decode cL_law 418 = .ok (.iaload, 1) := by decide +kernel
theorem dL_law_419 : decode cL_law 419 = .ok (.aload_n 0, 1) := by decide +kernel
theorem dL_law_420 : decode cL_law 420 = .ok (.iload_n 3, 1) := by decide +kernel
theorem dL_law_421 : decode cL_law 421 = .ok (.iconst 2, 1) := by decide +kernel
end
section
theorem dL_law_422 : decode cL_law 422 = .ok (.iadd, 1) := by decide +kernel
theorem dL_law_423 : decode cL_law 423 = .ok (.iaload, 1) := by decide +kernel
theorem dL_law_424 : decode cL_law 424 = .ok (.aload_n 0, 1) := by decide +kernel
theorem dL_law_425 : decode cL_law 425 = .ok (.iload_n 3, 1) := by decide +kernel
theorem dL_law_426 : decode cL_law 426 = .ok (.iconst 3, 1) := by decide +kernel
theorem dL_law_427 : decode cL_law 427 = .ok (.iadd, 1) := by decide +kernel
theorem dL_law_428 : decode cL_law 428 = .ok (.iaload, 1) := by decide +kernel
theorem dL_law_429 : decode cL_law 429 = .ok (.aload_n 0, 1) := by decide +kernel
theorem dL_law_430 : decode cL_law 430 = .ok (.iload_n 3, 1) := by decide +kernel
theorem dL_law_431 : decode cL_law 431 = .ok (.iconst 4, 1) := by decide +kernel
theorem dL_law_432 : decode cL_law 432 = .ok (.iadd, 1) := by decide +kernel
theorem dL_law_433 : decode cL_law 433 = .ok (.iaload, 1) := by decide +kernel
theorem dL_law_434 : decode cL_law 434 = .ok (.invokevirtual 65, 3) := by decide +kernel
theorem dL_law_437 : decode cL_law 437 = .ok (.if_icmp .eq 243, 3) := by decide +kernel
theorem dL_law_440 : decode cL_law 440 = .ok (.iconst 0, 1) := by decide +kernel
theorem dL_law_441 : decode cL_law 441 = .ok (.ireturn, 1) := by decide +kernel
theorem dL_law_442 : decode cL_law 442 = .ok (.aload_n 1, 1) := by decide +kernel
theorem dL_law_443 : decode cL_law 443 = .ok (.invokevirtual 66, 3) := by decide +kernel
theorem dL_law_446 : decode cL_law 446 = .ok (.aload_n 2, 1) := by decide +kernel
theorem dL_law_447 : decode cL_law 447 = .ok (.invokevirtual 70, 3) := by decide +kernel
theorem dL_law_450 : decode cL_law 450 = .ok (.lcmp, 1) := by decide +kernel
theorem dL_law_451 : decode cL_law 451 = .ok (.ifCond .eq 229, 3) := by decide +kernel
theorem dL_law_454 : decode cL_law 454 = .ok (.iconst 0, 1) := by decide +kernel
theorem dL_law_455 : decode cL_law 455 = .ok (.ireturn, 1) := by decide +kernel
theorem dL_law_456 : decode cL_law 456 = .ok (.aload_n 1, 1) := by decide +kernel
theorem dL_law_457 : decode cL_law 457 = .ok (.aload_n 0, 1) := by decide +kernel
theorem dL_law_458 : decode cL_law 458 = .ok (.iload_n 3, 1) := by decide +kernel
theorem dL_law_459 : decode cL_law 459 = .ok (.iconst 1, 1) := by decide +kernel
theorem dL_law_460 : decode cL_law 460 = .ok (.iadd, 1) := by decide +kernel
theorem dL_law_461 : decode cL_law 461 = .ok (.iaload, 1) := by decide +kernel
theorem dL_law_462 : decode cL_law 462 = .ok (.invokevirtual 71, 3) := by decide +kernel
theorem dL_law_465 : decode cL_law 465 = .ok (.aload_n 2, 1) := by decide +kernel
theorem dL_law_466 : decode cL_law 466 = .ok (.aload_n 0, 1) := by decide +kernel
theorem dL_law_467 : decode cL_law 467 = .ok (.iload_n 3, 1) := by decide +kernel
theorem dL_law_468 : decode cL_law 468 = .ok (.iconst 1, 1) := by decide +kernel
theorem dL_law_469 : decode cL_law 469 = .ok (.iadd, 1) := by decide +kernel
theorem dL_law_470 : decode cL_law 470 = .ok (.iaload, 1) := by decide +kernel
theorem dL_law_471 : decode cL_law 471 = .ok (.invokevirtual 74, 3) := by decide +kernel
theorem dL_law_474 : decode cL_law 474 = .ok (.if_icmp .eq 206, 3) := by decide +kernel
theorem dL_law_477 : decode cL_law 477 = .ok (.iconst 0, 1) := by decide +kernel
theorem dL_law_478 : decode cL_law 478 = .ok (.ireturn, 1) := by decide +kernel
theorem dL_law_479 : decode cL_law 479 = .ok (.aload_n 1, 1) := by decide +kernel
theorem dL_law_480 : decode cL_law 480 = .ok (.aload_n 0, 1) := by decide +kernel
theorem dL_law_481 : decode cL_law 481 = .ok (.iload_n 3, 1) := by decide +kernel
theorem dL_law_482 : decode cL_law 482 = .ok (.iconst 1, 1) := by decide +kernel
theorem dL_law_483 : decode cL_law 483 = .ok (.iadd, 1) := by decide +kernel
theorem dL_law_484 : decode cL_law 484 = .ok (.iaload, 1) := by decide +kernel
theorem dL_law_485 : decode cL_law 485 = .ok (.invokevirtual 75, 3) := by decide +kernel
theorem dL_law_488 : decode cL_law 488 = .ok (.aload_n 2, 1) := by decide +kernel
theorem dL_law_489 : decode cL_law 489 = .ok (.aload_n 0, 1) := by decide +kernel
theorem dL_law_490 : decode cL_law 490 = .ok (.iload_n 3, 1) := by decide +kernel
theorem dL_law_491 : decode cL_law 491 = .ok (.iconst 1, 1) := by decide +kernel
theorem dL_law_492 : decode cL_law 492 = .ok (.iadd, 1) := by decide +kernel
theorem dL_law_493 : decode cL_law 493 = .ok (.iaload, 1) := by decide +kernel
theorem dL_law_494 : decode cL_law 494 = .ok (.invokevirtual 78, 3) := by decide +kernel
theorem dL_law_497 : decode cL_law 497 = .ok (.if_icmp .eq 183, 3) := by decide +kernel
theorem dL_law_500 : decode cL_law 500 = .ok (.iconst 0, 1) := by decide +kernel
theorem dL_law_501 : decode cL_law 501 = .ok (.ireturn, 1) := by decide +kernel
theorem dL_law_502 : decode cL_law 502 = .ok (.aload_n 1, 1) := by decide +kernel
theorem dL_law_503 : decode cL_law 503 = .ok (.aload_n 0, 1) := by decide +kernel
theorem dL_law_504 : decode cL_law 504 = .ok (.iload_n 3, 1) := by decide +kernel
theorem dL_law_505 : decode cL_law 505 = .ok (.iconst 1, 1) := by decide +kernel
theorem dL_law_506 : decode cL_law 506 = .ok (.iadd, 1) := by decide +kernel
theorem dL_law_507 : decode cL_law 507 = .ok (.iaload, 1) := by decide +kernel
theorem dL_law_508 : decode cL_law 508 = .ok (.aload_n 0, 1) := by decide +kernel
theorem dL_law_509 : decode cL_law 509 = .ok (.iload_n 3, 1) := by decide +kernel
theorem dL_law_510 : decode cL_law 510 = .ok (.iconst 2, 1) := by decide +kernel
theorem dL_law_511 : decode cL_law 511 = .ok (.iadd, 1) := by decide +kernel
theorem dL_law_512 : decode cL_law 512 = .ok (.iaload, 1) := by decide +kernel
theorem dL_law_513 : decode cL_law 513 = .ok (.invokevirtual 79, 3) := by decide +kernel
theorem dL_law_516 : decode cL_law 516 = .ok (.aload_n 2, 1) := by decide +kernel
theorem dL_law_517 : decode cL_law 517 = .ok (.aload_n 0, 1) := by decide +kernel
theorem dL_law_518 : decode cL_law 518 = .ok (.iload_n 3, 1) := by decide +kernel
theorem dL_law_519 : decode cL_law 519 = .ok (.iconst 1, 1) := by decide +kernel
theorem dL_law_520 : decode cL_law 520 = .ok (.iadd, 1) := by decide +kernel
theorem dL_law_521 : decode cL_law 521 = .ok (.iaload, 1) := by decide +kernel
theorem dL_law_522 : decode cL_law 522 = .ok (.aload_n 0, 1) := by decide +kernel
theorem dL_law_523 : decode cL_law 523 = .ok (.iload_n 3, 1) := by decide +kernel
theorem dL_law_524 : decode cL_law 524 = .ok (.iconst 2, 1) := by decide +kernel
theorem dL_law_525 : decode cL_law 525 = .ok (.iadd, 1) := by decide +kernel
theorem dL_law_526 : decode cL_law 526 = .ok (.iaload, 1) := by decide +kernel
theorem dL_law_527 : decode cL_law 527 = .ok (.invokevirtual 82, 3) := by decide +kernel
theorem dL_law_530 : decode cL_law 530 = .ok (.if_icmp .eq 150, 3) := by decide +kernel
theorem dL_law_533 : decode cL_law 533 = .ok (.iconst 0, 1) := by decide +kernel
theorem dL_law_534 : decode cL_law 534 = .ok (.ireturn, 1) := by decide +kernel
theorem dL_law_535 : decode cL_law 535 = .ok (.aload_n 1, 1) := by decide +kernel
theorem dL_law_536 : decode cL_law 536 = .ok (.aload_n 0, 1) := by decide +kernel
theorem dL_law_537 : decode cL_law 537 = .ok (.iload_n 3, 1) := by decide +kernel
theorem dL_law_538 : decode cL_law 538 = .ok (.iconst 1, 1) := by decide +kernel
theorem dL_law_539 : decode cL_law 539 = .ok (.iadd, 1) := by decide +kernel
theorem dL_law_540 : decode cL_law 540 = .ok (.iaload, 1) := by decide +kernel
theorem dL_law_541 : decode cL_law 541 = .ok (.aload_n 0, 1) := by decide +kernel
theorem dL_law_542 : decode cL_law 542 = .ok (.iload_n 3, 1) := by decide +kernel
theorem dL_law_543 : decode cL_law 543 = .ok (.iconst 2, 1) := by decide +kernel
theorem dL_law_544 : decode cL_law 544 = .ok (.iadd, 1) := by decide +kernel
theorem dL_law_545 : decode cL_law 545 = .ok (.iaload, 1) := by decide +kernel
theorem dL_law_546 : decode cL_law 546 = .ok (.invokevirtual 83, 3) := by decide +kernel
theorem dL_law_549 : decode cL_law 549 = .ok (.aload_n 2, 1) := by decide +kernel
theorem dL_law_550 : decode cL_law 550 = .ok (.aload_n 0, 1) := by decide +kernel
theorem dL_law_551 : decode cL_law 551 = .ok (.iload_n 3, 1) := by decide +kernel
theorem dL_law_552 : decode cL_law 552 = .ok (.iconst 1, 1) := by decide +kernel
theorem dL_law_553 : decode cL_law 553 = .ok (.iadd, 1) := by decide +kernel
theorem dL_law_554 : decode cL_law 554 = .ok (.iaload, 1) := by decide +kernel
theorem dL_law_555 : decode cL_law 555 = .ok (.aload_n 0, 1) := by decide +kernel
theorem dL_law_556 : decode cL_law 556 = .ok (.iload_n 3, 1) := by decide +kernel
theorem dL_law_557 : decode cL_law 557 = .ok (.iconst 2, 1) := by decide +kernel
theorem dL_law_558 : decode cL_law 558 = .ok (.iadd, 1) := by decide +kernel
theorem dL_law_559 : decode cL_law 559 = .ok (.iaload, 1) := by decide +kernel
theorem dL_law_560 : decode cL_law 560 = .ok (.invokevirtual 86, 3) := by decide +kernel
theorem dL_law_563 : decode cL_law 563 = .ok (.if_icmp .eq 117, 3) := by decide +kernel
theorem dL_law_566 : decode cL_law 566 = .ok (.iconst 0, 1) := by decide +kernel
theorem dL_law_567 : decode cL_law 567 = .ok (.ireturn, 1) := by decide +kernel
theorem dL_law_568 : decode cL_law 568 = .ok (.aload_n 1, 1) := by decide +kernel
theorem dL_law_569 : decode cL_law 569 = .ok (.aload_n 0, 1) := by decide +kernel
theorem dL_law_570 : decode cL_law 570 = .ok (.iload_n 3, 1) := by decide +kernel
theorem dL_law_571 : decode cL_law 571 = .ok (.iconst 1, 1) := by decide +kernel
theorem dL_law_572 : decode cL_law 572 = .ok (.iadd, 1) := by decide +kernel
theorem dL_law_573 : decode cL_law 573 = .ok (.iaload, 1) := by decide +kernel
theorem dL_law_574 : decode cL_law 574 = .ok (.aload_n 0, 1) := by decide +kernel
theorem dL_law_575 : decode cL_law 575 = .ok (.iload_n 3, 1) := by decide +kernel
theorem dL_law_576 : decode cL_law 576 = .ok (.iconst 2, 1) := by decide +kernel
theorem dL_law_577 : decode cL_law 577 = .ok (.iadd, 1) := by decide +kernel
theorem dL_law_578 : decode cL_law 578 = .ok (.iaload, 1) := by decide +kernel
theorem dL_law_579 : decode cL_law 579 = .ok (.invokevirtual 87, 3) := by decide +kernel
theorem dL_law_582 : decode cL_law 582 = .ok (.aload_n 2, 1) := by decide +kernel
theorem dL_law_583 : decode cL_law 583 = .ok (.aload_n 0, 1) := by decide +kernel
theorem dL_law_584 : decode cL_law 584 = .ok (.iload_n 3, 1) := by decide +kernel
theorem dL_law_585 : decode cL_law 585 = .ok (.iconst 1, 1) := by decide +kernel
theorem dL_law_586 : decode cL_law 586 = .ok (.iadd, 1) := by decide +kernel
theorem dL_law_587 : decode cL_law 587 = .ok (.iaload, 1) := by decide +kernel
theorem dL_law_588 : decode cL_law 588 = .ok (.aload_n 0, 1) := by decide +kernel
theorem dL_law_589 : decode cL_law 589 = .ok (.iload_n 3, 1) := by decide +kernel
theorem dL_law_590 : decode cL_law 590 = .ok (.iconst 2, 1) := by decide +kernel
theorem dL_law_591 : decode cL_law 591 = .ok (.iadd, 1) := by decide +kernel
theorem dL_law_592 : decode cL_law 592 = .ok (.iaload, 1) := by decide +kernel
theorem dL_law_593 : decode cL_law 593 = .ok (.invokevirtual 90, 3) := by decide +kernel
theorem dL_law_596 : decode cL_law 596 = .ok (.if_icmp .eq 84, 3) := by decide +kernel
theorem dL_law_599 : decode cL_law 599 = .ok (.iconst 0, 1) := by decide +kernel
theorem dL_law_600 : decode cL_law 600 = .ok (.ireturn, 1) := by decide +kernel
theorem dL_law_601 : decode cL_law 601 = .ok (.aload_n 1, 1) := by decide +kernel
theorem dL_law_602 : decode cL_law 602 = .ok (.aload_n 0, 1) := by decide +kernel
theorem dL_law_603 : decode cL_law 603 = .ok (.iload_n 3, 1) := by decide +kernel
theorem dL_law_604 : decode cL_law 604 = .ok (.iconst 1, 1) := by decide +kernel
theorem dL_law_605 : decode cL_law 605 = .ok (.iadd, 1) := by decide +kernel
theorem dL_law_606 : decode cL_law 606 = .ok (.iaload, 1) := by decide +kernel
theorem dL_law_607 : decode cL_law 607 = .ok (.invokevirtual 91, 3) := by decide +kernel
theorem dL_law_610 : decode cL_law 610 = .ok (.aload_n 2, 1) := by decide +kernel
theorem dL_law_611 : decode cL_law 611 = .ok (.aload_n 0, 1) := by decide +kernel
theorem dL_law_612 : decode cL_law 612 = .ok (.iload_n 3, 1) := by decide +kernel
theorem dL_law_613 : decode cL_law 613 = .ok (.iconst 1, 1) := by decide +kernel
theorem dL_law_614 : decode cL_law 614 = .ok (.iadd, 1) := by decide +kernel
theorem dL_law_615 : decode cL_law 615 = .ok (.iaload, 1) := by decide +kernel
theorem dL_law_616 : decode cL_law 616 = .ok (.invokevirtual 94, 3) := by decide +kernel
theorem dL_law_619 : decode cL_law 619 = .ok (.if_icmp .eq 61, 3) := by decide +kernel
theorem dL_law_622 : decode cL_law 622 = .ok (.iconst 0, 1) := by decide +kernel
theorem dL_law_623 : decode cL_law 623 = .ok (.ireturn, 1) := by decide +kernel
theorem dL_law_624 : decode cL_law 624 = .ok (.aload_n 1, 1) := by decide +kernel
theorem dL_law_625 : decode cL_law 625 = .ok (.aload_n 0, 1) := by decide +kernel
theorem dL_law_626 : decode cL_law 626 = .ok (.iload_n 3, 1) := by decide +kernel
theorem dL_law_627 : decode cL_law 627 = .ok (.iconst 1, 1) := by decide +kernel
theorem dL_law_628 : decode cL_law 628 = .ok (.iadd, 1) := by decide +kernel
theorem dL_law_629 : decode cL_law 629 = .ok (.iaload, 1) := by decide +kernel
theorem dL_law_630 : decode cL_law 630 = .ok (.aload_n 0, 1) := by decide +kernel
theorem dL_law_631 : decode cL_law 631 = .ok (.iload_n 3, 1) := by decide +kernel
theorem dL_law_632 : decode cL_law 632 = .ok (.iconst 2, 1) := by decide +kernel
theorem dL_law_633 : decode cL_law 633 = .ok (.iadd, 1) := by decide +kernel
theorem dL_law_634 : decode cL_law 634 = .ok (.iaload, 1) := by decide +kernel
theorem dL_law_635 : decode cL_law 635 = .ok (.invokevirtual 95, 3) := by decide +kernel
theorem dL_law_638 : decode cL_law 638 = .ok (.aload_n 2, 1) := by decide +kernel
theorem dL_law_639 : decode cL_law 639 = .ok (.aload_n 0, 1) := by decide +kernel
theorem dL_law_640 : decode cL_law 640 = .ok (.iload_n 3, 1) := by decide +kernel
theorem dL_law_641 : decode cL_law 641 = .ok (.iconst 1, 1) := by decide +kernel
theorem dL_law_642 : decode cL_law 642 = .ok (.iadd, 1) := by decide +kernel
theorem dL_law_643 : decode cL_law 643 = .ok (.iaload, 1) := by decide +kernel
theorem dL_law_644 : decode cL_law 644 = .ok (.aload_n 0, 1) := by decide +kernel
theorem dL_law_645 : decode cL_law 645 = .ok (.iload_n 3, 1) := by decide +kernel
theorem dL_law_646 : decode cL_law 646 = .ok (.iconst 2, 1) := by decide +kernel
theorem dL_law_647 : decode cL_law 647 = .ok (.iadd, 1) := by decide +kernel
theorem dL_law_648 : decode cL_law 648 = .ok (.iaload, 1) := by decide +kernel
theorem dL_law_649 : decode cL_law 649 = .ok (.invokevirtual 98, 3) := by decide +kernel
theorem dL_law_652 : decode cL_law 652 = .ok (.if_icmp .eq 28, 3) := by decide +kernel
theorem dL_law_655 : decode cL_law 655 = .ok (.iconst 0, 1) := by decide +kernel
theorem dL_law_656 : decode cL_law 656 = .ok (.ireturn, 1) := by decide +kernel
theorem dL_law_657 : decode cL_law 657 = .ok (.aload_n 1, 1) := by decide +kernel
theorem dL_law_658 : decode cL_law 658 = .ok (.aload_n 0, 1) := by decide +kernel
theorem dL_law_659 : decode cL_law 659 = .ok (.iload_n 3, 1) := by decide +kernel
theorem dL_law_660 : decode cL_law 660 = .ok (.iconst 1, 1) := by decide +kernel
theorem dL_law_661 : decode cL_law 661 = .ok (.iadd, 1) := by decide +kernel
theorem dL_law_662 : decode cL_law 662 = .ok (.iaload, 1) := by decide +kernel
theorem dL_law_663 : decode cL_law 663 = .ok (.invokevirtual 99, 3) := by decide +kernel
theorem dL_law_666 : decode cL_law 666 = .ok (.aload_n 2, 1) := by decide +kernel
theorem dL_law_667 : decode cL_law 667 = .ok (.aload_n 0, 1) := by decide +kernel
theorem dL_law_668 : decode cL_law 668 = .ok (.iload_n 3, 1) := by decide +kernel
theorem dL_law_669 : decode cL_law 669 = .ok (.iconst 1, 1) := by decide +kernel
theorem dL_law_670 : decode cL_law 670 = .ok (.iadd, 1) := by decide +kernel
theorem dL_law_671 : decode cL_law 671 = .ok (.iaload, 1) := by decide +kernel
theorem dL_law_672 : decode cL_law 672 = .ok (.invokevirtual 102, 3) := by decide +kernel
theorem dL_law_675 : decode cL_law 675 = .ok (.if_icmp .eq 5, 3) := by decide +kernel
theorem dL_law_678 : decode cL_law 678 = .ok (.iconst 0, 1) := by decide +kernel
theorem dL_law_679 : decode cL_law 679 = .ok (.ireturn, 1) := by decide +kernel
theorem dL_law_680 : decode cL_law 680 = .ok (.iinc 3 5, 3) := by decide +kernel
theorem dL_law_683 : decode cL_law 683 = .ok (.goto (-665), 3) := by decide +kernel
theorem dL_law_686 : decode cL_law 686 = .ok (.iconst 1, 1) := by decide +kernel
theorem dL_law_687 : decode cL_law 687 = .ok (.ireturn, 1) := by decide +kernel
end
section
theorem kf_X7_10 : Cond.fieldLink RX7 10 "TruthSums" "text" "LTruthSums$Text;" ∈ lw_tbl := List.mem_of_getElem? (i := 226) (by decide +kernel)
theorem kf_X7_19 : Cond.fieldLink RX7 19 "TruthSums" "reader" "LTruthSums$Reader;" ∈ lw_tbl := List.mem_of_getElem? (i := 227) (by decide +kernel)
theorem kf_X7_26 : Cond.fieldLink RX7 26 "TruthSums" "forcing" "LTruthSums$Forcing;" ∈ lw_tbl := List.mem_of_getElem? (i := 228) (by decide +kernel)
theorem kf_X7_33 : Cond.fieldLink RX7 33 "TruthSums" "fitting" "LTruthSums$Fit;" ∈ lw_tbl := List.mem_of_getElem? (i := 229) (by decide +kernel)
theorem kf_X7_39 : Cond.fieldLink RX7 39 "TruthSums" "lines" "[LTruthSums$Line;" ∈ lw_tbl := List.mem_of_getElem? (i := 230) (by decide +kernel)
theorem kf_X7_44 : Cond.fieldLink RX7 44 "TruthSums" "givenWorlds" "[J" ∈ lw_tbl := List.mem_of_getElem? (i := 231) (by decide +kernel)
theorem kf_X7_48 : Cond.fieldLink RX7 48 "TruthSums" "costs" "[I" ∈ lw_tbl := List.mem_of_getElem? (i := 232) (by decide +kernel)
theorem kf_X7_52 : Cond.fieldLink RX7 52 "TruthSums" "wrongStep" "I" ∈ lw_tbl := List.mem_of_getElem? (i := 236) (by decide +kernel)
theorem kf_X7_56 : Cond.fieldLink RX7 56 "TruthSums" "wrongKind" "I" ∈ lw_tbl := List.mem_of_getElem? (i := 237) (by decide +kernel)
theorem kf_X7_59 : Cond.fieldLink RX7 59 "TruthSums$Text" "length" "I" ∈ lw_tbl := List.mem_of_getElem? (i := 86) (by decide +kernel)
theorem kf_X7_74 : Cond.fieldLink RX7 74 "TruthSums$Reader" "told" "[LTruthSums$Line;" ∈ lw_tbl := List.mem_of_getElem? (i := 171) (by decide +kernel)
theorem kf_X7_81 : Cond.fieldLink RX7 81 "TruthSums" "givenCount" "I" ∈ lw_tbl := List.mem_of_getElem? (i := 233) (by decide +kernel)
theorem kf_X7_91 : Cond.fieldLink RX7 91 "TruthSums" "stepCount" "I" ∈ lw_tbl := List.mem_of_getElem? (i := 235) (by decide +kernel)
theorem kf_X7_97 : Cond.fieldLink RX7 97 "TruthSums" "proofCount" "I" ∈ lw_tbl := List.mem_of_getElem? (i := 234) (by decide +kernel)
theorem kf_X7_100 : Cond.fieldLink RX7 100 "TruthSums$Reader" "steps" "[LTruthSums$Step;" ∈ lw_tbl := List.mem_of_getElem? (i := 173) (by decide +kernel)
theorem kf_X7_104 : Cond.fieldLink RX7 104 "TruthSums$Step" "kind" "I" ∈ lw_tbl := List.mem_of_getElem? (i := 153) (by decide +kernel)
theorem kf_X7_117 : Cond.fieldLink RX7 117 "TruthSums$Step" "first" "I" ∈ lw_tbl := List.mem_of_getElem? (i := 155) (by decide +kernel)
theorem kf_X7_124 : Cond.fieldLink RX7 124 "TruthSums$Step" "second" "I" ∈ lw_tbl := List.mem_of_getElem? (i := 157) (by decide +kernel)
theorem kf_X7_156 : Cond.fieldLink RX7 156 "TruthSums$Step" "claimed" "LTruthSums$Line;" ∈ lw_tbl := List.mem_of_getElem? (i := 160) (by decide +kernel)
theorem kf_X7_167 : Cond.fieldLink RX7 167 "TruthSums$Forcing" "clashes" "Z" ∈ lw_tbl := List.mem_of_getElem? (i := 193) (by decide +kernel)
theorem kf_X7_172 : Cond.fieldLink RX7 172 "TruthSums$Line" "degree" "I" ∈ lw_tbl := List.mem_of_getElem? (i := 139) (by decide +kernel)
theorem kf_X7_175 : Cond.fieldLink RX7 175 "TruthSums$Line" "weights" "[I" ∈ lw_tbl := List.mem_of_getElem? (i := 135) (by decide +kernel)
theorem kf_X7_197 : Cond.fieldLink RX7 197 "TruthSums$Forcing" "so" "I" ∈ lw_tbl := List.mem_of_getElem? (i := 189) (by decide +kernel)
theorem kf_X7_200 : Cond.fieldLink RX7 200 "TruthSums$Forcing" "not" "I" ∈ lw_tbl := List.mem_of_getElem? (i := 191) (by decide +kernel)
theorem kf_X7_235 : Cond.fieldLink RX7 235 "TruthSums$Fit" "a" "I" ∈ lw_tbl := List.mem_of_getElem? (i := 208) (by decide +kernel)
theorem kf_X7_238 : Cond.fieldLink RX7 238 "TruthSums$Fit" "b" "I" ∈ lw_tbl := List.mem_of_getElem? (i := 210) (by decide +kernel)
theorem kf_X7_241 : Cond.fieldLink RX7 241 "TruthSums$Fit" "c" "I" ∈ lw_tbl := List.mem_of_getElem? (i := 212) (by decide +kernel)
theorem kf_X7_244 : Cond.fieldLink RX7 244 "TruthSums$Fit" "degree" "I" ∈ lw_tbl := List.mem_of_getElem? (i := 214) (by decide +kernel)
theorem kf_X0_7 : Cond.fieldLink RX0 7 "TruthSums$Fit" "a" "I" ∈ lw_tbl := List.mem_of_getElem? (i := 207) (by decide +kernel)
theorem kf_X0_13 : Cond.fieldLink RX0 13 "TruthSums$Fit" "b" "I" ∈ lw_tbl := List.mem_of_getElem? (i := 209) (by decide +kernel)
theorem kf_X0_16 : Cond.fieldLink RX0 16 "TruthSums$Fit" "c" "I" ∈ lw_tbl := List.mem_of_getElem? (i := 211) (by decide +kernel)
theorem kf_X0_19 : Cond.fieldLink RX0 19 "TruthSums$Fit" "degree" "I" ∈ lw_tbl := List.mem_of_getElem? (i := 213) (by decide +kernel)
theorem kf_X1_9 : Cond.fieldLink RX1 9 "TruthSums$Forcing" "so" "I" ∈ lw_tbl := List.mem_of_getElem? (i := 188) (by decide +kernel)
theorem kf_X1_15 : Cond.fieldLink RX1 15 "TruthSums$Forcing" "not" "I" ∈ lw_tbl := List.mem_of_getElem? (i := 190) (by decide +kernel)
theorem kf_X1_18 : Cond.fieldLink RX1 18 "TruthSums$Forcing" "clashes" "Z" ∈ lw_tbl := List.mem_of_getElem? (i := 192) (by decide +kernel)
theorem kf_X1_36 : Cond.fieldLink RX1 36 "TruthSums$Line" "degree" "I" ∈ lw_tbl := List.mem_of_getElem? (i := 137) (by decide +kernel)
theorem kf_X1_39 : Cond.fieldLink RX1 39 "TruthSums$Line" "weights" "[I" ∈ lw_tbl := List.mem_of_getElem? (i := 133) (by decide +kernel)
theorem kf_X2_9 : Cond.fieldLink RX2 9 "TruthSums$Line" "weights" "[I" ∈ lw_tbl := List.mem_of_getElem? (i := 132) (by decide +kernel)
theorem kf_X2_15 : Cond.fieldLink RX2 15 "TruthSums$Line" "degree" "I" ∈ lw_tbl := List.mem_of_getElem? (i := 136) (by decide +kernel)
theorem kf_X3_11 : Cond.fieldLink RX3 11 "TruthSums$Reader" "told" "[LTruthSums$Line;" ∈ lw_tbl := List.mem_of_getElem? (i := 170) (by decide +kernel)
theorem kf_X3_19 : Cond.fieldLink RX3 19 "TruthSums$Reader" "steps" "[LTruthSums$Step;" ∈ lw_tbl := List.mem_of_getElem? (i := 172) (by decide +kernel)
theorem kf_X3_26 : Cond.fieldLink RX3 26 "TruthSums$Reader" "tokens" "LTruthSums$Tokens;" ∈ lw_tbl := List.mem_of_getElem? (i := 174) (by decide +kernel)
theorem kf_X3_67 : Cond.fieldLink RX3 67 "TruthSums$Line" "degree" "I" ∈ lw_tbl := List.mem_of_getElem? (i := 138) (by decide +kernel)
theorem kf_X3_75 : Cond.fieldLink RX3 75 "TruthSums$Line" "weights" "[I" ∈ lw_tbl := List.mem_of_getElem? (i := 134) (by decide +kernel)
theorem kf_X3_79 : Cond.fieldLink RX3 79 "TruthSums$Step" "kind" "I" ∈ lw_tbl := List.mem_of_getElem? (i := 152) (by decide +kernel)
theorem kf_X3_81 : Cond.fieldLink RX3 81 "TruthSums$Step" "claimed" "LTruthSums$Line;" ∈ lw_tbl := List.mem_of_getElem? (i := 159) (by decide +kernel)
theorem kf_X3_96 : Cond.fieldLink RX3 96 "TruthSums$Step" "first" "I" ∈ lw_tbl := List.mem_of_getElem? (i := 154) (by decide +kernel)
theorem kf_X3_99 : Cond.fieldLink RX3 99 "TruthSums$Step" "second" "I" ∈ lw_tbl := List.mem_of_getElem? (i := 156) (by decide +kernel)
theorem kf_X4_10 : Cond.fieldLink RX4 10 "TruthSums$Step" "claimed" "LTruthSums$Line;" ∈ lw_tbl := List.mem_of_getElem? (i := 158) (by decide +kernel)
theorem kf_X5_9 : Cond.fieldLink RX5 9 "TruthSums$Text" "bytes" "[B" ∈ lw_tbl := List.mem_of_getElem? (i := 84) (by decide +kernel)
theorem kf_X5_15 : Cond.fieldLink RX5 15 "TruthSums$Text" "length" "I" ∈ lw_tbl := List.mem_of_getElem? (i := 85) (by decide +kernel)
theorem kf_X6_9 : Cond.fieldLink RX6 9 "TruthSums$Tokens" "kinds" "[I" ∈ lw_tbl := List.mem_of_getElem? (i := 110) (by decide +kernel)
theorem kf_X6_15 : Cond.fieldLink RX6 15 "TruthSums$Tokens" "values" "[I" ∈ lw_tbl := List.mem_of_getElem? (i := 111) (by decide +kernel)
theorem kf_X6_18 : Cond.fieldLink RX6 18 "TruthSums$Tokens" "places" "[I" ∈ lw_tbl := List.mem_of_getElem? (i := 112) (by decide +kernel)
theorem kf_X6_21 : Cond.fieldLink RX6 21 "TruthSums$Tokens" "now" "I" ∈ lw_tbl := List.mem_of_getElem? (i := 114) (by decide +kernel)
theorem kf_X6_25 : Cond.fieldLink RX6 25 "TruthSums$Tokens" "count" "I" ∈ lw_tbl := List.mem_of_getElem? (i := 113) (by decide +kernel)
theorem kf_X6_28 : Cond.fieldLink RX6 28 "TruthSums$Text" "length" "I" ∈ lw_tbl := List.mem_of_getElem? (i := 87) (by decide +kernel)
theorem kf_X8_7 : Cond.fieldLink RX8 7 "TruthSumsModel" "text" "[I" ∈ lw_tbl := List.mem_of_getElem? (i := 697) (by decide +kernel)
theorem kf_X8_13 : Cond.fieldLink RX8 13 "TruthSumsModel" "line" "[I" ∈ lw_tbl := List.mem_of_getElem? (i := 704) (by decide +kernel)
theorem kf_X8_16 : Cond.fieldLink RX8 16 "TruthSumsModel" "wrongStep" "I" ∈ lw_tbl := List.mem_of_getElem? (i := 708) (by decide +kernel)
theorem kf_X8_20 : Cond.fieldLink RX8 20 "TruthSumsModel" "wrongBy" "I" ∈ lw_tbl := List.mem_of_getElem? (i := 709) (by decide +kernel)
theorem kf_X8_23 : Cond.fieldLink RX8 23 "TruthSumsModel" "draft" "[I" ∈ lw_tbl := List.mem_of_getElem? (i := 710) (by decide +kernel)
theorem kf_X8_26 : Cond.fieldLink RX8 26 "TruthSumsModel" "step" "[I" ∈ lw_tbl := List.mem_of_getElem? (i := 711) (by decide +kernel)
theorem kf_X8_29 : Cond.fieldLink RX8 29 "TruthSumsModel" "costs" "[I" ∈ lw_tbl := List.mem_of_getElem? (i := 714) (by decide +kernel)
theorem kf_X8_32 : Cond.fieldLink RX8 32 "TruthSumsModel" "fitted" "[I" ∈ lw_tbl := List.mem_of_getElem? (i := 715) (by decide +kernel)
theorem kf_X8_35 : Cond.fieldLink RX8 35 "TruthSumsModel" "thrown" "I" ∈ lw_tbl := List.mem_of_getElem? (i := 696) (by decide +kernel)
theorem kf_X8_42 : Cond.fieldLink RX8 42 "TruthSumsModel" "typed" "I" ∈ lw_tbl := List.mem_of_getElem? (i := 698) (by decide +kernel)
theorem kf_X8_57 : Cond.fieldLink RX8 57 "TruthSumsModel" "next" "I" ∈ lw_tbl := List.mem_of_getElem? (i := 699) (by decide +kernel)
theorem kf_X8_64 : Cond.fieldLink RX8 64 "TruthSumsModel" "place" "I" ∈ lw_tbl := List.mem_of_getElem? (i := 701) (by decide +kernel)
theorem kf_X8_67 : Cond.fieldLink RX8 67 "TruthSumsModel" "token" "I" ∈ lw_tbl := List.mem_of_getElem? (i := 700) (by decide +kernel)
theorem kf_X8_74 : Cond.fieldLink RX8 74 "TruthSumsModel" "value" "I" ∈ lw_tbl := List.mem_of_getElem? (i := 702) (by decide +kernel)
theorem kf_X8_77 : Cond.fieldLink RX8 77 "TruthSumsModel" "fault" "I" ∈ lw_tbl := List.mem_of_getElem? (i := 703) (by decide +kernel)
theorem kf_X8_106 : Cond.fieldLink RX8 106 "TruthSumsModel" "given" "I" ∈ lw_tbl := List.mem_of_getElem? (i := 705) (by decide +kernel)
theorem kf_X8_109 : Cond.fieldLink RX8 109 "TruthSumsModel" "proved" "I" ∈ lw_tbl := List.mem_of_getElem? (i := 706) (by decide +kernel)
theorem kf_X8_112 : Cond.fieldLink RX8 112 "TruthSumsModel" "steps" "I" ∈ lw_tbl := List.mem_of_getElem? (i := 707) (by decide +kernel)
theorem kf_X8_162 : Cond.fieldLink RX8 162 "TruthSumsModel" "so" "I" ∈ lw_tbl := List.mem_of_getElem? (i := 712) (by decide +kernel)
theorem kf_X8_165 : Cond.fieldLink RX8 165 "TruthSumsModel" "not" "I" ∈ lw_tbl := List.mem_of_getElem? (i := 713) (by decide +kernel)
theorem kf_J0_9 : Cond.fieldLink RJ0 9 "java/lang/String" "value" "[B" ∈ lw_tbl := List.mem_of_getElem? (i := 960) (by decide +kernel)
theorem kf_J0_15 : Cond.fieldLink RJ0 15 "java/lang/String" "coder" "B" ∈ lw_tbl := List.mem_of_getElem? (i := 961) (by decide +kernel)
theorem kf_J0_38 : Cond.fieldLink RJ0 38 "java/lang/String" "COMPACT_STRINGS" "Z" ∈ lw_tbl := List.mem_of_getElem? (i := 323) (by decide +kernel)
theorem kf_J0_1053 : Cond.fieldLink RJ0 1053 "jdk/internal/util/Preconditions" "SIOOBE_FORMATTER" "Ljava/util/function/BiFunction;" ∈ lw_tbl := List.mem_of_getElem? (i := 340) (by decide +kernel)
theorem kf_J2_44 : Cond.fieldLink RJ2 44 "java/lang/StringUTF16" "$assertionsDisabled" "Z" ∈ lw_tbl := List.mem_of_getElem? (i := 358) (by decide +kernel)
theorem kf_J2_59 : Cond.fieldLink RJ2 59 "java/lang/StringUTF16" "HI_BYTE_SHIFT" "I" ∈ lw_tbl := List.mem_of_getElem? (i := 360) (by decide +kernel)
theorem kf_J2_63 : Cond.fieldLink RJ2 63 "java/lang/StringUTF16" "LO_BYTE_SHIFT" "I" ∈ lw_tbl := List.mem_of_getElem? (i := 362) (by decide +kernel)
theorem kl_X7_18 : Cond.methodLink RX7 18 yX3_init ∈ lw_tbl := List.mem_of_getElem? (i := 96) (by decide +kernel)
theorem kl_X7_62 : Cond.methodLink RX7 62 yX5_put ∈ lw_tbl := List.mem_of_getElem? (i := 268) (by decide +kernel)
theorem kl_X7_66 : Cond.methodLink RX7 66 yX5_empty ∈ lw_tbl := List.mem_of_getElem? (i := 276) (by decide +kernel)
theorem kl_X7_70 : Cond.methodLink RX7 70 yX3_readGiven ∈ lw_tbl := List.mem_of_getElem? (i := 284) (by decide +kernel)
theorem kl_X7_77 : Cond.methodLink RX7 77 yX2_becomeSame ∈ lw_tbl := List.mem_of_getElem? (i := 424) (by decide +kernel)
theorem kl_X7_84 : Cond.methodLink RX7 84 yX7_forgetProof ∈ lw_tbl := List.mem_of_getElem? (i := 428) (by decide +kernel)
theorem kl_X7_87 : Cond.methodLink RX7 87 yX3_readProof ∈ lw_tbl := List.mem_of_getElem? (i := 436) (by decide +kernel)
theorem kl_X7_94 : Cond.methodLink RX7 94 yX7_walkProof ∈ lw_tbl := List.mem_of_getElem? (i := 456) (by decide +kernel)
theorem kl_X7_109 : Cond.methodLink RX7 109 yX7_takeClaim ∈ lw_tbl := List.mem_of_getElem? (i := 460) (by decide +kernel)
theorem kl_X7_113 : Cond.methodLink RX7 113 yX7_takeStep ∈ lw_tbl := List.mem_of_getElem? (i := 488) (by decide +kernel)
theorem kl_X7_120 : Cond.methodLink RX7 120 yX7_lineOrFirst ∈ lw_tbl := List.mem_of_getElem? (i := 492) (by decide +kernel)
theorem kl_X7_127 : Cond.methodLink RX7 127 yX2_becomeSum ∈ lw_tbl := List.mem_of_getElem? (i := 504) (by decide +kernel)
theorem kl_X7_131 : Cond.methodLink RX7 131 yX2_becomeTimes ∈ lw_tbl := List.mem_of_getElem? (i := 512) (by decide +kernel)
theorem kl_X7_135 : Cond.methodLink RX7 135 yX2_becomeCut ∈ lw_tbl := List.mem_of_getElem? (i := 516) (by decide +kernel)
theorem kl_X7_138 : Cond.methodLink RX7 138 yX2_becomeTrimmed ∈ lw_tbl := List.mem_of_getElem? (i := 523) (by decide +kernel)
theorem kl_X7_141 : Cond.methodLink RX7 141 yX2_becomeDropped ∈ lw_tbl := List.mem_of_getElem? (i := 527) (by decide +kernel)
theorem kl_X7_144 : Cond.methodLink RX7 144 yX2_becomeBare ∈ lw_tbl := List.mem_of_getElem? (i := 532) (by decide +kernel)
theorem kl_X7_148 : Cond.methodLink RX7 148 yX2_isTooGreat ∈ lw_tbl := List.mem_of_getElem? (i := 537) (by decide +kernel)
theorem kl_X7_152 : Cond.methodLink RX7 152 yX7_isLine ∈ lw_tbl := List.mem_of_getElem? (i := 496) (by decide +kernel)
theorem kl_X7_160 : Cond.methodLink RX7 160 yX2_becomeOpposite ∈ lw_tbl := List.mem_of_getElem? (i := 464) (by decide +kernel)
theorem kl_X7_163 : Cond.methodLink RX7 163 yX1_force ∈ lw_tbl := List.mem_of_getElem? (i := 475) (by decide +kernel)
theorem kl_X7_178 : Cond.methodLink RX7 178 yX2_worldsHeld ∈ lw_tbl := List.mem_of_getElem? (i := 555) (by decide +kernel)
theorem kl_X7_182 : Cond.methodLink RX7 182 yX2_isBroken ∈ lw_tbl := List.mem_of_getElem? (i := 567) (by decide +kernel)
theorem kl_X7_185 : Cond.methodLink RX7 185 yX7_lineCount ∈ lw_tbl := List.mem_of_getElem? (i := 500) (by decide +kernel)
theorem kl_X7_188 : Cond.methodLink RX7 188 yX7_isWithin ∈ lw_tbl := List.mem_of_getElem? (i := 579) (by decide +kernel)
theorem kl_X7_194 : Cond.methodLink RX7 194 yX7_isLetterSet ∈ lw_tbl := List.mem_of_getElem? (i := 587) (by decide +kernel)
theorem kl_X7_203 : Cond.methodLink RX7 203 yX7_trueWorlds ∈ lw_tbl := List.mem_of_getElem? (i := 594) (by decide +kernel)
theorem kl_X7_206 : Cond.methodLink RX7 206 yX7_has ∈ lw_tbl := List.mem_of_getElem? (i := 606) (by decide +kernel)
theorem kl_X7_210 : Cond.methodLink RX7 210 yX2_weighsIn ∈ lw_tbl := List.mem_of_getElem? (i := 609) (by decide +kernel)
theorem kl_X7_214 : Cond.methodLink RX7 214 yX7_leastTelling ∈ lw_tbl := List.mem_of_getElem? (i := 614) (by decide +kernel)
theorem kl_X7_218 : Cond.methodLink RX7 218 yJ6_bitCount_0f7a4 ∈ lw_tbl := List.mem_of_getElem? (i := 618) (by decide +kernel)
theorem kl_X7_223 : Cond.methodLink RX7 223 yX2_isLeastCover ∈ lw_tbl := List.mem_of_getElem? (i := 632) (by decide +kernel)
theorem kl_X7_226 : Cond.methodLink RX7 226 yX7_cheapestTrueWorld ∈ lw_tbl := List.mem_of_getElem? (i := 648) (by decide +kernel)
theorem kl_X7_229 : Cond.methodLink RX7 229 yX7_costOf ∈ lw_tbl := List.mem_of_getElem? (i := 652) (by decide +kernel)
theorem kl_X7_232 : Cond.methodLink RX7 232 yX0_search ∈ lw_tbl := List.mem_of_getElem? (i := 660) (by decide +kernel)
theorem kl_X7_245 : Cond.methodLink RX7 245 yJ9_abs_0f7a4 ∈ lw_tbl := List.mem_of_getElem? (i := 679) (by decide +kernel)
theorem kl_X7_250 : Cond.methodLink RX7 250 yJ13_bitCount_95d88 ∈ lw_tbl := List.mem_of_getElem? (i := 684) (by decide +kernel)
theorem kl_X7_254 : Cond.methodLink RX7 254 yX7_worldsOfGiven ∈ lw_tbl := List.mem_of_getElem? (i := 624) (by decide +kernel)
theorem kl_X0_22 : Cond.methodLink RX0 22 yX0_searchTogether ∈ lw_tbl := List.mem_of_getElem? (i := 664) (by decide +kernel)
theorem kl_X0_26 : Cond.methodLink RX0 26 yJ9_abs_0f7a4 ∈ lw_tbl := List.mem_of_getElem? (i := 668) (by decide +kernel)
theorem kl_X0_32 : Cond.methodLink RX0 32 yX0_fits ∈ lw_tbl := List.mem_of_getElem? (i := 669) (by decide +kernel)
theorem kl_X0_39 : Cond.methodLink RX0 39 yX0_part ∈ lw_tbl := List.mem_of_getElem? (i := 674) (by decide +kernel)
theorem kl_X0_43 : Cond.methodLink RX0 43 yJ9_min_7cf53 ∈ lw_tbl := List.mem_of_getElem? (i := 678) (by decide +kernel)
theorem kl_X0_46 : Cond.methodLink RX0 46 yJ9_max_7cf53 ∈ lw_tbl := List.mem_of_getElem? (i := 677) (by decide +kernel)
theorem kl_X1_22 : Cond.methodLink RX1 22 yX1_passOver ∈ lw_tbl := List.mem_of_getElem? (i := 479) (by decide +kernel)
theorem kl_X1_26 : Cond.methodLink RX1 26 yX1_visit ∈ lw_tbl := List.mem_of_getElem? (i := 483) (by decide +kernel)
theorem kl_X1_30 : Cond.methodLink RX1 30 yX2_mayWeigh ∈ lw_tbl := List.mem_of_getElem? (i := 487) (by decide +kernel)
theorem kl_X2_19 : Cond.methodLink RX2 19 yX2_becomeEmpty ∈ lw_tbl := List.mem_of_getElem? (i := 536) (by decide +kernel)
theorem kl_X2_22 : Cond.methodLink RX2 22 yJ9_abs_0f7a4 ∈ lw_tbl := List.mem_of_getElem? (i := 472) (by decide +kernel)
theorem kl_X2_28 : Cond.methodLink RX2 28 yJ9_min_7cf53 ∈ lw_tbl := List.mem_of_getElem? (i := 508) (by decide +kernel)
theorem kl_X2_32 : Cond.methodLink RX2 32 yJ9_max_7cf53 ∈ lw_tbl := List.mem_of_getElem? (i := 509) (by decide +kernel)
theorem kl_X2_35 : Cond.methodLink RX2 35 yX2_signed ∈ lw_tbl := List.mem_of_getElem? (i := 520) (by decide +kernel)
theorem kl_X2_38 : Cond.methodLink RX2 38 yX2_becomeSame ∈ lw_tbl := List.mem_of_getElem? (i := 531) (by decide +kernel)
theorem kl_X2_42 : Cond.methodLink RX2 42 yX2_mayWeigh ∈ lw_tbl := List.mem_of_getElem? (i := 468) (by decide +kernel)
theorem kl_X2_46 : Cond.methodLink RX2 46 yX2_weighsIn ∈ lw_tbl := List.mem_of_getElem? (i := 559) (by decide +kernel)
theorem kl_X2_49 : Cond.methodLink RX2 49 yX2_isCover ∈ lw_tbl := List.mem_of_getElem? (i := 636) (by decide +kernel)
theorem kl_X3_32 : Cond.methodLink RX3 32 yX6_split ∈ lw_tbl := List.mem_of_getElem? (i := 288) (by decide +kernel)
theorem kl_X3_36 : Cond.methodLink RX3 36 yX6_kind ∈ lw_tbl := List.mem_of_getElem? (i := 388) (by decide +kernel)
theorem kl_X3_40 : Cond.methodLink RX3 40 yX3_takeLine ∈ lw_tbl := List.mem_of_getElem? (i := 392) (by decide +kernel)
theorem kl_X3_44 : Cond.methodLink RX3 44 yX3_take ∈ lw_tbl := List.mem_of_getElem? (i := 416) (by decide +kernel)
theorem kl_X3_48 : Cond.methodLink RX3 48 yX6_place ∈ lw_tbl := List.mem_of_getElem? (i := 420) (by decide +kernel)
theorem kl_X3_51 : Cond.methodLink RX3 51 yX3_takeStepText ∈ lw_tbl := List.mem_of_getElem? (i := 440) (by decide +kernel)
theorem kl_X3_55 : Cond.methodLink RX3 55 yX6_goOn ∈ lw_tbl := List.mem_of_getElem? (i := 412) (by decide +kernel)
theorem kl_X3_58 : Cond.methodLink RX3 58 yX2_becomeEmpty ∈ lw_tbl := List.mem_of_getElem? (i := 396) (by decide +kernel)
theorem kl_X3_61 : Cond.methodLink RX3 61 yX3_takeTerm ∈ lw_tbl := List.mem_of_getElem? (i := 400) (by decide +kernel)
theorem kl_X3_64 : Cond.methodLink RX3 64 yX6_value ∈ lw_tbl := List.mem_of_getElem? (i := 404) (by decide +kernel)
theorem kl_X3_71 : Cond.methodLink RX3 71 yX3_takeNumberWithin ∈ lw_tbl := List.mem_of_getElem? (i := 408) (by decide +kernel)
theorem kl_X3_85 : Cond.methodLink RX3 85 yX3_takeLetter ∈ lw_tbl := List.mem_of_getElem? (i := 444) (by decide +kernel)
theorem kl_X3_89 : Cond.methodLink RX3 89 yX3_takeFirst ∈ lw_tbl := List.mem_of_getElem? (i := 448) (by decide +kernel)
theorem kl_X3_92 : Cond.methodLink RX3 92 yX3_takeSecond ∈ lw_tbl := List.mem_of_getElem? (i := 452) (by decide +kernel)
theorem kl_X5_19 : Cond.methodLink RX5 19 yJ0_length_8abf5 ∈ lw_tbl := List.mem_of_getElem? (i := 315) (by decide +kernel)
theorem kl_X5_24 : Cond.methodLink RX5 24 yX5_at ∈ lw_tbl := List.mem_of_getElem? (i := 325) (by decide +kernel)
theorem kl_X5_28 : Cond.methodLink RX5 28 yJ0_charAt_5068e ∈ lw_tbl := List.mem_of_getElem? (i := 326) (by decide +kernel)
theorem kl_X6_33 : Cond.methodLink RX6 33 yX5_at ∈ lw_tbl := List.mem_of_getElem? (i := 292) (by decide +kernel)
theorem kl_X6_37 : Cond.methodLink RX6 37 yX6_isSmallLetter ∈ lw_tbl := List.mem_of_getElem? (i := 296) (by decide +kernel)
theorem kl_X6_41 : Cond.methodLink RX6 41 yX6_putWord ∈ lw_tbl := List.mem_of_getElem? (i := 299) (by decide +kernel)
theorem kl_X6_45 : Cond.methodLink RX6 45 yX6_isDigit ∈ lw_tbl := List.mem_of_getElem? (i := 371) (by decide +kernel)
theorem kl_X6_48 : Cond.methodLink RX6 48 yX6_putNumber ∈ lw_tbl := List.mem_of_getElem? (i := 374) (by decide +kernel)
theorem kl_X6_51 : Cond.methodLink RX6 51 yX6_putSign ∈ lw_tbl := List.mem_of_getElem? (i := 381) (by decide +kernel)
theorem kl_X6_54 : Cond.methodLink RX6 54 yX6_put ∈ lw_tbl := List.mem_of_getElem? (i := 303) (by decide +kernel)
theorem kl_X6_58 : Cond.methodLink RX6 58 yX6_stepKind ∈ lw_tbl := List.mem_of_getElem? (i := 307) (by decide +kernel)
theorem kl_X6_64 : Cond.methodLink RX6 64 yX5_spells ∈ lw_tbl := List.mem_of_getElem? (i := 311) (by decide +kernel)
theorem kl_X6_84 : Cond.methodLink RX6 84 yJ9_min_7cf53 ∈ lw_tbl := List.mem_of_getElem? (i := 378) (by decide +kernel)
theorem kl_X6_90 : Cond.methodLink RX6 90 yX6_signKind ∈ lw_tbl := List.mem_of_getElem? (i := 385) (by decide +kernel)
theorem kl_L_9 : Cond.methodLink RL 9 yX7_init ∈ lw_tbl := List.mem_of_getElem? (i := 72) (by decide +kernel)
theorem kl_L_12 : Cond.methodLink RL 12 yX8_init ∈ lw_tbl := List.mem_of_getElem? (i := 692) (by decide +kernel)
theorem kl_L_15 : Cond.methodLink RL 15 yX7_type ∈ lw_tbl := List.mem_of_getElem? (i := 264) (by decide +kernel)
theorem kl_L_19 : Cond.methodLink RL 19 yX8_type ∈ lw_tbl := List.mem_of_getElem? (i := 757) (by decide +kernel)
theorem kl_L_20 : Cond.methodLink RL 20 yX7_clear ∈ lw_tbl := List.mem_of_getElem? (i := 272) (by decide +kernel)
theorem kl_L_24 : Cond.methodLink RL 24 yX8_clear ∈ lw_tbl := List.mem_of_getElem? (i := 765) (by decide +kernel)
theorem kl_L_25 : Cond.methodLink RL 25 yX7_given ∈ lw_tbl := List.mem_of_getElem? (i := 280) (by decide +kernel)
theorem kl_L_28 : Cond.methodLink RL 28 yX8_given ∈ lw_tbl := List.mem_of_getElem? (i := 769) (by decide +kernel)
theorem kl_L_29 : Cond.methodLink RL 29 yX7_proof ∈ lw_tbl := List.mem_of_getElem? (i := 432) (by decide +kernel)
theorem kl_L_32 : Cond.methodLink RL 32 yX8_proof ∈ lw_tbl := List.mem_of_getElem? (i := 815) (by decide +kernel)
theorem kl_L_33 : Cond.methodLink RL 33 yX7_wrong ∈ lw_tbl := List.mem_of_getElem? (i := 542) (by decide +kernel)
theorem kl_L_37 : Cond.methodLink RL 37 yX8_wrong ∈ lw_tbl := List.mem_of_getElem? (i := 851) (by decide +kernel)
theorem kl_L_38 : Cond.methodLink RL 38 yX7_line ∈ lw_tbl := List.mem_of_getElem? (i := 546) (by decide +kernel)
theorem kl_L_42 : Cond.methodLink RL 42 yX8_line ∈ lw_tbl := List.mem_of_getElem? (i := 855) (by decide +kernel)
theorem kl_L_43 : Cond.methodLink RL 43 yX7_holds ∈ lw_tbl := List.mem_of_getElem? (i := 551) (by decide +kernel)
theorem kl_L_47 : Cond.methodLink RL 47 yX8_holds ∈ lw_tbl := List.mem_of_getElem? (i := 864) (by decide +kernel)
theorem kl_L_48 : Cond.methodLink RL 48 yX7_broken ∈ lw_tbl := List.mem_of_getElem? (i := 563) (by decide +kernel)
theorem kl_L_51 : Cond.methodLink RL 51 yX8_broken ∈ lw_tbl := List.mem_of_getElem? (i := 880) (by decide +kernel)
theorem kl_L_52 : Cond.methodLink RL 52 yX7_end ∈ lw_tbl := List.mem_of_getElem? (i := 571) (by decide +kernel)
theorem kl_L_55 : Cond.methodLink RL 55 yX8_end ∈ lw_tbl := List.mem_of_getElem? (i := 888) (by decide +kernel)
theorem kl_L_56 : Cond.methodLink RL 56 yX7_both ∈ lw_tbl := List.mem_of_getElem? (i := 575) (by decide +kernel)
theorem kl_L_60 : Cond.methodLink RL 60 yX8_both ∈ lw_tbl := List.mem_of_getElem? (i := 892) (by decide +kernel)
theorem kl_L_61 : Cond.methodLink RL 61 yX7_forced ∈ lw_tbl := List.mem_of_getElem? (i := 583) (by decide +kernel)
theorem kl_L_65 : Cond.methodLink RL 65 yX8_forced ∈ lw_tbl := List.mem_of_getElem? (i := 897) (by decide +kernel)
theorem kl_L_66 : Cond.methodLink RL 66 yX7_trues ∈ lw_tbl := List.mem_of_getElem? (i := 590) (by decide +kernel)
theorem kl_L_70 : Cond.methodLink RL 70 yX8_trues ∈ lw_tbl := List.mem_of_getElem? (i := 901) (by decide +kernel)
theorem kl_L_71 : Cond.methodLink RL 71 yX7_told ∈ lw_tbl := List.mem_of_getElem? (i := 598) (by decide +kernel)
theorem kl_L_74 : Cond.methodLink RL 74 yX8_told ∈ lw_tbl := List.mem_of_getElem? (i := 913) (by decide +kernel)
theorem kl_L_75 : Cond.methodLink RL 75 yX7_tight ∈ lw_tbl := List.mem_of_getElem? (i := 602) (by decide +kernel)
theorem kl_L_78 : Cond.methodLink RL 78 yX8_tight ∈ lw_tbl := List.mem_of_getElem? (i := 917) (by decide +kernel)
theorem kl_L_79 : Cond.methodLink RL 79 yX7_needed ∈ lw_tbl := List.mem_of_getElem? (i := 610) (by decide +kernel)
theorem kl_L_82 : Cond.methodLink RL 82 yX8_needed ∈ lw_tbl := List.mem_of_getElem? (i := 921) (by decide +kernel)
theorem kl_L_83 : Cond.methodLink RL 83 yX7_covers ∈ lw_tbl := List.mem_of_getElem? (i := 628) (by decide +kernel)
theorem kl_L_86 : Cond.methodLink RL 86 yX8_covers ∈ lw_tbl := List.mem_of_getElem? (i := 928) (by decide +kernel)
theorem kl_L_87 : Cond.methodLink RL 87 yX7_cost ∈ lw_tbl := List.mem_of_getElem? (i := 640) (by decide +kernel)
theorem kl_L_90 : Cond.methodLink RL 90 yX8_cost ∈ lw_tbl := List.mem_of_getElem? (i := 936) (by decide +kernel)
theorem kl_L_91 : Cond.methodLink RL 91 yX7_least ∈ lw_tbl := List.mem_of_getElem? (i := 644) (by decide +kernel)
theorem kl_L_94 : Cond.methodLink RL 94 yX8_least ∈ lw_tbl := List.mem_of_getElem? (i := 940) (by decide +kernel)
theorem kl_L_95 : Cond.methodLink RL 95 yX7_fit ∈ lw_tbl := List.mem_of_getElem? (i := 656) (by decide +kernel)
theorem kl_L_98 : Cond.methodLink RL 98 yX8_fit ∈ lw_tbl := List.mem_of_getElem? (i := 944) (by decide +kernel)
theorem kl_L_99 : Cond.methodLink RL 99 yX7_count ∈ lw_tbl := List.mem_of_getElem? (i := 680) (by decide +kernel)
theorem kl_L_102 : Cond.methodLink RL 102 yX8_count ∈ lw_tbl := List.mem_of_getElem? (i := 955) (by decide +kernel)
theorem kl_X8_38 : Cond.methodLink RX8 38 yX8_in ∈ lw_tbl := List.mem_of_getElem? (i := 761) (by decide +kernel)
theorem kl_X8_49 : Cond.methodLink RX8 49 yX8_add ∈ lw_tbl := List.mem_of_getElem? (i := 781) (by decide +kernel)
theorem kl_X8_53 : Cond.methodLink RX8 53 yX8_word ∈ lw_tbl := List.mem_of_getElem? (i := 788) (by decide +kernel)
theorem kl_X8_60 : Cond.methodLink RX8 60 yX8_byteAt ∈ lw_tbl := List.mem_of_getElem? (i := 777) (by decide +kernel)
theorem kl_X8_70 : Cond.methodLink RX8 70 yX8_wordOf ∈ lw_tbl := List.mem_of_getElem? (i := 785) (by decide +kernel)
theorem kl_X8_80 : Cond.methodLink RX8 80 yX8_isWell ∈ lw_tbl := List.mem_of_getElem? (i := 791) (by decide +kernel)
theorem kl_X8_84 : Cond.methodLink RX8 84 yX8_isToken ∈ lw_tbl := List.mem_of_getElem? (i := 803) (by decide +kernel)
theorem kl_X8_88 : Cond.methodLink RX8 88 yX8_advances ∈ lw_tbl := List.mem_of_getElem? (i := 773) (by decide +kernel)
theorem kl_X8_91 : Cond.methodLink RX8 91 yX8_fails ∈ lw_tbl := List.mem_of_getElem? (i := 795) (by decide +kernel)
theorem kl_X8_94 : Cond.methodLink RX8 94 yX8_takesNumber ∈ lw_tbl := List.mem_of_getElem? (i := 807) (by decide +kernel)
theorem kl_X8_98 : Cond.methodLink RX8 98 yX8_takes ∈ lw_tbl := List.mem_of_getElem? (i := 811) (by decide +kernel)
theorem kl_X8_102 : Cond.methodLink RX8 102 yX8_readsLine ∈ lw_tbl := List.mem_of_getElem? (i := 799) (by decide +kernel)
theorem kl_X8_115 : Cond.methodLink RX8 115 yX8_takesLetter ∈ lw_tbl := List.mem_of_getElem? (i := 823) (by decide +kernel)
theorem kl_X8_119 : Cond.methodLink RX8 119 yX8_size ∈ lw_tbl := List.mem_of_getElem? (i := 831) (by decide +kernel)
theorem kl_X8_123 : Cond.methodLink RX8 123 yX8_weights ∈ lw_tbl := List.mem_of_getElem? (i := 843) (by decide +kernel)
theorem kl_X8_126 : Cond.methodLink RX8 126 yX8_clashes ∈ lw_tbl := List.mem_of_getElem? (i := 847) (by decide +kernel)
theorem kl_X8_129 : Cond.methodLink RX8 129 yX8_readsStep ∈ lw_tbl := List.mem_of_getElem? (i := 819) (by decide +kernel)
theorem kl_X8_132 : Cond.methodLink RX8 132 yX8_does ∈ lw_tbl := List.mem_of_getElem? (i := 827) (by decide +kernel)
theorem kl_X8_136 : Cond.methodLink RX8 136 yX8_isGreat ∈ lw_tbl := List.mem_of_getElem? (i := 834) (by decide +kernel)
theorem kl_X8_139 : Cond.methodLink RX8 139 yX8_isRight ∈ lw_tbl := List.mem_of_getElem? (i := 839) (by decide +kernel)
theorem kl_X8_142 : Cond.methodLink RX8 142 yX8_isLine ∈ lw_tbl := List.mem_of_getElem? (i := 859) (by decide +kernel)
theorem kl_X8_146 : Cond.methodLink RX8 146 yX8_weighs ∈ lw_tbl := List.mem_of_getElem? (i := 876) (by decide +kernel)
theorem kl_X8_149 : Cond.methodLink RX8 149 yX8_isHeld ∈ lw_tbl := List.mem_of_getElem? (i := 872) (by decide +kernel)
theorem kl_X8_153 : Cond.methodLink RX8 153 yX8_held ∈ lw_tbl := List.mem_of_getElem? (i := 868) (by decide +kernel)
theorem kl_X8_157 : Cond.methodLink RX8 157 yX8_isBroken ∈ lw_tbl := List.mem_of_getElem? (i := 884) (by decide +kernel)
theorem kl_X8_168 : Cond.methodLink RX8 168 yX8_heldBy ∈ lw_tbl := List.mem_of_getElem? (i := 909) (by decide +kernel)
theorem kl_X8_171 : Cond.methodLink RX8 171 yX8_trueWorlds ∈ lw_tbl := List.mem_of_getElem? (i := 905) (by decide +kernel)
theorem kl_X8_175 : Cond.methodLink RX8 175 yX8_ones ∈ lw_tbl := List.mem_of_getElem? (i := 925) (by decide +kernel)
theorem kl_X8_178 : Cond.methodLink RX8 178 yX8_isCover ∈ lw_tbl := List.mem_of_getElem? (i := 932) (by decide +kernel)
theorem kl_X8_181 : Cond.methodLink RX8 181 yX8_weighsOf ∈ lw_tbl := List.mem_of_getElem? (i := 952) (by decide +kernel)
theorem kl_X8_185 : Cond.methodLink RX8 185 yX8_fits ∈ lw_tbl := List.mem_of_getElem? (i := 948) (by decide +kernel)
theorem kl_J0_335 : Cond.methodLink RJ0 335 yJ0_coder_7d493 ∈ lw_tbl := List.mem_of_getElem? (i := 319) (by decide +kernel)
theorem kl_J0_492 : Cond.methodLink RJ0 492 yJ0_isLatin1_aae02 ∈ lw_tbl := List.mem_of_getElem? (i := 330) (by decide +kernel)
theorem kl_J0_495 : Cond.methodLink RJ0 495 yJ1_charAt_3b067 ∈ lw_tbl := List.mem_of_getElem? (i := 334) (by decide +kernel)
theorem kl_J0_498 : Cond.methodLink RJ0 498 yJ2_charAt_3b067 ∈ lw_tbl := List.mem_of_getElem? (i := 345) (by decide +kernel)
theorem kl_J0_1059 : Cond.methodLink RJ0 1059 yJ3_checkIndex_8e157 ∈ lw_tbl := List.mem_of_getElem? (i := 342) (by decide +kernel)
theorem kl_J1_9 : Cond.methodLink RJ1 9 yJ0_checkIndex_df160 ∈ lw_tbl := List.mem_of_getElem? (i := 337) (by decide +kernel)
theorem kl_J2_48 : Cond.methodLink RJ2 48 yJ2_length_9d52b ∈ lw_tbl := List.mem_of_getElem? (i := 351) (by decide +kernel)
theorem kl_J2_67 : Cond.methodLink RJ2 67 yJ2_checkIndex_2214a ∈ lw_tbl := List.mem_of_getElem? (i := 348) (by decide +kernel)
theorem kl_J2_71 : Cond.methodLink RJ2 71 yJ2_getChar_3b067 ∈ lw_tbl := List.mem_of_getElem? (i := 355) (by decide +kernel)
theorem kl_J2_414 : Cond.methodLink RJ2 414 yJ0_checkIndex_df160 ∈ lw_tbl := List.mem_of_getElem? (i := 354) (by decide +kernel)
theorem kc_X7_171 : Cond.constant RX7 171 (-1000000) ∈ lw_tbl := List.mem_of_getElem? (i := 550) (by decide +kernel)
theorem kc_X7_192 : Cond.constantLong RX7 192 (-1) ∈ lw_tbl := List.mem_of_getElem? (i := 582) (by decide +kernel)
theorem kc_X0_38 : Cond.constant RX0 38 (2147483647) ∈ lw_tbl := List.mem_of_getElem? (i := 673) (by decide +kernel)
theorem kc_X2_45 : Cond.constant RX2 45 (99999) ∈ lw_tbl := List.mem_of_getElem? (i := 541) (by decide +kernel)
theorem kc_L_13 : Cond.constantLong RL 13 (4294967295) ∈ lw_tbl := List.mem_of_getElem? (i := 959) (by decide +kernel)
theorem kc_X8_45 : Cond.constantLong RX8 45 (255) ∈ lw_tbl := List.mem_of_getElem? (i := 764) (by decide +kernel)
theorem kc_X8_47 : Cond.constantLong RX8 47 (256) ∈ lw_tbl := List.mem_of_getElem? (i := 784) (by decide +kernel)
theorem kc_X8_122 : Cond.constant RX8 122 (99999) ∈ lw_tbl := List.mem_of_getElem? (i := 838) (by decide +kernel)
theorem kc_X8_145 : Cond.constant RX8 145 (-1000000) ∈ lw_tbl := List.mem_of_getElem? (i := 863) (by decide +kernel)
theorem kc_X8_160 : Cond.constantLong RX8 160 (-1) ∈ lw_tbl := List.mem_of_getElem? (i := 896) (by decide +kernel)
theorem kc_J6_265 : Cond.constant RJ6 265 (1431655765) ∈ lw_tbl := List.mem_of_getElem? (i := 621) (by decide +kernel)
theorem kc_J6_266 : Cond.constant RJ6 266 (858993459) ∈ lw_tbl := List.mem_of_getElem? (i := 622) (by decide +kernel)
theorem kc_J6_267 : Cond.constant RJ6 267 (252645135) ∈ lw_tbl := List.mem_of_getElem? (i := 623) (by decide +kernel)
theorem kc_J13_314 : Cond.constantLong RJ13 314 (6148914691236517205) ∈ lw_tbl := List.mem_of_getElem? (i := 687) (by decide +kernel)
theorem kc_J13_316 : Cond.constantLong RJ13 316 (3689348814741910323) ∈ lw_tbl := List.mem_of_getElem? (i := 688) (by decide +kernel)
theorem kc_J13_318 : Cond.constantLong RJ13 318 (1085102592571150095) ∈ lw_tbl := List.mem_of_getElem? (i := 689) (by decide +kernel)
theorem ki_X0 : Cond.initialized RX0 ∈ lw_tbl := List.mem_of_getElem? (i := 61) (by decide +kernel)
theorem ki_X1 : Cond.initialized RX1 ∈ lw_tbl := List.mem_of_getElem? (i := 60) (by decide +kernel)
theorem ki_X2 : Cond.initialized RX2 ∈ lw_tbl := List.mem_of_getElem? (i := 58) (by decide +kernel)
theorem ki_X3 : Cond.initialized RX3 ∈ lw_tbl := List.mem_of_getElem? (i := 56) (by decide +kernel)
theorem ki_X4 : Cond.initialized RX4 ∈ lw_tbl := List.mem_of_getElem? (i := 59) (by decide +kernel)
theorem ki_X5 : Cond.initialized RX5 ∈ lw_tbl := List.mem_of_getElem? (i := 55) (by decide +kernel)
theorem ki_X6 : Cond.initialized RX6 ∈ lw_tbl := List.mem_of_getElem? (i := 57) (by decide +kernel)
theorem ki_X7 : Cond.initialized RX7 ∈ lw_tbl := List.mem_of_getElem? (i := 54) (by decide +kernel)
theorem ki_X8 : Cond.initialized RX8 ∈ lw_tbl := List.mem_of_getElem? (i := 62) (by decide +kernel)
theorem ki_J6 : Cond.initialized RJ6 ∈ lw_tbl := List.mem_of_getElem? (i := 68) (by decide +kernel)
theorem ki_J13 : Cond.initialized RJ13 ∈ lw_tbl := List.mem_of_getElem? (i := 69) (by decide +kernel)
theorem ki_J9 : Cond.initialized RJ9 ∈ lw_tbl := List.mem_of_getElem? (i := 67) (by decide +kernel)
theorem ki_J0 : Cond.initialized RJ0 ∈ lw_tbl := List.mem_of_getElem? (i := 63) (by decide +kernel)
theorem ki_J1 : Cond.initialized RJ1 ∈ lw_tbl := List.mem_of_getElem? (i := 64) (by decide +kernel)
theorem ki_J2 : Cond.initialized RJ2 ∈ lw_tbl := List.mem_of_getElem? (i := 66) (by decide +kernel)
theorem ki_J3 : Cond.initialized RJ3 ∈ lw_tbl := List.mem_of_getElem? (i := 65) (by decide +kernel)
theorem ki_L : Cond.initialized RL ∈ lw_tbl := List.mem_of_getElem? (i := 53) (by decide +kernel)
/-- what a call of an instance method needs of the tables -/
def MV (y : MethodName) (cc : ByteArray) (nL : Nat) (ret : Option FieldType) (n : Nat) : Prop := Cond.instanceMethod y ∈ lw_tbl ∧ Cond.selects y.cls y y ∈ lw_tbl ∧ Cond.initialized y.cls ∈ lw_tbl ∧ Cond.code y cc nL ret ∈ lw_tbl ∧ (y.cls ≠ "java/lang/invoke/MethodHandle" ∧ y.cls ≠ "java/lang/invoke/VarHandle") ∧ (parseMethodDescriptor y.desc).map (fun d => d.parameters.length) = some n
def MS (y : MethodName) (cc : ByteArray) (nL : Nat) (ret : Option FieldType) (n : Nat) : Prop := Cond.static y ∈ lw_tbl ∧ Cond.initialized y.cls ∈ lw_tbl ∧ Cond.code y cc nL ret ∈ lw_tbl ∧ (y.cls ≠ "java/lang/invoke/MethodHandle" ∧ y.cls ≠ "java/lang/invoke/VarHandle") ∧ (parseMethodDescriptor y.desc).map (fun d => d.parameters.length) = some n
-- no call row for yX7_init
-- no call row for yX5_init
-- no call row for yX3_init
-- no call row for yX6_init
-- no call row for yX2_init
-- no call row for yX4_init
-- no call row for yX1_init
-- no call row for yX0_init
theorem mv_X7_type : MV yX7_type cX7_type 5 (some .int) 2 := ⟨List.mem_of_getElem? (i := 265) (by decide +kernel), List.mem_of_getElem? (i := 266) (by decide +kernel), ki_X7, List.mem_of_getElem? (i := 267) (by decide +kernel), ⟨by decide +kernel, by decide +kernel⟩, by decide +kernel⟩
theorem mv_X5_put : MV yX5_put cX5_put 2 none 1 := ⟨List.mem_of_getElem? (i := 269) (by decide +kernel), List.mem_of_getElem? (i := 270) (by decide +kernel), ki_X5, List.mem_of_getElem? (i := 271) (by decide +kernel), ⟨by decide +kernel, by decide +kernel⟩, by decide +kernel⟩
theorem mv_X7_clear : MV yX7_clear cX7_clear 1 (some .int) 0 := ⟨List.mem_of_getElem? (i := 273) (by decide +kernel), List.mem_of_getElem? (i := 274) (by decide +kernel), ki_X7, List.mem_of_getElem? (i := 275) (by decide +kernel), ⟨by decide +kernel, by decide +kernel⟩, by decide +kernel⟩
theorem mv_X5_empty : MV yX5_empty cX5_empty 2 (some .int) 0 := ⟨List.mem_of_getElem? (i := 277) (by decide +kernel), List.mem_of_getElem? (i := 278) (by decide +kernel), ki_X5, List.mem_of_getElem? (i := 279) (by decide +kernel), ⟨by decide +kernel, by decide +kernel⟩, by decide +kernel⟩
theorem mv_X7_given : MV yX7_given cX7_given 3 (some .int) 0 := ⟨List.mem_of_getElem? (i := 281) (by decide +kernel), List.mem_of_getElem? (i := 282) (by decide +kernel), ki_X7, List.mem_of_getElem? (i := 283) (by decide +kernel), ⟨by decide +kernel, by decide +kernel⟩, by decide +kernel⟩
theorem mv_X3_readGiven : MV yX3_readGiven cX3_readGiven 3 (some .int) 1 := ⟨List.mem_of_getElem? (i := 285) (by decide +kernel), List.mem_of_getElem? (i := 286) (by decide +kernel), ki_X3, List.mem_of_getElem? (i := 287) (by decide +kernel), ⟨by decide +kernel, by decide +kernel⟩, by decide +kernel⟩
theorem mv_X6_split : MV yX6_split cX6_split 5 none 1 := ⟨List.mem_of_getElem? (i := 289) (by decide +kernel), List.mem_of_getElem? (i := 290) (by decide +kernel), ki_X6, List.mem_of_getElem? (i := 291) (by decide +kernel), ⟨by decide +kernel, by decide +kernel⟩, by decide +kernel⟩
theorem mv_X5_at : MV yX5_at cX5_at 2 (some .int) 1 := ⟨List.mem_of_getElem? (i := 293) (by decide +kernel), List.mem_of_getElem? (i := 294) (by decide +kernel), ki_X5, List.mem_of_getElem? (i := 295) (by decide +kernel), ⟨by decide +kernel, by decide +kernel⟩, by decide +kernel⟩
theorem ms_X6_isSmallLetter : MS yX6_isSmallLetter cX6_isSmallLetter 1 (some .boolean) 1 := ⟨List.mem_of_getElem? (i := 297) (by decide +kernel), ki_X6, List.mem_of_getElem? (i := 298) (by decide +kernel), ⟨by decide +kernel, by decide +kernel⟩, by decide +kernel⟩
theorem mv_X6_putWord : MV yX6_putWord cX6_putWord 5 (some .int) 2 := ⟨List.mem_of_getElem? (i := 301) (by decide +kernel), List.mem_of_getElem? (i := 0) (by decide +kernel), ki_X6, List.mem_of_getElem? (i := 302) (by decide +kernel), ⟨by decide +kernel, by decide +kernel⟩, by decide +kernel⟩
theorem mv_X6_put : MV yX6_put cX6_put 4 none 3 := ⟨List.mem_of_getElem? (i := 305) (by decide +kernel), List.mem_of_getElem? (i := 1) (by decide +kernel), ki_X6, List.mem_of_getElem? (i := 306) (by decide +kernel), ⟨by decide +kernel, by decide +kernel⟩, by decide +kernel⟩
theorem ms_X6_stepKind : MS yX6_stepKind cX6_stepKind 3 (some .int) 3 := ⟨List.mem_of_getElem? (i := 308) (by decide +kernel), ki_X6, List.mem_of_getElem? (i := 309) (by decide +kernel), ⟨by decide +kernel, by decide +kernel⟩, by decide +kernel⟩
theorem mv_X5_spells : MV yX5_spells cX5_spells 5 (some .boolean) 3 := ⟨List.mem_of_getElem? (i := 312) (by decide +kernel), List.mem_of_getElem? (i := 313) (by decide +kernel), ki_X5, List.mem_of_getElem? (i := 314) (by decide +kernel), ⟨by decide +kernel, by decide +kernel⟩, by decide +kernel⟩
theorem mv_J0_length_8abf5 : MV yJ0_length_8abf5 cJ0_length_8abf5 1 (some .int) 0 := ⟨List.mem_of_getElem? (i := 316) (by decide +kernel), List.mem_of_getElem? (i := 317) (by decide +kernel), ki_J0, List.mem_of_getElem? (i := 318) (by decide +kernel), ⟨by decide +kernel, by decide +kernel⟩, by decide +kernel⟩
theorem mv_J0_coder_7d493 : MV yJ0_coder_7d493 cJ0_coder_7d493 1 (some .byte) 0 := ⟨List.mem_of_getElem? (i := 320) (by decide +kernel), List.mem_of_getElem? (i := 321) (by decide +kernel), ki_J0, List.mem_of_getElem? (i := 322) (by decide +kernel), ⟨by decide +kernel, by decide +kernel⟩, by decide +kernel⟩
theorem mv_J0_charAt_5068e : MV yJ0_charAt_5068e cJ0_charAt_5068e 2 (some .char) 1 := ⟨List.mem_of_getElem? (i := 327) (by decide +kernel), List.mem_of_getElem? (i := 328) (by decide +kernel), ki_J0, List.mem_of_getElem? (i := 329) (by decide +kernel), ⟨by decide +kernel, by decide +kernel⟩, by decide +kernel⟩
theorem mv_J0_isLatin1_aae02 : MV yJ0_isLatin1_aae02 cJ0_isLatin1_aae02 1 (some .boolean) 0 := ⟨List.mem_of_getElem? (i := 331) (by decide +kernel), List.mem_of_getElem? (i := 332) (by decide +kernel), ki_J0, List.mem_of_getElem? (i := 333) (by decide +kernel), ⟨by decide +kernel, by decide +kernel⟩, by decide +kernel⟩
theorem ms_J1_charAt_3b067 : MS yJ1_charAt_3b067 cJ1_charAt_3b067 2 (some .char) 2 := ⟨List.mem_of_getElem? (i := 335) (by decide +kernel), ki_J1, List.mem_of_getElem? (i := 336) (by decide +kernel), ⟨by decide +kernel, by decide +kernel⟩, by decide +kernel⟩
theorem ms_J0_checkIndex_df160 : MS yJ0_checkIndex_df160 cJ0_checkIndex_df160 2 none 2 := ⟨List.mem_of_getElem? (i := 338) (by decide +kernel), ki_J0, List.mem_of_getElem? (i := 339) (by decide +kernel), ⟨by decide +kernel, by decide +kernel⟩, by decide +kernel⟩
theorem ms_J3_checkIndex_8e157 : MS yJ3_checkIndex_8e157 cJ3_checkIndex_8e157 3 (some .int) 3 := ⟨List.mem_of_getElem? (i := 343) (by decide +kernel), ki_J3, List.mem_of_getElem? (i := 344) (by decide +kernel), ⟨by decide +kernel, by decide +kernel⟩, by decide +kernel⟩
theorem ms_J2_charAt_3b067 : MS yJ2_charAt_3b067 cJ2_charAt_3b067 2 (some .char) 2 := ⟨List.mem_of_getElem? (i := 346) (by decide +kernel), ki_J2, List.mem_of_getElem? (i := 347) (by decide +kernel), ⟨by decide +kernel, by decide +kernel⟩, by decide +kernel⟩
theorem ms_J2_checkIndex_2214a : MS yJ2_checkIndex_2214a cJ2_checkIndex_2214a 2 none 2 := ⟨List.mem_of_getElem? (i := 349) (by decide +kernel), ki_J2, List.mem_of_getElem? (i := 350) (by decide +kernel), ⟨by decide +kernel, by decide +kernel⟩, by decide +kernel⟩
theorem ms_J2_length_9d52b : MS yJ2_length_9d52b cJ2_length_9d52b 1 (some .int) 1 := ⟨List.mem_of_getElem? (i := 352) (by decide +kernel), ki_J2, List.mem_of_getElem? (i := 353) (by decide +kernel), ⟨by decide +kernel, by decide +kernel⟩, by decide +kernel⟩
theorem ms_J2_getChar_3b067 : MS yJ2_getChar_3b067 cJ2_getChar_3b067 2 (some .char) 2 := ⟨List.mem_of_getElem? (i := 356) (by decide +kernel), ki_J2, List.mem_of_getElem? (i := 357) (by decide +kernel), ⟨by decide +kernel, by decide +kernel⟩, by decide +kernel⟩
theorem ms_X6_isDigit : MS yX6_isDigit cX6_isDigit 1 (some .boolean) 1 := ⟨List.mem_of_getElem? (i := 372) (by decide +kernel), ki_X6, List.mem_of_getElem? (i := 373) (by decide +kernel), ⟨by decide +kernel, by decide +kernel⟩, by decide +kernel⟩
theorem mv_X6_putNumber : MV yX6_putNumber cX6_putNumber 6 (some .int) 2 := ⟨List.mem_of_getElem? (i := 376) (by decide +kernel), List.mem_of_getElem? (i := 2) (by decide +kernel), ki_X6, List.mem_of_getElem? (i := 377) (by decide +kernel), ⟨by decide +kernel, by decide +kernel⟩, by decide +kernel⟩
theorem ms_J9_min_7cf53 : MS yJ9_min_7cf53 cJ9_min_7cf53 2 (some .int) 2 := ⟨List.mem_of_getElem? (i := 379) (by decide +kernel), ki_J9, List.mem_of_getElem? (i := 380) (by decide +kernel), ⟨by decide +kernel, by decide +kernel⟩, by decide +kernel⟩
theorem mv_X6_putSign : MV yX6_putSign cX6_putSign 5 (some .int) 2 := ⟨List.mem_of_getElem? (i := 383) (by decide +kernel), List.mem_of_getElem? (i := 3) (by decide +kernel), ki_X6, List.mem_of_getElem? (i := 384) (by decide +kernel), ⟨by decide +kernel, by decide +kernel⟩, by decide +kernel⟩
theorem ms_X6_signKind : MS yX6_signKind cX6_signKind 1 (some .int) 1 := ⟨List.mem_of_getElem? (i := 386) (by decide +kernel), ki_X6, List.mem_of_getElem? (i := 387) (by decide +kernel), ⟨by decide +kernel, by decide +kernel⟩, by decide +kernel⟩
theorem mv_X6_kind : MV yX6_kind cX6_kind 1 (some .int) 0 := ⟨List.mem_of_getElem? (i := 389) (by decide +kernel), List.mem_of_getElem? (i := 390) (by decide +kernel), ki_X6, List.mem_of_getElem? (i := 391) (by decide +kernel), ⟨by decide +kernel, by decide +kernel⟩, by decide +kernel⟩
theorem mv_X3_takeLine : MV yX3_takeLine cX3_takeLine 3 (some .boolean) 1 := ⟨List.mem_of_getElem? (i := 394) (by decide +kernel), List.mem_of_getElem? (i := 4) (by decide +kernel), ki_X3, List.mem_of_getElem? (i := 395) (by decide +kernel), ⟨by decide +kernel, by decide +kernel⟩, by decide +kernel⟩
theorem mv_X2_becomeEmpty : MV yX2_becomeEmpty cX2_becomeEmpty 2 none 0 := ⟨List.mem_of_getElem? (i := 397) (by decide +kernel), List.mem_of_getElem? (i := 398) (by decide +kernel), ki_X2, List.mem_of_getElem? (i := 399) (by decide +kernel), ⟨by decide +kernel, by decide +kernel⟩, by decide +kernel⟩
theorem mv_X3_takeTerm : MV yX3_takeTerm cX3_takeTerm 4 (some .boolean) 1 := ⟨List.mem_of_getElem? (i := 402) (by decide +kernel), List.mem_of_getElem? (i := 5) (by decide +kernel), ki_X3, List.mem_of_getElem? (i := 403) (by decide +kernel), ⟨by decide +kernel, by decide +kernel⟩, by decide +kernel⟩
theorem mv_X6_value : MV yX6_value cX6_value 1 (some .int) 0 := ⟨List.mem_of_getElem? (i := 405) (by decide +kernel), List.mem_of_getElem? (i := 406) (by decide +kernel), ki_X6, List.mem_of_getElem? (i := 407) (by decide +kernel), ⟨by decide +kernel, by decide +kernel⟩, by decide +kernel⟩
theorem mv_X3_takeNumberWithin : MV yX3_takeNumberWithin cX3_takeNumberWithin 3 (some .boolean) 2 := ⟨List.mem_of_getElem? (i := 410) (by decide +kernel), List.mem_of_getElem? (i := 6) (by decide +kernel), ki_X3, List.mem_of_getElem? (i := 411) (by decide +kernel), ⟨by decide +kernel, by decide +kernel⟩, by decide +kernel⟩
theorem mv_X6_goOn : MV yX6_goOn cX6_goOn 1 none 0 := ⟨List.mem_of_getElem? (i := 413) (by decide +kernel), List.mem_of_getElem? (i := 414) (by decide +kernel), ki_X6, List.mem_of_getElem? (i := 415) (by decide +kernel), ⟨by decide +kernel, by decide +kernel⟩, by decide +kernel⟩
theorem mv_X3_take : MV yX3_take cX3_take 2 (some .boolean) 1 := ⟨List.mem_of_getElem? (i := 418) (by decide +kernel), List.mem_of_getElem? (i := 7) (by decide +kernel), ki_X3, List.mem_of_getElem? (i := 419) (by decide +kernel), ⟨by decide +kernel, by decide +kernel⟩, by decide +kernel⟩
theorem mv_X6_place : MV yX6_place cX6_place 1 (some .int) 0 := ⟨List.mem_of_getElem? (i := 421) (by decide +kernel), List.mem_of_getElem? (i := 422) (by decide +kernel), ki_X6, List.mem_of_getElem? (i := 423) (by decide +kernel), ⟨by decide +kernel, by decide +kernel⟩, by decide +kernel⟩
theorem mv_X2_becomeSame : MV yX2_becomeSame cX2_becomeSame 3 none 1 := ⟨List.mem_of_getElem? (i := 425) (by decide +kernel), List.mem_of_getElem? (i := 426) (by decide +kernel), ki_X2, List.mem_of_getElem? (i := 427) (by decide +kernel), ⟨by decide +kernel, by decide +kernel⟩, by decide +kernel⟩
theorem mv_X7_forgetProof : MV yX7_forgetProof cX7_forgetProof 1 none 0 := ⟨List.mem_of_getElem? (i := 430) (by decide +kernel), List.mem_of_getElem? (i := 8) (by decide +kernel), ki_X7, List.mem_of_getElem? (i := 431) (by decide +kernel), ⟨by decide +kernel, by decide +kernel⟩, by decide +kernel⟩
theorem mv_X7_proof : MV yX7_proof cX7_proof 2 (some .int) 0 := ⟨List.mem_of_getElem? (i := 433) (by decide +kernel), List.mem_of_getElem? (i := 434) (by decide +kernel), ki_X7, List.mem_of_getElem? (i := 435) (by decide +kernel), ⟨by decide +kernel, by decide +kernel⟩, by decide +kernel⟩
theorem mv_X3_readProof : MV yX3_readProof cX3_readProof 4 (some .int) 2 := ⟨List.mem_of_getElem? (i := 437) (by decide +kernel), List.mem_of_getElem? (i := 438) (by decide +kernel), ki_X3, List.mem_of_getElem? (i := 439) (by decide +kernel), ⟨by decide +kernel, by decide +kernel⟩, by decide +kernel⟩
theorem mv_X3_takeStepText : MV yX3_takeStepText cX3_takeStepText 3 (some .boolean) 2 := ⟨List.mem_of_getElem? (i := 442) (by decide +kernel), List.mem_of_getElem? (i := 9) (by decide +kernel), ki_X3, List.mem_of_getElem? (i := 443) (by decide +kernel), ⟨by decide +kernel, by decide +kernel⟩, by decide +kernel⟩
theorem mv_X3_takeLetter : MV yX3_takeLetter cX3_takeLetter 2 (some .boolean) 1 := ⟨List.mem_of_getElem? (i := 446) (by decide +kernel), List.mem_of_getElem? (i := 10) (by decide +kernel), ki_X3, List.mem_of_getElem? (i := 447) (by decide +kernel), ⟨by decide +kernel, by decide +kernel⟩, by decide +kernel⟩
theorem mv_X3_takeFirst : MV yX3_takeFirst cX3_takeFirst 3 (some .boolean) 2 := ⟨List.mem_of_getElem? (i := 450) (by decide +kernel), List.mem_of_getElem? (i := 11) (by decide +kernel), ki_X3, List.mem_of_getElem? (i := 451) (by decide +kernel), ⟨by decide +kernel, by decide +kernel⟩, by decide +kernel⟩
theorem mv_X3_takeSecond : MV yX3_takeSecond cX3_takeSecond 4 (some .boolean) 3 := ⟨List.mem_of_getElem? (i := 454) (by decide +kernel), List.mem_of_getElem? (i := 12) (by decide +kernel), ki_X3, List.mem_of_getElem? (i := 455) (by decide +kernel), ⟨by decide +kernel, by decide +kernel⟩, by decide +kernel⟩
theorem mv_X7_walkProof : MV yX7_walkProof cX7_walkProof 5 none 0 := ⟨List.mem_of_getElem? (i := 458) (by decide +kernel), List.mem_of_getElem? (i := 13) (by decide +kernel), ki_X7, List.mem_of_getElem? (i := 459) (by decide +kernel), ⟨by decide +kernel, by decide +kernel⟩, by decide +kernel⟩
theorem mv_X7_takeClaim : MV yX7_takeClaim cX7_takeClaim 4 (some .int) 3 := ⟨List.mem_of_getElem? (i := 462) (by decide +kernel), List.mem_of_getElem? (i := 14) (by decide +kernel), ki_X7, List.mem_of_getElem? (i := 463) (by decide +kernel), ⟨by decide +kernel, by decide +kernel⟩, by decide +kernel⟩
theorem mv_X2_becomeOpposite : MV yX2_becomeOpposite cX2_becomeOpposite 3 none 1 := ⟨List.mem_of_getElem? (i := 465) (by decide +kernel), List.mem_of_getElem? (i := 466) (by decide +kernel), ki_X2, List.mem_of_getElem? (i := 467) (by decide +kernel), ⟨by decide +kernel, by decide +kernel⟩, by decide +kernel⟩
theorem mv_X2_mayWeigh : MV yX2_mayWeigh cX2_mayWeigh 7 (some .int) 2 := ⟨List.mem_of_getElem? (i := 469) (by decide +kernel), List.mem_of_getElem? (i := 470) (by decide +kernel), ki_X2, List.mem_of_getElem? (i := 471) (by decide +kernel), ⟨by decide +kernel, by decide +kernel⟩, by decide +kernel⟩
theorem ms_J9_abs_0f7a4 : MS yJ9_abs_0f7a4 cJ9_abs_0f7a4 1 (some .int) 1 := ⟨List.mem_of_getElem? (i := 473) (by decide +kernel), ki_J9, List.mem_of_getElem? (i := 474) (by decide +kernel), ⟨by decide +kernel, by decide +kernel⟩, by decide +kernel⟩
theorem mv_X1_force : MV yX1_force cX1_force 7 none 4 := ⟨List.mem_of_getElem? (i := 476) (by decide +kernel), List.mem_of_getElem? (i := 477) (by decide +kernel), ki_X1, List.mem_of_getElem? (i := 478) (by decide +kernel), ⟨by decide +kernel, by decide +kernel⟩, by decide +kernel⟩
theorem mv_X1_passOver : MV yX1_passOver cX1_passOver 5 (some .boolean) 2 := ⟨List.mem_of_getElem? (i := 481) (by decide +kernel), List.mem_of_getElem? (i := 15) (by decide +kernel), ki_X1, List.mem_of_getElem? (i := 482) (by decide +kernel), ⟨by decide +kernel, by decide +kernel⟩, by decide +kernel⟩
theorem mv_X1_visit : MV yX1_visit cX1_visit 6 none 1 := ⟨List.mem_of_getElem? (i := 485) (by decide +kernel), List.mem_of_getElem? (i := 16) (by decide +kernel), ki_X1, List.mem_of_getElem? (i := 486) (by decide +kernel), ⟨by decide +kernel, by decide +kernel⟩, by decide +kernel⟩
theorem mv_X7_takeStep : MV yX7_takeStep cX7_takeStep 3 (some .int) 2 := ⟨List.mem_of_getElem? (i := 490) (by decide +kernel), List.mem_of_getElem? (i := 17) (by decide +kernel), ki_X7, List.mem_of_getElem? (i := 491) (by decide +kernel), ⟨by decide +kernel, by decide +kernel⟩, by decide +kernel⟩
theorem mv_X7_lineOrFirst : MV yX7_lineOrFirst cX7_lineOrFirst 2 (some (.object "TruthSums$Line")) 1 := ⟨List.mem_of_getElem? (i := 494) (by decide +kernel), List.mem_of_getElem? (i := 18) (by decide +kernel), ki_X7, List.mem_of_getElem? (i := 495) (by decide +kernel), ⟨by decide +kernel, by decide +kernel⟩, by decide +kernel⟩
theorem mv_X7_isLine : MV yX7_isLine cX7_isLine 2 (some .boolean) 1 := ⟨List.mem_of_getElem? (i := 498) (by decide +kernel), List.mem_of_getElem? (i := 19) (by decide +kernel), ki_X7, List.mem_of_getElem? (i := 499) (by decide +kernel), ⟨by decide +kernel, by decide +kernel⟩, by decide +kernel⟩
theorem mv_X7_lineCount : MV yX7_lineCount cX7_lineCount 1 (some .int) 0 := ⟨List.mem_of_getElem? (i := 502) (by decide +kernel), List.mem_of_getElem? (i := 20) (by decide +kernel), ki_X7, List.mem_of_getElem? (i := 503) (by decide +kernel), ⟨by decide +kernel, by decide +kernel⟩, by decide +kernel⟩
theorem mv_X2_becomeSum : MV yX2_becomeSum cX2_becomeSum 7 none 2 := ⟨List.mem_of_getElem? (i := 505) (by decide +kernel), List.mem_of_getElem? (i := 506) (by decide +kernel), ki_X2, List.mem_of_getElem? (i := 507) (by decide +kernel), ⟨by decide +kernel, by decide +kernel⟩, by decide +kernel⟩
theorem ms_J9_max_7cf53 : MS yJ9_max_7cf53 cJ9_max_7cf53 2 (some .int) 2 := ⟨List.mem_of_getElem? (i := 510) (by decide +kernel), ki_J9, List.mem_of_getElem? (i := 511) (by decide +kernel), ⟨by decide +kernel, by decide +kernel⟩, by decide +kernel⟩
theorem mv_X2_becomeTimes : MV yX2_becomeTimes cX2_becomeTimes 4 none 2 := ⟨List.mem_of_getElem? (i := 513) (by decide +kernel), List.mem_of_getElem? (i := 514) (by decide +kernel), ki_X2, List.mem_of_getElem? (i := 515) (by decide +kernel), ⟨by decide +kernel, by decide +kernel⟩, by decide +kernel⟩
theorem mv_X2_becomeCut : MV yX2_becomeCut cX2_becomeCut 6 none 2 := ⟨List.mem_of_getElem? (i := 517) (by decide +kernel), List.mem_of_getElem? (i := 518) (by decide +kernel), ki_X2, List.mem_of_getElem? (i := 519) (by decide +kernel), ⟨by decide +kernel, by decide +kernel⟩, by decide +kernel⟩
theorem ms_X2_signed : MS yX2_signed cX2_signed 2 (some .int) 2 := ⟨List.mem_of_getElem? (i := 521) (by decide +kernel), ki_X2, List.mem_of_getElem? (i := 522) (by decide +kernel), ⟨by decide +kernel, by decide +kernel⟩, by decide +kernel⟩
theorem mv_X2_becomeTrimmed : MV yX2_becomeTrimmed cX2_becomeTrimmed 4 none 1 := ⟨List.mem_of_getElem? (i := 524) (by decide +kernel), List.mem_of_getElem? (i := 525) (by decide +kernel), ki_X2, List.mem_of_getElem? (i := 526) (by decide +kernel), ⟨by decide +kernel, by decide +kernel⟩, by decide +kernel⟩
theorem mv_X2_becomeDropped : MV yX2_becomeDropped cX2_becomeDropped 3 none 2 := ⟨List.mem_of_getElem? (i := 528) (by decide +kernel), List.mem_of_getElem? (i := 529) (by decide +kernel), ki_X2, List.mem_of_getElem? (i := 530) (by decide +kernel), ⟨by decide +kernel, by decide +kernel⟩, by decide +kernel⟩
theorem mv_X2_becomeBare : MV yX2_becomeBare cX2_becomeBare 3 none 2 := ⟨List.mem_of_getElem? (i := 533) (by decide +kernel), List.mem_of_getElem? (i := 534) (by decide +kernel), ki_X2, List.mem_of_getElem? (i := 535) (by decide +kernel), ⟨by decide +kernel, by decide +kernel⟩, by decide +kernel⟩
theorem mv_X2_isTooGreat : MV yX2_isTooGreat cX2_isTooGreat 2 (some .boolean) 0 := ⟨List.mem_of_getElem? (i := 538) (by decide +kernel), List.mem_of_getElem? (i := 539) (by decide +kernel), ki_X2, List.mem_of_getElem? (i := 540) (by decide +kernel), ⟨by decide +kernel, by decide +kernel⟩, by decide +kernel⟩
theorem mv_X7_wrong : MV yX7_wrong cX7_wrong 2 (some .int) 1 := ⟨List.mem_of_getElem? (i := 543) (by decide +kernel), List.mem_of_getElem? (i := 544) (by decide +kernel), ki_X7, List.mem_of_getElem? (i := 545) (by decide +kernel), ⟨by decide +kernel, by decide +kernel⟩, by decide +kernel⟩
theorem mv_X7_line : MV yX7_line cX7_line 3 (some .int) 2 := ⟨List.mem_of_getElem? (i := 547) (by decide +kernel), List.mem_of_getElem? (i := 548) (by decide +kernel), ki_X7, List.mem_of_getElem? (i := 549) (by decide +kernel), ⟨by decide +kernel, by decide +kernel⟩, by decide +kernel⟩
theorem mv_X7_holds : MV yX7_holds cX7_holds 2 (some .long) 1 := ⟨List.mem_of_getElem? (i := 552) (by decide +kernel), List.mem_of_getElem? (i := 553) (by decide +kernel), ki_X7, List.mem_of_getElem? (i := 554) (by decide +kernel), ⟨by decide +kernel, by decide +kernel⟩, by decide +kernel⟩
theorem mv_X2_worldsHeld : MV yX2_worldsHeld cX2_worldsHeld 4 (some .long) 0 := ⟨List.mem_of_getElem? (i := 556) (by decide +kernel), List.mem_of_getElem? (i := 557) (by decide +kernel), ki_X2, List.mem_of_getElem? (i := 558) (by decide +kernel), ⟨by decide +kernel, by decide +kernel⟩, by decide +kernel⟩
theorem mv_X2_weighsIn : MV yX2_weighsIn cX2_weighsIn 2 (some .int) 1 := ⟨List.mem_of_getElem? (i := 560) (by decide +kernel), List.mem_of_getElem? (i := 561) (by decide +kernel), ki_X2, List.mem_of_getElem? (i := 562) (by decide +kernel), ⟨by decide +kernel, by decide +kernel⟩, by decide +kernel⟩
theorem mv_X7_broken : MV yX7_broken cX7_broken 2 (some .int) 1 := ⟨List.mem_of_getElem? (i := 564) (by decide +kernel), List.mem_of_getElem? (i := 565) (by decide +kernel), ki_X7, List.mem_of_getElem? (i := 566) (by decide +kernel), ⟨by decide +kernel, by decide +kernel⟩, by decide +kernel⟩
theorem mv_X2_isBroken : MV yX2_isBroken cX2_isBroken 1 (some .boolean) 0 := ⟨List.mem_of_getElem? (i := 568) (by decide +kernel), List.mem_of_getElem? (i := 569) (by decide +kernel), ki_X2, List.mem_of_getElem? (i := 570) (by decide +kernel), ⟨by decide +kernel, by decide +kernel⟩, by decide +kernel⟩
theorem mv_X7_end : MV yX7_end cX7_end 2 (some .int) 0 := ⟨List.mem_of_getElem? (i := 572) (by decide +kernel), List.mem_of_getElem? (i := 573) (by decide +kernel), ki_X7, List.mem_of_getElem? (i := 574) (by decide +kernel), ⟨by decide +kernel, by decide +kernel⟩, by decide +kernel⟩
theorem mv_X7_both : MV yX7_both cX7_both 9 (some .int) 3 := ⟨List.mem_of_getElem? (i := 576) (by decide +kernel), List.mem_of_getElem? (i := 577) (by decide +kernel), ki_X7, List.mem_of_getElem? (i := 578) (by decide +kernel), ⟨by decide +kernel, by decide +kernel⟩, by decide +kernel⟩
theorem ms_X7_isWithin : MS yX7_isWithin cX7_isWithin 4 (some .boolean) 2 := ⟨List.mem_of_getElem? (i := 580) (by decide +kernel), ki_X7, List.mem_of_getElem? (i := 581) (by decide +kernel), ⟨by decide +kernel, by decide +kernel⟩, by decide +kernel⟩
theorem mv_X7_forced : MV yX7_forced cX7_forced 5 (some .int) 4 := ⟨List.mem_of_getElem? (i := 584) (by decide +kernel), List.mem_of_getElem? (i := 585) (by decide +kernel), ki_X7, List.mem_of_getElem? (i := 586) (by decide +kernel), ⟨by decide +kernel, by decide +kernel⟩, by decide +kernel⟩
theorem ms_X7_isLetterSet : MS yX7_isLetterSet cX7_isLetterSet 1 (some .boolean) 1 := ⟨List.mem_of_getElem? (i := 588) (by decide +kernel), ki_X7, List.mem_of_getElem? (i := 589) (by decide +kernel), ⟨by decide +kernel, by decide +kernel⟩, by decide +kernel⟩
theorem mv_X7_trues : MV yX7_trues cX7_trues 1 (some .long) 0 := ⟨List.mem_of_getElem? (i := 591) (by decide +kernel), List.mem_of_getElem? (i := 592) (by decide +kernel), ki_X7, List.mem_of_getElem? (i := 593) (by decide +kernel), ⟨by decide +kernel, by decide +kernel⟩, by decide +kernel⟩
theorem mv_X7_trueWorlds : MV yX7_trueWorlds cX7_trueWorlds 4 (some .long) 0 := ⟨List.mem_of_getElem? (i := 596) (by decide +kernel), List.mem_of_getElem? (i := 21) (by decide +kernel), ki_X7, List.mem_of_getElem? (i := 597) (by decide +kernel), ⟨by decide +kernel, by decide +kernel⟩, by decide +kernel⟩
theorem mv_X7_told : MV yX7_told cX7_told 2 (some .int) 1 := ⟨List.mem_of_getElem? (i := 599) (by decide +kernel), List.mem_of_getElem? (i := 600) (by decide +kernel), ki_X7, List.mem_of_getElem? (i := 601) (by decide +kernel), ⟨by decide +kernel, by decide +kernel⟩, by decide +kernel⟩
theorem mv_X7_tight : MV yX7_tight cX7_tight 7 (some .int) 1 := ⟨List.mem_of_getElem? (i := 603) (by decide +kernel), List.mem_of_getElem? (i := 604) (by decide +kernel), ki_X7, List.mem_of_getElem? (i := 605) (by decide +kernel), ⟨by decide +kernel, by decide +kernel⟩, by decide +kernel⟩
theorem ms_X7_has : MS yX7_has cX7_has 3 (some .boolean) 2 := ⟨List.mem_of_getElem? (i := 607) (by decide +kernel), ki_X7, List.mem_of_getElem? (i := 608) (by decide +kernel), ⟨by decide +kernel, by decide +kernel⟩, by decide +kernel⟩
theorem mv_X7_needed : MV yX7_needed cX7_needed 4 (some .int) 2 := ⟨List.mem_of_getElem? (i := 611) (by decide +kernel), List.mem_of_getElem? (i := 612) (by decide +kernel), ki_X7, List.mem_of_getElem? (i := 613) (by decide +kernel), ⟨by decide +kernel, by decide +kernel⟩, by decide +kernel⟩
theorem mv_X7_leastTelling : MV yX7_leastTelling cX7_leastTelling 7 (some .int) 1 := ⟨List.mem_of_getElem? (i := 616) (by decide +kernel), List.mem_of_getElem? (i := 22) (by decide +kernel), ki_X7, List.mem_of_getElem? (i := 617) (by decide +kernel), ⟨by decide +kernel, by decide +kernel⟩, by decide +kernel⟩
theorem ms_J6_bitCount_0f7a4 : MS yJ6_bitCount_0f7a4 cJ6_bitCount_0f7a4 1 (some .int) 1 := ⟨List.mem_of_getElem? (i := 619) (by decide +kernel), ki_J6, List.mem_of_getElem? (i := 620) (by decide +kernel), ⟨by decide +kernel, by decide +kernel⟩, by decide +kernel⟩
theorem mv_X7_worldsOfGiven : MV yX7_worldsOfGiven cX7_worldsOfGiven 5 (some .long) 1 := ⟨List.mem_of_getElem? (i := 626) (by decide +kernel), List.mem_of_getElem? (i := 23) (by decide +kernel), ki_X7, List.mem_of_getElem? (i := 627) (by decide +kernel), ⟨by decide +kernel, by decide +kernel⟩, by decide +kernel⟩
theorem mv_X7_covers : MV yX7_covers cX7_covers 5 (some .int) 2 := ⟨List.mem_of_getElem? (i := 629) (by decide +kernel), List.mem_of_getElem? (i := 630) (by decide +kernel), ki_X7, List.mem_of_getElem? (i := 631) (by decide +kernel), ⟨by decide +kernel, by decide +kernel⟩, by decide +kernel⟩
theorem mv_X2_isLeastCover : MV yX2_isLeastCover cX2_isLeastCover 3 (some .boolean) 1 := ⟨List.mem_of_getElem? (i := 633) (by decide +kernel), List.mem_of_getElem? (i := 634) (by decide +kernel), ki_X2, List.mem_of_getElem? (i := 635) (by decide +kernel), ⟨by decide +kernel, by decide +kernel⟩, by decide +kernel⟩
theorem mv_X2_isCover : MV yX2_isCover cX2_isCover 4 (some .boolean) 1 := ⟨List.mem_of_getElem? (i := 638) (by decide +kernel), List.mem_of_getElem? (i := 24) (by decide +kernel), ki_X2, List.mem_of_getElem? (i := 639) (by decide +kernel), ⟨by decide +kernel, by decide +kernel⟩, by decide +kernel⟩
theorem mv_X7_cost : MV yX7_cost cX7_cost 4 (some .int) 2 := ⟨List.mem_of_getElem? (i := 641) (by decide +kernel), List.mem_of_getElem? (i := 642) (by decide +kernel), ki_X7, List.mem_of_getElem? (i := 643) (by decide +kernel), ⟨by decide +kernel, by decide +kernel⟩, by decide +kernel⟩
theorem mv_X7_least : MV yX7_least cX7_least 3 (some .int) 1 := ⟨List.mem_of_getElem? (i := 645) (by decide +kernel), List.mem_of_getElem? (i := 646) (by decide +kernel), ki_X7, List.mem_of_getElem? (i := 647) (by decide +kernel), ⟨by decide +kernel, by decide +kernel⟩, by decide +kernel⟩
theorem mv_X7_cheapestTrueWorld : MV yX7_cheapestTrueWorld cX7_cheapestTrueWorld 5 (some .int) 0 := ⟨List.mem_of_getElem? (i := 650) (by decide +kernel), List.mem_of_getElem? (i := 25) (by decide +kernel), ki_X7, List.mem_of_getElem? (i := 651) (by decide +kernel), ⟨by decide +kernel, by decide +kernel⟩, by decide +kernel⟩
theorem mv_X7_costOf : MV yX7_costOf cX7_costOf 4 (some .int) 1 := ⟨List.mem_of_getElem? (i := 654) (by decide +kernel), List.mem_of_getElem? (i := 26) (by decide +kernel), ki_X7, List.mem_of_getElem? (i := 655) (by decide +kernel), ⟨by decide +kernel, by decide +kernel⟩, by decide +kernel⟩
theorem mv_X7_fit : MV yX7_fit cX7_fit 3 (some .int) 2 := ⟨List.mem_of_getElem? (i := 657) (by decide +kernel), List.mem_of_getElem? (i := 658) (by decide +kernel), ki_X7, List.mem_of_getElem? (i := 659) (by decide +kernel), ⟨by decide +kernel, by decide +kernel⟩, by decide +kernel⟩
theorem mv_X0_search : MV yX0_search cX0_search 3 (some .boolean) 1 := ⟨List.mem_of_getElem? (i := 661) (by decide +kernel), List.mem_of_getElem? (i := 662) (by decide +kernel), ki_X0, List.mem_of_getElem? (i := 663) (by decide +kernel), ⟨by decide +kernel, by decide +kernel⟩, by decide +kernel⟩
theorem mv_X0_searchTogether : MV yX0_searchTogether cX0_searchTogether 6 (some .boolean) 2 := ⟨List.mem_of_getElem? (i := 666) (by decide +kernel), List.mem_of_getElem? (i := 27) (by decide +kernel), ki_X0, List.mem_of_getElem? (i := 667) (by decide +kernel), ⟨by decide +kernel, by decide +kernel⟩, by decide +kernel⟩
theorem mv_X0_fits : MV yX0_fits cX0_fits 9 (some .boolean) 4 := ⟨List.mem_of_getElem? (i := 671) (by decide +kernel), List.mem_of_getElem? (i := 28) (by decide +kernel), ki_X0, List.mem_of_getElem? (i := 672) (by decide +kernel), ⟨by decide +kernel, by decide +kernel⟩, by decide +kernel⟩
theorem ms_X0_part : MS yX0_part cX0_part 2 (some .int) 2 := ⟨List.mem_of_getElem? (i := 675) (by decide +kernel), ki_X0, List.mem_of_getElem? (i := 676) (by decide +kernel), ⟨by decide +kernel, by decide +kernel⟩, by decide +kernel⟩
theorem mv_X7_count : MV yX7_count cX7_count 2 (some .int) 1 := ⟨List.mem_of_getElem? (i := 681) (by decide +kernel), List.mem_of_getElem? (i := 682) (by decide +kernel), ki_X7, List.mem_of_getElem? (i := 683) (by decide +kernel), ⟨by decide +kernel, by decide +kernel⟩, by decide +kernel⟩
theorem ms_J13_bitCount_95d88 : MS yJ13_bitCount_95d88 cJ13_bitCount_95d88 2 (some .int) 1 := ⟨List.mem_of_getElem? (i := 685) (by decide +kernel), ki_J13, List.mem_of_getElem? (i := 686) (by decide +kernel), ⟨by decide +kernel, by decide +kernel⟩, by decide +kernel⟩
-- no call row for yX8_init
theorem mv_X8_type : MV yX8_type cX8_type 5 (some .int) 2 := ⟨List.mem_of_getElem? (i := 758) (by decide +kernel), List.mem_of_getElem? (i := 759) (by decide +kernel), ki_X8, List.mem_of_getElem? (i := 760) (by decide +kernel), ⟨by decide +kernel, by decide +kernel⟩, by decide +kernel⟩
theorem ms_X8_in : MS yX8_in cX8_in 3 (some .boolean) 3 := ⟨List.mem_of_getElem? (i := 762) (by decide +kernel), ki_X8, List.mem_of_getElem? (i := 763) (by decide +kernel), ⟨by decide +kernel, by decide +kernel⟩, by decide +kernel⟩
theorem mv_X8_clear : MV yX8_clear cX8_clear 2 (some .int) 0 := ⟨List.mem_of_getElem? (i := 766) (by decide +kernel), List.mem_of_getElem? (i := 767) (by decide +kernel), ki_X8, List.mem_of_getElem? (i := 768) (by decide +kernel), ⟨by decide +kernel, by decide +kernel⟩, by decide +kernel⟩
theorem mv_X8_given : MV yX8_given cX8_given 3 (some .int) 0 := ⟨List.mem_of_getElem? (i := 770) (by decide +kernel), List.mem_of_getElem? (i := 771) (by decide +kernel), ki_X8, List.mem_of_getElem? (i := 772) (by decide +kernel), ⟨by decide +kernel, by decide +kernel⟩, by decide +kernel⟩
theorem mv_X8_advances : MV yX8_advances cX8_advances 5 none 0 := ⟨List.mem_of_getElem? (i := 775) (by decide +kernel), List.mem_of_getElem? (i := 29) (by decide +kernel), ki_X8, List.mem_of_getElem? (i := 776) (by decide +kernel), ⟨by decide +kernel, by decide +kernel⟩, by decide +kernel⟩
theorem mv_X8_byteAt : MV yX8_byteAt cX8_byteAt 2 (some .int) 1 := ⟨List.mem_of_getElem? (i := 779) (by decide +kernel), List.mem_of_getElem? (i := 30) (by decide +kernel), ki_X8, List.mem_of_getElem? (i := 780) (by decide +kernel), ⟨by decide +kernel, by decide +kernel⟩, by decide +kernel⟩
theorem ms_X8_add : MS yX8_add cX8_add 3 (some .long) 2 := ⟨List.mem_of_getElem? (i := 782) (by decide +kernel), ki_X8, List.mem_of_getElem? (i := 783) (by decide +kernel), ⟨by decide +kernel, by decide +kernel⟩, by decide +kernel⟩
theorem ms_X8_wordOf : MS yX8_wordOf cX8_wordOf 2 (some .int) 1 := ⟨List.mem_of_getElem? (i := 786) (by decide +kernel), ki_X8, List.mem_of_getElem? (i := 787) (by decide +kernel), ⟨by decide +kernel, by decide +kernel⟩, by decide +kernel⟩
theorem ms_X8_word : MS yX8_word cX8_word 5 (some .long) 5 := ⟨List.mem_of_getElem? (i := 789) (by decide +kernel), ki_X8, List.mem_of_getElem? (i := 790) (by decide +kernel), ⟨by decide +kernel, by decide +kernel⟩, by decide +kernel⟩
theorem mv_X8_isWell : MV yX8_isWell cX8_isWell 1 (some .boolean) 0 := ⟨List.mem_of_getElem? (i := 793) (by decide +kernel), List.mem_of_getElem? (i := 31) (by decide +kernel), ki_X8, List.mem_of_getElem? (i := 794) (by decide +kernel), ⟨by decide +kernel, by decide +kernel⟩, by decide +kernel⟩
theorem mv_X8_fails : MV yX8_fails cX8_fails 1 none 0 := ⟨List.mem_of_getElem? (i := 797) (by decide +kernel), List.mem_of_getElem? (i := 32) (by decide +kernel), ki_X8, List.mem_of_getElem? (i := 798) (by decide +kernel), ⟨by decide +kernel, by decide +kernel⟩, by decide +kernel⟩
theorem mv_X8_readsLine : MV yX8_readsLine cX8_readsLine 5 none 2 := ⟨List.mem_of_getElem? (i := 801) (by decide +kernel), List.mem_of_getElem? (i := 33) (by decide +kernel), ki_X8, List.mem_of_getElem? (i := 802) (by decide +kernel), ⟨by decide +kernel, by decide +kernel⟩, by decide +kernel⟩
theorem mv_X8_isToken : MV yX8_isToken cX8_isToken 2 (some .boolean) 1 := ⟨List.mem_of_getElem? (i := 805) (by decide +kernel), List.mem_of_getElem? (i := 34) (by decide +kernel), ki_X8, List.mem_of_getElem? (i := 806) (by decide +kernel), ⟨by decide +kernel, by decide +kernel⟩, by decide +kernel⟩
theorem mv_X8_takesNumber : MV yX8_takesNumber cX8_takesNumber 4 (some .int) 2 := ⟨List.mem_of_getElem? (i := 809) (by decide +kernel), List.mem_of_getElem? (i := 35) (by decide +kernel), ki_X8, List.mem_of_getElem? (i := 810) (by decide +kernel), ⟨by decide +kernel, by decide +kernel⟩, by decide +kernel⟩
theorem mv_X8_takes : MV yX8_takes cX8_takes 2 none 1 := ⟨List.mem_of_getElem? (i := 813) (by decide +kernel), List.mem_of_getElem? (i := 36) (by decide +kernel), ki_X8, List.mem_of_getElem? (i := 814) (by decide +kernel), ⟨by decide +kernel, by decide +kernel⟩, by decide +kernel⟩
theorem mv_X8_proof : MV yX8_proof cX8_proof 6 (some .int) 0 := ⟨List.mem_of_getElem? (i := 816) (by decide +kernel), List.mem_of_getElem? (i := 817) (by decide +kernel), ki_X8, List.mem_of_getElem? (i := 818) (by decide +kernel), ⟨by decide +kernel, by decide +kernel⟩, by decide +kernel⟩
theorem mv_X8_readsStep : MV yX8_readsStep cX8_readsStep 4 none 1 := ⟨List.mem_of_getElem? (i := 821) (by decide +kernel), List.mem_of_getElem? (i := 37) (by decide +kernel), ki_X8, List.mem_of_getElem? (i := 822) (by decide +kernel), ⟨by decide +kernel, by decide +kernel⟩, by decide +kernel⟩
theorem mv_X8_takesLetter : MV yX8_takesLetter cX8_takesLetter 2 (some .int) 0 := ⟨List.mem_of_getElem? (i := 825) (by decide +kernel), List.mem_of_getElem? (i := 38) (by decide +kernel), ki_X8, List.mem_of_getElem? (i := 826) (by decide +kernel), ⟨by decide +kernel, by decide +kernel⟩, by decide +kernel⟩
theorem mv_X8_does : MV yX8_does cX8_does 13 none 2 := ⟨List.mem_of_getElem? (i := 829) (by decide +kernel), List.mem_of_getElem? (i := 39) (by decide +kernel), ki_X8, List.mem_of_getElem? (i := 830) (by decide +kernel), ⟨by decide +kernel, by decide +kernel⟩, by decide +kernel⟩
theorem ms_X8_size : MS yX8_size cX8_size 1 (some .int) 1 := ⟨List.mem_of_getElem? (i := 832) (by decide +kernel), ki_X8, List.mem_of_getElem? (i := 833) (by decide +kernel), ⟨by decide +kernel, by decide +kernel⟩, by decide +kernel⟩
theorem mv_X8_isGreat : MV yX8_isGreat cX8_isGreat 4 (some .boolean) 1 := ⟨List.mem_of_getElem? (i := 836) (by decide +kernel), List.mem_of_getElem? (i := 40) (by decide +kernel), ki_X8, List.mem_of_getElem? (i := 837) (by decide +kernel), ⟨by decide +kernel, by decide +kernel⟩, by decide +kernel⟩
theorem mv_X8_isRight : MV yX8_isRight cX8_isRight 7 (some .boolean) 1 := ⟨List.mem_of_getElem? (i := 841) (by decide +kernel), List.mem_of_getElem? (i := 41) (by decide +kernel), ki_X8, List.mem_of_getElem? (i := 842) (by decide +kernel), ⟨by decide +kernel, by decide +kernel⟩, by decide +kernel⟩
theorem mv_X8_weights : MV yX8_weights cX8_weights 4 (some .int) 1 := ⟨List.mem_of_getElem? (i := 845) (by decide +kernel), List.mem_of_getElem? (i := 42) (by decide +kernel), ki_X8, List.mem_of_getElem? (i := 846) (by decide +kernel), ⟨by decide +kernel, by decide +kernel⟩, by decide +kernel⟩
theorem mv_X8_clashes : MV yX8_clashes cX8_clashes 11 (some .boolean) 3 := ⟨List.mem_of_getElem? (i := 849) (by decide +kernel), List.mem_of_getElem? (i := 43) (by decide +kernel), ki_X8, List.mem_of_getElem? (i := 850) (by decide +kernel), ⟨by decide +kernel, by decide +kernel⟩, by decide +kernel⟩
theorem mv_X8_wrong : MV yX8_wrong cX8_wrong 2 (some .int) 1 := ⟨List.mem_of_getElem? (i := 852) (by decide +kernel), List.mem_of_getElem? (i := 853) (by decide +kernel), ki_X8, List.mem_of_getElem? (i := 854) (by decide +kernel), ⟨by decide +kernel, by decide +kernel⟩, by decide +kernel⟩
theorem mv_X8_line : MV yX8_line cX8_line 3 (some .int) 2 := ⟨List.mem_of_getElem? (i := 856) (by decide +kernel), List.mem_of_getElem? (i := 857) (by decide +kernel), ki_X8, List.mem_of_getElem? (i := 858) (by decide +kernel), ⟨by decide +kernel, by decide +kernel⟩, by decide +kernel⟩
theorem mv_X8_isLine : MV yX8_isLine cX8_isLine 2 (some .boolean) 1 := ⟨List.mem_of_getElem? (i := 861) (by decide +kernel), List.mem_of_getElem? (i := 44) (by decide +kernel), ki_X8, List.mem_of_getElem? (i := 862) (by decide +kernel), ⟨by decide +kernel, by decide +kernel⟩, by decide +kernel⟩
theorem mv_X8_holds : MV yX8_holds cX8_holds 2 (some .long) 1 := ⟨List.mem_of_getElem? (i := 865) (by decide +kernel), List.mem_of_getElem? (i := 866) (by decide +kernel), ki_X8, List.mem_of_getElem? (i := 867) (by decide +kernel), ⟨by decide +kernel, by decide +kernel⟩, by decide +kernel⟩
theorem mv_X8_held : MV yX8_held cX8_held 5 (some .long) 1 := ⟨List.mem_of_getElem? (i := 870) (by decide +kernel), List.mem_of_getElem? (i := 45) (by decide +kernel), ki_X8, List.mem_of_getElem? (i := 871) (by decide +kernel), ⟨by decide +kernel, by decide +kernel⟩, by decide +kernel⟩
theorem mv_X8_isHeld : MV yX8_isHeld cX8_isHeld 3 (some .boolean) 2 := ⟨List.mem_of_getElem? (i := 874) (by decide +kernel), List.mem_of_getElem? (i := 46) (by decide +kernel), ki_X8, List.mem_of_getElem? (i := 875) (by decide +kernel), ⟨by decide +kernel, by decide +kernel⟩, by decide +kernel⟩
theorem mv_X8_weighs : MV yX8_weighs cX8_weighs 6 (some .int) 2 := ⟨List.mem_of_getElem? (i := 878) (by decide +kernel), List.mem_of_getElem? (i := 47) (by decide +kernel), ki_X8, List.mem_of_getElem? (i := 879) (by decide +kernel), ⟨by decide +kernel, by decide +kernel⟩, by decide +kernel⟩
theorem mv_X8_broken : MV yX8_broken cX8_broken 2 (some .int) 1 := ⟨List.mem_of_getElem? (i := 881) (by decide +kernel), List.mem_of_getElem? (i := 882) (by decide +kernel), ki_X8, List.mem_of_getElem? (i := 883) (by decide +kernel), ⟨by decide +kernel, by decide +kernel⟩, by decide +kernel⟩
theorem mv_X8_isBroken : MV yX8_isBroken cX8_isBroken 2 (some .boolean) 1 := ⟨List.mem_of_getElem? (i := 886) (by decide +kernel), List.mem_of_getElem? (i := 48) (by decide +kernel), ki_X8, List.mem_of_getElem? (i := 887) (by decide +kernel), ⟨by decide +kernel, by decide +kernel⟩, by decide +kernel⟩
theorem mv_X8_end : MV yX8_end cX8_end 2 (some .int) 0 := ⟨List.mem_of_getElem? (i := 889) (by decide +kernel), List.mem_of_getElem? (i := 890) (by decide +kernel), ki_X8, List.mem_of_getElem? (i := 891) (by decide +kernel), ⟨by decide +kernel, by decide +kernel⟩, by decide +kernel⟩
theorem mv_X8_both : MV yX8_both cX8_both 8 (some .int) 3 := ⟨List.mem_of_getElem? (i := 893) (by decide +kernel), List.mem_of_getElem? (i := 894) (by decide +kernel), ki_X8, List.mem_of_getElem? (i := 895) (by decide +kernel), ⟨by decide +kernel, by decide +kernel⟩, by decide +kernel⟩
theorem mv_X8_forced : MV yX8_forced cX8_forced 6 (some .int) 4 := ⟨List.mem_of_getElem? (i := 898) (by decide +kernel), List.mem_of_getElem? (i := 899) (by decide +kernel), ki_X8, List.mem_of_getElem? (i := 900) (by decide +kernel), ⟨by decide +kernel, by decide +kernel⟩, by decide +kernel⟩
theorem mv_X8_trues : MV yX8_trues cX8_trues 1 (some .long) 0 := ⟨List.mem_of_getElem? (i := 902) (by decide +kernel), List.mem_of_getElem? (i := 903) (by decide +kernel), ki_X8, List.mem_of_getElem? (i := 904) (by decide +kernel), ⟨by decide +kernel, by decide +kernel⟩, by decide +kernel⟩
theorem mv_X8_trueWorlds : MV yX8_trueWorlds cX8_trueWorlds 1 (some .long) 0 := ⟨List.mem_of_getElem? (i := 907) (by decide +kernel), List.mem_of_getElem? (i := 49) (by decide +kernel), ki_X8, List.mem_of_getElem? (i := 908) (by decide +kernel), ⟨by decide +kernel, by decide +kernel⟩, by decide +kernel⟩
theorem mv_X8_heldBy : MV yX8_heldBy cX8_heldBy 5 (some .long) 1 := ⟨List.mem_of_getElem? (i := 911) (by decide +kernel), List.mem_of_getElem? (i := 50) (by decide +kernel), ki_X8, List.mem_of_getElem? (i := 912) (by decide +kernel), ⟨by decide +kernel, by decide +kernel⟩, by decide +kernel⟩
theorem mv_X8_told : MV yX8_told cX8_told 2 (some .int) 1 := ⟨List.mem_of_getElem? (i := 914) (by decide +kernel), List.mem_of_getElem? (i := 915) (by decide +kernel), ki_X8, List.mem_of_getElem? (i := 916) (by decide +kernel), ⟨by decide +kernel, by decide +kernel⟩, by decide +kernel⟩
theorem mv_X8_tight : MV yX8_tight cX8_tight 7 (some .int) 1 := ⟨List.mem_of_getElem? (i := 918) (by decide +kernel), List.mem_of_getElem? (i := 919) (by decide +kernel), ki_X8, List.mem_of_getElem? (i := 920) (by decide +kernel), ⟨by decide +kernel, by decide +kernel⟩, by decide +kernel⟩
theorem mv_X8_needed : MV yX8_needed cX8_needed 7 (some .int) 2 := ⟨List.mem_of_getElem? (i := 922) (by decide +kernel), List.mem_of_getElem? (i := 923) (by decide +kernel), ki_X8, List.mem_of_getElem? (i := 924) (by decide +kernel), ⟨by decide +kernel, by decide +kernel⟩, by decide +kernel⟩
theorem ms_X8_ones : MS yX8_ones cX8_ones 3 (some .int) 1 := ⟨List.mem_of_getElem? (i := 926) (by decide +kernel), ki_X8, List.mem_of_getElem? (i := 927) (by decide +kernel), ⟨by decide +kernel, by decide +kernel⟩, by decide +kernel⟩
theorem mv_X8_covers : MV yX8_covers cX8_covers 8 (some .int) 2 := ⟨List.mem_of_getElem? (i := 929) (by decide +kernel), List.mem_of_getElem? (i := 930) (by decide +kernel), ki_X8, List.mem_of_getElem? (i := 931) (by decide +kernel), ⟨by decide +kernel, by decide +kernel⟩, by decide +kernel⟩
theorem mv_X8_isCover : MV yX8_isCover cX8_isCover 5 (some .boolean) 2 := ⟨List.mem_of_getElem? (i := 934) (by decide +kernel), List.mem_of_getElem? (i := 51) (by decide +kernel), ki_X8, List.mem_of_getElem? (i := 935) (by decide +kernel), ⟨by decide +kernel, by decide +kernel⟩, by decide +kernel⟩
theorem mv_X8_cost : MV yX8_cost cX8_cost 4 (some .int) 2 := ⟨List.mem_of_getElem? (i := 937) (by decide +kernel), List.mem_of_getElem? (i := 938) (by decide +kernel), ki_X8, List.mem_of_getElem? (i := 939) (by decide +kernel), ⟨by decide +kernel, by decide +kernel⟩, by decide +kernel⟩
theorem mv_X8_least : MV yX8_least cX8_least 9 (some .int) 1 := ⟨List.mem_of_getElem? (i := 941) (by decide +kernel), List.mem_of_getElem? (i := 942) (by decide +kernel), ki_X8, List.mem_of_getElem? (i := 943) (by decide +kernel), ⟨by decide +kernel, by decide +kernel⟩, by decide +kernel⟩
theorem mv_X8_fit : MV yX8_fit cX8_fit 3 (some .int) 2 := ⟨List.mem_of_getElem? (i := 945) (by decide +kernel), List.mem_of_getElem? (i := 946) (by decide +kernel), ki_X8, List.mem_of_getElem? (i := 947) (by decide +kernel), ⟨by decide +kernel, by decide +kernel⟩, by decide +kernel⟩
theorem mv_X8_fits : MV yX8_fits cX8_fits 11 (some .boolean) 1 := ⟨List.mem_of_getElem? (i := 950) (by decide +kernel), List.mem_of_getElem? (i := 52) (by decide +kernel), ki_X8, List.mem_of_getElem? (i := 951) (by decide +kernel), ⟨by decide +kernel, by decide +kernel⟩, by decide +kernel⟩
theorem ms_X8_weighsOf : MS yX8_weighsOf cX8_weighsOf 5 (some .int) 4 := ⟨List.mem_of_getElem? (i := 953) (by decide +kernel), ki_X8, List.mem_of_getElem? (i := 954) (by decide +kernel), ⟨by decide +kernel, by decide +kernel⟩, by decide +kernel⟩
theorem mv_X8_count : MV yX8_count cX8_count 6 (some .int) 1 := ⟨List.mem_of_getElem? (i := 956) (by decide +kernel), List.mem_of_getElem? (i := 957) (by decide +kernel), ki_X8, List.mem_of_getElem? (i := 958) (by decide +kernel), ⟨by decide +kernel, by decide +kernel⟩, by decide +kernel⟩
end
section
/-! THE STATE OF THE SYSTEM. Every cell that the run makes has a number (0 .. 173, in the order in which the constructors make them) and lies at base + number; a state is: how many cells there are, what int places hold, what the long row holds, which cell a reference names. -/
abbrev Sg : Type := Nat × (Nat → Nat → Int32) × (Nat → Int64) × (Nat → Nat → Option Nat)
abbrev Gl : Type := Nat × (Nat → ClassId) × (Nat → Nat → Nat) × (Nat → ClassId) × (Nat → Nat)
def gb (g : Gl) : Nat := g.1
def gD (g : Gl) : va_G := (g.2.1, g.2.2.1)
def gc (g : Gl) : Nat → ClassId := g.2.2.2.1
def ga (g : Gl) : Nat → Nat := g.2.2.2.2
/-- where the cell of that number lies; numbers from 1000 on: cells that were there before (texts, the script) -/
def rel (g : Gl) (k : Nat) : Nat := if k < 1000 then gb g + k else ga g k
def rv (g : Gl) (v : Value) : Value := match v with
  | .ref k => .ref (rel g k)
  | w => w
theorem rv_cat (g : Gl) (v : Value) : (rv g v).category = v.category := by cases v <;> rfl
/-- of what kind a cell is: 0 .. 8 an object of that class, 9 bytes, 10 ints, 11 longs, 12 lines, 13 steps -/
def sh (k : Nat) : Nat :=
  if k = 0 then 7 else if k = 1 then 5 else if k = 2 then 9 else if k = 3 then 3 else if k = 4 then 12 else if k = 5 then 13 else if k = 6 then 6 else if k < 10 then 10
  else if k < 26 then (if k % 2 = 0 then 2 else 10) else if k < 98 then (if k % 3 = 2 then 4 else if k % 3 = 0 then 2 else 10)
  else if k = 98 then 1 else if k = 99 then 0 else if k = 100 then 12 else if k < 165 then (if k % 2 = 1 then 2 else 10) else if k = 165 then 11 else if k = 166 then 10 else if k = 167 then 8 else 10
/-- how many places a row has -/
def ln (k : Nat) : Nat :=
  if k = 2 then 400 else if k = 4 then 8 else if k = 5 then 24 else if k < 10 then 401 else if k = 100 then 32 else if k < 165 then 6 else if k = 165 then 8 else if k = 166 then 6
  else if k = 168 then 400 else if k = 169 then 231 else if k = 170 then 56 else if k = 171 then 240 else if k = 172 then 6 else 5
def wR (g : Gl) (S : Sg) (k j : Nat) : Value := va_rf ((S.2.2.2 k j).map (rel g))
def wI (S : Sg) (k j : Nat) : Value := .int (S.2.1 k j)
/-- what lies in the cell of that number -/
def wE (g : Gl) (S : Sg) (k : Nat) : va_E := match sh k with
  | 0 => .inr (0, [wI S k 0, wI S k 1, wI S k 2, wI S k 3])
  | 1 => .inr (1, [wI S k 0, wI S k 1, wI S k 2])
  | 2 => .inr (2, [wR g S k 0, wI S k 1])
  | 3 => .inr (3, [wR g S k 0, wR g S k 1, wR g S k 2])
  | 4 => .inr (4, [wI S k 0, wI S k 1, wI S k 2, wR g S k 3])
  | 5 => .inr (5, [wR g S k 0, wI S k 1])
  | 6 => .inr (6, [wR g S k 0, wR g S k 1, wR g S k 2, wI S k 3, wI S k 4])
  | 7 => .inr (7, [wR g S k 0, wR g S k 1, wR g S k 2, wR g S k 3, wR g S k 4, wR g S k 5, wR g S k 6, wI S k 7, wI S k 8, wI S k 9, wI S k 10, wI S k 11])
  | 8 => .inr (8, [wI S k 0, wR g S k 1, wI S k 2, wI S k 3, wI S k 4, wI S k 5, wI S k 6, wI S k 7, wR g S k 8, wI S k 9, wI S k 10, wI S k 11, wI S k 12, wI S k 13, wR g S k 14, wR g S k 15, wI S k 16, wI S k 17, wR g S k 18, wR g S k 19])
  | 9 => .inl (gc g 0, ln k, .inl (S.2.1 k))
  | 10 => .inl (gc g 1, ln k, .inl (S.2.1 k))
  | 11 => .inl (gc g 2, ln k, .inr (.inl S.2.2.1))
  | 12 => .inl (gc g 3, ln k, .inr (.inr (.inr (.inr (fun j => (S.2.2.2 k j).map (rel g))))))
  | _ => .inl (gc g 4, ln k, .inr (.inr (.inr (.inr (fun j => (S.2.2.2 k j).map (rel g))))))
/-- the heap holds the state -/
def Wd (g : Gl) (S : Sg) (H : Heap) : Prop := H.size = gb g + S.1 ∧ S.1 ≤ 174 ∧ ∀ k, k < S.1 → va_at (gD g) vwCl (gb g + k, wE g S k) H
def tysG (g : Gl) : List (ClassId × FieldType) := [(gc g 0, .byte), (gc g 1, .int), (gc g 2, .long), (gc g 3, .object RX2), (gc g 4, .object RX4)]
def ourA (g : Gl) : Nat → Prop := fun q => gb g ≤ q
/-- the eight texts: where each stands in the pool of Tokens, what it is -/
def sx_at (i : Nat) : Nat := [62, 70, 72, 74, 76, 78, 80, 82].getD i 0
def sx_tx (i : Nat) : String := ["add", "times", "cut", "trim", "drop", "so", "not", "claim"].getD i ""
def sx_by : List (List Int32) := [[97, 100, 100], [116, 105, 109, 101, 115], [99, 117, 116], [116, 114, 105, 109], [100, 114, 111, 112], [115, 111], [110, 111, 116], [99, 108, 97, 105, 109]]
def sx_ln : List Nat := [3, 5, 3, 4, 4, 2, 3, 5]
/-- calls of a nest mate's constructor, by name: they are no words that a list carries -/
def nests : List (String × Nat × MethodName) := [(RX7, 9, yX5_init), (RX3, 25, yX6_init), (RX3, 30, yX2_init), (RX3, 31, yX4_init), (RX4, 9, yX2_init), (RX7, 25, yX1_init), (RX7, 32, yX0_init), (RX7, 43, yX2_init)]
def Kn (U : State) : Prop := (∀ q ∈ nests, va_Nw (.methodLinkNest q.1 q.2.1 q.2.2 "TruthSums") U) ∧ va_AO RX2 U ∧ va_AO RX4 U
/-- a static that holds nothing or some object: it is handed on, never looked at -/
def Fm (g : Gl) (U : State) : Prop := va_Z "jdk/internal/util/Preconditions" "SIOOBE_FORMATTER" "Ljava/util/function/BiFunction;" .null (ourA g) U U.heap ∨ va_Z "jdk/internal/util/Preconditions" "SIOOBE_FORMATTER" "Ljava/util/function/BiFunction;" (.ref (ga g 1200)) (ourA g) U U.heap
/-- what was there before and stays: classes, texts, statics -/
def Ks (g : Gl) (U : State) : Prop := Kn U ∧ vk_S 8 sx_ln sx_by (fun i => ga g (1000 + i)) (fun i => ga g (1100 + i)) (ourA g) U U.heap ∧ (∀ i, i < 8 → vk_R RX6 (sx_at i) (sx_tx i) (ga g (1000 + i)) U) ∧ va_Z "java/lang/String" "COMPACT_STRINGS" "Z" (.int 1) (ourA g) U U.heap ∧ Fm g U
def Kg (g : Gl) (U : State) : Prop := va_K (gD g) vwCl (tysG g) U ∧ Ks g U
theorem Kg.same {g : Gl} {u U : State} (h : Kg g u) (hv : U.vm = u.vm) (hh : U.heap = u.heap) : Kg g U := by
  have ha : u.vm.Alike U.vm := by rw [hv]; exact Vm.Alike.refl _
  refine ⟨va_K.moved ha h.1, ⟨fun q hq => va_Nw.same rfl hv.symm (h.2.1.1 q hq), va_AO.moved ha h.2.1.2.1, va_AO.moved ha h.2.1.2.2⟩, ?_, fun i hi => vk_R.same hv (h.2.2.2.1 i hi), ?_, ?_⟩
  · rw [hh]; exact vk_S.moved ha h.2.2.1
  · rw [hh]; exact va_Z.moved ha h.2.2.2.2.1
  · unfold Fm; rw [hh]; exact h.2.2.2.2.2.elim (fun q => Or.inl (va_Z.moved ha q)) (fun q => Or.inr (va_Z.moved ha q))
theorem Kg.next {g : Gl} {s U : State} {H : Heap} {locs : List Loc} (h : Kg g s) (hW : s.WarmedH U.vm) (hU : U.heap = H) (hS : va_S (ourA g) s.heap H locs) : Kg g U := by
  refine ⟨va_K.moved hW.alike h.1, ⟨fun q hq => va_Nw.warmM hW (h.2.1.1 q hq), va_AO.moved hW.alike h.2.1.2.1, va_AO.moved hW.alike h.2.1.2.2⟩, ?_, fun i hi => vk_R.warm hW (h.2.2.2.1 i hi), ?_, ?_⟩
  · rw [hU]; exact vk_S.kept (vk_S.moved hW.alike h.2.2.1) hS.2.1
  · rw [hU]; exact va_Z.kept (va_Z.moved hW.alike h.2.2.2.2.1) hS.2.1
  · unfold Fm; rw [hU]; exact h.2.2.2.2.2.elim (fun q => Or.inl (va_Z.kept (va_Z.moved hW.alike q) hS.2.1)) (fun q => Or.inr (va_Z.kept (va_Z.moved hW.alike q) hS.2.1))
/-! THE LOCALS, by their places -/
def lg : List (Option Value) → Nat → Option Value
  | [], _ => none
  | x :: _, 0 => x
  | _ :: t, i + 1 => lg t i
def lk (x : Option Value) : Option Value := match x with
  | some (.long _) => none
  | some (.double _) => none
  | y => y
def ls1 : List (Option Value) → Nat → Value → List (Option Value)
  | [], _, _ => []
  | _ :: t, 0, v => some v :: t
  | x :: t, 1, v => lk x :: ls1 t 0 v
  | x :: t, i + 2, v => x :: ls1 t (i + 1) v
def ls2 : List (Option Value) → Nat → Value → List (Option Value)
  | [], _, _ => []
  | [_], 0, v => [some v]
  | _ :: _ :: t, 0, v => some v :: none :: t
  | x :: t, 1, v => lk x :: ls2 t 0 v
  | x :: t, i + 2, v => x :: ls2 t (i + 1) v
theorem lk_some {x : Option Value} {w : Value} (h : lk x = some w) : x = some w ∧ ¬ w.category = 2 := by
  cases x with
  | none => simp [lk] at h
  | some v => cases v <;> simp [lk] at h <;> subst h <;> simp [Value.category]
theorem ls1_get : ∀ (L : List (Option Value)) (i : Nat) (v : Value) (j : Nat) (w : Value), lg (ls1 L i v) j = some w → (j = i ∧ w = v) ∨ (lg L j = some w ∧ j ≠ i ∧ ¬ (j + 1 = i ∧ w.category = 2))
  | [], i, v, j, w, h => by simp [ls1, lg] at h
  | x :: t, 0, v, 0, w, h => by simp [ls1, lg] at h; exact Or.inl ⟨rfl, h.symm⟩
  | x :: t, 0, v, j + 1, w, h => by simp [ls1, lg] at h; exact Or.inr ⟨by simpa [lg] using h, by omega, by omega⟩
  | x :: t, 1, v, 0, w, h => by
    simp [ls1, lg] at h
    have := lk_some h
    exact Or.inr ⟨by simpa [lg] using this.1, by omega, fun q => this.2 q.2⟩
  | x :: t, 1, v, j + 1, w, h => by
    simp [ls1, lg] at h
    rcases ls1_get t 0 v j w h with ⟨a, b⟩ | ⟨a, b, c⟩
    · exact Or.inl ⟨by omega, b⟩
    · exact Or.inr ⟨by simpa [lg] using a, by omega, by omega⟩
  | x :: t, i + 2, v, 0, w, h => by
    simp [ls1, lg] at h
    exact Or.inr ⟨by simpa [lg] using h, by omega, by omega⟩
  | x :: t, i + 2, v, j + 1, w, h => by
    simp [ls1, lg] at h
    rcases ls1_get t (i + 1) v j w h with ⟨a, b⟩ | ⟨a, b, c⟩
    · exact Or.inl ⟨by omega, b⟩
    · exact Or.inr ⟨by simpa [lg] using a, by omega, fun q => c ⟨by omega, q.2⟩⟩
theorem ls2_get : ∀ (L : List (Option Value)) (i : Nat) (v : Value) (j : Nat) (w : Value), lg (ls2 L i v) j = some w → (j = i ∧ w = v) ∨ (lg L j = some w ∧ j ≠ i ∧ j ≠ i + 1 ∧ ¬ (j + 1 = i ∧ w.category = 2))
  | [], i, v, j, w, h => by simp [ls2, lg] at h
  | [x], 0, v, 0, w, h => by simp [ls2, lg] at h; exact Or.inl ⟨rfl, h.symm⟩
  | [x], 0, v, j + 1, w, h => by simp [ls2, lg] at h
  | x :: y :: t, 0, v, 0, w, h => by simp [ls2, lg] at h; exact Or.inl ⟨rfl, h.symm⟩
  | x :: y :: t, 0, v, 1, w, h => by simp [ls2, lg] at h
  | x :: y :: t, 0, v, j + 2, w, h => by simp [ls2, lg] at h; exact Or.inr ⟨by simpa [lg] using h, by omega, by omega, by omega⟩
  | x :: t, 1, v, 0, w, h => by
    simp [ls2, lg] at h
    have := lk_some h
    exact Or.inr ⟨by simpa [lg] using this.1, by omega, by omega, fun q => this.2 q.2⟩
  | x :: t, 1, v, j + 1, w, h => by
    simp [ls2, lg] at h
    rcases ls2_get t 0 v j w h with ⟨a, b⟩ | ⟨a, b, c, d⟩
    · exact Or.inl ⟨by omega, b⟩
    · exact Or.inr ⟨by simpa [lg] using a, by omega, by omega, by omega⟩
  | x :: t, i + 2, v, 0, w, h => by
    simp [ls2, lg] at h
    exact Or.inr ⟨by simpa [lg] using h, by omega, by omega, by omega⟩
  | x :: t, i + 2, v, j + 1, w, h => by
    simp [ls2, lg] at h
    rcases ls2_get t (i + 1) v j w h with ⟨a, b⟩ | ⟨a, b, c, d⟩
    · exact Or.inl ⟨by omega, b⟩
    · exact Or.inr ⟨by simpa [lg] using a, by omega, by omega, fun q => d ⟨by omega, q.2⟩⟩
def lvh (g : Gl) (ls : Array Slot) (nL : Nat) (L : List (Option Value)) : Prop := ls.size = nL ∧ lv_wf ls ∧ ∀ (j : Nat) (w : Value), lg L j = some w → ls[j]? = some (.val (rv g w))
def prs (g : Gl) (L : List (Option Value)) : List (Nat × Value) := (List.range L.length).filterMap (fun j => (lg L j).map (fun w => (j, rv g w)))
theorem lg_lt : ∀ (L : List (Option Value)) (j : Nat) (w : Value), lg L j = some w → j < L.length
  | [], j, w, h => by simp [lg] at h
  | x :: t, 0, w, h => by simp
  | x :: t, j + 1, w, h => by
    have := lg_lt t j w (by simpa [lg] using h)
    simp only [List.length_cons]; omega
theorem prs_in {g : Gl} {L : List (Option Value)} {j : Nat} {w : Value} (h : lg L j = some w) : (j, rv g w) ∈ prs g L :=
  List.mem_filterMap.mpr ⟨j, List.mem_range.mpr (lg_lt L j w h), by rw [h]; rfl⟩
theorem lvh.has {g : Gl} {ls : Array Slot} {nL : Nat} {L : List (Option Value)} (h : lvh g ls nL L) : lv_has ls nL (prs g L) := by
  refine ⟨h.1, h.2.1, fun q hq => ?_⟩
  obtain ⟨j, -, hj⟩ := List.mem_filterMap.mp hq
  cases hw : lg L j with
  | none => rw [hw] at hj; cases hj
  | some w => rw [hw] at hj; cases hj; exact h.2.2 j w hw
theorem lvh.st1 {g : Gl} {ls : Array Slot} {nL i : Nat} {v : Value} {L : List (Option Value)} (h : lv_has ls nL ((i, rv g v) :: (prs g L).filter (fun q => !(q.1 == i) && !(q.1 + 1 == i && q.2.category == 2)))) : lvh g ls nL (ls1 L i v) := by
  refine ⟨h.1, h.2.1, fun j w hj => ?_⟩
  rcases ls1_get L i v j w hj with ⟨rfl, rfl⟩ | ⟨a, b, c⟩
  · exact h.2.2 _ List.mem_cons_self
  · refine h.2.2 (j, rv g w) (List.mem_cons_of_mem _ (List.mem_filter.mpr ⟨prs_in a, ?_⟩))
    simp only [Bool.and_eq_true, Bool.not_eq_true', beq_eq_false_iff_ne, ne_eq, Bool.and_eq_false_iff, rv_cat]
    refine ⟨b, ?_⟩
    by_cases e : j + 1 = i
    · exact Or.inr (fun z => c ⟨e, z⟩)
    · exact Or.inl e
theorem lvh.st2 {g : Gl} {ls : Array Slot} {nL i : Nat} {v : Value} {L : List (Option Value)} (h : lv_has ls nL ((i, rv g v) :: (prs g L).filter (fun q => !(q.1 == i) && (!(q.1 == i + 1) && !(q.1 + 1 == i && q.2.category == 2))))) : lvh g ls nL (ls2 L i v) := by
  refine ⟨h.1, h.2.1, fun j w hj => ?_⟩
  rcases ls2_get L i v j w hj with ⟨rfl, rfl⟩ | ⟨a, b, b2, c⟩
  · exact h.2.2 _ List.mem_cons_self
  · refine h.2.2 (j, rv g w) (List.mem_cons_of_mem _ (List.mem_filter.mpr ⟨prs_in a, ?_⟩))
    simp only [Bool.and_eq_true, Bool.not_eq_true', beq_eq_false_iff_ne, ne_eq, Bool.and_eq_false_iff, rv_cat]
    refine ⟨b, b2, ?_⟩
    by_cases e : j + 1 = i
    · exact Or.inr (fun z => c ⟨e, z⟩)
    · exact Or.inl e
/-- the locals with which a method begins -/
def enp : List Value → Nat → List (Option Value)
  | [], n => List.replicate n none
  | .long x :: t, n => some (.long x) :: none :: enp t (n - 2)
  | .double x :: t, n => some (.double x) :: none :: enp t (n - 2)
  | v :: t, n => some v :: enp t (n - 1)
theorem lg_rep : ∀ (n j : Nat), lg (List.replicate n none) j = none
  | 0, j => rfl
  | n + 1, 0 => rfl
  | n + 1, j + 1 => by simpa [List.replicate, lg] using lg_rep n j
theorem enp_in (g : Gl) : ∀ (av : List Value) (n i j : Nat) (w : Value), lg (enp av n) j = some w → (i + j, rv g w) ∈ lv_args i (av.map (rv g)) := by
  intro av
  induction av with
  | nil => intro n i j w h; rw [enp, lg_rep] at h; cases h
  | cons v t ih =>
    have one : ∀ (u : Value) (n i j : Nat) (w : Value), u.category = 1 → lg (some u :: enp t (n - 1)) j = some w → (i + j, rv g w) ∈ lv_args i ((u :: t).map (rv g)) := by
      intro u n i j w hc h
      rw [List.map_cons, lv_args, rv_cat, if_neg (by omega)]
      cases j with
      | zero => simp only [lg, Option.some.injEq] at h; subst h; exact List.mem_cons_self
      | succ j =>
        have := ih (n - 1) (i + 1) j w (by simpa [lg] using h)
        rw [show i + (j + 1) = i + 1 + j by omega]
        exact List.mem_cons_of_mem _ this
    have two : ∀ (u : Value) (n i j : Nat) (w : Value), u.category = 2 → lg (some u :: none :: enp t (n - 2)) j = some w → (i + j, rv g w) ∈ lv_args i ((u :: t).map (rv g)) := by
      intro u n i j w hc h
      rw [List.map_cons, lv_args, rv_cat, if_pos hc]
      match j, h with
      | 0, h => simp only [lg, Option.some.injEq] at h; subst h; exact List.mem_cons_self
      | 1, h => simp [lg] at h
      | j + 2, h =>
        have := ih (n - 2) (i + 2) j w (by simpa [lg] using h)
        rw [show i + (j + 2) = i + 2 + j by omega]
        exact List.mem_cons_of_mem _ this
    intro n i j w h
    cases v with
    | long x => exact two _ n i j w rfl h
    | double x => exact two _ n i j w rfl h
    | _ => exact one _ n i j w rfl h
/-- the words that go from method to method -/
def lw_g : List Cond := lw_tbl.filter goodWord
theorem mem_g {w : Cond} (h : w ∈ lw_tbl) (hg : goodWord w = true) : w ∈ lw_g := List.mem_filter.mpr ⟨h, hg⟩
/-! THE JUDGEMENT: from this place of the method's code, with these locals, this stack, this state, the machine comes to its end -/
def Cx (g : Gl) (own : String) (cc : ByteArray) (nL : Nat) (ret : Option FieldType) (p : Program) (s : State) (m : MethodId) (args : Array Value) (meth : Method) (c : Code) : Prop :=
  p.tables.exec = Jvm.exec ∧ c.code = cc ∧ c.maxLocals = nL ∧ meth.sig.returnType = ret ∧ s.vm.findClass own = some m.cls ∧ meth.locks = false ∧ (∀ w ∈ lw_g, w.before args s = true) ∧ Kg g s ∧ gb g ≤ s.heap.size
def Gj (g : Gl) (l : Launch) (R : Room) (XX : State → Method → Prop) (QQ : List Frame → Array Value → State → State → Prop) (own : String) (cc : ByteArray) (nL : Nat) (ret : Option FieldType) (pc : Nat) (L : List (Option Value)) (st : List Value) (S : Sg) (c1 s1 : Nat) : Prop :=
  ∀ (p : Program) (e : Env) (s : State) (m : MethodId) (args : Array Value) (below : List Frame) (meth : Method) (c : Code) (H : Heap) (locs : List Loc) (ls : Array Slot), Cx g own cc nL ret p s m args meth c → XX s meth → Wd g S H → va_S (ourA g) s.heap H locs → lvh g ls nL L → W p l e R s m args below meth c H locs c1 s1 (QQ below args s) (F0 m pc ls (st.map (rv g)))
/-- what a method says at its end -/
def QcZ (g : Gl) (Z : Option Value → Sg → Prop) : Array Value → State → Outcome → State → Prop := fun _ st o t => (∃ (r : Option Value) (S : Sg), o = .returned (r.map (rv g)) ∧ Z r S ∧ Wd g S t.heap) ∧ va_F (ourA g) st t
abbrev QM (g : Gl) (Z : Option Value → Sg → Prop) (mc ms : Nat) : List Frame → Array Value → State → State → Prop := fun below args s => MQ below (QcZ g Z) args s mc ms (ourA g)
abbrev rmd (d mc ms : Nat) : Room := { frames := d, cells := mc, slots := ms, locals := 37 * d }
/-- a method's contract at these arguments and this state -/
def Ct (g : Gl) (l : Launch) (y : MethodName) (cc : ByteArray) (nL : Nat) (ret : Option FieldType) (d mc ms : Nat) (av : List Value) (S : Sg) (Z : Option Value → Sg → Prop) : Prop :=
  Met l y (Cond.code y cc nL ret :: lw_g) (rmd d mc ms) (va_Pc (av.map (rv g)) (fun U => Wd g S U.heap ∧ Kg g U)) (QcZ g Z) mc ms (ourA g)
theorem Ct.of {g : Gl} {l : Launch} {y : MethodName} {own : String} {cc : ByteArray} {nL : Nat} {ret : Option FieldType} {d mc ms : Nat} {av : List Value} {S : Sg} {Z : Option Value → Sg → Prop} {L : List (Option Value)} (ho : y.cls = own) (hy : plainName y.cls = true) (hL : enp av nL = L) (hn : (lg_sl (av.map (rv g))).length ≤ nL)
    (h : Gj g l (rmd d mc ms) (fun _ M => M.name = y.name) (QM g Z mc ms) own cc nL ret 0 L [] S 0 0) : Ct g l y cc nL ret d mc ms av S Z := by
  subst ho
  refine Met.ofW (cc := cc) (maxL := nL) (ret := ret) hy rfl ?_
  intro p e s m args below meth c s₁ B hml hv
  obtain ⟨rfl, hW, hK⟩ := hv
  have hts := atoms_spec (ws := Cond.code y cc nL ret :: lw_g) B.pre
  have hown : s.vm.findClass y.cls = some m.cls := findClass_of_methodNamed B.named
  have hl := lv_entry (av.map (rv g)) (n := nL) hn
  rw [lg_entry_eq]
  refine h p e s m _ below meth c s.heap [] _ ⟨B.exec, B.bytes, hml, B.returns, hown, B.notSynchronized, fun w hw => hts w (List.mem_cons_of_mem _ hw), hK, by rw [hW.1]; exact Nat.le_add_right _ _⟩ (name_of_methodNamed B.named B.method).1 hW va_S.rf ⟨hl.1, hl.2.1, fun j w hj => ?_⟩
  have := enp_in g av nL 0 j w (by rw [hL]; exact hj)
  rw [Nat.zero_add] at this
  exact hl.2.2 _ this
end
section
section RULES
variable {g : Gl} {l : Launch} {R : Room} {XX : State → Method → Prop} {QQ : List Frame → Array Value → State → State → Prop} {own : String} {cc : ByteArray} {nL : Nat} {ret : Option FieldType} {pc : Nat} {L : List (Option Value)} {st : List Value} {S : Sg} {c1 s1 : Nat}
theorem g_iadd {x y : Int32} (n : Nat) (hd : decode cc pc = .ok (.iadd, 1)) (hn : pc + 1 = n) (kk : Gj g l R XX QQ own cc nL ret n L (.int (x + y) :: st) S c1 s1) : Gj g l R XX QQ own cc nL ret pc L (.int y :: .int x :: st) S c1 s1 := by
  subst hn
  intro p e s m args below meth c H locs ls C hX hW hS hl
  exact lv_iadd C.1 C.2.1 hd (kk p e s m args below meth c H locs ls C hX hW hS hl)
theorem g_isub {x y : Int32} (n : Nat) (hd : decode cc pc = .ok (.isub, 1)) (hn : pc + 1 = n) (kk : Gj g l R XX QQ own cc nL ret n L (.int (x - y) :: st) S c1 s1) : Gj g l R XX QQ own cc nL ret pc L (.int y :: .int x :: st) S c1 s1 := by
  subst hn
  intro p e s m args below meth c H locs ls C hX hW hS hl
  exact lv_isub C.1 C.2.1 hd (kk p e s m args below meth c H locs ls C hX hW hS hl)
theorem g_imul {x y : Int32} (n : Nat) (hd : decode cc pc = .ok (.imul, 1)) (hn : pc + 1 = n) (kk : Gj g l R XX QQ own cc nL ret n L (.int (x * y) :: st) S c1 s1) : Gj g l R XX QQ own cc nL ret pc L (.int y :: .int x :: st) S c1 s1 := by
  subst hn
  intro p e s m args below meth c H locs ls C hX hW hS hl
  exact lv_imul C.1 C.2.1 hd (kk p e s m args below meth c H locs ls C hX hW hS hl)
theorem g_iand {x y : Int32} (n : Nat) (hd : decode cc pc = .ok (.iand, 1)) (hn : pc + 1 = n) (kk : Gj g l R XX QQ own cc nL ret n L (.int (x &&& y) :: st) S c1 s1) : Gj g l R XX QQ own cc nL ret pc L (.int y :: .int x :: st) S c1 s1 := by
  subst hn
  intro p e s m args below meth c H locs ls C hX hW hS hl
  exact lv_iand C.1 C.2.1 hd (kk p e s m args below meth c H locs ls C hX hW hS hl)
theorem g_ior {x y : Int32} (n : Nat) (hd : decode cc pc = .ok (.ior, 1)) (hn : pc + 1 = n) (kk : Gj g l R XX QQ own cc nL ret n L (.int (x ||| y) :: st) S c1 s1) : Gj g l R XX QQ own cc nL ret pc L (.int y :: .int x :: st) S c1 s1 := by
  subst hn
  intro p e s m args below meth c H locs ls C hX hW hS hl
  exact lv_ior C.1 C.2.1 hd (kk p e s m args below meth c H locs ls C hX hW hS hl)
theorem g_ixor {x y : Int32} (n : Nat) (hd : decode cc pc = .ok (.ixor, 1)) (hn : pc + 1 = n) (kk : Gj g l R XX QQ own cc nL ret n L (.int (x ^^^ y) :: st) S c1 s1) : Gj g l R XX QQ own cc nL ret pc L (.int y :: .int x :: st) S c1 s1 := by
  subst hn
  intro p e s m args below meth c H locs ls C hX hW hS hl
  exact lv_ixor C.1 C.2.1 hd (kk p e s m args below meth c H locs ls C hX hW hS hl)
theorem g_ishl {x y : Int32} (n : Nat) (hd : decode cc pc = .ok (.ishl, 1)) (hn : pc + 1 = n) (kk : Gj g l R XX QQ own cc nL ret n L (.int (x <<< (y &&& 31)) :: st) S c1 s1) : Gj g l R XX QQ own cc nL ret pc L (.int y :: .int x :: st) S c1 s1 := by
  subst hn
  intro p e s m args below meth c H locs ls C hX hW hS hl
  exact lv_ishl C.1 C.2.1 hd (kk p e s m args below meth c H locs ls C hX hW hS hl)
theorem g_ishr {x y : Int32} (n : Nat) (hd : decode cc pc = .ok (.ishr, 1)) (hn : pc + 1 = n) (kk : Gj g l R XX QQ own cc nL ret n L (.int (x >>> (y &&& 31)) :: st) S c1 s1) : Gj g l R XX QQ own cc nL ret pc L (.int y :: .int x :: st) S c1 s1 := by
  subst hn
  intro p e s m args below meth c H locs ls C hX hW hS hl
  exact lv_ishr C.1 C.2.1 hd (kk p e s m args below meth c H locs ls C hX hW hS hl)
theorem g_ladd {x y : Int64} (n : Nat) (hd : decode cc pc = .ok (.ladd, 1)) (hn : pc + 1 = n) (kk : Gj g l R XX QQ own cc nL ret n L (.long (x + y) :: st) S c1 s1) : Gj g l R XX QQ own cc nL ret pc L (.long y :: .long x :: st) S c1 s1 := by
  subst hn
  intro p e s m args below meth c H locs ls C hX hW hS hl
  exact lv_ladd C.1 C.2.1 hd (kk p e s m args below meth c H locs ls C hX hW hS hl)
theorem g_lsub {x y : Int64} (n : Nat) (hd : decode cc pc = .ok (.lsub, 1)) (hn : pc + 1 = n) (kk : Gj g l R XX QQ own cc nL ret n L (.long (x - y) :: st) S c1 s1) : Gj g l R XX QQ own cc nL ret pc L (.long y :: .long x :: st) S c1 s1 := by
  subst hn
  intro p e s m args below meth c H locs ls C hX hW hS hl
  exact lv_lsub C.1 C.2.1 hd (kk p e s m args below meth c H locs ls C hX hW hS hl)
theorem g_lmul {x y : Int64} (n : Nat) (hd : decode cc pc = .ok (.lmul, 1)) (hn : pc + 1 = n) (kk : Gj g l R XX QQ own cc nL ret n L (.long (x * y) :: st) S c1 s1) : Gj g l R XX QQ own cc nL ret pc L (.long y :: .long x :: st) S c1 s1 := by
  subst hn
  intro p e s m args below meth c H locs ls C hX hW hS hl
  exact lv_lmul C.1 C.2.1 hd (kk p e s m args below meth c H locs ls C hX hW hS hl)
theorem g_land {x y : Int64} (n : Nat) (hd : decode cc pc = .ok (.land, 1)) (hn : pc + 1 = n) (kk : Gj g l R XX QQ own cc nL ret n L (.long (x &&& y) :: st) S c1 s1) : Gj g l R XX QQ own cc nL ret pc L (.long y :: .long x :: st) S c1 s1 := by
  subst hn
  intro p e s m args below meth c H locs ls C hX hW hS hl
  exact lv_land C.1 C.2.1 hd (kk p e s m args below meth c H locs ls C hX hW hS hl)
theorem g_lor {x y : Int64} (n : Nat) (hd : decode cc pc = .ok (.lor, 1)) (hn : pc + 1 = n) (kk : Gj g l R XX QQ own cc nL ret n L (.long (x ||| y) :: st) S c1 s1) : Gj g l R XX QQ own cc nL ret pc L (.long y :: .long x :: st) S c1 s1 := by
  subst hn
  intro p e s m args below meth c H locs ls C hX hW hS hl
  exact lv_lor C.1 C.2.1 hd (kk p e s m args below meth c H locs ls C hX hW hS hl)
theorem g_lxor {x y : Int64} (n : Nat) (hd : decode cc pc = .ok (.lxor, 1)) (hn : pc + 1 = n) (kk : Gj g l R XX QQ own cc nL ret n L (.long (x ^^^ y) :: st) S c1 s1) : Gj g l R XX QQ own cc nL ret pc L (.long y :: .long x :: st) S c1 s1 := by
  subst hn
  intro p e s m args below meth c H locs ls C hX hW hS hl
  exact lv_lxor C.1 C.2.1 hd (kk p e s m args below meth c H locs ls C hX hW hS hl)
theorem g_idiv {x y : Int32} (n : Nat) (hd : decode cc pc = .ok (.idiv, 1)) (hn : pc + 1 = n) (hne : ¬ y = 0) (kk : Gj g l R XX QQ own cc nL ret n L (.int (x / y) :: st) S c1 s1) : Gj g l R XX QQ own cc nL ret pc L (.int y :: .int x :: st) S c1 s1 := by
  subst hn
  intro p e s m args below meth c H locs ls C hX hW hS hl
  exact lv_idiv C.1 C.2.1 hd hne (kk p e s m args below meth c H locs ls C hX hW hS hl)
theorem g_irem {x y : Int32} (n : Nat) (hd : decode cc pc = .ok (.irem, 1)) (hn : pc + 1 = n) (hne : ¬ y = 0) (kk : Gj g l R XX QQ own cc nL ret n L (.int (x - x / y * y) :: st) S c1 s1) : Gj g l R XX QQ own cc nL ret pc L (.int y :: .int x :: st) S c1 s1 := by
  subst hn
  intro p e s m args below meth c H locs ls C hX hW hS hl
  exact lv_irem C.1 C.2.1 hd hne (kk p e s m args below meth c H locs ls C hX hW hS hl)
theorem g_ineg {x : Int32} (n : Nat) (hd : decode cc pc = .ok (.ineg, 1)) (hn : pc + 1 = n) (kk : Gj g l R XX QQ own cc nL ret n L (.int (-x) :: st) S c1 s1) : Gj g l R XX QQ own cc nL ret pc L (.int x :: st) S c1 s1 := by
  subst hn
  intro p e s m args below meth c H locs ls C hX hW hS hl
  exact lv_ineg C.1 C.2.1 hd (kk p e s m args below meth c H locs ls C hX hW hS hl)
theorem g_iushr {x y : Int32} (n : Nat) (hd : decode cc pc = .ok (.iushr, 1)) (hn : pc + 1 = n) (kk : Gj g l R XX QQ own cc nL ret n L (.int (x.toUInt32 >>> (y.toUInt32 &&& Int32.toUInt32 31)).toInt32 :: st) S c1 s1) : Gj g l R XX QQ own cc nL ret pc L (.int y :: .int x :: st) S c1 s1 := by
  subst hn
  intro p e s m args below meth c H locs ls C hX hW hS hl
  exact lv_iushr C.1 C.2.1 hd rfl (kk p e s m args below meth c H locs ls C hX hW hS hl)
theorem g_lushr {x : Int64} {y : Int32} (n : Nat) (hd : decode cc pc = .ok (.lushr, 1)) (hn : pc + 1 = n) (kk : Gj g l R XX QQ own cc nL ret n L (.long (x.toUInt64 >>> (y.toInt64.toUInt64 &&& Int64.toUInt64 63)).toInt64 :: st) S c1 s1) : Gj g l R XX QQ own cc nL ret pc L (.int y :: .long x :: st) S c1 s1 := by
  subst hn
  intro p e s m args below meth c H locs ls C hX hW hS hl
  exact lv_lushr C.1 C.2.1 hd rfl (kk p e s m args below meth c H locs ls C hX hW hS hl)
theorem g_lshl {x : Int64} {y : Int32} (n : Nat) (hd : decode cc pc = .ok (.lshl, 1)) (hn : pc + 1 = n) (kk : Gj g l R XX QQ own cc nL ret n L (.long (x <<< (y.toInt64 &&& 63)) :: st) S c1 s1) : Gj g l R XX QQ own cc nL ret pc L (.int y :: .long x :: st) S c1 s1 := by
  subst hn
  intro p e s m args below meth c H locs ls C hX hW hS hl
  exact lv_lshl C.1 C.2.1 hd rfl (kk p e s m args below meth c H locs ls C hX hW hS hl)
theorem g_lshr {x : Int64} {y : Int32} (n : Nat) (hd : decode cc pc = .ok (.lshr, 1)) (hn : pc + 1 = n) (kk : Gj g l R XX QQ own cc nL ret n L (.long (x >>> (y.toInt64 &&& 63)) :: st) S c1 s1) : Gj g l R XX QQ own cc nL ret pc L (.int y :: .long x :: st) S c1 s1 := by
  subst hn
  intro p e s m args below meth c H locs ls C hX hW hS hl
  exact lv_lshr C.1 C.2.1 hd rfl (kk p e s m args below meth c H locs ls C hX hW hS hl)
theorem g_i2l {x : Int32} (n : Nat) (hd : decode cc pc = .ok (.i2l, 1)) (hn : pc + 1 = n) (kk : Gj g l R XX QQ own cc nL ret n L (.long x.toInt64 :: st) S c1 s1) : Gj g l R XX QQ own cc nL ret pc L (.int x :: st) S c1 s1 := by
  subst hn
  intro p e s m args below meth c H locs ls C hX hW hS hl
  exact lv_i2l C.1 C.2.1 hd rfl (kk p e s m args below meth c H locs ls C hX hW hS hl)
theorem g_l2i {x : Int64} (n : Nat) (hd : decode cc pc = .ok (.l2i, 1)) (hn : pc + 1 = n) (kk : Gj g l R XX QQ own cc nL ret n L (.int x.toInt32 :: st) S c1 s1) : Gj g l R XX QQ own cc nL ret pc L (.long x :: st) S c1 s1 := by
  subst hn
  intro p e s m args below meth c H locs ls C hX hW hS hl
  exact lv_l2i C.1 C.2.1 hd rfl (kk p e s m args below meth c H locs ls C hX hW hS hl)
theorem g_i2b {x : Int32} (n : Nat) (hd : decode cc pc = .ok (.i2b, 1)) (hn : pc + 1 = n) (kk : Gj g l R XX QQ own cc nL ret n L (.int x.toInt8.toInt32 :: st) S c1 s1) : Gj g l R XX QQ own cc nL ret pc L (.int x :: st) S c1 s1 := by
  subst hn
  intro p e s m args below meth c H locs ls C hX hW hS hl
  exact lv_i2b C.1 C.2.1 hd rfl (kk p e s m args below meth c H locs ls C hX hW hS hl)
theorem g_i2c {x : Int32} (n : Nat) (hd : decode cc pc = .ok (.i2c, 1)) (hn : pc + 1 = n) (kk : Gj g l R XX QQ own cc nL ret n L (.int (x.toUInt32 % 65536).toInt32 :: st) S c1 s1) : Gj g l R XX QQ own cc nL ret pc L (.int x :: st) S c1 s1 := by
  subst hn
  intro p e s m args below meth c H locs ls C hX hW hS hl
  exact lv_i2c C.1 C.2.1 hd rfl (kk p e s m args below meth c H locs ls C hX hW hS hl)
theorem g_lcmp {x y : Int64} (n : Nat) (hd : decode cc pc = .ok (.lcmp, 1)) (hn : pc + 1 = n) (kk : Gj g l R XX QQ own cc nL ret n L (.int (lg_cmp x y) :: st) S c1 s1) : Gj g l R XX QQ own cc nL ret pc L (.long y :: .long x :: st) S c1 s1 := by
  subst hn
  intro p e s m args below meth c H locs ls C hX hW hS hl
  exact W.lcmp C.1 C.2.1 hd (kk p e s m args below meth c H locs ls C hX hW hS hl)
theorem g_iconst {i : Int} (v : Int32) (n : Nat) (hd : decode cc pc = .ok (.iconst i, 1)) (hn : pc + 1 = n) (hv : Int32.ofInt i = v) (kk : Gj g l R XX QQ own cc nL ret n L (.int v :: st) S c1 s1) : Gj g l R XX QQ own cc nL ret pc L (st) S c1 s1 := by
  subst hn
  intro p e s m args below meth c H locs ls C hX hW hS hl
  exact lv_iconst C.1 C.2.1 hd hv (kk p e s m args below meth c H locs ls C hX hW hS hl)
theorem g_bipush {i : Int} (v : Int32) (n : Nat) (hd : decode cc pc = .ok (.bipush i, 2)) (hn : pc + 2 = n) (hv : (Int8.ofInt i).toInt32 = v) (kk : Gj g l R XX QQ own cc nL ret n L (.int v :: st) S c1 s1) : Gj g l R XX QQ own cc nL ret pc L (st) S c1 s1 := by
  subst hn
  intro p e s m args below meth c H locs ls C hX hW hS hl
  exact lv_bipush C.1 C.2.1 hd hv (kk p e s m args below meth c H locs ls C hX hW hS hl)
theorem g_sipush {i : Int} (v : Int32) (n : Nat) (hd : decode cc pc = .ok (.sipush i, 3)) (hn : pc + 3 = n) (hv : (Int16.ofInt i).toInt32 = v) (kk : Gj g l R XX QQ own cc nL ret n L (.int v :: st) S c1 s1) : Gj g l R XX QQ own cc nL ret pc L (st) S c1 s1 := by
  subst hn
  intro p e s m args below meth c H locs ls C hX hW hS hl
  exact lv_sipush C.1 C.2.1 hd hv (kk p e s m args below meth c H locs ls C hX hW hS hl)
theorem g_lconst {i : Fin 2} (v : Int64) (n : Nat) (hd : decode cc pc = .ok (.lconst i, 1)) (hn : pc + 1 = n) (hv : Int64.ofNat (i : Nat) = v) (kk : Gj g l R XX QQ own cc nL ret n L (.long v :: st) S c1 s1) : Gj g l R XX QQ own cc nL ret pc L (st) S c1 s1 := by
  subst hn
  intro p e s m args below meth c H locs ls C hX hW hS hl
  exact lv_lconst C.1 C.2.1 hd hv (kk p e s m args below meth c H locs ls C hX hW hS hl)
theorem g_dup {v : Value} (n : Nat) (hd : decode cc pc = .ok (.dup, 1)) (hn : pc + 1 = n) (h1 : v.category = 1) (kk : Gj g l R XX QQ own cc nL ret n L (v :: v :: st) S c1 s1) : Gj g l R XX QQ own cc nL ret pc L (v :: st) S c1 s1 := by
  subst hn
  intro p e s m args below meth c H locs ls C hX hW hS hl
  exact lv_dup C.1 C.2.1 hd (by rw [rv_cat]; exact h1) (kk p e s m args below meth c H locs ls C hX hW hS hl)
theorem g_pop {v : Value} (n : Nat) (hd : decode cc pc = .ok (.pop, 1)) (hn : pc + 1 = n) (h1 : v.category = 1) (kk : Gj g l R XX QQ own cc nL ret n L (st) S c1 s1) : Gj g l R XX QQ own cc nL ret pc L (v :: st) S c1 s1 := by
  subst hn
  intro p e s m args below meth c H locs ls C hX hW hS hl
  exact lv_pop C.1 C.2.1 hd (by rw [rv_cat]; exact h1) (kk p e s m args below meth c H locs ls C hX hW hS hl)
theorem g_dup_x1 {v w : Value} (n : Nat) (hd : decode cc pc = .ok (.dup_x1, 1)) (hn : pc + 1 = n) (h1 : v.category = 1) (h2 : w.category = 1) (kk : Gj g l R XX QQ own cc nL ret n L (v :: w :: v :: st) S c1 s1) : Gj g l R XX QQ own cc nL ret pc L (v :: w :: st) S c1 s1 := by
  subst hn
  intro p e s m args below meth c H locs ls C hX hW hS hl
  exact lv_dup_x1 C.1 C.2.1 hd (by rw [rv_cat]; exact h1) (by rw [rv_cat]; exact h2) (kk p e s m args below meth c H locs ls C hX hW hS hl)
theorem g_dup_x2 {v w u : Value} (n : Nat) (hd : decode cc pc = .ok (.dup_x2, 1)) (hn : pc + 1 = n) (h1 : v.category = 1) (h2 : w.category = 1) (h3 : u.category = 1) (kk : Gj g l R XX QQ own cc nL ret n L (v :: w :: u :: v :: st) S c1 s1) : Gj g l R XX QQ own cc nL ret pc L (v :: w :: u :: st) S c1 s1 := by
  subst hn
  intro p e s m args below meth c H locs ls C hX hW hS hl
  exact lv_dup_x2 C.1 C.2.1 hd (by rw [rv_cat]; exact h1) (by rw [rv_cat]; exact h2) (by rw [rv_cat]; exact h3) (kk p e s m args below meth c H locs ls C hX hW hS hl)
theorem g_dup2 {v w : Value} (n : Nat) (hd : decode cc pc = .ok (.dup2, 1)) (hn : pc + 1 = n) (h1 : v.category = 1) (h2 : w.category = 1) (kk : Gj g l R XX QQ own cc nL ret n L (v :: w :: v :: w :: st) S c1 s1) : Gj g l R XX QQ own cc nL ret pc L (v :: w :: st) S c1 s1 := by
  subst hn
  intro p e s m args below meth c H locs ls C hX hW hS hl
  exact lv_dup2_11 C.1 C.2.1 hd (by rw [rv_cat]; exact h1) (by rw [rv_cat]; exact h2) (kk p e s m args below meth c H locs ls C hX hW hS hl)
theorem g_ldc {idx : Nat} {v : Int32} (n : Nat) (hd : decode cc pc = .ok (.ldc idx, 2)) (hn : pc + 2 = n) (hc : Cond.constant own idx v ∈ lw_tbl) (kk : Gj g l R XX QQ own cc nL ret n L (.int v :: st) S c1 s1) : Gj g l R XX QQ own cc nL ret pc L st S c1 s1 := by
  subst hn
  intro p e s m args below meth c H locs ls C hX hW hS hl
  exact lv_ldc C.1 C.2.1 C.2.2.2.2.1 (C.2.2.2.2.2.2.1 _ (mem_g hc rfl)) hd (kk p e s m args below meth c H locs ls C hX hW hS hl)
theorem g_ldcw {idx : Nat} {v : Int32} (n : Nat) (hd : decode cc pc = .ok (.ldc_w idx, 3)) (hn : pc + 3 = n) (hc : Cond.constant own idx v ∈ lw_tbl) (kk : Gj g l R XX QQ own cc nL ret n L (.int v :: st) S c1 s1) : Gj g l R XX QQ own cc nL ret pc L st S c1 s1 := by
  subst hn
  intro p e s m args below meth c H locs ls C hX hW hS hl
  exact lv_ldcw C.1 C.2.1 C.2.2.2.2.1 (C.2.2.2.2.2.2.1 _ (mem_g hc rfl)) hd (kk p e s m args below meth c H locs ls C hX hW hS hl)
theorem g_ldc2 {idx : Nat} {v : Int64} (n : Nat) (hd : decode cc pc = .ok (.ldc2_w idx, 3)) (hn : pc + 3 = n) (hc : Cond.constantLong own idx v ∈ lw_tbl) (kk : Gj g l R XX QQ own cc nL ret n L (.long v :: st) S c1 s1) : Gj g l R XX QQ own cc nL ret pc L st S c1 s1 := by
  subst hn
  intro p e s m args below meth c H locs ls C hX hW hS hl
  exact lv_ldc2 C.1 C.2.1 C.2.2.2.2.1 (C.2.2.2.2.2.2.1 _ (mem_g hc rfl)) hd (kk p e s m args below meth c H locs ls C hX hW hS hl)
theorem g_iload_n {k : Fin 4} {x : Int32} (n : Nat) (hd : decode cc pc = .ok (.iload_n k, 1)) (hn : pc + 1 = n) (hg : lg L (k : Nat) = some (.int x)) (kk : Gj g l R XX QQ own cc nL ret n L (.int x :: st) S c1 s1) : Gj g l R XX QQ own cc nL ret pc L st S c1 s1 := by
  subst hn
  intro p e s m args below meth c H locs ls C hX hW hS hl
  exact lv_iload_n C.1 C.2.1 hd rfl (hl.2.2 _ _ hg) (kk p e s m args below meth c H locs ls C hX hW hS hl)
theorem g_iload {k : Nat} {x : Int32} (n : Nat) (hd : decode cc pc = .ok (.iload k, 2)) (hn : pc + 2 = n) (hg : lg L k = some (.int x)) (kk : Gj g l R XX QQ own cc nL ret n L (.int x :: st) S c1 s1) : Gj g l R XX QQ own cc nL ret pc L st S c1 s1 := by
  subst hn
  intro p e s m args below meth c H locs ls C hX hW hS hl
  exact lv_iload C.1 C.2.1 hd (hl.2.2 _ _ hg) (kk p e s m args below meth c H locs ls C hX hW hS hl)
theorem g_lload_n {k : Fin 4} {x : Int64} (n : Nat) (hd : decode cc pc = .ok (.lload_n k, 1)) (hn : pc + 1 = n) (hg : lg L (k : Nat) = some (.long x)) (kk : Gj g l R XX QQ own cc nL ret n L (.long x :: st) S c1 s1) : Gj g l R XX QQ own cc nL ret pc L st S c1 s1 := by
  subst hn
  intro p e s m args below meth c H locs ls C hX hW hS hl
  exact lv_lload_n C.1 C.2.1 hd rfl (hl.2.2 _ _ hg) (kk p e s m args below meth c H locs ls C hX hW hS hl)
theorem g_lload {k : Nat} {x : Int64} (n : Nat) (hd : decode cc pc = .ok (.lload k, 2)) (hn : pc + 2 = n) (hg : lg L k = some (.long x)) (kk : Gj g l R XX QQ own cc nL ret n L (.long x :: st) S c1 s1) : Gj g l R XX QQ own cc nL ret pc L st S c1 s1 := by
  subst hn
  intro p e s m args below meth c H locs ls C hX hW hS hl
  exact lv_lload C.1 C.2.1 hd (hl.2.2 _ _ hg) (kk p e s m args below meth c H locs ls C hX hW hS hl)
theorem g_aload_n {k : Fin 4} {x : Nat} (n : Nat) (hd : decode cc pc = .ok (.aload_n k, 1)) (hn : pc + 1 = n) (hg : lg L (k : Nat) = some (.ref x)) (kk : Gj g l R XX QQ own cc nL ret n L (.ref x :: st) S c1 s1) : Gj g l R XX QQ own cc nL ret pc L st S c1 s1 := by
  subst hn
  intro p e s m args below meth c H locs ls C hX hW hS hl
  exact lv_aload_n C.1 C.2.1 hd rfl (hl.2.2 _ _ hg) (kk p e s m args below meth c H locs ls C hX hW hS hl)
theorem g_aload {k : Nat} {x : Nat} (n : Nat) (hd : decode cc pc = .ok (.aload k, 2)) (hn : pc + 2 = n) (hg : lg L k = some (.ref x)) (kk : Gj g l R XX QQ own cc nL ret n L (.ref x :: st) S c1 s1) : Gj g l R XX QQ own cc nL ret pc L st S c1 s1 := by
  subst hn
  intro p e s m args below meth c H locs ls C hX hW hS hl
  exact lv_aload C.1 C.2.1 hd (hl.2.2 _ _ hg) (kk p e s m args below meth c H locs ls C hX hW hS hl)
theorem g_istore_n {k : Fin 4} {x : Int32} (n : Nat) (hd : decode cc pc = .ok (.istore_n k, 1)) (hn : pc + 1 = n) (hb : (k : Nat) < nL) (kk : Gj g l R XX QQ own cc nL ret n (ls1 L k (.int x)) st S c1 s1) : Gj g l R XX QQ own cc nL ret pc L (.int x :: st) S c1 s1 := by
  subst hn
  intro p e s m args below meth c H locs ls C hX hW hS hl
  exact lv_istore_n C.1 C.2.1 hd rfl hl.has hb rfl (fun ls2 h2 => kk p e s m args below meth c H locs ls2 C hX hW hS (lvh.st1 h2))
theorem g_istore {k : Nat} {x : Int32} (n : Nat) (hd : decode cc pc = .ok (.istore k, 2)) (hn : pc + 2 = n) (hb : k < nL) (kk : Gj g l R XX QQ own cc nL ret n (ls1 L k (.int x)) st S c1 s1) : Gj g l R XX QQ own cc nL ret pc L (.int x :: st) S c1 s1 := by
  subst hn
  intro p e s m args below meth c H locs ls C hX hW hS hl
  exact lv_istore C.1 C.2.1 hd hl.has hb rfl (fun ls2 h2 => kk p e s m args below meth c H locs ls2 C hX hW hS (lvh.st1 h2))
theorem g_lstore_n {k : Fin 4} {x : Int64} (n : Nat) (hd : decode cc pc = .ok (.lstore_n k, 1)) (hn : pc + 1 = n) (hb : (k : Nat) + 1 < nL) (kk : Gj g l R XX QQ own cc nL ret n (ls2 L k (.long x)) st S c1 s1) : Gj g l R XX QQ own cc nL ret pc L (.long x :: st) S c1 s1 := by
  subst hn
  intro p e s m args below meth c H locs ls C hX hW hS hl
  exact lv_lstore_n C.1 C.2.1 hd rfl hl.has hb rfl (fun ls2 h2 => kk p e s m args below meth c H locs ls2 C hX hW hS (lvh.st2 h2))
theorem g_lstore {k : Nat} {x : Int64} (n : Nat) (hd : decode cc pc = .ok (.lstore k, 2)) (hn : pc + 2 = n) (hb : k + 1 < nL) (kk : Gj g l R XX QQ own cc nL ret n (ls2 L k (.long x)) st S c1 s1) : Gj g l R XX QQ own cc nL ret pc L (.long x :: st) S c1 s1 := by
  subst hn
  intro p e s m args below meth c H locs ls C hX hW hS hl
  exact lv_lstore C.1 C.2.1 hd hl.has hb rfl (fun ls2 h2 => kk p e s m args below meth c H locs ls2 C hX hW hS (lvh.st2 h2))
theorem g_astore_n {k : Fin 4} {x : Nat} (n : Nat) (hd : decode cc pc = .ok (.astore_n k, 1)) (hn : pc + 1 = n) (hb : (k : Nat) < nL) (kk : Gj g l R XX QQ own cc nL ret n (ls1 L k (.ref x)) st S c1 s1) : Gj g l R XX QQ own cc nL ret pc L (.ref x :: st) S c1 s1 := by
  subst hn
  intro p e s m args below meth c H locs ls C hX hW hS hl
  exact lv_astore_n C.1 C.2.1 hd rfl hl.has hb rfl (fun ls2 h2 => kk p e s m args below meth c H locs ls2 C hX hW hS (lvh.st1 h2))
theorem g_astore {k : Nat} {x : Nat} (n : Nat) (hd : decode cc pc = .ok (.astore k, 2)) (hn : pc + 2 = n) (hb : k < nL) (kk : Gj g l R XX QQ own cc nL ret n (ls1 L k (.ref x)) st S c1 s1) : Gj g l R XX QQ own cc nL ret pc L (.ref x :: st) S c1 s1 := by
  subst hn
  intro p e s m args below meth c H locs ls C hX hW hS hl
  exact lv_astore C.1 C.2.1 hd hl.has hb rfl (fun ls2 h2 => kk p e s m args below meth c H locs ls2 C hX hW hS (lvh.st1 h2))
theorem g_iinc {k : Nat} {i : Int} {x : Int32} (v : Int32) (n : Nat) (hd : decode cc pc = .ok (.iinc k i, 3)) (hn : pc + 3 = n) (hv : Int32.ofInt i = v) (hb : k < nL) (hg : lg L k = some (.int x)) (kk : Gj g l R XX QQ own cc nL ret n (ls1 L k (.int (x + v))) st S c1 s1) : Gj g l R XX QQ own cc nL ret pc L st S c1 s1 := by
  subst hn
  subst hv
  intro p e s m args below meth c H locs ls C hX hW hS hl
  obtain ⟨q, hq⟩ := List.getElem?_of_mem (prs_in (g := g) hg)
  exact lv_iinc C.1 C.2.1 hd hl.has hq rfl hb rfl (fun ls2 h2 => kk p e s m args below meth c H locs ls2 C hX hW hS (lvh.st1 h2))
theorem g_if_eq {x : Int32} {off : Int} (tgt n : Nat) (hd : decode cc pc = .ok (.ifCond .eq off, 3)) (hn : pc + 3 = n) (ht : (pc : Int) + off = (tgt : Int)) (kt : x = 0 → Gj g l R XX QQ own cc nL ret tgt L st S c1 s1) (kf : ¬ x = 0 → Gj g l R XX QQ own cc nL ret n L st S c1 s1) : Gj g l R XX QQ own cc nL ret pc L (.int x :: st) S c1 s1 := by
  subst hn
  intro p e s m args below meth c H locs ls C hX hW hS hl
  exact lv_if_eq C.1 C.2.1 hd ht (fun h => kt h p e s m args below meth c H locs ls C hX hW hS hl) (fun h => kf h p e s m args below meth c H locs ls C hX hW hS hl)
theorem g_if_ne {x : Int32} {off : Int} (tgt n : Nat) (hd : decode cc pc = .ok (.ifCond .ne off, 3)) (hn : pc + 3 = n) (ht : (pc : Int) + off = (tgt : Int)) (kt : ¬ x = 0 → Gj g l R XX QQ own cc nL ret tgt L st S c1 s1) (kf : x = 0 → Gj g l R XX QQ own cc nL ret n L st S c1 s1) : Gj g l R XX QQ own cc nL ret pc L (.int x :: st) S c1 s1 := by
  subst hn
  intro p e s m args below meth c H locs ls C hX hW hS hl
  exact lv_if_ne C.1 C.2.1 hd ht (fun h => kt h p e s m args below meth c H locs ls C hX hW hS hl) (fun h => kf h p e s m args below meth c H locs ls C hX hW hS hl)
theorem g_if_lt {x : Int32} {off : Int} (tgt n : Nat) (hd : decode cc pc = .ok (.ifCond .lt off, 3)) (hn : pc + 3 = n) (ht : (pc : Int) + off = (tgt : Int)) (kt : x < 0 → Gj g l R XX QQ own cc nL ret tgt L st S c1 s1) (kf : ¬ x < 0 → Gj g l R XX QQ own cc nL ret n L st S c1 s1) : Gj g l R XX QQ own cc nL ret pc L (.int x :: st) S c1 s1 := by
  subst hn
  intro p e s m args below meth c H locs ls C hX hW hS hl
  exact lv_if_lt C.1 C.2.1 hd ht (fun h => kt h p e s m args below meth c H locs ls C hX hW hS hl) (fun h => kf h p e s m args below meth c H locs ls C hX hW hS hl)
theorem g_if_ge {x : Int32} {off : Int} (tgt n : Nat) (hd : decode cc pc = .ok (.ifCond .ge off, 3)) (hn : pc + 3 = n) (ht : (pc : Int) + off = (tgt : Int)) (kt : 0 ≤ x → Gj g l R XX QQ own cc nL ret tgt L st S c1 s1) (kf : ¬ 0 ≤ x → Gj g l R XX QQ own cc nL ret n L st S c1 s1) : Gj g l R XX QQ own cc nL ret pc L (.int x :: st) S c1 s1 := by
  subst hn
  intro p e s m args below meth c H locs ls C hX hW hS hl
  exact lv_if_ge C.1 C.2.1 hd ht (fun h => kt h p e s m args below meth c H locs ls C hX hW hS hl) (fun h => kf h p e s m args below meth c H locs ls C hX hW hS hl)
theorem g_if_gt {x : Int32} {off : Int} (tgt n : Nat) (hd : decode cc pc = .ok (.ifCond .gt off, 3)) (hn : pc + 3 = n) (ht : (pc : Int) + off = (tgt : Int)) (kt : 0 < x → Gj g l R XX QQ own cc nL ret tgt L st S c1 s1) (kf : ¬ 0 < x → Gj g l R XX QQ own cc nL ret n L st S c1 s1) : Gj g l R XX QQ own cc nL ret pc L (.int x :: st) S c1 s1 := by
  subst hn
  intro p e s m args below meth c H locs ls C hX hW hS hl
  exact lv_if_gt C.1 C.2.1 hd ht (fun h => kt h p e s m args below meth c H locs ls C hX hW hS hl) (fun h => kf h p e s m args below meth c H locs ls C hX hW hS hl)
theorem g_if_le {x : Int32} {off : Int} (tgt n : Nat) (hd : decode cc pc = .ok (.ifCond .le off, 3)) (hn : pc + 3 = n) (ht : (pc : Int) + off = (tgt : Int)) (kt : x ≤ 0 → Gj g l R XX QQ own cc nL ret tgt L st S c1 s1) (kf : ¬ x ≤ 0 → Gj g l R XX QQ own cc nL ret n L st S c1 s1) : Gj g l R XX QQ own cc nL ret pc L (.int x :: st) S c1 s1 := by
  subst hn
  intro p e s m args below meth c H locs ls C hX hW hS hl
  exact lv_if_le C.1 C.2.1 hd ht (fun h => kt h p e s m args below meth c H locs ls C hX hW hS hl) (fun h => kf h p e s m args below meth c H locs ls C hX hW hS hl)
theorem g_icmp_eq {x y : Int32} {off : Int} (tgt n : Nat) (hd : decode cc pc = .ok (.if_icmp .eq off, 3)) (hn : pc + 3 = n) (ht : (pc : Int) + off = (tgt : Int)) (kt : x = y → Gj g l R XX QQ own cc nL ret tgt L st S c1 s1) (kf : ¬ x = y → Gj g l R XX QQ own cc nL ret n L st S c1 s1) : Gj g l R XX QQ own cc nL ret pc L (.int y :: .int x :: st) S c1 s1 := by
  subst hn
  intro p e s m args below meth c H locs ls C hX hW hS hl
  exact lv_icmp_eq C.1 C.2.1 hd ht (fun h => kt h p e s m args below meth c H locs ls C hX hW hS hl) (fun h => kf h p e s m args below meth c H locs ls C hX hW hS hl)
theorem g_icmp_ne {x y : Int32} {off : Int} (tgt n : Nat) (hd : decode cc pc = .ok (.if_icmp .ne off, 3)) (hn : pc + 3 = n) (ht : (pc : Int) + off = (tgt : Int)) (kt : ¬ x = y → Gj g l R XX QQ own cc nL ret tgt L st S c1 s1) (kf : x = y → Gj g l R XX QQ own cc nL ret n L st S c1 s1) : Gj g l R XX QQ own cc nL ret pc L (.int y :: .int x :: st) S c1 s1 := by
  subst hn
  intro p e s m args below meth c H locs ls C hX hW hS hl
  exact lv_icmp_ne C.1 C.2.1 hd ht (fun h => kt h p e s m args below meth c H locs ls C hX hW hS hl) (fun h => kf h p e s m args below meth c H locs ls C hX hW hS hl)
theorem g_icmp_lt {x y : Int32} {off : Int} (tgt n : Nat) (hd : decode cc pc = .ok (.if_icmp .lt off, 3)) (hn : pc + 3 = n) (ht : (pc : Int) + off = (tgt : Int)) (kt : x < y → Gj g l R XX QQ own cc nL ret tgt L st S c1 s1) (kf : ¬ x < y → Gj g l R XX QQ own cc nL ret n L st S c1 s1) : Gj g l R XX QQ own cc nL ret pc L (.int y :: .int x :: st) S c1 s1 := by
  subst hn
  intro p e s m args below meth c H locs ls C hX hW hS hl
  exact lv_icmp_lt C.1 C.2.1 hd ht (fun h => kt h p e s m args below meth c H locs ls C hX hW hS hl) (fun h => kf h p e s m args below meth c H locs ls C hX hW hS hl)
theorem g_icmp_ge {x y : Int32} {off : Int} (tgt n : Nat) (hd : decode cc pc = .ok (.if_icmp .ge off, 3)) (hn : pc + 3 = n) (ht : (pc : Int) + off = (tgt : Int)) (kt : y ≤ x → Gj g l R XX QQ own cc nL ret tgt L st S c1 s1) (kf : ¬ y ≤ x → Gj g l R XX QQ own cc nL ret n L st S c1 s1) : Gj g l R XX QQ own cc nL ret pc L (.int y :: .int x :: st) S c1 s1 := by
  subst hn
  intro p e s m args below meth c H locs ls C hX hW hS hl
  exact lv_icmp_ge C.1 C.2.1 hd ht (fun h => kt h p e s m args below meth c H locs ls C hX hW hS hl) (fun h => kf h p e s m args below meth c H locs ls C hX hW hS hl)
theorem g_icmp_gt {x y : Int32} {off : Int} (tgt n : Nat) (hd : decode cc pc = .ok (.if_icmp .gt off, 3)) (hn : pc + 3 = n) (ht : (pc : Int) + off = (tgt : Int)) (kt : y < x → Gj g l R XX QQ own cc nL ret tgt L st S c1 s1) (kf : ¬ y < x → Gj g l R XX QQ own cc nL ret n L st S c1 s1) : Gj g l R XX QQ own cc nL ret pc L (.int y :: .int x :: st) S c1 s1 := by
  subst hn
  intro p e s m args below meth c H locs ls C hX hW hS hl
  exact lv_icmp_gt C.1 C.2.1 hd ht (fun h => kt h p e s m args below meth c H locs ls C hX hW hS hl) (fun h => kf h p e s m args below meth c H locs ls C hX hW hS hl)
theorem g_icmp_le {x y : Int32} {off : Int} (tgt n : Nat) (hd : decode cc pc = .ok (.if_icmp .le off, 3)) (hn : pc + 3 = n) (ht : (pc : Int) + off = (tgt : Int)) (kt : x ≤ y → Gj g l R XX QQ own cc nL ret tgt L st S c1 s1) (kf : ¬ x ≤ y → Gj g l R XX QQ own cc nL ret n L st S c1 s1) : Gj g l R XX QQ own cc nL ret pc L (.int y :: .int x :: st) S c1 s1 := by
  subst hn
  intro p e s m args below meth c H locs ls C hX hW hS hl
  exact lv_icmp_le C.1 C.2.1 hd ht (fun h => kt h p e s m args below meth c H locs ls C hX hW hS hl) (fun h => kf h p e s m args below meth c H locs ls C hX hW hS hl)
theorem g_goto {off : Int} (tgt : Nat) (hd : decode cc pc = .ok (.goto off, 3)) (ht : (pc : Int) + off = (tgt : Int)) (kk : Gj g l R XX QQ own cc nL ret tgt L st S c1 s1) : Gj g l R XX QQ own cc nL ret pc L st S c1 s1 := by
  intro p e s m args below meth c H locs ls C hX hW hS hl
  exact lv_goto C.1 C.2.1 hd ht (kk p e s m args below meth c H locs ls C hX hW hS hl)
theorem g_tsIn {dflt lo hi : Int} {offs : Array Int} {len : Nat} {x : Int32} {off : Int} (tgt : Nat) (hd : decode cc pc = .ok (.tableswitch dflt lo hi offs, len)) (h1 : ¬ x.toInt < lo) (h2 : ¬ hi < x.toInt) (ho : offs[(x.toInt - lo).toNat]? = some off) (ht : (pc : Int) + off = (tgt : Int)) (kk : Gj g l R XX QQ own cc nL ret tgt L st S c1 s1) : Gj g l R XX QQ own cc nL ret pc L (.int x :: st) S c1 s1 := by
  intro p e s m args below meth c H locs ls C hX hW hS hl
  exact lv_tableIn C.1 C.2.1 hd h1 h2 ho ht (kk p e s m args below meth c H locs ls C hX hW hS hl)
theorem g_tsOut {dflt lo hi : Int} {offs : Array Int} {len : Nat} {x : Int32} (tgt : Nat) (hd : decode cc pc = .ok (.tableswitch dflt lo hi offs, len)) (h : x.toInt < lo ∨ hi < x.toInt) (ht : (pc : Int) + dflt = (tgt : Int)) (kk : Gj g l R XX QQ own cc nL ret tgt L st S c1 s1) : Gj g l R XX QQ own cc nL ret pc L (.int x :: st) S c1 s1 := by
  intro p e s m args below meth c H locs ls C hX hW hS hl
  exact lv_tableOut C.1 C.2.1 hd h ht (kk p e s m args below meth c H locs ls C hX hW hS hl)
theorem g_lookup {dflt : Int} {ps : Array (Int × Int)} {len : Nat} {x : Int32} {off : Int} (tgt : Nat) (hd : decode cc pc = .ok (.lookupswitch dflt ps, len)) (hp : (ps.toList.zip (ps.toList.drop 1)).all (fun (a, next) => a.1 < next.1) = true) (ho : Op.lookupswitch.offset ps.toList dflt x.toInt = off) (ht : (pc : Int) + off = (tgt : Int)) (kk : Gj g l R XX QQ own cc nL ret tgt L st S c1 s1) : Gj g l R XX QQ own cc nL ret pc L (.int x :: st) S c1 s1 := by
  intro p e s m args below meth c H locs ls C hX hW hS hl
  exact lv_lookup C.1 C.2.1 hd hp ho ht (kk p e s m args below meth c H locs ls C hX hW hS hl)
theorem lc_eq {x y : Int64} : lg_cmp x y = 0 ↔ x = y := by
  unfold lg_cmp
  by_cases h : x > y
  · rw [if_pos h]
    constructor
    · intro z; exact absurd z (by decide)
    · intro z; subst z; exact absurd h (Int64.lt_irrefl)
  · rw [if_neg h]
    by_cases e : x = y
    · rw [if_pos e]; exact ⟨fun _ => e, fun _ => rfl⟩
    · rw [if_neg e]
      constructor
      · intro z; exact absurd z (by decide)
      · intro z; exact absurd z e
theorem g_lc_eq {x y : Int64} {off : Int} (tgt n : Nat) (hd1 : decode cc pc = .ok (.lcmp, 1)) (hd : decode cc (pc + 1) = .ok (.ifCond .eq off, 3)) (hn : pc + 4 = n) (ht : ((pc + 1 : Nat) : Int) + off = (tgt : Int)) (kt : x = y → Gj g l R XX QQ own cc nL ret tgt L st S c1 s1) (kf : ¬ x = y → Gj g l R XX QQ own cc nL ret n L st S c1 s1) : Gj g l R XX QQ own cc nL ret pc L (.long y :: .long x :: st) S c1 s1 := by
  refine g_lcmp (pc + 1) hd1 rfl ?_
  exact g_if_eq tgt n hd (by omega) ht (fun h => kt (lc_eq.mp h)) (fun h => kf (fun z => h (lc_eq.mpr z)))
theorem g_lc_ne {x y : Int64} {off : Int} (tgt n : Nat) (hd1 : decode cc pc = .ok (.lcmp, 1)) (hd : decode cc (pc + 1) = .ok (.ifCond .ne off, 3)) (hn : pc + 4 = n) (ht : ((pc + 1 : Nat) : Int) + off = (tgt : Int)) (kt : ¬ x = y → Gj g l R XX QQ own cc nL ret tgt L st S c1 s1) (kf : x = y → Gj g l R XX QQ own cc nL ret n L st S c1 s1) : Gj g l R XX QQ own cc nL ret pc L (.long y :: .long x :: st) S c1 s1 := by
  refine g_lcmp (pc + 1) hd1 rfl ?_
  exact g_if_ne tgt n hd (by omega) ht (fun h => kt (fun z => h (lc_eq.mpr z))) (fun h => kf (lc_eq.mp h))
end RULES
section RETS
variable {g : Gl} {l : Launch} {R : Room} {XX : State → Method → Prop} {own : String} {cc : ByteArray} {nL : Nat} {pc : Nat} {L : List (Option Value)} {S : Sg} {c1 s1 : Nat} {Z : Option Value → Sg → Prop}
theorem g_iret {x : Int32} (hd : decode cc pc = .ok (.ireturn, 1)) (hz : Z (some (.int x)) S) : Gj g l R XX (QM g Z c1 s1) own cc nL (some .int) pc L ([.int x]) S c1 s1 := by
  intro p e s m args below meth c H locs ls C hX hW hS hl
  exact W.iret C.1 C.2.1 C.2.2.2.1 (fun t ht hw => ⟨⟨some (.int x), S, rfl, hz, by rw [ht]; exact hW⟩, hS.F ht⟩) hS.2.2 hd C.2.2.2.2.2.1
theorem g_zret {x : Int32} {ty : FieldType} (hd : decode cc pc = .ok (.ireturn, 1)) (hn : narrow ty (.int x) = .int x) (hz : Z (some (.int x)) S) : Gj g l R XX (QM g Z c1 s1) own cc nL (some ty) pc L [.int x] S c1 s1 := by
  intro p e s m args below meth c H locs ls C hX hW hS hl
  exact W.zret C.1 C.2.1 C.2.2.2.1 hn (fun t ht hw => ⟨⟨some (.int x), S, rfl, hz, by rw [ht]; exact hW⟩, hS.F ht⟩) hS.2.2 hd C.2.2.2.2.2.1
theorem g_lret {x : Int64} (hd : decode cc pc = .ok (.lreturn, 1)) (hz : Z (some (.long x)) S) : Gj g l R XX (QM g Z c1 s1) own cc nL (some .long) pc L ([.long x]) S c1 s1 := by
  intro p e s m args below meth c H locs ls C hX hW hS hl
  exact W.lret C.1 C.2.1 C.2.2.2.1 (fun t ht hw => ⟨⟨some (.long x), S, rfl, hz, by rw [ht]; exact hW⟩, hS.F ht⟩) hS.2.2 hd C.2.2.2.2.2.1
theorem g_vret  (hd : decode cc pc = .ok (.return_, 1)) (hz : Z (none) S) : Gj g l R XX (QM g Z c1 s1) own cc nL (none) pc L ([]) S c1 s1 := by
  intro p e s m args below meth c H locs ls C hX hW hS hl
  exact W.vret C.1 C.2.1 C.2.2.2.1 (fun t ht hw => ⟨⟨none, S, rfl, hz, by rw [ht]; exact hW⟩, hS.F ht⟩) hS.2.2 hd C.2.2.2.2.2.1
theorem g_aret {k : Nat} {C0 : String} (hd : decode cc pc = .ok (.areturn, 1)) (hz : Z (some (.ref k)) S) : Gj g l R XX (QM g Z c1 s1) own cc nL (some (.object C0)) pc L [.ref k] S c1 s1 := by
  intro p e s m args below meth c H locs ls C hX hW hS hl
  exact W.aret C.1 C.2.1 C.2.2.2.1 (Or.inl ⟨_, rfl⟩) (Or.inr ⟨_, rfl⟩) (fun t ht hw => ⟨⟨some (.ref k), S, rfl, hz, by rw [ht]; exact hW⟩, hS.F ht⟩) hS.2.2 hd C.2.2.2.2.2.1
theorem nz_b {x : Int32} (h : x = 0 ∨ x = 1) : narrow .boolean (.int x) = .int x := by rcases h with rfl | rfl <;> decide
end RETS
end
section
def R0 (k j : Nat) : Option Nat :=
  if sh k = 2 then some (k + 1) else if sh k = 4 then some (k + 1)
  else if k = 0 then (if j = 0 then some 1 else if j = 1 then some 3 else if j = 2 then some 98 else if j = 3 then some 99 else if j = 4 then some 100 else if j = 5 then some 165 else some 166)
  else if k = 1 then some 2 else if k = 3 then some (4 + j) else if k = 4 then some (10 + 2 * j) else if k = 5 then some (26 + 3 * j) else if k = 6 then some (7 + j) else if k = 100 then some (101 + 2 * j)
  else (if j = 1 then some 168 else if j = 8 then some 169 else if j = 14 then some 170 else if j = 15 then some 171 else if j = 18 then some 172 else some 173)
def up2 (F : Nat → Nat → Int32) (k j : Nat) (x : Int32) : Nat → Nat → Int32 := fun q => if q = k then upd (F k) j x else F q
theorem up2_same (F : Nat → Nat → Int32) (k j : Nat) (x : Int32) : up2 F k j x k = upd (F k) j x := by simp [up2]
theorem up2_ne (F : Nat → Nat → Int32) {k q : Nat} (j : Nat) (x : Int32) (h : q ≠ k) : up2 F k j x q = F q := by simp [up2, h]
/-- the states between the constructors and the end -/
abbrev St (F : Nat → Nat → Int32) (J : Nat → Int64) : Sg := (174, F, J, R0)
set_option maxRecDepth 20000 in
theorem iw0 : ∀ w ∈ u_ws RX0 TX0 4, w ∈ lw_g := by decide +kernel
set_option maxRecDepth 20000 in
theorem iw1 : ∀ w ∈ u_ws RX1 TX1 3, w ∈ lw_g := by decide +kernel
set_option maxRecDepth 20000 in
theorem iw2 : ∀ w ∈ u_ws RX2 TX2 2, w ∈ lw_g := by decide +kernel
set_option maxRecDepth 20000 in
theorem iw3 : ∀ w ∈ u_ws RX3 TX3 3, w ∈ lw_g := by decide +kernel
set_option maxRecDepth 20000 in
theorem iw4 : ∀ w ∈ u_ws RX4 TX4 4, w ∈ lw_g := by decide +kernel
set_option maxRecDepth 20000 in
theorem iw5 : ∀ w ∈ u_ws RX5 TX5 2, w ∈ lw_g := by decide +kernel
set_option maxRecDepth 20000 in
theorem iw6 : ∀ w ∈ u_ws RX6 TX6 5, w ∈ lw_g := by decide +kernel
set_option maxRecDepth 20000 in
theorem iw7 : ∀ w ∈ u_ws RX7 TX7 12, w ∈ lw_g := by decide +kernel
set_option maxRecDepth 20000 in
theorem iw8 : ∀ w ∈ u_ws RX8 TX8 20, w ∈ lw_g := by decide +kernel
theorem sh_11 : ∀ q, q < 174 → sh q = 11 → q = 165 := by decide +kernel
section HEAP
variable {g : Gl} {l : Launch} {R : Room} {XX : State → Method → Prop} {QQ : List Frame → Array Value → State → State → Prop} {own : String} {cc : ByteArray} {nL : Nat} {ret : Option FieldType} {pc : Nat} {L : List (Option Value)} {st : List Value} {S S2 : Sg} {c1 s1 : Nat}
theorem rv_own {g : Gl} {k : Nat} (h : k < 1000) : rv g (.ref k) = .ref (gb g + k) := by simp [rv, rel, h]
theorem wd_one {H : Heap} {k : Nat} {e : va_E} (hW : Wd g S H) (hk : k < S.1) (hE : wE g S k = e) : va_P (gD g) vwCl [(gb g + k, e)] H := by
  intro q x hx
  match q, hx with
  | 0, hx => cases hx; rw [← hE]; exact hW.2.2 k hk
/-- one cell changes -/
theorem wd_set {H H1 : Heap} {k : Nat} (hW : Wd g S H) (hz : H1.size = H.size) (hs : S2.1 = S.1) (ho : ∀ q, q < S.1 → q ≠ k → wE g S2 q = wE g S q) (oq : ∀ q : Nat, q ≠ gb g + k → H1[q]? = H[q]?) (hc : va_at (gD g) vwCl (gb g + k, wE g S2 k) H1) : Wd g S2 H1 := by
  refine ⟨by rw [hz, hs]; exact hW.1, by rw [hs]; exact hW.2.1, fun q hq => ?_⟩
  by_cases e : q = k
  · rw [e]; exact hc
  · rw [ho q (by omega) e]
    exact (hW.2.2 q (by omega)).kept (oq _ (by omega))
theorem wd_k {H : Heap} {k : Nat} (hW : Wd g S H) (hk : k < S.1) : k < 1000 := by have := hW.2.1; omega
theorem g_getG {idx k ci j N : Nat} {C : String} {T : u_T} {fs : List Value} {v : Value} (n : Nat) (hd : decode cc pc = .ok (.getfield idx, 3)) (hn : pc + 3 = n) (hl : Cond.fieldLink own idx (T j).1 (T j).2.1 (T j).2.2.1 ∈ lw_tbl) (hc : vwCl[ci]? = some (C, T, N)) (hj : j < N) (hin : ∀ w ∈ u_ws C T N, w ∈ lw_g) (hk : k < S.1) (hE : wE g S k = .inr (ci, fs)) (hv : fs[j]? = some (rv g v)) (kk : Gj g l R XX QQ own cc nL ret n L (v :: st) S c1 s1) : Gj g l R XX QQ own cc nL ret pc L (.ref k :: st) S c1 s1 := by
  subst hn
  intro p e s m args below meth c H locs ls C0 hX hW hS hl0
  have hP := wd_one hW hk hE
  rw [List.map_cons, rv_own (wd_k hW hk)]
  exact va_get (ref := (T j).1) C0.1 C0.2.1 C0.2.2.2.2.2.2.1 hin C0.2.2.2.2.1 C0.2.2.2.2.2.2.2.1.1 hP 0 rfl hc j hj (C0.2.2.2.2.2.2.1 _ (mem_g hl rfl)) (fun _ h => h) hv hd (kk p e s m args below meth c H locs ls C0 hX hW hS hl0)
theorem g_putG {idx k ci j N : Nat} {C : String} {T : u_T} {fs : List Value} {v : Value} {ty : FieldType} (n : Nat) (hd : decode cc pc = .ok (.putfield idx, 3)) (hn : pc + 3 = n) (hl : Cond.fieldLink own idx (T j).1 (T j).2.1 (T j).2.2.1 ∈ lw_tbl) (hc : vwCl[ci]? = some (C, T, N)) (hj : j < N) (hin : ∀ w ∈ u_ws C T N, w ∈ lw_g) (ty0 : Nat → FieldType) (hty : ∀ k, k < N → parseFieldDescriptor (T k).2.2.1 = some (ty0 k)) (hnm : ∀ a, a < N → ∀ b, b < N → a ≠ b → (T a).2.1 ≠ (T b).2.1) (hfin : (T j).2.2.2 = false) (hdsc : parseFieldDescriptor (T j).2.2.1 = some ty) (hna : narrow ty (rv g v) = rv g v) (hfit : fits ty (rv g v) = true)
    (hk : k < S.1) (hE : wE g S k = .inr (ci, fs)) (hlen : j < fs.length) (hs : S2.1 = S.1) (hE2 : wE g S2 k = .inr (ci, fs.set j (rv g v))) (ho : ∀ q, q < S.1 → q ≠ k → wE g S2 q = wE g S q) (kk : Gj g l R XX QQ own cc nL ret n L st S2 c1 s1) : Gj g l R XX QQ own cc nL ret pc L (v :: .ref k :: st) S c1 s1 := by
  subst hn
  intro p e s m args below meth c H locs ls C0 hX hW hS hl0
  have hk9 := wd_k hW hk
  have hts := C0.2.2.2.2.2.2.1
  have hK := C0.2.2.2.2.2.2.2.1.1
  have hap := va_apart (own := own) hts hin ty0 hty hnm hK hc
  have hat := hW.2.2 k hk
  rw [hE] at hat
  obtain ⟨r, h1, cell, q1, q2, q3, q4⟩ := hat
  have hr : r = (C, T, N) := Option.some.inj (h1.symm.trans hc)
  subst hr
  obtain ⟨hSl, hfc, kC, hkC, hkind⟩ := hK.1 ci _ hc
  obtain ⟨cf, kf, fi, f, hi, hsl⟩ := hSl j hj
  have hlay := hts _ (hin _ (u_in_lay hj))
  unfold u_lay at hlay
  rw [if_neg (by rw [hfin]; decide)] at hlay
  have hst := (u_facts hfc hkC (u_lays hts hin hj) hi).1
  have h6 := u_store hfc hkC hkind hlay hi hdsc hna hfit
  rw [List.map_cons, List.map_cons, rv_own hk9]
  refine W.putK C0.1 C0.2.1 (f := f) ⟨C0.2.2.2.2.1, hts _ (mem_g hl rfl), ⟨_, _, _, hi⟩, hst⟩ (by rw [q2]; exact h6) q1 q3 (by rw [hsl]; exact k2_hasslot (q4 j hj)) rfl rfl hd fun H1 e1 e2 e3 => ?_
  rw [hsl] at e1 ⊢
  refine kk p e s m args below meth c H1 _ ls C0 hX (wd_set hW e2 hs ho e3 ?_) (hS.put e2 e3 (Nat.le_add_right _ _)) hl0
  rw [hE2]
  exact ⟨_, hc, t_OB.to (V := updV (vp_V fs) j (rv g v)) ⟨_, e1, q2, q3, t_set q4 hap hj (rv g v)⟩ (fun q _ => vp_updV_set hlen (rv g v) q)⟩
/-! rows -/
theorem g_iald {k : Nat} {i : Int32} (n : Nat) (hd : decode cc pc = .ok (.iaload, 1)) (hn : pc + 1 = n) (hk : k < S.1 ∧ sh k = 10) (hin : vp_in i (ln k)) (kk : Gj g l R XX QQ own cc nL ret n L (.int (S.2.1 k i.toNatClampNeg) :: st) S c1 s1) : Gj g l R XX QQ own cc nL ret pc L (.int i :: .ref k :: st) S c1 s1 := by
  subst hn
  intro p e s m args below meth c H locs ls C0 hX hW hS hl0
  have hE : wE g S k = .inl (gc g 1, ln k, .inl (S.2.1 k)) := by simp only [wE, hk.2]
  have hP := wd_one hW hk.1 hE
  rw [List.map_cons, List.map_cons, rv_own (wd_k hW hk.1)]
  exact va_iald C0.1 C0.2.1 C0.2.2.2.2.2.2.2.1.1 hP 0 1 rfl rfl hin hd (kk p e s m args below meth c H locs ls C0 hX hW hS hl0)
theorem g_bald {k : Nat} {i : Int32} (n : Nat) (hd : decode cc pc = .ok (.baload, 1)) (hn : pc + 1 = n) (hk : k < S.1 ∧ sh k = 9) (hin : vp_in i (ln k)) (kk : Gj g l R XX QQ own cc nL ret n L (.int (S.2.1 k i.toNatClampNeg) :: st) S c1 s1) : Gj g l R XX QQ own cc nL ret pc L (.int i :: .ref k :: st) S c1 s1 := by
  subst hn
  intro p e s m args below meth c H locs ls C0 hX hW hS hl0
  have hE : wE g S k = .inl (gc g 0, ln k, .inl (S.2.1 k)) := by simp only [wE, hk.2]
  have hP := wd_one hW hk.1 hE
  rw [List.map_cons, List.map_cons, rv_own (wd_k hW hk.1)]
  exact va_bald C0.1 C0.2.1 C0.2.2.2.2.2.2.2.1.1 hP 0 0 rfl rfl hin hd (kk p e s m args below meth c H locs ls C0 hX hW hS hl0)
theorem g_lald {k : Nat} {i : Int32} (n : Nat) (hd : decode cc pc = .ok (.laload, 1)) (hn : pc + 1 = n) (hk : k < S.1 ∧ sh k = 11) (hin : vp_in i (ln k)) (kk : Gj g l R XX QQ own cc nL ret n L (.long (S.2.2.1 i.toNatClampNeg) :: st) S c1 s1) : Gj g l R XX QQ own cc nL ret pc L (.int i :: .ref k :: st) S c1 s1 := by
  subst hn
  intro p e s m args below meth c H locs ls C0 hX hW hS hl0
  have hE : wE g S k = .inl (gc g 2, ln k, .inr (.inl S.2.2.1)) := by simp only [wE, hk.2]
  have hP := wd_one hW hk.1 hE
  rw [List.map_cons, List.map_cons, rv_own (wd_k hW hk.1)]
  exact va_lald C0.1 C0.2.1 C0.2.2.2.2.2.2.2.1.1 hP 0 2 rfl rfl hin hd (kk p e s m args below meth c H locs ls C0 hX hW hS hl0)
theorem g_aald {k v : Nat} {i : Int32} (n : Nat) (hd : decode cc pc = .ok (.aaload, 1)) (hn : pc + 1 = n) (hk : k < S.1 ∧ (sh k = 12 ∨ sh k = 13)) (hin : vp_in i (ln k)) (hv : S.2.2.2 k i.toNatClampNeg = some v) (kk : Gj g l R XX QQ own cc nL ret n L (.ref v :: st) S c1 s1) : Gj g l R XX QQ own cc nL ret pc L (.int i :: .ref k :: st) S c1 s1 := by
  subst hn
  intro p e s m args below meth c H locs ls C0 hX hW hS hl0
  rw [List.map_cons, List.map_cons, rv_own (wd_k hW hk.1)]
  have kk2 := kk p e s m args below meth c H locs ls C0 hX hW hS hl0
  have hr : va_rf ((S.2.2.2 k i.toNatClampNeg).map (rel g)) = rv g (.ref v) := by rw [hv]; rfl
  rcases hk.2 with h | h
  · have hE : wE g S k = .inl (gc g 3, ln k, .inr (.inr (.inr (.inr (fun j => (S.2.2.2 k j).map (rel g)))))) := by simp only [wE, h]
    have hP := wd_one hW hk.1 hE
    refine va_aldq C0.1 C0.2.1 C0.2.2.2.2.2.2.2.1.1 hP 0 3 rfl rfl hin hd ?_
    rw [hr]; exact kk2
  · have hE : wE g S k = .inl (gc g 4, ln k, .inr (.inr (.inr (.inr (fun j => (S.2.2.2 k j).map (rel g)))))) := by simp only [wE, h]
    have hP := wd_one hW hk.1 hE
    refine va_aldq C0.1 C0.2.1 C0.2.2.2.2.2.2.2.1.1 hP 0 4 rfl rfl hin hd ?_
    rw [hr]; exact kk2
theorem sh_upF {k j q : Nat} {F : Nat → Nat → Int32} {J : Nat → Int64} {Rf : Nat → Nat → Option Nat} {N : Nat} {x : Int32} (h : q ≠ k) : wE g (N, up2 F k j x, J, Rf) q = wE g (N, F, J, Rf) q := by
  simp only [wE, wI, wR, up2_ne F j x h]
theorem g_iast {k N : Nat} {i x : Int32} {F : Nat → Nat → Int32} {J : Nat → Int64} {Rf : Nat → Nat → Option Nat} (n : Nat) (hd : decode cc pc = .ok (.iastore, 1)) (hn : pc + 1 = n) (hk : k < N ∧ sh k = 10) (hin : vp_in i (ln k)) (kk : Gj g l R XX QQ own cc nL ret n L st (N, up2 F k i.toNatClampNeg x, J, Rf) c1 s1) : Gj g l R XX QQ own cc nL ret pc L (.int x :: .int i :: .ref k :: st) (N, F, J, Rf) c1 s1 := by
  subst hn
  intro p e s m args below meth c H locs ls C0 hX hW hS hl0
  have hE : ∀ G : Nat → Nat → Int32, wE g (N, G, J, Rf) k = .inl (gc g 1, ln k, .inl (G k)) := fun G => by simp only [wE, hk.2]
  have hP := wd_one hW hk.1 (hE F)
  have hK := C0.2.2.2.2.2.2.2.1.1
  rw [List.map_cons, List.map_cons, List.map_cons, rv_own (wd_k hW hk.1)]
  refine W.iast C0.1 C0.2.1 (hP 0 _ rfl) ((hK.2 1 _ rfl).1 (ln k) (fun j => .int (F k j))) (fun q => by cases q) (by show ¬ (i < 0 ∨ (arrV _ _ _).slots.size ≤ _); rw [arrV_size]; exact hin) rfl rfl hd fun H1 e1 z oq => ?_
  refine kk p e s m args below meth c H1 _ ls C0 hX (wd_set hW z rfl (fun q _ h => sh_upF h) oq ?_) (hS.put z oq (Nat.le_add_right _ _)) hl0
  rw [hE, up2_same]
  show H1[gb g + k]? = some (vp_cell _ _)
  rw [e1, vp_cell_i, vp_cell_i, arrV_store]
  congr 2
  funext q
  by_cases hq : q = i.toNatClampNeg
  · subst hq; simp [updV, upd]
  · simp [updV, upd, hq]
theorem g_bast {k N : Nat} {i x : Int32} {F : Nat → Nat → Int32} {J : Nat → Int64} {Rf : Nat → Nat → Option Nat} (n : Nat) (hd : decode cc pc = .ok (.bastore, 1)) (hn : pc + 1 = n) (hk : k < N ∧ sh k = 9) (hin : vp_in i (ln k)) (kk : Gj g l R XX QQ own cc nL ret n L st (N, up2 F k i.toNatClampNeg x.toInt8.toInt32, J, Rf) c1 s1) : Gj g l R XX QQ own cc nL ret pc L (.int x :: .int i :: .ref k :: st) (N, F, J, Rf) c1 s1 := by
  subst hn
  intro p e s m args below meth c H locs ls C0 hX hW hS hl0
  have hE : ∀ G : Nat → Nat → Int32, wE g (N, G, J, Rf) k = .inl (gc g 0, ln k, .inl (G k)) := fun G => by simp only [wE, hk.2]
  have hP := wd_one hW hk.1 (hE F)
  have hK := C0.2.2.2.2.2.2.2.1.1
  rw [List.map_cons, List.map_cons, List.map_cons, rv_own (wd_k hW hk.1)]
  refine W.bast C0.1 C0.2.1 (hP 0 _ rfl) ((hK.2 0 _ rfl).1 (ln k) (fun j => .int (F k j))) (fun q => by cases q) (by show ¬ (i < 0 ∨ (arrV _ _ _).slots.size ≤ _); rw [arrV_size]; exact hin) rfl rfl hd fun H1 e1 z oq => ?_
  refine kk p e s m args below meth c H1 _ ls C0 hX (wd_set hW z rfl (fun q _ h => sh_upF h) oq ?_) (hS.put z oq (Nat.le_add_right _ _)) hl0
  rw [hE, up2_same]
  show H1[gb g + k]? = some (vp_cell _ _)
  rw [e1, vp_cell_i, vp_cell_i, arrV_store]
  congr 2
  funext q
  by_cases hq : q = i.toNatClampNeg
  · subst hq; simp [updV, upd, narrow]
  · simp [updV, upd, hq]
theorem g_last {k N : Nat} {i : Int32} {x : Int64} {F : Nat → Nat → Int32} {J : Nat → Int64} {Rf : Nat → Nat → Option Nat} (n : Nat) (hd : decode cc pc = .ok (.lastore, 1)) (hn : pc + 1 = n) (hk : k < N ∧ k = 165) (hin : vp_in i 8) (kk : Gj g l R XX QQ own cc nL ret n L st (N, F, vp_updL J i.toNatClampNeg x, Rf) c1 s1) : Gj g l R XX QQ own cc nL ret pc L (.long x :: .int i :: .ref k :: st) (N, F, J, Rf) c1 s1 := by
  subst hn
  obtain ⟨hk1, rfl⟩ := hk
  intro p e s m args below meth c H locs ls C0 hX hW hS hl0
  have hE : ∀ G : Nat → Int64, wE g (N, F, G, Rf) 165 = .inl (gc g 2, 8, .inr (.inl G)) := fun G => rfl
  have hP := wd_one hW hk1 (hE J)
  have hK := C0.2.2.2.2.2.2.2.1.1
  rw [List.map_cons, List.map_cons, List.map_cons, rv_own (by omega)]
  refine W.last C0.1 C0.2.1 (hP 0 _ rfl) ((hK.2 2 _ rfl).1 8 (fun j => .long (J j))) (fun q => by cases q) (by show ¬ (i < 0 ∨ (arrV _ _ _).slots.size ≤ _); rw [arrV_size]; exact hin) rfl rfl hd fun H1 e1 z oq => ?_
  refine kk p e s m args below meth c H1 _ ls C0 hX (wd_set hW z rfl (fun q hq0 h => ?_) oq ?_) (hS.put z oq (Nat.le_add_right _ _)) hl0
  · have h11 : sh q ≠ 11 := fun z => h (sh_11 q (Nat.lt_of_lt_of_le hq0 hW.2.1) z)
    simp only [wE, wI, wR]
    split <;> first | rfl | exact absurd (by assumption) h11
  · rw [hE]
    show H1[gb g + 165]? = some (vp_cell _ _)
    rw [e1, vp_cell_l, vp_cell_l, arrV_store]
    congr 2
    funext q
    by_cases hq : q = i.toNatClampNeg
    · subst hq; simp [updV, vp_updL]
    · simp [updV, vp_updL, hq]
theorem g_alen {k t0 : Nat} {x : vp_A} {cA : ClassId} {ty : FieldType} (n : Nat) (hd : decode cc pc = .ok (.arraylength, 1)) (hn : pc + 1 = n) (hk : k < S.1) (hE : wE g S k = .inl (cA, x)) (ht : (tysG g)[t0]? = some (cA, ty)) (kk : Gj g l R XX QQ own cc nL ret n L (.int (nI x.1) :: st) S c1 s1) : Gj g l R XX QQ own cc nL ret pc L (.ref k :: st) S c1 s1 := by
  subst hn
  intro p e s m args below meth c H locs ls C0 hX hW hS hl0
  have hP := wd_one hW hk hE
  rw [List.map_cons, rv_own (wd_k hW hk)]
  exact va_alen C0.1 C0.2.1 C0.2.2.2.2.2.2.2.1.1 hP 0 t0 rfl ht rfl hd (kk p e s m args below meth c H locs ls C0 hX hW hS hl0)
end HEAP
end
section
theorem gd_in {w : Cond} (h : w ∈ lw_tbl) (hg : goodWord w = true) : GoodIn lw_g (w :: lw_g) := by
  intro v hv
  rcases List.mem_cons.mp hv with rfl | hv
  · exact ⟨mem_g h hg, good_of_word hg⟩
  · exact ⟨hv, good_of_word (List.mem_filter.mp hv).2⟩
theorem wE_obj {g : Gl} {S : Sg} {k ci : Nat} (h : sh k = ci) (hc : ci < 9) : ∃ fs, wE g S k = .inr (ci, fs) := by
  simp only [wE, h]
  match ci, hc with
  | 0, _ => exact ⟨_, rfl⟩
  | 1, _ => exact ⟨_, rfl⟩
  | 2, _ => exact ⟨_, rfl⟩
  | 3, _ => exact ⟨_, rfl⟩
  | 4, _ => exact ⟨_, rfl⟩
  | 5, _ => exact ⟨_, rfl⟩
  | 6, _ => exact ⟨_, rfl⟩
  | 7, _ => exact ⟨_, rfl⟩
  | 8, _ => exact ⟨_, rfl⟩
section CALLS
variable {g : Gl} {l : Launch} {R : Room} {XX : State → Method → Prop} {QQ : List Frame → Array Value → State → State → Prop} {own : String} {cc : ByteArray} {nL : Nat} {ret : Option FieldType} {pc : Nat} {L : List (Option Value)} {rest : List Value} {S : Sg} {c1 s1 : Nat}
variable {y : MethodName} {cc2 : ByteArray} {nL2 : Nat} {ret2 : Option FieldType} {d2 mc ms idx : Nat} {Z : Option Value → Sg → Prop}
theorem st_back {g : Gl} {r : Option Value} {rest : List Value} : (r.map (rv g)).toList ++ rest.map (rv g) = (r.toList ++ rest).map (rv g) := by cases r <;> simp
theorem cat_map {g : Gl} (rest : List Value) : ((rest.map (rv g)).map fun v => v.category) = rest.map fun v => v.category := by
  rw [List.map_map]; exact List.map_congr_left (fun v _ => rv_cat g v)
theorem sF_next {g : Gl} {s : State} {H H1 : Heap} {locs Lc : List Loc} (hS : va_S (ourA g) s.heap H locs) (hz : H.size ≤ H1.size) (hk : ∀ q : Nat, q < H.size → ¬ ourA g q → H1[q]? = H[q]?) (hL : ∀ q ∈ Lc, ourA g q.base) : va_S (ourA g) s.heap H1 (locs ++ Lc) :=
  ⟨Nat.le_trans hS.1 hz, fun q h1 h2 => by rw [hk q (Nat.lt_of_lt_of_le h1 hS.1) h2]; exact hS.2.1 q h1 h2, fun q hq => (List.mem_append.mp hq).elim (hS.2.2 q) (hL q)⟩
theorem ct_blind {g : Gl} {av : List Value} {S : Sg} : FrameBlind (va_Pc (av.map (rv g)) (fun U => Wd g S U.heap ∧ Kg g U)) := fun a U f mk q => ⟨q.1, q.2.1, q.2.2.same rfl rfl⟩
theorem g_callV {As : List Value} {k ci N2 : Nat} {T2 : u_T} (n : Nat) (hd : decode cc pc = .ok (.invokevirtual idx, 3)) (hn : pc + 3 = n) (hl : Cond.methodLink own idx y ∈ lw_tbl) (hm : MV y cc2 nL2 ret2 As.length) (hM : Ct g l y cc2 nL2 ret2 d2 mc ms (.ref k :: As) S Z) (hc : vwCl[ci]? = some (y.cls, T2, N2)) (hk : k < S.1 ∧ sh k = ci) (hR : d2 + 1 ≤ R.frames ∧ 8 + (nL2 + 11) + 37 * d2 ≤ R.locals) (hcs : c1 + mc ≤ R.cells ∧ s1 + ms ≤ R.slots) (hr : (rest.map fun v => v.category).sum ≤ 8)
    (kk : ∀ (r : Option Value) (S2 : Sg), Z r S2 → Gj g l R XX QQ own cc nL ret n L (r.toList ++ rest) S2 (c1 + mc) (s1 + ms)) : Gj g l R XX QQ own cc nL ret pc L (As.reverse ++ .ref k :: rest) S c1 s1 := by
  subst hn
  intro p e s m args below meth c H locs ls C0 hX hW hS hl0
  obtain ⟨m1, m2, m3, m4, m5, m6⟩ := hm
  have hts := C0.2.2.2.2.2.2.1
  have hK := C0.2.2.2.2.2.2.2.1
  have h9 : ci < 9 := (List.getElem?_eq_some_iff.mp hc).1
  obtain ⟨fs, hE⟩ := wE_obj (g := g) (S := S) hk.2 h9
  have hP := wd_one hW hk.1 hE
  have hcb : CallB R s args own idx y cc2 nL2 ret2 (Cond.code y cc2 nL2 ret2 :: lw_g) (rmd d2 mc ms) mc ms As.length := callB_of As.length hts (gd_in m4 rfl) rfl rfl rfl (hts _ (mem_g m3 rfl)) (hts _ (mem_g hl rfl)) ⟨m5.1, m5.2, m6⟩ hR
  intro T hT X
  obtain ⟨v, st₀, t, T2, Lc, h0, X2, hL, e1, e2, ⟨⟨r, S2, hv, hz, hW2⟩, hz1, hk1⟩, stp⟩ := va_runV (As := As.map (rv g)) (rest := rest.map (rv g)) (b := gb g + k) (C := y.cls) (g := F0 m pc ls ((As.reverse ++ .ref k :: rest).map (rv g))) ⟨C0.1, C0.2.1, C0.2.2.1, C0.2.2.2.2.1, hts⟩ hM ⟨hcb, hts _ (mem_g m1 rfl), hts _ (mem_g m2 rfl)⟩ ⟨ct_blind, va_recv (q0 := 0) hK.1 hP hc rfl, fun U hU hWm => ⟨by rw [← rv_own (wd_k hW hk.1)]; rfl, by rw [hU]; exact hW, hK.next hWm hU hS⟩⟩ rfl (by rw [List.length_map]) hl0.1 (by show List.map _ _ = _; rw [List.map_append, List.map_cons, List.map_reverse, rv_own (wd_k hW hk.1)]) (lv_room (by rw [cat_map]; exact hr)) hd hcs T hT X
  cases hv
  rw [h0] at hz1 hk1
  have K := kk r S2 hz p e s m args below meth c T2.heap (locs ++ Lc) ls C0 hX (by rw [e1]; exact hW2) (sF_next hS (by rw [e1]; exact hz1) (fun q a b => by rw [e1]; exact hk1 q a b) hL) hl0 T2 rfl X2
  rw [← st_back] at K
  obtain ⟨t2, a1, b1⟩ := K
  exact ⟨t2, stp t2 a1, b1⟩
theorem g_callS {As : List Value} (n : Nat) (hd : decode cc pc = .ok (.invokestatic idx, 3)) (hn : pc + 3 = n) (hl : Cond.methodLink own idx y ∈ lw_tbl) (hm : MS y cc2 nL2 ret2 As.length) (hM : Ct g l y cc2 nL2 ret2 d2 mc ms As S Z) (hR : d2 + 1 ≤ R.frames ∧ 8 + (nL2 + 11) + 37 * d2 ≤ R.locals) (hcs : c1 + mc ≤ R.cells ∧ s1 + ms ≤ R.slots) (hr : (rest.map fun v => v.category).sum ≤ 8)
    (kk : ∀ (r : Option Value) (S2 : Sg), Z r S2 → Gj g l R XX QQ own cc nL ret n L (r.toList ++ rest) S2 (c1 + mc) (s1 + ms)) : Gj g l R XX QQ own cc nL ret pc L (As.reverse ++ rest) S c1 s1 := by
  subst hn
  intro p e s m args below meth c H locs ls C0 hX hW hS hl0
  obtain ⟨m1, m3, m4, m5, m6⟩ := hm
  have hts := C0.2.2.2.2.2.2.1
  have hK := C0.2.2.2.2.2.2.2.1
  have hcb : CallB R s args own idx y cc2 nL2 ret2 (Cond.code y cc2 nL2 ret2 :: lw_g) (rmd d2 mc ms) mc ms As.length := callB_of As.length hts (gd_in m4 rfl) rfl rfl rfl (hts _ (mem_g m3 rfl)) (hts _ (mem_g hl rfl)) ⟨m5.1, m5.2, m6⟩ hR
  intro T hT X
  obtain ⟨v, st₀, t, T2, Lc, h0, X2, hL, e1, e2, ⟨⟨r, S2, hv, hz, hW2⟩, hz1, hk1⟩, stp⟩ := va_runS (As := As.map (rv g)) (rest := rest.map (rv g)) (g := F0 m pc ls ((As.reverse ++ rest).map (rv g))) ⟨C0.1, C0.2.1, C0.2.2.1, C0.2.2.2.2.1, hts⟩ hM ⟨hcb, hts _ (mem_g m1 rfl)⟩ ⟨ct_blind, fun U hU hWm => ⟨rfl, by rw [hU]; exact hW, hK.next hWm hU hS⟩⟩ rfl (by rw [List.length_map]) hl0.1 (by show List.map _ _ = _; rw [List.map_append, List.map_reverse]) (lv_room (by rw [cat_map]; exact hr)) hd hcs T hT X
  cases hv
  rw [h0] at hz1 hk1
  have K := kk r S2 hz p e s m args below meth c T2.heap (locs ++ Lc) ls C0 hX (by rw [e1]; exact hW2) (sF_next hS (by rw [e1]; exact hz1) (fun q a b => by rw [e1]; exact hk1 q a b) hL) hl0 T2 rfl X2
  rw [← st_back] at K
  obtain ⟨t2, a1, b1⟩ := K
  exact ⟨t2, stp t2 a1, b1⟩
theorem g_v0  {k N2 : Nat} {T2 : u_T} (ci n : Nat) (hd : decode cc pc = .ok (.invokevirtual idx, 3)) (hn : pc + 3 = n) (hl : Cond.methodLink own idx y ∈ lw_tbl) (hm : MV y cc2 nL2 ret2 0) (hc : vwCl[ci]? = some (y.cls, T2, N2)) (hR : d2 + 1 ≤ R.frames ∧ 8 + (nL2 + 11) + 37 * d2 ≤ R.locals) (hr : (rest.map fun v => v.category).sum ≤ 8) (hk : k < S.1 ∧ sh k = ci) (hM : Ct g l y cc2 nL2 ret2 d2 0 0 [.ref k] S Z) (kk : ∀ (r : Option Value) (S2 : Sg), Z r S2 → Gj g l R XX QQ own cc nL ret n L (r.toList ++ rest) S2 0 0) : Gj g l R XX QQ own cc nL ret pc L (.ref k :: rest) S 0 0 :=
  g_callV (As := []) n hd hn hl hm hM hc hk hR ⟨Nat.zero_le _, Nat.zero_le _⟩ hr kk
theorem g_s0  (n : Nat) (hd : decode cc pc = .ok (.invokestatic idx, 3)) (hn : pc + 3 = n) (hl : Cond.methodLink own idx y ∈ lw_tbl) (hm : MS y cc2 nL2 ret2 0) (hR : d2 + 1 ≤ R.frames ∧ 8 + (nL2 + 11) + 37 * d2 ≤ R.locals) (hr : (rest.map fun v => v.category).sum ≤ 8) (hM : Ct g l y cc2 nL2 ret2 d2 0 0 [] S Z) (kk : ∀ (r : Option Value) (S2 : Sg), Z r S2 → Gj g l R XX QQ own cc nL ret n L (r.toList ++ rest) S2 0 0) : Gj g l R XX QQ own cc nL ret pc L (rest) S 0 0 :=
  g_callS (As := []) n hd hn hl hm hM hR ⟨Nat.zero_le _, Nat.zero_le _⟩ hr kk
theorem g_v1 {a1 : Value} {k N2 : Nat} {T2 : u_T} (ci n : Nat) (hd : decode cc pc = .ok (.invokevirtual idx, 3)) (hn : pc + 3 = n) (hl : Cond.methodLink own idx y ∈ lw_tbl) (hm : MV y cc2 nL2 ret2 1) (hc : vwCl[ci]? = some (y.cls, T2, N2)) (hR : d2 + 1 ≤ R.frames ∧ 8 + (nL2 + 11) + 37 * d2 ≤ R.locals) (hr : (rest.map fun v => v.category).sum ≤ 8) (hk : k < S.1 ∧ sh k = ci) (hM : Ct g l y cc2 nL2 ret2 d2 0 0 [.ref k, a1] S Z) (kk : ∀ (r : Option Value) (S2 : Sg), Z r S2 → Gj g l R XX QQ own cc nL ret n L (r.toList ++ rest) S2 0 0) : Gj g l R XX QQ own cc nL ret pc L (a1 :: .ref k :: rest) S 0 0 :=
  g_callV (As := [a1]) n hd hn hl hm hM hc hk hR ⟨Nat.zero_le _, Nat.zero_le _⟩ hr kk
theorem g_s1 {a1 : Value} (n : Nat) (hd : decode cc pc = .ok (.invokestatic idx, 3)) (hn : pc + 3 = n) (hl : Cond.methodLink own idx y ∈ lw_tbl) (hm : MS y cc2 nL2 ret2 1) (hR : d2 + 1 ≤ R.frames ∧ 8 + (nL2 + 11) + 37 * d2 ≤ R.locals) (hr : (rest.map fun v => v.category).sum ≤ 8) (hM : Ct g l y cc2 nL2 ret2 d2 0 0 [a1] S Z) (kk : ∀ (r : Option Value) (S2 : Sg), Z r S2 → Gj g l R XX QQ own cc nL ret n L (r.toList ++ rest) S2 0 0) : Gj g l R XX QQ own cc nL ret pc L (a1 :: rest) S 0 0 :=
  g_callS (As := [a1]) n hd hn hl hm hM hR ⟨Nat.zero_le _, Nat.zero_le _⟩ hr kk
theorem g_v2 {a1 a2 : Value} {k N2 : Nat} {T2 : u_T} (ci n : Nat) (hd : decode cc pc = .ok (.invokevirtual idx, 3)) (hn : pc + 3 = n) (hl : Cond.methodLink own idx y ∈ lw_tbl) (hm : MV y cc2 nL2 ret2 2) (hc : vwCl[ci]? = some (y.cls, T2, N2)) (hR : d2 + 1 ≤ R.frames ∧ 8 + (nL2 + 11) + 37 * d2 ≤ R.locals) (hr : (rest.map fun v => v.category).sum ≤ 8) (hk : k < S.1 ∧ sh k = ci) (hM : Ct g l y cc2 nL2 ret2 d2 0 0 [.ref k, a1, a2] S Z) (kk : ∀ (r : Option Value) (S2 : Sg), Z r S2 → Gj g l R XX QQ own cc nL ret n L (r.toList ++ rest) S2 0 0) : Gj g l R XX QQ own cc nL ret pc L (a2 :: a1 :: .ref k :: rest) S 0 0 :=
  g_callV (As := [a1, a2]) n hd hn hl hm hM hc hk hR ⟨Nat.zero_le _, Nat.zero_le _⟩ hr kk
theorem g_s2 {a1 a2 : Value} (n : Nat) (hd : decode cc pc = .ok (.invokestatic idx, 3)) (hn : pc + 3 = n) (hl : Cond.methodLink own idx y ∈ lw_tbl) (hm : MS y cc2 nL2 ret2 2) (hR : d2 + 1 ≤ R.frames ∧ 8 + (nL2 + 11) + 37 * d2 ≤ R.locals) (hr : (rest.map fun v => v.category).sum ≤ 8) (hM : Ct g l y cc2 nL2 ret2 d2 0 0 [a1, a2] S Z) (kk : ∀ (r : Option Value) (S2 : Sg), Z r S2 → Gj g l R XX QQ own cc nL ret n L (r.toList ++ rest) S2 0 0) : Gj g l R XX QQ own cc nL ret pc L (a2 :: a1 :: rest) S 0 0 :=
  g_callS (As := [a1, a2]) n hd hn hl hm hM hR ⟨Nat.zero_le _, Nat.zero_le _⟩ hr kk
theorem g_v3 {a1 a2 a3 : Value} {k N2 : Nat} {T2 : u_T} (ci n : Nat) (hd : decode cc pc = .ok (.invokevirtual idx, 3)) (hn : pc + 3 = n) (hl : Cond.methodLink own idx y ∈ lw_tbl) (hm : MV y cc2 nL2 ret2 3) (hc : vwCl[ci]? = some (y.cls, T2, N2)) (hR : d2 + 1 ≤ R.frames ∧ 8 + (nL2 + 11) + 37 * d2 ≤ R.locals) (hr : (rest.map fun v => v.category).sum ≤ 8) (hk : k < S.1 ∧ sh k = ci) (hM : Ct g l y cc2 nL2 ret2 d2 0 0 [.ref k, a1, a2, a3] S Z) (kk : ∀ (r : Option Value) (S2 : Sg), Z r S2 → Gj g l R XX QQ own cc nL ret n L (r.toList ++ rest) S2 0 0) : Gj g l R XX QQ own cc nL ret pc L (a3 :: a2 :: a1 :: .ref k :: rest) S 0 0 :=
  g_callV (As := [a1, a2, a3]) n hd hn hl hm hM hc hk hR ⟨Nat.zero_le _, Nat.zero_le _⟩ hr kk
theorem g_s3 {a1 a2 a3 : Value} (n : Nat) (hd : decode cc pc = .ok (.invokestatic idx, 3)) (hn : pc + 3 = n) (hl : Cond.methodLink own idx y ∈ lw_tbl) (hm : MS y cc2 nL2 ret2 3) (hR : d2 + 1 ≤ R.frames ∧ 8 + (nL2 + 11) + 37 * d2 ≤ R.locals) (hr : (rest.map fun v => v.category).sum ≤ 8) (hM : Ct g l y cc2 nL2 ret2 d2 0 0 [a1, a2, a3] S Z) (kk : ∀ (r : Option Value) (S2 : Sg), Z r S2 → Gj g l R XX QQ own cc nL ret n L (r.toList ++ rest) S2 0 0) : Gj g l R XX QQ own cc nL ret pc L (a3 :: a2 :: a1 :: rest) S 0 0 :=
  g_callS (As := [a1, a2, a3]) n hd hn hl hm hM hR ⟨Nat.zero_le _, Nat.zero_le _⟩ hr kk
theorem g_v4 {a1 a2 a3 a4 : Value} {k N2 : Nat} {T2 : u_T} (ci n : Nat) (hd : decode cc pc = .ok (.invokevirtual idx, 3)) (hn : pc + 3 = n) (hl : Cond.methodLink own idx y ∈ lw_tbl) (hm : MV y cc2 nL2 ret2 4) (hc : vwCl[ci]? = some (y.cls, T2, N2)) (hR : d2 + 1 ≤ R.frames ∧ 8 + (nL2 + 11) + 37 * d2 ≤ R.locals) (hr : (rest.map fun v => v.category).sum ≤ 8) (hk : k < S.1 ∧ sh k = ci) (hM : Ct g l y cc2 nL2 ret2 d2 0 0 [.ref k, a1, a2, a3, a4] S Z) (kk : ∀ (r : Option Value) (S2 : Sg), Z r S2 → Gj g l R XX QQ own cc nL ret n L (r.toList ++ rest) S2 0 0) : Gj g l R XX QQ own cc nL ret pc L (a4 :: a3 :: a2 :: a1 :: .ref k :: rest) S 0 0 :=
  g_callV (As := [a1, a2, a3, a4]) n hd hn hl hm hM hc hk hR ⟨Nat.zero_le _, Nat.zero_le _⟩ hr kk
theorem g_s4 {a1 a2 a3 a4 : Value} (n : Nat) (hd : decode cc pc = .ok (.invokestatic idx, 3)) (hn : pc + 3 = n) (hl : Cond.methodLink own idx y ∈ lw_tbl) (hm : MS y cc2 nL2 ret2 4) (hR : d2 + 1 ≤ R.frames ∧ 8 + (nL2 + 11) + 37 * d2 ≤ R.locals) (hr : (rest.map fun v => v.category).sum ≤ 8) (hM : Ct g l y cc2 nL2 ret2 d2 0 0 [a1, a2, a3, a4] S Z) (kk : ∀ (r : Option Value) (S2 : Sg), Z r S2 → Gj g l R XX QQ own cc nL ret n L (r.toList ++ rest) S2 0 0) : Gj g l R XX QQ own cc nL ret pc L (a4 :: a3 :: a2 :: a1 :: rest) S 0 0 :=
  g_callS (As := [a1, a2, a3, a4]) n hd hn hl hm hM hR ⟨Nat.zero_le _, Nat.zero_le _⟩ hr kk
theorem g_v5 {a1 a2 a3 a4 a5 : Value} {k N2 : Nat} {T2 : u_T} (ci n : Nat) (hd : decode cc pc = .ok (.invokevirtual idx, 3)) (hn : pc + 3 = n) (hl : Cond.methodLink own idx y ∈ lw_tbl) (hm : MV y cc2 nL2 ret2 5) (hc : vwCl[ci]? = some (y.cls, T2, N2)) (hR : d2 + 1 ≤ R.frames ∧ 8 + (nL2 + 11) + 37 * d2 ≤ R.locals) (hr : (rest.map fun v => v.category).sum ≤ 8) (hk : k < S.1 ∧ sh k = ci) (hM : Ct g l y cc2 nL2 ret2 d2 0 0 [.ref k, a1, a2, a3, a4, a5] S Z) (kk : ∀ (r : Option Value) (S2 : Sg), Z r S2 → Gj g l R XX QQ own cc nL ret n L (r.toList ++ rest) S2 0 0) : Gj g l R XX QQ own cc nL ret pc L (a5 :: a4 :: a3 :: a2 :: a1 :: .ref k :: rest) S 0 0 :=
  g_callV (As := [a1, a2, a3, a4, a5]) n hd hn hl hm hM hc hk hR ⟨Nat.zero_le _, Nat.zero_le _⟩ hr kk
theorem g_s5 {a1 a2 a3 a4 a5 : Value} (n : Nat) (hd : decode cc pc = .ok (.invokestatic idx, 3)) (hn : pc + 3 = n) (hl : Cond.methodLink own idx y ∈ lw_tbl) (hm : MS y cc2 nL2 ret2 5) (hR : d2 + 1 ≤ R.frames ∧ 8 + (nL2 + 11) + 37 * d2 ≤ R.locals) (hr : (rest.map fun v => v.category).sum ≤ 8) (hM : Ct g l y cc2 nL2 ret2 d2 0 0 [a1, a2, a3, a4, a5] S Z) (kk : ∀ (r : Option Value) (S2 : Sg), Z r S2 → Gj g l R XX QQ own cc nL ret n L (r.toList ++ rest) S2 0 0) : Gj g l R XX QQ own cc nL ret pc L (a5 :: a4 :: a3 :: a2 :: a1 :: rest) S 0 0 :=
  g_callS (As := [a1, a2, a3, a4, a5]) n hd hn hl hm hM hR ⟨Nat.zero_le _, Nat.zero_le _⟩ hr kk
end CALLS
section FIELDS
variable {g : Gl} {l : Launch} {R : Room} {XX : State → Method → Prop} {QQ : List Frame → Array Value → State → State → Prop} {own : String} {cc : ByteArray} {nL : Nat} {ret : Option FieldType} {pc idx : Nat} {L : List (Option Value)} {st : List Value} {F : Nat → Nat → Int32} {J : Nat → Int64} {c1 s1 : Nat}
theorem gf_0_0 {k : Nat} (n : Nat) (hd : decode cc pc = .ok (.getfield idx, 3)) (hn : pc + 3 = n) (hl : Cond.fieldLink own idx "TruthSums$Fit" "a" "I" ∈ lw_tbl) (hk : k < 174 ∧ sh k = 0) (kk : Gj g l R XX QQ own cc nL ret n L (.int (F k 0) :: st) (St F J) c1 s1) : Gj g l R XX QQ own cc nL ret pc L (.ref k :: st) (St F J) c1 s1 :=
  g_getG (ci := 0) (j := 0) (C := RX0) (T := TX0) (N := 4) (fs := [wI (St F J) k 0, wI (St F J) k 1, wI (St F J) k 2, wI (St F J) k 3]) n hd hn hl rfl (by decide) iw0 hk.1 (by simp only [wE, hk.2]) rfl kk
theorem gp_0_0 {k : Nat} {x : Int32} (n : Nat) (hd : decode cc pc = .ok (.putfield idx, 3)) (hn : pc + 3 = n) (hl : Cond.fieldLink own idx "TruthSums$Fit" "a" "I" ∈ lw_tbl) (hk : k < 174 ∧ sh k = 0) (kk : Gj g l R XX QQ own cc nL ret n L st (St (up2 F k 0 x) J) c1 s1) : Gj g l R XX QQ own cc nL ret pc L (.int x :: .ref k :: st) (St F J) c1 s1 :=
  g_putG (S2 := St (up2 F k 0 x) J) (ci := 0) (j := 0) (C := RX0) (T := TX0) (N := 4) (ty := .int) (fs := [wI (St F J) k 0, wI (St F J) k 1, wI (St F J) k 2, wI (St F J) k 3]) n hd hn hl rfl (by decide) iw0 tyX0 tyX0_ok nmX0 rfl (by decide +kernel) rfl rfl hk.1 (by simp only [wE, hk.2]) (by simp) rfl (by simp only [wE, hk.2]; simp [wI, wR, rv, up2, upd]) (fun q _ h => sh_upF h) kk
theorem gf_0_1 {k : Nat} (n : Nat) (hd : decode cc pc = .ok (.getfield idx, 3)) (hn : pc + 3 = n) (hl : Cond.fieldLink own idx "TruthSums$Fit" "b" "I" ∈ lw_tbl) (hk : k < 174 ∧ sh k = 0) (kk : Gj g l R XX QQ own cc nL ret n L (.int (F k 1) :: st) (St F J) c1 s1) : Gj g l R XX QQ own cc nL ret pc L (.ref k :: st) (St F J) c1 s1 :=
  g_getG (ci := 0) (j := 1) (C := RX0) (T := TX0) (N := 4) (fs := [wI (St F J) k 0, wI (St F J) k 1, wI (St F J) k 2, wI (St F J) k 3]) n hd hn hl rfl (by decide) iw0 hk.1 (by simp only [wE, hk.2]) rfl kk
theorem gp_0_1 {k : Nat} {x : Int32} (n : Nat) (hd : decode cc pc = .ok (.putfield idx, 3)) (hn : pc + 3 = n) (hl : Cond.fieldLink own idx "TruthSums$Fit" "b" "I" ∈ lw_tbl) (hk : k < 174 ∧ sh k = 0) (kk : Gj g l R XX QQ own cc nL ret n L st (St (up2 F k 1 x) J) c1 s1) : Gj g l R XX QQ own cc nL ret pc L (.int x :: .ref k :: st) (St F J) c1 s1 :=
  g_putG (S2 := St (up2 F k 1 x) J) (ci := 0) (j := 1) (C := RX0) (T := TX0) (N := 4) (ty := .int) (fs := [wI (St F J) k 0, wI (St F J) k 1, wI (St F J) k 2, wI (St F J) k 3]) n hd hn hl rfl (by decide) iw0 tyX0 tyX0_ok nmX0 rfl (by decide +kernel) rfl rfl hk.1 (by simp only [wE, hk.2]) (by simp) rfl (by simp only [wE, hk.2]; simp [wI, wR, rv, up2, upd]) (fun q _ h => sh_upF h) kk
theorem gf_0_2 {k : Nat} (n : Nat) (hd : decode cc pc = .ok (.getfield idx, 3)) (hn : pc + 3 = n) (hl : Cond.fieldLink own idx "TruthSums$Fit" "c" "I" ∈ lw_tbl) (hk : k < 174 ∧ sh k = 0) (kk : Gj g l R XX QQ own cc nL ret n L (.int (F k 2) :: st) (St F J) c1 s1) : Gj g l R XX QQ own cc nL ret pc L (.ref k :: st) (St F J) c1 s1 :=
  g_getG (ci := 0) (j := 2) (C := RX0) (T := TX0) (N := 4) (fs := [wI (St F J) k 0, wI (St F J) k 1, wI (St F J) k 2, wI (St F J) k 3]) n hd hn hl rfl (by decide) iw0 hk.1 (by simp only [wE, hk.2]) rfl kk
theorem gp_0_2 {k : Nat} {x : Int32} (n : Nat) (hd : decode cc pc = .ok (.putfield idx, 3)) (hn : pc + 3 = n) (hl : Cond.fieldLink own idx "TruthSums$Fit" "c" "I" ∈ lw_tbl) (hk : k < 174 ∧ sh k = 0) (kk : Gj g l R XX QQ own cc nL ret n L st (St (up2 F k 2 x) J) c1 s1) : Gj g l R XX QQ own cc nL ret pc L (.int x :: .ref k :: st) (St F J) c1 s1 :=
  g_putG (S2 := St (up2 F k 2 x) J) (ci := 0) (j := 2) (C := RX0) (T := TX0) (N := 4) (ty := .int) (fs := [wI (St F J) k 0, wI (St F J) k 1, wI (St F J) k 2, wI (St F J) k 3]) n hd hn hl rfl (by decide) iw0 tyX0 tyX0_ok nmX0 rfl (by decide +kernel) rfl rfl hk.1 (by simp only [wE, hk.2]) (by simp) rfl (by simp only [wE, hk.2]; simp [wI, wR, rv, up2, upd]) (fun q _ h => sh_upF h) kk
theorem gf_0_3 {k : Nat} (n : Nat) (hd : decode cc pc = .ok (.getfield idx, 3)) (hn : pc + 3 = n) (hl : Cond.fieldLink own idx "TruthSums$Fit" "degree" "I" ∈ lw_tbl) (hk : k < 174 ∧ sh k = 0) (kk : Gj g l R XX QQ own cc nL ret n L (.int (F k 3) :: st) (St F J) c1 s1) : Gj g l R XX QQ own cc nL ret pc L (.ref k :: st) (St F J) c1 s1 :=
  g_getG (ci := 0) (j := 3) (C := RX0) (T := TX0) (N := 4) (fs := [wI (St F J) k 0, wI (St F J) k 1, wI (St F J) k 2, wI (St F J) k 3]) n hd hn hl rfl (by decide) iw0 hk.1 (by simp only [wE, hk.2]) rfl kk
theorem gp_0_3 {k : Nat} {x : Int32} (n : Nat) (hd : decode cc pc = .ok (.putfield idx, 3)) (hn : pc + 3 = n) (hl : Cond.fieldLink own idx "TruthSums$Fit" "degree" "I" ∈ lw_tbl) (hk : k < 174 ∧ sh k = 0) (kk : Gj g l R XX QQ own cc nL ret n L st (St (up2 F k 3 x) J) c1 s1) : Gj g l R XX QQ own cc nL ret pc L (.int x :: .ref k :: st) (St F J) c1 s1 :=
  g_putG (S2 := St (up2 F k 3 x) J) (ci := 0) (j := 3) (C := RX0) (T := TX0) (N := 4) (ty := .int) (fs := [wI (St F J) k 0, wI (St F J) k 1, wI (St F J) k 2, wI (St F J) k 3]) n hd hn hl rfl (by decide) iw0 tyX0 tyX0_ok nmX0 rfl (by decide +kernel) rfl rfl hk.1 (by simp only [wE, hk.2]) (by simp) rfl (by simp only [wE, hk.2]; simp [wI, wR, rv, up2, upd]) (fun q _ h => sh_upF h) kk
theorem gf_1_0 {k : Nat} (n : Nat) (hd : decode cc pc = .ok (.getfield idx, 3)) (hn : pc + 3 = n) (hl : Cond.fieldLink own idx "TruthSums$Forcing" "so" "I" ∈ lw_tbl) (hk : k < 174 ∧ sh k = 1) (kk : Gj g l R XX QQ own cc nL ret n L (.int (F k 0) :: st) (St F J) c1 s1) : Gj g l R XX QQ own cc nL ret pc L (.ref k :: st) (St F J) c1 s1 :=
  g_getG (ci := 1) (j := 0) (C := RX1) (T := TX1) (N := 3) (fs := [wI (St F J) k 0, wI (St F J) k 1, wI (St F J) k 2]) n hd hn hl rfl (by decide) iw1 hk.1 (by simp only [wE, hk.2]) rfl kk
theorem gp_1_0 {k : Nat} {x : Int32} (n : Nat) (hd : decode cc pc = .ok (.putfield idx, 3)) (hn : pc + 3 = n) (hl : Cond.fieldLink own idx "TruthSums$Forcing" "so" "I" ∈ lw_tbl) (hk : k < 174 ∧ sh k = 1) (kk : Gj g l R XX QQ own cc nL ret n L st (St (up2 F k 0 x) J) c1 s1) : Gj g l R XX QQ own cc nL ret pc L (.int x :: .ref k :: st) (St F J) c1 s1 :=
  g_putG (S2 := St (up2 F k 0 x) J) (ci := 1) (j := 0) (C := RX1) (T := TX1) (N := 3) (ty := .int) (fs := [wI (St F J) k 0, wI (St F J) k 1, wI (St F J) k 2]) n hd hn hl rfl (by decide) iw1 tyX1 tyX1_ok nmX1 rfl (by decide +kernel) rfl rfl hk.1 (by simp only [wE, hk.2]) (by simp) rfl (by simp only [wE, hk.2]; simp [wI, wR, rv, up2, upd]) (fun q _ h => sh_upF h) kk
theorem gf_1_1 {k : Nat} (n : Nat) (hd : decode cc pc = .ok (.getfield idx, 3)) (hn : pc + 3 = n) (hl : Cond.fieldLink own idx "TruthSums$Forcing" "not" "I" ∈ lw_tbl) (hk : k < 174 ∧ sh k = 1) (kk : Gj g l R XX QQ own cc nL ret n L (.int (F k 1) :: st) (St F J) c1 s1) : Gj g l R XX QQ own cc nL ret pc L (.ref k :: st) (St F J) c1 s1 :=
  g_getG (ci := 1) (j := 1) (C := RX1) (T := TX1) (N := 3) (fs := [wI (St F J) k 0, wI (St F J) k 1, wI (St F J) k 2]) n hd hn hl rfl (by decide) iw1 hk.1 (by simp only [wE, hk.2]) rfl kk
theorem gp_1_1 {k : Nat} {x : Int32} (n : Nat) (hd : decode cc pc = .ok (.putfield idx, 3)) (hn : pc + 3 = n) (hl : Cond.fieldLink own idx "TruthSums$Forcing" "not" "I" ∈ lw_tbl) (hk : k < 174 ∧ sh k = 1) (kk : Gj g l R XX QQ own cc nL ret n L st (St (up2 F k 1 x) J) c1 s1) : Gj g l R XX QQ own cc nL ret pc L (.int x :: .ref k :: st) (St F J) c1 s1 :=
  g_putG (S2 := St (up2 F k 1 x) J) (ci := 1) (j := 1) (C := RX1) (T := TX1) (N := 3) (ty := .int) (fs := [wI (St F J) k 0, wI (St F J) k 1, wI (St F J) k 2]) n hd hn hl rfl (by decide) iw1 tyX1 tyX1_ok nmX1 rfl (by decide +kernel) rfl rfl hk.1 (by simp only [wE, hk.2]) (by simp) rfl (by simp only [wE, hk.2]; simp [wI, wR, rv, up2, upd]) (fun q _ h => sh_upF h) kk
theorem gf_1_2 {k : Nat} (n : Nat) (hd : decode cc pc = .ok (.getfield idx, 3)) (hn : pc + 3 = n) (hl : Cond.fieldLink own idx "TruthSums$Forcing" "clashes" "Z" ∈ lw_tbl) (hk : k < 174 ∧ sh k = 1) (kk : Gj g l R XX QQ own cc nL ret n L (.int (F k 2) :: st) (St F J) c1 s1) : Gj g l R XX QQ own cc nL ret pc L (.ref k :: st) (St F J) c1 s1 :=
  g_getG (ci := 1) (j := 2) (C := RX1) (T := TX1) (N := 3) (fs := [wI (St F J) k 0, wI (St F J) k 1, wI (St F J) k 2]) n hd hn hl rfl (by decide) iw1 hk.1 (by simp only [wE, hk.2]) rfl kk
theorem gp_1_2 {k : Nat} {x : Int32} (n : Nat) (hd : decode cc pc = .ok (.putfield idx, 3)) (hn : pc + 3 = n) (hl : Cond.fieldLink own idx "TruthSums$Forcing" "clashes" "Z" ∈ lw_tbl) (hk : k < 174 ∧ sh k = 1) (hx : x = 0 ∨ x = 1) (kk : Gj g l R XX QQ own cc nL ret n L st (St (up2 F k 2 x) J) c1 s1) : Gj g l R XX QQ own cc nL ret pc L (.int x :: .ref k :: st) (St F J) c1 s1 :=
  g_putG (S2 := St (up2 F k 2 x) J) (ci := 1) (j := 2) (C := RX1) (T := TX1) (N := 3) (ty := .boolean) (fs := [wI (St F J) k 0, wI (St F J) k 1, wI (St F J) k 2]) n hd hn hl rfl (by decide) iw1 tyX1 tyX1_ok nmX1 rfl (by decide +kernel) (nz_b hx) (by rcases hx with rfl | rfl <;> rfl) hk.1 (by simp only [wE, hk.2]) (by simp) rfl (by simp only [wE, hk.2]; simp [wI, wR, rv, up2, upd]) (fun q _ h => sh_upF h) kk
theorem gf_2_0 {k : Nat} (n : Nat) (hd : decode cc pc = .ok (.getfield idx, 3)) (hn : pc + 3 = n) (hl : Cond.fieldLink own idx "TruthSums$Line" "weights" "[I" ∈ lw_tbl) (hk : k < 174 ∧ sh k = 2) (kk : Gj g l R XX QQ own cc nL ret n L (.ref (k + 1) :: st) (St F J) c1 s1) : Gj g l R XX QQ own cc nL ret pc L (.ref k :: st) (St F J) c1 s1 :=
  g_getG (ci := 2) (j := 0) (C := RX2) (T := TX2) (N := 2) (fs := [wR g (St F J) k 0, wI (St F J) k 1]) n hd hn hl rfl (by decide) iw2 hk.1 (by simp only [wE, hk.2]) (by simp [wR, R0, hk.2, rv, va_rf]) kk
theorem gf_2_1 {k : Nat} (n : Nat) (hd : decode cc pc = .ok (.getfield idx, 3)) (hn : pc + 3 = n) (hl : Cond.fieldLink own idx "TruthSums$Line" "degree" "I" ∈ lw_tbl) (hk : k < 174 ∧ sh k = 2) (kk : Gj g l R XX QQ own cc nL ret n L (.int (F k 1) :: st) (St F J) c1 s1) : Gj g l R XX QQ own cc nL ret pc L (.ref k :: st) (St F J) c1 s1 :=
  g_getG (ci := 2) (j := 1) (C := RX2) (T := TX2) (N := 2) (fs := [wR g (St F J) k 0, wI (St F J) k 1]) n hd hn hl rfl (by decide) iw2 hk.1 (by simp only [wE, hk.2]) rfl kk
theorem gp_2_1 {k : Nat} {x : Int32} (n : Nat) (hd : decode cc pc = .ok (.putfield idx, 3)) (hn : pc + 3 = n) (hl : Cond.fieldLink own idx "TruthSums$Line" "degree" "I" ∈ lw_tbl) (hk : k < 174 ∧ sh k = 2) (kk : Gj g l R XX QQ own cc nL ret n L st (St (up2 F k 1 x) J) c1 s1) : Gj g l R XX QQ own cc nL ret pc L (.int x :: .ref k :: st) (St F J) c1 s1 :=
  g_putG (S2 := St (up2 F k 1 x) J) (ci := 2) (j := 1) (C := RX2) (T := TX2) (N := 2) (ty := .int) (fs := [wR g (St F J) k 0, wI (St F J) k 1]) n hd hn hl rfl (by decide) iw2 tyX2 tyX2_ok nmX2 rfl (by decide +kernel) rfl rfl hk.1 (by simp only [wE, hk.2]) (by simp) rfl (by simp only [wE, hk.2]; simp [wI, wR, rv, up2, upd]) (fun q _ h => sh_upF h) kk
theorem gf_3_0 (n : Nat) (hd : decode cc pc = .ok (.getfield idx, 3)) (hn : pc + 3 = n) (hl : Cond.fieldLink own idx "TruthSums$Reader" "told" "[LTruthSums$Line;" ∈ lw_tbl) (kk : Gj g l R XX QQ own cc nL ret n L (.ref 4 :: st) (St F J) c1 s1) : Gj g l R XX QQ own cc nL ret pc L (.ref 3 :: st) (St F J) c1 s1 :=
  g_getG (ci := 3) (j := 0) (C := RX3) (T := TX3) (N := 3) (fs := [wR g (St F J) 3 0, wR g (St F J) 3 1, wR g (St F J) 3 2]) n hd hn hl rfl (by decide) iw3 (by decide : 3 < 174) rfl rfl kk
theorem gf_3_1 (n : Nat) (hd : decode cc pc = .ok (.getfield idx, 3)) (hn : pc + 3 = n) (hl : Cond.fieldLink own idx "TruthSums$Reader" "steps" "[LTruthSums$Step;" ∈ lw_tbl) (kk : Gj g l R XX QQ own cc nL ret n L (.ref 5 :: st) (St F J) c1 s1) : Gj g l R XX QQ own cc nL ret pc L (.ref 3 :: st) (St F J) c1 s1 :=
  g_getG (ci := 3) (j := 1) (C := RX3) (T := TX3) (N := 3) (fs := [wR g (St F J) 3 0, wR g (St F J) 3 1, wR g (St F J) 3 2]) n hd hn hl rfl (by decide) iw3 (by decide : 3 < 174) rfl rfl kk
theorem gf_3_2 (n : Nat) (hd : decode cc pc = .ok (.getfield idx, 3)) (hn : pc + 3 = n) (hl : Cond.fieldLink own idx "TruthSums$Reader" "tokens" "LTruthSums$Tokens;" ∈ lw_tbl) (kk : Gj g l R XX QQ own cc nL ret n L (.ref 6 :: st) (St F J) c1 s1) : Gj g l R XX QQ own cc nL ret pc L (.ref 3 :: st) (St F J) c1 s1 :=
  g_getG (ci := 3) (j := 2) (C := RX3) (T := TX3) (N := 3) (fs := [wR g (St F J) 3 0, wR g (St F J) 3 1, wR g (St F J) 3 2]) n hd hn hl rfl (by decide) iw3 (by decide : 3 < 174) rfl rfl kk
theorem gf_4_0 {k : Nat} (n : Nat) (hd : decode cc pc = .ok (.getfield idx, 3)) (hn : pc + 3 = n) (hl : Cond.fieldLink own idx "TruthSums$Step" "kind" "I" ∈ lw_tbl) (hk : k < 174 ∧ sh k = 4) (kk : Gj g l R XX QQ own cc nL ret n L (.int (F k 0) :: st) (St F J) c1 s1) : Gj g l R XX QQ own cc nL ret pc L (.ref k :: st) (St F J) c1 s1 :=
  g_getG (ci := 4) (j := 0) (C := RX4) (T := TX4) (N := 4) (fs := [wI (St F J) k 0, wI (St F J) k 1, wI (St F J) k 2, wR g (St F J) k 3]) n hd hn hl rfl (by decide) iw4 hk.1 (by simp only [wE, hk.2]) rfl kk
theorem gp_4_0 {k : Nat} {x : Int32} (n : Nat) (hd : decode cc pc = .ok (.putfield idx, 3)) (hn : pc + 3 = n) (hl : Cond.fieldLink own idx "TruthSums$Step" "kind" "I" ∈ lw_tbl) (hk : k < 174 ∧ sh k = 4) (kk : Gj g l R XX QQ own cc nL ret n L st (St (up2 F k 0 x) J) c1 s1) : Gj g l R XX QQ own cc nL ret pc L (.int x :: .ref k :: st) (St F J) c1 s1 :=
  g_putG (S2 := St (up2 F k 0 x) J) (ci := 4) (j := 0) (C := RX4) (T := TX4) (N := 4) (ty := .int) (fs := [wI (St F J) k 0, wI (St F J) k 1, wI (St F J) k 2, wR g (St F J) k 3]) n hd hn hl rfl (by decide) iw4 tyX4 tyX4_ok nmX4 rfl (by decide +kernel) rfl rfl hk.1 (by simp only [wE, hk.2]) (by simp) rfl (by simp only [wE, hk.2]; simp [wI, wR, rv, up2, upd]) (fun q _ h => sh_upF h) kk
theorem gf_4_1 {k : Nat} (n : Nat) (hd : decode cc pc = .ok (.getfield idx, 3)) (hn : pc + 3 = n) (hl : Cond.fieldLink own idx "TruthSums$Step" "first" "I" ∈ lw_tbl) (hk : k < 174 ∧ sh k = 4) (kk : Gj g l R XX QQ own cc nL ret n L (.int (F k 1) :: st) (St F J) c1 s1) : Gj g l R XX QQ own cc nL ret pc L (.ref k :: st) (St F J) c1 s1 :=
  g_getG (ci := 4) (j := 1) (C := RX4) (T := TX4) (N := 4) (fs := [wI (St F J) k 0, wI (St F J) k 1, wI (St F J) k 2, wR g (St F J) k 3]) n hd hn hl rfl (by decide) iw4 hk.1 (by simp only [wE, hk.2]) rfl kk
theorem gp_4_1 {k : Nat} {x : Int32} (n : Nat) (hd : decode cc pc = .ok (.putfield idx, 3)) (hn : pc + 3 = n) (hl : Cond.fieldLink own idx "TruthSums$Step" "first" "I" ∈ lw_tbl) (hk : k < 174 ∧ sh k = 4) (kk : Gj g l R XX QQ own cc nL ret n L st (St (up2 F k 1 x) J) c1 s1) : Gj g l R XX QQ own cc nL ret pc L (.int x :: .ref k :: st) (St F J) c1 s1 :=
  g_putG (S2 := St (up2 F k 1 x) J) (ci := 4) (j := 1) (C := RX4) (T := TX4) (N := 4) (ty := .int) (fs := [wI (St F J) k 0, wI (St F J) k 1, wI (St F J) k 2, wR g (St F J) k 3]) n hd hn hl rfl (by decide) iw4 tyX4 tyX4_ok nmX4 rfl (by decide +kernel) rfl rfl hk.1 (by simp only [wE, hk.2]) (by simp) rfl (by simp only [wE, hk.2]; simp [wI, wR, rv, up2, upd]) (fun q _ h => sh_upF h) kk
theorem gf_4_2 {k : Nat} (n : Nat) (hd : decode cc pc = .ok (.getfield idx, 3)) (hn : pc + 3 = n) (hl : Cond.fieldLink own idx "TruthSums$Step" "second" "I" ∈ lw_tbl) (hk : k < 174 ∧ sh k = 4) (kk : Gj g l R XX QQ own cc nL ret n L (.int (F k 2) :: st) (St F J) c1 s1) : Gj g l R XX QQ own cc nL ret pc L (.ref k :: st) (St F J) c1 s1 :=
  g_getG (ci := 4) (j := 2) (C := RX4) (T := TX4) (N := 4) (fs := [wI (St F J) k 0, wI (St F J) k 1, wI (St F J) k 2, wR g (St F J) k 3]) n hd hn hl rfl (by decide) iw4 hk.1 (by simp only [wE, hk.2]) rfl kk
theorem gp_4_2 {k : Nat} {x : Int32} (n : Nat) (hd : decode cc pc = .ok (.putfield idx, 3)) (hn : pc + 3 = n) (hl : Cond.fieldLink own idx "TruthSums$Step" "second" "I" ∈ lw_tbl) (hk : k < 174 ∧ sh k = 4) (kk : Gj g l R XX QQ own cc nL ret n L st (St (up2 F k 2 x) J) c1 s1) : Gj g l R XX QQ own cc nL ret pc L (.int x :: .ref k :: st) (St F J) c1 s1 :=
  g_putG (S2 := St (up2 F k 2 x) J) (ci := 4) (j := 2) (C := RX4) (T := TX4) (N := 4) (ty := .int) (fs := [wI (St F J) k 0, wI (St F J) k 1, wI (St F J) k 2, wR g (St F J) k 3]) n hd hn hl rfl (by decide) iw4 tyX4 tyX4_ok nmX4 rfl (by decide +kernel) rfl rfl hk.1 (by simp only [wE, hk.2]) (by simp) rfl (by simp only [wE, hk.2]; simp [wI, wR, rv, up2, upd]) (fun q _ h => sh_upF h) kk
theorem gf_4_3 {k : Nat} (n : Nat) (hd : decode cc pc = .ok (.getfield idx, 3)) (hn : pc + 3 = n) (hl : Cond.fieldLink own idx "TruthSums$Step" "claimed" "LTruthSums$Line;" ∈ lw_tbl) (hk : k < 174 ∧ sh k = 4) (kk : Gj g l R XX QQ own cc nL ret n L (.ref (k + 1) :: st) (St F J) c1 s1) : Gj g l R XX QQ own cc nL ret pc L (.ref k :: st) (St F J) c1 s1 :=
  g_getG (ci := 4) (j := 3) (C := RX4) (T := TX4) (N := 4) (fs := [wI (St F J) k 0, wI (St F J) k 1, wI (St F J) k 2, wR g (St F J) k 3]) n hd hn hl rfl (by decide) iw4 hk.1 (by simp only [wE, hk.2]) (by simp [wR, R0, hk.2, rv, va_rf]) kk
theorem gf_5_0 (n : Nat) (hd : decode cc pc = .ok (.getfield idx, 3)) (hn : pc + 3 = n) (hl : Cond.fieldLink own idx "TruthSums$Text" "bytes" "[B" ∈ lw_tbl) (kk : Gj g l R XX QQ own cc nL ret n L (.ref 2 :: st) (St F J) c1 s1) : Gj g l R XX QQ own cc nL ret pc L (.ref 1 :: st) (St F J) c1 s1 :=
  g_getG (ci := 5) (j := 0) (C := RX5) (T := TX5) (N := 2) (fs := [wR g (St F J) 1 0, wI (St F J) 1 1]) n hd hn hl rfl (by decide) iw5 (by decide : 1 < 174) rfl rfl kk
theorem gf_5_1 {k : Nat} (n : Nat) (hd : decode cc pc = .ok (.getfield idx, 3)) (hn : pc + 3 = n) (hl : Cond.fieldLink own idx "TruthSums$Text" "length" "I" ∈ lw_tbl) (hk : k < 174 ∧ sh k = 5) (kk : Gj g l R XX QQ own cc nL ret n L (.int (F k 1) :: st) (St F J) c1 s1) : Gj g l R XX QQ own cc nL ret pc L (.ref k :: st) (St F J) c1 s1 :=
  g_getG (ci := 5) (j := 1) (C := RX5) (T := TX5) (N := 2) (fs := [wR g (St F J) k 0, wI (St F J) k 1]) n hd hn hl rfl (by decide) iw5 hk.1 (by simp only [wE, hk.2]) rfl kk
theorem gp_5_1 {k : Nat} {x : Int32} (n : Nat) (hd : decode cc pc = .ok (.putfield idx, 3)) (hn : pc + 3 = n) (hl : Cond.fieldLink own idx "TruthSums$Text" "length" "I" ∈ lw_tbl) (hk : k < 174 ∧ sh k = 5) (kk : Gj g l R XX QQ own cc nL ret n L st (St (up2 F k 1 x) J) c1 s1) : Gj g l R XX QQ own cc nL ret pc L (.int x :: .ref k :: st) (St F J) c1 s1 :=
  g_putG (S2 := St (up2 F k 1 x) J) (ci := 5) (j := 1) (C := RX5) (T := TX5) (N := 2) (ty := .int) (fs := [wR g (St F J) k 0, wI (St F J) k 1]) n hd hn hl rfl (by decide) iw5 tyX5 tyX5_ok nmX5 rfl (by decide +kernel) rfl rfl hk.1 (by simp only [wE, hk.2]) (by simp) rfl (by simp only [wE, hk.2]; simp [wI, wR, rv, up2, upd]) (fun q _ h => sh_upF h) kk
theorem gf_6_0 (n : Nat) (hd : decode cc pc = .ok (.getfield idx, 3)) (hn : pc + 3 = n) (hl : Cond.fieldLink own idx "TruthSums$Tokens" "kinds" "[I" ∈ lw_tbl) (kk : Gj g l R XX QQ own cc nL ret n L (.ref 7 :: st) (St F J) c1 s1) : Gj g l R XX QQ own cc nL ret pc L (.ref 6 :: st) (St F J) c1 s1 :=
  g_getG (ci := 6) (j := 0) (C := RX6) (T := TX6) (N := 5) (fs := [wR g (St F J) 6 0, wR g (St F J) 6 1, wR g (St F J) 6 2, wI (St F J) 6 3, wI (St F J) 6 4]) n hd hn hl rfl (by decide) iw6 (by decide : 6 < 174) rfl rfl kk
theorem gf_6_1 (n : Nat) (hd : decode cc pc = .ok (.getfield idx, 3)) (hn : pc + 3 = n) (hl : Cond.fieldLink own idx "TruthSums$Tokens" "values" "[I" ∈ lw_tbl) (kk : Gj g l R XX QQ own cc nL ret n L (.ref 8 :: st) (St F J) c1 s1) : Gj g l R XX QQ own cc nL ret pc L (.ref 6 :: st) (St F J) c1 s1 :=
  g_getG (ci := 6) (j := 1) (C := RX6) (T := TX6) (N := 5) (fs := [wR g (St F J) 6 0, wR g (St F J) 6 1, wR g (St F J) 6 2, wI (St F J) 6 3, wI (St F J) 6 4]) n hd hn hl rfl (by decide) iw6 (by decide : 6 < 174) rfl rfl kk
theorem gf_6_2 (n : Nat) (hd : decode cc pc = .ok (.getfield idx, 3)) (hn : pc + 3 = n) (hl : Cond.fieldLink own idx "TruthSums$Tokens" "places" "[I" ∈ lw_tbl) (kk : Gj g l R XX QQ own cc nL ret n L (.ref 9 :: st) (St F J) c1 s1) : Gj g l R XX QQ own cc nL ret pc L (.ref 6 :: st) (St F J) c1 s1 :=
  g_getG (ci := 6) (j := 2) (C := RX6) (T := TX6) (N := 5) (fs := [wR g (St F J) 6 0, wR g (St F J) 6 1, wR g (St F J) 6 2, wI (St F J) 6 3, wI (St F J) 6 4]) n hd hn hl rfl (by decide) iw6 (by decide : 6 < 174) rfl rfl kk
theorem gf_6_3 {k : Nat} (n : Nat) (hd : decode cc pc = .ok (.getfield idx, 3)) (hn : pc + 3 = n) (hl : Cond.fieldLink own idx "TruthSums$Tokens" "count" "I" ∈ lw_tbl) (hk : k < 174 ∧ sh k = 6) (kk : Gj g l R XX QQ own cc nL ret n L (.int (F k 3) :: st) (St F J) c1 s1) : Gj g l R XX QQ own cc nL ret pc L (.ref k :: st) (St F J) c1 s1 :=
  g_getG (ci := 6) (j := 3) (C := RX6) (T := TX6) (N := 5) (fs := [wR g (St F J) k 0, wR g (St F J) k 1, wR g (St F J) k 2, wI (St F J) k 3, wI (St F J) k 4]) n hd hn hl rfl (by decide) iw6 hk.1 (by simp only [wE, hk.2]) rfl kk
theorem gp_6_3 {k : Nat} {x : Int32} (n : Nat) (hd : decode cc pc = .ok (.putfield idx, 3)) (hn : pc + 3 = n) (hl : Cond.fieldLink own idx "TruthSums$Tokens" "count" "I" ∈ lw_tbl) (hk : k < 174 ∧ sh k = 6) (kk : Gj g l R XX QQ own cc nL ret n L st (St (up2 F k 3 x) J) c1 s1) : Gj g l R XX QQ own cc nL ret pc L (.int x :: .ref k :: st) (St F J) c1 s1 :=
  g_putG (S2 := St (up2 F k 3 x) J) (ci := 6) (j := 3) (C := RX6) (T := TX6) (N := 5) (ty := .int) (fs := [wR g (St F J) k 0, wR g (St F J) k 1, wR g (St F J) k 2, wI (St F J) k 3, wI (St F J) k 4]) n hd hn hl rfl (by decide) iw6 tyX6 tyX6_ok nmX6 rfl (by decide +kernel) rfl rfl hk.1 (by simp only [wE, hk.2]) (by simp) rfl (by simp only [wE, hk.2]; simp [wI, wR, rv, up2, upd]) (fun q _ h => sh_upF h) kk
theorem gf_6_4 {k : Nat} (n : Nat) (hd : decode cc pc = .ok (.getfield idx, 3)) (hn : pc + 3 = n) (hl : Cond.fieldLink own idx "TruthSums$Tokens" "now" "I" ∈ lw_tbl) (hk : k < 174 ∧ sh k = 6) (kk : Gj g l R XX QQ own cc nL ret n L (.int (F k 4) :: st) (St F J) c1 s1) : Gj g l R XX QQ own cc nL ret pc L (.ref k :: st) (St F J) c1 s1 :=
  g_getG (ci := 6) (j := 4) (C := RX6) (T := TX6) (N := 5) (fs := [wR g (St F J) k 0, wR g (St F J) k 1, wR g (St F J) k 2, wI (St F J) k 3, wI (St F J) k 4]) n hd hn hl rfl (by decide) iw6 hk.1 (by simp only [wE, hk.2]) rfl kk
theorem gp_6_4 {k : Nat} {x : Int32} (n : Nat) (hd : decode cc pc = .ok (.putfield idx, 3)) (hn : pc + 3 = n) (hl : Cond.fieldLink own idx "TruthSums$Tokens" "now" "I" ∈ lw_tbl) (hk : k < 174 ∧ sh k = 6) (kk : Gj g l R XX QQ own cc nL ret n L st (St (up2 F k 4 x) J) c1 s1) : Gj g l R XX QQ own cc nL ret pc L (.int x :: .ref k :: st) (St F J) c1 s1 :=
  g_putG (S2 := St (up2 F k 4 x) J) (ci := 6) (j := 4) (C := RX6) (T := TX6) (N := 5) (ty := .int) (fs := [wR g (St F J) k 0, wR g (St F J) k 1, wR g (St F J) k 2, wI (St F J) k 3, wI (St F J) k 4]) n hd hn hl rfl (by decide) iw6 tyX6 tyX6_ok nmX6 rfl (by decide +kernel) rfl rfl hk.1 (by simp only [wE, hk.2]) (by simp) rfl (by simp only [wE, hk.2]; simp [wI, wR, rv, up2, upd]) (fun q _ h => sh_upF h) kk
theorem gf_7_0 (n : Nat) (hd : decode cc pc = .ok (.getfield idx, 3)) (hn : pc + 3 = n) (hl : Cond.fieldLink own idx "TruthSums" "text" "LTruthSums$Text;" ∈ lw_tbl) (kk : Gj g l R XX QQ own cc nL ret n L (.ref 1 :: st) (St F J) c1 s1) : Gj g l R XX QQ own cc nL ret pc L (.ref 0 :: st) (St F J) c1 s1 :=
  g_getG (ci := 7) (j := 0) (C := RX7) (T := TX7) (N := 12) (fs := [wR g (St F J) 0 0, wR g (St F J) 0 1, wR g (St F J) 0 2, wR g (St F J) 0 3, wR g (St F J) 0 4, wR g (St F J) 0 5, wR g (St F J) 0 6, wI (St F J) 0 7, wI (St F J) 0 8, wI (St F J) 0 9, wI (St F J) 0 10, wI (St F J) 0 11]) n hd hn hl rfl (by decide) iw7 (by decide : 0 < 174) rfl rfl kk
theorem gf_7_1 (n : Nat) (hd : decode cc pc = .ok (.getfield idx, 3)) (hn : pc + 3 = n) (hl : Cond.fieldLink own idx "TruthSums" "reader" "LTruthSums$Reader;" ∈ lw_tbl) (kk : Gj g l R XX QQ own cc nL ret n L (.ref 3 :: st) (St F J) c1 s1) : Gj g l R XX QQ own cc nL ret pc L (.ref 0 :: st) (St F J) c1 s1 :=
  g_getG (ci := 7) (j := 1) (C := RX7) (T := TX7) (N := 12) (fs := [wR g (St F J) 0 0, wR g (St F J) 0 1, wR g (St F J) 0 2, wR g (St F J) 0 3, wR g (St F J) 0 4, wR g (St F J) 0 5, wR g (St F J) 0 6, wI (St F J) 0 7, wI (St F J) 0 8, wI (St F J) 0 9, wI (St F J) 0 10, wI (St F J) 0 11]) n hd hn hl rfl (by decide) iw7 (by decide : 0 < 174) rfl rfl kk
theorem gf_7_2 (n : Nat) (hd : decode cc pc = .ok (.getfield idx, 3)) (hn : pc + 3 = n) (hl : Cond.fieldLink own idx "TruthSums" "forcing" "LTruthSums$Forcing;" ∈ lw_tbl) (kk : Gj g l R XX QQ own cc nL ret n L (.ref 98 :: st) (St F J) c1 s1) : Gj g l R XX QQ own cc nL ret pc L (.ref 0 :: st) (St F J) c1 s1 :=
  g_getG (ci := 7) (j := 2) (C := RX7) (T := TX7) (N := 12) (fs := [wR g (St F J) 0 0, wR g (St F J) 0 1, wR g (St F J) 0 2, wR g (St F J) 0 3, wR g (St F J) 0 4, wR g (St F J) 0 5, wR g (St F J) 0 6, wI (St F J) 0 7, wI (St F J) 0 8, wI (St F J) 0 9, wI (St F J) 0 10, wI (St F J) 0 11]) n hd hn hl rfl (by decide) iw7 (by decide : 0 < 174) rfl rfl kk
theorem gf_7_3 (n : Nat) (hd : decode cc pc = .ok (.getfield idx, 3)) (hn : pc + 3 = n) (hl : Cond.fieldLink own idx "TruthSums" "fitting" "LTruthSums$Fit;" ∈ lw_tbl) (kk : Gj g l R XX QQ own cc nL ret n L (.ref 99 :: st) (St F J) c1 s1) : Gj g l R XX QQ own cc nL ret pc L (.ref 0 :: st) (St F J) c1 s1 :=
  g_getG (ci := 7) (j := 3) (C := RX7) (T := TX7) (N := 12) (fs := [wR g (St F J) 0 0, wR g (St F J) 0 1, wR g (St F J) 0 2, wR g (St F J) 0 3, wR g (St F J) 0 4, wR g (St F J) 0 5, wR g (St F J) 0 6, wI (St F J) 0 7, wI (St F J) 0 8, wI (St F J) 0 9, wI (St F J) 0 10, wI (St F J) 0 11]) n hd hn hl rfl (by decide) iw7 (by decide : 0 < 174) rfl rfl kk
theorem gf_7_4 (n : Nat) (hd : decode cc pc = .ok (.getfield idx, 3)) (hn : pc + 3 = n) (hl : Cond.fieldLink own idx "TruthSums" "lines" "[LTruthSums$Line;" ∈ lw_tbl) (kk : Gj g l R XX QQ own cc nL ret n L (.ref 100 :: st) (St F J) c1 s1) : Gj g l R XX QQ own cc nL ret pc L (.ref 0 :: st) (St F J) c1 s1 :=
  g_getG (ci := 7) (j := 4) (C := RX7) (T := TX7) (N := 12) (fs := [wR g (St F J) 0 0, wR g (St F J) 0 1, wR g (St F J) 0 2, wR g (St F J) 0 3, wR g (St F J) 0 4, wR g (St F J) 0 5, wR g (St F J) 0 6, wI (St F J) 0 7, wI (St F J) 0 8, wI (St F J) 0 9, wI (St F J) 0 10, wI (St F J) 0 11]) n hd hn hl rfl (by decide) iw7 (by decide : 0 < 174) rfl rfl kk
theorem gf_7_5 (n : Nat) (hd : decode cc pc = .ok (.getfield idx, 3)) (hn : pc + 3 = n) (hl : Cond.fieldLink own idx "TruthSums" "givenWorlds" "[J" ∈ lw_tbl) (kk : Gj g l R XX QQ own cc nL ret n L (.ref 165 :: st) (St F J) c1 s1) : Gj g l R XX QQ own cc nL ret pc L (.ref 0 :: st) (St F J) c1 s1 :=
  g_getG (ci := 7) (j := 5) (C := RX7) (T := TX7) (N := 12) (fs := [wR g (St F J) 0 0, wR g (St F J) 0 1, wR g (St F J) 0 2, wR g (St F J) 0 3, wR g (St F J) 0 4, wR g (St F J) 0 5, wR g (St F J) 0 6, wI (St F J) 0 7, wI (St F J) 0 8, wI (St F J) 0 9, wI (St F J) 0 10, wI (St F J) 0 11]) n hd hn hl rfl (by decide) iw7 (by decide : 0 < 174) rfl rfl kk
theorem gf_7_6 (n : Nat) (hd : decode cc pc = .ok (.getfield idx, 3)) (hn : pc + 3 = n) (hl : Cond.fieldLink own idx "TruthSums" "costs" "[I" ∈ lw_tbl) (kk : Gj g l R XX QQ own cc nL ret n L (.ref 166 :: st) (St F J) c1 s1) : Gj g l R XX QQ own cc nL ret pc L (.ref 0 :: st) (St F J) c1 s1 :=
  g_getG (ci := 7) (j := 6) (C := RX7) (T := TX7) (N := 12) (fs := [wR g (St F J) 0 0, wR g (St F J) 0 1, wR g (St F J) 0 2, wR g (St F J) 0 3, wR g (St F J) 0 4, wR g (St F J) 0 5, wR g (St F J) 0 6, wI (St F J) 0 7, wI (St F J) 0 8, wI (St F J) 0 9, wI (St F J) 0 10, wI (St F J) 0 11]) n hd hn hl rfl (by decide) iw7 (by decide : 0 < 174) rfl rfl kk
theorem gf_7_7 {k : Nat} (n : Nat) (hd : decode cc pc = .ok (.getfield idx, 3)) (hn : pc + 3 = n) (hl : Cond.fieldLink own idx "TruthSums" "givenCount" "I" ∈ lw_tbl) (hk : k < 174 ∧ sh k = 7) (kk : Gj g l R XX QQ own cc nL ret n L (.int (F k 7) :: st) (St F J) c1 s1) : Gj g l R XX QQ own cc nL ret pc L (.ref k :: st) (St F J) c1 s1 :=
  g_getG (ci := 7) (j := 7) (C := RX7) (T := TX7) (N := 12) (fs := [wR g (St F J) k 0, wR g (St F J) k 1, wR g (St F J) k 2, wR g (St F J) k 3, wR g (St F J) k 4, wR g (St F J) k 5, wR g (St F J) k 6, wI (St F J) k 7, wI (St F J) k 8, wI (St F J) k 9, wI (St F J) k 10, wI (St F J) k 11]) n hd hn hl rfl (by decide) iw7 hk.1 (by simp only [wE, hk.2]) rfl kk
theorem gp_7_7 {k : Nat} {x : Int32} (n : Nat) (hd : decode cc pc = .ok (.putfield idx, 3)) (hn : pc + 3 = n) (hl : Cond.fieldLink own idx "TruthSums" "givenCount" "I" ∈ lw_tbl) (hk : k < 174 ∧ sh k = 7) (kk : Gj g l R XX QQ own cc nL ret n L st (St (up2 F k 7 x) J) c1 s1) : Gj g l R XX QQ own cc nL ret pc L (.int x :: .ref k :: st) (St F J) c1 s1 :=
  g_putG (S2 := St (up2 F k 7 x) J) (ci := 7) (j := 7) (C := RX7) (T := TX7) (N := 12) (ty := .int) (fs := [wR g (St F J) k 0, wR g (St F J) k 1, wR g (St F J) k 2, wR g (St F J) k 3, wR g (St F J) k 4, wR g (St F J) k 5, wR g (St F J) k 6, wI (St F J) k 7, wI (St F J) k 8, wI (St F J) k 9, wI (St F J) k 10, wI (St F J) k 11]) n hd hn hl rfl (by decide) iw7 tyX7 tyX7_ok nmX7 rfl (by decide +kernel) rfl rfl hk.1 (by simp only [wE, hk.2]) (by simp) rfl (by simp only [wE, hk.2]; simp [wI, wR, rv, up2, upd]) (fun q _ h => sh_upF h) kk
theorem gf_7_8 {k : Nat} (n : Nat) (hd : decode cc pc = .ok (.getfield idx, 3)) (hn : pc + 3 = n) (hl : Cond.fieldLink own idx "TruthSums" "proofCount" "I" ∈ lw_tbl) (hk : k < 174 ∧ sh k = 7) (kk : Gj g l R XX QQ own cc nL ret n L (.int (F k 8) :: st) (St F J) c1 s1) : Gj g l R XX QQ own cc nL ret pc L (.ref k :: st) (St F J) c1 s1 :=
  g_getG (ci := 7) (j := 8) (C := RX7) (T := TX7) (N := 12) (fs := [wR g (St F J) k 0, wR g (St F J) k 1, wR g (St F J) k 2, wR g (St F J) k 3, wR g (St F J) k 4, wR g (St F J) k 5, wR g (St F J) k 6, wI (St F J) k 7, wI (St F J) k 8, wI (St F J) k 9, wI (St F J) k 10, wI (St F J) k 11]) n hd hn hl rfl (by decide) iw7 hk.1 (by simp only [wE, hk.2]) rfl kk
theorem gp_7_8 {k : Nat} {x : Int32} (n : Nat) (hd : decode cc pc = .ok (.putfield idx, 3)) (hn : pc + 3 = n) (hl : Cond.fieldLink own idx "TruthSums" "proofCount" "I" ∈ lw_tbl) (hk : k < 174 ∧ sh k = 7) (kk : Gj g l R XX QQ own cc nL ret n L st (St (up2 F k 8 x) J) c1 s1) : Gj g l R XX QQ own cc nL ret pc L (.int x :: .ref k :: st) (St F J) c1 s1 :=
  g_putG (S2 := St (up2 F k 8 x) J) (ci := 7) (j := 8) (C := RX7) (T := TX7) (N := 12) (ty := .int) (fs := [wR g (St F J) k 0, wR g (St F J) k 1, wR g (St F J) k 2, wR g (St F J) k 3, wR g (St F J) k 4, wR g (St F J) k 5, wR g (St F J) k 6, wI (St F J) k 7, wI (St F J) k 8, wI (St F J) k 9, wI (St F J) k 10, wI (St F J) k 11]) n hd hn hl rfl (by decide) iw7 tyX7 tyX7_ok nmX7 rfl (by decide +kernel) rfl rfl hk.1 (by simp only [wE, hk.2]) (by simp) rfl (by simp only [wE, hk.2]; simp [wI, wR, rv, up2, upd]) (fun q _ h => sh_upF h) kk
theorem gf_7_9 {k : Nat} (n : Nat) (hd : decode cc pc = .ok (.getfield idx, 3)) (hn : pc + 3 = n) (hl : Cond.fieldLink own idx "TruthSums" "stepCount" "I" ∈ lw_tbl) (hk : k < 174 ∧ sh k = 7) (kk : Gj g l R XX QQ own cc nL ret n L (.int (F k 9) :: st) (St F J) c1 s1) : Gj g l R XX QQ own cc nL ret pc L (.ref k :: st) (St F J) c1 s1 :=
  g_getG (ci := 7) (j := 9) (C := RX7) (T := TX7) (N := 12) (fs := [wR g (St F J) k 0, wR g (St F J) k 1, wR g (St F J) k 2, wR g (St F J) k 3, wR g (St F J) k 4, wR g (St F J) k 5, wR g (St F J) k 6, wI (St F J) k 7, wI (St F J) k 8, wI (St F J) k 9, wI (St F J) k 10, wI (St F J) k 11]) n hd hn hl rfl (by decide) iw7 hk.1 (by simp only [wE, hk.2]) rfl kk
theorem gp_7_9 {k : Nat} {x : Int32} (n : Nat) (hd : decode cc pc = .ok (.putfield idx, 3)) (hn : pc + 3 = n) (hl : Cond.fieldLink own idx "TruthSums" "stepCount" "I" ∈ lw_tbl) (hk : k < 174 ∧ sh k = 7) (kk : Gj g l R XX QQ own cc nL ret n L st (St (up2 F k 9 x) J) c1 s1) : Gj g l R XX QQ own cc nL ret pc L (.int x :: .ref k :: st) (St F J) c1 s1 :=
  g_putG (S2 := St (up2 F k 9 x) J) (ci := 7) (j := 9) (C := RX7) (T := TX7) (N := 12) (ty := .int) (fs := [wR g (St F J) k 0, wR g (St F J) k 1, wR g (St F J) k 2, wR g (St F J) k 3, wR g (St F J) k 4, wR g (St F J) k 5, wR g (St F J) k 6, wI (St F J) k 7, wI (St F J) k 8, wI (St F J) k 9, wI (St F J) k 10, wI (St F J) k 11]) n hd hn hl rfl (by decide) iw7 tyX7 tyX7_ok nmX7 rfl (by decide +kernel) rfl rfl hk.1 (by simp only [wE, hk.2]) (by simp) rfl (by simp only [wE, hk.2]; simp [wI, wR, rv, up2, upd]) (fun q _ h => sh_upF h) kk
theorem gf_7_10 {k : Nat} (n : Nat) (hd : decode cc pc = .ok (.getfield idx, 3)) (hn : pc + 3 = n) (hl : Cond.fieldLink own idx "TruthSums" "wrongStep" "I" ∈ lw_tbl) (hk : k < 174 ∧ sh k = 7) (kk : Gj g l R XX QQ own cc nL ret n L (.int (F k 10) :: st) (St F J) c1 s1) : Gj g l R XX QQ own cc nL ret pc L (.ref k :: st) (St F J) c1 s1 :=
  g_getG (ci := 7) (j := 10) (C := RX7) (T := TX7) (N := 12) (fs := [wR g (St F J) k 0, wR g (St F J) k 1, wR g (St F J) k 2, wR g (St F J) k 3, wR g (St F J) k 4, wR g (St F J) k 5, wR g (St F J) k 6, wI (St F J) k 7, wI (St F J) k 8, wI (St F J) k 9, wI (St F J) k 10, wI (St F J) k 11]) n hd hn hl rfl (by decide) iw7 hk.1 (by simp only [wE, hk.2]) rfl kk
theorem gp_7_10 {k : Nat} {x : Int32} (n : Nat) (hd : decode cc pc = .ok (.putfield idx, 3)) (hn : pc + 3 = n) (hl : Cond.fieldLink own idx "TruthSums" "wrongStep" "I" ∈ lw_tbl) (hk : k < 174 ∧ sh k = 7) (kk : Gj g l R XX QQ own cc nL ret n L st (St (up2 F k 10 x) J) c1 s1) : Gj g l R XX QQ own cc nL ret pc L (.int x :: .ref k :: st) (St F J) c1 s1 :=
  g_putG (S2 := St (up2 F k 10 x) J) (ci := 7) (j := 10) (C := RX7) (T := TX7) (N := 12) (ty := .int) (fs := [wR g (St F J) k 0, wR g (St F J) k 1, wR g (St F J) k 2, wR g (St F J) k 3, wR g (St F J) k 4, wR g (St F J) k 5, wR g (St F J) k 6, wI (St F J) k 7, wI (St F J) k 8, wI (St F J) k 9, wI (St F J) k 10, wI (St F J) k 11]) n hd hn hl rfl (by decide) iw7 tyX7 tyX7_ok nmX7 rfl (by decide +kernel) rfl rfl hk.1 (by simp only [wE, hk.2]) (by simp) rfl (by simp only [wE, hk.2]; simp [wI, wR, rv, up2, upd]) (fun q _ h => sh_upF h) kk
theorem gf_7_11 {k : Nat} (n : Nat) (hd : decode cc pc = .ok (.getfield idx, 3)) (hn : pc + 3 = n) (hl : Cond.fieldLink own idx "TruthSums" "wrongKind" "I" ∈ lw_tbl) (hk : k < 174 ∧ sh k = 7) (kk : Gj g l R XX QQ own cc nL ret n L (.int (F k 11) :: st) (St F J) c1 s1) : Gj g l R XX QQ own cc nL ret pc L (.ref k :: st) (St F J) c1 s1 :=
  g_getG (ci := 7) (j := 11) (C := RX7) (T := TX7) (N := 12) (fs := [wR g (St F J) k 0, wR g (St F J) k 1, wR g (St F J) k 2, wR g (St F J) k 3, wR g (St F J) k 4, wR g (St F J) k 5, wR g (St F J) k 6, wI (St F J) k 7, wI (St F J) k 8, wI (St F J) k 9, wI (St F J) k 10, wI (St F J) k 11]) n hd hn hl rfl (by decide) iw7 hk.1 (by simp only [wE, hk.2]) rfl kk
theorem gp_7_11 {k : Nat} {x : Int32} (n : Nat) (hd : decode cc pc = .ok (.putfield idx, 3)) (hn : pc + 3 = n) (hl : Cond.fieldLink own idx "TruthSums" "wrongKind" "I" ∈ lw_tbl) (hk : k < 174 ∧ sh k = 7) (kk : Gj g l R XX QQ own cc nL ret n L st (St (up2 F k 11 x) J) c1 s1) : Gj g l R XX QQ own cc nL ret pc L (.int x :: .ref k :: st) (St F J) c1 s1 :=
  g_putG (S2 := St (up2 F k 11 x) J) (ci := 7) (j := 11) (C := RX7) (T := TX7) (N := 12) (ty := .int) (fs := [wR g (St F J) k 0, wR g (St F J) k 1, wR g (St F J) k 2, wR g (St F J) k 3, wR g (St F J) k 4, wR g (St F J) k 5, wR g (St F J) k 6, wI (St F J) k 7, wI (St F J) k 8, wI (St F J) k 9, wI (St F J) k 10, wI (St F J) k 11]) n hd hn hl rfl (by decide) iw7 tyX7 tyX7_ok nmX7 rfl (by decide +kernel) rfl rfl hk.1 (by simp only [wE, hk.2]) (by simp) rfl (by simp only [wE, hk.2]; simp [wI, wR, rv, up2, upd]) (fun q _ h => sh_upF h) kk
theorem gf_8_0 {k : Nat} (n : Nat) (hd : decode cc pc = .ok (.getfield idx, 3)) (hn : pc + 3 = n) (hl : Cond.fieldLink own idx "TruthSumsModel" "thrown" "I" ∈ lw_tbl) (hk : k < 174 ∧ sh k = 8) (kk : Gj g l R XX QQ own cc nL ret n L (.int (F k 0) :: st) (St F J) c1 s1) : Gj g l R XX QQ own cc nL ret pc L (.ref k :: st) (St F J) c1 s1 :=
  g_getG (ci := 8) (j := 0) (C := RX8) (T := TX8) (N := 20) (fs := [wI (St F J) k 0, wR g (St F J) k 1, wI (St F J) k 2, wI (St F J) k 3, wI (St F J) k 4, wI (St F J) k 5, wI (St F J) k 6, wI (St F J) k 7, wR g (St F J) k 8, wI (St F J) k 9, wI (St F J) k 10, wI (St F J) k 11, wI (St F J) k 12, wI (St F J) k 13, wR g (St F J) k 14, wR g (St F J) k 15, wI (St F J) k 16, wI (St F J) k 17, wR g (St F J) k 18, wR g (St F J) k 19]) n hd hn hl rfl (by decide) iw8 hk.1 (by simp only [wE, hk.2]) rfl kk
theorem gp_8_0 {k : Nat} {x : Int32} (n : Nat) (hd : decode cc pc = .ok (.putfield idx, 3)) (hn : pc + 3 = n) (hl : Cond.fieldLink own idx "TruthSumsModel" "thrown" "I" ∈ lw_tbl) (hk : k < 174 ∧ sh k = 8) (kk : Gj g l R XX QQ own cc nL ret n L st (St (up2 F k 0 x) J) c1 s1) : Gj g l R XX QQ own cc nL ret pc L (.int x :: .ref k :: st) (St F J) c1 s1 :=
  g_putG (S2 := St (up2 F k 0 x) J) (ci := 8) (j := 0) (C := RX8) (T := TX8) (N := 20) (ty := .int) (fs := [wI (St F J) k 0, wR g (St F J) k 1, wI (St F J) k 2, wI (St F J) k 3, wI (St F J) k 4, wI (St F J) k 5, wI (St F J) k 6, wI (St F J) k 7, wR g (St F J) k 8, wI (St F J) k 9, wI (St F J) k 10, wI (St F J) k 11, wI (St F J) k 12, wI (St F J) k 13, wR g (St F J) k 14, wR g (St F J) k 15, wI (St F J) k 16, wI (St F J) k 17, wR g (St F J) k 18, wR g (St F J) k 19]) n hd hn hl rfl (by decide) iw8 tyX8 tyX8_ok nmX8 rfl (by decide +kernel) rfl rfl hk.1 (by simp only [wE, hk.2]) (by simp) rfl (by simp only [wE, hk.2]; simp [wI, wR, rv, up2, upd]) (fun q _ h => sh_upF h) kk
theorem gf_8_1 (n : Nat) (hd : decode cc pc = .ok (.getfield idx, 3)) (hn : pc + 3 = n) (hl : Cond.fieldLink own idx "TruthSumsModel" "text" "[I" ∈ lw_tbl) (kk : Gj g l R XX QQ own cc nL ret n L (.ref 168 :: st) (St F J) c1 s1) : Gj g l R XX QQ own cc nL ret pc L (.ref 167 :: st) (St F J) c1 s1 :=
  g_getG (ci := 8) (j := 1) (C := RX8) (T := TX8) (N := 20) (fs := [wI (St F J) 167 0, wR g (St F J) 167 1, wI (St F J) 167 2, wI (St F J) 167 3, wI (St F J) 167 4, wI (St F J) 167 5, wI (St F J) 167 6, wI (St F J) 167 7, wR g (St F J) 167 8, wI (St F J) 167 9, wI (St F J) 167 10, wI (St F J) 167 11, wI (St F J) 167 12, wI (St F J) 167 13, wR g (St F J) 167 14, wR g (St F J) 167 15, wI (St F J) 167 16, wI (St F J) 167 17, wR g (St F J) 167 18, wR g (St F J) 167 19]) n hd hn hl rfl (by decide) iw8 (by decide : 167 < 174) rfl rfl kk
theorem gf_8_2 {k : Nat} (n : Nat) (hd : decode cc pc = .ok (.getfield idx, 3)) (hn : pc + 3 = n) (hl : Cond.fieldLink own idx "TruthSumsModel" "typed" "I" ∈ lw_tbl) (hk : k < 174 ∧ sh k = 8) (kk : Gj g l R XX QQ own cc nL ret n L (.int (F k 2) :: st) (St F J) c1 s1) : Gj g l R XX QQ own cc nL ret pc L (.ref k :: st) (St F J) c1 s1 :=
  g_getG (ci := 8) (j := 2) (C := RX8) (T := TX8) (N := 20) (fs := [wI (St F J) k 0, wR g (St F J) k 1, wI (St F J) k 2, wI (St F J) k 3, wI (St F J) k 4, wI (St F J) k 5, wI (St F J) k 6, wI (St F J) k 7, wR g (St F J) k 8, wI (St F J) k 9, wI (St F J) k 10, wI (St F J) k 11, wI (St F J) k 12, wI (St F J) k 13, wR g (St F J) k 14, wR g (St F J) k 15, wI (St F J) k 16, wI (St F J) k 17, wR g (St F J) k 18, wR g (St F J) k 19]) n hd hn hl rfl (by decide) iw8 hk.1 (by simp only [wE, hk.2]) rfl kk
theorem gp_8_2 {k : Nat} {x : Int32} (n : Nat) (hd : decode cc pc = .ok (.putfield idx, 3)) (hn : pc + 3 = n) (hl : Cond.fieldLink own idx "TruthSumsModel" "typed" "I" ∈ lw_tbl) (hk : k < 174 ∧ sh k = 8) (kk : Gj g l R XX QQ own cc nL ret n L st (St (up2 F k 2 x) J) c1 s1) : Gj g l R XX QQ own cc nL ret pc L (.int x :: .ref k :: st) (St F J) c1 s1 :=
  g_putG (S2 := St (up2 F k 2 x) J) (ci := 8) (j := 2) (C := RX8) (T := TX8) (N := 20) (ty := .int) (fs := [wI (St F J) k 0, wR g (St F J) k 1, wI (St F J) k 2, wI (St F J) k 3, wI (St F J) k 4, wI (St F J) k 5, wI (St F J) k 6, wI (St F J) k 7, wR g (St F J) k 8, wI (St F J) k 9, wI (St F J) k 10, wI (St F J) k 11, wI (St F J) k 12, wI (St F J) k 13, wR g (St F J) k 14, wR g (St F J) k 15, wI (St F J) k 16, wI (St F J) k 17, wR g (St F J) k 18, wR g (St F J) k 19]) n hd hn hl rfl (by decide) iw8 tyX8 tyX8_ok nmX8 rfl (by decide +kernel) rfl rfl hk.1 (by simp only [wE, hk.2]) (by simp) rfl (by simp only [wE, hk.2]; simp [wI, wR, rv, up2, upd]) (fun q _ h => sh_upF h) kk
theorem gf_8_3 {k : Nat} (n : Nat) (hd : decode cc pc = .ok (.getfield idx, 3)) (hn : pc + 3 = n) (hl : Cond.fieldLink own idx "TruthSumsModel" "next" "I" ∈ lw_tbl) (hk : k < 174 ∧ sh k = 8) (kk : Gj g l R XX QQ own cc nL ret n L (.int (F k 3) :: st) (St F J) c1 s1) : Gj g l R XX QQ own cc nL ret pc L (.ref k :: st) (St F J) c1 s1 :=
  g_getG (ci := 8) (j := 3) (C := RX8) (T := TX8) (N := 20) (fs := [wI (St F J) k 0, wR g (St F J) k 1, wI (St F J) k 2, wI (St F J) k 3, wI (St F J) k 4, wI (St F J) k 5, wI (St F J) k 6, wI (St F J) k 7, wR g (St F J) k 8, wI (St F J) k 9, wI (St F J) k 10, wI (St F J) k 11, wI (St F J) k 12, wI (St F J) k 13, wR g (St F J) k 14, wR g (St F J) k 15, wI (St F J) k 16, wI (St F J) k 17, wR g (St F J) k 18, wR g (St F J) k 19]) n hd hn hl rfl (by decide) iw8 hk.1 (by simp only [wE, hk.2]) rfl kk
theorem gp_8_3 {k : Nat} {x : Int32} (n : Nat) (hd : decode cc pc = .ok (.putfield idx, 3)) (hn : pc + 3 = n) (hl : Cond.fieldLink own idx "TruthSumsModel" "next" "I" ∈ lw_tbl) (hk : k < 174 ∧ sh k = 8) (kk : Gj g l R XX QQ own cc nL ret n L st (St (up2 F k 3 x) J) c1 s1) : Gj g l R XX QQ own cc nL ret pc L (.int x :: .ref k :: st) (St F J) c1 s1 :=
  g_putG (S2 := St (up2 F k 3 x) J) (ci := 8) (j := 3) (C := RX8) (T := TX8) (N := 20) (ty := .int) (fs := [wI (St F J) k 0, wR g (St F J) k 1, wI (St F J) k 2, wI (St F J) k 3, wI (St F J) k 4, wI (St F J) k 5, wI (St F J) k 6, wI (St F J) k 7, wR g (St F J) k 8, wI (St F J) k 9, wI (St F J) k 10, wI (St F J) k 11, wI (St F J) k 12, wI (St F J) k 13, wR g (St F J) k 14, wR g (St F J) k 15, wI (St F J) k 16, wI (St F J) k 17, wR g (St F J) k 18, wR g (St F J) k 19]) n hd hn hl rfl (by decide) iw8 tyX8 tyX8_ok nmX8 rfl (by decide +kernel) rfl rfl hk.1 (by simp only [wE, hk.2]) (by simp) rfl (by simp only [wE, hk.2]; simp [wI, wR, rv, up2, upd]) (fun q _ h => sh_upF h) kk
theorem gf_8_4 {k : Nat} (n : Nat) (hd : decode cc pc = .ok (.getfield idx, 3)) (hn : pc + 3 = n) (hl : Cond.fieldLink own idx "TruthSumsModel" "token" "I" ∈ lw_tbl) (hk : k < 174 ∧ sh k = 8) (kk : Gj g l R XX QQ own cc nL ret n L (.int (F k 4) :: st) (St F J) c1 s1) : Gj g l R XX QQ own cc nL ret pc L (.ref k :: st) (St F J) c1 s1 :=
  g_getG (ci := 8) (j := 4) (C := RX8) (T := TX8) (N := 20) (fs := [wI (St F J) k 0, wR g (St F J) k 1, wI (St F J) k 2, wI (St F J) k 3, wI (St F J) k 4, wI (St F J) k 5, wI (St F J) k 6, wI (St F J) k 7, wR g (St F J) k 8, wI (St F J) k 9, wI (St F J) k 10, wI (St F J) k 11, wI (St F J) k 12, wI (St F J) k 13, wR g (St F J) k 14, wR g (St F J) k 15, wI (St F J) k 16, wI (St F J) k 17, wR g (St F J) k 18, wR g (St F J) k 19]) n hd hn hl rfl (by decide) iw8 hk.1 (by simp only [wE, hk.2]) rfl kk
theorem gp_8_4 {k : Nat} {x : Int32} (n : Nat) (hd : decode cc pc = .ok (.putfield idx, 3)) (hn : pc + 3 = n) (hl : Cond.fieldLink own idx "TruthSumsModel" "token" "I" ∈ lw_tbl) (hk : k < 174 ∧ sh k = 8) (kk : Gj g l R XX QQ own cc nL ret n L st (St (up2 F k 4 x) J) c1 s1) : Gj g l R XX QQ own cc nL ret pc L (.int x :: .ref k :: st) (St F J) c1 s1 :=
  g_putG (S2 := St (up2 F k 4 x) J) (ci := 8) (j := 4) (C := RX8) (T := TX8) (N := 20) (ty := .int) (fs := [wI (St F J) k 0, wR g (St F J) k 1, wI (St F J) k 2, wI (St F J) k 3, wI (St F J) k 4, wI (St F J) k 5, wI (St F J) k 6, wI (St F J) k 7, wR g (St F J) k 8, wI (St F J) k 9, wI (St F J) k 10, wI (St F J) k 11, wI (St F J) k 12, wI (St F J) k 13, wR g (St F J) k 14, wR g (St F J) k 15, wI (St F J) k 16, wI (St F J) k 17, wR g (St F J) k 18, wR g (St F J) k 19]) n hd hn hl rfl (by decide) iw8 tyX8 tyX8_ok nmX8 rfl (by decide +kernel) rfl rfl hk.1 (by simp only [wE, hk.2]) (by simp) rfl (by simp only [wE, hk.2]; simp [wI, wR, rv, up2, upd]) (fun q _ h => sh_upF h) kk
theorem gf_8_5 {k : Nat} (n : Nat) (hd : decode cc pc = .ok (.getfield idx, 3)) (hn : pc + 3 = n) (hl : Cond.fieldLink own idx "TruthSumsModel" "place" "I" ∈ lw_tbl) (hk : k < 174 ∧ sh k = 8) (kk : Gj g l R XX QQ own cc nL ret n L (.int (F k 5) :: st) (St F J) c1 s1) : Gj g l R XX QQ own cc nL ret pc L (.ref k :: st) (St F J) c1 s1 :=
  g_getG (ci := 8) (j := 5) (C := RX8) (T := TX8) (N := 20) (fs := [wI (St F J) k 0, wR g (St F J) k 1, wI (St F J) k 2, wI (St F J) k 3, wI (St F J) k 4, wI (St F J) k 5, wI (St F J) k 6, wI (St F J) k 7, wR g (St F J) k 8, wI (St F J) k 9, wI (St F J) k 10, wI (St F J) k 11, wI (St F J) k 12, wI (St F J) k 13, wR g (St F J) k 14, wR g (St F J) k 15, wI (St F J) k 16, wI (St F J) k 17, wR g (St F J) k 18, wR g (St F J) k 19]) n hd hn hl rfl (by decide) iw8 hk.1 (by simp only [wE, hk.2]) rfl kk
theorem gp_8_5 {k : Nat} {x : Int32} (n : Nat) (hd : decode cc pc = .ok (.putfield idx, 3)) (hn : pc + 3 = n) (hl : Cond.fieldLink own idx "TruthSumsModel" "place" "I" ∈ lw_tbl) (hk : k < 174 ∧ sh k = 8) (kk : Gj g l R XX QQ own cc nL ret n L st (St (up2 F k 5 x) J) c1 s1) : Gj g l R XX QQ own cc nL ret pc L (.int x :: .ref k :: st) (St F J) c1 s1 :=
  g_putG (S2 := St (up2 F k 5 x) J) (ci := 8) (j := 5) (C := RX8) (T := TX8) (N := 20) (ty := .int) (fs := [wI (St F J) k 0, wR g (St F J) k 1, wI (St F J) k 2, wI (St F J) k 3, wI (St F J) k 4, wI (St F J) k 5, wI (St F J) k 6, wI (St F J) k 7, wR g (St F J) k 8, wI (St F J) k 9, wI (St F J) k 10, wI (St F J) k 11, wI (St F J) k 12, wI (St F J) k 13, wR g (St F J) k 14, wR g (St F J) k 15, wI (St F J) k 16, wI (St F J) k 17, wR g (St F J) k 18, wR g (St F J) k 19]) n hd hn hl rfl (by decide) iw8 tyX8 tyX8_ok nmX8 rfl (by decide +kernel) rfl rfl hk.1 (by simp only [wE, hk.2]) (by simp) rfl (by simp only [wE, hk.2]; simp [wI, wR, rv, up2, upd]) (fun q _ h => sh_upF h) kk
theorem gf_8_6 {k : Nat} (n : Nat) (hd : decode cc pc = .ok (.getfield idx, 3)) (hn : pc + 3 = n) (hl : Cond.fieldLink own idx "TruthSumsModel" "value" "I" ∈ lw_tbl) (hk : k < 174 ∧ sh k = 8) (kk : Gj g l R XX QQ own cc nL ret n L (.int (F k 6) :: st) (St F J) c1 s1) : Gj g l R XX QQ own cc nL ret pc L (.ref k :: st) (St F J) c1 s1 :=
  g_getG (ci := 8) (j := 6) (C := RX8) (T := TX8) (N := 20) (fs := [wI (St F J) k 0, wR g (St F J) k 1, wI (St F J) k 2, wI (St F J) k 3, wI (St F J) k 4, wI (St F J) k 5, wI (St F J) k 6, wI (St F J) k 7, wR g (St F J) k 8, wI (St F J) k 9, wI (St F J) k 10, wI (St F J) k 11, wI (St F J) k 12, wI (St F J) k 13, wR g (St F J) k 14, wR g (St F J) k 15, wI (St F J) k 16, wI (St F J) k 17, wR g (St F J) k 18, wR g (St F J) k 19]) n hd hn hl rfl (by decide) iw8 hk.1 (by simp only [wE, hk.2]) rfl kk
theorem gp_8_6 {k : Nat} {x : Int32} (n : Nat) (hd : decode cc pc = .ok (.putfield idx, 3)) (hn : pc + 3 = n) (hl : Cond.fieldLink own idx "TruthSumsModel" "value" "I" ∈ lw_tbl) (hk : k < 174 ∧ sh k = 8) (kk : Gj g l R XX QQ own cc nL ret n L st (St (up2 F k 6 x) J) c1 s1) : Gj g l R XX QQ own cc nL ret pc L (.int x :: .ref k :: st) (St F J) c1 s1 :=
  g_putG (S2 := St (up2 F k 6 x) J) (ci := 8) (j := 6) (C := RX8) (T := TX8) (N := 20) (ty := .int) (fs := [wI (St F J) k 0, wR g (St F J) k 1, wI (St F J) k 2, wI (St F J) k 3, wI (St F J) k 4, wI (St F J) k 5, wI (St F J) k 6, wI (St F J) k 7, wR g (St F J) k 8, wI (St F J) k 9, wI (St F J) k 10, wI (St F J) k 11, wI (St F J) k 12, wI (St F J) k 13, wR g (St F J) k 14, wR g (St F J) k 15, wI (St F J) k 16, wI (St F J) k 17, wR g (St F J) k 18, wR g (St F J) k 19]) n hd hn hl rfl (by decide) iw8 tyX8 tyX8_ok nmX8 rfl (by decide +kernel) rfl rfl hk.1 (by simp only [wE, hk.2]) (by simp) rfl (by simp only [wE, hk.2]; simp [wI, wR, rv, up2, upd]) (fun q _ h => sh_upF h) kk
theorem gf_8_7 {k : Nat} (n : Nat) (hd : decode cc pc = .ok (.getfield idx, 3)) (hn : pc + 3 = n) (hl : Cond.fieldLink own idx "TruthSumsModel" "fault" "I" ∈ lw_tbl) (hk : k < 174 ∧ sh k = 8) (kk : Gj g l R XX QQ own cc nL ret n L (.int (F k 7) :: st) (St F J) c1 s1) : Gj g l R XX QQ own cc nL ret pc L (.ref k :: st) (St F J) c1 s1 :=
  g_getG (ci := 8) (j := 7) (C := RX8) (T := TX8) (N := 20) (fs := [wI (St F J) k 0, wR g (St F J) k 1, wI (St F J) k 2, wI (St F J) k 3, wI (St F J) k 4, wI (St F J) k 5, wI (St F J) k 6, wI (St F J) k 7, wR g (St F J) k 8, wI (St F J) k 9, wI (St F J) k 10, wI (St F J) k 11, wI (St F J) k 12, wI (St F J) k 13, wR g (St F J) k 14, wR g (St F J) k 15, wI (St F J) k 16, wI (St F J) k 17, wR g (St F J) k 18, wR g (St F J) k 19]) n hd hn hl rfl (by decide) iw8 hk.1 (by simp only [wE, hk.2]) rfl kk
theorem gp_8_7 {k : Nat} {x : Int32} (n : Nat) (hd : decode cc pc = .ok (.putfield idx, 3)) (hn : pc + 3 = n) (hl : Cond.fieldLink own idx "TruthSumsModel" "fault" "I" ∈ lw_tbl) (hk : k < 174 ∧ sh k = 8) (kk : Gj g l R XX QQ own cc nL ret n L st (St (up2 F k 7 x) J) c1 s1) : Gj g l R XX QQ own cc nL ret pc L (.int x :: .ref k :: st) (St F J) c1 s1 :=
  g_putG (S2 := St (up2 F k 7 x) J) (ci := 8) (j := 7) (C := RX8) (T := TX8) (N := 20) (ty := .int) (fs := [wI (St F J) k 0, wR g (St F J) k 1, wI (St F J) k 2, wI (St F J) k 3, wI (St F J) k 4, wI (St F J) k 5, wI (St F J) k 6, wI (St F J) k 7, wR g (St F J) k 8, wI (St F J) k 9, wI (St F J) k 10, wI (St F J) k 11, wI (St F J) k 12, wI (St F J) k 13, wR g (St F J) k 14, wR g (St F J) k 15, wI (St F J) k 16, wI (St F J) k 17, wR g (St F J) k 18, wR g (St F J) k 19]) n hd hn hl rfl (by decide) iw8 tyX8 tyX8_ok nmX8 rfl (by decide +kernel) rfl rfl hk.1 (by simp only [wE, hk.2]) (by simp) rfl (by simp only [wE, hk.2]; simp [wI, wR, rv, up2, upd]) (fun q _ h => sh_upF h) kk
theorem gf_8_8 (n : Nat) (hd : decode cc pc = .ok (.getfield idx, 3)) (hn : pc + 3 = n) (hl : Cond.fieldLink own idx "TruthSumsModel" "line" "[I" ∈ lw_tbl) (kk : Gj g l R XX QQ own cc nL ret n L (.ref 169 :: st) (St F J) c1 s1) : Gj g l R XX QQ own cc nL ret pc L (.ref 167 :: st) (St F J) c1 s1 :=
  g_getG (ci := 8) (j := 8) (C := RX8) (T := TX8) (N := 20) (fs := [wI (St F J) 167 0, wR g (St F J) 167 1, wI (St F J) 167 2, wI (St F J) 167 3, wI (St F J) 167 4, wI (St F J) 167 5, wI (St F J) 167 6, wI (St F J) 167 7, wR g (St F J) 167 8, wI (St F J) 167 9, wI (St F J) 167 10, wI (St F J) 167 11, wI (St F J) 167 12, wI (St F J) 167 13, wR g (St F J) 167 14, wR g (St F J) 167 15, wI (St F J) 167 16, wI (St F J) 167 17, wR g (St F J) 167 18, wR g (St F J) 167 19]) n hd hn hl rfl (by decide) iw8 (by decide : 167 < 174) rfl rfl kk
theorem gf_8_9 {k : Nat} (n : Nat) (hd : decode cc pc = .ok (.getfield idx, 3)) (hn : pc + 3 = n) (hl : Cond.fieldLink own idx "TruthSumsModel" "given" "I" ∈ lw_tbl) (hk : k < 174 ∧ sh k = 8) (kk : Gj g l R XX QQ own cc nL ret n L (.int (F k 9) :: st) (St F J) c1 s1) : Gj g l R XX QQ own cc nL ret pc L (.ref k :: st) (St F J) c1 s1 :=
  g_getG (ci := 8) (j := 9) (C := RX8) (T := TX8) (N := 20) (fs := [wI (St F J) k 0, wR g (St F J) k 1, wI (St F J) k 2, wI (St F J) k 3, wI (St F J) k 4, wI (St F J) k 5, wI (St F J) k 6, wI (St F J) k 7, wR g (St F J) k 8, wI (St F J) k 9, wI (St F J) k 10, wI (St F J) k 11, wI (St F J) k 12, wI (St F J) k 13, wR g (St F J) k 14, wR g (St F J) k 15, wI (St F J) k 16, wI (St F J) k 17, wR g (St F J) k 18, wR g (St F J) k 19]) n hd hn hl rfl (by decide) iw8 hk.1 (by simp only [wE, hk.2]) rfl kk
theorem gp_8_9 {k : Nat} {x : Int32} (n : Nat) (hd : decode cc pc = .ok (.putfield idx, 3)) (hn : pc + 3 = n) (hl : Cond.fieldLink own idx "TruthSumsModel" "given" "I" ∈ lw_tbl) (hk : k < 174 ∧ sh k = 8) (kk : Gj g l R XX QQ own cc nL ret n L st (St (up2 F k 9 x) J) c1 s1) : Gj g l R XX QQ own cc nL ret pc L (.int x :: .ref k :: st) (St F J) c1 s1 :=
  g_putG (S2 := St (up2 F k 9 x) J) (ci := 8) (j := 9) (C := RX8) (T := TX8) (N := 20) (ty := .int) (fs := [wI (St F J) k 0, wR g (St F J) k 1, wI (St F J) k 2, wI (St F J) k 3, wI (St F J) k 4, wI (St F J) k 5, wI (St F J) k 6, wI (St F J) k 7, wR g (St F J) k 8, wI (St F J) k 9, wI (St F J) k 10, wI (St F J) k 11, wI (St F J) k 12, wI (St F J) k 13, wR g (St F J) k 14, wR g (St F J) k 15, wI (St F J) k 16, wI (St F J) k 17, wR g (St F J) k 18, wR g (St F J) k 19]) n hd hn hl rfl (by decide) iw8 tyX8 tyX8_ok nmX8 rfl (by decide +kernel) rfl rfl hk.1 (by simp only [wE, hk.2]) (by simp) rfl (by simp only [wE, hk.2]; simp [wI, wR, rv, up2, upd]) (fun q _ h => sh_upF h) kk
theorem gf_8_10 {k : Nat} (n : Nat) (hd : decode cc pc = .ok (.getfield idx, 3)) (hn : pc + 3 = n) (hl : Cond.fieldLink own idx "TruthSumsModel" "proved" "I" ∈ lw_tbl) (hk : k < 174 ∧ sh k = 8) (kk : Gj g l R XX QQ own cc nL ret n L (.int (F k 10) :: st) (St F J) c1 s1) : Gj g l R XX QQ own cc nL ret pc L (.ref k :: st) (St F J) c1 s1 :=
  g_getG (ci := 8) (j := 10) (C := RX8) (T := TX8) (N := 20) (fs := [wI (St F J) k 0, wR g (St F J) k 1, wI (St F J) k 2, wI (St F J) k 3, wI (St F J) k 4, wI (St F J) k 5, wI (St F J) k 6, wI (St F J) k 7, wR g (St F J) k 8, wI (St F J) k 9, wI (St F J) k 10, wI (St F J) k 11, wI (St F J) k 12, wI (St F J) k 13, wR g (St F J) k 14, wR g (St F J) k 15, wI (St F J) k 16, wI (St F J) k 17, wR g (St F J) k 18, wR g (St F J) k 19]) n hd hn hl rfl (by decide) iw8 hk.1 (by simp only [wE, hk.2]) rfl kk
theorem gp_8_10 {k : Nat} {x : Int32} (n : Nat) (hd : decode cc pc = .ok (.putfield idx, 3)) (hn : pc + 3 = n) (hl : Cond.fieldLink own idx "TruthSumsModel" "proved" "I" ∈ lw_tbl) (hk : k < 174 ∧ sh k = 8) (kk : Gj g l R XX QQ own cc nL ret n L st (St (up2 F k 10 x) J) c1 s1) : Gj g l R XX QQ own cc nL ret pc L (.int x :: .ref k :: st) (St F J) c1 s1 :=
  g_putG (S2 := St (up2 F k 10 x) J) (ci := 8) (j := 10) (C := RX8) (T := TX8) (N := 20) (ty := .int) (fs := [wI (St F J) k 0, wR g (St F J) k 1, wI (St F J) k 2, wI (St F J) k 3, wI (St F J) k 4, wI (St F J) k 5, wI (St F J) k 6, wI (St F J) k 7, wR g (St F J) k 8, wI (St F J) k 9, wI (St F J) k 10, wI (St F J) k 11, wI (St F J) k 12, wI (St F J) k 13, wR g (St F J) k 14, wR g (St F J) k 15, wI (St F J) k 16, wI (St F J) k 17, wR g (St F J) k 18, wR g (St F J) k 19]) n hd hn hl rfl (by decide) iw8 tyX8 tyX8_ok nmX8 rfl (by decide +kernel) rfl rfl hk.1 (by simp only [wE, hk.2]) (by simp) rfl (by simp only [wE, hk.2]; simp [wI, wR, rv, up2, upd]) (fun q _ h => sh_upF h) kk
theorem gf_8_11 {k : Nat} (n : Nat) (hd : decode cc pc = .ok (.getfield idx, 3)) (hn : pc + 3 = n) (hl : Cond.fieldLink own idx "TruthSumsModel" "steps" "I" ∈ lw_tbl) (hk : k < 174 ∧ sh k = 8) (kk : Gj g l R XX QQ own cc nL ret n L (.int (F k 11) :: st) (St F J) c1 s1) : Gj g l R XX QQ own cc nL ret pc L (.ref k :: st) (St F J) c1 s1 :=
  g_getG (ci := 8) (j := 11) (C := RX8) (T := TX8) (N := 20) (fs := [wI (St F J) k 0, wR g (St F J) k 1, wI (St F J) k 2, wI (St F J) k 3, wI (St F J) k 4, wI (St F J) k 5, wI (St F J) k 6, wI (St F J) k 7, wR g (St F J) k 8, wI (St F J) k 9, wI (St F J) k 10, wI (St F J) k 11, wI (St F J) k 12, wI (St F J) k 13, wR g (St F J) k 14, wR g (St F J) k 15, wI (St F J) k 16, wI (St F J) k 17, wR g (St F J) k 18, wR g (St F J) k 19]) n hd hn hl rfl (by decide) iw8 hk.1 (by simp only [wE, hk.2]) rfl kk
theorem gp_8_11 {k : Nat} {x : Int32} (n : Nat) (hd : decode cc pc = .ok (.putfield idx, 3)) (hn : pc + 3 = n) (hl : Cond.fieldLink own idx "TruthSumsModel" "steps" "I" ∈ lw_tbl) (hk : k < 174 ∧ sh k = 8) (kk : Gj g l R XX QQ own cc nL ret n L st (St (up2 F k 11 x) J) c1 s1) : Gj g l R XX QQ own cc nL ret pc L (.int x :: .ref k :: st) (St F J) c1 s1 :=
  g_putG (S2 := St (up2 F k 11 x) J) (ci := 8) (j := 11) (C := RX8) (T := TX8) (N := 20) (ty := .int) (fs := [wI (St F J) k 0, wR g (St F J) k 1, wI (St F J) k 2, wI (St F J) k 3, wI (St F J) k 4, wI (St F J) k 5, wI (St F J) k 6, wI (St F J) k 7, wR g (St F J) k 8, wI (St F J) k 9, wI (St F J) k 10, wI (St F J) k 11, wI (St F J) k 12, wI (St F J) k 13, wR g (St F J) k 14, wR g (St F J) k 15, wI (St F J) k 16, wI (St F J) k 17, wR g (St F J) k 18, wR g (St F J) k 19]) n hd hn hl rfl (by decide) iw8 tyX8 tyX8_ok nmX8 rfl (by decide +kernel) rfl rfl hk.1 (by simp only [wE, hk.2]) (by simp) rfl (by simp only [wE, hk.2]; simp [wI, wR, rv, up2, upd]) (fun q _ h => sh_upF h) kk
theorem gf_8_12 {k : Nat} (n : Nat) (hd : decode cc pc = .ok (.getfield idx, 3)) (hn : pc + 3 = n) (hl : Cond.fieldLink own idx "TruthSumsModel" "wrongStep" "I" ∈ lw_tbl) (hk : k < 174 ∧ sh k = 8) (kk : Gj g l R XX QQ own cc nL ret n L (.int (F k 12) :: st) (St F J) c1 s1) : Gj g l R XX QQ own cc nL ret pc L (.ref k :: st) (St F J) c1 s1 :=
  g_getG (ci := 8) (j := 12) (C := RX8) (T := TX8) (N := 20) (fs := [wI (St F J) k 0, wR g (St F J) k 1, wI (St F J) k 2, wI (St F J) k 3, wI (St F J) k 4, wI (St F J) k 5, wI (St F J) k 6, wI (St F J) k 7, wR g (St F J) k 8, wI (St F J) k 9, wI (St F J) k 10, wI (St F J) k 11, wI (St F J) k 12, wI (St F J) k 13, wR g (St F J) k 14, wR g (St F J) k 15, wI (St F J) k 16, wI (St F J) k 17, wR g (St F J) k 18, wR g (St F J) k 19]) n hd hn hl rfl (by decide) iw8 hk.1 (by simp only [wE, hk.2]) rfl kk
theorem gp_8_12 {k : Nat} {x : Int32} (n : Nat) (hd : decode cc pc = .ok (.putfield idx, 3)) (hn : pc + 3 = n) (hl : Cond.fieldLink own idx "TruthSumsModel" "wrongStep" "I" ∈ lw_tbl) (hk : k < 174 ∧ sh k = 8) (kk : Gj g l R XX QQ own cc nL ret n L st (St (up2 F k 12 x) J) c1 s1) : Gj g l R XX QQ own cc nL ret pc L (.int x :: .ref k :: st) (St F J) c1 s1 :=
  g_putG (S2 := St (up2 F k 12 x) J) (ci := 8) (j := 12) (C := RX8) (T := TX8) (N := 20) (ty := .int) (fs := [wI (St F J) k 0, wR g (St F J) k 1, wI (St F J) k 2, wI (St F J) k 3, wI (St F J) k 4, wI (St F J) k 5, wI (St F J) k 6, wI (St F J) k 7, wR g (St F J) k 8, wI (St F J) k 9, wI (St F J) k 10, wI (St F J) k 11, wI (St F J) k 12, wI (St F J) k 13, wR g (St F J) k 14, wR g (St F J) k 15, wI (St F J) k 16, wI (St F J) k 17, wR g (St F J) k 18, wR g (St F J) k 19]) n hd hn hl rfl (by decide) iw8 tyX8 tyX8_ok nmX8 rfl (by decide +kernel) rfl rfl hk.1 (by simp only [wE, hk.2]) (by simp) rfl (by simp only [wE, hk.2]; simp [wI, wR, rv, up2, upd]) (fun q _ h => sh_upF h) kk
theorem gf_8_13 {k : Nat} (n : Nat) (hd : decode cc pc = .ok (.getfield idx, 3)) (hn : pc + 3 = n) (hl : Cond.fieldLink own idx "TruthSumsModel" "wrongBy" "I" ∈ lw_tbl) (hk : k < 174 ∧ sh k = 8) (kk : Gj g l R XX QQ own cc nL ret n L (.int (F k 13) :: st) (St F J) c1 s1) : Gj g l R XX QQ own cc nL ret pc L (.ref k :: st) (St F J) c1 s1 :=
  g_getG (ci := 8) (j := 13) (C := RX8) (T := TX8) (N := 20) (fs := [wI (St F J) k 0, wR g (St F J) k 1, wI (St F J) k 2, wI (St F J) k 3, wI (St F J) k 4, wI (St F J) k 5, wI (St F J) k 6, wI (St F J) k 7, wR g (St F J) k 8, wI (St F J) k 9, wI (St F J) k 10, wI (St F J) k 11, wI (St F J) k 12, wI (St F J) k 13, wR g (St F J) k 14, wR g (St F J) k 15, wI (St F J) k 16, wI (St F J) k 17, wR g (St F J) k 18, wR g (St F J) k 19]) n hd hn hl rfl (by decide) iw8 hk.1 (by simp only [wE, hk.2]) rfl kk
theorem gp_8_13 {k : Nat} {x : Int32} (n : Nat) (hd : decode cc pc = .ok (.putfield idx, 3)) (hn : pc + 3 = n) (hl : Cond.fieldLink own idx "TruthSumsModel" "wrongBy" "I" ∈ lw_tbl) (hk : k < 174 ∧ sh k = 8) (kk : Gj g l R XX QQ own cc nL ret n L st (St (up2 F k 13 x) J) c1 s1) : Gj g l R XX QQ own cc nL ret pc L (.int x :: .ref k :: st) (St F J) c1 s1 :=
  g_putG (S2 := St (up2 F k 13 x) J) (ci := 8) (j := 13) (C := RX8) (T := TX8) (N := 20) (ty := .int) (fs := [wI (St F J) k 0, wR g (St F J) k 1, wI (St F J) k 2, wI (St F J) k 3, wI (St F J) k 4, wI (St F J) k 5, wI (St F J) k 6, wI (St F J) k 7, wR g (St F J) k 8, wI (St F J) k 9, wI (St F J) k 10, wI (St F J) k 11, wI (St F J) k 12, wI (St F J) k 13, wR g (St F J) k 14, wR g (St F J) k 15, wI (St F J) k 16, wI (St F J) k 17, wR g (St F J) k 18, wR g (St F J) k 19]) n hd hn hl rfl (by decide) iw8 tyX8 tyX8_ok nmX8 rfl (by decide +kernel) rfl rfl hk.1 (by simp only [wE, hk.2]) (by simp) rfl (by simp only [wE, hk.2]; simp [wI, wR, rv, up2, upd]) (fun q _ h => sh_upF h) kk
theorem gf_8_14 (n : Nat) (hd : decode cc pc = .ok (.getfield idx, 3)) (hn : pc + 3 = n) (hl : Cond.fieldLink own idx "TruthSumsModel" "draft" "[I" ∈ lw_tbl) (kk : Gj g l R XX QQ own cc nL ret n L (.ref 170 :: st) (St F J) c1 s1) : Gj g l R XX QQ own cc nL ret pc L (.ref 167 :: st) (St F J) c1 s1 :=
  g_getG (ci := 8) (j := 14) (C := RX8) (T := TX8) (N := 20) (fs := [wI (St F J) 167 0, wR g (St F J) 167 1, wI (St F J) 167 2, wI (St F J) 167 3, wI (St F J) 167 4, wI (St F J) 167 5, wI (St F J) 167 6, wI (St F J) 167 7, wR g (St F J) 167 8, wI (St F J) 167 9, wI (St F J) 167 10, wI (St F J) 167 11, wI (St F J) 167 12, wI (St F J) 167 13, wR g (St F J) 167 14, wR g (St F J) 167 15, wI (St F J) 167 16, wI (St F J) 167 17, wR g (St F J) 167 18, wR g (St F J) 167 19]) n hd hn hl rfl (by decide) iw8 (by decide : 167 < 174) rfl rfl kk
theorem gf_8_15 (n : Nat) (hd : decode cc pc = .ok (.getfield idx, 3)) (hn : pc + 3 = n) (hl : Cond.fieldLink own idx "TruthSumsModel" "step" "[I" ∈ lw_tbl) (kk : Gj g l R XX QQ own cc nL ret n L (.ref 171 :: st) (St F J) c1 s1) : Gj g l R XX QQ own cc nL ret pc L (.ref 167 :: st) (St F J) c1 s1 :=
  g_getG (ci := 8) (j := 15) (C := RX8) (T := TX8) (N := 20) (fs := [wI (St F J) 167 0, wR g (St F J) 167 1, wI (St F J) 167 2, wI (St F J) 167 3, wI (St F J) 167 4, wI (St F J) 167 5, wI (St F J) 167 6, wI (St F J) 167 7, wR g (St F J) 167 8, wI (St F J) 167 9, wI (St F J) 167 10, wI (St F J) 167 11, wI (St F J) 167 12, wI (St F J) 167 13, wR g (St F J) 167 14, wR g (St F J) 167 15, wI (St F J) 167 16, wI (St F J) 167 17, wR g (St F J) 167 18, wR g (St F J) 167 19]) n hd hn hl rfl (by decide) iw8 (by decide : 167 < 174) rfl rfl kk
theorem gf_8_16 {k : Nat} (n : Nat) (hd : decode cc pc = .ok (.getfield idx, 3)) (hn : pc + 3 = n) (hl : Cond.fieldLink own idx "TruthSumsModel" "so" "I" ∈ lw_tbl) (hk : k < 174 ∧ sh k = 8) (kk : Gj g l R XX QQ own cc nL ret n L (.int (F k 16) :: st) (St F J) c1 s1) : Gj g l R XX QQ own cc nL ret pc L (.ref k :: st) (St F J) c1 s1 :=
  g_getG (ci := 8) (j := 16) (C := RX8) (T := TX8) (N := 20) (fs := [wI (St F J) k 0, wR g (St F J) k 1, wI (St F J) k 2, wI (St F J) k 3, wI (St F J) k 4, wI (St F J) k 5, wI (St F J) k 6, wI (St F J) k 7, wR g (St F J) k 8, wI (St F J) k 9, wI (St F J) k 10, wI (St F J) k 11, wI (St F J) k 12, wI (St F J) k 13, wR g (St F J) k 14, wR g (St F J) k 15, wI (St F J) k 16, wI (St F J) k 17, wR g (St F J) k 18, wR g (St F J) k 19]) n hd hn hl rfl (by decide) iw8 hk.1 (by simp only [wE, hk.2]) rfl kk
theorem gp_8_16 {k : Nat} {x : Int32} (n : Nat) (hd : decode cc pc = .ok (.putfield idx, 3)) (hn : pc + 3 = n) (hl : Cond.fieldLink own idx "TruthSumsModel" "so" "I" ∈ lw_tbl) (hk : k < 174 ∧ sh k = 8) (kk : Gj g l R XX QQ own cc nL ret n L st (St (up2 F k 16 x) J) c1 s1) : Gj g l R XX QQ own cc nL ret pc L (.int x :: .ref k :: st) (St F J) c1 s1 :=
  g_putG (S2 := St (up2 F k 16 x) J) (ci := 8) (j := 16) (C := RX8) (T := TX8) (N := 20) (ty := .int) (fs := [wI (St F J) k 0, wR g (St F J) k 1, wI (St F J) k 2, wI (St F J) k 3, wI (St F J) k 4, wI (St F J) k 5, wI (St F J) k 6, wI (St F J) k 7, wR g (St F J) k 8, wI (St F J) k 9, wI (St F J) k 10, wI (St F J) k 11, wI (St F J) k 12, wI (St F J) k 13, wR g (St F J) k 14, wR g (St F J) k 15, wI (St F J) k 16, wI (St F J) k 17, wR g (St F J) k 18, wR g (St F J) k 19]) n hd hn hl rfl (by decide) iw8 tyX8 tyX8_ok nmX8 rfl (by decide +kernel) rfl rfl hk.1 (by simp only [wE, hk.2]) (by simp) rfl (by simp only [wE, hk.2]; simp [wI, wR, rv, up2, upd]) (fun q _ h => sh_upF h) kk
theorem gf_8_17 {k : Nat} (n : Nat) (hd : decode cc pc = .ok (.getfield idx, 3)) (hn : pc + 3 = n) (hl : Cond.fieldLink own idx "TruthSumsModel" "not" "I" ∈ lw_tbl) (hk : k < 174 ∧ sh k = 8) (kk : Gj g l R XX QQ own cc nL ret n L (.int (F k 17) :: st) (St F J) c1 s1) : Gj g l R XX QQ own cc nL ret pc L (.ref k :: st) (St F J) c1 s1 :=
  g_getG (ci := 8) (j := 17) (C := RX8) (T := TX8) (N := 20) (fs := [wI (St F J) k 0, wR g (St F J) k 1, wI (St F J) k 2, wI (St F J) k 3, wI (St F J) k 4, wI (St F J) k 5, wI (St F J) k 6, wI (St F J) k 7, wR g (St F J) k 8, wI (St F J) k 9, wI (St F J) k 10, wI (St F J) k 11, wI (St F J) k 12, wI (St F J) k 13, wR g (St F J) k 14, wR g (St F J) k 15, wI (St F J) k 16, wI (St F J) k 17, wR g (St F J) k 18, wR g (St F J) k 19]) n hd hn hl rfl (by decide) iw8 hk.1 (by simp only [wE, hk.2]) rfl kk
theorem gp_8_17 {k : Nat} {x : Int32} (n : Nat) (hd : decode cc pc = .ok (.putfield idx, 3)) (hn : pc + 3 = n) (hl : Cond.fieldLink own idx "TruthSumsModel" "not" "I" ∈ lw_tbl) (hk : k < 174 ∧ sh k = 8) (kk : Gj g l R XX QQ own cc nL ret n L st (St (up2 F k 17 x) J) c1 s1) : Gj g l R XX QQ own cc nL ret pc L (.int x :: .ref k :: st) (St F J) c1 s1 :=
  g_putG (S2 := St (up2 F k 17 x) J) (ci := 8) (j := 17) (C := RX8) (T := TX8) (N := 20) (ty := .int) (fs := [wI (St F J) k 0, wR g (St F J) k 1, wI (St F J) k 2, wI (St F J) k 3, wI (St F J) k 4, wI (St F J) k 5, wI (St F J) k 6, wI (St F J) k 7, wR g (St F J) k 8, wI (St F J) k 9, wI (St F J) k 10, wI (St F J) k 11, wI (St F J) k 12, wI (St F J) k 13, wR g (St F J) k 14, wR g (St F J) k 15, wI (St F J) k 16, wI (St F J) k 17, wR g (St F J) k 18, wR g (St F J) k 19]) n hd hn hl rfl (by decide) iw8 tyX8 tyX8_ok nmX8 rfl (by decide +kernel) rfl rfl hk.1 (by simp only [wE, hk.2]) (by simp) rfl (by simp only [wE, hk.2]; simp [wI, wR, rv, up2, upd]) (fun q _ h => sh_upF h) kk
theorem gf_8_18 (n : Nat) (hd : decode cc pc = .ok (.getfield idx, 3)) (hn : pc + 3 = n) (hl : Cond.fieldLink own idx "TruthSumsModel" "costs" "[I" ∈ lw_tbl) (kk : Gj g l R XX QQ own cc nL ret n L (.ref 172 :: st) (St F J) c1 s1) : Gj g l R XX QQ own cc nL ret pc L (.ref 167 :: st) (St F J) c1 s1 :=
  g_getG (ci := 8) (j := 18) (C := RX8) (T := TX8) (N := 20) (fs := [wI (St F J) 167 0, wR g (St F J) 167 1, wI (St F J) 167 2, wI (St F J) 167 3, wI (St F J) 167 4, wI (St F J) 167 5, wI (St F J) 167 6, wI (St F J) 167 7, wR g (St F J) 167 8, wI (St F J) 167 9, wI (St F J) 167 10, wI (St F J) 167 11, wI (St F J) 167 12, wI (St F J) 167 13, wR g (St F J) 167 14, wR g (St F J) 167 15, wI (St F J) 167 16, wI (St F J) 167 17, wR g (St F J) 167 18, wR g (St F J) 167 19]) n hd hn hl rfl (by decide) iw8 (by decide : 167 < 174) rfl rfl kk
theorem gf_8_19 (n : Nat) (hd : decode cc pc = .ok (.getfield idx, 3)) (hn : pc + 3 = n) (hl : Cond.fieldLink own idx "TruthSumsModel" "fitted" "[I" ∈ lw_tbl) (kk : Gj g l R XX QQ own cc nL ret n L (.ref 173 :: st) (St F J) c1 s1) : Gj g l R XX QQ own cc nL ret pc L (.ref 167 :: st) (St F J) c1 s1 :=
  g_getG (ci := 8) (j := 19) (C := RX8) (T := TX8) (N := 20) (fs := [wI (St F J) 167 0, wR g (St F J) 167 1, wI (St F J) 167 2, wI (St F J) 167 3, wI (St F J) 167 4, wI (St F J) 167 5, wI (St F J) 167 6, wI (St F J) 167 7, wR g (St F J) 167 8, wI (St F J) 167 9, wI (St F J) 167 10, wI (St F J) 167 11, wI (St F J) 167 12, wI (St F J) 167 13, wR g (St F J) 167 14, wR g (St F J) 167 15, wI (St F J) 167 16, wI (St F J) 167 17, wR g (St F J) 167 18, wR g (St F J) 167 19]) n hd hn hl rfl (by decide) iw8 (by decide : 167 < 174) rfl rfl kk
theorem ln_lt (k : Nat) : ln k < 1000 := by
  unfold ln
  repeat' split
  all_goals omega
theorem ln_in {k j : Nat} {i : Int32} (hi : i = nI j) (hj : j < ln k) : vp_in i (ln k) := by
  have := ln_lt k
  rw [hi]; exact vp_in_nI hj (by omega)
theorem ln_cl {k j : Nat} {i : Int32} (hi : i = nI j) (hj : j < ln k) : i.toNatClampNeg = j := by
  have := ln_lt k
  rw [hi]; exact nI_clamp (by omega)
theorem ga_ild {k : Nat} {i : Int32} (j n : Nat) (hd : decode cc pc = .ok (.iaload, 1)) (hn : pc + 1 = n) (hk : k < 174 ∧ sh k = 10) (hi : i = nI j) (hj : j < ln k) (kk : Gj g l R XX QQ own cc nL ret n L (.int (F k j) :: st) (St F J) c1 s1) : Gj g l R XX QQ own cc nL ret pc L (.int i :: .ref k :: st) (St F J) c1 s1 :=
  g_iald n hd hn hk (ln_in hi hj) (by rw [ln_cl hi hj]; exact kk)
theorem ga_bld {k : Nat} {i : Int32} (j n : Nat) (hd : decode cc pc = .ok (.baload, 1)) (hn : pc + 1 = n) (hk : k < 174 ∧ sh k = 9) (hi : i = nI j) (hj : j < ln k) (kk : Gj g l R XX QQ own cc nL ret n L (.int (F k j) :: st) (St F J) c1 s1) : Gj g l R XX QQ own cc nL ret pc L (.int i :: .ref k :: st) (St F J) c1 s1 :=
  g_bald n hd hn hk (ln_in hi hj) (by rw [ln_cl hi hj]; exact kk)
theorem ga_lld {i : Int32} (j n : Nat) (hd : decode cc pc = .ok (.laload, 1)) (hn : pc + 1 = n) (hi : i = nI j) (hj : j < 8) (kk : Gj g l R XX QQ own cc nL ret n L (.long (J j) :: st) (St F J) c1 s1) : Gj g l R XX QQ own cc nL ret pc L (.int i :: .ref 165 :: st) (St F J) c1 s1 :=
  g_lald n hd hn ⟨(by decide : 165 < 174), rfl⟩ (ln_in (k := 165) hi hj) (by rw [ln_cl (k := 165) hi hj]; exact kk)
theorem ga_ist {k : Nat} {i x : Int32} (j n : Nat) (hd : decode cc pc = .ok (.iastore, 1)) (hn : pc + 1 = n) (hk : k < 174 ∧ sh k = 10) (hi : i = nI j) (hj : j < ln k) (kk : Gj g l R XX QQ own cc nL ret n L st (St (up2 F k j x) J) c1 s1) : Gj g l R XX QQ own cc nL ret pc L (.int x :: .int i :: .ref k :: st) (St F J) c1 s1 :=
  g_iast n hd hn hk (ln_in hi hj) (by rw [ln_cl hi hj]; exact kk)
theorem ga_bst {k : Nat} {i x : Int32} (j n : Nat) (hd : decode cc pc = .ok (.bastore, 1)) (hn : pc + 1 = n) (hk : k < 174 ∧ sh k = 9) (hi : i = nI j) (hj : j < ln k) (kk : Gj g l R XX QQ own cc nL ret n L st (St (up2 F k j x.toInt8.toInt32) J) c1 s1) : Gj g l R XX QQ own cc nL ret pc L (.int x :: .int i :: .ref k :: st) (St F J) c1 s1 :=
  g_bast n hd hn hk (ln_in hi hj) (by rw [ln_cl hi hj]; exact kk)
theorem ga_lst {i : Int32} {x : Int64} (j n : Nat) (hd : decode cc pc = .ok (.lastore, 1)) (hn : pc + 1 = n) (hi : i = nI j) (hj : j < 8) (kk : Gj g l R XX QQ own cc nL ret n L st (St F (vp_updL J j x)) c1 s1) : Gj g l R XX QQ own cc nL ret pc L (.long x :: .int i :: .ref 165 :: st) (St F J) c1 s1 :=
  g_last n hd hn ⟨(by decide : 165 < 174), rfl⟩ (ln_in (k := 165) hi hj) (by rw [ln_cl (k := 165) hi hj]; exact kk)
theorem ga_told {i : Int32} (j n : Nat) (hd : decode cc pc = .ok (.aaload, 1)) (hn : pc + 1 = n) (hi : i = nI j) (hj : j < 8) (kk : Gj g l R XX QQ own cc nL ret n L (.ref (10 + 2 * j) :: st) (St F J) c1 s1) : Gj g l R XX QQ own cc nL ret pc L (.int i :: .ref 4 :: st) (St F J) c1 s1 :=
  g_aald n hd hn ⟨(by decide : 4 < 174), Or.inl rfl⟩ (ln_in (k := 4) hi hj) (by rw [ln_cl (k := 4) hi hj]; rfl) kk
theorem ga_steps {i : Int32} (j n : Nat) (hd : decode cc pc = .ok (.aaload, 1)) (hn : pc + 1 = n) (hi : i = nI j) (hj : j < 24) (kk : Gj g l R XX QQ own cc nL ret n L (.ref (26 + 3 * j) :: st) (St F J) c1 s1) : Gj g l R XX QQ own cc nL ret pc L (.int i :: .ref 5 :: st) (St F J) c1 s1 :=
  g_aald n hd hn ⟨(by decide : 5 < 174), Or.inr rfl⟩ (ln_in (k := 5) hi hj) (by rw [ln_cl (k := 5) hi hj]; rfl) kk
theorem ga_lines {i : Int32} (j n : Nat) (hd : decode cc pc = .ok (.aaload, 1)) (hn : pc + 1 = n) (hi : i = nI j) (hj : j < 32) (kk : Gj g l R XX QQ own cc nL ret n L (.ref (101 + 2 * j) :: st) (St F J) c1 s1) : Gj g l R XX QQ own cc nL ret pc L (.int i :: .ref 100 :: st) (St F J) c1 s1 :=
  g_aald n hd hn ⟨(by decide : 100 < 174), Or.inl rfl⟩ (ln_in (k := 100) hi hj) (by rw [ln_cl (k := 100) hi hj]; rfl) kk
theorem ga_len {k : Nat} (n : Nat) (hd : decode cc pc = .ok (.arraylength, 1)) (hn : pc + 1 = n) (hk : k < 174 ∧ (sh k = 10 ∨ sh k = 12)) (kk : Gj g l R XX QQ own cc nL ret n L (.int (nI (ln k)) :: st) (St F J) c1 s1) : Gj g l R XX QQ own cc nL ret pc L (.ref k :: st) (St F J) c1 s1 := by
  rcases hk.2 with h | h
  · exact g_alen (t0 := 1) (x := (ln k, .inl (F k))) (cA := gc g 1) n hd hn hk.1 (by simp only [wE, h]) rfl kk
  · exact g_alen (t0 := 3) (x := (ln k, .inr (.inr (.inr (.inr (fun j => (R0 k j).map (rel g))))))) (cA := gc g 3) n hd hn hk.1 (by simp only [wE, h]) rfl kk
end FIELDS
def abs32 (x : Int32) : Int32 := if 0 ≤ x then x else 0 - x
def max32 (a b : Int32) : Int32 := if a < b then b else a
def min32 (a b : Int32) : Int32 := if b < a then b else a
section MATH
variable {g : Gl} {l : Launch} {R : Room} {XX : State → Method → Prop} {QQ : List Frame → Array Value → State → State → Prop} {own : String} {cc : ByteArray} {nL : Nat} {ret : Option FieldType} {pc idx : Nat} {L : List (Option Value)} {rest : List Value} {S : Sg} {c1 s1 : Nat}
theorem g_mabs {x : Int32} (n : Nat) (hd : decode cc pc = .ok (.invokestatic idx, 3)) (hn : pc + 3 = n) (hl : Cond.methodLink own idx Lib.Math.abs.name ∈ lw_tbl) (hR : 1 ≤ R.frames ∧ 21 ≤ R.locals ∧ c1 ≤ R.cells ∧ s1 ≤ R.slots) (hr : (rest.map fun v => v.category).sum ≤ 8) (kk : Gj g l R XX QQ own cc nL ret n L (.int (abs32 x) :: rest) S c1 s1) : Gj g l R XX QQ own cc nL ret pc L (.int x :: rest) S c1 s1 := by
  subst hn
  intro p e s m args below meth c H locs ls C hX hW hS hl0
  have hts := C.2.2.2.2.2.2.1
  have hr2 : ((rest.map (rv g)).map fun v => v.category).sum ≤ 8 := by rw [cat_map]; exact hr
  exact va_mabs C.1 C.2.1 (C.2.2.1.trans hl0.1.symm) C.2.2.2.2.1 (hts _ (mem_g hl rfl)) (hts _ (mem_g ms_J9_abs_0f7a4.1 rfl)) (hts _ (mem_g ki_J9 rfl)) (hts _ (mem_g ms_J9_abs_0f7a4.2.2.1 rfl)) hR.1 (by omega) hR.2.2.1 hR.2.2.2 hd (kk p e s m args below meth c H locs ls C hX hW hS hl0)
theorem g_mmax {x y : Int32} (n : Nat) (hd : decode cc pc = .ok (.invokestatic idx, 3)) (hn : pc + 3 = n) (hl : Cond.methodLink own idx Lib.Math.max.name ∈ lw_tbl) (hR : 1 ≤ R.frames ∧ 21 ≤ R.locals ∧ c1 ≤ R.cells ∧ s1 ≤ R.slots) (hr : (rest.map fun v => v.category).sum ≤ 8) (kk : Gj g l R XX QQ own cc nL ret n L (.int (max32 x y) :: rest) S c1 s1) : Gj g l R XX QQ own cc nL ret pc L (.int y :: .int x :: rest) S c1 s1 := by
  subst hn
  intro p e s m args below meth c H locs ls C hX hW hS hl0
  have hts := C.2.2.2.2.2.2.1
  have hr2 : ((rest.map (rv g)).map fun v => v.category).sum ≤ 8 := by rw [cat_map]; exact hr
  exact va_mmax C.1 C.2.1 (C.2.2.1.trans hl0.1.symm) C.2.2.2.2.1 (hts _ (mem_g hl rfl)) (hts _ (mem_g ms_J9_max_7cf53.1 rfl)) (hts _ (mem_g ki_J9 rfl)) (hts _ (mem_g ms_J9_max_7cf53.2.2.1 rfl)) hR.1 (by omega) hR.2.2.1 hR.2.2.2 hd (kk p e s m args below meth c H locs ls C hX hW hS hl0)
theorem g_mmin {x y : Int32} (n : Nat) (hd : decode cc pc = .ok (.invokestatic idx, 3)) (hn : pc + 3 = n) (hl : Cond.methodLink own idx Lib.Math.min.name ∈ lw_tbl) (hR : 1 ≤ R.frames ∧ 21 ≤ R.locals ∧ c1 ≤ R.cells ∧ s1 ≤ R.slots) (hr : (rest.map fun v => v.category).sum ≤ 8) (kk : Gj g l R XX QQ own cc nL ret n L (.int (min32 x y) :: rest) S c1 s1) : Gj g l R XX QQ own cc nL ret pc L (.int y :: .int x :: rest) S c1 s1 := by
  subst hn
  intro p e s m args below meth c H locs ls C hX hW hS hl0
  have hts := C.2.2.2.2.2.2.1
  have hr2 : ((rest.map (rv g)).map fun v => v.category).sum ≤ 8 := by rw [cat_map]; exact hr
  exact va_mmin C.1 C.2.1 (C.2.2.1.trans hl0.1.symm) C.2.2.2.2.1 (hts _ (mem_g hl rfl)) (hts _ (mem_g ms_J9_min_7cf53.1 rfl)) (hts _ (mem_g ki_J9 rfl)) (hts _ (mem_g ms_J9_min_7cf53.2.2.1 rfl)) hR.1 (by omega) hR.2.2.1 hR.2.2.2 hd (kk p e s m args below meth c H locs ls C hX hW hS hl0)
end MATH
end
section
/-! the class Line -/
theorem b01 {c : Prop} [Decidable c] : ((if c then (0 : Int32) else 1) = 0) ↔ c := by by_cases h : c <;> simp [h]
theorem b10 {c : Prop} [Decidable c] : ((if c then (1 : Int32) else 0) = 0) ↔ ¬ c := by by_cases h : c <;> simp [h]
theorem isl_w : ∀ k, k < 174 → sh k = 2 → (k + 1 < 174 ∧ sh (k + 1) = 10) ∧ ln (k + 1) = 6 := by decide +kernel
theorem lt6 {i : Nat} (h : i < 6) : ¬ (6 : Int32) ≤ nI i := nI_ge (a := i) (b := 6) h (by decide)
theorem lt64 {i : Nat} (h : i < 64) : ¬ (64 : Int32) ≤ nI i := nI_ge (a := i) (b := 64) h (by decide)
def mw (w : Nat → Int32) (so nt : Int32) : Nat → Int32
  | 0 => 0
  | i + 1 => mw w so nt i + (if (if w i ≤ 0 then so else nt) >>> (nI i &&& 31) &&& 1 = 0 then abs32 (w i) else 0)
def fillL (F : Nat → Nat → Int32) (k : Nat) (w : Nat → Int32) (i : Nat) : Nat → Nat → Int32 := fun q => if q = k + 1 then (fun j => if j < i then w j else F (k + 1) j) else F q
/-- the line k has these weights and that degree -/
def setL (F : Nat → Nat → Int32) (k : Nat) (w : Nat → Int32) (d : Int32) : Nat → Nat → Int32 := up2 (fillL F k w 6) k 1 d
theorem fillL_0 (F : Nat → Nat → Int32) (k : Nat) (w : Nat → Int32) : fillL F k w 0 = F := by
  funext q j
  simp only [fillL]
  split
  · simp_all
  · rfl
theorem fillL_s (F : Nat → Nat → Int32) (k : Nat) (w : Nat → Int32) (i : Nat) {x : Int32} (hx : x = w i) : up2 (fillL F k w i) (k + 1) i x = fillL F k w (i + 1) := by
  subst hx
  funext q j
  simp only [fillL, up2, upd]
  by_cases h : q = k + 1
  · subst h
    simp only [if_true]
    by_cases e : j = i
    · subst e; simp [upd]
    · by_cases e2 : j < i
      · simp [upd, e, e2, Nat.lt_succ_of_lt e2]
      · simp [upd, e, e2, show ¬ j < i + 1 by omega]
  · simp [h]
theorem fillL_ne (F : Nat → Nat → Int32) {k q : Nat} (w : Nat → Int32) (i : Nat) (h : q ≠ k + 1) : fillL F k w i q = F q := by simp [fillL, h]
theorem isl_ne {k k2 : Nat} (hk : k < 174 ∧ sh k = 2) (hk2 : k2 < 174 ∧ sh k2 = 2) : k2 ≠ k + 1 := by
  intro e; subst e
  have := (isl_w k hk.1 hk.2).1.2
  rw [hk2.2] at this; cases this
def sg32 (s z : Int32) : Int32 := if 0 ≤ s then z else -z
def cv (w : Nat → Int32) (set : Int32) : Nat → Int32
  | 0 => 0
  | i + 1 => cv w set i + (if set >>> (nI i &&& 31) &&& 1 = 0 then abs32 (w i) else 0)
def wh (w : Nat → Int32) (d : Int32) : Nat → Int64
  | 0 => 0
  | i + 1 => if mw w (nI i) (nI i ^^^ -1) 6 < d then wh w d i else wh w d i ||| ((1 : Int64) <<< ((nI i).toInt64 &&& 63))
theorem max1_ne (n : Int32) : ¬ max32 n 1 = 0 := by
  unfold max32
  split
  · decide
  · intro e; subst e; rename_i h; exact h (by decide)

set_option maxRecDepth 100000 in
set_option maxHeartbeats 4000000 in
theorem lp_mayWeigh (g : Gl) (l : Launch) {k : Nat} (hk : k < 174 ∧ sh k = 2) (so nt : Int32) (F : Nat → Nat → Int32) (J : Nat → Int64) {XX : State → Method → Prop} (n : Nat) : ∀ (i : Nat) (sm ix : Int32) (x5 x6 : Option Value), i + n = 6 → sm = mw (F (k + 1)) so nt i → ix = nI i → Gj g l (rmd 1 0 0) XX (QM g (fun r S2 => r = some (.int (mw (F (k + 1)) so nt 6)) ∧ S2 = St F J) 0 0) RX2 cX2_mayWeigh 7 (some .int) 5 [some (.ref k), some (.int so), some (.int nt), some (.int sm), some (.int ix), x5, x6] [] (St F J) 0 0 := by
  obtain ⟨hw, hln⟩ := isl_w k hk.1 hk.2
  induction n with
  | zero =>
    intro i sm ix x5 x6 hi hs hx
    obtain rfl : i = 6 := by omega
    subst hs; subst hx
    refine g_iload 7 dX2_mayWeigh_5 rfl rfl ?_
    refine g_bipush (6) 9 dX2_mayWeigh_7 rfl (by decide) ?_
    refine g_icmp_ge 57 12 dX2_mayWeigh_9 rfl (by decide) (fun h9 => ?_) (fun h9 => ?_)
    · refine g_iload_n 58 dX2_mayWeigh_57 rfl rfl ?_
      refine g_iret dX2_mayWeigh_58 ?_
      exact ⟨rfl, rfl⟩
    · exact absurd (by decide) h9
  | succ n ih =>
    intro i sm ix x5 x6 hi hs hx
    subst hx
    refine g_iload 7 dX2_mayWeigh_5 rfl rfl ?_
    refine g_bipush (6) 9 dX2_mayWeigh_7 rfl (by decide) ?_
    refine g_icmp_ge 57 12 dX2_mayWeigh_9 rfl (by decide) (fun h9 => ?_) (fun h9 => ?_)
    · exact absurd h9 (lt6 (by omega))
    · refine g_aload_n 13 dX2_mayWeigh_12 rfl rfl ?_
      refine gf_2_0 16 dX2_mayWeigh_13 rfl kf_X2_9 (by first | decide | assumption) ?_
      refine g_iload 18 dX2_mayWeigh_16 rfl rfl ?_
      refine ga_ild (i) 19 dX2_mayWeigh_18 rfl (by first | decide | assumption) rfl (by rw [hln]; omega) ?_
      refine g_istore 21 dX2_mayWeigh_19 rfl (by decide) ?_
      refine g_iload 23 dX2_mayWeigh_21 rfl rfl ?_
      refine g_if_le 30 26 dX2_mayWeigh_23 rfl (by decide) (fun h23 => ?_) (fun h23 => ?_)
      · refine g_iload_n 31 dX2_mayWeigh_30 rfl rfl ?_
        refine g_istore 33 dX2_mayWeigh_31 rfl (by decide) ?_
        refine g_iload 35 dX2_mayWeigh_33 rfl rfl ?_
        refine g_iload 37 dX2_mayWeigh_35 rfl rfl ?_
        refine g_ishr 38 dX2_mayWeigh_37 rfl ?_
        refine g_iconst (1) 39 dX2_mayWeigh_38 rfl (by decide) ?_
        refine g_iand 40 dX2_mayWeigh_39 rfl ?_
        refine g_if_ne 51 43 dX2_mayWeigh_40 rfl (by decide) (fun h40 => ?_) (fun h40 => ?_)
        · refine g_iinc (1) 54 dX2_mayWeigh_51 rfl (by decide) (by decide) rfl ?_
          refine g_goto 5 dX2_mayWeigh_54 (by decide) ?_
          exact ih (i + 1) _ _ _ _ (by omega) (by rw [mw, hs]; simp [h23, h40]) (nI_succ i).symm
        · refine g_iload_n 44 dX2_mayWeigh_43 rfl rfl ?_
          refine g_iload 46 dX2_mayWeigh_44 rfl rfl ?_
          refine g_mabs 49 dX2_mayWeigh_46 rfl kl_X2_22 ⟨Nat.le_of_ble_eq_true rfl, Nat.le_of_ble_eq_true rfl, Nat.le_of_ble_eq_true rfl, Nat.le_of_ble_eq_true rfl⟩ (Nat.le_of_ble_eq_true rfl) ?_
          refine g_iadd 50 dX2_mayWeigh_49 rfl ?_
          refine g_istore_n 51 dX2_mayWeigh_50 rfl (by decide) ?_
          refine g_iinc (1) 54 dX2_mayWeigh_51 rfl (by decide) (by decide) rfl ?_
          refine g_goto 5 dX2_mayWeigh_54 (by decide) ?_
          exact ih (i + 1) _ _ _ _ (by omega) (by rw [mw, hs]; simp [h23, h40]) (nI_succ i).symm
      · refine g_iload_n 27 dX2_mayWeigh_26 rfl rfl ?_
        refine g_goto 31 dX2_mayWeigh_27 (by decide) ?_
        refine g_istore 33 dX2_mayWeigh_31 rfl (by decide) ?_
        refine g_iload 35 dX2_mayWeigh_33 rfl rfl ?_
        refine g_iload 37 dX2_mayWeigh_35 rfl rfl ?_
        refine g_ishr 38 dX2_mayWeigh_37 rfl ?_
        refine g_iconst (1) 39 dX2_mayWeigh_38 rfl (by decide) ?_
        refine g_iand 40 dX2_mayWeigh_39 rfl ?_
        refine g_if_ne 51 43 dX2_mayWeigh_40 rfl (by decide) (fun h40 => ?_) (fun h40 => ?_)
        · refine g_iinc (1) 54 dX2_mayWeigh_51 rfl (by decide) (by decide) rfl ?_
          refine g_goto 5 dX2_mayWeigh_54 (by decide) ?_
          exact ih (i + 1) _ _ _ _ (by omega) (by rw [mw, hs]; simp [h23, h40]) (nI_succ i).symm
        · refine g_iload_n 44 dX2_mayWeigh_43 rfl rfl ?_
          refine g_iload 46 dX2_mayWeigh_44 rfl rfl ?_
          refine g_mabs 49 dX2_mayWeigh_46 rfl kl_X2_22 ⟨Nat.le_of_ble_eq_true rfl, Nat.le_of_ble_eq_true rfl, Nat.le_of_ble_eq_true rfl, Nat.le_of_ble_eq_true rfl⟩ (Nat.le_of_ble_eq_true rfl) ?_
          refine g_iadd 50 dX2_mayWeigh_49 rfl ?_
          refine g_istore_n 51 dX2_mayWeigh_50 rfl (by decide) ?_
          refine g_iinc (1) 54 dX2_mayWeigh_51 rfl (by decide) (by decide) rfl ?_
          refine g_goto 5 dX2_mayWeigh_54 (by decide) ?_
          exact ih (i + 1) _ _ _ _ (by omega) (by rw [mw, hs]; simp [h23, h40]) (nI_succ i).symm

set_option maxRecDepth 100000 in
set_option maxHeartbeats 4000000 in
theorem c_mayWeigh (g : Gl) (l : Launch) {k : Nat} (hk : k < 174 ∧ sh k = 2) (so nt : Int32) (F : Nat → Nat → Int32) (J : Nat → Int64) : Ct g l yX2_mayWeigh cX2_mayWeigh 7 (some .int) 1 0 0 [.ref k, .int so, .int nt] (St F J) (fun r S2 => r = some (.int (mw (F (k + 1)) so nt 6)) ∧ S2 = St F J) := by
  refine Ct.of rfl (by decide) rfl (Nat.le_of_ble_eq_true rfl) ?_
  refine g_iconst (0) 1 dX2_mayWeigh_0 rfl (by decide) ?_
  refine g_istore_n 2 dX2_mayWeigh_1 rfl (by decide) ?_
  refine g_iconst (0) 3 dX2_mayWeigh_2 rfl (by decide) ?_
  refine g_istore 5 dX2_mayWeigh_3 rfl (by decide) ?_
  exact lp_mayWeigh g l hk so nt F J 6 0 _ _ _ _ rfl rfl rfl

set_option maxRecDepth 100000 in
set_option maxHeartbeats 4000000 in
theorem c_weighsIn (g : Gl) (l : Launch) {k : Nat} (hk : k < 174 ∧ sh k = 2) (w : Int32) (F : Nat → Nat → Int32) (J : Nat → Int64) : Ct g l yX2_weighsIn cX2_weighsIn 2 (some .int) 2 0 0 [.ref k, .int w] (St F J) (fun r S2 => r = some (.int (mw (F (k + 1)) w (w ^^^ -1) 6)) ∧ S2 = St F J) := by
  refine Ct.of rfl (by decide) rfl (Nat.le_of_ble_eq_true rfl) ?_
  refine g_aload_n 1 dX2_weighsIn_0 rfl rfl ?_
  refine g_iload_n 2 dX2_weighsIn_1 rfl rfl ?_
  refine g_iload_n 3 dX2_weighsIn_2 rfl rfl ?_
  refine g_iconst (-1) 4 dX2_weighsIn_3 rfl (by decide) ?_
  refine g_ixor 5 dX2_weighsIn_4 rfl ?_
  refine g_v2 2 8 dX2_weighsIn_5 rfl kl_X2_42 mv_X2_mayWeigh rfl ⟨Nat.le_of_ble_eq_true rfl, Nat.le_of_ble_eq_true rfl⟩ (Nat.le_of_ble_eq_true rfl) (by first | decide | assumption) (c_mayWeigh g l hk _ _ F J) ?_
  rintro _ _ ⟨rfl, rfl⟩
  refine g_iret dX2_weighsIn_8 ?_
  exact ⟨rfl, rfl⟩

set_option maxRecDepth 100000 in
set_option maxHeartbeats 4000000 in
theorem c_isBrokenL (g : Gl) (l : Launch) {k : Nat} (hk : k < 174 ∧ sh k = 2) (F : Nat → Nat → Int32) (J : Nat → Int64) : Ct g l yX2_isBroken cX2_isBroken 1 (some .boolean) 2 0 0 [.ref k] (St F J) (fun r S2 => r = some (.int (if F k 1 ≤ mw (F (k + 1)) 0 0 6 then 0 else 1)) ∧ S2 = St F J) := by
  refine Ct.of rfl (by decide) rfl (Nat.le_of_ble_eq_true rfl) ?_
  refine g_aload_n 1 dX2_isBroken_0 rfl rfl ?_
  refine g_iconst (0) 2 dX2_isBroken_1 rfl (by decide) ?_
  refine g_iconst (0) 3 dX2_isBroken_2 rfl (by decide) ?_
  refine g_v2 2 6 dX2_isBroken_3 rfl kl_X2_42 mv_X2_mayWeigh rfl ⟨Nat.le_of_ble_eq_true rfl, Nat.le_of_ble_eq_true rfl⟩ (Nat.le_of_ble_eq_true rfl) (by first | decide | assumption) (c_mayWeigh g l hk _ _ F J) ?_
  rintro _ _ ⟨rfl, rfl⟩
  refine g_aload_n 7 dX2_isBroken_6 rfl rfl ?_
  refine gf_2_1 10 dX2_isBroken_7 rfl kf_X2_15 (by first | decide | assumption) ?_
  refine g_icmp_ge 17 13 dX2_isBroken_10 rfl (by decide) (fun h10 => ?_) (fun h10 => ?_)
  · refine g_iconst (0) 18 dX2_isBroken_17 rfl (by decide) ?_
    refine g_zret dX2_isBroken_18 (by decide) ?_
    exact ⟨by simp [h10], rfl⟩
  · refine g_iconst (1) 14 dX2_isBroken_13 rfl (by decide) ?_
    refine g_goto 18 dX2_isBroken_14 (by decide) ?_
    refine g_zret dX2_isBroken_18 (by decide) ?_
    exact ⟨by simp [h10], rfl⟩

set_option maxRecDepth 100000 in
set_option maxHeartbeats 4000000 in
theorem lp_worldsHeld (g : Gl) (l : Launch) {k : Nat} (hk : k < 174 ∧ sh k = 2) (F : Nat → Nat → Int32) (J : Nat → Int64) {XX : State → Method → Prop} (n : Nat) : ∀ (i : Nat) (sm : Int64) (ix : Int32), i + n = 64 → sm = wh (F (k + 1)) (F k 1) i → ix = nI i → Gj g l (rmd 3 0 0) XX (QM g (fun r S2 => r = some (.long (wh (F (k + 1)) (F k 1) 64)) ∧ S2 = St F J) 0 0) RX2 cX2_worldsHeld 4 (some .long) 4 [some (.ref k), some (.long sm), none, some (.int ix)] [] (St F J) 0 0 := by
  obtain ⟨hw, hln⟩ := isl_w k hk.1 hk.2
  induction n with
  | zero =>
    intro i sm ix hi hs hx
    obtain rfl : i = 64 := by omega
    subst hs; subst hx
    refine g_iload_n 5 dX2_worldsHeld_4 rfl rfl ?_
    refine g_bipush (64) 7 dX2_worldsHeld_5 rfl (by decide) ?_
    refine g_icmp_ge 34 10 dX2_worldsHeld_7 rfl (by decide) (fun h7 => ?_) (fun h7 => ?_)
    · refine g_lload_n 35 dX2_worldsHeld_34 rfl rfl ?_
      refine g_lret dX2_worldsHeld_35 ?_
      exact ⟨rfl, rfl⟩
    · exact absurd (by decide) h7
  | succ n ih =>
    intro i sm ix hi hs hx
    subst hx
    refine g_iload_n 5 dX2_worldsHeld_4 rfl rfl ?_
    refine g_bipush (64) 7 dX2_worldsHeld_5 rfl (by decide) ?_
    refine g_icmp_ge 34 10 dX2_worldsHeld_7 rfl (by decide) (fun h7 => ?_) (fun h7 => ?_)
    · exact absurd h7 (lt64 (by omega))
    · refine g_aload_n 11 dX2_worldsHeld_10 rfl rfl ?_
      refine g_iload_n 12 dX2_worldsHeld_11 rfl rfl ?_
      refine g_v1 2 15 dX2_worldsHeld_12 rfl kl_X2_46 mv_X2_weighsIn rfl ⟨Nat.le_of_ble_eq_true rfl, Nat.le_of_ble_eq_true rfl⟩ (Nat.le_of_ble_eq_true rfl) (by first | decide | assumption) (c_weighsIn g l hk _ F J) ?_
      rintro _ _ ⟨rfl, rfl⟩
      refine g_aload_n 16 dX2_worldsHeld_15 rfl rfl ?_
      refine gf_2_1 19 dX2_worldsHeld_16 rfl kf_X2_15 (by first | decide | assumption) ?_
      refine g_icmp_lt 28 22 dX2_worldsHeld_19 rfl (by decide) (fun h19 => ?_) (fun h19 => ?_)
      · refine g_iinc (1) 31 dX2_worldsHeld_28 rfl (by decide) (by decide) rfl ?_
        refine g_goto 4 dX2_worldsHeld_31 (by decide) ?_
        exact ih (i + 1) _ _ (by omega) (by rw [wh, hs]; first | rw [if_pos h19] | rw [if_neg h19]) (nI_succ i).symm
      · refine g_lload_n 23 dX2_worldsHeld_22 rfl rfl ?_
        refine g_lconst (1) 24 dX2_worldsHeld_23 rfl (by decide) ?_
        refine g_iload_n 25 dX2_worldsHeld_24 rfl rfl ?_
        refine g_lshl 26 dX2_worldsHeld_25 rfl ?_
        refine g_lor 27 dX2_worldsHeld_26 rfl ?_
        refine g_lstore_n 28 dX2_worldsHeld_27 rfl (by decide) ?_
        refine g_iinc (1) 31 dX2_worldsHeld_28 rfl (by decide) (by decide) rfl ?_
        refine g_goto 4 dX2_worldsHeld_31 (by decide) ?_
        exact ih (i + 1) _ _ (by omega) (by rw [wh, hs]; first | rw [if_pos h19] | rw [if_neg h19]) (nI_succ i).symm

set_option maxRecDepth 100000 in
set_option maxHeartbeats 4000000 in
theorem c_worldsHeld (g : Gl) (l : Launch) {k : Nat} (hk : k < 174 ∧ sh k = 2) (F : Nat → Nat → Int32) (J : Nat → Int64) : Ct g l yX2_worldsHeld cX2_worldsHeld 4 (some .long) 3 0 0 [.ref k] (St F J) (fun r S2 => r = some (.long (wh (F (k + 1)) (F k 1) 64)) ∧ S2 = St F J) := by
  refine Ct.of rfl (by decide) rfl (Nat.le_of_ble_eq_true rfl) ?_
  refine g_lconst (0) 1 dX2_worldsHeld_0 rfl (by decide) ?_
  refine g_lstore_n 2 dX2_worldsHeld_1 rfl (by decide) ?_
  refine g_iconst (0) 3 dX2_worldsHeld_2 rfl (by decide) ?_
  refine g_istore_n 4 dX2_worldsHeld_3 rfl (by decide) ?_
  exact lp_worldsHeld g l hk F J 64 0 _ _ rfl rfl rfl

set_option maxRecDepth 100000 in
set_option maxHeartbeats 4000000 in
theorem lp_isCoverL (g : Gl) (l : Launch) {k : Nat} (hk : k < 174 ∧ sh k = 2) (set : Int32) (F : Nat → Nat → Int32) (J : Nat → Int64) {XX : State → Method → Prop} (n : Nat) : ∀ (i : Nat) (sm ix : Int32), i + n = 6 → sm = cv (F (k + 1)) set i → ix = nI i → Gj g l (rmd 1 0 0) XX (QM g (fun r S2 => r = some (.int (if F k 1 ≤ cv (F (k + 1)) set 6 then 0 else 1)) ∧ S2 = St F J) 0 0) RX2 cX2_isCover 4 (some .boolean) 4 [some (.ref k), some (.int set), some (.int sm), some (.int ix)] [] (St F J) 0 0 := by
  obtain ⟨hw, hln⟩ := isl_w k hk.1 hk.2
  induction n with
  | zero =>
    intro i sm ix hi hs hx
    obtain rfl : i = 6 := by omega
    subst hs; subst hx
    refine g_iload_n 5 dX2_isCover_4 rfl rfl ?_
    refine g_bipush (6) 7 dX2_isCover_5 rfl (by decide) ?_
    refine g_icmp_ge 36 10 dX2_isCover_7 rfl (by decide) (fun h7 => ?_) (fun h7 => ?_)
    · refine g_iload_n 37 dX2_isCover_36 rfl rfl ?_
      refine g_aload_n 38 dX2_isCover_37 rfl rfl ?_
      refine gf_2_1 41 dX2_isCover_38 rfl kf_X2_15 (by first | decide | assumption) ?_
      refine g_icmp_ge 48 44 dX2_isCover_41 rfl (by decide) (fun h41 => ?_) (fun h41 => ?_)
      · refine g_iconst (0) 49 dX2_isCover_48 rfl (by decide) ?_
        refine g_zret dX2_isCover_49 (by decide) ?_
        exact ⟨by simp [h41], rfl⟩
      · refine g_iconst (1) 45 dX2_isCover_44 rfl (by decide) ?_
        refine g_goto 49 dX2_isCover_45 (by decide) ?_
        refine g_zret dX2_isCover_49 (by decide) ?_
        exact ⟨by simp [h41], rfl⟩
    · exact absurd (by decide) h7
  | succ n ih =>
    intro i sm ix hi hs hx
    subst hx
    refine g_iload_n 5 dX2_isCover_4 rfl rfl ?_
    refine g_bipush (6) 7 dX2_isCover_5 rfl (by decide) ?_
    refine g_icmp_ge 36 10 dX2_isCover_7 rfl (by decide) (fun h7 => ?_) (fun h7 => ?_)
    · exact absurd h7 (lt6 (by omega))
    · refine g_iload_n 11 dX2_isCover_10 rfl rfl ?_
      refine g_iload_n 12 dX2_isCover_11 rfl rfl ?_
      refine g_ishr 13 dX2_isCover_12 rfl ?_
      refine g_iconst (1) 14 dX2_isCover_13 rfl (by decide) ?_
      refine g_iand 15 dX2_isCover_14 rfl ?_
      refine g_if_ne 30 18 dX2_isCover_15 rfl (by decide) (fun h15 => ?_) (fun h15 => ?_)
      · refine g_iinc (1) 33 dX2_isCover_30 rfl (by decide) (by decide) rfl ?_
        refine g_goto 4 dX2_isCover_33 (by decide) ?_
        exact ih (i + 1) _ _ (by omega) (by rw [cv, hs]; simp [h15]) (nI_succ i).symm
      · refine g_iload_n 19 dX2_isCover_18 rfl rfl ?_
        refine g_aload_n 20 dX2_isCover_19 rfl rfl ?_
        refine gf_2_0 23 dX2_isCover_20 rfl kf_X2_9 (by first | decide | assumption) ?_
        refine g_iload_n 24 dX2_isCover_23 rfl rfl ?_
        refine ga_ild (i) 25 dX2_isCover_24 rfl (by first | decide | assumption) rfl (by rw [hln]; omega) ?_
        refine g_mabs 28 dX2_isCover_25 rfl kl_X2_22 ⟨Nat.le_of_ble_eq_true rfl, Nat.le_of_ble_eq_true rfl, Nat.le_of_ble_eq_true rfl, Nat.le_of_ble_eq_true rfl⟩ (Nat.le_of_ble_eq_true rfl) ?_
        refine g_iadd 29 dX2_isCover_28 rfl ?_
        refine g_istore_n 30 dX2_isCover_29 rfl (by decide) ?_
        refine g_iinc (1) 33 dX2_isCover_30 rfl (by decide) (by decide) rfl ?_
        refine g_goto 4 dX2_isCover_33 (by decide) ?_
        exact ih (i + 1) _ _ (by omega) (by rw [cv, hs]; simp [h15]) (nI_succ i).symm

set_option maxRecDepth 100000 in
set_option maxHeartbeats 4000000 in
theorem c_isCoverL (g : Gl) (l : Launch) {k : Nat} (hk : k < 174 ∧ sh k = 2) (set : Int32) (F : Nat → Nat → Int32) (J : Nat → Int64) : Ct g l yX2_isCover cX2_isCover 4 (some .boolean) 1 0 0 [.ref k, .int set] (St F J) (fun r S2 => r = some (.int (if F k 1 ≤ cv (F (k + 1)) set 6 then 0 else 1)) ∧ S2 = St F J) := by
  refine Ct.of rfl (by decide) rfl (Nat.le_of_ble_eq_true rfl) ?_
  refine g_iconst (0) 1 dX2_isCover_0 rfl (by decide) ?_
  refine g_istore_n 2 dX2_isCover_1 rfl (by decide) ?_
  refine g_iconst (0) 3 dX2_isCover_2 rfl (by decide) ?_
  refine g_istore_n 4 dX2_isCover_3 rfl (by decide) ?_
  exact lp_isCoverL g l hk set F J 6 0 _ _ rfl rfl rfl

def spare (w : Nat → Int32) (d set : Int32) (j : Nat) : Prop := set >>> (nI j &&& 31) &&& 1 = 1 ∧ ¬ d ≤ cv w (set &&& ((1 : Int32) <<< (nI j &&& 31) ^^^ -1)) 6
def lcov (w : Nat → Int32) (d set : Int32) : Prop := ¬ d ≤ cv w set 6 ∧ ∀ j, j < 6 → ¬ spare w d set j

set_option maxRecDepth 100000 in
set_option maxHeartbeats 4000000 in
theorem lp_isLeastCover (g : Gl) (l : Launch) {k : Nat} (hk : k < 174 ∧ sh k = 2) (set : Int32) (F : Nat → Nat → Int32) (J : Nat → Int64) (h0 : ¬ F k 1 ≤ cv (F (k + 1)) set 6) {XX : State → Method → Prop} (n : Nat) : ∀ (i : Nat) (ix : Int32), i + n = 6 → (∀ j, j < i → ¬ spare (F (k + 1)) (F k 1) set j) → ix = nI i → Gj g l (rmd 2 0 0) XX (QM g (fun r S2 => (∃ x : Int32, r = some (.int x) ∧ ((x = 1 ∧ lcov (F (k + 1)) (F k 1) set) ∨ (x = 0 ∧ ¬ lcov (F (k + 1)) (F k 1) set))) ∧ S2 = St F J) 0 0) RX2 cX2_isLeastCover 3 (some .boolean) 12 [some (.ref k), some (.int set), some (.int ix)] [] (St F J) 0 0 := by
  obtain ⟨hw, hln⟩ := isl_w k hk.1 hk.2
  induction n with
  | zero =>
    intro i ix hi hs hx
    obtain rfl : i = 6 := by omega
    subst hx
    refine g_iload_n 13 dX2_isLeastCover_12 rfl rfl ?_
    refine g_bipush (6) 15 dX2_isLeastCover_13 rfl (by decide) ?_
    refine g_icmp_ge 49 18 dX2_isLeastCover_15 rfl (by decide) (fun h15 => ?_) (fun h15 => ?_)
    · refine g_iconst (1) 50 dX2_isLeastCover_49 rfl (by decide) ?_
      refine g_zret dX2_isLeastCover_50 (by decide) ?_
      exact ⟨⟨1, rfl, Or.inl ⟨rfl, h0, hs⟩⟩, rfl⟩
    · exact absurd (by decide) h15
  | succ n ih =>
    intro i ix hi hs hx
    subst hx
    refine g_iload_n 13 dX2_isLeastCover_12 rfl rfl ?_
    refine g_bipush (6) 15 dX2_isLeastCover_13 rfl (by decide) ?_
    refine g_icmp_ge 49 18 dX2_isLeastCover_15 rfl (by decide) (fun h15 => ?_) (fun h15 => ?_)
    · exact absurd h15 (lt6 (by omega))
    · refine g_iload_n 19 dX2_isLeastCover_18 rfl rfl ?_
      refine g_iload_n 20 dX2_isLeastCover_19 rfl rfl ?_
      refine g_ishr 21 dX2_isLeastCover_20 rfl ?_
      refine g_iconst (1) 22 dX2_isLeastCover_21 rfl (by decide) ?_
      refine g_iand 23 dX2_isLeastCover_22 rfl ?_
      refine g_iconst (1) 24 dX2_isLeastCover_23 rfl (by decide) ?_
      refine g_icmp_ne 43 27 dX2_isLeastCover_24 rfl (by decide) (fun h24 => ?_) (fun h24 => ?_)
      · refine g_iinc (1) 46 dX2_isLeastCover_43 rfl (by decide) (by decide) rfl ?_
        refine g_goto 12 dX2_isLeastCover_46 (by decide) ?_
        refine ih (i + 1) _ (by omega) (fun j hj => ?_) (nI_succ i).symm
        rcases Nat.lt_or_ge j i with q | q
        · exact hs j q
        · obtain rfl : j = i := by omega
          first | exact fun z => h24 z.1 | exact fun z => z.2 (b01.mp h38)
      · refine g_aload_n 28 dX2_isLeastCover_27 rfl rfl ?_
        refine g_iload_n 29 dX2_isLeastCover_28 rfl rfl ?_
        refine g_iconst (1) 30 dX2_isLeastCover_29 rfl (by decide) ?_
        refine g_iload_n 31 dX2_isLeastCover_30 rfl rfl ?_
        refine g_ishl 32 dX2_isLeastCover_31 rfl ?_
        refine g_iconst (-1) 33 dX2_isLeastCover_32 rfl (by decide) ?_
        refine g_ixor 34 dX2_isLeastCover_33 rfl ?_
        refine g_iand 35 dX2_isLeastCover_34 rfl ?_
        refine g_v1 2 38 dX2_isLeastCover_35 rfl kl_X2_49 mv_X2_isCover rfl ⟨Nat.le_of_ble_eq_true rfl, Nat.le_of_ble_eq_true rfl⟩ (Nat.le_of_ble_eq_true rfl) (by first | decide | assumption) (c_isCoverL g l hk _ F J) ?_
        rintro _ _ ⟨rfl, rfl⟩
        try simp only [Option.toList] 
        refine g_if_eq 43 41 dX2_isLeastCover_38 rfl (by decide) (fun h38 => ?_) (fun h38 => ?_)
        · refine g_iinc (1) 46 dX2_isLeastCover_43 rfl (by decide) (by decide) rfl ?_
          refine g_goto 12 dX2_isLeastCover_46 (by decide) ?_
          refine ih (i + 1) _ (by omega) (fun j hj => ?_) (nI_succ i).symm
          rcases Nat.lt_or_ge j i with q | q
          · exact hs j q
          · obtain rfl : j = i := by omega
            first | exact fun z => h24 z.1 | exact fun z => z.2 (b01.mp h38)
        · refine g_iconst (0) 42 dX2_isLeastCover_41 rfl (by decide) ?_
          refine g_zret dX2_isLeastCover_42 (by decide) ?_
          exact ⟨⟨0, rfl, Or.inr ⟨rfl, fun q => q.2 i (by omega) ⟨h24, fun z => h38 (b01.mpr z)⟩⟩⟩, rfl⟩

set_option maxRecDepth 100000 in
set_option maxHeartbeats 4000000 in
theorem c_isLeastCover (g : Gl) (l : Launch) {k : Nat} (hk : k < 174 ∧ sh k = 2) (set : Int32) (F : Nat → Nat → Int32) (J : Nat → Int64) : Ct g l yX2_isLeastCover cX2_isLeastCover 3 (some .boolean) 2 0 0 [.ref k, .int set] (St F J) (fun r S2 => (∃ x : Int32, r = some (.int x) ∧ ((x = 1 ∧ lcov (F (k + 1)) (F k 1) set) ∨ (x = 0 ∧ ¬ lcov (F (k + 1)) (F k 1) set))) ∧ S2 = St F J) := by
  refine Ct.of rfl (by decide) rfl (Nat.le_of_ble_eq_true rfl) ?_
  refine g_aload_n 1 dX2_isLeastCover_0 rfl rfl ?_
  refine g_iload_n 2 dX2_isLeastCover_1 rfl rfl ?_
  refine g_v1 2 5 dX2_isLeastCover_2 rfl kl_X2_49 mv_X2_isCover rfl ⟨Nat.le_of_ble_eq_true rfl, Nat.le_of_ble_eq_true rfl⟩ (Nat.le_of_ble_eq_true rfl) (by first | decide | assumption) (c_isCoverL g l hk _ F J) ?_
  rintro _ _ ⟨rfl, rfl⟩
  refine g_if_ne 10 8 dX2_isLeastCover_5 rfl (by decide) (fun h5 => ?_) (fun h5 => ?_)
  · refine g_iconst (0) 11 dX2_isLeastCover_10 rfl (by decide) ?_
    refine g_istore_n 12 dX2_isLeastCover_11 rfl (by decide) ?_
    exact lp_isLeastCover g l hk set F J (fun z => h5 (b01.mpr z)) 6 0 _ rfl (fun j hj => absurd hj (Nat.not_lt_zero j)) rfl
  · refine g_iconst (0) 9 dX2_isLeastCover_8 rfl (by decide) ?_
    refine g_zret dX2_isLeastCover_9 (by decide) ?_
    exact ⟨⟨0, rfl, Or.inr ⟨rfl, fun q => q.1 (b01.mp h5)⟩⟩, rfl⟩

def okL (w : Nat → Int32) (d : Int32) : Prop := (∀ j, j < 6 → abs32 (w j) ≤ 9999) ∧ d ≤ 99999

set_option maxRecDepth 100000 in
set_option maxHeartbeats 4000000 in
theorem lp_isTooGreat (g : Gl) (l : Launch) {k : Nat} (hk : k < 174 ∧ sh k = 2) (F : Nat → Nat → Int32) (J : Nat → Int64) {XX : State → Method → Prop} (n : Nat) : ∀ (i : Nat) (ix : Int32), i + n = 6 → (∀ j, j < i → abs32 (F (k + 1) j) ≤ 9999) → ix = nI i → Gj g l (rmd 1 0 0) XX (QM g (fun r S2 => (∃ x : Int32, r = some (.int x) ∧ ((x = 0 ∧ okL (F (k + 1)) (F k 1)) ∨ (x = 1 ∧ ¬ okL (F (k + 1)) (F k 1)))) ∧ S2 = St F J) 0 0) RX2 cX2_isTooGreat 2 (some .boolean) 2 [some (.ref k), some (.int ix)] [] (St F J) 0 0 := by
  obtain ⟨hw, hln⟩ := isl_w k hk.1 hk.2
  induction n with
  | zero =>
    intro i ix hi hs hx
    obtain rfl : i = 6 := by omega
    subst hx
    refine g_iload_n 3 dX2_isTooGreat_2 rfl rfl ?_
    refine g_bipush (6) 5 dX2_isTooGreat_3 rfl (by decide) ?_
    refine g_icmp_ge 31 8 dX2_isTooGreat_5 rfl (by decide) (fun h5 => ?_) (fun h5 => ?_)
    · refine g_aload_n 32 dX2_isTooGreat_31 rfl rfl ?_
      refine gf_2_1 35 dX2_isTooGreat_32 rfl kf_X2_15 (by first | decide | assumption) ?_
      refine g_ldc 37 dX2_isTooGreat_35 rfl kc_X2_45 ?_
      refine g_icmp_le 44 40 dX2_isTooGreat_37 rfl (by decide) (fun h37 => ?_) (fun h37 => ?_)
      · refine g_iconst (0) 45 dX2_isTooGreat_44 rfl (by decide) ?_
        refine g_zret dX2_isTooGreat_45 (by decide) ?_
        first | exact ⟨⟨0, rfl, Or.inl ⟨rfl, hs, h37⟩⟩, rfl⟩ | exact ⟨⟨1, rfl, Or.inr ⟨rfl, fun q => h37 q.2⟩⟩, rfl⟩
      · refine g_iconst (1) 41 dX2_isTooGreat_40 rfl (by decide) ?_
        refine g_goto 45 dX2_isTooGreat_41 (by decide) ?_
        refine g_zret dX2_isTooGreat_45 (by decide) ?_
        first | exact ⟨⟨0, rfl, Or.inl ⟨rfl, hs, h37⟩⟩, rfl⟩ | exact ⟨⟨1, rfl, Or.inr ⟨rfl, fun q => h37 q.2⟩⟩, rfl⟩
    · exact absurd (by decide) h5
  | succ n ih =>
    intro i ix hi hs hx
    subst hx
    refine g_iload_n 3 dX2_isTooGreat_2 rfl rfl ?_
    refine g_bipush (6) 5 dX2_isTooGreat_3 rfl (by decide) ?_
    refine g_icmp_ge 31 8 dX2_isTooGreat_5 rfl (by decide) (fun h5 => ?_) (fun h5 => ?_)
    · exact absurd h5 (lt6 (by omega))
    · refine g_aload_n 9 dX2_isTooGreat_8 rfl rfl ?_
      refine gf_2_0 12 dX2_isTooGreat_9 rfl kf_X2_9 (by first | decide | assumption) ?_
      refine g_iload_n 13 dX2_isTooGreat_12 rfl rfl ?_
      refine ga_ild (i) 14 dX2_isTooGreat_13 rfl (by first | decide | assumption) rfl (by rw [hln]; omega) ?_
      refine g_mabs 17 dX2_isTooGreat_14 rfl kl_X2_22 ⟨Nat.le_of_ble_eq_true rfl, Nat.le_of_ble_eq_true rfl, Nat.le_of_ble_eq_true rfl, Nat.le_of_ble_eq_true rfl⟩ (Nat.le_of_ble_eq_true rfl) ?_
      refine g_sipush (9999) 20 dX2_isTooGreat_17 rfl (by decide) ?_
      refine g_icmp_le 25 23 dX2_isTooGreat_20 rfl (by decide) (fun h20 => ?_) (fun h20 => ?_)
      · refine g_iinc (1) 28 dX2_isTooGreat_25 rfl (by decide) (by decide) rfl ?_
        refine g_goto 2 dX2_isTooGreat_28 (by decide) ?_
        refine ih (i + 1) _ (by omega) (fun j hj => ?_) (nI_succ i).symm
        rcases Nat.lt_or_ge j i with q | q
        · exact hs j q
        · obtain rfl : j = i := by omega
          exact h20
      · refine g_iconst (1) 24 dX2_isTooGreat_23 rfl (by decide) ?_
        refine g_zret dX2_isTooGreat_24 (by decide) ?_
        exact ⟨⟨1, rfl, Or.inr ⟨rfl, fun q => h20 (q.1 i (by omega))⟩⟩, rfl⟩

set_option maxRecDepth 100000 in
set_option maxHeartbeats 4000000 in
theorem c_isTooGreat (g : Gl) (l : Launch) {k : Nat} (hk : k < 174 ∧ sh k = 2) (F : Nat → Nat → Int32) (J : Nat → Int64) : Ct g l yX2_isTooGreat cX2_isTooGreat 2 (some .boolean) 1 0 0 [.ref k] (St F J) (fun r S2 => (∃ x : Int32, r = some (.int x) ∧ ((x = 0 ∧ okL (F (k + 1)) (F k 1)) ∨ (x = 1 ∧ ¬ okL (F (k + 1)) (F k 1)))) ∧ S2 = St F J) := by
  refine Ct.of rfl (by decide) rfl (Nat.le_of_ble_eq_true rfl) ?_
  refine g_iconst (0) 1 dX2_isTooGreat_0 rfl (by decide) ?_
  refine g_istore_n 2 dX2_isTooGreat_1 rfl (by decide) ?_
  exact lp_isTooGreat g l hk F J 6 0 _ rfl (fun j hj => absurd hj (Nat.not_lt_zero j)) rfl

set_option maxRecDepth 100000 in
set_option maxHeartbeats 4000000 in
theorem c_signed (g : Gl) (l : Launch) (x y : Int32) (S : Sg) : Ct g l yX2_signed cX2_signed 2 (some .int) 0 0 0 [.int x, .int y] S (fun r S2 => r = some (.int (sg32 x y)) ∧ S2 = S) := by
  refine Ct.of rfl (by decide) rfl (Nat.le_of_ble_eq_true rfl) ?_
  refine g_iload_n 1 dX2_signed_0 rfl rfl ?_
  refine g_if_ge 9 4 dX2_signed_1 rfl (by decide) (fun h1 => ?_) (fun h1 => ?_)
  · refine g_iload_n 10 dX2_signed_9 rfl rfl ?_
    refine g_iret dX2_signed_10 ?_
    exact ⟨by simp [sg32, h1], rfl⟩
  · refine g_iload_n 5 dX2_signed_4 rfl rfl ?_
    refine g_ineg 6 dX2_signed_5 rfl ?_
    refine g_goto 10 dX2_signed_6 (by decide) ?_
    refine g_iret dX2_signed_10 ?_
    exact ⟨by simp [sg32, h1], rfl⟩

set_option maxRecDepth 100000 in
set_option maxHeartbeats 4000000 in
theorem lp_becomeEmpty (g : Gl) (l : Launch) {k : Nat} (hk : k < 174 ∧ sh k = 2) (F : Nat → Nat → Int32) (J : Nat → Int64) {XX : State → Method → Prop} (n : Nat) : ∀ (i : Nat) (ix : Int32) (G : Nat → Nat → Int32), i + n = 6 → ix = nI i → G = fillL F k (fun _ => 0) i → Gj g l (rmd 0 0 0) XX (QM g (fun r S2 => r = none ∧ S2 = St (setL F k (fun _ => 0) (0)) J) 0 0) RX2 cX2_becomeEmpty 2 none 2 [some (.ref k), some (.int ix)] [] (St G J) 0 0 := by
  obtain ⟨hw, hln⟩ := isl_w k hk.1 hk.2
  induction n with
  | zero =>
    intro i ix G hi hx hG
    obtain rfl : i = 6 := by omega
    subst hx; subst hG
    refine g_iload_n 3 dX2_becomeEmpty_2 rfl rfl ?_
    refine g_bipush (6) 5 dX2_becomeEmpty_3 rfl (by decide) ?_
    refine g_icmp_ge 21 8 dX2_becomeEmpty_5 rfl (by decide) (fun h5 => ?_) (fun h5 => ?_)
    · refine g_aload_n 22 dX2_becomeEmpty_21 rfl rfl ?_
      refine g_iconst (0) 23 dX2_becomeEmpty_22 rfl (by decide) ?_
      refine gp_2_1 26 dX2_becomeEmpty_23 rfl kf_X2_15 (by first | decide | assumption) ?_
      refine g_vret dX2_becomeEmpty_26 ?_
      exact ⟨rfl, rfl⟩
    · exact absurd (by decide) h5
  | succ n ih =>
    intro i ix G hi hx hG
    subst hx; subst hG
    refine g_iload_n 3 dX2_becomeEmpty_2 rfl rfl ?_
    refine g_bipush (6) 5 dX2_becomeEmpty_3 rfl (by decide) ?_
    refine g_icmp_ge 21 8 dX2_becomeEmpty_5 rfl (by decide) (fun h5 => ?_) (fun h5 => ?_)
    · exact absurd h5 (lt6 (by omega))
    · refine g_aload_n 9 dX2_becomeEmpty_8 rfl rfl ?_
      refine gf_2_0 12 dX2_becomeEmpty_9 rfl kf_X2_9 (by first | decide | assumption) ?_
      refine g_iload_n 13 dX2_becomeEmpty_12 rfl rfl ?_
      refine g_iconst (0) 14 dX2_becomeEmpty_13 rfl (by decide) ?_
      refine ga_ist (i) 15 dX2_becomeEmpty_14 rfl (by first | decide | assumption) rfl (by rw [hln]; omega) ?_
      refine g_iinc (1) 18 dX2_becomeEmpty_15 rfl (by decide) (by decide) rfl ?_
      refine g_goto 2 dX2_becomeEmpty_18 (by decide) ?_
      exact ih (i + 1) _ _  (by omega) (nI_succ i).symm (fillL_s _ _ _ _ rfl)

set_option maxRecDepth 100000 in
set_option maxHeartbeats 4000000 in
theorem c_becomeEmpty (g : Gl) (l : Launch) {k : Nat} (hk : k < 174 ∧ sh k = 2) (F : Nat → Nat → Int32) (J : Nat → Int64) : Ct g l yX2_becomeEmpty cX2_becomeEmpty 2 none 0 0 0 [.ref k] (St F J) (fun r S2 => r = none ∧ S2 = St (setL F k (fun _ => 0) (0)) J) := by
  refine Ct.of rfl (by decide) rfl (Nat.le_of_ble_eq_true rfl) ?_
  refine g_iconst (0) 1 dX2_becomeEmpty_0 rfl (by decide) ?_
  refine g_istore_n 2 dX2_becomeEmpty_1 rfl (by decide) ?_
  exact lp_becomeEmpty g l hk F J 6 0 _ _  rfl rfl (fillL_0 _ _ _).symm

set_option maxRecDepth 100000 in
set_option maxHeartbeats 4000000 in
theorem lp_becomeSame (g : Gl) (l : Launch) {k : Nat} (hk : k < 174 ∧ sh k = 2) {k2 : Nat} (hk2 : k2 < 174 ∧ sh k2 = 2) (hne : k2 ≠ k) (F : Nat → Nat → Int32) (J : Nat → Int64) {XX : State → Method → Prop} (n : Nat) : ∀ (i : Nat) (ix : Int32) (G : Nat → Nat → Int32), i + n = 6 → ix = nI i → G = fillL F k (F (k2 + 1)) i → Gj g l (rmd 0 0 0) XX (QM g (fun r S2 => r = none ∧ S2 = St (setL F k (F (k2 + 1)) (F k2 1)) J) 0 0) RX2 cX2_becomeSame 3 none 2 [some (.ref k), some (.ref k2), some (.int ix)] [] (St G J) 0 0 := by
  obtain ⟨hw, hln⟩ := isl_w k hk.1 hk.2
  obtain ⟨hw2, hln2⟩ := isl_w k2 hk2.1 hk2.2
  have hn2 := isl_ne hk hk2
  have hn3 : k2 + 1 ≠ k + 1 := by omega
  have hn4 := isl_ne hk2 hk
  induction n with
  | zero =>
    intro i ix G hi hx hG
    obtain rfl : i = 6 := by omega
    subst hx; subst hG
    refine g_iload_n 3 dX2_becomeSame_2 rfl rfl ?_
    refine g_bipush (6) 5 dX2_becomeSame_3 rfl (by decide) ?_
    refine g_icmp_ge 26 8 dX2_becomeSame_5 rfl (by decide) (fun h5 => ?_) (fun h5 => ?_)
    · refine g_aload_n 27 dX2_becomeSame_26 rfl rfl ?_
      refine g_aload_n 28 dX2_becomeSame_27 rfl rfl ?_
      refine gf_2_1 31 dX2_becomeSame_28 rfl kf_X2_15 (by first | decide | assumption) ?_
      refine gp_2_1 34 dX2_becomeSame_31 rfl kf_X2_15 (by first | decide | assumption) ?_
      refine g_vret dX2_becomeSame_34 ?_
      exact ⟨rfl, by simp only [setL, fillL_ne _ _ _ hn2, fillL_ne _ _ _ hn3]⟩
    · exact absurd (by decide) h5
  | succ n ih =>
    intro i ix G hi hx hG
    subst hx; subst hG
    refine g_iload_n 3 dX2_becomeSame_2 rfl rfl ?_
    refine g_bipush (6) 5 dX2_becomeSame_3 rfl (by decide) ?_
    refine g_icmp_ge 26 8 dX2_becomeSame_5 rfl (by decide) (fun h5 => ?_) (fun h5 => ?_)
    · exact absurd h5 (lt6 (by omega))
    · refine g_aload_n 9 dX2_becomeSame_8 rfl rfl ?_
      refine gf_2_0 12 dX2_becomeSame_9 rfl kf_X2_9 (by first | decide | assumption) ?_
      refine g_iload_n 13 dX2_becomeSame_12 rfl rfl ?_
      refine g_aload_n 14 dX2_becomeSame_13 rfl rfl ?_
      refine gf_2_0 17 dX2_becomeSame_14 rfl kf_X2_9 (by first | decide | assumption) ?_
      refine g_iload_n 18 dX2_becomeSame_17 rfl rfl ?_
      refine ga_ild (i) 19 dX2_becomeSame_18 rfl (by first | decide | assumption) rfl (by rw [hln2]; omega) ?_
      refine ga_ist (i) 20 dX2_becomeSame_19 rfl (by first | decide | assumption) rfl (by rw [hln]; omega) ?_
      refine g_iinc (1) 23 dX2_becomeSame_20 rfl (by decide) (by decide) rfl ?_
      refine g_goto 2 dX2_becomeSame_23 (by decide) ?_
      exact ih (i + 1) _ _  (by omega) (nI_succ i).symm (fillL_s _ _ _ _ (by simp only [fillL_ne _ _ _ hn2, fillL_ne _ _ _ hn3]))

set_option maxRecDepth 100000 in
set_option maxHeartbeats 4000000 in
theorem c_becomeSame (g : Gl) (l : Launch) {k : Nat} (hk : k < 174 ∧ sh k = 2) {k2 : Nat} (hk2 : k2 < 174 ∧ sh k2 = 2) (hne : k2 ≠ k) (F : Nat → Nat → Int32) (J : Nat → Int64) : Ct g l yX2_becomeSame cX2_becomeSame 3 none 0 0 0 [.ref k, .ref k2] (St F J) (fun r S2 => r = none ∧ S2 = St (setL F k (F (k2 + 1)) (F k2 1)) J) := by
  refine Ct.of rfl (by decide) rfl (Nat.le_of_ble_eq_true rfl) ?_
  refine g_iconst (0) 1 dX2_becomeSame_0 rfl (by decide) ?_
  refine g_istore_n 2 dX2_becomeSame_1 rfl (by decide) ?_
  exact lp_becomeSame g l hk hk2 hne F J 6 0 _ _  rfl rfl (fillL_0 _ _ _).symm

set_option maxRecDepth 100000 in
set_option maxHeartbeats 4000000 in
theorem lp_becomeTimes (g : Gl) (l : Launch) {k : Nat} (hk : k < 174 ∧ sh k = 2) {k2 : Nat} (hk2 : k2 < 174 ∧ sh k2 = 2) (hne : k2 ≠ k) (m : Int32) (F : Nat → Nat → Int32) (J : Nat → Int64) {XX : State → Method → Prop} (n : Nat) : ∀ (i : Nat) (ix : Int32) (G : Nat → Nat → Int32), i + n = 6 → ix = nI i → G = fillL F k (fun j => F (k2 + 1) j * m) i → Gj g l (rmd 0 0 0) XX (QM g (fun r S2 => r = none ∧ S2 = St (setL F k (fun j => F (k2 + 1) j * m) (F k2 1 * m)) J) 0 0) RX2 cX2_becomeTimes 4 none 2 [some (.ref k), some (.ref k2), some (.int m), some (.int ix)] [] (St G J) 0 0 := by
  obtain ⟨hw, hln⟩ := isl_w k hk.1 hk.2
  obtain ⟨hw2, hln2⟩ := isl_w k2 hk2.1 hk2.2
  have hn2 := isl_ne hk hk2
  have hn3 : k2 + 1 ≠ k + 1 := by omega
  have hn4 := isl_ne hk2 hk
  induction n with
  | zero =>
    intro i ix G hi hx hG
    obtain rfl : i = 6 := by omega
    subst hx; subst hG
    refine g_iload_n 3 dX2_becomeTimes_2 rfl rfl ?_
    refine g_bipush (6) 5 dX2_becomeTimes_3 rfl (by decide) ?_
    refine g_icmp_ge 28 8 dX2_becomeTimes_5 rfl (by decide) (fun h5 => ?_) (fun h5 => ?_)
    · refine g_aload_n 29 dX2_becomeTimes_28 rfl rfl ?_
      refine g_aload_n 30 dX2_becomeTimes_29 rfl rfl ?_
      refine gf_2_1 33 dX2_becomeTimes_30 rfl kf_X2_15 (by first | decide | assumption) ?_
      refine g_iload_n 34 dX2_becomeTimes_33 rfl rfl ?_
      refine g_imul 35 dX2_becomeTimes_34 rfl ?_
      refine gp_2_1 38 dX2_becomeTimes_35 rfl kf_X2_15 (by first | decide | assumption) ?_
      refine g_vret dX2_becomeTimes_38 ?_
      exact ⟨rfl, by simp only [setL, fillL_ne _ _ _ hn2, fillL_ne _ _ _ hn3]⟩
    · exact absurd (by decide) h5
  | succ n ih =>
    intro i ix G hi hx hG
    subst hx; subst hG
    refine g_iload_n 3 dX2_becomeTimes_2 rfl rfl ?_
    refine g_bipush (6) 5 dX2_becomeTimes_3 rfl (by decide) ?_
    refine g_icmp_ge 28 8 dX2_becomeTimes_5 rfl (by decide) (fun h5 => ?_) (fun h5 => ?_)
    · exact absurd h5 (lt6 (by omega))
    · refine g_aload_n 9 dX2_becomeTimes_8 rfl rfl ?_
      refine gf_2_0 12 dX2_becomeTimes_9 rfl kf_X2_9 (by first | decide | assumption) ?_
      refine g_iload_n 13 dX2_becomeTimes_12 rfl rfl ?_
      refine g_aload_n 14 dX2_becomeTimes_13 rfl rfl ?_
      refine gf_2_0 17 dX2_becomeTimes_14 rfl kf_X2_9 (by first | decide | assumption) ?_
      refine g_iload_n 18 dX2_becomeTimes_17 rfl rfl ?_
      refine ga_ild (i) 19 dX2_becomeTimes_18 rfl (by first | decide | assumption) rfl (by rw [hln2]; omega) ?_
      refine g_iload_n 20 dX2_becomeTimes_19 rfl rfl ?_
      refine g_imul 21 dX2_becomeTimes_20 rfl ?_
      refine ga_ist (i) 22 dX2_becomeTimes_21 rfl (by first | decide | assumption) rfl (by rw [hln]; omega) ?_
      refine g_iinc (1) 25 dX2_becomeTimes_22 rfl (by decide) (by decide) rfl ?_
      refine g_goto 2 dX2_becomeTimes_25 (by decide) ?_
      exact ih (i + 1) _ _  (by omega) (nI_succ i).symm (fillL_s _ _ _ _ (by simp only [fillL_ne _ _ _ hn2, fillL_ne _ _ _ hn3]))

set_option maxRecDepth 100000 in
set_option maxHeartbeats 4000000 in
theorem c_becomeTimes (g : Gl) (l : Launch) {k : Nat} (hk : k < 174 ∧ sh k = 2) {k2 : Nat} (hk2 : k2 < 174 ∧ sh k2 = 2) (hne : k2 ≠ k) (m : Int32) (F : Nat → Nat → Int32) (J : Nat → Int64) : Ct g l yX2_becomeTimes cX2_becomeTimes 4 none 0 0 0 [.ref k, .ref k2, .int m] (St F J) (fun r S2 => r = none ∧ S2 = St (setL F k (fun j => F (k2 + 1) j * m) (F k2 1 * m)) J) := by
  refine Ct.of rfl (by decide) rfl (Nat.le_of_ble_eq_true rfl) ?_
  refine g_iconst (0) 1 dX2_becomeTimes_0 rfl (by decide) ?_
  refine g_istore_n 2 dX2_becomeTimes_1 rfl (by decide) ?_
  exact lp_becomeTimes g l hk hk2 hne m F J 6 0 _ _  rfl rfl (fillL_0 _ _ _).symm

set_option maxRecDepth 100000 in
set_option maxHeartbeats 4000000 in
theorem lp_becomeTrimmed (g : Gl) (l : Launch) {k : Nat} (hk : k < 174 ∧ sh k = 2) {k2 : Nat} (hk2 : k2 < 174 ∧ sh k2 = 2) (hne : k2 ≠ k) (F : Nat → Nat → Int32) (J : Nat → Int64) {XX : State → Method → Prop} (n : Nat) : ∀ (i : Nat) (ix : Int32) (G : Nat → Nat → Int32) (x3 : Option Value), i + n = 6 → ix = nI i → G = fillL F k (fun j => sg32 (F (k2 + 1) j) (min32 (abs32 (F (k2 + 1) j)) (F k2 1))) i → Gj g l (rmd 1 0 0) XX (QM g (fun r S2 => r = none ∧ S2 = St (setL F k (fun j => sg32 (F (k2 + 1) j) (min32 (abs32 (F (k2 + 1) j)) (F k2 1))) (F k2 1)) J) 0 0) RX2 cX2_becomeTrimmed 4 none 2 [some (.ref k), some (.ref k2), some (.int ix), x3] [] (St G J) 0 0 := by
  obtain ⟨hw, hln⟩ := isl_w k hk.1 hk.2
  obtain ⟨hw2, hln2⟩ := isl_w k2 hk2.1 hk2.2
  have hn2 := isl_ne hk hk2
  have hn3 : k2 + 1 ≠ k + 1 := by omega
  have hn4 := isl_ne hk2 hk
  induction n with
  | zero =>
    intro i ix G x3 hi hx hG
    obtain rfl : i = 6 := by omega
    subst hx; subst hG
    refine g_iload_n 3 dX2_becomeTrimmed_2 rfl rfl ?_
    refine g_bipush (6) 5 dX2_becomeTrimmed_3 rfl (by decide) ?_
    refine g_icmp_ge 42 8 dX2_becomeTrimmed_5 rfl (by decide) (fun h5 => ?_) (fun h5 => ?_)
    · refine g_aload_n 43 dX2_becomeTrimmed_42 rfl rfl ?_
      refine g_aload_n 44 dX2_becomeTrimmed_43 rfl rfl ?_
      refine gf_2_1 47 dX2_becomeTrimmed_44 rfl kf_X2_15 (by first | decide | assumption) ?_
      refine gp_2_1 50 dX2_becomeTrimmed_47 rfl kf_X2_15 (by first | decide | assumption) ?_
      refine g_vret dX2_becomeTrimmed_50 ?_
      exact ⟨rfl, by simp only [setL, fillL_ne _ _ _ hn2, fillL_ne _ _ _ hn3]⟩
    · exact absurd (by decide) h5
  | succ n ih =>
    intro i ix G x3 hi hx hG
    subst hx; subst hG
    refine g_iload_n 3 dX2_becomeTrimmed_2 rfl rfl ?_
    refine g_bipush (6) 5 dX2_becomeTrimmed_3 rfl (by decide) ?_
    refine g_icmp_ge 42 8 dX2_becomeTrimmed_5 rfl (by decide) (fun h5 => ?_) (fun h5 => ?_)
    · exact absurd h5 (lt6 (by omega))
    · refine g_aload_n 9 dX2_becomeTrimmed_8 rfl rfl ?_
      refine gf_2_0 12 dX2_becomeTrimmed_9 rfl kf_X2_9 (by first | decide | assumption) ?_
      refine g_iload_n 13 dX2_becomeTrimmed_12 rfl rfl ?_
      refine ga_ild (i) 14 dX2_becomeTrimmed_13 rfl (by first | decide | assumption) rfl (by rw [hln2]; omega) ?_
      refine g_istore_n 15 dX2_becomeTrimmed_14 rfl (by decide) ?_
      refine g_aload_n 16 dX2_becomeTrimmed_15 rfl rfl ?_
      refine gf_2_0 19 dX2_becomeTrimmed_16 rfl kf_X2_9 (by first | decide | assumption) ?_
      refine g_iload_n 20 dX2_becomeTrimmed_19 rfl rfl ?_
      refine g_iload_n 21 dX2_becomeTrimmed_20 rfl rfl ?_
      refine g_iload_n 22 dX2_becomeTrimmed_21 rfl rfl ?_
      refine g_mabs 25 dX2_becomeTrimmed_22 rfl kl_X2_22 ⟨Nat.le_of_ble_eq_true rfl, Nat.le_of_ble_eq_true rfl, Nat.le_of_ble_eq_true rfl, Nat.le_of_ble_eq_true rfl⟩ (Nat.le_of_ble_eq_true rfl) ?_
      refine g_aload_n 26 dX2_becomeTrimmed_25 rfl rfl ?_
      refine gf_2_1 29 dX2_becomeTrimmed_26 rfl kf_X2_15 (by first | decide | assumption) ?_
      refine g_mmin 32 dX2_becomeTrimmed_29 rfl kl_X2_28 ⟨Nat.le_of_ble_eq_true rfl, Nat.le_of_ble_eq_true rfl, Nat.le_of_ble_eq_true rfl, Nat.le_of_ble_eq_true rfl⟩ (Nat.le_of_ble_eq_true rfl) ?_
      refine g_s2 35 dX2_becomeTrimmed_32 rfl kl_X2_35 ms_X2_signed ⟨Nat.le_of_ble_eq_true rfl, Nat.le_of_ble_eq_true rfl⟩ (Nat.le_of_ble_eq_true rfl) (c_signed g l _ _ _) ?_
      rintro _ _ ⟨rfl, rfl⟩
      refine ga_ist (i) 36 dX2_becomeTrimmed_35 rfl (by first | decide | assumption) rfl (by rw [hln]; omega) ?_
      refine g_iinc (1) 39 dX2_becomeTrimmed_36 rfl (by decide) (by decide) rfl ?_
      refine g_goto 2 dX2_becomeTrimmed_39 (by decide) ?_
      exact ih (i + 1) _ _ _ (by omega) (nI_succ i).symm (fillL_s _ _ _ _ (by simp only [fillL_ne _ _ _ hn2, fillL_ne _ _ _ hn3]))

set_option maxRecDepth 100000 in
set_option maxHeartbeats 4000000 in
theorem c_becomeTrimmed (g : Gl) (l : Launch) {k : Nat} (hk : k < 174 ∧ sh k = 2) {k2 : Nat} (hk2 : k2 < 174 ∧ sh k2 = 2) (hne : k2 ≠ k) (F : Nat → Nat → Int32) (J : Nat → Int64) : Ct g l yX2_becomeTrimmed cX2_becomeTrimmed 4 none 1 0 0 [.ref k, .ref k2] (St F J) (fun r S2 => r = none ∧ S2 = St (setL F k (fun j => sg32 (F (k2 + 1) j) (min32 (abs32 (F (k2 + 1) j)) (F k2 1))) (F k2 1)) J) := by
  refine Ct.of rfl (by decide) rfl (Nat.le_of_ble_eq_true rfl) ?_
  refine g_iconst (0) 1 dX2_becomeTrimmed_0 rfl (by decide) ?_
  refine g_istore_n 2 dX2_becomeTrimmed_1 rfl (by decide) ?_
  exact lp_becomeTrimmed g l hk hk2 hne F J 6 0 _ _ _ rfl rfl (fillL_0 _ _ _).symm

set_option maxRecDepth 100000 in
set_option maxHeartbeats 4000000 in
theorem lp_becomeCut (g : Gl) (l : Launch) {k : Nat} (hk : k < 174 ∧ sh k = 2) {k2 : Nat} (hk2 : k2 < 174 ∧ sh k2 = 2) (hne : k2 ≠ k) (m : Int32) (F : Nat → Nat → Int32) (J : Nat → Int64) {XX : State → Method → Prop} (n : Nat) : ∀ (i : Nat) (ix : Int32) (G : Nat → Nat → Int32) (x5 : Option Value), i + n = 6 → ix = nI i → G = fillL F k (fun j => sg32 (F (k2 + 1) j) ((abs32 (F (k2 + 1) j) + max32 m 1 - 1) / max32 m 1)) i → Gj g l (rmd 1 0 0) XX (QM g (fun r S2 => r = none ∧ S2 = St (setL F k (fun j => sg32 (F (k2 + 1) j) ((abs32 (F (k2 + 1) j) + max32 m 1 - 1) / max32 m 1)) ((F k2 1 + max32 m 1 - 1) / max32 m 1)) J) 0 0) RX2 cX2_becomeCut 6 none 9 [some (.ref k), some (.ref k2), some (.int m), some (.int (max32 m 1)), some (.int ix), x5] [] (St G J) 0 0 := by
  obtain ⟨hw, hln⟩ := isl_w k hk.1 hk.2
  obtain ⟨hw2, hln2⟩ := isl_w k2 hk2.1 hk2.2
  have hn2 := isl_ne hk hk2
  have hn3 : k2 + 1 ≠ k + 1 := by omega
  have hn4 := isl_ne hk2 hk
  induction n with
  | zero =>
    intro i ix G x5 hi hx hG
    obtain rfl : i = 6 := by omega
    subst hx; subst hG
    refine g_iload 11 dX2_becomeCut_9 rfl rfl ?_
    refine g_bipush (6) 13 dX2_becomeCut_11 rfl (by decide) ?_
    refine g_icmp_ge 54 16 dX2_becomeCut_13 rfl (by decide) (fun h13 => ?_) (fun h13 => ?_)
    · refine g_aload_n 55 dX2_becomeCut_54 rfl rfl ?_
      refine g_aload_n 56 dX2_becomeCut_55 rfl rfl ?_
      refine gf_2_1 59 dX2_becomeCut_56 rfl kf_X2_15 (by first | decide | assumption) ?_
      refine g_iload_n 60 dX2_becomeCut_59 rfl rfl ?_
      refine g_iadd 61 dX2_becomeCut_60 rfl ?_
      refine g_iconst (1) 62 dX2_becomeCut_61 rfl (by decide) ?_
      refine g_isub 63 dX2_becomeCut_62 rfl ?_
      refine g_iload_n 64 dX2_becomeCut_63 rfl rfl ?_
      refine g_idiv 65 dX2_becomeCut_64 rfl (max1_ne m) ?_
      refine gp_2_1 68 dX2_becomeCut_65 rfl kf_X2_15 (by first | decide | assumption) ?_
      refine g_vret dX2_becomeCut_68 ?_
      exact ⟨rfl, by simp only [setL, fillL_ne _ _ _ hn2, fillL_ne _ _ _ hn3]⟩
    · exact absurd (by decide) h13
  | succ n ih =>
    intro i ix G x5 hi hx hG
    subst hx; subst hG
    refine g_iload 11 dX2_becomeCut_9 rfl rfl ?_
    refine g_bipush (6) 13 dX2_becomeCut_11 rfl (by decide) ?_
    refine g_icmp_ge 54 16 dX2_becomeCut_13 rfl (by decide) (fun h13 => ?_) (fun h13 => ?_)
    · exact absurd h13 (lt6 (by omega))
    · refine g_aload_n 17 dX2_becomeCut_16 rfl rfl ?_
      refine gf_2_0 20 dX2_becomeCut_17 rfl kf_X2_9 (by first | decide | assumption) ?_
      refine g_iload 22 dX2_becomeCut_20 rfl rfl ?_
      refine ga_ild (i) 23 dX2_becomeCut_22 rfl (by first | decide | assumption) rfl (by rw [hln2]; omega) ?_
      refine g_istore 25 dX2_becomeCut_23 rfl (by decide) ?_
      refine g_aload_n 26 dX2_becomeCut_25 rfl rfl ?_
      refine gf_2_0 29 dX2_becomeCut_26 rfl kf_X2_9 (by first | decide | assumption) ?_
      refine g_iload 31 dX2_becomeCut_29 rfl rfl ?_
      refine g_iload 33 dX2_becomeCut_31 rfl rfl ?_
      refine g_iload 35 dX2_becomeCut_33 rfl rfl ?_
      refine g_mabs 38 dX2_becomeCut_35 rfl kl_X2_22 ⟨Nat.le_of_ble_eq_true rfl, Nat.le_of_ble_eq_true rfl, Nat.le_of_ble_eq_true rfl, Nat.le_of_ble_eq_true rfl⟩ (Nat.le_of_ble_eq_true rfl) ?_
      refine g_iload_n 39 dX2_becomeCut_38 rfl rfl ?_
      refine g_iadd 40 dX2_becomeCut_39 rfl ?_
      refine g_iconst (1) 41 dX2_becomeCut_40 rfl (by decide) ?_
      refine g_isub 42 dX2_becomeCut_41 rfl ?_
      refine g_iload_n 43 dX2_becomeCut_42 rfl rfl ?_
      refine g_idiv 44 dX2_becomeCut_43 rfl (max1_ne m) ?_
      refine g_s2 47 dX2_becomeCut_44 rfl kl_X2_35 ms_X2_signed ⟨Nat.le_of_ble_eq_true rfl, Nat.le_of_ble_eq_true rfl⟩ (Nat.le_of_ble_eq_true rfl) (c_signed g l _ _ _) ?_
      rintro _ _ ⟨rfl, rfl⟩
      refine ga_ist (i) 48 dX2_becomeCut_47 rfl (by first | decide | assumption) rfl (by rw [hln]; omega) ?_
      refine g_iinc (1) 51 dX2_becomeCut_48 rfl (by decide) (by decide) rfl ?_
      refine g_goto 9 dX2_becomeCut_51 (by decide) ?_
      exact ih (i + 1) _ _ _ (by omega) (nI_succ i).symm (fillL_s _ _ _ _ (by simp only [fillL_ne _ _ _ hn2, fillL_ne _ _ _ hn3]))

set_option maxRecDepth 100000 in
set_option maxHeartbeats 4000000 in
theorem c_becomeCut (g : Gl) (l : Launch) {k : Nat} (hk : k < 174 ∧ sh k = 2) {k2 : Nat} (hk2 : k2 < 174 ∧ sh k2 = 2) (hne : k2 ≠ k) (m : Int32) (F : Nat → Nat → Int32) (J : Nat → Int64) : Ct g l yX2_becomeCut cX2_becomeCut 6 none 1 0 0 [.ref k, .ref k2, .int m] (St F J) (fun r S2 => r = none ∧ S2 = St (setL F k (fun j => sg32 (F (k2 + 1) j) ((abs32 (F (k2 + 1) j) + max32 m 1 - 1) / max32 m 1)) ((F k2 1 + max32 m 1 - 1) / max32 m 1)) J) := by
  refine Ct.of rfl (by decide) rfl (Nat.le_of_ble_eq_true rfl) ?_
  refine g_iload_n 1 dX2_becomeCut_0 rfl rfl ?_
  refine g_iconst (1) 2 dX2_becomeCut_1 rfl (by decide) ?_
  refine g_mmax 5 dX2_becomeCut_2 rfl kl_X2_32 ⟨Nat.le_of_ble_eq_true rfl, Nat.le_of_ble_eq_true rfl, Nat.le_of_ble_eq_true rfl, Nat.le_of_ble_eq_true rfl⟩ (Nat.le_of_ble_eq_true rfl) ?_
  refine g_istore_n 6 dX2_becomeCut_5 rfl (by decide) ?_
  refine g_iconst (0) 7 dX2_becomeCut_6 rfl (by decide) ?_
  refine g_istore 9 dX2_becomeCut_7 rfl (by decide) ?_
  exact lp_becomeCut g l hk hk2 hne m F J 6 0 _ _ _ rfl rfl (fillL_0 _ _ _).symm

set_option maxRecDepth 100000 in
set_option maxHeartbeats 4000000 in
theorem lp_becomeOpposite (g : Gl) (l : Launch) {k : Nat} (hk : k < 174 ∧ sh k = 2) {k2 : Nat} (hk2 : k2 < 174 ∧ sh k2 = 2) (hne : k2 ≠ k) (F : Nat → Nat → Int32) (J : Nat → Int64) {XX : State → Method → Prop} (n : Nat) : ∀ (i : Nat) (ix : Int32) (G : Nat → Nat → Int32), i + n = 6 → ix = nI i → G = fillL F k (fun j => -(F (k2 + 1) j)) i → Gj g l (rmd 2 0 0) XX (QM g (fun r S2 => r = none ∧ S2 = St (setL F k (fun j => -(F (k2 + 1) j)) (mw (F (k2 + 1)) 0 0 6 + 1 - F k2 1)) J) 0 0) RX2 cX2_becomeOpposite 3 none 2 [some (.ref k), some (.ref k2), some (.int ix)] [] (St G J) 0 0 := by
  obtain ⟨hw, hln⟩ := isl_w k hk.1 hk.2
  obtain ⟨hw2, hln2⟩ := isl_w k2 hk2.1 hk2.2
  have hn2 := isl_ne hk hk2
  have hn3 : k2 + 1 ≠ k + 1 := by omega
  have hn4 := isl_ne hk2 hk
  induction n with
  | zero =>
    intro i ix G hi hx hG
    obtain rfl : i = 6 := by omega
    subst hx; subst hG
    refine g_iload_n 3 dX2_becomeOpposite_2 rfl rfl ?_
    refine g_bipush (6) 5 dX2_becomeOpposite_3 rfl (by decide) ?_
    refine g_icmp_ge 27 8 dX2_becomeOpposite_5 rfl (by decide) (fun h5 => ?_) (fun h5 => ?_)
    · refine g_aload_n 28 dX2_becomeOpposite_27 rfl rfl ?_
      refine g_aload_n 29 dX2_becomeOpposite_28 rfl rfl ?_
      refine g_iconst (0) 30 dX2_becomeOpposite_29 rfl (by decide) ?_
      refine g_iconst (0) 31 dX2_becomeOpposite_30 rfl (by decide) ?_
      refine g_v2 2 34 dX2_becomeOpposite_31 rfl kl_X2_42 mv_X2_mayWeigh rfl ⟨Nat.le_of_ble_eq_true rfl, Nat.le_of_ble_eq_true rfl⟩ (Nat.le_of_ble_eq_true rfl) (by first | decide | assumption) (c_mayWeigh g l hk2 _ _ _ J) ?_
      rintro _ _ ⟨rfl, rfl⟩
      refine g_iconst (1) 35 dX2_becomeOpposite_34 rfl (by decide) ?_
      refine g_iadd 36 dX2_becomeOpposite_35 rfl ?_
      refine g_aload_n 37 dX2_becomeOpposite_36 rfl rfl ?_
      refine gf_2_1 40 dX2_becomeOpposite_37 rfl kf_X2_15 (by first | decide | assumption) ?_
      refine g_isub 41 dX2_becomeOpposite_40 rfl ?_
      refine gp_2_1 44 dX2_becomeOpposite_41 rfl kf_X2_15 (by first | decide | assumption) ?_
      refine g_vret dX2_becomeOpposite_44 ?_
      exact ⟨rfl, by simp only [setL, fillL_ne _ _ _ hn2, fillL_ne _ _ _ hn3]⟩
    · exact absurd (by decide) h5
  | succ n ih =>
    intro i ix G hi hx hG
    subst hx; subst hG
    refine g_iload_n 3 dX2_becomeOpposite_2 rfl rfl ?_
    refine g_bipush (6) 5 dX2_becomeOpposite_3 rfl (by decide) ?_
    refine g_icmp_ge 27 8 dX2_becomeOpposite_5 rfl (by decide) (fun h5 => ?_) (fun h5 => ?_)
    · exact absurd h5 (lt6 (by omega))
    · refine g_aload_n 9 dX2_becomeOpposite_8 rfl rfl ?_
      refine gf_2_0 12 dX2_becomeOpposite_9 rfl kf_X2_9 (by first | decide | assumption) ?_
      refine g_iload_n 13 dX2_becomeOpposite_12 rfl rfl ?_
      refine g_aload_n 14 dX2_becomeOpposite_13 rfl rfl ?_
      refine gf_2_0 17 dX2_becomeOpposite_14 rfl kf_X2_9 (by first | decide | assumption) ?_
      refine g_iload_n 18 dX2_becomeOpposite_17 rfl rfl ?_
      refine ga_ild (i) 19 dX2_becomeOpposite_18 rfl (by first | decide | assumption) rfl (by rw [hln2]; omega) ?_
      refine g_ineg 20 dX2_becomeOpposite_19 rfl ?_
      refine ga_ist (i) 21 dX2_becomeOpposite_20 rfl (by first | decide | assumption) rfl (by rw [hln]; omega) ?_
      refine g_iinc (1) 24 dX2_becomeOpposite_21 rfl (by decide) (by decide) rfl ?_
      refine g_goto 2 dX2_becomeOpposite_24 (by decide) ?_
      exact ih (i + 1) _ _  (by omega) (nI_succ i).symm (fillL_s _ _ _ _ (by simp only [fillL_ne _ _ _ hn2, fillL_ne _ _ _ hn3]))

set_option maxRecDepth 100000 in
set_option maxHeartbeats 4000000 in
theorem c_becomeOpposite (g : Gl) (l : Launch) {k : Nat} (hk : k < 174 ∧ sh k = 2) {k2 : Nat} (hk2 : k2 < 174 ∧ sh k2 = 2) (hne : k2 ≠ k) (F : Nat → Nat → Int32) (J : Nat → Int64) : Ct g l yX2_becomeOpposite cX2_becomeOpposite 3 none 2 0 0 [.ref k, .ref k2] (St F J) (fun r S2 => r = none ∧ S2 = St (setL F k (fun j => -(F (k2 + 1) j)) (mw (F (k2 + 1)) 0 0 6 + 1 - F k2 1)) J) := by
  refine Ct.of rfl (by decide) rfl (Nat.le_of_ble_eq_true rfl) ?_
  refine g_iconst (0) 1 dX2_becomeOpposite_0 rfl (by decide) ?_
  refine g_istore_n 2 dX2_becomeOpposite_1 rfl (by decide) ?_
  exact lp_becomeOpposite g l hk hk2 hne F J 6 0 _ _  rfl rfl (fillL_0 _ _ _).symm

def unl (v w : Int32) : Prop := (¬ 0 ≤ v ∧ 0 < w) ∨ (¬ v ≤ 0 ∧ ¬ 0 ≤ w)
abbrev unl_dec (v w : Int32) : Decidable (unl v w) := inferInstanceAs (Decidable ((¬ 0 ≤ v ∧ 0 < w) ∨ (¬ v ≤ 0 ∧ ¬ 0 ≤ w)))
def sd (v w : Nat → Int32) (d : Int32) : Nat → Int32
  | 0 => d
  | i + 1 => if (¬ 0 ≤ v i ∧ 0 < w i) ∨ (¬ v i ≤ 0 ∧ ¬ 0 ≤ w i) then sd v w d i - min32 (abs32 (v i)) (abs32 (w i)) else sd v w d i
theorem sd_pos {v w : Nat → Int32} {d : Int32} {i : Nat} (h : (¬ 0 ≤ v i ∧ 0 < w i) ∨ (¬ v i ≤ 0 ∧ ¬ 0 ≤ w i)) : sd v w d (i + 1) = sd v w d i - min32 (abs32 (v i)) (abs32 (w i)) := by rw [sd, if_pos h]
theorem sd_neg {v w : Nat → Int32} {d : Int32} {i : Nat} (h : ¬ ((¬ 0 ≤ v i ∧ 0 < w i) ∨ (¬ v i ≤ 0 ∧ ¬ 0 ≤ w i))) : sd v w d (i + 1) = sd v w d i := by rw [sd, if_neg h]
theorem setL_k (F : Nat → Nat → Int32) (k : Nat) (w : Nat → Int32) (d : Int32) : setL F k w d k 1 = d := by simp [setL, up2, upd]
theorem setL_w (F : Nat → Nat → Int32) (k : Nat) (w : Nat → Int32) (d : Int32) {j : Nat} (hj : j < 6) : setL F k w d (k + 1) j = w j := by simp [setL, up2, fillL, hj]
theorem setL_ne (F : Nat → Nat → Int32) {k q : Nat} (w : Nat → Int32) (d : Int32) (h1 : q ≠ k) (h2 : q ≠ k + 1) : setL F k w d q = F q := by simp [setL, up2, fillL, h1, h2]
theorem setL_upw (F : Nat → Nat → Int32) (k : Nat) (w : Nat → Int32) (d x : Int32) {j : Nat} (hj : j < 6) : up2 (setL F k w d) (k + 1) j x = setL F k (upd w j x) d := by
  funext q i
  by_cases h1 : q = k
  · subst h1; simp [setL, up2, upd, fillL]
  · by_cases h2 : q = k + 1
    · subst h2
      simp only [setL, up2, upd, fillL, if_true, if_neg (show ¬ k + 1 = k by omega)]
      by_cases e : i = j
      · subst e; simp [hj]
      · simp [e]
    · simp [setL, up2, upd, fillL, h1, h2]
theorem setL_upd (F : Nat → Nat → Int32) (k : Nat) (w : Nat → Int32) (d x : Int32) : up2 (setL F k w d) k 1 x = setL F k w x := by
  funext q i
  by_cases h1 : q = k
  · subst h1; simp only [setL, up2, upd, if_true]
    by_cases e : i = 1 <;> simp [e]
  · simp [setL, up2, h1]

set_option maxRecDepth 100000 in
set_option maxHeartbeats 4000000 in
theorem lp_becomeSum (g : Gl) (l : Launch) {k : Nat} (hk : k < 174 ∧ sh k = 2) {k2 : Nat} (hk2 : k2 < 174 ∧ sh k2 = 2) (hne : k2 ≠ k) {k3 : Nat} (hk3 : k3 < 174 ∧ sh k3 = 2) (hne3 : k3 ≠ k) (F : Nat → Nat → Int32) (J : Nat → Int64) {XX : State → Method → Prop} (n : Nat) : ∀ (i : Nat) (sm ix : Int32) (G : Nat → Nat → Int32) (x5 x6 : Option Value), i + n = 6 → sm = sd (F (k2 + 1)) (F (k3 + 1)) (F k2 1 + F k3 1) i → ix = nI i → G = fillL F k (fun j => F (k2 + 1) j + F (k3 + 1) j) i → Gj g l (rmd 1 0 0) XX (QM g (fun r S2 => r = none ∧ S2 = St (setL F k (fun j => F (k2 + 1) j + F (k3 + 1) j) (max32 (sd (F (k2 + 1)) (F (k3 + 1)) (F k2 1 + F k3 1) 6) 0)) J) 0 0) RX2 cX2_becomeSum 7 none 13 [some (.ref k), some (.ref k2), some (.ref k3), some (.int sm), some (.int ix), x5, x6] [] (St G J) 0 0 := by
  obtain ⟨hw, hln⟩ := isl_w k hk.1 hk.2
  obtain ⟨hw2, hln2⟩ := isl_w k2 hk2.1 hk2.2
  have hn2 := isl_ne hk hk2
  have hn3 : k2 + 1 ≠ k + 1 := by omega
  have hn4 := isl_ne hk2 hk
  obtain ⟨hw3, hln3⟩ := isl_w k3 hk3.1 hk3.2
  have hm2 := isl_ne hk hk3
  have hm3 : k3 + 1 ≠ k + 1 := by omega
  induction n with
  | zero =>
    intro i sm ix G x5 x6 hi hs hx hG
    obtain rfl : i = 6 := by omega
    subst hs; subst hx; subst hG
    refine g_iload 15 dX2_becomeSum_13 rfl rfl ?_
    refine g_bipush (6) 17 dX2_becomeSum_15 rfl (by decide) ?_
    refine g_icmp_ge 92 20 dX2_becomeSum_17 rfl (by decide) (fun h17 => ?_) (fun h17 => ?_)
    · refine g_aload_n 93 dX2_becomeSum_92 rfl rfl ?_
      refine g_iload_n 94 dX2_becomeSum_93 rfl rfl ?_
      refine g_iconst (0) 95 dX2_becomeSum_94 rfl (by decide) ?_
      refine g_mmax 98 dX2_becomeSum_95 rfl kl_X2_32 ⟨Nat.le_of_ble_eq_true rfl, Nat.le_of_ble_eq_true rfl, Nat.le_of_ble_eq_true rfl, Nat.le_of_ble_eq_true rfl⟩ (Nat.le_of_ble_eq_true rfl) ?_
      refine gp_2_1 101 dX2_becomeSum_98 rfl kf_X2_15 (by first | decide | assumption) ?_
      refine g_vret dX2_becomeSum_101 ?_
      exact ⟨rfl, rfl⟩
    · exact absurd (by decide) h17
  | succ n ih =>
    intro i sm ix G x5 x6 hi hs hx hG
    subst hx; subst hG
    have r2 : ∀ q, fillL F k (fun j => F (k2 + 1) j + F (k3 + 1) j) q (k2 + 1) = F (k2 + 1) := fun q => fillL_ne _ _ _ hn3
    have r3 : ∀ q, fillL F k (fun j => F (k2 + 1) j + F (k3 + 1) j) q (k3 + 1) = F (k3 + 1) := fun q => fillL_ne _ _ _ hm3
    refine g_iload 15 dX2_becomeSum_13 rfl rfl ?_
    refine g_bipush (6) 17 dX2_becomeSum_15 rfl (by decide) ?_
    refine g_icmp_ge 92 20 dX2_becomeSum_17 rfl (by decide) (fun h17 => ?_) (fun h17 => ?_)
    · exact absurd h17 (lt6 (by omega))
    · refine g_aload_n 21 dX2_becomeSum_20 rfl rfl ?_
      refine gf_2_0 24 dX2_becomeSum_21 rfl kf_X2_9 (by first | decide | assumption) ?_
      refine g_iload 26 dX2_becomeSum_24 rfl rfl ?_
      refine ga_ild (i) 27 dX2_becomeSum_26 rfl (by first | decide | assumption) rfl (by rw [hln2]; omega) ?_
      rw [r2]
      refine g_istore 29 dX2_becomeSum_27 rfl (by decide) ?_
      refine g_aload_n 30 dX2_becomeSum_29 rfl rfl ?_
      refine gf_2_0 33 dX2_becomeSum_30 rfl kf_X2_9 (by first | decide | assumption) ?_
      refine g_iload 35 dX2_becomeSum_33 rfl rfl ?_
      refine ga_ild (i) 36 dX2_becomeSum_35 rfl (by first | decide | assumption) rfl (by rw [hln3]; omega) ?_
      rw [r3]
      refine g_istore 38 dX2_becomeSum_36 rfl (by decide) ?_
      refine g_iload 40 dX2_becomeSum_38 rfl rfl ?_
      refine g_if_ge 48 43 dX2_becomeSum_40 rfl (by decide) (fun h40 => ?_) (fun h40 => ?_)
      · refine g_iload 50 dX2_becomeSum_48 rfl rfl ?_
        refine g_if_le 74 53 dX2_becomeSum_50 rfl (by decide) (fun h50 => ?_) (fun h50 => ?_)
        · refine g_aload_n 75 dX2_becomeSum_74 rfl rfl ?_
          refine gf_2_0 78 dX2_becomeSum_75 rfl kf_X2_9 (by first | decide | assumption) ?_
          refine g_iload 80 dX2_becomeSum_78 rfl rfl ?_
          refine g_iload 82 dX2_becomeSum_80 rfl rfl ?_
          refine g_iload 84 dX2_becomeSum_82 rfl rfl ?_
          refine g_iadd 85 dX2_becomeSum_84 rfl ?_
          refine ga_ist (i) 86 dX2_becomeSum_85 rfl (by first | decide | assumption) rfl (by rw [hln]; omega) ?_
          refine g_iinc (1) 89 dX2_becomeSum_86 rfl (by decide) (by decide) rfl ?_
          refine g_goto 13 dX2_becomeSum_89 (by decide) ?_
          exact ih (i + 1) _ _ _ _ _ (by omega) (by
            rw [hs]
            first
              | exact (sd_pos (Or.inl (And.intro h40 h45))).symm
              | exact (sd_pos (Or.inr (And.intro h50 h55))).symm
              | exact (sd_neg (fun z => z.elim (fun a => by first | exact a.1 h40 | exact h45 a.2) (fun a => by first | exact a.1 h50 | exact a.2 h55))).symm) (nI_succ i).symm (fillL_s _ _ _ _ rfl)
        · refine g_iload 55 dX2_becomeSum_53 rfl rfl ?_
          refine g_if_ge 74 58 dX2_becomeSum_55 rfl (by decide) (fun h55 => ?_) (fun h55 => ?_)
          · refine g_aload_n 75 dX2_becomeSum_74 rfl rfl ?_
            refine gf_2_0 78 dX2_becomeSum_75 rfl kf_X2_9 (by first | decide | assumption) ?_
            refine g_iload 80 dX2_becomeSum_78 rfl rfl ?_
            refine g_iload 82 dX2_becomeSum_80 rfl rfl ?_
            refine g_iload 84 dX2_becomeSum_82 rfl rfl ?_
            refine g_iadd 85 dX2_becomeSum_84 rfl ?_
            refine ga_ist (i) 86 dX2_becomeSum_85 rfl (by first | decide | assumption) rfl (by rw [hln]; omega) ?_
            refine g_iinc (1) 89 dX2_becomeSum_86 rfl (by decide) (by decide) rfl ?_
            refine g_goto 13 dX2_becomeSum_89 (by decide) ?_
            exact ih (i + 1) _ _ _ _ _ (by omega) (by
              rw [hs]
              first
                | exact (sd_pos (Or.inl (And.intro h40 h45))).symm
                | exact (sd_pos (Or.inr (And.intro h50 h55))).symm
                | exact (sd_neg (fun z => z.elim (fun a => by first | exact a.1 h40 | exact h45 a.2) (fun a => by first | exact a.1 h50 | exact a.2 h55))).symm) (nI_succ i).symm (fillL_s _ _ _ _ rfl)
          · refine g_iload_n 59 dX2_becomeSum_58 rfl rfl ?_
            refine g_iload 61 dX2_becomeSum_59 rfl rfl ?_
            refine g_mabs 64 dX2_becomeSum_61 rfl kl_X2_22 ⟨Nat.le_of_ble_eq_true rfl, Nat.le_of_ble_eq_true rfl, Nat.le_of_ble_eq_true rfl, Nat.le_of_ble_eq_true rfl⟩ (Nat.le_of_ble_eq_true rfl) ?_
            refine g_iload 66 dX2_becomeSum_64 rfl rfl ?_
            refine g_mabs 69 dX2_becomeSum_66 rfl kl_X2_22 ⟨Nat.le_of_ble_eq_true rfl, Nat.le_of_ble_eq_true rfl, Nat.le_of_ble_eq_true rfl, Nat.le_of_ble_eq_true rfl⟩ (Nat.le_of_ble_eq_true rfl) ?_
            refine g_mmin 72 dX2_becomeSum_69 rfl kl_X2_28 ⟨Nat.le_of_ble_eq_true rfl, Nat.le_of_ble_eq_true rfl, Nat.le_of_ble_eq_true rfl, Nat.le_of_ble_eq_true rfl⟩ (Nat.le_of_ble_eq_true rfl) ?_
            refine g_isub 73 dX2_becomeSum_72 rfl ?_
            refine g_istore_n 74 dX2_becomeSum_73 rfl (by decide) ?_
            refine g_aload_n 75 dX2_becomeSum_74 rfl rfl ?_
            refine gf_2_0 78 dX2_becomeSum_75 rfl kf_X2_9 (by first | decide | assumption) ?_
            refine g_iload 80 dX2_becomeSum_78 rfl rfl ?_
            refine g_iload 82 dX2_becomeSum_80 rfl rfl ?_
            refine g_iload 84 dX2_becomeSum_82 rfl rfl ?_
            refine g_iadd 85 dX2_becomeSum_84 rfl ?_
            refine ga_ist (i) 86 dX2_becomeSum_85 rfl (by first | decide | assumption) rfl (by rw [hln]; omega) ?_
            refine g_iinc (1) 89 dX2_becomeSum_86 rfl (by decide) (by decide) rfl ?_
            refine g_goto 13 dX2_becomeSum_89 (by decide) ?_
            exact ih (i + 1) _ _ _ _ _ (by omega) (by
              rw [hs]
              first
                | exact (sd_pos (Or.inl (And.intro h40 h45))).symm
                | exact (sd_pos (Or.inr (And.intro h50 h55))).symm
                | exact (sd_neg (fun z => z.elim (fun a => by first | exact a.1 h40 | exact h45 a.2) (fun a => by first | exact a.1 h50 | exact a.2 h55))).symm) (nI_succ i).symm (fillL_s _ _ _ _ rfl)
      · refine g_iload 45 dX2_becomeSum_43 rfl rfl ?_
        refine g_if_gt 58 48 dX2_becomeSum_45 rfl (by decide) (fun h45 => ?_) (fun h45 => ?_)
        · refine g_iload_n 59 dX2_becomeSum_58 rfl rfl ?_
          refine g_iload 61 dX2_becomeSum_59 rfl rfl ?_
          refine g_mabs 64 dX2_becomeSum_61 rfl kl_X2_22 ⟨Nat.le_of_ble_eq_true rfl, Nat.le_of_ble_eq_true rfl, Nat.le_of_ble_eq_true rfl, Nat.le_of_ble_eq_true rfl⟩ (Nat.le_of_ble_eq_true rfl) ?_
          refine g_iload 66 dX2_becomeSum_64 rfl rfl ?_
          refine g_mabs 69 dX2_becomeSum_66 rfl kl_X2_22 ⟨Nat.le_of_ble_eq_true rfl, Nat.le_of_ble_eq_true rfl, Nat.le_of_ble_eq_true rfl, Nat.le_of_ble_eq_true rfl⟩ (Nat.le_of_ble_eq_true rfl) ?_
          refine g_mmin 72 dX2_becomeSum_69 rfl kl_X2_28 ⟨Nat.le_of_ble_eq_true rfl, Nat.le_of_ble_eq_true rfl, Nat.le_of_ble_eq_true rfl, Nat.le_of_ble_eq_true rfl⟩ (Nat.le_of_ble_eq_true rfl) ?_
          refine g_isub 73 dX2_becomeSum_72 rfl ?_
          refine g_istore_n 74 dX2_becomeSum_73 rfl (by decide) ?_
          refine g_aload_n 75 dX2_becomeSum_74 rfl rfl ?_
          refine gf_2_0 78 dX2_becomeSum_75 rfl kf_X2_9 (by first | decide | assumption) ?_
          refine g_iload 80 dX2_becomeSum_78 rfl rfl ?_
          refine g_iload 82 dX2_becomeSum_80 rfl rfl ?_
          refine g_iload 84 dX2_becomeSum_82 rfl rfl ?_
          refine g_iadd 85 dX2_becomeSum_84 rfl ?_
          refine ga_ist (i) 86 dX2_becomeSum_85 rfl (by first | decide | assumption) rfl (by rw [hln]; omega) ?_
          refine g_iinc (1) 89 dX2_becomeSum_86 rfl (by decide) (by decide) rfl ?_
          refine g_goto 13 dX2_becomeSum_89 (by decide) ?_
          exact ih (i + 1) _ _ _ _ _ (by omega) (by
            rw [hs]
            first
              | exact (sd_pos (Or.inl (And.intro h40 h45))).symm
              | exact (sd_pos (Or.inr (And.intro h50 h55))).symm
              | exact (sd_neg (fun z => z.elim (fun a => by first | exact a.1 h40 | exact h45 a.2) (fun a => by first | exact a.1 h50 | exact a.2 h55))).symm) (nI_succ i).symm (fillL_s _ _ _ _ rfl)
        · refine g_iload 50 dX2_becomeSum_48 rfl rfl ?_
          refine g_if_le 74 53 dX2_becomeSum_50 rfl (by decide) (fun h50 => ?_) (fun h50 => ?_)
          · refine g_aload_n 75 dX2_becomeSum_74 rfl rfl ?_
            refine gf_2_0 78 dX2_becomeSum_75 rfl kf_X2_9 (by first | decide | assumption) ?_
            refine g_iload 80 dX2_becomeSum_78 rfl rfl ?_
            refine g_iload 82 dX2_becomeSum_80 rfl rfl ?_
            refine g_iload 84 dX2_becomeSum_82 rfl rfl ?_
            refine g_iadd 85 dX2_becomeSum_84 rfl ?_
            refine ga_ist (i) 86 dX2_becomeSum_85 rfl (by first | decide | assumption) rfl (by rw [hln]; omega) ?_
            refine g_iinc (1) 89 dX2_becomeSum_86 rfl (by decide) (by decide) rfl ?_
            refine g_goto 13 dX2_becomeSum_89 (by decide) ?_
            exact ih (i + 1) _ _ _ _ _ (by omega) (by
              rw [hs]
              first
                | exact (sd_pos (Or.inl (And.intro h40 h45))).symm
                | exact (sd_pos (Or.inr (And.intro h50 h55))).symm
                | exact (sd_neg (fun z => z.elim (fun a => by first | exact a.1 h40 | exact h45 a.2) (fun a => by first | exact a.1 h50 | exact a.2 h55))).symm) (nI_succ i).symm (fillL_s _ _ _ _ rfl)
          · refine g_iload 55 dX2_becomeSum_53 rfl rfl ?_
            refine g_if_ge 74 58 dX2_becomeSum_55 rfl (by decide) (fun h55 => ?_) (fun h55 => ?_)
            · refine g_aload_n 75 dX2_becomeSum_74 rfl rfl ?_
              refine gf_2_0 78 dX2_becomeSum_75 rfl kf_X2_9 (by first | decide | assumption) ?_
              refine g_iload 80 dX2_becomeSum_78 rfl rfl ?_
              refine g_iload 82 dX2_becomeSum_80 rfl rfl ?_
              refine g_iload 84 dX2_becomeSum_82 rfl rfl ?_
              refine g_iadd 85 dX2_becomeSum_84 rfl ?_
              refine ga_ist (i) 86 dX2_becomeSum_85 rfl (by first | decide | assumption) rfl (by rw [hln]; omega) ?_
              refine g_iinc (1) 89 dX2_becomeSum_86 rfl (by decide) (by decide) rfl ?_
              refine g_goto 13 dX2_becomeSum_89 (by decide) ?_
              exact ih (i + 1) _ _ _ _ _ (by omega) (by
                rw [hs]
                first
                  | exact (sd_pos (Or.inl (And.intro h40 h45))).symm
                  | exact (sd_pos (Or.inr (And.intro h50 h55))).symm
                  | exact (sd_neg (fun z => z.elim (fun a => by first | exact a.1 h40 | exact h45 a.2) (fun a => by first | exact a.1 h50 | exact a.2 h55))).symm) (nI_succ i).symm (fillL_s _ _ _ _ rfl)
            · refine g_iload_n 59 dX2_becomeSum_58 rfl rfl ?_
              refine g_iload 61 dX2_becomeSum_59 rfl rfl ?_
              refine g_mabs 64 dX2_becomeSum_61 rfl kl_X2_22 ⟨Nat.le_of_ble_eq_true rfl, Nat.le_of_ble_eq_true rfl, Nat.le_of_ble_eq_true rfl, Nat.le_of_ble_eq_true rfl⟩ (Nat.le_of_ble_eq_true rfl) ?_
              refine g_iload 66 dX2_becomeSum_64 rfl rfl ?_
              refine g_mabs 69 dX2_becomeSum_66 rfl kl_X2_22 ⟨Nat.le_of_ble_eq_true rfl, Nat.le_of_ble_eq_true rfl, Nat.le_of_ble_eq_true rfl, Nat.le_of_ble_eq_true rfl⟩ (Nat.le_of_ble_eq_true rfl) ?_
              refine g_mmin 72 dX2_becomeSum_69 rfl kl_X2_28 ⟨Nat.le_of_ble_eq_true rfl, Nat.le_of_ble_eq_true rfl, Nat.le_of_ble_eq_true rfl, Nat.le_of_ble_eq_true rfl⟩ (Nat.le_of_ble_eq_true rfl) ?_
              refine g_isub 73 dX2_becomeSum_72 rfl ?_
              refine g_istore_n 74 dX2_becomeSum_73 rfl (by decide) ?_
              refine g_aload_n 75 dX2_becomeSum_74 rfl rfl ?_
              refine gf_2_0 78 dX2_becomeSum_75 rfl kf_X2_9 (by first | decide | assumption) ?_
              refine g_iload 80 dX2_becomeSum_78 rfl rfl ?_
              refine g_iload 82 dX2_becomeSum_80 rfl rfl ?_
              refine g_iload 84 dX2_becomeSum_82 rfl rfl ?_
              refine g_iadd 85 dX2_becomeSum_84 rfl ?_
              refine ga_ist (i) 86 dX2_becomeSum_85 rfl (by first | decide | assumption) rfl (by rw [hln]; omega) ?_
              refine g_iinc (1) 89 dX2_becomeSum_86 rfl (by decide) (by decide) rfl ?_
              refine g_goto 13 dX2_becomeSum_89 (by decide) ?_
              exact ih (i + 1) _ _ _ _ _ (by omega) (by
                rw [hs]
                first
                  | exact (sd_pos (Or.inl (And.intro h40 h45))).symm
                  | exact (sd_pos (Or.inr (And.intro h50 h55))).symm
                  | exact (sd_neg (fun z => z.elim (fun a => by first | exact a.1 h40 | exact h45 a.2) (fun a => by first | exact a.1 h50 | exact a.2 h55))).symm) (nI_succ i).symm (fillL_s _ _ _ _ rfl)

set_option maxRecDepth 100000 in
set_option maxHeartbeats 4000000 in
theorem c_becomeSum (g : Gl) (l : Launch) {k : Nat} (hk : k < 174 ∧ sh k = 2) {k2 : Nat} (hk2 : k2 < 174 ∧ sh k2 = 2) (hne : k2 ≠ k) {k3 : Nat} (hk3 : k3 < 174 ∧ sh k3 = 2) (hne3 : k3 ≠ k) (F : Nat → Nat → Int32) (J : Nat → Int64) : Ct g l yX2_becomeSum cX2_becomeSum 7 none 1 0 0 [.ref k, .ref k2, .ref k3] (St F J) (fun r S2 => r = none ∧ S2 = St (setL F k (fun j => F (k2 + 1) j + F (k3 + 1) j) (max32 (sd (F (k2 + 1)) (F (k3 + 1)) (F k2 1 + F k3 1) 6) 0)) J) := by
  refine Ct.of rfl (by decide) rfl (Nat.le_of_ble_eq_true rfl) ?_
  refine g_aload_n 1 dX2_becomeSum_0 rfl rfl ?_
  refine gf_2_1 4 dX2_becomeSum_1 rfl kf_X2_15 (by first | decide | assumption) ?_
  refine g_aload_n 5 dX2_becomeSum_4 rfl rfl ?_
  refine gf_2_1 8 dX2_becomeSum_5 rfl kf_X2_15 (by first | decide | assumption) ?_
  refine g_iadd 9 dX2_becomeSum_8 rfl ?_
  refine g_istore_n 10 dX2_becomeSum_9 rfl (by decide) ?_
  refine g_iconst (0) 11 dX2_becomeSum_10 rfl (by decide) ?_
  refine g_istore 13 dX2_becomeSum_11 rfl (by decide) ?_
  exact lp_becomeSum g l hk hk2 hne hk3 hne3 F J 6 0 _ _ _ _ _ rfl rfl rfl (fillL_0 _ _ _).symm

theorem j_in {j : Nat} (h : j < 6) : ¬ nI j < 0 ∧ ¬ (6 : Int32) ≤ nI j := ⟨nI_pos (by omega), lt6 h⟩

set_option maxRecDepth 100000 in
set_option maxHeartbeats 4000000 in
theorem c_becomeBare (g : Gl) (l : Launch) {k : Nat} (hk : k < 174 ∧ sh k = 2) {j : Nat} (hj : j < 6) (x : Int32) (F : Nat → Nat → Int32) (J : Nat → Int64) : Ct g l yX2_becomeBare cX2_becomeBare 3 none 1 0 0 [.ref k, .int (nI j), .int x] (St F J) (fun r S2 => r = none ∧ S2 = St (setL F k (upd (fun _ => 0) j x) 0) J) := by
  obtain ⟨hw, hln⟩ := isl_w k hk.1 hk.2
  refine Ct.of rfl (by decide) rfl (Nat.le_of_ble_eq_true rfl) ?_
  refine g_aload_n 1 dX2_becomeBare_0 rfl rfl ?_
  refine g_v0 2 4 dX2_becomeBare_1 rfl kl_X2_19 mv_X2_becomeEmpty rfl ⟨Nat.le_of_ble_eq_true rfl, Nat.le_of_ble_eq_true rfl⟩ (Nat.le_of_ble_eq_true rfl) (by first | decide | assumption) (c_becomeEmpty g l hk F J) ?_
  rintro _ _ ⟨rfl, rfl⟩
  refine g_iload_n 5 dX2_becomeBare_4 rfl rfl ?_
  refine g_if_lt 21 8 dX2_becomeBare_5 rfl (by decide) (fun h5 => ?_) (fun h5 => ?_)
  · exact absurd h5 (j_in hj).1
  · refine g_iload_n 9 dX2_becomeBare_8 rfl rfl ?_
    refine g_bipush (6) 11 dX2_becomeBare_9 rfl (by decide) ?_
    refine g_icmp_ge 21 14 dX2_becomeBare_11 rfl (by decide) (fun h11 => ?_) (fun h11 => ?_)
    · exact absurd h11 (j_in hj).2
    · refine g_aload_n 15 dX2_becomeBare_14 rfl rfl ?_
      refine gf_2_0 18 dX2_becomeBare_15 rfl kf_X2_9 (by first | decide | assumption) ?_
      refine g_iload_n 19 dX2_becomeBare_18 rfl rfl ?_
      refine g_iload_n 20 dX2_becomeBare_19 rfl rfl ?_
      refine ga_ist (j) 21 dX2_becomeBare_20 rfl (by first | decide | assumption) rfl (by rw [hln]; exact hj) ?_
      refine g_vret dX2_becomeBare_21 ?_
      exact ⟨rfl, by rw [setL_upw _ _ _ _ _ hj]⟩

set_option maxRecDepth 100000 in
set_option maxHeartbeats 4000000 in
theorem c_becomeDropped (g : Gl) (l : Launch) {k : Nat} (hk : k < 174 ∧ sh k = 2) {k2 : Nat} (hk2 : k2 < 174 ∧ sh k2 = 2) (hne : k2 ≠ k) {j : Nat} (hj : j < 6) (F : Nat → Nat → Int32) (J : Nat → Int64) : Ct g l yX2_becomeDropped cX2_becomeDropped 3 none 1 0 0 [.ref k, .ref k2, .int (nI j)] (St F J) (fun r S2 => r = none ∧ S2 = St (setL F k (upd (F (k2 + 1)) j 0) (max32 (F k2 1 - abs32 (F (k2 + 1) j)) 0)) J) := by
  obtain ⟨hw, hln⟩ := isl_w k hk.1 hk.2
  refine Ct.of rfl (by decide) rfl (Nat.le_of_ble_eq_true rfl) ?_
  refine g_aload_n 1 dX2_becomeDropped_0 rfl rfl ?_
  refine g_aload_n 2 dX2_becomeDropped_1 rfl rfl ?_
  refine g_v1 2 5 dX2_becomeDropped_2 rfl kl_X2_38 mv_X2_becomeSame rfl ⟨Nat.le_of_ble_eq_true rfl, Nat.le_of_ble_eq_true rfl⟩ (Nat.le_of_ble_eq_true rfl) (by first | decide | assumption) (c_becomeSame g l hk hk2 hne F J) ?_
  rintro _ _ ⟨rfl, rfl⟩
  refine g_iload_n 6 dX2_becomeDropped_5 rfl rfl ?_
  refine g_if_lt 44 9 dX2_becomeDropped_6 rfl (by decide) (fun h6 => ?_) (fun h6 => ?_)
  · exact absurd h6 (j_in hj).1
  · refine g_iload_n 10 dX2_becomeDropped_9 rfl rfl ?_
    refine g_bipush (6) 12 dX2_becomeDropped_10 rfl (by decide) ?_
    refine g_icmp_ge 44 15 dX2_becomeDropped_12 rfl (by decide) (fun h12 => ?_) (fun h12 => ?_)
    · exact absurd h12 (j_in hj).2
    · refine g_aload_n 16 dX2_becomeDropped_15 rfl rfl ?_
      refine g_aload_n 17 dX2_becomeDropped_16 rfl rfl ?_
      refine gf_2_1 20 dX2_becomeDropped_17 rfl kf_X2_15 (by first | decide | assumption) ?_
      refine g_aload_n 21 dX2_becomeDropped_20 rfl rfl ?_
      refine gf_2_0 24 dX2_becomeDropped_21 rfl kf_X2_9 (by first | decide | assumption) ?_
      refine g_iload_n 25 dX2_becomeDropped_24 rfl rfl ?_
      refine ga_ild (j) 26 dX2_becomeDropped_25 rfl (by first | decide | assumption) rfl (by rw [hln]; exact hj) ?_
      refine g_mabs 29 dX2_becomeDropped_26 rfl kl_X2_22 ⟨Nat.le_of_ble_eq_true rfl, Nat.le_of_ble_eq_true rfl, Nat.le_of_ble_eq_true rfl, Nat.le_of_ble_eq_true rfl⟩ (Nat.le_of_ble_eq_true rfl) ?_
      refine g_isub 30 dX2_becomeDropped_29 rfl ?_
      refine g_iconst (0) 31 dX2_becomeDropped_30 rfl (by decide) ?_
      refine g_mmax 34 dX2_becomeDropped_31 rfl kl_X2_32 ⟨Nat.le_of_ble_eq_true rfl, Nat.le_of_ble_eq_true rfl, Nat.le_of_ble_eq_true rfl, Nat.le_of_ble_eq_true rfl⟩ (Nat.le_of_ble_eq_true rfl) ?_
      refine gp_2_1 37 dX2_becomeDropped_34 rfl kf_X2_15 (by first | decide | assumption) ?_
      refine g_aload_n 38 dX2_becomeDropped_37 rfl rfl ?_
      refine gf_2_0 41 dX2_becomeDropped_38 rfl kf_X2_9 (by first | decide | assumption) ?_
      refine g_iload_n 42 dX2_becomeDropped_41 rfl rfl ?_
      refine g_iconst (0) 43 dX2_becomeDropped_42 rfl (by decide) ?_
      refine ga_ist (j) 44 dX2_becomeDropped_43 rfl (by first | decide | assumption) rfl (by rw [hln]; exact hj) ?_
      refine g_vret dX2_becomeDropped_44 ?_
      exact ⟨rfl, by rw [setL_upd, setL_upw _ _ _ _ _ hj, setL_k, setL_w _ _ _ _ hj]⟩
end
section
/-! the class Forcing: the cell 98 -/
def fo (F : Nat → Nat → Int32) (a b c : Int32) : Nat → Nat → Int32 := fun q => if q = 98 then (fun j => if j = 0 then a else if j = 1 then b else if j = 2 then c else F 98 j) else F q
theorem fo_0 (F : Nat → Nat → Int32) (a b c x : Int32) : up2 (fo F a b c) 98 0 x = fo F x b c := by
  funext q j
  by_cases h : q = 98
  · subst h; simp only [up2, upd, fo, if_true]; by_cases e : j = 0 <;> simp [e]
  · simp [up2, fo, h]
theorem fo_1 (F : Nat → Nat → Int32) (a b c x : Int32) : up2 (fo F a b c) 98 1 x = fo F a x c := by
  funext q j
  by_cases h : q = 98
  · subst h; simp only [up2, upd, fo, if_true]; by_cases e : j = 1 <;> simp [e]
  · simp [up2, fo, h]
theorem fo_2 (F : Nat → Nat → Int32) (a b c x : Int32) : up2 (fo F a b c) 98 2 x = fo F a b x := by
  funext q j
  by_cases h : q = 98
  · subst h; simp only [up2, upd, fo, if_true]; by_cases e : j = 2 <;> simp [e]
  · simp [up2, fo, h]
theorem fo_set (F : Nat → Nat → Int32) (a b c : Int32) : up2 (up2 (up2 F 98 0 a) 98 1 b) 98 2 c = fo F a b c := by
  funext q j
  by_cases h : q = 98
  · subst h
    simp only [fo, up2, upd, if_true]
    by_cases e0 : j = 0
    · simp [e0]
    · by_cases e1 : j = 1
      · simp [e1]
      · by_cases e2 : j = 2 <;> simp [e0, e1, e2]
  · simp [fo, up2, h]
theorem fo_ne (F : Nat → Nat → Int32) {q : Nat} (a b c : Int32) (h : q ≠ 98) : fo F a b c q = F q := by simp [fo, h]
theorem is_ne98 : ∀ k, k < 174 → sh k = 2 → k ≠ 98 ∧ k + 1 ≠ 98 := by decide +kernel
def bit1 (i : Nat) : Int32 := (1 : Int32) <<< (nI i &&& 31)
abbrev isOp (so nt : Int32) (i : Nat) : Prop := (so ||| nt) >>> (nI i &&& 31) &&& 1 = 0
def vs (w : Nat → Int32) (sl so nt : Int32) : Nat → Int32 × Int32
  | 0 => (so, nt)
  | i + 1 => if isOp (vs w sl so nt i).1 (vs w sl so nt i).2 i ∧ ¬ w i ≤ sl then ((vs w sl so nt i).1 ||| bit1 i, (vs w sl so nt i).2)
    else if isOp (vs w sl so nt i).1 (vs w sl so nt i).2 i ∧ ¬ -(w i) ≤ sl then ((vs w sl so nt i).1, (vs w sl so nt i).2 ||| bit1 i) else vs w sl so nt i
theorem vs_no {w : Nat → Int32} {sl a b : Int32} {i : Nat} (h : ¬ isOp (vs w sl a b i).1 (vs w sl a b i).2 i) : vs w sl a b (i + 1) = vs w sl a b i := by
  rw [vs, if_neg (fun z => h z.1), if_neg (fun z => h z.1)]
theorem vs_so {w : Nat → Int32} {sl a b : Int32} {i : Nat} (h : isOp (vs w sl a b i).1 (vs w sl a b i).2 i) (h2 : ¬ w i ≤ sl) : vs w sl a b (i + 1) = ((vs w sl a b i).1 ||| bit1 i, (vs w sl a b i).2) := by
  rw [vs, if_pos ⟨h, h2⟩]
theorem vs_nt {w : Nat → Int32} {sl a b : Int32} {i : Nat} (h : isOp (vs w sl a b i).1 (vs w sl a b i).2 i) (h2 : w i ≤ sl) (h3 : ¬ -(w i) ≤ sl) : vs w sl a b (i + 1) = ((vs w sl a b i).1, (vs w sl a b i).2 ||| bit1 i) := by
  rw [vs, if_neg (fun z => z.2 h2), if_pos ⟨h, h3⟩]
theorem vs_sm {w : Nat → Int32} {sl a b : Int32} {i : Nat} (h2 : w i ≤ sl) (h3 : -(w i) ≤ sl) : vs w sl a b (i + 1) = vs w sl a b i := by
  rw [vs, if_neg (fun z => z.2 h2), if_neg (fun z => z.2 h3)]
/-- what one line forces: so, not, whether it clashes (1) -/
def vst (w : Nat → Int32) (d so nt c : Int32) : Int32 × Int32 × Int32 := if 0 ≤ mw w so nt 6 - d then ((vs w (mw w so nt 6 - d) so nt 6).1, (vs w (mw w so nt 6 - d) so nt 6).2, c) else (so, nt, 1)
theorem vst_neg {w : Nat → Int32} {d so nt c : Int32} (h : ¬ 0 ≤ mw w so nt 6 - d) : vst w d so nt c = (so, nt, 1) := by rw [vst, if_neg h]
theorem iv_pos {c : Prop} [Decidable c] {a b : Int32} (h : c) : some (Value.int a) = some (Value.int (if c then a else b)) := by rw [if_pos h]
theorem iv_neg {c : Prop} [Decidable c] {a b : Int32} (h : ¬ c) : some (Value.int b) = some (Value.int (if c then a else b)) := by rw [if_neg h]
def fo3 (F : Nat → Nat → Int32) (q : Int32 × Int32 × Int32) : Nat → Nat → Int32 := fo F q.1 q.2.1 q.2.2
/-- one pass over the first lines, till it clashes -/
def pvs (W : Nat → Nat → Int32) (D : Nat → Int32) (a b : Int32) : Nat → Int32 × Int32 × Int32
  | 0 => (a, b, 0)
  | i + 1 => if (pvs W D a b i).2.2 = 0 then vst (W i) (D i) (pvs W D a b i).1 (pvs W D a b i).2.1 (pvs W D a b i).2.2 else pvs W D a b i
theorem pvs_stay {W : Nat → Nat → Int32} {D : Nat → Int32} {a b : Int32} {i : Nat} (h : ¬ (pvs W D a b i).2.2 = 0) : ∀ {j : Nat}, i ≤ j → pvs W D a b j = pvs W D a b i := by
  intro j hj
  induction j with
  | zero => obtain rfl : i = 0 := by omega
            rfl
  | succ j ih =>
    rcases Nat.lt_or_ge j i with q | q
    · obtain rfl : i = j + 1 := by omega
      rfl
    · rw [pvs, ih q, if_neg h]
/-- passes, till nothing is new or it clashes -/
def fps (W : Nat → Nat → Int32) (D : Nat → Int32) (N : Nat) (a b : Int32) : Nat → (Int32 × Int32 × Int32) × Int32
  | 0 => ((a, b, 0), 1)
  | p + 1 => if (fps W D N a b p).2 = 0 ∨ ¬ (fps W D N a b p).1.2.2 = 0 then fps W D N a b p else
      (pvs W D (fps W D N a b p).1.1 (fps W D N a b p).1.2.1 N, if ((pvs W D (fps W D N a b p).1.1 (fps W D N a b p).1.2.1 N).1 ||| (pvs W D (fps W D N a b p).1.1 (fps W D N a b p).1.2.1 N).2.1) = ((fps W D N a b p).1.1 ||| (fps W D N a b p).1.2.1) then 0 else 1)
theorem fps_stay {W : Nat → Nat → Int32} {D : Nat → Int32} {N : Nat} {a b : Int32} {i j : Nat} (h : (fps W D N a b i).2 = 0 ∨ ¬ (fps W D N a b i).1.2.2 = 0) (hj : i ≤ j) : fps W D N a b j = fps W D N a b i := by
  induction j with
  | zero => obtain rfl : i = 0 := by omega
            rfl
  | succ j ih =>
    rcases Nat.lt_or_ge j i with q | q
    · obtain rfl : i = j + 1 := by omega
      rfl
    · rw [fps, ih q, if_pos h]
theorem fps_go {W : Nat → Nat → Int32} {D : Nat → Int32} {N : Nat} {a b : Int32} {i : Nat} {q : Int32 × Int32 × Int32} {nw : Int32} (hq : (q, nw) = fps W D N a b i) (h1 : ¬ nw = 0) (h2 : q.2.2 = 0) : fps W D N a b (i + 1) = (pvs W D q.1 q.2.1 N, if ((pvs W D q.1 q.2.1 N).1 ||| (pvs W D q.1 q.2.1 N).2.1) = (q.1 ||| q.2.1) then 0 else 1) := by
  rw [fps, ← hq, if_neg (fun z => z.elim h1 (fun y => y h2))]

set_option maxRecDepth 100000 in
set_option maxHeartbeats 4000000 in
theorem lp_visit (g : Gl) (l : Launch) {k : Nat} (hk : k < 174 ∧ sh k = 2) (a b c sl : Int32) (F : Nat → Nat → Int32) (J : Nat → Int64) (hsl : sl = mw (F (k + 1)) a b 6 - F k 1) (h0 : 0 ≤ sl) {XX : State → Method → Prop} (n : Nat) : ∀ (i : Nat) (so nt ix : Int32) (x4 x5 : Option Value), i + n = 6 → so = (vs (F (k + 1)) sl a b i).1 → nt = (vs (F (k + 1)) sl a b i).2 → ix = nI i → Gj g l (rmd 2 0 0) XX (QM g (fun r S2 => r = none ∧ S2 = St (fo3 F (vst (F (k + 1)) (F k 1) a b c)) J) 0 0) RX1 cX1_visit 6 none 30 [some (.ref 98), some (.ref k), some (.int sl), some (.int ix), x4, x5] [] (St (fo F so nt c) J) 0 0 := by
  obtain ⟨hw, hln⟩ := isl_w k hk.1 hk.2
  obtain ⟨n1, n2⟩ := is_ne98 k hk.1 hk.2
  induction n with
  | zero =>
    intro i so nt ix x4 x5 hi hs hn hx
    obtain rfl : i = 6 := by omega
    subst hs; subst hn; subst hx
    refine g_iload_n 31 dX1_visit_30 rfl rfl ?_
    refine g_bipush (6) 33 dX1_visit_31 rfl (by decide) ?_
    refine g_icmp_ge 123 36 dX1_visit_33 rfl (by decide) (fun h33 => ?_) (fun h33 => ?_)
    · refine g_vret dX1_visit_123 ?_
      exact ⟨rfl, by rw [vst, ← hsl, if_pos h0]; rfl⟩
    · exact absurd (by decide) h33
  | succ n ih =>
    intro i so nt ix x4 x5 hi hs hn hx
    subst hx
    have rw1 : fo F so nt c (k + 1) = F (k + 1) := fo_ne F _ _ _ n2
    refine g_iload_n 31 dX1_visit_30 rfl rfl ?_
    refine g_bipush (6) 33 dX1_visit_31 rfl (by decide) ?_
    refine g_icmp_ge 123 36 dX1_visit_33 rfl (by decide) (fun h33 => ?_) (fun h33 => ?_)
    · exact absurd h33 (lt6 (by omega))
    · refine g_aload_n 37 dX1_visit_36 rfl rfl ?_
      refine gf_2_0 40 dX1_visit_37 rfl kf_X1_39 (by first | decide | assumption | exact ⟨Nat.le_of_ble_eq_true rfl, rfl⟩) ?_
      refine g_iload_n 41 dX1_visit_40 rfl rfl ?_
      refine ga_ild (i) 42 dX1_visit_41 rfl (by first | decide | assumption | exact ⟨Nat.le_of_ble_eq_true rfl, rfl⟩) rfl (by rw [hln]; omega) ?_
      rw [rw1]
      refine g_istore 44 dX1_visit_42 rfl (by decide) ?_
      refine g_aload_n 45 dX1_visit_44 rfl rfl ?_
      refine gf_1_0 48 dX1_visit_45 rfl kf_X1_9 (by first | decide | assumption | exact ⟨Nat.le_of_ble_eq_true rfl, rfl⟩) ?_
      refine g_aload_n 49 dX1_visit_48 rfl rfl ?_
      refine gf_1_1 52 dX1_visit_49 rfl kf_X1_15 (by first | decide | assumption | exact ⟨Nat.le_of_ble_eq_true rfl, rfl⟩) ?_
      refine g_ior 53 dX1_visit_52 rfl ?_
      refine g_iload_n 54 dX1_visit_53 rfl rfl ?_
      refine g_ishr 55 dX1_visit_54 rfl ?_
      refine g_iconst (1) 56 dX1_visit_55 rfl (by decide) ?_
      refine g_iand 57 dX1_visit_56 rfl ?_
      refine g_if_ne 64 60 dX1_visit_57 rfl (by decide) (fun h57 => ?_) (fun h57 => ?_)
      · refine g_iconst (0) 65 dX1_visit_64 rfl (by decide) ?_
        refine g_istore 67 dX1_visit_65 rfl (by decide) ?_
        refine g_iload 69 dX1_visit_67 rfl rfl ?_
        refine g_if_eq 93 72 dX1_visit_69 rfl (by decide) (fun h69 => ?_) (fun h69 => ?_)
        · refine g_iload 95 dX1_visit_93 rfl rfl ?_
          refine g_if_eq 117 98 dX1_visit_95 rfl (by decide) (fun h95 => ?_) (fun h95 => ?_)
          · refine g_iinc (1) 120 dX1_visit_117 rfl (by decide) (by decide) rfl ?_
            refine g_goto 30 dX1_visit_120 (by decide) ?_
            exact ih (i + 1) _ _ _ _ _ (by omega) (by rw [vs_no (by rw [← hs, ← hn]; exact h57), hs]) (by rw [vs_no (by rw [← hs, ← hn]; exact h57), hn]) (nI_succ i).symm
          · exact absurd h95 (by decide)
        · exact absurd h69 (by decide)
      · refine g_iconst (1) 61 dX1_visit_60 rfl (by decide) ?_
        refine g_goto 65 dX1_visit_61 (by decide) ?_
        refine g_istore 67 dX1_visit_65 rfl (by decide) ?_
        refine g_iload 69 dX1_visit_67 rfl rfl ?_
        refine g_if_eq 93 72 dX1_visit_69 rfl (by decide) (fun h69 => ?_) (fun h69 => ?_)
        · exact absurd h69 (by decide)
        · refine g_iload 74 dX1_visit_72 rfl rfl ?_
          refine g_iload_n 75 dX1_visit_74 rfl rfl ?_
          refine g_icmp_le 93 78 dX1_visit_75 rfl (by decide) (fun h75 => ?_) (fun h75 => ?_)
          · refine g_iload 95 dX1_visit_93 rfl rfl ?_
            refine g_if_eq 117 98 dX1_visit_95 rfl (by decide) (fun h95 => ?_) (fun h95 => ?_)
            · exact absurd h95 (by decide)
            · refine g_iload 100 dX1_visit_98 rfl rfl ?_
              refine g_ineg 101 dX1_visit_100 rfl ?_
              refine g_iload_n 102 dX1_visit_101 rfl rfl ?_
              refine g_icmp_le 117 105 dX1_visit_102 rfl (by decide) (fun h102 => ?_) (fun h102 => ?_)
              · refine g_iinc (1) 120 dX1_visit_117 rfl (by decide) (by decide) rfl ?_
                refine g_goto 30 dX1_visit_120 (by decide) ?_
                exact ih (i + 1) _ _ _ _ _ (by omega) (by rw [vs_sm h75 h102, hs]) (by rw [vs_sm h75 h102, hn]) (nI_succ i).symm
              · refine g_aload_n 106 dX1_visit_105 rfl rfl ?_
                refine g_dup 107 dX1_visit_106 rfl rfl ?_
                refine gf_1_1 110 dX1_visit_107 rfl kf_X1_15 (by first | decide | assumption | exact ⟨Nat.le_of_ble_eq_true rfl, rfl⟩) ?_
                refine g_iconst (1) 111 dX1_visit_110 rfl (by decide) ?_
                refine g_iload_n 112 dX1_visit_111 rfl rfl ?_
                refine g_ishl 113 dX1_visit_112 rfl ?_
                refine g_ior 114 dX1_visit_113 rfl ?_
                refine gp_1_1 117 dX1_visit_114 rfl kf_X1_15 (by first | decide | assumption | exact ⟨Nat.le_of_ble_eq_true rfl, rfl⟩) ?_
                refine g_iinc (1) 120 dX1_visit_117 rfl (by decide) (by decide) rfl ?_
                refine g_goto 30 dX1_visit_120 (by decide) ?_
                rw [fo_1]
                exact ih (i + 1) _ _ _ _ _ (by omega) (by rw [vs_nt (by rw [← hs, ← hn]; exact h57) h75 h102, hs]) (by rw [vs_nt (by rw [← hs, ← hn]; exact h57) h75 h102, hn]; rfl) (nI_succ i).symm
          · refine g_aload_n 79 dX1_visit_78 rfl rfl ?_
            refine g_dup 80 dX1_visit_79 rfl rfl ?_
            refine gf_1_0 83 dX1_visit_80 rfl kf_X1_9 (by first | decide | assumption | exact ⟨Nat.le_of_ble_eq_true rfl, rfl⟩) ?_
            refine g_iconst (1) 84 dX1_visit_83 rfl (by decide) ?_
            refine g_iload_n 85 dX1_visit_84 rfl rfl ?_
            refine g_ishl 86 dX1_visit_85 rfl ?_
            refine g_ior 87 dX1_visit_86 rfl ?_
            refine gp_1_0 90 dX1_visit_87 rfl kf_X1_9 (by first | decide | assumption | exact ⟨Nat.le_of_ble_eq_true rfl, rfl⟩) ?_
            refine g_goto 117 dX1_visit_90 (by decide) ?_
            refine g_iinc (1) 120 dX1_visit_117 rfl (by decide) (by decide) rfl ?_
            refine g_goto 30 dX1_visit_120 (by decide) ?_
            rw [fo_0]
            exact ih (i + 1) _ _ _ _ _ (by omega) (by rw [vs_so (by rw [← hs, ← hn]; exact h57) h75, hs]; rfl) (by rw [vs_so (by rw [← hs, ← hn]; exact h57) h75, hn]) (nI_succ i).symm

set_option maxRecDepth 100000 in
set_option maxHeartbeats 4000000 in
theorem c_visit (g : Gl) (l : Launch) {k : Nat} (hk : k < 174 ∧ sh k = 2) (a b c : Int32) (F : Nat → Nat → Int32) (J : Nat → Int64) : Ct g l yX1_visit cX1_visit 6 none 2 0 0 [.ref 98, .ref k] (St (fo F a b c) J) (fun r S2 => r = none ∧ S2 = St (fo3 F (vst (F (k + 1)) (F k 1) a b c)) J) := by
  obtain ⟨hw, hln⟩ := isl_w k hk.1 hk.2
  obtain ⟨n1, n2⟩ := is_ne98 k hk.1 hk.2
  have rw1 : fo F a b c (k + 1) = F (k + 1) := fo_ne F _ _ _ n2
  have rw2 : fo F a b c k = F k := fo_ne F _ _ _ n1
  refine Ct.of rfl (by decide) rfl (Nat.le_of_ble_eq_true rfl) ?_
  refine g_aload_n 1 dX1_visit_0 rfl rfl ?_
  refine g_aload_n 2 dX1_visit_1 rfl rfl ?_
  refine gf_1_0 5 dX1_visit_2 rfl kf_X1_9 (by first | decide | assumption | exact ⟨Nat.le_of_ble_eq_true rfl, rfl⟩) ?_
  refine g_aload_n 6 dX1_visit_5 rfl rfl ?_
  refine gf_1_1 9 dX1_visit_6 rfl kf_X1_15 (by first | decide | assumption | exact ⟨Nat.le_of_ble_eq_true rfl, rfl⟩) ?_
  refine g_v2 2 12 dX1_visit_9 rfl kl_X1_30 mv_X2_mayWeigh rfl ⟨Nat.le_of_ble_eq_true rfl, Nat.le_of_ble_eq_true rfl⟩ (Nat.le_of_ble_eq_true rfl) (by first | decide | assumption | exact ⟨Nat.le_of_ble_eq_true rfl, rfl⟩) (c_mayWeigh g l hk _ _ _ J) ?_
  rintro _ _ ⟨rfl, rfl⟩
  refine g_aload_n 13 dX1_visit_12 rfl rfl ?_
  refine gf_2_1 16 dX1_visit_13 rfl kf_X1_36 (by first | decide | assumption | exact ⟨Nat.le_of_ble_eq_true rfl, rfl⟩) ?_
  rw [rw1, rw2]
  refine g_isub 17 dX1_visit_16 rfl ?_
  refine g_istore_n 18 dX1_visit_17 rfl (by decide) ?_
  refine g_iload_n 19 dX1_visit_18 rfl rfl ?_
  refine g_if_ge 28 22 dX1_visit_19 rfl (by decide) (fun h19 => ?_) (fun h19 => ?_)
  · refine g_iconst (0) 29 dX1_visit_28 rfl (by decide) ?_
    refine g_istore_n 30 dX1_visit_29 rfl (by decide) ?_
    exact lp_visit g l hk a b c _ F J rfl h19 6 0 _ _ _ _ _ rfl rfl rfl rfl
  · refine g_aload_n 23 dX1_visit_22 rfl rfl ?_
    refine g_iconst (1) 24 dX1_visit_23 rfl (by decide) ?_
    refine gp_1_2 27 dX1_visit_24 rfl kf_X1_18 (by first | decide | assumption | exact ⟨Nat.le_of_ble_eq_true rfl, rfl⟩) (by decide) ?_
    refine g_vret dX1_visit_27 ?_
    exact ⟨rfl, by rw [fo_2, vst_neg (so := a) (nt := b) h19]; rfl⟩

set_option maxRecDepth 100000 in
set_option maxHeartbeats 4000000 in
theorem ex_passOver (g : Gl) (l : Launch) (a b : Int32) (N : Nat) (F : Nat → Nat → Int32) (J : Nat → Int64) {XX : State → Method → Prop} (x4 : Option Value) (nn : Int32) (q : Int32 × Int32 × Int32) (hq : q = pvs (fun i => F (101 + 2 * i + 1)) (fun i => F (101 + 2 * i) 1) a b N) : Gj g l (rmd 3 0 0) XX (QM g (fun r S2 => r = some (.int (if ((pvs (fun i => F (101 + 2 * i + 1)) (fun i => F (101 + 2 * i) 1) a b N).1 ||| (pvs (fun i => F (101 + 2 * i + 1)) (fun i => F (101 + 2 * i) 1) a b N).2.1) = (a ||| b) then 0 else 1)) ∧ S2 = St (fo3 F (pvs (fun i => F (101 + 2 * i + 1)) (fun i => F (101 + 2 * i) 1) a b N)) J) 0 0) RX1 cX1_passOver 5 (some .boolean) 47 [some (.ref 98), some (.ref 100), some (.int nn), some (.int (a ||| b)), x4] [] (St (fo3 F q) J) 0 0 := by
  subst hq
  refine g_aload_n 48 dX1_passOver_47 rfl rfl ?_
  refine gf_1_0 51 dX1_passOver_48 rfl kf_X1_9 (by first | decide | assumption | exact ⟨Nat.le_of_ble_eq_true rfl, rfl⟩) ?_
  refine g_aload_n 52 dX1_passOver_51 rfl rfl ?_
  refine gf_1_1 55 dX1_passOver_52 rfl kf_X1_15 (by first | decide | assumption | exact ⟨Nat.le_of_ble_eq_true rfl, rfl⟩) ?_
  refine g_ior 56 dX1_passOver_55 rfl ?_
  refine g_iload_n 57 dX1_passOver_56 rfl rfl ?_
  refine g_icmp_eq 64 60 dX1_passOver_57 rfl (by decide) (fun h57 => ?_) (fun h57 => ?_)
  · refine g_iconst (0) 65 dX1_passOver_64 rfl (by decide) ?_
    refine g_zret dX1_passOver_65 (by decide) ?_
    exact ⟨iv_pos h57, rfl⟩
  · refine g_iconst (1) 61 dX1_passOver_60 rfl (by decide) ?_
    refine g_goto 65 dX1_passOver_61 (by decide) ?_
    refine g_zret dX1_passOver_65 (by decide) ?_
    exact ⟨iv_neg h57, rfl⟩

theorem ln_is : ∀ j, j < 32 → (101 + 2 * j < 174 ∧ sh (101 + 2 * j) = 2) := by decide +kernel
set_option maxRecDepth 100000 in
set_option maxHeartbeats 4000000 in
theorem lp_passOver (g : Gl) (l : Launch) (a b : Int32) {N : Nat} (hN : N ≤ 32) (F : Nat → Nat → Int32) (J : Nat → Int64) {XX : State → Method → Prop} (n : Nat) : ∀ (i : Nat) (ix : Int32) (q : Int32 × Int32 × Int32), i + n = N → ix = nI i → q = pvs (fun i => F (101 + 2 * i + 1)) (fun i => F (101 + 2 * i) 1) a b i → Gj g l (rmd 3 0 0) XX (QM g (fun r S2 => r = some (.int (if ((pvs (fun i => F (101 + 2 * i + 1)) (fun i => F (101 + 2 * i) 1) a b N).1 ||| (pvs (fun i => F (101 + 2 * i + 1)) (fun i => F (101 + 2 * i) 1) a b N).2.1) = (a ||| b) then 0 else 1)) ∧ S2 = St (fo3 F (pvs (fun i => F (101 + 2 * i + 1)) (fun i => F (101 + 2 * i) 1) a b N)) J) 0 0) RX1 cX1_passOver 5 (some .boolean) 13 [some (.ref 98), some (.ref 100), some (.int (nI N)), some (.int (a ||| b)), some (.int ix)] [] (St (fo3 F q) J) 0 0 := by
  induction n with
  | zero =>
    intro i ix q hi hx hq
    obtain rfl : i = N := by omega
    subst hx
    refine g_iload 15 dX1_passOver_13 rfl rfl ?_
    refine g_iload_n 16 dX1_passOver_15 rfl rfl ?_
    refine g_icmp_ge 47 19 dX1_passOver_16 rfl (by decide) (fun h16 => ?_) (fun h16 => ?_)
    · exact ex_passOver g l a b i F J _ _ q hq
    · exact absurd (nI_le (Nat.le_refl i) (by omega)) h16
  | succ n ih =>
    intro i ix q hi hx hq
    subst hx
    refine g_iload 15 dX1_passOver_13 rfl rfl ?_
    refine g_iload_n 16 dX1_passOver_15 rfl rfl ?_
    refine g_icmp_ge 47 19 dX1_passOver_16 rfl (by decide) (fun h16 => ?_) (fun h16 => ?_)
    · exact absurd h16 (nI_ge (by omega) (by omega))
    · refine g_iload 21 dX1_passOver_19 rfl rfl ?_
      refine g_aload_n 22 dX1_passOver_21 rfl rfl ?_
      refine ga_len 23 dX1_passOver_22 rfl ⟨by decide, Or.inr rfl⟩ ?_
      refine g_icmp_ge 47 26 dX1_passOver_23 rfl (by decide) (fun h23 => ?_) (fun h23 => ?_)
      · exact absurd h23 (nI_ge (a := i) (b := 32) (by omega) (by decide))
      · refine g_aload_n 27 dX1_passOver_26 rfl rfl ?_
        refine gf_1_2 30 dX1_passOver_27 rfl kf_X1_18 (by first | decide | assumption | exact ⟨Nat.le_of_ble_eq_true rfl, rfl⟩) ?_
        refine g_if_ne 47 33 dX1_passOver_30 rfl (by decide) (fun h30 => ?_) (fun h30 => ?_)
        · exact ex_passOver g l a b N F J _ _ q (by rw [hq]; exact (pvs_stay (by rw [← hq]; exact h30) (by omega)).symm)
        · refine g_aload_n 34 dX1_passOver_33 rfl rfl ?_
          refine g_aload_n 35 dX1_passOver_34 rfl rfl ?_
          refine g_iload 37 dX1_passOver_35 rfl rfl ?_
          refine ga_lines i 38 dX1_passOver_37 rfl rfl (by omega) ?_
          refine g_v1 1 41 dX1_passOver_38 rfl kl_X1_26 mv_X1_visit rfl ⟨Nat.le_of_ble_eq_true rfl, Nat.le_of_ble_eq_true rfl⟩ (Nat.le_of_ble_eq_true rfl) (by first | decide | assumption | exact ⟨Nat.le_of_ble_eq_true rfl, rfl⟩) (c_visit g l (ln_is i (by omega)) q.1 q.2.1 q.2.2 F J) ?_
          rintro _ _ ⟨rfl, rfl⟩
          refine g_iinc (1) 44 dX1_passOver_41 rfl (by decide) (by decide) rfl ?_
          refine g_goto 13 dX1_passOver_44 (by decide) ?_
          exact ih (i + 1) _ _ (by omega) (nI_succ i).symm (by rw [pvs, ← hq]; exact (if_pos h30).symm)

set_option maxRecDepth 100000 in
set_option maxHeartbeats 4000000 in
theorem c_passOver (g : Gl) (l : Launch) (a b : Int32) {N : Nat} (hN : N ≤ 32) (F : Nat → Nat → Int32) (J : Nat → Int64) : Ct g l yX1_passOver cX1_passOver 5 (some .boolean) 3 0 0 [.ref 98, .ref 100, .int (nI N)] (St (fo F a b 0) J) (fun r S2 => r = some (.int (if ((pvs (fun i => F (101 + 2 * i + 1)) (fun i => F (101 + 2 * i) 1) a b N).1 ||| (pvs (fun i => F (101 + 2 * i + 1)) (fun i => F (101 + 2 * i) 1) a b N).2.1) = (a ||| b) then 0 else 1)) ∧ S2 = St (fo3 F (pvs (fun i => F (101 + 2 * i + 1)) (fun i => F (101 + 2 * i) 1) a b N)) J) := by
  refine Ct.of rfl (by decide) rfl (Nat.le_of_ble_eq_true rfl) ?_
  refine g_aload_n 1 dX1_passOver_0 rfl rfl ?_
  refine gf_1_0 4 dX1_passOver_1 rfl kf_X1_9 (by first | decide | assumption | exact ⟨Nat.le_of_ble_eq_true rfl, rfl⟩) ?_
  refine g_aload_n 5 dX1_passOver_4 rfl rfl ?_
  refine gf_1_1 8 dX1_passOver_5 rfl kf_X1_15 (by first | decide | assumption | exact ⟨Nat.le_of_ble_eq_true rfl, rfl⟩) ?_
  refine g_ior 9 dX1_passOver_8 rfl ?_
  refine g_istore_n 10 dX1_passOver_9 rfl (by decide) ?_
  refine g_iconst (0) 11 dX1_passOver_10 rfl (by decide) ?_
  refine g_istore 13 dX1_passOver_11 rfl (by decide) ?_
  exact lp_passOver g l a b hN F J N 0 _ (a, b, 0) (by omega) rfl rfl

theorem pass_at (g : Gl) (l : Launch) {N : Nat} (hN : N ≤ 32) (F : Nat → Nat → Int32) (J : Nat → Int64) (q : Int32 × Int32 × Int32) (h : q.2.2 = 0) : Ct g l yX1_passOver cX1_passOver 5 (some .boolean) 3 0 0 [.ref 98, .ref 100, .int (nI N)] (St (fo3 F q) J) (fun r S2 => r = some (.int (if ((pvs (fun i => F (101 + 2 * i + 1)) (fun i => F (101 + 2 * i) 1) q.1 q.2.1 N).1 ||| (pvs (fun i => F (101 + 2 * i + 1)) (fun i => F (101 + 2 * i) 1) q.1 q.2.1 N).2.1) = (q.1 ||| q.2.1) then 0 else 1)) ∧ S2 = St (fo3 F (pvs (fun i => F (101 + 2 * i + 1)) (fun i => F (101 + 2 * i) 1) q.1 q.2.1 N)) J) := by
  have e : fo3 F q = fo F q.1 q.2.1 0 := by rw [fo3, h]
  rw [e]
  exact c_passOver g l q.1 q.2.1 hN F J
set_option maxRecDepth 100000 in
set_option maxHeartbeats 4000000 in
theorem lp_force (g : Gl) (l : Launch) (a b : Int32) {N : Nat} (hN : N ≤ 32) (F : Nat → Nat → Int32) (J : Nat → Int64) {XX : State → Method → Prop} (n : Nat) : ∀ (i : Nat) (ix nw : Int32) (q : Int32 × Int32 × Int32), i + n = 7 → ix = nI i → (q, nw) = fps (fun i => F (101 + 2 * i + 1)) (fun i => F (101 + 2 * i) 1) N a b i → Gj g l (rmd 4 0 0) XX (QM g (fun r S2 => r = none ∧ S2 = St (fo3 F (fps (fun i => F (101 + 2 * i + 1)) (fun i => F (101 + 2 * i) 1) N a b 7).1) J) 0 0) RX1 cX1_force 7 none 22 [some (.ref 98), some (.ref 100), some (.int (nI N)), some (.int a), some (.int b), some (.int nw), some (.int ix)] [] (St (fo3 F q) J) 0 0 := by
  induction n with
  | zero =>
    intro i ix nw q hi hx hq
    obtain rfl : i = 7 := by omega
    subst hx
    refine g_iload 24 dX1_force_22 rfl rfl ?_
    refine g_bipush (6) 26 dX1_force_24 rfl (by decide) ?_
    refine g_icmp_gt 55 29 dX1_force_26 rfl (by decide) (fun h26 => ?_) (fun h26 => ?_)
    · refine g_vret dX1_force_55 ?_
      exact ⟨rfl, by rw [← hq]⟩
    · exact absurd (by decide) h26
  | succ n ih =>
    intro i ix nw q hi hx hq
    subst hx
    refine g_iload 24 dX1_force_22 rfl rfl ?_
    refine g_bipush (6) 26 dX1_force_24 rfl (by decide) ?_
    refine g_icmp_gt 55 29 dX1_force_26 rfl (by decide) (fun h26 => ?_) (fun h26 => ?_)
    · exact absurd h26 (nI_nlt (a := 6) (b := i) (by omega) (by decide))
    · refine g_iload 31 dX1_force_29 rfl rfl ?_
      refine g_if_eq 55 34 dX1_force_31 rfl (by decide) (fun h31 => ?_) (fun h31 => ?_)
      · refine g_vret dX1_force_55 ?_
        exact ⟨rfl, by rw [fps_stay (i := i) (j := 7) (by rw [← hq]; exact Or.inl h31) (by omega), ← hq]⟩
      · refine g_aload_n 35 dX1_force_34 rfl rfl ?_
        refine gf_1_2 38 dX1_force_35 rfl kf_X1_18 (by first | decide | assumption | exact ⟨Nat.le_of_ble_eq_true rfl, rfl⟩) ?_
        refine g_if_ne 55 41 dX1_force_38 rfl (by decide) (fun h38 => ?_) (fun h38 => ?_)
        · refine g_vret dX1_force_55 ?_
          exact ⟨rfl, by rw [fps_stay (i := i) (j := 7) (by rw [← hq]; exact Or.inr h38) (by omega), ← hq]⟩
        · refine g_aload_n 42 dX1_force_41 rfl rfl ?_
          refine g_aload_n 43 dX1_force_42 rfl rfl ?_
          refine g_iload_n 44 dX1_force_43 rfl rfl ?_
          refine g_v2 1 47 dX1_force_44 rfl kl_X1_22 mv_X1_passOver rfl ⟨Nat.le_of_ble_eq_true rfl, Nat.le_of_ble_eq_true rfl⟩ (Nat.le_of_ble_eq_true rfl) (by first | decide | assumption | exact ⟨Nat.le_of_ble_eq_true rfl, rfl⟩) (pass_at g l hN F J q h38) ?_
          rintro _ _ ⟨rfl, rfl⟩
          refine g_istore 49 dX1_force_47 rfl (by decide) ?_
          refine g_iinc (1) 52 dX1_force_49 rfl (by decide) (by decide) rfl ?_
          refine g_goto 22 dX1_force_52 (by decide) ?_
          exact ih (i + 1) _ _ _ (by omega) (nI_succ i).symm (fps_go hq h31 h38).symm

set_option maxRecDepth 100000 in
set_option maxHeartbeats 4000000 in
theorem c_force (g : Gl) (l : Launch) (a b : Int32) {N : Nat} (hN : N ≤ 32) (F : Nat → Nat → Int32) (J : Nat → Int64) : Ct g l yX1_force cX1_force 7 none 4 0 0 [.ref 98, .ref 100, .int (nI N), .int a, .int b] (St F J) (fun r S2 => r = none ∧ S2 = St (fo3 F (fps (fun i => F (101 + 2 * i + 1)) (fun i => F (101 + 2 * i) 1) N a b 7).1) J) := by
  refine Ct.of rfl (by decide) rfl (Nat.le_of_ble_eq_true rfl) ?_
  refine g_aload_n 1 dX1_force_0 rfl rfl ?_
  refine g_iload_n 2 dX1_force_1 rfl rfl ?_
  refine gp_1_0 5 dX1_force_2 rfl kf_X1_9 (by first | decide | assumption | exact ⟨Nat.le_of_ble_eq_true rfl, rfl⟩) ?_
  refine g_aload_n 6 dX1_force_5 rfl rfl ?_
  refine g_iload 8 dX1_force_6 rfl rfl ?_
  refine gp_1_1 11 dX1_force_8 rfl kf_X1_15 (by first | decide | assumption | exact ⟨Nat.le_of_ble_eq_true rfl, rfl⟩) ?_
  refine g_aload_n 12 dX1_force_11 rfl rfl ?_
  refine g_iconst (0) 13 dX1_force_12 rfl (by decide) ?_
  refine gp_1_2 16 dX1_force_13 rfl kf_X1_18 (by first | decide | assumption | exact ⟨Nat.le_of_ble_eq_true rfl, rfl⟩) (by decide) ?_
  rw [fo_set]
  refine g_iconst (1) 17 dX1_force_16 rfl (by decide) ?_
  refine g_istore 19 dX1_force_17 rfl (by decide) ?_
  refine g_iconst (0) 20 dX1_force_19 rfl (by decide) ?_
  refine g_istore 22 dX1_force_20 rfl (by decide) ?_
  exact lp_force g l a b hN F J 7 0 _ _ (a, b, 0) rfl rfl rfl
end
section
/-! the class Fit: the cell 99 -/
abbrev Q4 : Type := Int32 × Int32 × Int32 × Int32
def ft (F : Nat → Nat → Int32) (q : Q4) : Nat → Nat → Int32 := fun r => if r = 99 then (fun j => if j = 0 then q.1 else if j = 1 then q.2.1 else if j = 2 then q.2.2.1 else if j = 3 then q.2.2.2 else F 99 j) else F r
theorem ft_set (F : Nat → Nat → Int32) (a b c d : Int32) : up2 (up2 (up2 (up2 F 99 0 a) 99 1 b) 99 2 c) 99 3 d = ft F (a, b, c, d) := by
  funext q j
  by_cases h : q = 99
  · subst h
    simp only [ft, up2, upd, if_true]
    by_cases e0 : j = 0
    · simp [e0]
    · by_cases e1 : j = 1
      · simp [e1]
      · by_cases e2 : j = 2
        · simp [e2]
        · by_cases e3 : j = 3 <;> simp [e0, e1, e2, e3]
  · simp [ft, up2, h]
def part (w s : Int32) : Int32 := if s = 1 then max32 w 0 else max32 (-w) 0
def wg3 (a b c : Int32) (i : Nat) : Int32 := part a (nI i &&& 1) + part b (nI i >>> ((1 : Int32) &&& 31) &&& 1) + part c (nI i >>> ((2 : Int32) &&& 31))
def flo (t a b c : Int32) : Nat → Int32 × Int32
  | 0 => (2147483647, -1)
  | i + 1 => if (flo t a b c i).1 ≤ (flo t a b c i).2 then flo t a b c i else if t >>> (nI i &&& 31) &&& 1 = 1 then (min32 (flo t a b c i).1 (wg3 a b c i), (flo t a b c i).2) else ((flo t a b c i).1, max32 (flo t a b c i).2 (wg3 a b c i))
theorem flo_stay {t a b c : Int32} {i : Nat} (h : (flo t a b c i).1 ≤ (flo t a b c i).2) : ∀ {j : Nat}, i ≤ j → flo t a b c j = flo t a b c i := by
  intro j hj
  induction j with
  | zero => obtain rfl : i = 0 := by omega
            rfl
  | succ j ih =>
    rcases Nat.lt_or_ge j i with q | q
    · obtain rfl : i = j + 1 := by omega
      rfl
    · rw [flo, ih q, if_pos h]
def tryF (t a b c : Int32) : Option Q4 := if (flo t a b c 8).1 ≤ (flo t a b c 8).2 then none else some (a, b, c, (flo t a b c 8).1)
def fI (i : Nat) : Int32 := nI i - 4
def thd (tog : Int32) (i j : Nat) : Int32 := tog - abs32 (fI i) - abs32 (fI j)
def trz (t tog : Int32) (i j : Nat) : Option Q4 := if thd tog i j < 0 ∨ 4 < thd tog i j then none else (tryF t (fI i) (fI j) (-(thd tog i j))).or (tryF t (fI i) (fI j) (thd tog i j))
def inn (t tog : Int32) (i : Nat) : Nat → Option Q4
  | 0 => none
  | n + 1 => (trz t tog i (8 - n)).or (inn t tog i n)
def outr (t tog : Int32) : Nat → Option Q4
  | 0 => none
  | n + 1 => (inn t tog (8 - n) 9).or (outr t tog n)
def srch (t : Int32) : Nat → Option Q4
  | 0 => none
  | n + 1 => (outr t (nI (12 - n)) 9).or (srch t n)
/-- what a search says: none, and nothing changed; or the one that was found -/
def rsZ (x : Option Q4) (F : Nat → Nat → Int32) (J : Nat → Int64) : Option Value → Sg → Prop := fun r S2 => (x = none ∧ r = some (.int 0) ∧ S2 = St F J) ∨ (∃ q, x = some q ∧ r = some (.int 1) ∧ S2 = St (ft F q) J)
theorem rs_no {x : Option Q4} {F : Nat → Nat → Int32} {J : Nat → Int64} (h : x = none) : rsZ x F J (some (.int 0)) (St F J) := Or.inl ⟨h, rfl, rfl⟩
theorem rs_yes {x : Option Q4} {F : Nat → Nat → Int32} {J : Nat → Int64} {q : Q4} (h : x = some q) : rsZ x F J (some (.int 1)) (St (ft F q) J) := Or.inr ⟨q, h, rfl, rfl⟩
theorem fI_s (i : Nat) : fI i + 1 = fI (i + 1) := by
  simp only [fI, nI_succ]
  rw [Int32.sub_eq_add_neg, Int32.sub_eq_add_neg, Int32.add_assoc, Int32.add_assoc, Int32.add_comm (-4) 1]
theorem fI_in : ∀ i, i < 9 → ¬ 4 < fI i := by decide +kernel
theorem fI_out : 4 < fI 9 := by decide +kernel

set_option maxRecDepth 100000 in
set_option maxHeartbeats 4000000 in
theorem c_part (g : Gl) (l : Launch) (x y : Int32) (S : Sg) : Ct g l yX0_part cX0_part 2 (some .int) 1 0 0 [.int x, .int y] S (fun r S2 => r = some (.int (part x y)) ∧ S2 = S) := by
  refine Ct.of rfl (by decide) rfl (Nat.le_of_ble_eq_true rfl) ?_
  refine g_iload_n 1 dX0_part_0 rfl rfl ?_
  refine g_iconst (1) 2 dX0_part_1 rfl (by decide) ?_
  refine g_icmp_ne 13 5 dX0_part_2 rfl (by decide) (fun h2 => ?_) (fun h2 => ?_)
  · refine g_iload_n 14 dX0_part_13 rfl rfl ?_
    refine g_ineg 15 dX0_part_14 rfl ?_
    refine g_iconst (0) 16 dX0_part_15 rfl (by decide) ?_
    refine g_mmax 19 dX0_part_16 rfl kl_X0_46 ⟨Nat.le_of_ble_eq_true rfl, Nat.le_of_ble_eq_true rfl, Nat.le_of_ble_eq_true rfl, Nat.le_of_ble_eq_true rfl⟩ (Nat.le_of_ble_eq_true rfl) ?_
    refine g_iret dX0_part_19 ?_
    exact ⟨by rw [part, if_neg h2], rfl⟩
  · refine g_iload_n 6 dX0_part_5 rfl rfl ?_
    refine g_iconst (0) 7 dX0_part_6 rfl (by decide) ?_
    refine g_mmax 10 dX0_part_7 rfl kl_X0_46 ⟨Nat.le_of_ble_eq_true rfl, Nat.le_of_ble_eq_true rfl, Nat.le_of_ble_eq_true rfl, Nat.le_of_ble_eq_true rfl⟩ (Nat.le_of_ble_eq_true rfl) ?_
    refine g_goto 19 dX0_part_10 (by decide) ?_
    refine g_iret dX0_part_19 ?_
    exact ⟨by rw [part, if_pos h2], rfl⟩

set_option maxRecDepth 100000 in
set_option maxHeartbeats 4000000 in
theorem ex_fits (g : Gl) (l : Launch) (t a b c : Int32) (F : Nat → Nat → Int32) (J : Nat → Int64) {XX : State → Method → Prop} (lo hi : Int32) (x7 x8 : Option Value) (hq : (lo, hi) = flo t a b c 8) : Gj g l (rmd 2 0 0) XX (QM g (rsZ (tryF t a b c) F J) 0 0) RX0 cX0_fits 9 (some .boolean) 92 [some (.ref 99), some (.int t), some (.int a), some (.int b), some (.int c), some (.int lo), some (.int hi), x7, x8] [] (St F J) 0 0 := by
  have e1 : lo = (flo t a b c 8).1 := by rw [← hq]
  have e2 : hi = (flo t a b c 8).2 := by rw [← hq]
  refine g_iload 94 dX0_fits_92 rfl rfl ?_
  refine g_iload 96 dX0_fits_94 rfl rfl ?_
  refine g_icmp_lt 101 99 dX0_fits_96 rfl (by decide) (fun h96 => ?_) (fun h96 => ?_)
  · refine g_aload_n 102 dX0_fits_101 rfl rfl ?_
    refine g_iload_n 103 dX0_fits_102 rfl rfl ?_
    refine gp_0_0 106 dX0_fits_103 rfl kf_X0_7 (by first | decide | assumption | exact ⟨Nat.le_of_ble_eq_true rfl, rfl⟩) ?_
    refine g_aload_n 107 dX0_fits_106 rfl rfl ?_
    refine g_iload_n 108 dX0_fits_107 rfl rfl ?_
    refine gp_0_1 111 dX0_fits_108 rfl kf_X0_13 (by first | decide | assumption | exact ⟨Nat.le_of_ble_eq_true rfl, rfl⟩) ?_
    refine g_aload_n 112 dX0_fits_111 rfl rfl ?_
    refine g_iload 114 dX0_fits_112 rfl rfl ?_
    refine gp_0_2 117 dX0_fits_114 rfl kf_X0_16 (by first | decide | assumption | exact ⟨Nat.le_of_ble_eq_true rfl, rfl⟩) ?_
    refine g_aload_n 118 dX0_fits_117 rfl rfl ?_
    refine g_iload 120 dX0_fits_118 rfl rfl ?_
    refine gp_0_3 123 dX0_fits_120 rfl kf_X0_19 (by first | decide | assumption | exact ⟨Nat.le_of_ble_eq_true rfl, rfl⟩) ?_
    refine g_iconst (1) 124 dX0_fits_123 rfl (by decide) ?_
    refine g_zret dX0_fits_124 (by decide) ?_
    rw [ft_set]
    exact rs_yes (by rw [tryF, ← e1, ← e2, if_neg (by simpa using h96)])
  · refine g_iconst (0) 100 dX0_fits_99 rfl (by decide) ?_
    refine g_zret dX0_fits_100 (by decide) ?_
    exact rs_no (by rw [tryF, ← e1, ← e2, if_pos (by simpa using h96)])

set_option maxRecDepth 100000 in
set_option maxHeartbeats 4000000 in
theorem lp_fits (g : Gl) (l : Launch) (t a b c : Int32) (F : Nat → Nat → Int32) (J : Nat → Int64) {XX : State → Method → Prop} (n : Nat) : ∀ (i : Nat) (lo hi ix : Int32) (x8 : Option Value), i + n = 8 → ix = nI i → (lo, hi) = flo t a b c i → Gj g l (rmd 2 0 0) XX (QM g (rsZ (tryF t a b c) F J) 0 0) RX0 cX0_fits 9 (some .boolean) 10 [some (.ref 99), some (.int t), some (.int a), some (.int b), some (.int c), some (.int lo), some (.int hi), some (.int ix), x8] [] (St F J) 0 0 := by
  induction n with
  | zero =>
    intro i lo hi ix x8 hi8 hx hq
    obtain rfl : i = 8 := by omega
    subst hx
    refine g_iload 12 dX0_fits_10 rfl rfl ?_
    refine g_bipush (8) 14 dX0_fits_12 rfl (by decide) ?_
    refine g_icmp_ge 92 17 dX0_fits_14 rfl (by decide) (fun h14 => ?_) (fun h14 => ?_)
    · exact ex_fits g l t a b c F J lo hi _ _ hq
    · exact absurd (by decide) h14
  | succ n ih =>
    intro i lo hi ix x8 hi8 hx hq
    subst hx
    have e1 : lo = (flo t a b c i).1 := by rw [← hq]
    have e2 : hi = (flo t a b c i).2 := by rw [← hq]
    refine g_iload 12 dX0_fits_10 rfl rfl ?_
    refine g_bipush (8) 14 dX0_fits_12 rfl (by decide) ?_
    refine g_icmp_ge 92 17 dX0_fits_14 rfl (by decide) (fun h14 => ?_) (fun h14 => ?_)
    · exact absurd h14 (nI_ge (a := i) (b := 8) (by omega) (by decide))
    · refine g_iload 19 dX0_fits_17 rfl rfl ?_
      refine g_iload 21 dX0_fits_19 rfl rfl ?_
      refine g_icmp_ge 92 24 dX0_fits_21 rfl (by decide) (fun h21 => ?_) (fun h21 => ?_)
      · exact ex_fits g l t a b c F J lo hi _ _ (by rw [hq]; exact (flo_stay (by rw [← e1, ← e2]; exact h21) (by omega)).symm)
      · refine g_iload_n 25 dX0_fits_24 rfl rfl ?_
        refine g_iload 27 dX0_fits_25 rfl rfl ?_
        refine g_iconst (1) 28 dX0_fits_27 rfl (by decide) ?_
        refine g_iand 29 dX0_fits_28 rfl ?_
        refine g_s2 32 dX0_fits_29 rfl kl_X0_39 ms_X0_part ⟨Nat.le_of_ble_eq_true rfl, Nat.le_of_ble_eq_true rfl⟩ (Nat.le_of_ble_eq_true rfl) (c_part g l _ _ _) ?_
        rintro _ _ ⟨rfl, rfl⟩
        refine g_iload_n 33 dX0_fits_32 rfl rfl ?_
        refine g_iload 35 dX0_fits_33 rfl rfl ?_
        refine g_iconst (1) 36 dX0_fits_35 rfl (by decide) ?_
        refine g_ishr 37 dX0_fits_36 rfl ?_
        refine g_iconst (1) 38 dX0_fits_37 rfl (by decide) ?_
        refine g_iand 39 dX0_fits_38 rfl ?_
        refine g_s2 42 dX0_fits_39 rfl kl_X0_39 ms_X0_part ⟨Nat.le_of_ble_eq_true rfl, Nat.le_of_ble_eq_true rfl⟩ (Nat.le_of_ble_eq_true rfl) (c_part g l _ _ _) ?_
        rintro _ _ ⟨rfl, rfl⟩
        refine g_iadd 43 dX0_fits_42 rfl ?_
        refine g_iload 45 dX0_fits_43 rfl rfl ?_
        refine g_iload 47 dX0_fits_45 rfl rfl ?_
        refine g_iconst (2) 48 dX0_fits_47 rfl (by decide) ?_
        refine g_ishr 49 dX0_fits_48 rfl ?_
        refine g_s2 52 dX0_fits_49 rfl kl_X0_39 ms_X0_part ⟨Nat.le_of_ble_eq_true rfl, Nat.le_of_ble_eq_true rfl⟩ (Nat.le_of_ble_eq_true rfl) (c_part g l _ _ _) ?_
        rintro _ _ ⟨rfl, rfl⟩
        refine g_iadd 53 dX0_fits_52 rfl ?_
        refine g_istore 55 dX0_fits_53 rfl (by decide) ?_
        refine g_iload_n 56 dX0_fits_55 rfl rfl ?_
        refine g_iload 58 dX0_fits_56 rfl rfl ?_
        refine g_ishr 59 dX0_fits_58 rfl ?_
        refine g_iconst (1) 60 dX0_fits_59 rfl (by decide) ?_
        refine g_iand 61 dX0_fits_60 rfl ?_
        refine g_iconst (1) 62 dX0_fits_61 rfl (by decide) ?_
        refine g_icmp_ne 77 65 dX0_fits_62 rfl (by decide) (fun h62 => ?_) (fun h62 => ?_)
        · refine g_iload 79 dX0_fits_77 rfl rfl ?_
          refine g_iload 81 dX0_fits_79 rfl rfl ?_
          refine g_mmax 84 dX0_fits_81 rfl kl_X0_46 ⟨Nat.le_of_ble_eq_true rfl, Nat.le_of_ble_eq_true rfl, Nat.le_of_ble_eq_true rfl, Nat.le_of_ble_eq_true rfl⟩ (Nat.le_of_ble_eq_true rfl) ?_
          refine g_istore 86 dX0_fits_84 rfl (by decide) ?_
          refine g_iinc (1) 89 dX0_fits_86 rfl (by decide) (by decide) rfl ?_
          refine g_goto 10 dX0_fits_89 (by decide) ?_
          exact ih (i + 1) _ _ _ _ (by omega) (nI_succ i).symm (by rw [flo, if_neg (by rw [← e1, ← e2]; exact h21), if_neg h62, ← e1, ← e2]; rfl)
        · refine g_iload 67 dX0_fits_65 rfl rfl ?_
          refine g_iload 69 dX0_fits_67 rfl rfl ?_
          refine g_mmin 72 dX0_fits_69 rfl kl_X0_43 ⟨Nat.le_of_ble_eq_true rfl, Nat.le_of_ble_eq_true rfl, Nat.le_of_ble_eq_true rfl, Nat.le_of_ble_eq_true rfl⟩ (Nat.le_of_ble_eq_true rfl) ?_
          refine g_istore 74 dX0_fits_72 rfl (by decide) ?_
          refine g_goto 86 dX0_fits_74 (by decide) ?_
          refine g_iinc (1) 89 dX0_fits_86 rfl (by decide) (by decide) rfl ?_
          refine g_goto 10 dX0_fits_89 (by decide) ?_
          exact ih (i + 1) _ _ _ _ (by omega) (nI_succ i).symm (by rw [flo, if_neg (by rw [← e1, ← e2]; exact h21), if_pos h62, ← e1, ← e2]; rfl)

set_option maxRecDepth 100000 in
set_option maxHeartbeats 4000000 in
theorem c_fitsC (g : Gl) (l : Launch) (t a b c : Int32) (F : Nat → Nat → Int32) (J : Nat → Int64) : Ct g l yX0_fits cX0_fits 9 (some .boolean) 2 0 0 [.ref 99, .int t, .int a, .int b, .int c] (St F J) (rsZ (tryF t a b c) F J) := by
  refine Ct.of rfl (by decide) rfl (Nat.le_of_ble_eq_true rfl) ?_
  refine g_ldc 2 dX0_fits_0 rfl kc_X0_38 ?_
  refine g_istore 4 dX0_fits_2 rfl (by decide) ?_
  refine g_iconst (-1) 5 dX0_fits_4 rfl (by decide) ?_
  refine g_istore 7 dX0_fits_5 rfl (by decide) ?_
  refine g_iconst (0) 8 dX0_fits_7 rfl (by decide) ?_
  refine g_istore 10 dX0_fits_8 rfl (by decide) ?_
  exact lp_fits g l t a b c F J 8 0 _ _ _ _ rfl rfl rfl

set_option maxRecDepth 100000 in
set_option maxHeartbeats 4000000 in
theorem lp_inn (g : Gl) (l : Launch) (t tog : Int32) (F : Nat → Nat → Int32) (J : Nat → Int64) (i : Nat) (hi : i < 9) (hfound : ∀ q, inn t tog i 9 = some q → outr t tog 9 = some q)  {XX : State → Method → Prop} (n : Nat) : ∀ (j : Nat) (jx : Int32) (x5 : Option Value), j + n = 9 → jx = fI j → inn t tog i 9 = inn t tog i n → (inn t tog i 9 = none → ∀ x4 x5 : Option Value, Gj g l (rmd 3 0 0) XX (QM g (rsZ (outr t tog 9) F J) 0 0) RX0 cX0_searchTogether 6 (some .boolean) 78 [some (.ref 99), some (.int t), some (.int tog), some (.int (fI i)), x4, x5] [] (St F J) 0 0) → Gj g l (rmd 3 0 0) XX (QM g (rsZ (outr t tog 9) F J) 0 0) RX0 cX0_searchTogether 6 (some .boolean) 12 [some (.ref 99), some (.int t), some (.int tog), some (.int (fI i)), some (.int jx), x5] [] (St F J) 0 0 := by
  induction n with
  | zero =>
    intro j jx x5 hj hx hin hex
    obtain rfl : j = 9 := by omega
    subst hx
    refine g_iload 14 dX0_searchTogether_12 rfl rfl ?_
    refine g_iconst (4) 15 dX0_searchTogether_14 rfl (by decide) ?_
    refine g_icmp_gt 78 18 dX0_searchTogether_15 rfl (by decide) (fun h15 => ?_) (fun h15 => ?_)
    · exact hex (by rw [hin]; rfl) _ _
    · exact absurd fI_out h15
  | succ n ih =>
    intro j jx x5 hj hx hin hex
    subst hx
    have hj8 : 8 - n = j := by omega
    have hin2 : inn t tog i 9 = (trz t tog i j).or (inn t tog i n) := by rw [hin, inn, hj8]
    refine g_iload 14 dX0_searchTogether_12 rfl rfl ?_
    refine g_iconst (4) 15 dX0_searchTogether_14 rfl (by decide) ?_
    refine g_icmp_gt 78 18 dX0_searchTogether_15 rfl (by decide) (fun h15 => ?_) (fun h15 => ?_)
    · exact absurd h15 (fI_in j (by omega))
    · refine g_iload_n 19 dX0_searchTogether_18 rfl rfl ?_
      refine g_iload_n 20 dX0_searchTogether_19 rfl rfl ?_
      refine g_mabs 23 dX0_searchTogether_20 rfl kl_X0_26 ⟨Nat.le_of_ble_eq_true rfl, Nat.le_of_ble_eq_true rfl, Nat.le_of_ble_eq_true rfl, Nat.le_of_ble_eq_true rfl⟩ (Nat.le_of_ble_eq_true rfl) ?_
      refine g_isub 24 dX0_searchTogether_23 rfl ?_
      refine g_iload 26 dX0_searchTogether_24 rfl rfl ?_
      refine g_mabs 29 dX0_searchTogether_26 rfl kl_X0_26 ⟨Nat.le_of_ble_eq_true rfl, Nat.le_of_ble_eq_true rfl, Nat.le_of_ble_eq_true rfl, Nat.le_of_ble_eq_true rfl⟩ (Nat.le_of_ble_eq_true rfl) ?_
      refine g_isub 30 dX0_searchTogether_29 rfl ?_
      refine g_istore 32 dX0_searchTogether_30 rfl (by decide) ?_
      refine g_iload 34 dX0_searchTogether_32 rfl rfl ?_
      refine g_if_lt 72 37 dX0_searchTogether_34 rfl (by decide) (fun h34 => ?_) (fun h34 => ?_)
      · refine g_iinc (1) 75 dX0_searchTogether_72 rfl (by decide) (by decide) rfl ?_
        refine g_goto 12 dX0_searchTogether_75 (by decide) ?_
        exact ih (j + 1) _ _ (by omega) (fI_s j) (by rw [hin2, trz, if_pos (Or.inl (show thd tog i j < 0 from h34))]; rfl) hex
      · refine g_iload 39 dX0_searchTogether_37 rfl rfl ?_
        refine g_iconst (4) 40 dX0_searchTogether_39 rfl (by decide) ?_
        refine g_icmp_gt 72 43 dX0_searchTogether_40 rfl (by decide) (fun h40 => ?_) (fun h40 => ?_)
        · refine g_iinc (1) 75 dX0_searchTogether_72 rfl (by decide) (by decide) rfl ?_
          refine g_goto 12 dX0_searchTogether_75 (by decide) ?_
          exact ih (j + 1) _ _ (by omega) (fI_s j) (by rw [hin2, trz, if_pos (Or.inr (show 4 < thd tog i j from h40))]; rfl) hex
        · refine g_aload_n 44 dX0_searchTogether_43 rfl rfl ?_
          refine g_iload_n 45 dX0_searchTogether_44 rfl rfl ?_
          refine g_iload_n 46 dX0_searchTogether_45 rfl rfl ?_
          refine g_iload 48 dX0_searchTogether_46 rfl rfl ?_
          refine g_iload 50 dX0_searchTogether_48 rfl rfl ?_
          refine g_ineg 51 dX0_searchTogether_50 rfl ?_
          refine g_v4 0 54 dX0_searchTogether_51 rfl kl_X0_32 mv_X0_fits rfl ⟨Nat.le_of_ble_eq_true rfl, Nat.le_of_ble_eq_true rfl⟩ (Nat.le_of_ble_eq_true rfl) (by first | decide | assumption | exact ⟨Nat.le_of_ble_eq_true rfl, rfl⟩) (c_fitsC g l _ _ _ _ F J) ?_
          intro r S2 hz
          rcases hz with ⟨hz1, rfl, rfl⟩ | ⟨q, hz1, rfl, rfl⟩
          · refine g_if_ne 70 57 dX0_searchTogether_54 rfl (by decide) (fun h54 => ?_) (fun h54 => ?_)
            · exact absurd h54 (by decide)
            · refine g_aload_n 58 dX0_searchTogether_57 rfl rfl ?_
              refine g_iload_n 59 dX0_searchTogether_58 rfl rfl ?_
              refine g_iload_n 60 dX0_searchTogether_59 rfl rfl ?_
              refine g_iload 62 dX0_searchTogether_60 rfl rfl ?_
              refine g_iload 64 dX0_searchTogether_62 rfl rfl ?_
              refine g_v4 0 67 dX0_searchTogether_64 rfl kl_X0_32 mv_X0_fits rfl ⟨Nat.le_of_ble_eq_true rfl, Nat.le_of_ble_eq_true rfl⟩ (Nat.le_of_ble_eq_true rfl) (by first | decide | assumption | exact ⟨Nat.le_of_ble_eq_true rfl, rfl⟩) (c_fitsC g l _ _ _ _ F J) ?_
              intro r S2 hz
              rcases hz with ⟨hz2, rfl, rfl⟩ | ⟨q, hz2, rfl, rfl⟩
              · refine g_if_eq 72 70 dX0_searchTogether_67 rfl (by decide) (fun h67 => ?_) (fun h67 => ?_)
                · refine g_iinc (1) 75 dX0_searchTogether_72 rfl (by decide) (by decide) rfl ?_
                  refine g_goto 12 dX0_searchTogether_75 (by decide) ?_
                  exact ih (j + 1) _ _ (by omega) (fI_s j) (by rw [hin2, trz, if_neg (fun z => z.elim h34 h40), show tryF t (fI i) (fI j) (-(thd tog i j)) = none from hz1, show tryF t (fI i) (fI j) (thd tog i j) = none from hz2]; rfl) hex
                · exact absurd h67 (by decide)
              · refine g_if_eq 72 70 dX0_searchTogether_67 rfl (by decide) (fun h67 => ?_) (fun h67 => ?_)
                · exact absurd h67 (by decide)
                · refine g_iconst (1) 71 dX0_searchTogether_70 rfl (by decide) ?_
                  refine g_zret dX0_searchTogether_71 (by decide) ?_
                  exact rs_yes (hfound q (by rw [hin2, trz, if_neg (fun z => z.elim h34 h40)]; rw [show tryF t (fI i) (fI j) (-(thd tog i j)) = none from hz1, show tryF t (fI i) (fI j) (thd tog i j) = some q from hz2]; rfl))
          · refine g_if_ne 70 57 dX0_searchTogether_54 rfl (by decide) (fun h54 => ?_) (fun h54 => ?_)
            · refine g_iconst (1) 71 dX0_searchTogether_70 rfl (by decide) ?_
              refine g_zret dX0_searchTogether_71 (by decide) ?_
              exact rs_yes (hfound q (by rw [hin2, trz, if_neg (fun z => z.elim h34 h40)]; rw [show tryF t (fI i) (fI j) (-(thd tog i j)) = some q from hz1]; rfl))
            · exact absurd h54 (by decide)

set_option maxRecDepth 100000 in
set_option maxHeartbeats 4000000 in
theorem lp_outr (g : Gl) (l : Launch) (t tog : Int32) (F : Nat → Nat → Int32) (J : Nat → Int64) {XX : State → Method → Prop} (n : Nat) : ∀ (i : Nat) (ix : Int32) (x4 x5 : Option Value), i + n = 9 → ix = fI i → outr t tog 9 = outr t tog n → Gj g l (rmd 3 0 0) XX (QM g (rsZ (outr t tog 9) F J) 0 0) RX0 cX0_searchTogether 6 (some .boolean) 3 [some (.ref 99), some (.int t), some (.int tog), some (.int ix), x4, x5] [] (St F J) 0 0 := by
  induction n with
  | zero =>
    intro i ix x4 x5 hi hx ho
    obtain rfl : i = 9 := by omega
    subst hx
    refine g_iload_n 4 dX0_searchTogether_3 rfl rfl ?_
    refine g_iconst (4) 5 dX0_searchTogether_4 rfl (by decide) ?_
    refine g_icmp_gt 84 8 dX0_searchTogether_5 rfl (by decide) (fun h5 => ?_) (fun h5 => ?_)
    · refine g_iconst (0) 85 dX0_searchTogether_84 rfl (by decide) ?_
      refine g_zret dX0_searchTogether_85 (by decide) ?_
      exact rs_no (by rw [ho]; rfl)
    · exact absurd fI_out h5
  | succ n ih =>
    intro i ix x4 x5 hi hx ho
    subst hx
    have hi8 : 8 - n = i := by omega
    have ho2 : outr t tog 9 = (inn t tog i 9).or (outr t tog n) := by rw [ho, outr, hi8]
    refine g_iload_n 4 dX0_searchTogether_3 rfl rfl ?_
    refine g_iconst (4) 5 dX0_searchTogether_4 rfl (by decide) ?_
    refine g_icmp_gt 84 8 dX0_searchTogether_5 rfl (by decide) (fun h5 => ?_) (fun h5 => ?_)
    · exact absurd h5 (fI_in i (by omega))
    · refine g_bipush (-4) 10 dX0_searchTogether_8 rfl (by decide) ?_
      refine g_istore 12 dX0_searchTogether_10 rfl (by decide) ?_
      refine lp_inn g l t tog F J i (by omega) (fun q hq => by rw [ho2, hq]; rfl) 9 0 _ _ rfl rfl rfl (fun hno x4 x5 => ?_)
      refine g_iinc (1) 81 dX0_searchTogether_78 rfl (by decide) (by decide) rfl ?_
      refine g_goto 3 dX0_searchTogether_81 (by decide) ?_
      exact ih (i + 1) _ _ _ (by omega) (fI_s i) (by rw [ho2, hno]; rfl)

set_option maxRecDepth 100000 in
set_option maxHeartbeats 4000000 in
theorem c_searchTogether (g : Gl) (l : Launch) (t tog : Int32) (F : Nat → Nat → Int32) (J : Nat → Int64) : Ct g l yX0_searchTogether cX0_searchTogether 6 (some .boolean) 3 0 0 [.ref 99, .int t, .int tog] (St F J) (rsZ (outr t tog 9) F J) := by
  refine Ct.of rfl (by decide) rfl (Nat.le_of_ble_eq_true rfl) ?_
  refine g_bipush (-4) 2 dX0_searchTogether_0 rfl (by decide) ?_
  refine g_istore_n 3 dX0_searchTogether_2 rfl (by decide) ?_
  exact lp_outr g l t tog F J 9 0 _ _ _ rfl rfl rfl

def fitF (t : Int32) : Option Q4 := if t = 0 then some (0, 0, 0, 1) else srch t 13

set_option maxRecDepth 100000 in
set_option maxHeartbeats 4000000 in
theorem lp_search (g : Gl) (l : Launch) (t : Int32) (h0 : ¬ t = 0) (F : Nat → Nat → Int32) (J : Nat → Int64) {XX : State → Method → Prop} (n : Nat) : ∀ (i : Nat) (ix : Int32), i + n = 13 → ix = nI i → srch t 13 = srch t n → Gj g l (rmd 4 0 0) XX (QM g (rsZ (fitF t) F J) 0 0) RX0 cX0_search 3 (some .boolean) 28 [some (.ref 99), some (.int t), some (.int ix)] [] (St F J) 0 0 := by
  induction n with
  | zero =>
    intro i ix hi hx hs
    obtain rfl : i = 13 := by omega
    subst hx
    refine g_iload_n 29 dX0_search_28 rfl rfl ?_
    refine g_bipush (12) 31 dX0_search_29 rfl (by decide) ?_
    refine g_icmp_gt 51 34 dX0_search_31 rfl (by decide) (fun h31 => ?_) (fun h31 => ?_)
    · refine g_iconst (0) 52 dX0_search_51 rfl (by decide) ?_
      refine g_zret dX0_search_52 (by decide) ?_
      exact rs_no (by rw [fitF, if_neg h0, hs]; rfl)
    · exact absurd (by decide) h31
  | succ n ih =>
    intro i ix hi hx hs
    subst hx
    have hs2 : srch t 13 = (outr t (nI i) 9).or (srch t n) := by rw [hs, srch, show 12 - n = i by omega]
    refine g_iload_n 29 dX0_search_28 rfl rfl ?_
    refine g_bipush (12) 31 dX0_search_29 rfl (by decide) ?_
    refine g_icmp_gt 51 34 dX0_search_31 rfl (by decide) (fun h31 => ?_) (fun h31 => ?_)
    · exact absurd h31 (nI_nlt (a := 12) (b := i) (by omega) (by decide))
    · refine g_aload_n 35 dX0_search_34 rfl rfl ?_
      refine g_iload_n 36 dX0_search_35 rfl rfl ?_
      refine g_iload_n 37 dX0_search_36 rfl rfl ?_
      refine g_v2 0 40 dX0_search_37 rfl kl_X0_22 mv_X0_searchTogether rfl ⟨Nat.le_of_ble_eq_true rfl, Nat.le_of_ble_eq_true rfl⟩ (Nat.le_of_ble_eq_true rfl) (by first | decide | assumption | exact ⟨Nat.le_of_ble_eq_true rfl, rfl⟩) (c_searchTogether g l _ _ F J) ?_
      intro r S2 hz
      rcases hz with ⟨hz1, rfl, rfl⟩ | ⟨q, hz1, rfl, rfl⟩
      · refine g_if_eq 45 43 dX0_search_40 rfl (by decide) (fun h40 => ?_) (fun h40 => ?_)
        · refine g_iinc (1) 48 dX0_search_45 rfl (by decide) (by decide) rfl ?_
          refine g_goto 28 dX0_search_48 (by decide) ?_
          exact ih (i + 1) _ (by omega) (nI_succ i).symm (by rw [hs2, hz1]; rfl)
        · exact absurd h40 (by decide)
      · refine g_if_eq 45 43 dX0_search_40 rfl (by decide) (fun h40 => ?_) (fun h40 => ?_)
        · exact absurd h40 (by decide)
        · refine g_iconst (1) 44 dX0_search_43 rfl (by decide) ?_
          refine g_zret dX0_search_44 (by decide) ?_
          exact rs_yes (by rw [fitF, if_neg h0, hs2, hz1]; rfl)

set_option maxRecDepth 100000 in
set_option maxHeartbeats 4000000 in
theorem c_search (g : Gl) (l : Launch) (t : Int32) (F : Nat → Nat → Int32) (J : Nat → Int64) : Ct g l yX0_search cX0_search 3 (some .boolean) 4 0 0 [.ref 99, .int t] (St F J) (rsZ (fitF t) F J) := by
  refine Ct.of rfl (by decide) rfl (Nat.le_of_ble_eq_true rfl) ?_
  refine g_iload_n 1 dX0_search_0 rfl rfl ?_
  refine g_if_ne 26 4 dX0_search_1 rfl (by decide) (fun h1 => ?_) (fun h1 => ?_)
  · refine g_iconst (0) 27 dX0_search_26 rfl (by decide) ?_
    refine g_istore_n 28 dX0_search_27 rfl (by decide) ?_
    exact lp_search g l t h1 F J 13 0 _ rfl rfl rfl
  · refine g_aload_n 5 dX0_search_4 rfl rfl ?_
    refine g_iconst (0) 6 dX0_search_5 rfl (by decide) ?_
    refine gp_0_0 9 dX0_search_6 rfl kf_X0_7 (by first | decide | assumption | exact ⟨Nat.le_of_ble_eq_true rfl, rfl⟩) ?_
    refine g_aload_n 10 dX0_search_9 rfl rfl ?_
    refine g_iconst (0) 11 dX0_search_10 rfl (by decide) ?_
    refine gp_0_1 14 dX0_search_11 rfl kf_X0_13 (by first | decide | assumption | exact ⟨Nat.le_of_ble_eq_true rfl, rfl⟩) ?_
    refine g_aload_n 15 dX0_search_14 rfl rfl ?_
    refine g_iconst (0) 16 dX0_search_15 rfl (by decide) ?_
    refine gp_0_2 19 dX0_search_16 rfl kf_X0_16 (by first | decide | assumption | exact ⟨Nat.le_of_ble_eq_true rfl, rfl⟩) ?_
    refine g_aload_n 20 dX0_search_19 rfl rfl ?_
    refine g_iconst (1) 21 dX0_search_20 rfl (by decide) ?_
    refine gp_0_3 24 dX0_search_21 rfl kf_X0_19 (by first | decide | assumption | exact ⟨Nat.le_of_ble_eq_true rfl, rfl⟩) ?_
    refine g_iconst (1) 25 dX0_search_24 rfl (by decide) ?_
    refine g_zret dX0_search_25 (by decide) ?_
    rw [ft_set]
    exact rs_yes (by rw [fitF, if_pos h1])
end
section
/-! the texts that were there before (String), and Text: the cells 1, 2 -/
section STRG
variable {g : Gl} {l : Launch} {R : Room} {XX : State → Method → Prop} {QQ : List Frame → Array Value → State → State → Prop} {own : String} {cc : ByteArray} {nL : Nat} {ret : Option FieldType} {pc : Nat} {L : List (Option Value)} {st rest : List Value} {S : Sg} {c1 s1 idx : Nat}
theorem rv_far {g : Gl} {k : Nat} (h : 1000 ≤ k) : rv g (.ref k) = .ref (ga g k) := by simp [rv, rel, show ¬ k < 1000 by omega]
theorem g_gets (n : Nat) (hd : decode cc pc = .ok (.getstatic idx, 3)) (hn : pc + 3 = n) (hl : Cond.fieldLink own idx "java/lang/String" "COMPACT_STRINGS" "Z" ∈ lw_tbl) (kk : Gj g l R XX QQ own cc nL ret n L (.int 1 :: st) S c1 s1) : Gj g l R XX QQ own cc nL ret pc L st S c1 s1 := by
  subst hn
  intro p e s m args below meth c H locs ls C hX hW hS hl0
  exact va_gets C.1 C.2.1 C.2.2.2.2.2.2.2.1.2.2.2.2.1 hS C.2.2.2.2.1 (C.2.2.2.2.2.2.1 _ (mem_g hl rfl)) (fun _ h => h) hd (kk p e s m args below meth c H locs ls C hX hW hS hl0)
theorem g_getsF (n : Nat) (hd : decode cc pc = .ok (.getstatic idx, 3)) (hn : pc + 3 = n) (hl : Cond.fieldLink own idx "jdk/internal/util/Preconditions" "SIOOBE_FORMATTER" "Ljava/util/function/BiFunction;" ∈ lw_tbl) (kk : ∀ v : Value, v = .null ∨ v = .ref 1200 → Gj g l R XX QQ own cc nL ret n L (v :: st) S c1 s1) : Gj g l R XX QQ own cc nL ret pc L st S c1 s1 := by
  subst hn
  intro p e s m args below meth c H locs ls C hX hW hS hl0
  rcases C.2.2.2.2.2.2.2.1.2.2.2.2.2 with q | q
  · exact va_gets C.1 C.2.1 q hS C.2.2.2.2.1 (C.2.2.2.2.2.2.1 _ (mem_g hl rfl)) (fun _ h => h) hd (kk .null (Or.inl rfl) p e s m args below meth c H locs ls C hX hW hS hl0)
  · exact va_gets C.1 C.2.1 q hS C.2.2.2.2.1 (C.2.2.2.2.2.2.1 _ (mem_g hl rfl)) (fun _ h => h) hd (kk (.ref 1200) (Or.inr rfl) p e s m args below meth c H locs ls C hX hW hS hl0)
theorem g_sval {i : Nat} (n : Nat) (hi : i < 8) (hd : decode cc pc = .ok (.getfield idx, 3)) (hn : pc + 3 = n) (hl : Cond.fieldLink own idx "java/lang/String" "value" "[B" ∈ lw_tbl) (kk : Gj g l R XX QQ own cc nL ret n L (.ref (1100 + i) :: st) S c1 s1) : Gj g l R XX QQ own cc nL ret pc L (.ref (1000 + i) :: st) S c1 s1 := by
  subst hn
  intro p e s m args below meth c H locs ls C hX hW hS hl0
  have kk2 := kk p e s m args below meth c H locs ls C hX hW hS hl0
  rw [List.map_cons, rv_far (by omega)] at kk2 ⊢
  exact vk_getf C.1 C.2.1 (C.2.2.2.2.2.2.2.1.2.2.1.1 i hi).2.2.1 hS C.2.2.2.2.1 (C.2.2.2.2.2.2.1 _ (mem_g hl rfl)) (fun _ h => h) hd kk2
theorem g_scod {i : Nat} (n : Nat) (hi : i < 8) (hd : decode cc pc = .ok (.getfield idx, 3)) (hn : pc + 3 = n) (hl : Cond.fieldLink own idx "java/lang/String" "coder" "B" ∈ lw_tbl) (kk : Gj g l R XX QQ own cc nL ret n L (.int 0 :: st) S c1 s1) : Gj g l R XX QQ own cc nL ret pc L (.ref (1000 + i) :: st) S c1 s1 := by
  subst hn
  intro p e s m args below meth c H locs ls C hX hW hS hl0
  have kk2 := kk p e s m args below meth c H locs ls C hX hW hS hl0
  rw [List.map_cons, rv_far (by omega)]
  exact vk_getf C.1 C.2.1 (C.2.2.2.2.2.2.2.1.2.2.1.1 i hi).2.1 hS C.2.2.2.2.1 (C.2.2.2.2.2.2.1 _ (mem_g hl rfl)) (fun _ h => h) hd kk2
theorem sx_all : ∀ i, i < 8 → sx_ln.getD i 0 < 8 := by decide +kernel
theorem g_slen {i : Nat} (n : Nat) (hi : i < 8) (hd : decode cc pc = .ok (.arraylength, 1)) (hn : pc + 1 = n) (kk : Gj g l R XX QQ own cc nL ret n L (.int (nI (sx_ln.getD i 0)) :: st) S c1 s1) : Gj g l R XX QQ own cc nL ret pc L (.ref (1100 + i) :: st) S c1 s1 := by
  subst hn
  intro p e s m args below meth c H locs ls C hX hW hS hl0
  have kk2 := kk p e s m args below meth c H locs ls C hX hW hS hl0
  rw [List.map_cons, rv_far (by omega)]
  obtain ⟨cell, h1, h2, h3, h4, h5, h6, h7⟩ := va_T.kept (C.2.2.2.2.2.2.2.1.2.2.1.1 i hi).2.2.2 hS.2.1
  exact W.alen C.1 C.2.1 h1 h2 h5 rfl rfl hd kk2
theorem g_sbld {i : Nat} {x : Int32} (j n : Nat) (hi : i < 8) (hd : decode cc pc = .ok (.baload, 1)) (hn : pc + 1 = n) (hx : x = nI j) (hj : j < sx_ln.getD i 0) (kk : Gj g l R XX QQ own cc nL ret n L (.int ((sx_by.getD i []).getD j 0) :: st) S c1 s1) : Gj g l R XX QQ own cc nL ret pc L (.int x :: .ref (1100 + i) :: st) S c1 s1 := by
  subst hn
  intro p e s m args below meth c H locs ls C hX hW hS hl0
  have kk2 := kk p e s m args below meth c H locs ls C hX hW hS hl0
  rw [List.map_cons, List.map_cons, rv_far (by omega)]
  obtain ⟨cell, h1, h2, h3, h4, h5, h6, h7⟩ := va_T.kept (C.2.2.2.2.2.2.2.1.2.2.1.1 i hi).2.2.2 hS.2.1
  have hb := sx_all i hi
  have hcl : x.toNatClampNeg = j := by rw [hx]; exact nI_clamp (by omega)
  exact W.bald C.1 C.2.1 h1 h2 h3 (by rw [hcl]; exact fun z => z.elim (fun q => by rw [hx] at q; exact nI_pos (by omega) q) (fun q => by omega)) (by rw [hcl]; exact h6 j hj) rfl rfl hd kk2
variable {y : MethodName} {cc2 : ByteArray} {nL2 : Nat} {ret2 : Option FieldType} {d2 : Nat} {Z : Option Value → Sg → Prop}
theorem g_callVS {As : List Value} {i : Nat} (n : Nat) (hi : i < 8) (hd : decode cc pc = .ok (.invokevirtual idx, 3)) (hn : pc + 3 = n) (hl : Cond.methodLink own idx y ∈ lw_tbl) (hy : y.cls = "java/lang/String") (hm : MV y cc2 nL2 ret2 As.length) (hM : Ct g l y cc2 nL2 ret2 d2 0 0 (.ref (1000 + i) :: As) S Z) (hR : d2 + 1 ≤ R.frames ∧ 8 + (nL2 + 11) + 37 * d2 ≤ R.locals) (hr : (rest.map fun v => v.category).sum ≤ 8)
    (kk : ∀ (r : Option Value) (S2 : Sg), Z r S2 → Gj g l R XX QQ own cc nL ret n L (r.toList ++ rest) S2 0 0) : Gj g l R XX QQ own cc nL ret pc L (As.reverse ++ .ref (1000 + i) :: rest) S 0 0 := by
  subst hn
  intro p e s m args below meth c H locs ls C0 hX hW hS hl0
  obtain ⟨m1, m2, m3, m4, m5, m6⟩ := hm
  have hts := C0.2.2.2.2.2.2.1
  have hK := C0.2.2.2.2.2.2.2.1
  have hcb : CallB R s args own idx y cc2 nL2 ret2 (Cond.code y cc2 nL2 ret2 :: lw_g) (rmd d2 0 0) 0 0 As.length := callB_of As.length hts (gd_in m4 rfl) rfl rfl rfl (hts _ (mem_g m3 rfl)) (hts _ (mem_g hl rfl)) ⟨m5.1, m5.2, m6⟩ hR
  intro T hT X
  obtain ⟨v, st₀, t, T2, Lc, h0, X2, hL, e1, e2, ⟨⟨r, S2, hv, hz, hW2⟩, hz1, hk1⟩, stp⟩ := va_runV (As := As.map (rv g)) (rest := rest.map (rv g)) (b := ga g (1000 + i)) (C := y.cls) (g := F0 m pc ls ((As.reverse ++ .ref (1000 + i) :: rest).map (rv g))) ⟨C0.1, C0.2.1, C0.2.2.1, C0.2.2.2.2.1, hts⟩ hM ⟨hcb, hts _ (mem_g m1 rfl), hts _ (mem_g m2 rfl)⟩ ⟨ct_blind, by rw [hy]; exact vk_recv (adK := fun i => ga g (1000 + i)) hK.2.2.1 hi hS, fun U hU hWm => ⟨by rw [← rv_far (g := g) (k := 1000 + i) (by omega)]; rfl, by rw [hU]; exact hW, hK.next hWm hU hS⟩⟩ rfl (by rw [List.length_map]) hl0.1 (by show List.map _ _ = _; rw [List.map_append, List.map_cons, List.map_reverse, rv_far (by omega)]) (lv_room (by rw [cat_map]; exact hr)) hd ⟨Nat.zero_le _, Nat.zero_le _⟩ T hT X
  cases hv
  rw [h0] at hz1 hk1
  have K := kk r S2 hz p e s m args below meth c T2.heap (locs ++ Lc) ls C0 hX (by rw [e1]; exact hW2) (sF_next hS (by rw [e1]; exact hz1) (fun q a b => by rw [e1]; exact hk1 q a b) hL) hl0 T2 rfl X2
  rw [← st_back] at K
  obtain ⟨t2, a1, b1⟩ := K
  exact ⟨t2, stp t2 a1, b1⟩
theorem g_ldcS {i : Nat} (n : Nat) (hi : i < 8) (hd : decode cc pc = .ok (.ldc idx, 2)) (hx : idx = sx_at i) (ho : own = RX6) (hn : pc + 2 = n) (kk : Gj g l R XX QQ own cc nL ret n L (.ref (1000 + i) :: st) S c1 s1) : Gj g l R XX QQ own cc nL ret pc L st S c1 s1 := by
  subst hn; subst hx; subst ho
  intro p e s m args below meth c H locs ls C hX hW hS hl0
  have kk2 := kk p e s m args below meth c H locs ls C hX hW hS hl0
  rw [List.map_cons, rv_far (by omega)] at kk2
  exact va_ldcS C.1 C.2.1 C.2.2.2.2.1 (C.2.2.2.2.2.2.2.1.2.2.2.1 i hi) hd kk2
end STRG

theorem fb_bt (x : Int32) : x.toInt8.toInt32.toInt8.toInt32 = x.toInt8.toInt32 := by simp
set_option maxRecDepth 100000 in
set_option maxHeartbeats 4000000 in
theorem c_coder (g : Gl) (l : Launch) {i : Nat} (hi : i < 8) (S : Sg) : Ct g l yJ0_coder_7d493 cJ0_coder_7d493 1 (some .byte) 0 0 0 [.ref (1000 + i)] S (fun r S2 => r = some (.int 0) ∧ S2 = S) := by
  refine Ct.of rfl (by decide) rfl (Nat.le_of_ble_eq_true rfl) ?_
  refine g_gets 3 dJ0_coder_7d493_0 rfl kf_J0_38 ?_
  refine g_if_eq 13 6 dJ0_coder_7d493_3 rfl (by decide) (fun h3 => ?_) (fun h3 => ?_)
  · exact absurd h3 (by decide)
  · refine g_aload_n 7 dJ0_coder_7d493_6 rfl rfl ?_
    refine g_scod 10 hi dJ0_coder_7d493_7 rfl kf_J0_15 ?_
    refine g_goto 14 dJ0_coder_7d493_10 (by decide) ?_
    refine g_zret dJ0_coder_7d493_14 (by decide) ?_
    exact ⟨rfl, rfl⟩

set_option maxRecDepth 100000 in
set_option maxHeartbeats 4000000 in
theorem c_isLatin1 (g : Gl) (l : Launch) {i : Nat} (hi : i < 8) (S : Sg) : Ct g l yJ0_isLatin1_aae02 cJ0_isLatin1_aae02 1 (some .boolean) 0 0 0 [.ref (1000 + i)] S (fun r S2 => r = some (.int 1) ∧ S2 = S) := by
  refine Ct.of rfl (by decide) rfl (Nat.le_of_ble_eq_true rfl) ?_
  refine g_gets 3 dJ0_isLatin1_aae02_0 rfl kf_J0_38 ?_
  refine g_if_eq 17 6 dJ0_isLatin1_aae02_3 rfl (by decide) (fun h3 => ?_) (fun h3 => ?_)
  · exact absurd h3 (by decide)
  · refine g_aload_n 7 dJ0_isLatin1_aae02_6 rfl rfl ?_
    refine g_scod 10 hi dJ0_isLatin1_aae02_7 rfl kf_J0_15 ?_
    refine g_if_ne 17 13 dJ0_isLatin1_aae02_10 rfl (by decide) (fun h10 => ?_) (fun h10 => ?_)
    · exact absurd rfl h10
    · refine g_iconst (1) 14 dJ0_isLatin1_aae02_13 rfl (by decide) ?_
      refine g_goto 18 dJ0_isLatin1_aae02_14 (by decide) ?_
      refine g_zret dJ0_isLatin1_aae02_18 (by decide) ?_
      exact ⟨rfl, rfl⟩

set_option maxRecDepth 100000 in
set_option maxHeartbeats 4000000 in
theorem c_slength (g : Gl) (l : Launch) {i : Nat} (hi : i < 8) (S : Sg) : Ct g l yJ0_length_8abf5 cJ0_length_8abf5 1 (some .int) 1 0 0 [.ref (1000 + i)] S (fun r S2 => r = some (.int (nI (sx_ln.getD i 0))) ∧ S2 = S) := by
  refine Ct.of rfl (by decide) rfl (Nat.le_of_ble_eq_true rfl) ?_
  refine g_aload_n 1 dJ0_length_8abf5_0 rfl rfl ?_
  refine g_sval 4 hi dJ0_length_8abf5_1 rfl kf_J0_9 ?_
  refine g_slen 5 hi dJ0_length_8abf5_4 rfl ?_
  refine g_aload_n 6 dJ0_length_8abf5_5 rfl rfl ?_
  refine g_callVS (As := []) 9 hi dJ0_length_8abf5_6 rfl kl_J0_335 rfl mv_J0_coder_7d493 (c_coder g l hi _) ⟨Nat.le_of_ble_eq_true rfl, Nat.le_of_ble_eq_true rfl⟩ (Nat.le_of_ble_eq_true rfl) ?_
  rintro _ _ ⟨rfl, rfl⟩
  refine g_ishr 10 dJ0_length_8abf5_9 rfl ?_
  refine g_iret dJ0_length_8abf5_10 ?_
  exact ⟨by rw [sb_shr0], rfl⟩

theorem sx_ch : ∀ i, i < 8 → ∀ j, j < sx_ln.getD i 0 → (((sx_by.getD i []).getD j 0 &&& 255).toUInt32 % 65536).toInt32 = (sx_by.getD i []).getD j 0 ∧ narrow .char (.int ((sx_by.getD i []).getD j 0)) = .int ((sx_by.getD i []).getD j 0) := by decide +kernel
set_option maxRecDepth 100000 in
set_option maxHeartbeats 4000000 in
theorem c_pchk (g : Gl) (l : Launch) {j n : Nat} (hj : j < n) (hn : n < 1000) {v : Value} (hv : v = .null ∨ v = .ref 1200) (S : Sg) : Ct g l yJ3_checkIndex_8e157 cJ3_checkIndex_8e157 3 (some .int) 0 0 0 [.int (nI j), .int (nI n), v] S (fun r S2 => r = some (.int (nI j)) ∧ S2 = S) := by
  have hL : enp [.int (nI j), .int (nI n), v] 3 = [some (.int (nI j)), some (.int (nI n)), some v] := by rcases hv with rfl | rfl <;> rfl
  refine Ct.of rfl (by decide) hL (by rcases hv with rfl | rfl <;> exact Nat.le_of_ble_eq_true rfl) ?_
  refine g_iload_n 1 dJ3_checkIndex_8e157_0 rfl rfl ?_
  refine g_if_lt 9 4 dJ3_checkIndex_8e157_1 rfl (by decide) (fun h1 => ?_) (fun h1 => ?_)
  · exact absurd h1 (nI_pos (by omega))
  · refine g_iload_n 5 dJ3_checkIndex_8e157_4 rfl rfl ?_
    refine g_iload_n 6 dJ3_checkIndex_8e157_5 rfl rfl ?_
    refine g_icmp_lt 16 9 dJ3_checkIndex_8e157_6 rfl (by decide) (fun h6 => ?_) (fun h6 => ?_)
    · refine g_iload_n 17 dJ3_checkIndex_8e157_16 rfl rfl ?_
      refine g_iret dJ3_checkIndex_8e157_17 ?_
      exact ⟨rfl, rfl⟩
    · exact absurd (nI_lt hj (by omega)) h6

set_option maxRecDepth 100000 in
set_option maxHeartbeats 4000000 in
theorem c_schk (g : Gl) (l : Launch) {j n : Nat} (hj : j < n) (hn : n < 1000) (S : Sg) : Ct g l yJ0_checkIndex_df160 cJ0_checkIndex_df160 2 none 1 0 0 [.int (nI j), .int (nI n)] S (fun r S2 => r = none ∧ S2 = S) := by
  refine Ct.of rfl (by decide) rfl (Nat.le_of_ble_eq_true rfl) ?_
  refine g_iload_n 1 dJ0_checkIndex_df160_0 rfl rfl ?_
  refine g_iload_n 2 dJ0_checkIndex_df160_1 rfl rfl ?_
  refine g_getsF 5 dJ0_checkIndex_df160_2 rfl kf_J0_1053 (fun v hv => ?_)
  refine g_s3 8 dJ0_checkIndex_df160_5 rfl kl_J0_1059 ms_J3_checkIndex_8e157 ⟨Nat.le_of_ble_eq_true rfl, Nat.le_of_ble_eq_true rfl⟩ (Nat.le_of_ble_eq_true rfl) (c_pchk g l hj hn hv S) ?_
  rintro _ _ ⟨rfl, rfl⟩
  refine g_pop 9 dJ0_checkIndex_df160_8 rfl rfl ?_
  refine g_vret dJ0_checkIndex_df160_9 ?_
  exact ⟨rfl, rfl⟩

set_option maxRecDepth 100000 in
set_option maxHeartbeats 4000000 in
theorem c_l1charAt (g : Gl) (l : Launch) {i j : Nat} (hi : i < 8) (hj : j < sx_ln.getD i 0) (S : Sg) : Ct g l yJ1_charAt_3b067 cJ1_charAt_3b067 2 (some .char) 2 0 0 [.ref (1100 + i), .int (nI j)] S (fun r S2 => r = some (.int ((sx_by.getD i []).getD j 0)) ∧ S2 = S) := by
  have hb := sx_all i hi
  obtain ⟨hc1, hc2⟩ := sx_ch i hi j hj
  refine Ct.of rfl (by decide) rfl (Nat.le_of_ble_eq_true rfl) ?_
  refine g_iload_n 1 dJ1_charAt_3b067_0 rfl rfl ?_
  refine g_aload_n 2 dJ1_charAt_3b067_1 rfl rfl ?_
  refine g_slen 3 hi dJ1_charAt_3b067_2 rfl ?_
  refine g_s2 6 dJ1_charAt_3b067_3 rfl kl_J1_9 ms_J0_checkIndex_df160 ⟨Nat.le_of_ble_eq_true rfl, Nat.le_of_ble_eq_true rfl⟩ (Nat.le_of_ble_eq_true rfl) (c_schk g l hj (by omega) S) ?_
  rintro _ _ ⟨rfl, rfl⟩
  refine g_aload_n 7 dJ1_charAt_3b067_6 rfl rfl ?_
  refine g_iload_n 8 dJ1_charAt_3b067_7 rfl rfl ?_
  refine g_sbld j 9 hi dJ1_charAt_3b067_8 rfl rfl hj ?_
  refine g_sipush (255) 12 dJ1_charAt_3b067_9 rfl (by decide) ?_
  refine g_iand 13 dJ1_charAt_3b067_12 rfl ?_
  refine g_i2c 14 dJ1_charAt_3b067_13 rfl ?_
  rw [hc1]
  refine g_zret dJ1_charAt_3b067_14 hc2 ?_
  exact ⟨rfl, rfl⟩

set_option maxRecDepth 100000 in
set_option maxHeartbeats 4000000 in
theorem c_charAt (g : Gl) (l : Launch) {i j : Nat} (hi : i < 8) (hj : j < sx_ln.getD i 0) (S : Sg) : Ct g l yJ0_charAt_5068e cJ0_charAt_5068e 2 (some .char) 3 0 0 [.ref (1000 + i), .int (nI j)] S (fun r S2 => r = some (.int ((sx_by.getD i []).getD j 0)) ∧ S2 = S) := by
  obtain ⟨hc1, hc2⟩ := sx_ch i hi j hj
  refine Ct.of rfl (by decide) rfl (Nat.le_of_ble_eq_true rfl) ?_
  refine g_aload_n 1 dJ0_charAt_5068e_0 rfl rfl ?_
  refine g_callVS (As := []) 4 hi dJ0_charAt_5068e_1 rfl kl_J0_492 rfl mv_J0_isLatin1_aae02 (c_isLatin1 g l hi _) ⟨Nat.le_of_ble_eq_true rfl, Nat.le_of_ble_eq_true rfl⟩ (Nat.le_of_ble_eq_true rfl) ?_
  rintro _ _ ⟨rfl, rfl⟩
  refine g_if_eq 16 7 dJ0_charAt_5068e_4 rfl (by decide) (fun h4 => ?_) (fun h4 => ?_)
  · exact absurd h4 (by decide)
  · refine g_aload_n 8 dJ0_charAt_5068e_7 rfl rfl ?_
    refine g_sval 11 hi dJ0_charAt_5068e_8 rfl kf_J0_9 ?_
    refine g_iload_n 12 dJ0_charAt_5068e_11 rfl rfl ?_
    refine g_s2 15 dJ0_charAt_5068e_12 rfl kl_J0_495 ms_J1_charAt_3b067 ⟨Nat.le_of_ble_eq_true rfl, Nat.le_of_ble_eq_true rfl⟩ (Nat.le_of_ble_eq_true rfl) (c_l1charAt g l hi hj _) ?_
    rintro _ _ ⟨rfl, rfl⟩
    refine g_zret dJ0_charAt_5068e_15 hc2 ?_
    exact ⟨rfl, rfl⟩

/-! Text -/
def at_ (F : Nat → Nat → Int32) (len m : Nat) : Int32 := if m < len then F 2 m &&& 255 else -1

set_option maxRecDepth 100000 in
set_option maxHeartbeats 4000000 in
theorem c_at (g : Gl) (l : Launch) (F : Nat → Nat → Int32) (J : Nat → Int64) {len : Nat} (hl : F 1 1 = nI len) (hlen : len ≤ 400) (m : Nat) (hm : m < 1000) : Ct g l yX5_at cX5_at 2 (some .int) 0 0 0 [.ref 1, .int (nI m)] (St F J) (fun r S2 => r = some (.int (at_ F len m)) ∧ S2 = St F J) := by
  refine Ct.of rfl (by decide) rfl (Nat.le_of_ble_eq_true rfl) ?_
  refine g_iload_n 1 dX5_at_0 rfl rfl ?_
  refine g_if_lt 32 4 dX5_at_1 rfl (by decide) (fun h1 => ?_) (fun h1 => ?_)
  · exact absurd h1 (nI_pos (by omega))
  · refine g_iload_n 5 dX5_at_4 rfl rfl ?_
    refine g_aload_n 6 dX5_at_5 rfl rfl ?_
    refine gf_5_1 9 dX5_at_6 rfl kf_X5_15 (by first | decide | assumption | exact ⟨Nat.le_of_ble_eq_true rfl, rfl⟩) ?_
    refine g_icmp_ge 32 12 dX5_at_9 rfl (by decide) (fun h9 => ?_) (fun h9 => ?_)
    · refine g_iconst (-1) 33 dX5_at_32 rfl (by decide) ?_
      refine g_iret dX5_at_33 ?_
      exact ⟨by rw [at_, if_neg (by rw [hl] at h9; intro q; exact nI_ge q (by omega) h9)], rfl⟩
    · have hml : m < len := by
        rcases Nat.lt_or_ge m len with q | q
        · exact q
        · exact absurd (by rw [hl]; exact nI_le q (by omega)) h9
      refine g_iload_n 13 dX5_at_12 rfl rfl ?_
      refine g_sipush (400) 16 dX5_at_13 rfl (by decide) ?_
      refine g_icmp_ge 32 19 dX5_at_16 rfl (by decide) (fun h16 => ?_) (fun h16 => ?_)
      · exact absurd h16 (nI_ge (a := m) (b := 400) (by omega) (by decide))
      · refine g_aload_n 20 dX5_at_19 rfl rfl ?_
        refine gf_5_0 23 dX5_at_20 rfl kf_X5_9 ?_
        refine g_iload_n 24 dX5_at_23 rfl rfl ?_
        refine ga_bld (m) 25 dX5_at_24 rfl (by first | decide | assumption | exact ⟨Nat.le_of_ble_eq_true rfl, rfl⟩) rfl (show m < 400 by omega) ?_
        refine g_sipush (255) 28 dX5_at_25 rfl (by decide) ?_
        refine g_iand 29 dX5_at_28 rfl ?_
        refine g_goto 33 dX5_at_29 (by decide) ?_
        refine g_iret dX5_at_33 ?_
        exact ⟨by rw [at_, if_pos hml], rfl⟩

set_option maxRecDepth 100000 in
set_option maxHeartbeats 4000000 in
theorem c_put5 (g : Gl) (l : Launch) (x : Int32) (F : Nat → Nat → Int32) (J : Nat → Int64) {len : Nat} (hl : F 1 1 = nI len) (hlen : len < 400) : Ct g l yX5_put cX5_put 2 none 0 0 0 [.ref 1, .int x] (St F J) (fun r S2 => r = none ∧ S2 = St (up2 (up2 F 2 len x.toInt8.toInt32) 1 1 (nI (len + 1))) J) := by
  refine Ct.of rfl (by decide) rfl (Nat.le_of_ble_eq_true rfl) ?_
  refine g_aload_n 1 dX5_put_0 rfl rfl ?_
  refine gf_5_1 4 dX5_put_1 rfl kf_X5_15 (by first | decide | assumption | exact ⟨Nat.le_of_ble_eq_true rfl, rfl⟩) ?_
  refine g_sipush (400) 7 dX5_put_4 rfl (by decide) ?_
  refine g_icmp_ge 31 10 dX5_put_7 rfl (by decide) (fun h7 => ?_) (fun h7 => ?_)
  · exact absurd h7 (by rw [hl]; exact nI_ge (a := len) (b := 400) hlen (by decide))
  · refine g_aload_n 11 dX5_put_10 rfl rfl ?_
    refine gf_5_0 14 dX5_put_11 rfl kf_X5_9 ?_
    refine g_aload_n 15 dX5_put_14 rfl rfl ?_
    refine gf_5_1 18 dX5_put_15 rfl kf_X5_15 (by first | decide | assumption | exact ⟨Nat.le_of_ble_eq_true rfl, rfl⟩) ?_
    refine g_iload_n 19 dX5_put_18 rfl rfl ?_
    refine g_i2b 20 dX5_put_19 rfl ?_
    refine ga_bst (len) 21 dX5_put_20 rfl (by first | decide | assumption | exact ⟨Nat.le_of_ble_eq_true rfl, rfl⟩) hl hlen ?_
    refine g_aload_n 22 dX5_put_21 rfl rfl ?_
    refine g_dup 23 dX5_put_22 rfl rfl ?_
    refine gf_5_1 26 dX5_put_23 rfl kf_X5_15 (by first | decide | assumption | exact ⟨Nat.le_of_ble_eq_true rfl, rfl⟩) ?_
    refine g_iconst (1) 27 dX5_put_26 rfl (by decide) ?_
    refine g_iadd 28 dX5_put_27 rfl ?_
    refine gp_5_1 31 dX5_put_28 rfl kf_X5_15 (by first | decide | assumption | exact ⟨Nat.le_of_ble_eq_true rfl, rfl⟩) ?_
    refine g_vret dX5_put_31 ?_
    exact ⟨rfl, by rw [nI_succ, ← hl]; simp only [up2, upd, if_neg (show ¬ (1 : Nat) = 2 by decide), fb_bt]⟩

set_option maxRecDepth 100000 in
set_option maxHeartbeats 4000000 in
theorem c_empty (g : Gl) (l : Launch) (F : Nat → Nat → Int32) (J : Nat → Int64) : Ct g l yX5_empty cX5_empty 2 (some .int) 0 0 0 [.ref 1] (St F J) (fun r S2 => r = some (.int (F 1 1)) ∧ S2 = St (up2 F 1 1 0) J) := by
  refine Ct.of rfl (by decide) rfl (Nat.le_of_ble_eq_true rfl) ?_
  refine g_aload_n 1 dX5_empty_0 rfl rfl ?_
  refine gf_5_1 4 dX5_empty_1 rfl kf_X5_15 (by first | decide | assumption | exact ⟨Nat.le_of_ble_eq_true rfl, rfl⟩) ?_
  refine g_istore_n 5 dX5_empty_4 rfl (by decide) ?_
  refine g_aload_n 6 dX5_empty_5 rfl rfl ?_
  refine g_iconst (0) 7 dX5_empty_6 rfl (by decide) ?_
  refine gp_5_1 10 dX5_empty_7 rfl kf_X5_15 (by first | decide | assumption | exact ⟨Nat.le_of_ble_eq_true rfl, rfl⟩) ?_
  refine g_iload_n 11 dX5_empty_10 rfl rfl ?_
  refine g_iret dX5_empty_11 ?_
  exact ⟨rfl, rfl⟩

def spl (F : Nat → Nat → Int32) (len a b i : Nat) : Prop := b = a + sx_ln.getD i 0 ∧ ∀ j, j < sx_ln.getD i 0 → at_ F len (a + j) = (sx_by.getD i []).getD j 0

set_option maxRecDepth 100000 in
set_option maxHeartbeats 4000000 in
theorem lp_spells (g : Gl) (l : Launch) (F : Nat → Nat → Int32) (J : Nat → Int64) {len : Nat} (hl : F 1 1 = nI len) (hlen : len ≤ 400) {a b i : Nat} (hab : a ≤ b) (hb : b ≤ 500) (hi : i < 8) (he : b = a + sx_ln.getD i 0) {XX : State → Method → Prop} (n : Nat) : ∀ (j : Nat) (jx : Int32), j + n = sx_ln.getD i 0 → jx = nI j → (∀ q, q < j → at_ F len (a + q) = (sx_by.getD i []).getD q 0) → Gj g l (rmd 4 0 0) XX (QM g (fun r S2 => ((r = some (.int 1) ∧ spl F len a b i) ∨ (r = some (.int 0) ∧ ¬ spl F len a b i)) ∧ S2 = St F J) 0 0) RX5 cX5_spells 5 (some .boolean) 15 [some (.ref 1), some (.int (nI a)), some (.int (nI b)), some (.ref (1000 + i)), some (.int jx)] [] (St F J) 0 0 := by
  have hb8 := sx_all i hi
  induction n with
  | zero =>
    intro j jx hj hx hs
    subst hx
    refine g_iload 17 dX5_spells_15 rfl rfl ?_
    refine g_aload_n 18 dX5_spells_17 rfl rfl ?_
    refine g_callVS (As := []) 21 hi dX5_spells_18 rfl kl_X5_19 rfl mv_J0_length_8abf5 (c_slength g l hi _) ⟨Nat.le_of_ble_eq_true rfl, Nat.le_of_ble_eq_true rfl⟩ (Nat.le_of_ble_eq_true rfl) ?_
    rintro _ _ ⟨rfl, rfl⟩
    refine g_icmp_ge 49 24 dX5_spells_21 rfl (by decide) (fun h21 => ?_) (fun h21 => ?_)
    · refine g_iconst (1) 50 dX5_spells_49 rfl (by decide) ?_
      refine g_zret dX5_spells_50 (by decide) ?_
      exact ⟨Or.inl ⟨rfl, he, fun q hq => hs q (by omega)⟩, rfl⟩
    · exact absurd (nI_le (by omega) (by omega)) h21
  | succ n ih =>
    intro j jx hj hx hs
    subst hx
    refine g_iload 17 dX5_spells_15 rfl rfl ?_
    refine g_aload_n 18 dX5_spells_17 rfl rfl ?_
    refine g_callVS (As := []) 21 hi dX5_spells_18 rfl kl_X5_19 rfl mv_J0_length_8abf5 (c_slength g l hi _) ⟨Nat.le_of_ble_eq_true rfl, Nat.le_of_ble_eq_true rfl⟩ (Nat.le_of_ble_eq_true rfl) ?_
    rintro _ _ ⟨rfl, rfl⟩
    refine g_icmp_ge 49 24 dX5_spells_21 rfl (by decide) (fun h21 => ?_) (fun h21 => ?_)
    · exact absurd h21 (nI_ge (by omega) (by omega))
    · refine g_aload_n 25 dX5_spells_24 rfl rfl ?_
      refine g_iload_n 26 dX5_spells_25 rfl rfl ?_
      refine g_iload 28 dX5_spells_26 rfl rfl ?_
      refine g_iadd 29 dX5_spells_28 rfl ?_
      rw [nI_add]
      refine g_v1 5 32 dX5_spells_29 rfl kl_X5_24 mv_X5_at rfl ⟨Nat.le_of_ble_eq_true rfl, Nat.le_of_ble_eq_true rfl⟩ (Nat.le_of_ble_eq_true rfl) (by first | decide | assumption | exact ⟨Nat.le_of_ble_eq_true rfl, rfl⟩) (c_at g l F J hl hlen (a + j) (by omega)) ?_
      rintro _ _ ⟨rfl, rfl⟩
      refine g_aload_n 33 dX5_spells_32 rfl rfl ?_
      refine g_iload 35 dX5_spells_33 rfl rfl ?_
      refine g_callVS (As := [.int (nI j)]) 38 hi dX5_spells_35 rfl kl_X5_28 rfl mv_J0_charAt_5068e (c_charAt g l hi (by omega) _) ⟨Nat.le_of_ble_eq_true rfl, Nat.le_of_ble_eq_true rfl⟩ (Nat.le_of_ble_eq_true rfl) ?_
      rintro _ _ ⟨rfl, rfl⟩
      refine g_icmp_eq 43 41 dX5_spells_38 rfl (by decide) (fun h38 => ?_) (fun h38 => ?_)
      · refine g_iinc (1) 46 dX5_spells_43 rfl (by decide) (by decide) rfl ?_
        refine g_goto 15 dX5_spells_46 (by decide) ?_
        refine ih (j + 1) _ (by omega) (nI_succ j).symm (fun q hq => ?_)
        rcases Nat.lt_or_ge q j with z | z
        · exact hs q z
        · obtain rfl : q = j := by omega
          exact h38
      · refine g_iconst (0) 42 dX5_spells_41 rfl (by decide) ?_
        refine g_zret dX5_spells_42 (by decide) ?_
        exact ⟨Or.inr ⟨rfl, fun q => h38 (q.2 j (by omega))⟩, rfl⟩

set_option maxRecDepth 100000 in
set_option maxHeartbeats 4000000 in
theorem c_spells (g : Gl) (l : Launch) (F : Nat → Nat → Int32) (J : Nat → Int64) {len : Nat} (hl : F 1 1 = nI len) (hlen : len ≤ 400) {a b i : Nat} (hab : a ≤ b) (hb : b ≤ 500) (hi : i < 8) : Ct g l yX5_spells cX5_spells 5 (some .boolean) 4 0 0 [.ref 1, .int (nI a), .int (nI b), .ref (1000 + i)] (St F J) (fun r S2 => ((r = some (.int 1) ∧ spl F len a b i) ∨ (r = some (.int 0) ∧ ¬ spl F len a b i)) ∧ S2 = St F J) := by
  have hb8 := sx_all i hi
  refine Ct.of rfl (by decide) rfl (Nat.le_of_ble_eq_true rfl) ?_
  refine g_iload_n 1 dX5_spells_0 rfl rfl ?_
  refine g_iload_n 2 dX5_spells_1 rfl rfl ?_
  refine g_isub 3 dX5_spells_2 rfl ?_
  refine g_aload_n 4 dX5_spells_3 rfl rfl ?_
  refine g_callVS (As := []) 7 hi dX5_spells_4 rfl kl_X5_19 rfl mv_J0_length_8abf5 (c_slength g l hi _) ⟨Nat.le_of_ble_eq_true rfl, Nat.le_of_ble_eq_true rfl⟩ (Nat.le_of_ble_eq_true rfl) ?_
  rintro _ _ ⟨rfl, rfl⟩
  rw [pk_sub hab]
  refine g_icmp_eq 12 10 dX5_spells_7 rfl (by decide) (fun h7 => ?_) (fun h7 => ?_)
  · refine g_iconst (0) 13 dX5_spells_12 rfl (by decide) ?_
    refine g_istore 15 dX5_spells_13 rfl (by decide) ?_
    exact lp_spells g l F J hl hlen hab hb hi (by have := (nI_eq (a := b - a) (b := sx_ln.getD i 0) (by omega) (by omega)).mp h7; omega) _ 0 _ (Nat.zero_add _) rfl (fun q hq => absurd hq (Nat.not_lt_zero q))
  · refine g_iconst (0) 11 dX5_spells_10 rfl (by decide) ?_
    refine g_zret dX5_spells_11 (by decide) ?_
    exact ⟨Or.inr ⟨rfl, fun q => h7 (by rw [q.1, Nat.add_sub_cancel_left])⟩, rfl⟩
end
