section
-- ===== PART A: goes FIRST, ahead of the names: the tables' words, and 'selects' of the private methods out of them =====
/-- a private method of a class that the tables say can be made, by its rows of tables_1 -/
def lw_okq (q : MethodName × Nat) : Prop := (q.1.cls ≠ "java/lang/invoke/MethodHandle" ∧ q.1.cls ≠ "java/lang/invoke/VarHandle") ∧ Cond.instantiable q.1.cls q.2 ∈ tables_1 ∧ Cond.privateMethod q.1 ∈ tables_1 ∧ Cond.instanceMethod q.1 ∈ tables_1
theorem lw_p0 : lw_okq (⟨"java/lang/Throwable", "fillInStackTrace", "(I)Ljava/lang/Throwable;"⟩, 6) := ⟨⟨by decide +kernel, by decide +kernel⟩, List.mem_of_getElem? (i := 334) (by decide +kernel), List.mem_of_getElem? (i := 332) (by decide +kernel), List.mem_of_getElem? (i := 333) (by decide +kernel)⟩
theorem lw_p1 : lw_okq (⟨"GuardedGrammar", "needRoom", "()V"⟩, 7) := ⟨⟨by decide +kernel, by decide +kernel⟩, List.mem_of_getElem? (i := 21) (by decide +kernel), List.mem_of_getElem? (i := 359) (by decide +kernel), List.mem_of_getElem? (i := 360) (by decide +kernel)⟩
theorem lw_p2 : lw_okq (⟨"GuardedGrammar$Terms", "makePart", "(II)V"⟩, 7) := ⟨⟨by decide +kernel, by decide +kernel⟩, List.mem_of_getElem? (i := 29) (by decide +kernel), List.mem_of_getElem? (i := 393) (by decide +kernel), List.mem_of_getElem? (i := 394) (by decide +kernel)⟩
theorem lw_p3 : lw_okq (⟨"GuardedGrammar", "needVariable", "(I)V"⟩, 7) := ⟨⟨by decide +kernel, by decide +kernel⟩, List.mem_of_getElem? (i := 21) (by decide +kernel), List.mem_of_getElem? (i := 404) (by decide +kernel), List.mem_of_getElem? (i := 405) (by decide +kernel)⟩
theorem lw_p4 : lw_okq (⟨"GuardedGrammar", "needTerm", "(I)V"⟩, 7) := ⟨⟨by decide +kernel, by decide +kernel⟩, List.mem_of_getElem? (i := 21) (by decide +kernel), List.mem_of_getElem? (i := 417) (by decide +kernel), List.mem_of_getElem? (i := 418) (by decide +kernel)⟩
theorem lw_p5 : lw_okq (⟨"GuardedGrammar$Typing", "lineUp", "(I)V"⟩, 9) := ⟨⟨by decide +kernel, by decide +kernel⟩, List.mem_of_getElem? (i := 58) (by decide +kernel), List.mem_of_getElem? (i := 478) (by decide +kernel), List.mem_of_getElem? (i := 479) (by decide +kernel)⟩
theorem lw_p6 : lw_okq (⟨"GuardedGrammar$Typing", "bind", "(II)V"⟩, 9) := ⟨⟨by decide +kernel, by decide +kernel⟩, List.mem_of_getElem? (i := 58) (by decide +kernel), List.mem_of_getElem? (i := 490) (by decide +kernel), List.mem_of_getElem? (i := 491) (by decide +kernel)⟩
theorem lw_p7 : lw_okq (⟨"GuardedGrammar$Typing", "inferTypes", "()V"⟩, 9) := ⟨⟨by decide +kernel, by decide +kernel⟩, List.mem_of_getElem? (i := 58) (by decide +kernel), List.mem_of_getElem? (i := 506) (by decide +kernel), List.mem_of_getElem? (i := 507) (by decide +kernel)⟩
theorem lw_p8 : lw_okq (⟨"GuardedGrammar$Typing", "widen", "(I)Z"⟩, 9) := ⟨⟨by decide +kernel, by decide +kernel⟩, List.mem_of_getElem? (i := 58) (by decide +kernel), List.mem_of_getElem? (i := 510) (by decide +kernel), List.mem_of_getElem? (i := 511) (by decide +kernel)⟩
theorem lw_p9 : lw_okq (⟨"GuardedGrammar$Typing", "addToType", "(IZII)Z"⟩, 9) := ⟨⟨by decide +kernel, by decide +kernel⟩, List.mem_of_getElem? (i := 58) (by decide +kernel), List.mem_of_getElem? (i := 514) (by decide +kernel), List.mem_of_getElem? (i := 515) (by decide +kernel)⟩
theorem lw_p10 : lw_okq (⟨"GuardedGrammar$Typing", "widenPair", "(III)Z"⟩, 9) := ⟨⟨by decide +kernel, by decide +kernel⟩, List.mem_of_getElem? (i := 58) (by decide +kernel), List.mem_of_getElem? (i := 518) (by decide +kernel), List.mem_of_getElem? (i := 519) (by decide +kernel)⟩
theorem lw_p11 : lw_okq (⟨"GuardedGrammar$Typing", "addTypeOf", "(II)Z"⟩, 9) := ⟨⟨by decide +kernel, by decide +kernel⟩, List.mem_of_getElem? (i := 58) (by decide +kernel), List.mem_of_getElem? (i := 522) (by decide +kernel), List.mem_of_getElem? (i := 523) (by decide +kernel)⟩
theorem lw_p12 : lw_okq (⟨"GuardedGrammar$Typing", "faultAt", "(I)I"⟩, 9) := ⟨⟨by decide +kernel, by decide +kernel⟩, List.mem_of_getElem? (i := 58) (by decide +kernel), List.mem_of_getElem? (i := 530) (by decide +kernel), List.mem_of_getElem? (i := 531) (by decide +kernel)⟩
theorem lw_p13 : lw_okq (⟨"GuardedGrammar$Typing", "isLoose", "(II)Z"⟩, 9) := ⟨⟨by decide +kernel, by decide +kernel⟩, List.mem_of_getElem? (i := 58) (by decide +kernel), List.mem_of_getElem? (i := 534) (by decide +kernel), List.mem_of_getElem? (i := 535) (by decide +kernel)⟩
theorem lw_p14 : lw_okq (⟨"GuardedGrammar$Typing", "isDouble", "(II)Z"⟩, 9) := ⟨⟨by decide +kernel, by decide +kernel⟩, List.mem_of_getElem? (i := 58) (by decide +kernel), List.mem_of_getElem? (i := 538) (by decide +kernel), List.mem_of_getElem? (i := 539) (by decide +kernel)⟩
theorem lw_p15 : lw_okq (⟨"GuardedGrammar", "needTyped", "(I)V"⟩, 7) := ⟨⟨by decide +kernel, by decide +kernel⟩, List.mem_of_getElem? (i := 21) (by decide +kernel), List.mem_of_getElem? (i := 549) (by decide +kernel), List.mem_of_getElem? (i := 550) (by decide +kernel)⟩
def lw_privs_1 : List (MethodName × Nat) := [(⟨"java/lang/Throwable", "fillInStackTrace", "(I)Ljava/lang/Throwable;"⟩, 6), (⟨"GuardedGrammar", "needRoom", "()V"⟩, 7), (⟨"GuardedGrammar$Terms", "makePart", "(II)V"⟩, 7), (⟨"GuardedGrammar", "needVariable", "(I)V"⟩, 7), (⟨"GuardedGrammar", "needTerm", "(I)V"⟩, 7), (⟨"GuardedGrammar$Typing", "lineUp", "(I)V"⟩, 9), (⟨"GuardedGrammar$Typing", "bind", "(II)V"⟩, 9), (⟨"GuardedGrammar$Typing", "inferTypes", "()V"⟩, 9), (⟨"GuardedGrammar$Typing", "widen", "(I)Z"⟩, 9), (⟨"GuardedGrammar$Typing", "addToType", "(IZII)Z"⟩, 9), (⟨"GuardedGrammar$Typing", "widenPair", "(III)Z"⟩, 9), (⟨"GuardedGrammar$Typing", "addTypeOf", "(II)Z"⟩, 9), (⟨"GuardedGrammar$Typing", "faultAt", "(I)I"⟩, 9), (⟨"GuardedGrammar$Typing", "isLoose", "(II)Z"⟩, 9), (⟨"GuardedGrammar$Typing", "isDouble", "(II)Z"⟩, 9), (⟨"GuardedGrammar", "needTyped", "(I)V"⟩, 7)]
theorem lw_r1 : ∀ q ∈ lw_privs_1, lw_okq q := List.forall_mem_cons.mpr ⟨lw_p0, List.forall_mem_cons.mpr ⟨lw_p1, List.forall_mem_cons.mpr ⟨lw_p2, List.forall_mem_cons.mpr ⟨lw_p3, List.forall_mem_cons.mpr ⟨lw_p4, List.forall_mem_cons.mpr ⟨lw_p5, List.forall_mem_cons.mpr ⟨lw_p6, List.forall_mem_cons.mpr ⟨lw_p7, List.forall_mem_cons.mpr ⟨lw_p8, List.forall_mem_cons.mpr ⟨lw_p9, List.forall_mem_cons.mpr ⟨lw_p10, List.forall_mem_cons.mpr ⟨lw_p11, List.forall_mem_cons.mpr ⟨lw_p12, List.forall_mem_cons.mpr ⟨lw_p13, List.forall_mem_cons.mpr ⟨lw_p14, List.forall_mem_cons.mpr ⟨lw_p15, fun _ h => absurd h List.not_mem_nil⟩⟩⟩⟩⟩⟩⟩⟩⟩⟩⟩⟩⟩⟩⟩⟩
theorem lw_p16 : lw_okq (⟨"GuardedGrammar$Reader", "await", "(I)V"⟩, 8) := ⟨⟨by decide +kernel, by decide +kernel⟩, List.mem_of_getElem? (i := 106) (by decide +kernel), List.mem_of_getElem? (i := 591) (by decide +kernel), List.mem_of_getElem? (i := 592) (by decide +kernel)⟩
theorem lw_p17 : lw_okq (⟨"GuardedGrammar$Reader", "visit", "(ILGuardedGrammar$Word;)Z"⟩, 8) := ⟨⟨by decide +kernel, by decide +kernel⟩, List.mem_of_getElem? (i := 106) (by decide +kernel), List.mem_of_getElem? (i := 596) (by decide +kernel), List.mem_of_getElem? (i := 597) (by decide +kernel)⟩
theorem lw_p18 : lw_okq (⟨"GuardedGrammar$Reader", "readLetter", "(ILGuardedGrammar$Word;)Z"⟩, 8) := ⟨⟨by decide +kernel, by decide +kernel⟩, List.mem_of_getElem? (i := 106) (by decide +kernel), List.mem_of_getElem? (i := 602) (by decide +kernel), List.mem_of_getElem? (i := 603) (by decide +kernel)⟩
theorem lw_p19 : lw_okq (⟨"GuardedGrammar$Reader", "choose", "(ILGuardedGrammar$Word;)Z"⟩, 8) := ⟨⟨by decide +kernel, by decide +kernel⟩, List.mem_of_getElem? (i := 106) (by decide +kernel), List.mem_of_getElem? (i := 610) (by decide +kernel), List.mem_of_getElem? (i := 611) (by decide +kernel)⟩
theorem lw_p20 : lw_okq (⟨"GuardedGrammar", "countTo", "(II)V"⟩, 7) := ⟨⟨by decide +kernel, by decide +kernel⟩, List.mem_of_getElem? (i := 21) (by decide +kernel), List.mem_of_getElem? (i := 657) (by decide +kernel), List.mem_of_getElem? (i := 658) (by decide +kernel)⟩
theorem lw_p21 : lw_okq (⟨"GuardedGrammar$Tally", "countLength", "(I)V"⟩, 3) := ⟨⟨by decide +kernel, by decide +kernel⟩, List.mem_of_getElem? (i := 151) (by decide +kernel), List.mem_of_getElem? (i := 665) (by decide +kernel), List.mem_of_getElem? (i := 666) (by decide +kernel)⟩
theorem lw_p22 : lw_okq (⟨"GuardedGrammar$Tally", "wordsByParts", "(II)J"⟩, 3) := ⟨⟨by decide +kernel, by decide +kernel⟩, List.mem_of_getElem? (i := 151) (by decide +kernel), List.mem_of_getElem? (i := 677) (by decide +kernel), List.mem_of_getElem? (i := 678) (by decide +kernel)⟩
theorem lw_p23 : lw_okq (⟨"GuardedGrammar$Tally", "wordsOfPair", "(III)J"⟩, 3) := ⟨⟨by decide +kernel, by decide +kernel⟩, List.mem_of_getElem? (i := 151) (by decide +kernel), List.mem_of_getElem? (i := 684) (by decide +kernel), List.mem_of_getElem? (i := 685) (by decide +kernel)⟩
theorem lw_p24 : lw_okq (⟨"GuardedGrammar$Speller", "startPile", "(II)V"⟩, 9) := ⟨⟨by decide +kernel, by decide +kernel⟩, List.mem_of_getElem? (i := 169) (by decide +kernel), List.mem_of_getElem? (i := 721) (by decide +kernel), List.mem_of_getElem? (i := 722) (by decide +kernel)⟩
theorem lw_p25 : lw_okq (⟨"GuardedGrammar$Speller", "pileUp", "(II)V"⟩, 9) := ⟨⟨by decide +kernel, by decide +kernel⟩, List.mem_of_getElem? (i := 169) (by decide +kernel), List.mem_of_getElem? (i := 725) (by decide +kernel), List.mem_of_getElem? (i := 726) (by decide +kernel)⟩
theorem lw_p26 : lw_okq (⟨"GuardedGrammar$Speller", "spellNext", "(IJLGuardedGrammar$Word;)J"⟩, 9) := ⟨⟨by decide +kernel, by decide +kernel⟩, List.mem_of_getElem? (i := 169) (by decide +kernel), List.mem_of_getElem? (i := 736) (by decide +kernel), List.mem_of_getElem? (i := 737) (by decide +kernel)⟩
theorem lw_p27 : lw_okq (⟨"GuardedGrammar$Speller", "readerOf", "(I)I"⟩, 9) := ⟨⟨by decide +kernel, by decide +kernel⟩, List.mem_of_getElem? (i := 169) (by decide +kernel), List.mem_of_getElem? (i := 740) (by decide +kernel), List.mem_of_getElem? (i := 741) (by decide +kernel)⟩
theorem lw_p28 : lw_okq (⟨"GuardedGrammar$Speller", "goDown", "(II)V"⟩, 9) := ⟨⟨by decide +kernel, by decide +kernel⟩, List.mem_of_getElem? (i := 169) (by decide +kernel), List.mem_of_getElem? (i := 746) (by decide +kernel), List.mem_of_getElem? (i := 747) (by decide +kernel)⟩
theorem lw_p29 : lw_okq (⟨"GuardedGrammar$Speller", "below", "(II)I"⟩, 9) := ⟨⟨by decide +kernel, by decide +kernel⟩, List.mem_of_getElem? (i := 169) (by decide +kernel), List.mem_of_getElem? (i := 752) (by decide +kernel), List.mem_of_getElem? (i := 753) (by decide +kernel)⟩
theorem lw_p30 : lw_okq (⟨"GuardedGrammar$Speller", "wordsAhead", "(II)J"⟩, 9) := ⟨⟨by decide +kernel, by decide +kernel⟩, List.mem_of_getElem? (i := 169) (by decide +kernel), List.mem_of_getElem? (i := 759) (by decide +kernel), List.mem_of_getElem? (i := 760) (by decide +kernel)⟩
theorem lw_p31 : lw_okq (⟨"GuardedGrammar$Speller", "takeFresh", "(II)V"⟩, 9) := ⟨⟨by decide +kernel, by decide +kernel⟩, List.mem_of_getElem? (i := 169) (by decide +kernel), List.mem_of_getElem? (i := 763) (by decide +kernel), List.mem_of_getElem? (i := 764) (by decide +kernel)⟩
def lw_privs_2 : List (MethodName × Nat) := [(⟨"GuardedGrammar$Reader", "await", "(I)V"⟩, 8), (⟨"GuardedGrammar$Reader", "visit", "(ILGuardedGrammar$Word;)Z"⟩, 8), (⟨"GuardedGrammar$Reader", "readLetter", "(ILGuardedGrammar$Word;)Z"⟩, 8), (⟨"GuardedGrammar$Reader", "choose", "(ILGuardedGrammar$Word;)Z"⟩, 8), (⟨"GuardedGrammar", "countTo", "(II)V"⟩, 7), (⟨"GuardedGrammar$Tally", "countLength", "(I)V"⟩, 3), (⟨"GuardedGrammar$Tally", "wordsByParts", "(II)J"⟩, 3), (⟨"GuardedGrammar$Tally", "wordsOfPair", "(III)J"⟩, 3), (⟨"GuardedGrammar$Speller", "startPile", "(II)V"⟩, 9), (⟨"GuardedGrammar$Speller", "pileUp", "(II)V"⟩, 9), (⟨"GuardedGrammar$Speller", "spellNext", "(IJLGuardedGrammar$Word;)J"⟩, 9), (⟨"GuardedGrammar$Speller", "readerOf", "(I)I"⟩, 9), (⟨"GuardedGrammar$Speller", "goDown", "(II)V"⟩, 9), (⟨"GuardedGrammar$Speller", "below", "(II)I"⟩, 9), (⟨"GuardedGrammar$Speller", "wordsAhead", "(II)J"⟩, 9), (⟨"GuardedGrammar$Speller", "takeFresh", "(II)V"⟩, 9)]
theorem lw_r2 : ∀ q ∈ lw_privs_2, lw_okq q := List.forall_mem_cons.mpr ⟨lw_p16, List.forall_mem_cons.mpr ⟨lw_p17, List.forall_mem_cons.mpr ⟨lw_p18, List.forall_mem_cons.mpr ⟨lw_p19, List.forall_mem_cons.mpr ⟨lw_p20, List.forall_mem_cons.mpr ⟨lw_p21, List.forall_mem_cons.mpr ⟨lw_p22, List.forall_mem_cons.mpr ⟨lw_p23, List.forall_mem_cons.mpr ⟨lw_p24, List.forall_mem_cons.mpr ⟨lw_p25, List.forall_mem_cons.mpr ⟨lw_p26, List.forall_mem_cons.mpr ⟨lw_p27, List.forall_mem_cons.mpr ⟨lw_p28, List.forall_mem_cons.mpr ⟨lw_p29, List.forall_mem_cons.mpr ⟨lw_p30, List.forall_mem_cons.mpr ⟨lw_p31, fun _ h => absurd h List.not_mem_nil⟩⟩⟩⟩⟩⟩⟩⟩⟩⟩⟩⟩⟩⟩⟩⟩
theorem lw_p32 : lw_okq (⟨"GuardedGrammarModel", "add", "(IIII)I"⟩, 28) := ⟨⟨by decide +kernel, by decide +kernel⟩, List.mem_of_getElem? (i := 768) (by decide +kernel), List.mem_of_getElem? (i := 867) (by decide +kernel), List.mem_of_getElem? (i := 868) (by decide +kernel)⟩
theorem lw_p33 : lw_okq (⟨"GuardedGrammarModel", "isTerm", "(I)Z"⟩, 28) := ⟨⟨by decide +kernel, by decide +kernel⟩, List.mem_of_getElem? (i := 768) (by decide +kernel), List.mem_of_getElem? (i := 879) (by decide +kernel), List.mem_of_getElem? (i := 880) (by decide +kernel)⟩
theorem lw_p34 : lw_okq (⟨"GuardedGrammarModel", "isPart", "(I)Z"⟩, 28) := ⟨⟨by decide +kernel, by decide +kernel⟩, List.mem_of_getElem? (i := 768) (by decide +kernel), List.mem_of_getElem? (i := 883) (by decide +kernel), List.mem_of_getElem? (i := 884) (by decide +kernel)⟩
theorem lw_p35 : lw_okq (⟨"GuardedGrammarModel", "faultOf", "(I)I"⟩, 28) := ⟨⟨by decide +kernel, by decide +kernel⟩, List.mem_of_getElem? (i := 768) (by decide +kernel), List.mem_of_getElem? (i := 903) (by decide +kernel), List.mem_of_getElem? (i := 904) (by decide +kernel)⟩
theorem lw_p36 : lw_okq (⟨"GuardedGrammarModel", "typeAll", "(I)V"⟩, 28) := ⟨⟨by decide +kernel, by decide +kernel⟩, List.mem_of_getElem? (i := 768) (by decide +kernel), List.mem_of_getElem? (i := 907) (by decide +kernel), List.mem_of_getElem? (i := 908) (by decide +kernel)⟩
theorem lw_p37 : lw_okq (⟨"GuardedGrammarModel", "gather", "(I)V"⟩, 28) := ⟨⟨by decide +kernel, by decide +kernel⟩, List.mem_of_getElem? (i := 768) (by decide +kernel), List.mem_of_getElem? (i := 911) (by decide +kernel), List.mem_of_getElem? (i := 912) (by decide +kernel)⟩
theorem lw_p38 : lw_okq (⟨"GuardedGrammarModel", "grow", "(I)Z"⟩, 28) := ⟨⟨by decide +kernel, by decide +kernel⟩, List.mem_of_getElem? (i := 768) (by decide +kernel), List.mem_of_getElem? (i := 915) (by decide +kernel), List.mem_of_getElem? (i := 916) (by decide +kernel)⟩
theorem lw_p39 : lw_okq (⟨"GuardedGrammarModel", "leftmost", "(I)I"⟩, 28) := ⟨⟨by decide +kernel, by decide +kernel⟩, List.mem_of_getElem? (i := 768) (by decide +kernel), List.mem_of_getElem? (i := 919) (by decide +kernel), List.mem_of_getElem? (i := 920) (by decide +kernel)⟩
theorem lw_p40 : lw_okq (⟨"GuardedGrammarModel", "faultAt", "(I)I"⟩, 28) := ⟨⟨by decide +kernel, by decide +kernel⟩, List.mem_of_getElem? (i := 768) (by decide +kernel), List.mem_of_getElem? (i := 923) (by decide +kernel), List.mem_of_getElem? (i := 924) (by decide +kernel)⟩
theorem lw_p41 : lw_okq (⟨"GuardedGrammarModel", "isGuarded", "(I)Z"⟩, 28) := ⟨⟨by decide +kernel, by decide +kernel⟩, List.mem_of_getElem? (i := 768) (by decide +kernel), List.mem_of_getElem? (i := 927) (by decide +kernel), List.mem_of_getElem? (i := 928) (by decide +kernel)⟩
theorem lw_p42 : lw_okq (⟨"GuardedGrammarModel", "beginAt", "(I)V"⟩, 28) := ⟨⟨by decide +kernel, by decide +kernel⟩, List.mem_of_getElem? (i := 768) (by decide +kernel), List.mem_of_getElem? (i := 955) (by decide +kernel), List.mem_of_getElem? (i := 956) (by decide +kernel)⟩
theorem lw_p43 : lw_okq (⟨"GuardedGrammarModel", "go", "(I)I"⟩, 28) := ⟨⟨by decide +kernel, by decide +kernel⟩, List.mem_of_getElem? (i := 768) (by decide +kernel), List.mem_of_getElem? (i := 959) (by decide +kernel), List.mem_of_getElem? (i := 960) (by decide +kernel)⟩
theorem lw_p44 : lw_okq (⟨"GuardedGrammarModel", "choice", "(II)I"⟩, 28) := ⟨⟨by decide +kernel, by decide +kernel⟩, List.mem_of_getElem? (i := 768) (by decide +kernel), List.mem_of_getElem? (i := 963) (by decide +kernel), List.mem_of_getElem? (i := 964) (by decide +kernel)⟩
theorem lw_p45 : lw_okq (⟨"GuardedGrammarModel", "fail", "(I)I"⟩, 28) := ⟨⟨by decide +kernel, by decide +kernel⟩, List.mem_of_getElem? (i := 768) (by decide +kernel), List.mem_of_getElem? (i := 967) (by decide +kernel), List.mem_of_getElem? (i := 968) (by decide +kernel)⟩
theorem lw_p46 : lw_okq (⟨"GuardedGrammarModel", "wrongCount", "(II)I"⟩, 28) := ⟨⟨by decide +kernel, by decide +kernel⟩, List.mem_of_getElem? (i := 768) (by decide +kernel), List.mem_of_getElem? (i := 987) (by decide +kernel), List.mem_of_getElem? (i := 988) (by decide +kernel)⟩
theorem lw_p47 : lw_okq (⟨"GuardedGrammarModel", "countAll", "(I)V"⟩, 28) := ⟨⟨by decide +kernel, by decide +kernel⟩, List.mem_of_getElem? (i := 768) (by decide +kernel), List.mem_of_getElem? (i := 991) (by decide +kernel), List.mem_of_getElem? (i := 992) (by decide +kernel)⟩
def lw_privs_3 : List (MethodName × Nat) := [(⟨"GuardedGrammarModel", "add", "(IIII)I"⟩, 28), (⟨"GuardedGrammarModel", "isTerm", "(I)Z"⟩, 28), (⟨"GuardedGrammarModel", "isPart", "(I)Z"⟩, 28), (⟨"GuardedGrammarModel", "faultOf", "(I)I"⟩, 28), (⟨"GuardedGrammarModel", "typeAll", "(I)V"⟩, 28), (⟨"GuardedGrammarModel", "gather", "(I)V"⟩, 28), (⟨"GuardedGrammarModel", "grow", "(I)Z"⟩, 28), (⟨"GuardedGrammarModel", "leftmost", "(I)I"⟩, 28), (⟨"GuardedGrammarModel", "faultAt", "(I)I"⟩, 28), (⟨"GuardedGrammarModel", "isGuarded", "(I)Z"⟩, 28), (⟨"GuardedGrammarModel", "beginAt", "(I)V"⟩, 28), (⟨"GuardedGrammarModel", "go", "(I)I"⟩, 28), (⟨"GuardedGrammarModel", "choice", "(II)I"⟩, 28), (⟨"GuardedGrammarModel", "fail", "(I)I"⟩, 28), (⟨"GuardedGrammarModel", "wrongCount", "(II)I"⟩, 28), (⟨"GuardedGrammarModel", "countAll", "(I)V"⟩, 28)]
theorem lw_r3 : ∀ q ∈ lw_privs_3, lw_okq q := List.forall_mem_cons.mpr ⟨lw_p32, List.forall_mem_cons.mpr ⟨lw_p33, List.forall_mem_cons.mpr ⟨lw_p34, List.forall_mem_cons.mpr ⟨lw_p35, List.forall_mem_cons.mpr ⟨lw_p36, List.forall_mem_cons.mpr ⟨lw_p37, List.forall_mem_cons.mpr ⟨lw_p38, List.forall_mem_cons.mpr ⟨lw_p39, List.forall_mem_cons.mpr ⟨lw_p40, List.forall_mem_cons.mpr ⟨lw_p41, List.forall_mem_cons.mpr ⟨lw_p42, List.forall_mem_cons.mpr ⟨lw_p43, List.forall_mem_cons.mpr ⟨lw_p44, List.forall_mem_cons.mpr ⟨lw_p45, List.forall_mem_cons.mpr ⟨lw_p46, List.forall_mem_cons.mpr ⟨lw_p47, fun _ h => absurd h List.not_mem_nil⟩⟩⟩⟩⟩⟩⟩⟩⟩⟩⟩⟩⟩⟩⟩⟩
theorem lw_p48 : lw_okq (⟨"GuardedGrammarModel", "countAt", "(II)J"⟩, 28) := ⟨⟨by decide +kernel, by decide +kernel⟩, List.mem_of_getElem? (i := 768) (by decide +kernel), List.mem_of_getElem? (i := 995) (by decide +kernel), List.mem_of_getElem? (i := 996) (by decide +kernel)⟩
theorem lw_p49 : lw_okq (⟨"GuardedGrammarModel", "keep", "()V"⟩, 28) := ⟨⟨by decide +kernel, by decide +kernel⟩, List.mem_of_getElem? (i := 768) (by decide +kernel), List.mem_of_getElem? (i := 1003) (by decide +kernel), List.mem_of_getElem? (i := 1004) (by decide +kernel)⟩
theorem lw_p50 : lw_okq (⟨"GuardedGrammarModel", "countOpen", "(I)J"⟩, 28) := ⟨⟨by decide +kernel, by decide +kernel⟩, List.mem_of_getElem? (i := 768) (by decide +kernel), List.mem_of_getElem? (i := 1007) (by decide +kernel), List.mem_of_getElem? (i := 1008) (by decide +kernel)⟩
theorem lw_p51 : lw_okq (⟨"GuardedGrammarModel", "back", "()V"⟩, 28) := ⟨⟨by decide +kernel, by decide +kernel⟩, List.mem_of_getElem? (i := 768) (by decide +kernel), List.mem_of_getElem? (i := 1011) (by decide +kernel), List.mem_of_getElem? (i := 1012) (by decide +kernel)⟩
def lw_privs_4 : List (MethodName × Nat) := [(⟨"GuardedGrammarModel", "countAt", "(II)J"⟩, 28), (⟨"GuardedGrammarModel", "keep", "()V"⟩, 28), (⟨"GuardedGrammarModel", "countOpen", "(I)J"⟩, 28), (⟨"GuardedGrammarModel", "back", "()V"⟩, 28)]
theorem lw_r4 : ∀ q ∈ lw_privs_4, lw_okq q := List.forall_mem_cons.mpr ⟨lw_p48, List.forall_mem_cons.mpr ⟨lw_p49, List.forall_mem_cons.mpr ⟨lw_p50, List.forall_mem_cons.mpr ⟨lw_p51, fun _ h => absurd h List.not_mem_nil⟩⟩⟩⟩
def lw_privs : List (MethodName × Nat) := lw_privs_1 ++ (lw_privs_2 ++ (lw_privs_3 ++ (lw_privs_4)))
def lw_tbl : List Cond := k2_sels lw_privs ++ tables_1
theorem lw_privs_ok : ∀ q ∈ lw_privs, lw_okq q := by
  show ∀ q ∈ lw_privs_1 ++ (lw_privs_2 ++ (lw_privs_3 ++ (lw_privs_4))), lw_okq q
  exact List.forall_mem_append.mpr ⟨lw_r1, List.forall_mem_append.mpr ⟨lw_r2, List.forall_mem_append.mpr ⟨lw_r3, lw_r4⟩⟩⟩
-- ===== end of PART A; then your names; then what follows =====
end
section
/-! ===== BEGIN words of one list among another's, by their places ===== -/
theorem goodIn_r {big : List Cond} (ws : List Cond) (ps : List Nat) (hp : ws = ps.filterMap (fun i => big[i]?)) (h : ws.all goodWord = true) : GoodIn big ws := by
  intro w hw
  have h1 := List.all_eq_true.mp h w hw
  rw [hp] at hw
  obtain ⟨i, -, hi⟩ := List.mem_filterMap.mp hw
  have hm : w ∈ big := by first | exact List.mem_of_getElem? hi | exact List.getElem?_mem hi
  exact ⟨hm, good_of_word h1⟩
theorem goodIn_app {big a b : List Cond} (ha : GoodIn big a) (hb : GoodIn big b) : GoodIn big (a ++ b) := fun w h => (List.mem_append.mp h).elim (ha w) (hb w)
theorem goodIn_ca {big a b : List Cond} {c : Cond} (ha : GoodIn big (c :: a)) (hb : GoodIn big b) : GoodIn big (c :: (a ++ b)) := fun w h => (List.mem_cons.mp h).elim (fun e => ha w (List.mem_cons.mpr (Or.inl e))) (fun h => (List.mem_append.mp h).elim (fun h => ha w (List.mem_cons.mpr (Or.inr h))) (hb w))
theorem goodIn_sub {big ws : List Cond} (hm : ∀ w ∈ ws, w ∈ big) (h : ws.all goodWord = true) : GoodIn big ws := fun w hw => ⟨hm w hw, good_of_word (List.all_eq_true.mp h w hw)⟩
/-! ===== END ===== -/

/-- the table's word of arrays of arrays (not in the kit that this claim names) -/
def va_AOA (ty : FieldType) (U : State) : Prop := (Cond.arrayOver (.array ty)).before #[] U = true
theorem va_AOA.use {ty : FieldType} {A : Array Value} {U : State} (h : va_AOA ty U) : (Cond.arrayOver (.array ty)).before A U = true := h
theorem va_AOA.of {ty : FieldType} {A : Array Value} {U : State} (h : (Cond.arrayOver (.array ty)).before A U = true) : va_AOA ty U := h
/-! ===== BEGIN new T[n][m]: the outer array a place, the inner ones among the pooled ===== -/
/-- f, but v at every address of l -/
def vr_up {α : Type} (f : Nat → α) (l : List Nat) (v : α) : Nat → α := fun a => if a ∈ l then v else f a
theorem vr_up_in {α : Type} {f : Nat → α} {l : List Nat} {v : α} {a : Nat} (h : a ∈ l) : vr_up f l v a = v := if_pos h
theorem vr_up_ne {α : Type} {f : Nat → α} {l : List Nat} {v : α} {a : Nat} (h : a ∉ l) : vr_up f l v a = f a := if_neg h
theorem vr_rows {L l : List Nat} {f : Nat → va_E} {e : va_E} (h : ∀ a, a ∈ l → a ∉ L) : va_pl L f ++ l.map (fun a => (a, e)) = va_pl (L ++ l) (vr_up f l e) := by
  unfold va_pl
  rw [List.map_append]
  congr 1
  · apply List.map_congr_left
    intro a ha
    rw [vr_up_ne (fun q => h a q ha)]
  · apply List.map_congr_left
    intro a ha
    rw [vr_up_in ha]
theorem vr_lay {X rows : va_W} {x : Nat × va_E} {pl : va_W} {D : va_G} {cl : List vw_C} {H : Heap} (hP : va_P D cl (((X ++ pl) ++ [x]) ++ rows) H) : va_P D cl ((X ++ [x]) ++ (pl ++ rows)) H := by
  rw [List.append_assoc (X ++ pl)] at hP
  have h := va_P.swap hP
  rw [← List.append_assoc X] at h
  have h2 := va_P.swap h
  rw [List.append_assoc (X ++ [x])] at h2
  exact h2
theorem vr_layD {X rows : va_W} {x : Nat × va_E} {pl : va_W} {A : Nat → Prop} (hD : va_D A (((X ++ pl) ++ [x]) ++ rows)) : va_D A ((X ++ [x]) ++ (pl ++ rows)) := by
  rw [List.append_assoc (X ++ pl)] at hD
  have h := va_D.swap hD
  rw [← List.append_assoc X] at h
  have h2 := va_D.swap h
  rw [List.append_assoc (X ++ [x])] at h2
  exact h2
theorem vr_outer (c : ClassId) (N h0 : Nat) : ∀ i : Nat, Jvm.Free.Multi.outerC c N h0 i = arrV c N (fun j => va_rf (if j < i then some (h0 + 1 + j) else none))
  | 0 => by
    show ({ cls := c, slots := Array.replicate N .null, vm := .none } : Cell) = _
    rw [arrV_new]
    refine congrArg (arrV c N) (funext fun j => ?_)
    simp [va_rf]
  | i + 1 => by
    show (Jvm.Free.Multi.outerC c N h0 i).setSlot i (.ref (h0 + 1 + i)) = _
    rw [vr_outer c N h0 i, arrV_store]
    refine congrArg (arrV c N) (funext fun j => ?_)
    by_cases e : j = i
    · subst e
      simp [updV, va_rf]
    · by_cases h : j < i
      · simp [updV, e, h, Nat.lt_succ_of_lt h]
      · simp [updV, e, h, show ¬ j < i + 1 by omega]
section VGM
variable {p : Program} {l : Launch} {e : Env} {R : Room} {s : State} {m : MethodId} {args : Array Value} {below : List Frame} {meth : Method} {c : Code} {H : Heap} {locs : List Loc} {cells slots : Nat} {Q : State → Prop}
variable {cc : ByteArray} {pc : Nat} {ls : Array Slot} {rest : List Value} {D : va_G} {cl : List vw_C} {A : Nat → Prop} {a : Nat} {tys : List (ClassId × FieldType)} {ws : va_W} {H0 : Heap}
theorem va_mna {X : va_W} {L : List Nat} {f : Nat → va_E} {cc : ByteArray} (hexec : p.tables.exec = Jvm.exec) (hb : c.code = cc) {own : String} {index : Nat} {ty : FieldType} {cy : ClassId} (hown : s.vm.findClass own = some m.cls) (hclink : (Cond.classLink own index ("[" ++ (FieldType.array ty).toString)).before args s = true) (hover : va_AOA ty s) (harr : (Cond.arrayClass ty).before args s = true) (hcy : s.vm.findClass (FieldType.array ty).toString = some cy)
    (hK : va_K D cl tys s) (hP : va_P D cl (X ++ va_pl L f) H) (hD : va_D A (X ++ va_pl L f)) (hS : va_S A H0 H locs) (hA : ∀ q, H0.size ≤ q → A q) {n k : Int32} {N' K' : Nat} {z : vp_A} (hn : ¬ n < 0) (hk : ¬ k < 0) (hN : n.toNatClampNeg = N') (hM : k.toNatClampNeg = K')
    (hb1 : N' * 4 ≤ 536870912) (hb2 : K' * componentBytes ty ≤ 536870912) (hb3 : K' ≤ 536870912) (hdf : fits ty (defaultValue ty) = true) (hdd : (defaultValue ty).isDefault = true) (hcells : cells + (1 + N') ≤ R.cells) (hslots : slots + (N' + N' * K') ≤ R.slots) (hz : ∀ c : ClassId, Jvm.Free.Multi.innerC c K' (defaultValue ty) = vp_cell c z) (hdg : decode cc pc = .ok (.multianewarray index 2, 4))
    (kk : ∀ (q : Nat) (r : Nat → Nat) (cA : ClassId) (H1 : Heap), (∀ i j : Nat, i < N' → j < N' → r i = r j → i = j) → (∀ i : Nat, i < N' → r i ∉ L) → va_K D cl (tys ++ [(cA, .array ty)]) s →
      va_P D cl ((X ++ [(q, .inl (cA, N', .inr (.inr (.inr (.inr (fun i => if i < N' then some (r i) else none))))))]) ++ va_pl (L ++ (List.range N').map r) (vr_up f ((List.range N').map r) (.inl (cy, z)))) H1 → va_D A ((X ++ [(q, .inl (cA, N', .inr (.inr (.inr (.inr (fun i => if i < N' then some (r i) else none))))))]) ++ va_pl (L ++ (List.range N').map r) (vr_up f ((List.range N').map r) (.inl (cy, z)))) → va_S A H0 H1 locs →
      W p l e R s m args below meth c H1 locs (cells + 1 + N') (slots + N' + N' * K') Q (F0 m (pc + 4) ls (.ref q :: rest))) : W p l e R s m args below meth c H locs cells slots Q (F0 m pc ls (.int k :: .int n :: rest)) := by
  subst hN
  subst hM
  intro T hT Xs
  obtain ⟨vm₁, cA, comp, -, fA, fC, hO, -, X', step⟩ := Xs.multianewarray2F hexec hown hclink (va_AOA.use hover) harr (g := F0 m pc ls (.int k :: .int n :: rest)) rfl (by rw [hb]; exact hdg) rfl hn hk hb1 hb2 hb3 hdf hdd hcells hslots
  have ec : some cy = some comp := hcy.symm.trans fC
  cases ec
  generalize hF : Jvm.Free.Multi.fill (T.setVm vm₁) cA cy n.toNatClampNeg k.toNatClampNeg (defaultValue ty) n.toNatClampNeg = F at X' step
  have hTh : (T.setVm vm₁).heap = H := hT
  obtain ⟨f1, f2, -, -⟩ := Jvm.Free.Multi.fill_facts (T.setVm vm₁) cA cy n.toNatClampNeg k.toNatClampNeg (defaultValue ty) n.toNatClampNeg
  rw [hF, hTh] at f1 f2
  have hold : ∀ x : Nat, x < H.size → F.heap[x]? = H[x]? := fun x hx => by
    have := Jvm.Free.Multi.fill_old (T.setVm vm₁) cA cy n.toNatClampNeg k.toNatClampNeg (defaultValue ty) (a := x) (by rw [hTh]; exact hx) n.toNatClampNeg
    rw [hF, hTh] at this
    exact this
  have hrow : ∀ j : Nat, j < n.toNatClampNeg → F.heap[H.size + 1 + j]? = some (vp_cell cy z) := fun j hj => by
    have := Jvm.Free.Multi.fill_inner (T.setVm vm₁) cA cy n.toNatClampNeg k.toNatClampNeg (defaultValue ty) n.toNatClampNeg j hj
    rw [hF, hTh, hz] at this
    exact this
  have hout : Jvm.Free.Multi.outerC cA n.toNatClampNeg H.size n.toNatClampNeg = vp_cell cA (n.toNatClampNeg, .inr (.inr (.inr (.inr (fun i => if i < n.toNatClampNeg then some (H.size + 1 + i) else none))))) := by
    rw [vp_cell_q]
    exact vr_outer cA n.toNatClampNeg H.size n.toNatClampNeg
  rw [hout] at f2
  have hlt : ∀ a, a ∈ L → a < H.size := fun a ha => by
    obtain ⟨k9, hk9⟩ := va_pl_get (X := X) (f := f) ha
    exact (hP k9 _ hk9).lt
  have hnl : ∀ i : Nat, i < n.toNatClampNeg → H.size + 1 + i ∉ L := fun i _ h => by
    have := hlt _ h
    omega
  have hnm : ∀ a, a ∈ (List.range n.toNatClampNeg).map (fun i => H.size + 1 + i) → a ∉ L := fun a ha h => by
    obtain ⟨i, -, rfl⟩ := List.mem_map.mp ha
    have := hlt _ h
    omega
  have hP0 : va_P D cl (X ++ va_pl L f) F.heap := hP.kept (fun k9 x hx => hold x.1 ((hP k9 x hx).lt))
  have hP1 : va_P D cl ((X ++ va_pl L f) ++ [(H.size, .inl (cA, n.toNatClampNeg, .inr (.inr (.inr (.inr (fun i => if i < n.toNatClampNeg then some (H.size + 1 + i) else none))))))]) F.heap := hP0.app (fun k9 x hx => by
    have h0 : k9 < 1 := (List.getElem?_eq_some_iff.mp hx).1
    rw [show k9 = 0 by omega] at hx
    cases hx
    exact f2)
  have hP2 : va_P D cl (((X ++ va_pl L f) ++ [(H.size, .inl (cA, n.toNatClampNeg, .inr (.inr (.inr (.inr (fun i => if i < n.toNatClampNeg then some (H.size + 1 + i) else none))))))]) ++ ((List.range n.toNatClampNeg).map (fun i => H.size + 1 + i)).map (fun a => (a, .inl (cy, z)))) F.heap := hP1.app (fun k9 x hx => by
    obtain ⟨a, ha, rfl⟩ := List.mem_map.mp (List.mem_of_getElem? hx)
    obtain ⟨i, hi, rfl⟩ := List.mem_map.mp ha
    exact hrow i (List.mem_range.mp hi))
  have hD2 : va_D A (((X ++ va_pl L f) ++ [(H.size, .inl (cA, n.toNatClampNeg, .inr (.inr (.inr (.inr (fun i => if i < n.toNatClampNeg then some (H.size + 1 + i) else none))))))]) ++ ((List.range n.toNatClampNeg).map (fun i => H.size + 1 + i)).map (fun a => (a, .inl (cy, z)))) := by
    have hD1 := hD.push (e := .inl (cA, n.toNatClampNeg, .inr (.inr (.inr (.inr (fun i => if i < n.toNatClampNeg then some (H.size + 1 + i) else none)))))) hP rfl (hA _ hS.1)
    generalize hW1 : (X ++ va_pl L f) ++ [(H.size, .inl (cA, n.toNatClampNeg, .inr (.inr (.inr (.inr (fun i => if i < n.toNatClampNeg then some (H.size + 1 + i) else none))))))] = W1 at hD1 hP1 ⊢
    have hle : ∀ (k9 : Nat) (x : Nat × va_E), W1[k9]? = some x → x.1 ≤ H.size := fun k9 x hx => by
      rw [← hW1] at hx
      by_cases hl : k9 < (X ++ va_pl L f).length
      · rw [List.getElem?_append_left hl] at hx
        exact Nat.le_of_lt ((hP k9 x hx).lt)
      · rw [List.getElem?_append_right (by omega)] at hx
        have h0 : k9 - (X ++ va_pl L f).length < 1 := (List.getElem?_eq_some_iff.mp hx).1
        rw [show k9 - (X ++ va_pl L f).length = 0 by omega] at hx
        cases hx
        exact Nat.le_refl _
    have hr : ∀ (k9 : Nat) (x : Nat × va_E), (((List.range n.toNatClampNeg).map (fun i => H.size + 1 + i)).map (fun a => ((a, .inl (cy, z)) : Nat × va_E)))[k9]? = some x → x.1 = H.size + 1 + k9 := fun k9 x hx => by
      rw [List.getElem?_map, List.getElem?_map] at hx
      by_cases h9 : k9 < n.toNatClampNeg
      · rw [List.getElem?_range h9] at hx
        cases hx
        rfl
      · have hn0 : (List.range n.toNatClampNeg)[k9]? = none := List.getElem?_eq_none (by rw [List.length_range]; omega)
        rw [hn0] at hx
        cases hx
    refine ⟨fun i j x y hi hj hxy => ?_, fun k9 x hx => ?_⟩
    · by_cases h1 : i < W1.length <;> by_cases h2 : j < W1.length
      · rw [List.getElem?_append_left h1] at hi
        rw [List.getElem?_append_left h2] at hj
        exact hD1.1 i j x y hi hj hxy
      · rw [List.getElem?_append_left h1] at hi
        rw [List.getElem?_append_right (by omega)] at hj
        have := hle _ _ hi
        have := hr _ _ hj
        omega
      · rw [List.getElem?_append_right (by omega)] at hi
        rw [List.getElem?_append_left h2] at hj
        have := hle _ _ hj
        have := hr _ _ hi
        omega
      · rw [List.getElem?_append_right (by omega)] at hi hj
        have := hr _ _ hi
        have := hr _ _ hj
        omega
    · by_cases h1 : k9 < W1.length
      · rw [List.getElem?_append_left h1] at hx
        exact hD1.2 k9 x hx
      · rw [List.getElem?_append_right (by omega)] at hx
        have := hr _ _ hx
        exact hA _ (by have := hS.1; omega)
  have hAr : ArrOfT s cA (.array ty) := fun N9 z9 => by
    obtain ⟨-, k9, hk9, cm9, hkk9⟩ := (hO 0 0 0).1
    exact ⟨(fun q hq => by cases hq), k9, hk9, cm9, hkk9⟩
  have hK2 : va_K D cl (tys ++ [(cA, .array ty)]) s := ⟨hK.1, fun k9 x hx => by
    by_cases hl : k9 < tys.length
    · rw [List.getElem?_append_left hl] at hx
      exact hK.2 k9 x hx
    · rw [List.getElem?_append_right (by omega)] at hx
      have h0 : k9 - tys.length < 1 := (List.getElem?_eq_some_iff.mp hx).1
      rw [show k9 - tys.length = 0 by omega] at hx
      cases hx
      exact ⟨hAr, fA⟩⟩
  obtain ⟨t, a1, b1⟩ := kk H.size (fun i => H.size + 1 + i) cA F.heap (fun i j _ _ h => by have h9 : H.size + 1 + i = H.size + 1 + j := h; omega) hnl hK2 (by rw [← vr_rows hnm]; exact vr_lay hP2) (by rw [← vr_rows hnm]; exact vr_layD hD2) ⟨by rw [f1]; have := hS.1; omega, fun x h1 h2 => (hold x (Nat.lt_of_lt_of_le h1 hS.1)).trans (hS.2.1 x h1 h2), hS.2.2⟩ F rfl X'
  refine ⟨t, step t ?_, b1⟩
  have e : T.heap.size = H.size := by rw [hT]
  rw [e]
  exact a1
end VGM
/-! ===== END ===== -/

/-! ===== BEGIN exceptions that leave a method, and their catching by the caller (launches without stack traces) ===== -/
section VXA
/-! The laws vx_back, vx_callV, vx_callS, vx_callSW, vx_throw0, vx_throwS follow proofs of the library, with one case more: JvmDerived/Free/Laws.lean (Back.of_free), Shelf42/LK1.lean (callV, callS), Shelf/KitTraced.lean (throwNew0V, throwNewS). -/
/-- where a method has thrown q: the class by its name, the cell, what was written, the world -/
def vx_T (XC : String → State → State → Prop) (st : State) (q : Addr) (t : State) (mc ms : Nat) (free : Addr → Prop) : Prop :=
  ∃ (E : String) (ce : Cell) (L : List Loc), XC E st t ∧ t.heap[q]? = some ce ∧ ce.vm = .none ∧ st.vm.findClass E = some ce.cls ∧ st.WarmedH t.vm ∧ st.sameButNew ({ t with vm := st.vm } : State) L mc ms ∧ ∀ z ∈ L, free z.base
def vx_Q (Qc : Array Value → State → Outcome → State → Prop) (XC : String → State → State → Prop) (mc ms : Nat) (free : Addr → Prop) : Array Value → State → Outcome → State → Prop := fun a st o t =>
  (Qc a st o t ∧ ∃ L, FrameEnd st o t L mc ms ∧ ∀ q ∈ L, free q.base) ∨ ∃ q, o = .threw q ∧ vx_T XC st q t mc ms free
/-- a callee that returns or throws -/
def vx_Met (l : Launch) (y : MethodName) (ws : List Cond) (rm : Room) (Pc : Array Value → State → Prop) (Qc : Array Value → State → Outcome → State → Prop) (XC : String → State → State → Prop) (mc ms : Nat) (free : Addr → Prop) : Prop :=
  MetFree l y (headSpec ws rm) Pc (fun _ _ _ _ _ => True) (vx_Q Qc XC mc ms free)
def vx_Post (XC : String → State → State → Prop) (mc ms : Nat) (free : Addr → Prop) : Pt → Array Value → Addr → Pt → Prop := fun A a q B =>
  ∃ (g : JFrame) (mk : MethodId) (t : State) (L : List Loc) (E : String) (ce : Cell), B.U.heap = t.heap ∧ B.U.vm = t.vm ∧ XC E (A.U.calling g mk a) t ∧ t.heap[q]? = some ce ∧ ce.vm = .none ∧ A.U.vm.findClass E = some ce.cls ∧ B.locs = A.locs ++ L ∧ (∀ z ∈ L, free z.base) ∧ B.cells = A.cells + mc ∧ B.slots = A.slots + ms
def vx_Back (l : Launch) (R : Room) (p : Program) (e : Env) (below : List Frame) (s : State) (sargs : Array Value) (y : MethodName) (len W9 : Nat)
    (Pre : Pt → Array Value → Prop) (Post : Pt → Array Value → Option Value → Pt → Prop) (PostX : Pt → Array Value → Addr → Pt → Prop) : Prop :=
  ∀ (m : MethodId) (meth : Method) (c : Code) (A : Pt) (g : JFrame) (ig : Instr) (mk : MethodId) (a : Array Value),
    Stand p l e R s m sargs below meth c A.U A.locs A.cells A.slots → g.method = m → g.locals.size = c.maxLocals → decode c.code g.pc = .ok (ig, len) →
    2 * g.monitorRoom + (g.stack.map fun v => v.category).sum ≤ W9 → A.U.methodNamed? y = some mk → Pre A a →
    (∃ (v : Option Value) (B : Pt), Stand p l e R s m sargs below meth c B.U B.locs B.cells B.slots ∧ Post A a v B ∧
      Steps p.tables e below (doInvoke e (A.U.setTop g) [] mk a).1 (B.U.setTop { g with pc := g.pc + len, stack := v.toList ++ g.stack })) ∨
    (∃ (q : Addr) (B : Pt), Stand p l e R s m sargs below meth c B.U B.locs B.cells B.slots ∧ PostX A a q B ∧
      Steps p.tables e below (doInvoke e (A.U.setTop g) [] mk a).1 ((B.U.setTop g).pushFrame (.throwing q)))
section Payer
variable {l : Launch} {R : Room} {p : Program} {e : Env} {below : List Frame} {s : State} {sargs : Array Value} {y : MethodName} {len W9 : Nat}
theorem vx_back {ws : List Cond} {rm : Room} {Pc : Array Value → State → Prop} {Qc : Array Value → State → Outcome → State → Prop} {XC : String → State → State → Prop} {mc ms : Nat} {free : Addr → Prop} {bytes : ByteArray} {maxL : Nat} {ret : Option FieldType}
    (hM : vx_Met l y ws rm Pc Qc XC mc ms free) (hblind : FrameBlind Pc) (hrc : rm.cells = mc) (hrs : rm.slots = ms)
    (hframes : rm.frames + 1 ≤ R.frames) (hlocals : W9 + (maxL + 11) + rm.locals ≤ R.locals)
    (hws : ∀ w ∈ ws, ∀ a' U, s.WarmedH U.vm → w.before a' U = true) (hcode : Cond.code y bytes maxL ret ∈ ws) (hinit : ∀ a' U, s.WarmedH U.vm → (Cond.initialized y.cls).before a' U = true) :
    vx_Back l R p e below s sargs y len W9 (PreOf R mc ms Pc) (PostOf Qc mc ms free) (vx_Post XC mc ms free) := by
  intro m meth c A g ig mk a X hg hsize hdg hW hn hp
  have h1 : (headSpec ws rm).pre.before a A.U = true := atoms_intro fun w hw => hws w hw _ _ X.warmed
  have h2 : (Cond.code y bytes maxL ret).before a A.U = true := hws _ hcode _ _ X.warmed
  have h3 : (Cond.initialized y.cls).before a A.U = true := hinit _ _ X.warmed
  have h4 : A.cells + (headSpec ws rm).room.cells ≤ R.cells := by rw [show (headSpec ws rm).room.cells = mc from hrc]; exact hp.1
  have h5 : A.slots + (headSpec ws rm).room.slots ≤ R.slots := by rw [show (headSpec ws rm).room.slots = ms from hrs]; exact hp.2.1
  have hPc : Pc a (A.U.calling g mk a) := hblind _ _ _ _ hp.2.2
  obtain ⟨U, Ls, c0, s0⟩ := A
  dsimp only [Pt.U, Pt.locs, Pt.cells, Pt.slots] at h1 h2 h3 h4 h5 X hn hPc ⊢
  obtain ⟨methY, cY, hmY, hcY, -, hlY, -, -, -, -⟩ := Cond.code_spec hn h2
  obtain ⟨kY, hkY, -⟩ := className_of_methodNamed hn
  have hinitY : kY.init = .initialized := Cond.initialized_spec (findClass_of_methodNamed hn) hkY h3
  have h : At U g.method c below := by rw [hg]; exact X.here
  have hlocals9 : W9 + (maxL + 11) + (headSpec ws rm).room.locals ≤ R.locals := hlocals
  have happ : (headSpec ws rm).appliesLoose y e.platform (U.calling g mk a) = true :=
    Spec.appliesLoose_calling (g := g) h hdg hn hkY hinitY
      (X.room_calling (g := g) (R' := (headSpec ws rm).room) hsize hmY hcY hframes (by rw [hlY]; omega) h4 h5) h1
  obtain ⟨mid, hmid⟩ := h.above
  have hfr : (U.setTop g).frames = (.java g :: mid) ++ below := by rw [State.frames_setTop' g h.top, hmid]; rfl
  obtain ⟨o, s₂, hsteps, -, hend, hq⟩ := Steps.callFree hM p X.admits X.cas X.clock (acts := []) hfr happ hPc trivial
  have hq' : vx_Q Qc XC mc ms free a (U.calling g mk a) o s₂ := hq
  rw [State.frames_setTop' g h.top] at hend
  obtain ⟨g₀, hg0⟩ := Option.isSome_iff_exists.mp h.top
  obtain ⟨r, hr⟩ := State.topJava?_eq_some.mp hg0
  have hr' : (({ U with heap := s₂.heap, slotsUsed := s₂.slotsUsed } : State).setVm s₂.vm).frames = .java g₀ :: r := hr
  rcases hq' with ⟨hqc, L, hfe, hL⟩ | ⟨q, rfl, E, ce, L, hx, hce, hcv, hcl, hW₂, hsm, hL⟩
  · obtain ⟨⟨v, rfl⟩, hW₂, e2, q2, q3, q4, q5, q6⟩ := id hfe
    have e3 : s₂ = ({ (U.calling g mk a).setFrames s₂.frames with heap := s₂.heap, slotsUsed := s₂.slotsUsed } : State).setVm s₂.vm := by
      have : s₂ = ({ s₂ with vm := (U.calling g mk a).vm } : State).setVm s₂.vm := rfl
      rw [e2] at this
      exact this
    obtain ⟨c₂, i₂, len₂, hc₂, hd₂, hf₂⟩ := hend
    have hW' : U.WarmedH s₂.vm := hW₂
    have hcc : c₂ = c := by
      have h1 : s₂.code? g.method = U.code? g.method := by
        rw [State.code?_eq, State.code?_eq, hW'.alike.method?]
      exact Option.some.inj (hc₂.symm.trans (h1.trans h.code))
    subst hcc
    have hlen : len₂ = len := by rw [hdg] at hd₂; cases hd₂; rfl
    subst hlen
    have hs₂ : s₂ = (({ U with heap := s₂.heap, slotsUsed := s₂.slotsUsed } : State).setVm s₂.vm).setTop { g with pc := g.pc + len₂, stack := v.toList ++ g.stack } := by
      refine e3.trans ?_
      rw [hf₂, State.calling_eq h.top, State.setFrames_setFrames, State.setTop_of_frames _ hr', hr]
      rfl
    have hsame : U.sameButNew ({ U with heap := s₂.heap, slotsUsed := s₂.slotsUsed } : State) L mc ms := by
      refine ⟨?_, q2, q3, q4, q5, q6⟩
      obtain ⟨t, ht, -⟩ := State.frames_cons hr
      show ({ U with heap := s₂.heap, slotsUsed := s₂.slotsUsed } : State) = { U.setFrames U.frames with heap := s₂.heap, slotsUsed := s₂.slotsUsed }
      rw [State.setFrames_self ht]
    subst hg
    refine Or.inl ⟨v, ⟨(({ U with heap := s₂.heap, slotsUsed := s₂.slotsUsed } : State).setVm s₂.vm), Ls ++ L, c0 + mc, s0 + ms⟩,
      ⟨X.admits, X.cas, X.clock, X.frames, X.room, X.hears, X.method, X.code, (X.here.setHeapUsed s₂.heap s₂.slotsUsed).setVm hW'.alike, X.tail, State.WarmedH.trans X.warmed hW', X.limits, X.bytes, X.same.trans (hsame.setVm s.vm)⟩,
      ⟨g, mk, s₂, L, rfl, rfl, hqc, rfl, hL, rfl, rfl⟩, ?_⟩
    show Steps p.tables e below _ ((({ U with heap := s₂.heap, slotsUsed := s₂.slotsUsed } : State).setVm s₂.vm).setTop { g with pc := g.pc + len₂, stack := v.toList ++ g.stack })
    rw [← hs₂]
    exact hsteps
  · obtain ⟨e2, q2, q3, q4, q5, q6⟩ := id hsm
    have e3 : s₂ = ({ (U.calling g mk a).setFrames s₂.frames with heap := s₂.heap, slotsUsed := s₂.slotsUsed } : State).setVm s₂.vm := by
      have : s₂ = ({ s₂ with vm := (U.calling g mk a).vm } : State).setVm s₂.vm := rfl
      rw [e2] at this
      exact this
    have hf₂ : s₂.frames = .throwing q :: .java g :: U.frames.tail := hend
    have hW' : U.WarmedH s₂.vm := hW₂
    have hs₂ : s₂ = ((({ U with heap := s₂.heap, slotsUsed := s₂.slotsUsed } : State).setVm s₂.vm).setTop g).pushFrame (.throwing q) := by
      refine e3.trans ?_
      rw [hf₂, State.calling_eq h.top, State.setFrames_setFrames, State.pushFrame, State.frames_setTop _ hr', State.setTop_of_frames _ hr', State.setFrames_setFrames, hr]
      rfl
    have hsame : U.sameButNew ({ U with heap := s₂.heap, slotsUsed := s₂.slotsUsed } : State) L mc ms := by
      refine ⟨?_, q2, q3, q4, q5, q6⟩
      obtain ⟨t, ht, -⟩ := State.frames_cons hr
      show ({ U with heap := s₂.heap, slotsUsed := s₂.slotsUsed } : State) = { U.setFrames U.frames with heap := s₂.heap, slotsUsed := s₂.slotsUsed }
      rw [State.setFrames_self ht]
    subst hg
    refine Or.inr ⟨q, ⟨(({ U with heap := s₂.heap, slotsUsed := s₂.slotsUsed } : State).setVm s₂.vm), Ls ++ L, c0 + mc, s0 + ms⟩,
      ⟨X.admits, X.cas, X.clock, X.frames, X.room, X.hears, X.method, X.code, (X.here.setHeapUsed s₂.heap s₂.slotsUsed).setVm hW'.alike, X.tail, State.WarmedH.trans X.warmed hW', X.limits, X.bytes, X.same.trans (hsame.setVm s.vm)⟩,
      ⟨g, mk, s₂, L, E, ce, rfl, rfl, hx, hce, hcv, hcl, rfl, hL, rfl, rfl⟩, ?_⟩
    show Steps p.tables e below _ (((({ U with heap := s₂.heap, slotsUsed := s₂.slotsUsed } : State).setVm s₂.vm).setTop g).pushFrame (.throwing q))
    rw [← hs₂]
    exact hsteps
end Payer
section Calls
variable {p : Program} {l : Launch} {e : Env} {R : Room} {s : State} {m : MethodId} {args : Array Value} {below : List Frame} {meth : Method} {c : Code} {T : State} {locs : List Loc} {cells slots : Nat}
theorem vx_callV (X : Stand p l e R s m args below meth c T locs cells slots) (hexec : p.tables.exec = Jvm.exec) {own C : String} {index : Nat} {y : MethodName} {bytes : ByteArray} {maxL : Nat} {ret : Option FieldType}
    (hown : s.vm.findClass own = some m.cls) (hlink : (Cond.methodLink own index y).before args s = true) (hinst : (Cond.instanceMethod y).before args s = true) (hsel : (Cond.selects C y y).before args s = true)
    (hcode : (Cond.code y bytes maxL ret).before args s = true) (hy : y.cls ≠ "java/lang/invoke/MethodHandle" ∧ y.cls ≠ "java/lang/invoke/VarHandle")
    {W9 : Nat} {Pre : Pt → Array Value → Prop} {Post : Pt → Array Value → Option Value → Pt → Prop} {PostX : Pt → Array Value → Addr → Pt → Prop} (hK : vx_Back l R p e below s args y 3 W9 Pre Post PostX)
    {b : Addr} {cellB : Cell} (hcell : T.heap[b]? = some cellB) (hobj : cellB.vm.isStatics = false) (hcls : s.vm.findClass C = some cellB.cls)
    {g : JFrame} (hg : g.method = m) (hsize : g.locals.size = c.maxLocals) {argsL rest : List Value} (hlen : ∀ sig, parseMethodDescriptor y.desc = some sig → argsL.length = sig.parameters.length)
    (hstack : g.stack = argsL.reverse ++ .ref b :: rest) (hW : 2 * g.monitorRoom + (rest.map fun v => v.category).sum ≤ W9) (hdg : decode c.code g.pc = .ok (.invokevirtual index, 3))
    (hpre : ∀ vm₁, s.WarmedH vm₁ → Pre ⟨T.setVm vm₁, locs, cells, slots⟩ (Value.ref b :: argsL).toArray) :
    (∃ (v : Option Value) (vm₁ : Vm) (B : Pt), s.WarmedH vm₁ ∧ Stand p l e R s m args below meth c B.U B.locs B.cells B.slots ∧ Post ⟨T.setVm vm₁, locs, cells, slots⟩ (Value.ref b :: argsL).toArray v B ∧
      ∀ target, Steps p.tables e below (B.U.setTop { g with pc := g.pc + 3, stack := v.toList ++ rest }) target → Steps p.tables e below (T.setTop g) target) ∨
    (∃ (q : Addr) (vm₁ : Vm) (B : Pt), s.WarmedH vm₁ ∧ Stand p l e R s m args below meth c B.U B.locs B.cells B.slots ∧ PostX ⟨T.setVm vm₁, locs, cells, slots⟩ (Value.ref b :: argsL).toArray q B ∧
      Steps p.tables e below (T.setTop g) ((B.U.setTop { g with stack := rest }).pushFrame (.throwing q))) := by
  obtain ⟨mk, methM, hnamed, hmethM, hstM, habM⟩ := Cond.instanceMethod_spec hinst
  obtain ⟨methM', cM, hmethM', -, -, -, -, -, -, hsigM⟩ := Cond.code_spec hnamed hcode
  cases hmethM.symm.trans hmethM'
  obtain ⟨c2, r2, m2, q1, q2, q3, q4, kP, hkP, hkPi⟩ := Cond.selects_spec hsel
  cases hcls.symm.trans q1
  cases (State.methodFound?_of_named hnamed hy).symm.trans q2
  cases hnamed.symm.trans q3
  have hselP : selectMethod e.platform s.vm cellB.cls mk = .method mk := by rw [Launch.admits_selectMethod X.admits]; exact q4
  obtain ⟨vm₁, X₁, hstep₁⟩ := X.invokevirtual hexec hown hlink hnamed hmethM hstM hkP hkPi hy (a := b) (cell := cellB) hcell
    (fun z h => by rw [h] at hobj; cases hobj) hselP hmethM habM hkP hkPi (g := g) hg (argsL := argsL) (rest := rest) (hlen _ hsigM) hstack hdg
  rcases hK m meth c ⟨T.setVm vm₁, locs, cells, slots⟩ { g with stack := rest } (.invokevirtual index) mk (Value.ref b :: argsL).toArray X₁ hg hsize hdg hW (X₁.named hnamed) (hpre vm₁ X₁.warmed) with ⟨v, B, X', hpost, hsteps⟩ | ⟨q, B, X', hpost, hsteps⟩
  · exact Or.inl ⟨v, vm₁, B, X₁.warmed, X', hpost, fun target h => hstep₁ _ fun acts => by rw [doInvoke_state]; exact hsteps.trans h⟩
  · exact Or.inr ⟨q, vm₁, B, X₁.warmed, X', hpost, hstep₁ _ fun acts => by rw [doInvoke_state]; exact hsteps⟩
theorem vx_callS (X : Stand p l e R s m args below meth c T locs cells slots) (hexec : p.tables.exec = Jvm.exec) {own : String} {index : Nat} {y : MethodName} {bytes : ByteArray} {maxL : Nat} {ret : Option FieldType}
    (hown : s.vm.findClass own = some m.cls) (hlink : (Cond.methodLink own index y).before args s = true) (hstat : (Cond.static y).before args s = true) (hinit : (Cond.initialized y.cls).before args s = true)
    (hcode : (Cond.code y bytes maxL ret).before args s = true) (hy : y.cls ≠ "java/lang/invoke/MethodHandle" ∧ y.cls ≠ "java/lang/invoke/VarHandle")
    {W9 : Nat} {Pre : Pt → Array Value → Prop} {Post : Pt → Array Value → Option Value → Pt → Prop} {PostX : Pt → Array Value → Addr → Pt → Prop} (hK : vx_Back l R p e below s args y 3 W9 Pre Post PostX)
    {g : JFrame} (hg : g.method = m) (hsize : g.locals.size = c.maxLocals) {argsL rest : List Value} (hlen : ∀ sig, parseMethodDescriptor y.desc = some sig → argsL.length = sig.parameters.length)
    (hstack : g.stack = argsL.reverse ++ rest) (hW : 2 * g.monitorRoom + (rest.map fun v => v.category).sum ≤ W9) (hdg : decode c.code g.pc = .ok (.invokestatic index, 3))
    (hpre : ∀ vm₁, s.WarmedH vm₁ → Pre ⟨T.setVm vm₁, locs, cells, slots⟩ argsL.toArray) :
    (∃ (v : Option Value) (vm₁ : Vm) (B : Pt), s.WarmedH vm₁ ∧ Stand p l e R s m args below meth c B.U B.locs B.cells B.slots ∧ Post ⟨T.setVm vm₁, locs, cells, slots⟩ argsL.toArray v B ∧
      ∀ target, Steps p.tables e below (B.U.setTop { g with pc := g.pc + 3, stack := v.toList ++ rest }) target → Steps p.tables e below (T.setTop g) target) ∨
    (∃ (q : Addr) (vm₁ : Vm) (B : Pt), s.WarmedH vm₁ ∧ Stand p l e R s m args below meth c B.U B.locs B.cells B.slots ∧ PostX ⟨T.setVm vm₁, locs, cells, slots⟩ argsL.toArray q B ∧
      Steps p.tables e below (T.setTop g) ((B.U.setTop { g with stack := rest }).pushFrame (.throwing q))) := by
  obtain ⟨mk, hnamed⟩ := Cond.code_named hcode
  obtain ⟨methM, cM, hmethM, -, -, -, -, -, -, hsigM⟩ := Cond.code_spec hnamed hcode
  have hstatic : methM.isStatic = true := Cond.static_spec hnamed hmethM hstat
  obtain ⟨kP, hkP, -⟩ := className_of_methodNamed hnamed
  have hinitP : kP.init = .initialized := Cond.initialized_spec (findClass_of_methodNamed hnamed) hkP hinit
  obtain ⟨vm₁, X₁, hstep₁⟩ := X.invokestatic hexec hown hlink hnamed hmethM hstatic hkP hinitP hy (g := g) hg (argsL := argsL) (rest := rest) (hlen _ hsigM) hstack hdg
  rcases hK m meth c ⟨T.setVm vm₁, locs, cells, slots⟩ { g with stack := rest } (.invokestatic index) mk argsL.toArray X₁ hg hsize hdg hW (X₁.named hnamed) (hpre vm₁ X₁.warmed) with ⟨v, B, X', hpost, hsteps⟩ | ⟨q, B, X', hpost, hsteps⟩
  · exact Or.inl ⟨v, vm₁, B, X₁.warmed, X', hpost, fun target h => hstep₁ _ fun acts => by rw [doInvoke_state]; exact hsteps.trans h⟩
  · exact Or.inr ⟨q, vm₁, B, X₁.warmed, X', hpost, hstep₁ _ fun acts => by rw [doInvoke_state]; exact hsteps⟩
end Calls
theorem vx_cls {s : State} {T : State} {vm₁ : Vm} {E : String} {k : ClassId} (hW : s.WarmedH vm₁) (h : (T.setVm vm₁).vm.findClass E = some k) : s.vm.findClass E = some k := by
  have h1 : vm₁.findClass E = some k := h
  rw [hW.alike.findClass] at h1
  exact h1
/-- the method's frame g, with q thrown over it -/
def vx_W (p : Program) (l : Launch) (e : Env) (R : Room) (s : State) (m : MethodId) (args : Array Value) (below : List Frame) (meth : Method) (c : Code) (H : Heap) (locs : List Loc) (cells slots : Nat) (Q : State → Prop) (g : JFrame) (q : Addr) : Prop :=
  ∀ T : State, T.heap = H → Stand p l e R s m args below meth c T locs cells slots → ∃ t, Steps p.tables e below ((T.setTop g).pushFrame (.throwing q)) t ∧ Q t
def vx_Run (p : Program) (l : Launch) (e : Env) (R : Room) (s : State) (m : MethodId) (args : Array Value) (below : List Frame) (meth : Method) (c : Code) (H : Heap) (locs : List Loc) (cells slots mc ms : Nat) (g : JFrame) (rest : List Value) (Qa : State → Outcome → State → Prop) (XC : String → State → State → Prop) (free : Addr → Prop) : Prop :=
  ∀ T : State, T.heap = H → Stand p l e R s m args below meth c T locs cells slots →
    (∃ (v : Option Value) (st₀ t T' : State) (L : List Loc), st₀.heap = H ∧ Stand p l e R s m args below meth c T' (locs ++ L) (cells + mc) (slots + ms) ∧ (∀ q ∈ L, free q.base) ∧ T'.heap = t.heap ∧ T'.vm = t.vm ∧ Qa st₀ (.returned v) t ∧
      Goes p e below T g T' { g with pc := g.pc + 3, stack := v.toList ++ rest }) ∨
    (∃ (q : Addr) (st₀ t T' : State) (L : List Loc) (E : String) (ce : Cell), st₀.heap = H ∧ Stand p l e R s m args below meth c T' (locs ++ L) (cells + mc) (slots + ms) ∧ (∀ z ∈ L, free z.base) ∧ T'.heap = t.heap ∧ T'.vm = t.vm ∧ XC E st₀ t ∧ t.heap[q]? = some ce ∧ ce.vm = .none ∧ s.vm.findClass E = some ce.cls ∧
      Steps p.tables e below (T.setTop g) ((T'.setTop { g with stack := rest }).pushFrame (.throwing q)))
def vx_X {S : Type} (px : S → Prop) (B : String → S → State → Prop) (A : Nat → Prop) : String → State → State → Prop := fun E st t => ∃ u : S, px u ∧ B E u t ∧ va_F A st t
section Runs
variable {p : Program} {l : Launch} {e : Env} {R : Room} {s : State} {m : MethodId} {args : Array Value} {below : List Frame} {meth : Method} {c : Code} {H : Heap} {locs : List Loc} {cells slots : Nat}
variable {y : MethodName} {bytes cc : ByteArray} {maxL nL mc ms n index : Nat} {ret : Option FieldType} {ws : List Cond} {rm : Room} {Pc : Array Value → State → Prop} {Qc : Array Value → State → Outcome → State → Prop} {XC : String → State → State → Prop} {free : Addr → Prop} {Ts : List Cond} {own C : String} {b : Addr} {As rest : List Value} {g : JFrame}
theorem vx_callBack (cb : CallB R s args own index y bytes maxL ret ws rm mc ms n) (hM : vx_Met l y ws rm Pc Qc XC mc ms free) (hbl : FrameBlind Pc) : vx_Back l R p e below s args y 3 8 (PreOf R mc ms Pc) (PostOf Qc mc ms free) (vx_Post XC mc ms free) := by
  obtain ⟨hrc, hrs, hfr, hlo, hws, hcw, -, hini, -⟩ := cb
  exact vx_back (bytes := bytes) (maxL := maxL) (ret := ret) hM hbl hrc hrs hfr hlo hws hcw (fun a' U hW => word_at hW (Or.inl (by first | rfl | simp [Cond.onTables, Cond.keeps, Cond.steady])) hini)
theorem vx_runV (S : CallFix p m c cc nL s args Ts own) (hM : vx_Met l y ws rm Pc Qc XC mc ms free) (cw : CallW R s args own C index y bytes maxL ret ws rm mc ms n) (hp : PreV s H C b Pc As)
    (hg : g.method = m) (hn : As.length = n) (hsize : g.locals.size = nL) (hstack : g.stack = As.reverse ++ .ref b :: rest) (hW : 2 * g.monitorRoom + (rest.map fun v => v.category).sum ≤ 8) (hdg : decode cc g.pc = .ok (.invokevirtual index, 3)) (hf : cells + mc ≤ R.cells ∧ slots + ms ≤ R.slots) :
    vx_Run p l e R s m args below meth c H locs cells slots mc ms g rest (Qc (Value.ref b :: As).toArray) XC free := by
  have hK : vx_Back l R p e below s args y 3 8 (PreOf R mc ms Pc) (PostOf Qc mc ms free) (vx_Post XC mc ms free) := vx_callBack cw.1 hM hp.1
  obtain ⟨⟨-, -, -, -, -, -, hcode, -, hy, hlen, hl⟩, hin, hse⟩ := cw
  obtain ⟨hx, hb, hml, ho, -⟩ := S
  obtain ⟨-, ⟨cellB, hcB, hoB, hclB⟩, hPc⟩ := hp
  intro T hT X
  rcases vx_callV X hx (C := C) (bytes := bytes) (maxL := maxL) (ret := ret) ho hl hin hse hcode hy hK (by rw [hT]; exact hcB) hoB hclB hg (hsize.trans hml.symm) (argsL := As) (rest := rest) (fun sig h => hn.trans (hlen sig h)) hstack hW (by rw [hb]; exact hdg)
    (fun vm₁ hW₁ => ⟨hf.1, hf.2, hPc (T.setVm vm₁) hT hW₁⟩) with ⟨v, vm₁, ⟨U', l2, c2, s2⟩, hW₁, X', ⟨g', mk, t, L, e1, e2, hq, h1, hL, h2, h3⟩, st⟩ | ⟨q, vm₁, ⟨U', l2, c2, s2⟩, hW₁, X', ⟨g', mk, t, L, E, ce, e1, e2, hq, hce, hcv, hcl, h1, hL, h2, h3⟩, st⟩
  · dsimp only [Pt.U, Pt.locs, Pt.cells, Pt.slots] at X' e1 e2 h1 h2 h3 st
    subst h1; subst h2; subst h3
    exact Or.inl ⟨v, (T.setVm vm₁).calling g' mk (Value.ref b :: As).toArray, t, U', L, hT, X', hL, e1, e2, hq, st⟩
  · dsimp only [Pt.U, Pt.locs, Pt.cells, Pt.slots] at X' e1 e2 h1 h2 h3 st hcl
    subst h1; subst h2; subst h3
    exact Or.inr ⟨q, (T.setVm vm₁).calling g' mk (Value.ref b :: As).toArray, t, U', L, E, ce, hT, X', hL, e1, e2, hq, hce, hcv, vx_cls hW₁ hcl, st⟩
theorem vx_runS (S : CallFix p m c cc nL s args Ts own) (hM : vx_Met l y ws rm Pc Qc XC mc ms free) (cw : CallB R s args own index y bytes maxL ret ws rm mc ms n ∧ (Cond.static y).before args s = true) (hp : PreS s H Pc As)
    (hg : g.method = m) (hn : As.length = n) (hsize : g.locals.size = nL) (hstack : g.stack = As.reverse ++ rest) (hW : 2 * g.monitorRoom + (rest.map fun v => v.category).sum ≤ 8) (hdg : decode cc g.pc = .ok (.invokestatic index, 3)) (hf : cells + mc ≤ R.cells ∧ slots + ms ≤ R.slots) :
    vx_Run p l e R s m args below meth c H locs cells slots mc ms g rest (Qc As.toArray) XC free := by
  have hK : vx_Back l R p e below s args y 3 8 (PreOf R mc ms Pc) (PostOf Qc mc ms free) (vx_Post XC mc ms free) := vx_callBack cw.1 hM hp.1
  obtain ⟨⟨-, -, -, -, -, -, hcode, hini, hy, hlen, hl⟩, hstt⟩ := cw
  obtain ⟨hx, hb, hml, ho, -⟩ := S
  intro T hT X
  rcases vx_callS X hx (bytes := bytes) (maxL := maxL) (ret := ret) ho hl hstt hini hcode hy hK hg (hsize.trans hml.symm) (argsL := As) (rest := rest) (fun sig h => hn.trans (hlen sig h)) hstack hW (by rw [hb]; exact hdg)
    (fun vm₁ hW₁ => ⟨hf.1, hf.2, hp.2 (T.setVm vm₁) hT hW₁⟩) with ⟨v, vm₁, ⟨U', l2, c2, s2⟩, hW₁, X', ⟨g', mk, t, L, e1, e2, hq, h1, hL, h2, h3⟩, st⟩ | ⟨q, vm₁, ⟨U', l2, c2, s2⟩, hW₁, X', ⟨g', mk, t, L, E, ce, e1, e2, hq, hce, hcv, hcl, h1, hL, h2, h3⟩, st⟩
  · dsimp only [Pt.U, Pt.locs, Pt.cells, Pt.slots] at X' e1 e2 h1 h2 h3 st
    subst h1; subst h2; subst h3
    exact Or.inl ⟨v, (T.setVm vm₁).calling g' mk As.toArray, t, U', L, hT, X', hL, e1, e2, hq, st⟩
  · dsimp only [Pt.U, Pt.locs, Pt.cells, Pt.slots] at X' e1 e2 h1 h2 h3 st hcl
    subst h1; subst h2; subst h3
    exact Or.inr ⟨q, (T.setVm vm₁).calling g' mk As.toArray, t, U', L, E, ce, hT, X', hL, e1, e2, hq, hce, hcv, vx_cls hW₁ hcl, st⟩
end Runs
section Rows
variable {p : Program} {l : Launch} {e : Env} {R : Room} {s : State} {m : MethodId} {args : Array Value} {below : List Frame} {meth : Method} {c : Code} {H : Heap} {locs : List Loc} {cells slots : Nat} {Q : State → Prop}
variable {mc ms : Nat} {free : Addr → Prop} {A0 A1 : Nat → Prop} {H0 : Heap} {a : Array Value} {pc : Nat} {ls : Array Slot} {st0 rest : List Value}
theorem vx_keep {st₀ t T' : State} {L : List Loc} (h0 : st₀.heap = H) (e1 : T'.heap = t.heap) (hS : va_S A0 H0 H locs) (hA : ∀ q, q < H.size → A1 q → A0 q) (hf : ∀ q, free q → A0 q) (hL : ∀ q ∈ L, free q.base) (hF : va_F A1 st₀ t) :
    H.size ≤ T'.heap.size ∧ (∀ q : Nat, q < H.size → ¬ A1 q → T'.heap[q]? = H[q]?) ∧ va_S A0 H0 T'.heap (locs ++ L) := by
  obtain ⟨hz, hk⟩ := hF
  rw [h0] at hz hk
  exact ⟨by rw [e1]; exact hz, fun q h1 h2 => by rw [e1]; exact hk q h1 h2,
    ⟨Nat.le_trans hS.1 (by rw [e1]; exact hz), fun q h1 h2 => by rw [e1, hk q (Nat.lt_of_lt_of_le h1 hS.1) (fun z => h2 (hA q (Nat.lt_of_lt_of_le h1 hS.1) z))]; exact hS.2.1 q h1 h2, fun q hq => by
      rcases List.mem_append.mp hq with h | h
      · exact hS.2.2 q h
      · exact hf _ (hL q h)⟩⟩
theorem vx_calli {S SX : Type} {post : Int32 → S → Prop} {px : SX → Prop} {B : S → State → Prop} {BX : String → SX → State → Prop} {AX : Nat → Prop} (hr : vx_Run p l e R s m args below meth c H locs cells slots mc ms (F0 m pc ls st0) rest (va_Qi post B A1 a) (vx_X px BX AX) free) (hS : va_S A0 H0 H locs) (hA : ∀ q, q < H.size → A1 q → A0 q) (hf : ∀ q, free q → A0 q) (hAX : ∀ q, q < H.size → AX q → A0 q)
    (kx : ∀ (E : String) (ce : Cell) (q9 : Addr) (u : SX) (t : State) (H1 : Heap) (locs1 : List Loc), t.heap = H1 → s.vm.Alike t.vm → px u → BX E u t → H.size ≤ H1.size → (∀ q : Nat, q < H.size → ¬ AX q → H1[q]? = H[q]?) → va_S A0 H0 H1 locs1 → H1[q9]? = some ce → ce.vm = .none → s.vm.findClass E = some ce.cls → vx_W p l e R s m args below meth c H1 locs1 (cells + mc) (slots + ms) Q (F0 m pc ls rest) q9)
    (kk : ∀ (r : Int32) (u : S) (t : State) (H1 : Heap) (locs1 : List Loc), t.heap = H1 → s.vm.Alike t.vm → post r u → B u t → H.size ≤ H1.size → (∀ q : Nat, q < H.size → ¬ A1 q → H1[q]? = H[q]?) → va_S A0 H0 H1 locs1 → W p l e R s m args below meth c H1 locs1 (cells + mc) (slots + ms) Q (F0 m (pc + 3) ls (.int r :: rest))) : W p l e R s m args below meth c H locs cells slots Q (F0 m pc ls st0) := by
  intro T hT X
  rcases hr T hT X with ⟨v, st₀, t, T', L, h0, X', hL, e1, e2, ⟨⟨r, u, hv, hp, hb⟩, hF⟩, st⟩ | ⟨q, st₀, t, T', L, E, ce, h0, X', hL, e1, e2, ⟨u, hp, hb, hF⟩, hce, hcv, hcl, st⟩
  · cases hv
    obtain ⟨k1, k2, k3⟩ := vx_keep h0 e1 hS hA hf hL hF
    obtain ⟨t2, a1, b1⟩ := kk r u t T'.heap (locs ++ L) e1.symm (by rw [← e2]; exact X'.warmed.alike) hp hb k1 k2 k3 T' rfl X'
    exact ⟨t2, st t2 a1, b1⟩
  · obtain ⟨k1, k2, k3⟩ := vx_keep h0 e1 hS hAX hf hL hF
    obtain ⟨t2, a1, b1⟩ := kx E ce q u t T'.heap (locs ++ L) e1.symm (by rw [← e2]; exact X'.warmed.alike) hp hb k1 k2 k3 (by rw [e1]; exact hce) hcv hcl T' rfl X'
    exact ⟨t2, st.trans a1, b1⟩
theorem vx_calll {S SX : Type} {post : Int64 → S → Prop} {px : SX → Prop} {B : S → State → Prop} {BX : String → SX → State → Prop} {AX : Nat → Prop} (hr : vx_Run p l e R s m args below meth c H locs cells slots mc ms (F0 m pc ls st0) rest (va_Ql post B A1 a) (vx_X px BX AX) free) (hS : va_S A0 H0 H locs) (hA : ∀ q, q < H.size → A1 q → A0 q) (hf : ∀ q, free q → A0 q) (hAX : ∀ q, q < H.size → AX q → A0 q)
    (kx : ∀ (E : String) (ce : Cell) (q9 : Addr) (u : SX) (t : State) (H1 : Heap) (locs1 : List Loc), t.heap = H1 → s.vm.Alike t.vm → px u → BX E u t → H.size ≤ H1.size → (∀ q : Nat, q < H.size → ¬ AX q → H1[q]? = H[q]?) → va_S A0 H0 H1 locs1 → H1[q9]? = some ce → ce.vm = .none → s.vm.findClass E = some ce.cls → vx_W p l e R s m args below meth c H1 locs1 (cells + mc) (slots + ms) Q (F0 m pc ls rest) q9)
    (kk : ∀ (r : Int64) (u : S) (t : State) (H1 : Heap) (locs1 : List Loc), t.heap = H1 → s.vm.Alike t.vm → post r u → B u t → H.size ≤ H1.size → (∀ q : Nat, q < H.size → ¬ A1 q → H1[q]? = H[q]?) → va_S A0 H0 H1 locs1 → W p l e R s m args below meth c H1 locs1 (cells + mc) (slots + ms) Q (F0 m (pc + 3) ls (.long r :: rest))) : W p l e R s m args below meth c H locs cells slots Q (F0 m pc ls st0) := by
  intro T hT X
  rcases hr T hT X with ⟨v, st₀, t, T', L, h0, X', hL, e1, e2, ⟨⟨r, u, hv, hp, hb⟩, hF⟩, st⟩ | ⟨q, st₀, t, T', L, E, ce, h0, X', hL, e1, e2, ⟨u, hp, hb, hF⟩, hce, hcv, hcl, st⟩
  · cases hv
    obtain ⟨k1, k2, k3⟩ := vx_keep h0 e1 hS hA hf hL hF
    obtain ⟨t2, a1, b1⟩ := kk r u t T'.heap (locs ++ L) e1.symm (by rw [← e2]; exact X'.warmed.alike) hp hb k1 k2 k3 T' rfl X'
    exact ⟨t2, st t2 a1, b1⟩
  · obtain ⟨k1, k2, k3⟩ := vx_keep h0 e1 hS hAX hf hL hF
    obtain ⟨t2, a1, b1⟩ := kx E ce q u t T'.heap (locs ++ L) e1.symm (by rw [← e2]; exact X'.warmed.alike) hp hb k1 k2 k3 (by rw [e1]; exact hce) hcv hcl T' rfl X'
    exact ⟨t2, st.trans a1, b1⟩
theorem vx_callf {S SX : Type} {post : UInt32 → S → Prop} {px : SX → Prop} {B : S → State → Prop} {BX : String → SX → State → Prop} {AX : Nat → Prop} (hr : vx_Run p l e R s m args below meth c H locs cells slots mc ms (F0 m pc ls st0) rest (va_Qf post B A1 a) (vx_X px BX AX) free) (hS : va_S A0 H0 H locs) (hA : ∀ q, q < H.size → A1 q → A0 q) (hf : ∀ q, free q → A0 q) (hAX : ∀ q, q < H.size → AX q → A0 q)
    (kx : ∀ (E : String) (ce : Cell) (q9 : Addr) (u : SX) (t : State) (H1 : Heap) (locs1 : List Loc), t.heap = H1 → s.vm.Alike t.vm → px u → BX E u t → H.size ≤ H1.size → (∀ q : Nat, q < H.size → ¬ AX q → H1[q]? = H[q]?) → va_S A0 H0 H1 locs1 → H1[q9]? = some ce → ce.vm = .none → s.vm.findClass E = some ce.cls → vx_W p l e R s m args below meth c H1 locs1 (cells + mc) (slots + ms) Q (F0 m pc ls rest) q9)
    (kk : ∀ (r : UInt32) (u : S) (t : State) (H1 : Heap) (locs1 : List Loc), t.heap = H1 → s.vm.Alike t.vm → post r u → B u t → H.size ≤ H1.size → (∀ q : Nat, q < H.size → ¬ A1 q → H1[q]? = H[q]?) → va_S A0 H0 H1 locs1 → W p l e R s m args below meth c H1 locs1 (cells + mc) (slots + ms) Q (F0 m (pc + 3) ls (.float r :: rest))) : W p l e R s m args below meth c H locs cells slots Q (F0 m pc ls st0) := by
  intro T hT X
  rcases hr T hT X with ⟨v, st₀, t, T', L, h0, X', hL, e1, e2, ⟨⟨r, u, hv, hp, hb⟩, hF⟩, st⟩ | ⟨q, st₀, t, T', L, E, ce, h0, X', hL, e1, e2, ⟨u, hp, hb, hF⟩, hce, hcv, hcl, st⟩
  · cases hv
    obtain ⟨k1, k2, k3⟩ := vx_keep h0 e1 hS hA hf hL hF
    obtain ⟨t2, a1, b1⟩ := kk r u t T'.heap (locs ++ L) e1.symm (by rw [← e2]; exact X'.warmed.alike) hp hb k1 k2 k3 T' rfl X'
    exact ⟨t2, st t2 a1, b1⟩
  · obtain ⟨k1, k2, k3⟩ := vx_keep h0 e1 hS hAX hf hL hF
    obtain ⟨t2, a1, b1⟩ := kx E ce q u t T'.heap (locs ++ L) e1.symm (by rw [← e2]; exact X'.warmed.alike) hp hb k1 k2 k3 (by rw [e1]; exact hce) hcv hcl T' rfl X'
    exact ⟨t2, st.trans a1, b1⟩
theorem vx_calld {S SX : Type} {post : UInt64 → S → Prop} {px : SX → Prop} {B : S → State → Prop} {BX : String → SX → State → Prop} {AX : Nat → Prop} (hr : vx_Run p l e R s m args below meth c H locs cells slots mc ms (F0 m pc ls st0) rest (va_Qd post B A1 a) (vx_X px BX AX) free) (hS : va_S A0 H0 H locs) (hA : ∀ q, q < H.size → A1 q → A0 q) (hf : ∀ q, free q → A0 q) (hAX : ∀ q, q < H.size → AX q → A0 q)
    (kx : ∀ (E : String) (ce : Cell) (q9 : Addr) (u : SX) (t : State) (H1 : Heap) (locs1 : List Loc), t.heap = H1 → s.vm.Alike t.vm → px u → BX E u t → H.size ≤ H1.size → (∀ q : Nat, q < H.size → ¬ AX q → H1[q]? = H[q]?) → va_S A0 H0 H1 locs1 → H1[q9]? = some ce → ce.vm = .none → s.vm.findClass E = some ce.cls → vx_W p l e R s m args below meth c H1 locs1 (cells + mc) (slots + ms) Q (F0 m pc ls rest) q9)
    (kk : ∀ (r : UInt64) (u : S) (t : State) (H1 : Heap) (locs1 : List Loc), t.heap = H1 → s.vm.Alike t.vm → post r u → B u t → H.size ≤ H1.size → (∀ q : Nat, q < H.size → ¬ A1 q → H1[q]? = H[q]?) → va_S A0 H0 H1 locs1 → W p l e R s m args below meth c H1 locs1 (cells + mc) (slots + ms) Q (F0 m (pc + 3) ls (.double r :: rest))) : W p l e R s m args below meth c H locs cells slots Q (F0 m pc ls st0) := by
  intro T hT X
  rcases hr T hT X with ⟨v, st₀, t, T', L, h0, X', hL, e1, e2, ⟨⟨r, u, hv, hp, hb⟩, hF⟩, st⟩ | ⟨q, st₀, t, T', L, E, ce, h0, X', hL, e1, e2, ⟨u, hp, hb, hF⟩, hce, hcv, hcl, st⟩
  · cases hv
    obtain ⟨k1, k2, k3⟩ := vx_keep h0 e1 hS hA hf hL hF
    obtain ⟨t2, a1, b1⟩ := kk r u t T'.heap (locs ++ L) e1.symm (by rw [← e2]; exact X'.warmed.alike) hp hb k1 k2 k3 T' rfl X'
    exact ⟨t2, st t2 a1, b1⟩
  · obtain ⟨k1, k2, k3⟩ := vx_keep h0 e1 hS hAX hf hL hF
    obtain ⟨t2, a1, b1⟩ := kx E ce q u t T'.heap (locs ++ L) e1.symm (by rw [← e2]; exact X'.warmed.alike) hp hb k1 k2 k3 (by rw [e1]; exact hce) hcv hcl T' rfl X'
    exact ⟨t2, st.trans a1, b1⟩
theorem vx_callv {S SX : Type} {post : S → Prop} {px : SX → Prop} {B : S → State → Prop} {BX : String → SX → State → Prop} {AX : Nat → Prop} (hr : vx_Run p l e R s m args below meth c H locs cells slots mc ms (F0 m pc ls st0) rest (va_Qv post B A1 a) (vx_X px BX AX) free) (hS : va_S A0 H0 H locs) (hA : ∀ q, q < H.size → A1 q → A0 q) (hf : ∀ q, free q → A0 q) (hAX : ∀ q, q < H.size → AX q → A0 q)
    (kx : ∀ (E : String) (ce : Cell) (q9 : Addr) (u : SX) (t : State) (H1 : Heap) (locs1 : List Loc), t.heap = H1 → s.vm.Alike t.vm → px u → BX E u t → H.size ≤ H1.size → (∀ q : Nat, q < H.size → ¬ AX q → H1[q]? = H[q]?) → va_S A0 H0 H1 locs1 → H1[q9]? = some ce → ce.vm = .none → s.vm.findClass E = some ce.cls → vx_W p l e R s m args below meth c H1 locs1 (cells + mc) (slots + ms) Q (F0 m pc ls rest) q9)
    (kk : ∀ (u : S) (t : State) (H1 : Heap) (locs1 : List Loc), t.heap = H1 → s.vm.Alike t.vm → post u → B u t → H.size ≤ H1.size → (∀ q : Nat, q < H.size → ¬ A1 q → H1[q]? = H[q]?) → va_S A0 H0 H1 locs1 → W p l e R s m args below meth c H1 locs1 (cells + mc) (slots + ms) Q (F0 m (pc + 3) ls (rest))) : W p l e R s m args below meth c H locs cells slots Q (F0 m pc ls st0) := by
  intro T hT X
  rcases hr T hT X with ⟨v, st₀, t, T', L, h0, X', hL, e1, e2, ⟨⟨u, hv, hp, hb⟩, hF⟩, st⟩ | ⟨q, st₀, t, T', L, E, ce, h0, X', hL, e1, e2, ⟨u, hp, hb, hF⟩, hce, hcv, hcl, st⟩
  · cases hv
    obtain ⟨k1, k2, k3⟩ := vx_keep h0 e1 hS hA hf hL hF
    obtain ⟨t2, a1, b1⟩ := kk u t T'.heap (locs ++ L) e1.symm (by rw [← e2]; exact X'.warmed.alike) hp hb k1 k2 k3 T' rfl X'
    exact ⟨t2, st t2 a1, b1⟩
  · obtain ⟨k1, k2, k3⟩ := vx_keep h0 e1 hS hAX hf hL hF
    obtain ⟨t2, a1, b1⟩ := kx E ce q u t T'.heap (locs ++ L) e1.symm (by rw [← e2]; exact X'.warmed.alike) hp hb k1 k2 k3 (by rw [e1]; exact hce) hcv hcl T' rfl X'
    exact ⟨t2, st.trans a1, b1⟩
/-- caught by the row x of this method's table; the rows ahead don't take it -/
theorem vx_catch {own name : String} {E : String} {ce : Cell} {q : Addr} (hown : s.vm.findClass own = some m.cls) (pre : List ExceptionTableEntry) (x : ExceptionTableEntry) (suf : List ExceptionTableEntry) (hsplit : c.exceptionTable.toList = pre ++ x :: suf)
    (hpass : ∀ z ∈ pre, covers z pc = false ∨ (z.catchType ≠ 0 ∧ ∃ nm : String, (Cond.classLink own z.catchType nm).before args s = true ∧ va_Nc E nm s)) (hx : covers x pc = true) (h0 : x.catchType ≠ 0)
    (hlink : (Cond.classLink own x.catchType name).before args s = true) (hcast : (Cond.castable E name).before args s = true) (hcell : H[q]? = some ce) (hv : ce.vm = .none) (hcl : s.vm.findClass E = some ce.cls)
    (kk : W p l e R s m args below meth c H locs cells slots Q (F0 m x.handlerPc ls [.ref q])) : vx_W p l e R s m args below meth c H locs cells slots Q (F0 m pc ls rest) q := by
  intro T hT X
  have hpl : e.platform.magicAccessors = ({} : Platform).magicAccessors := by rw [X.admits.platform]
  obtain ⟨c3, c4, hc3, hc4, hasg⟩ := Cond.castable_spec hcast
  cases Option.some.inj (hc3.symm.trans hcl)
  obtain ⟨c5, hc5, hcl5⟩ := Cond.classLink_spec hown hlink e.platform hpl
  cases Option.some.inj (hc4.symm.trans hc5)
  obtain ⟨vm', X', st⟩ := X.thenCaughtThrough q (g := F0 m pc ls rest) rfl (Steps.refl _) (by rw [hT]; exact hcell) (by rw [hv]; rfl) (by obtain ⟨k9, h9, -⟩ := Vm.findClass_spec hcl; exact ⟨k9, h9⟩) pre x suf hsplit
    (fun z hz => by
      rcases hpass z hz with h | ⟨hz0, nm, hl1, hn1⟩
      · exact Or.inl h
      · obtain ⟨c6, hc6, hcl6⟩ := Cond.classLink_spec hown hl1 e.platform hpl
        obtain ⟨a8, b8, h1, h2, h3⟩ := hn1
        cases Option.some.inj (h1.symm.trans hcl)
        cases Option.some.inj (h2.symm.trans hc6)
        exact Or.inr ⟨hz0, _, hcl6, h3⟩) hx (Or.inr ⟨h0, c4, hcl5, hasg⟩)
  obtain ⟨t, a1, b1⟩ := kk (T.setVm vm') hT X'
  exact ⟨t, st.trans a1, b1⟩
end Rows
section Ends
variable {p : Program} {l : Launch} {e : Env} {R : Room} {s : State} {m : MethodId} {args : Array Value} {below : List Frame} {meth : Method} {c : Code} {H : Heap} {locs : List Loc} {cells slots : Nat} {Q : State → Prop}
variable {mc ms : Nat} {free : Addr → Prop} {A0 A1 : Nat → Prop} {H0 : Heap} {a : Array Value} {ls : Array Slot} {st0 rest : List Value}
variable {Qc : Array Value → State → Outcome → State → Prop} {XC : String → State → State → Prop}
/-- what a body that may throw owes at its end -/
def vx_MQ (below : List Frame) (Qc : Array Value → State → Outcome → State → Prop) (XC : String → State → State → Prop) (a : Array Value) (s : State) (mc ms : Nat) (free : Addr → Prop) : State → Prop := fun t =>
  ∃ o, t.status = .running ∧ Ended t below o ∧ vx_Q Qc XC mc ms free a s o t
theorem vx_ret {g : JFrame} {mc ms : Nat} (k : W p l e R s m args below meth c H locs cells slots (MQ below Qc args s mc ms free) g) : W p l e R s m args below meth c H locs cells slots (vx_MQ below Qc XC args s mc ms free) g := by
  intro T hT X
  obtain ⟨t, a1, o, b1, b2, b3, b4⟩ := k T hT X
  exact ⟨t, a1, o, b1, b2, Or.inl ⟨b3, b4⟩⟩
/-- not caught here: it goes on to the caller -/
theorem vx_widen {g : JFrame} {q : Addr} {k n : Nat} (h1 : cells ≤ k) (h2 : slots ≤ n) (kk : vx_W p l e R s m args below meth c H locs k n Q g q) : vx_W p l e R s m args below meth c H locs cells slots Q g q := fun T hT X => kk T hT (stand_widen X h1 h2)
theorem vx_out {pc : Nat} {E : String} {ce : Cell} {q : Addr} {mc ms : Nat} (hout : ∀ x ∈ c.exceptionTable.toList, covers x pc = false) (hlocks : meth.locks = false) (hcell : H[q]? = some ce) (hv : ce.vm = .none) (hcl : s.vm.findClass E = some ce.cls)
    (hx : ∀ t : State, t.heap = H → s.vm.Alike t.vm → XC E s t) (hf : ∀ z ∈ locs, free z.base) (hc : cells ≤ mc) (hs : slots ≤ ms) :
    vx_W p l e R s m args below meth c H locs cells slots (vx_MQ below Qc XC args s mc ms free) (F0 m pc ls rest) q := by
  intro T hT X
  obtain ⟨st1, hrun, hend, hW, hsm⟩ := X.leaveThrown q (g := F0 m pc ls rest) rfl rfl rfl hout hlocks
  have hcell9 : (T.setFrames (.throwing q :: below)).heap[q]? = some ce := by
    show T.heap[q]? = some ce
    rw [hT]; exact hcell
  exact ⟨_, st1, .threw q, hrun, hend, Or.inr ⟨q, rfl, E, ce, locs, hx _ hT hW.alike, hcell9, hv, hcl, hW, hsm.mono hc hs, hf⟩⟩
theorem vx_frame {U : State} {k n : Nat} (h : s.sameButNew ({ U with vm := s.vm } : State) locs k n) : s.heap.size ≤ U.heap.size ∧ ∀ q : Nat, q < s.heap.size → (∀ z ∈ locs, z.base ≠ q) → U.heap[q]? = s.heap[q]? := by
  obtain ⟨-, h2, -, -, -, h6⟩ := h
  refine ⟨h2, fun q hq hz => ?_⟩
  obtain ⟨c9, e1, e2, e3, e4⟩ := h6 q _ (Array.getElem?_eq_getElem hq)
  have hs : c9.slots = (s.heap[q]).slots := Array.ext_getElem? fun i => e4 i fun hm => hz _ hm rfl
  have h9 : c9 = s.heap[q] := by
    rw [hs] at e2
    exact e2
  have e5 : U.heap[q]? = some c9 := e1
  rw [e5, h9, Array.getElem?_eq_getElem hq]
/-- the words of a throw but the four that speak of the heap -/
def vx_no (w : Cond) : Bool := decide (w ≠ .isRef (.static Bundle.tN "UNASSIGNED_STACK" Bundle.steD)) && decide (w ≠ .isRef (.static Bundle.tN "SUPPRESSED_SENTINEL" Bundle.listD)) && decide (w ≠ .laysStatic Bundle.tN "UNASSIGNED_STACK" Bundle.steD) && decide (w ≠ .laysStatic Bundle.tN "SUPPRESSED_SENTINEL" Bundle.listD)
def vx_at0 (own : String) (ic : Nat) (X : String) (names : List String) : List Cond := (Bundle.ownAtoms0 own ic X names).filter vx_no
def vx_atS (own : String) (ic : Nat) (X : String) (names : List String) : List Cond := (Bundle.ownAtoms own ic X names).filter vx_no
/-- a word that the tables alone decide, or a good one -/
def vx_ot (w : Cond) : Bool := w.onTables || goodWord w
theorem vx_ot_at {args a' : Array Value} {s U : State} {w : Cond} (hW : s.WarmedH U.vm) (hvm : s.vm = U.vm) (hg : vx_ot w = true) (h : w.before args s = true) : w.before a' U = true := by
  simp only [vx_ot, Bool.or_eq_true] at hg
  rcases hg with hg | hg
  · exact va_tabs hg hvm h
  · exact word_at hW (good_of_word hg) h
/-- a list's words: the good ones out of the method's own list, the others by premises of their own -/
theorem vx_hat {args : Array Value} {s : State} {L B : List Cond} (h1 : ∀ w ∈ L.filter goodWord, w.before args s = true) (h2 : ∀ w ∈ L.filter (fun w => !goodWord w), w ∈ B) (h3 : ∀ w ∈ B, w.before args s = true) : ∀ w ∈ L, w.before args s = true := by
  intro w hw
  by_cases g : goodWord w = true
  · exact h1 w (List.mem_filter.mpr ⟨hw, g⟩)
  · refine h3 w (h2 w (List.mem_filter.mpr ⟨hw, ?_⟩))
    show (!goodWord w) = true
    cases hgw : goodWord w
    · rfl
    · exact absurd hgw g
theorem vx_c {args : Array Value} {s : State} {w : Cond} {B : List Cond} (h : w.before args s = true) (t : ∀ w ∈ B, w.before args s = true) : ∀ w' ∈ w :: B, w'.before args s = true := fun w' h' => (List.mem_cons.mp h').elim (fun e => by rw [e]; exact h) (t w')
theorem vx_n {args : Array Value} {s : State} : ∀ w ∈ ([] : List Cond), w.before args s = true := fun _ h => nomatch h
theorem vx_own {args : Array Value} {s : State} {L : List Cond} (h1 : ∀ w ∈ L.filter vx_no, w.before args s = true)
    (hU : (Cond.isRef (.static Bundle.tN "UNASSIGNED_STACK" Bundle.steD)).before args s = true) (hN : (Cond.isRef (.static Bundle.tN "SUPPRESSED_SENTINEL" Bundle.listD)).before args s = true)
    (lU : (Cond.laysStatic Bundle.tN "UNASSIGNED_STACK" Bundle.steD).before args s = true) (lN : (Cond.laysStatic Bundle.tN "SUPPRESSED_SENTINEL" Bundle.listD).before args s = true) : ∀ w ∈ L, w.before args s = true := by
  intro w hw
  by_cases e1 : w = .isRef (.static Bundle.tN "UNASSIGNED_STACK" Bundle.steD)
  · rw [e1]; exact hU
  · by_cases e2 : w = .isRef (.static Bundle.tN "SUPPRESSED_SENTINEL" Bundle.listD)
    · rw [e2]; exact hN
    · by_cases e3 : w = .laysStatic Bundle.tN "UNASSIGNED_STACK" Bundle.steD
      · rw [e3]; exact lU
      · by_cases e4 : w = .laysStatic Bundle.tN "SUPPRESSED_SENTINEL" Bundle.listD
        · rw [e4]; exact lN
        · exact h1 w (List.mem_filter.mpr ⟨hw, by unfold vx_no; rw [decide_eq_true e1, decide_eq_true e2, decide_eq_true e3, decide_eq_true e4]; rfl⟩)
/-- where a static field lies, its class's statics cell in H -/
def vx_L (C n d : String) (A : Nat → Prop) (U : State) (H : Heap) : Prop := ∃ (c : ClassId) (k : Class) (i : Nat) (f : Field) (a : Nat) (cell : Cell), U.vm.findClass C = some c ∧ U.fieldFound? C n d = some (c, k, i, f) ∧ f.isStatic = true ∧ k.statics = some a ∧ H[a]? = some cell ∧ cell.vm.isStatics = true ∧ cell.cls = c ∧ f.slot < cell.slots.size ∧ k.staticTypes[f.slot]? = some f.type ∧ ¬ A a
theorem vx_L.moved {C n d : String} {A : Nat → Prop} {u U : State} {H : Heap} (hvm : u.vm.Alike U.vm) (h : vx_L C n d A u H) : vx_L C n d A U H := by
  obtain ⟨c, k, i, f, a, cell, h1, h2, h3, h4, h5, h6, h7, h8, h9, h10⟩ := h
  obtain ⟨k', hi', he⟩ := State.fieldFound?_setVm hvm h2
  exact ⟨c, k', i, f, a, cell, by rw [hvm.findClass]; exact h1, hi', h3, by rw [he]; exact h4, h5, h6, h7, h8, by rw [he]; exact h9, h10⟩
theorem vx_L.kept {C n d : String} {A : Nat → Prop} {U : State} {H H1 : Heap} (h : vx_L C n d A U H) (hq : ∀ a : Nat, a < H.size → ¬ A a → H1[a]? = H[a]?) : vx_L C n d A U H1 := by
  obtain ⟨c, k, i, f, a, cell, h1, h2, h3, h4, h5, h6, h7, h8, h9, h10⟩ := h
  exact ⟨c, k, i, f, a, cell, h1, h2, h3, h4, by rw [hq a (Array.getElem?_eq_some_iff.mp h5).1 h10]; exact h5, h6, h7, h8, h9, h10⟩
theorem vx_L.narrow {C n d : String} {A B : Nat → Prop} {U : State} {H : Heap} (h : vx_L C n d A U H) (hAB : ∀ q, B q → A q) : vx_L C n d B U H := by
  obtain ⟨c, k, i, f, a, cell, h1, h2, h3, h4, h5, h6, h7, h8, h9, h10⟩ := h
  exact ⟨c, k, i, f, a, cell, h1, h2, h3, h4, h5, h6, h7, h8, h9, fun z => h10 (hAB _ z)⟩
theorem vx_L.word {C n d : String} {A : Nat → Prop} {s : State} {args : Array Value} (h : vx_L C n d A s s.heap) : (Cond.laysStatic C n d).before args s = true := by
  obtain ⟨c, k, i, f, a, cell, h1, h2, h3, h4, h5, h6, h7, h8, h9, -⟩ := h
  show (Cond.laysStatic C n d).holds args s none s [] = true
  exact Cond.laysStatic_of h1 h2 h3 h4 h5 h6 h7 h8 h9
/-- .. and what it holds: null or some reference -/
def vx_Zq (C n d : String) (A : Nat → Prop) (U : State) (H : Heap) : Prop := va_Zq C n d A U H ∧ vx_L C n d A U H
theorem vx_Zq.moved {C n d : String} {A : Nat → Prop} {u U : State} {H : Heap} (hvm : u.vm.Alike U.vm) (h : vx_Zq C n d A u H) : vx_Zq C n d A U H := ⟨va_Zq.moved hvm h.1, vx_L.moved hvm h.2⟩
theorem vx_Zq.kept {C n d : String} {A : Nat → Prop} {U : State} {H H1 : Heap} (h : vx_Zq C n d A U H) (hq : ∀ a : Nat, a < H.size → ¬ A a → H1[a]? = H[a]?) : vx_Zq C n d A U H1 := ⟨va_Zq.kept h.1 hq, vx_L.kept h.2 hq⟩
theorem vx_Zq.narrow {C n d : String} {A B : Nat → Prop} {U : State} {H : Heap} (h : vx_Zq C n d A U H) (hAB : ∀ q, B q → A q) : vx_Zq C n d B U H := ⟨va_Zq.narrow h.1 hAB, vx_L.narrow h.2 hAB⟩
theorem vx_Zqof {args : Array Value} {s : State} {C n d : String} {A : Nat → Prop} (hl : (Cond.laysStatic C n d).before args s = true) (hini : (Cond.initialized C).before args s = true) (h : (Cond.isRef (.static C n d)).before args s = true) (hA : ∀ a : Nat, a < s.heap.size → ¬ A a) : vx_Zq C n d A s s.heap := by
  refine ⟨va_Zqof hl hini h hA, ?_⟩
  obtain ⟨c, k, i, f, a, cell, h1, h2, h3, h4, h5, h6, h7, h8, h9⟩ := Cond.laysStatic_spec hl
  exact ⟨c, k, i, f, a, cell, h1, h2, h3, h4, h5, h6, h7, h8, h9, hA a (Array.getElem?_eq_some_iff.mp h5).1⟩
theorem vx_isRef {C n d : String} {v : Value} {A : Nat → Prop} {s : State} {args : Array Value} (h : va_Z C n d v A s s.heap) (hv : v.isRef = true) : (Cond.isRef (.static C n d)).before args s = true := by
  obtain ⟨cf, kf, fi, f, a, cell, h1, h2, h3, h4, h5, h6, h7, -⟩ := h
  have he : (Term.static C n d).eval args s none [] s = some v := by
    simp [Term.eval, State.fieldNamed?, h1, h2, h4, h5, h6, h7]
  simp only [Cond.before, Cond.holds, Cond.value, he]
  cases v <;> simp_all [Value.isRef]
theorem vx_isRefq {C n d : String} {A : Nat → Prop} {s : State} {args : Array Value} (h : va_Zq C n d A s s.heap) : (Cond.isRef (.static C n d)).before args s = true := by
  rcases h with h | ⟨t, h⟩
  · exact vx_isRef h rfl
  · exact vx_isRef h rfl
/-- the same frame, seen from here: as if the method were called anew in this heap -/
theorem vx_rebase {T : State} (X : Stand p l e R s m args below meth c T locs cells slots) {R' : Room} (hf : R'.frames ≤ R.frames) (hl : R'.locals ≤ R.locals) (hc : cells + R'.cells ≤ R.cells) (hs : slots + R'.slots ≤ R.slots) :
    Stand p l e R' ((T.setVm s.vm).setFrames (.invoking m args :: below)) m args below meth c T [] 0 0 := by
  have htop : (T.setVm s.vm).topJava?.isSome := X.here.top
  have hF : ((T.setVm s.vm).setFrames (.invoking m args :: below)).frames = .invoking m args :: below := State.frames_setFrames _ (State.cur_lt_of_top htop)
  obtain ⟨g₀, hg0⟩ := Option.isSome_iff_exists.mp htop
  obtain ⟨r, hr⟩ := State.topJava?_eq_some.mp hg0
  have hl9 : e.platform.stackLimits (T.setVm s.vm).me = e.platform.stackLimits s.me := X.limits
  have hb9 : (T.setVm s.vm).me.stackBytes = s.me.stackBytes := X.bytes
  refine ⟨X.admits, X.cas, X.clock, hF, ?_, X.hears, X.method, X.code, X.here, X.tail, X.warmed, ?_, ?_, ?_⟩
  · have h := X.room
    have hU : ((T.setVm s.vm).setFrames (.invoking m args :: below)).localsInUse = s.localsInUse := by
      rw [State.localsInUse_invoking hF (meth := meth) (c := c) X.method X.code, State.localsInUse_invoking X.frames X.method X.code]
    simp only [State.hasRoom, Bool.and_eq_true, decide_eq_true_eq] at h ⊢
    obtain ⟨⟨⟨⟨h1, h2, h3, h4, h5, h6⟩, h7⟩, h8⟩, h9⟩ := h
    rw [X.frames, List.length_cons] at h2 h3
    have q1 := X.heapSize
    have q2 := X.used
    simp only [hF, hU, List.length_cons, State.stackLimits_setFrames, State.stackBytes_setFrames, hl9, hb9]
    refine ⟨⟨⟨⟨by omega, by omega, by omega, by omega, by omega, h6⟩, ?_⟩, ?_⟩, X.book⟩
    · show T.heap.size + R'.cells ≤ e.platform.maxCells
      omega
    · show T.slotsUsed + R'.slots ≤ e.platform.maxSlots
      omega
  · rw [State.stackLimits_setFrames]; rfl
  · rw [State.stackBytes_setFrames]; rfl
  · refine ⟨?_, Nat.le_refl _, Nat.le_refl _, ?_, ?_, fun a c9 h9 => ⟨c9, h9, rfl, rfl, fun _ _ => rfl⟩⟩
    · obtain ⟨t, ht, -⟩ := State.frames_cons hr
      show T.setVm s.vm = { ((T.setVm s.vm).setFrames (.invoking m args :: below)).setFrames (T.setVm s.vm).frames with heap := T.heap, slotsUsed := T.slotsUsed }
      rw [State.setFrames_setFrames, State.setFrames_self ht]
      rfl
    · show T.slotsUsed = T.slotsUsed + ((T.heap.toList.drop T.heap.size).map (·.slots.size)).sum
      rw [List.drop_eq_nil_of_le (Nat.le_of_eq Array.length_toList)]
      rfl
    · show ((T.heap.toList.drop T.heap.size).map (·.slots.size)).sum ≤ 0
      rw [List.drop_eq_nil_of_le (Nat.le_of_eq Array.length_toList)]
      exact Nat.le_refl _
/-- 'throw new E()': new; dup; invokespecial; athrow -/
theorem vx_throw0 {cc : ByteArray} {pc : Nat} (hexec : p.tables.exec = Jvm.exec) (hb : c.code = cc) (hl : l.stackTraces = false) {own cls : String} {names : List String} {ik ic mc ms : Nat} {A : Nat → Prop}
    (hown : s.vm.findClass own = some m.cls) (hcls : Bundle.fit cls = true) (hnames : ∀ n ∈ names, Bundle.fit n = true)
    (hk : (Cond.classLink own ik cls).before args s = true) (hini : (Cond.initialized cls).before args s = true) (hat : ∀ w ∈ vx_at0 own ic cls names, w.before args s = true)
    (hgood : ∀ w ∈ Cond.classLink own ik cls :: Cond.initialized cls :: vx_at0 own ic cls names, vx_ot w = true)
    (hU : vx_Zq Bundle.tN "UNASSIGNED_STACK" Bundle.steD A s s.heap) (hN : vx_Zq Bundle.tN "SUPPRESSED_SENTINEL" Bundle.listD A s s.heap) (hS : va_S A s.heap H locs) (hsize : ls.size = c.maxLocals)
    (d0 : decode cc pc = .ok (.new ik, 3)) (d3 : decode cc (pc + 3) = .ok (.dup, 1)) (d4 : decode cc (pc + 4) = .ok (.invokespecial ic, 3)) (d7 : decode cc (pc + 7) = .ok (.athrow, 1))
    (hout : ∀ x ∈ c.exceptionTable.toList, covers x (pc + 7) = false)
    (hRframes : names.length + 3 < R.frames) (hRlocals : (rest.map fun v => v.category).sum + (13 * (names.length + 1) + 42) ≤ R.locals) (hRcells : cells + 1 ≤ R.cells) (hRslots : slots + 6 ≤ R.slots) (hlocks : meth.locks = false)
    (hx : ∀ t : State, s.vm.Alike t.vm → H.size ≤ t.heap.size → (∀ q : Nat, q < H.size → t.heap[q]? = H[q]?) → XC cls s t)
    (hf : ∀ z ∈ locs, free z.base) (hc : cells + 1 ≤ mc) (hs : slots + 6 ≤ ms) :
    W p l e R s m args below meth c H locs cells slots (vx_MQ below Qc XC args s mc ms free) (F0 m pc ls rest) := by
  intro T hT X
  have htr : e.platform.stackTraces = false := (show e.platform.stackTraces = l.stackTraces by rw [X.admits.platform]).trans hl
  have Y := vx_rebase X (R' := { frames := R.frames, locals := R.locals, cells := 1, slots := 6 }) (Nat.le_refl _) (Nat.le_refl _) hRcells hRslots
  obtain ⟨s', hA⟩ : ∃ z, z = (T.setVm s.vm).setFrames (.invoking m args :: below) := ⟨_, rfl⟩
  rw [← hA] at Y
  have hvm : s'.vm = s.vm := by rw [hA]; rfl
  have hhp : s'.heap = H := by rw [hA]; exact hT
  have hW0 : s.WarmedH s'.vm := by rw [hvm]; exact State.WarmedH.refl s
  have hat' : ∀ w ∈ vx_at0 own ic cls names, w.before args s' = true := fun w hw => vx_ot_at hW0 hvm.symm (hgood w (List.mem_cons_of_mem _ (List.mem_cons_of_mem _ hw))) (hat w hw)
  have hk' : (Cond.classLink own ik cls).before args s' = true := vx_ot_at hW0 hvm.symm (hgood _ List.mem_cons_self) hk
  have hini' : (Cond.initialized cls).before args s' = true := vx_ot_at hW0 hvm.symm (hgood _ (List.mem_cons_of_mem _ List.mem_cons_self)) hini
  have hU' : vx_Zq Bundle.tN "UNASSIGNED_STACK" Bundle.steD A s' s'.heap := by rw [hhp]; exact vx_Zq.moved hW0.alike (hU.kept hS.2.1)
  have hN' : vx_Zq Bundle.tN "SUPPRESSED_SENTINEL" Bundle.listD A s' s'.heap := by rw [hhp]; exact vx_Zq.moved hW0.alike (hN.kept hS.2.1)
  have h : ∀ w ∈ Bundle.ownAtoms0 own ic cls names, w.before args s' = true := vx_own hat' (vx_isRefq hU'.1) (vx_isRefq hN'.1) hU'.2.word hN'.2.word
  have hown' : s'.vm.findClass own = some m.cls := by rw [hvm]; exact hown
  have hins : (Cond.instantiable cls 6).before args s' = true := h _ (by simp [Bundle.ownAtoms0])
  obtain ⟨vm₁, cX, kX, hfX, hkX, -, -, X₁, st1⟩ := Y.newCold hexec (own := own) (C := cls) (index := ik) (n := 6) hown' hk' hins hini'
    (g := F0 m pc ls rest) rfl (by rw [hb]; exact d0) (Nat.le_refl _) (Nat.le_refl _)
  generalize hT1 : (T.setVm vm₁).pushCell { cls := cX, slots := kX.instanceTypes.map defaultValue, vm := .none } = T1 at X₁ st1
  have hcat : (Value.ref T.heap.size).category = 1 := rfl
  have hcellA : T1.heap[T.heap.size]? = some (freshCell cX kX) := by rw [← hT1]; exact State.heap_pushCell_size _ _
  have d3' : decode c.code (pc + 3) = .ok (.dup, 1) := by rw [hb]; exact d3
  obtain ⟨U, hsteps, hrun, hend, hW, hsame, ce, hce, hO⟩ := X₁.ctorThrow0 hexec htr (own := own) (cls := cls) (names := names) (ic := ic) hown' hcls hnames h (fun x hx => nomatch hx) hfX hkX hcellA (by rw [hhp, hT]; exact Nat.le_refl _)
    (g := { method := m, pc := pc + 4, locals := ls, stack := .ref T.heap.size :: .ref T.heap.size :: rest, locked := none }) rfl hsize rfl rfl (rest := rest) rfl
    (by rw [hb]; exact d4) (by rw [hb]; exact d7) hout hRframes (by simp only [List.map_cons, List.sum_cons, hcat]; omega) hlocks
  obtain ⟨f1, f2⟩ := vx_frame hsame
  rw [hhp] at f1 f2
  have hWs : s.WarmedH U.vm := State.WarmedH.trans hW0 hW
  have hcl : s.vm.findClass cls = some ce.cls := by
    have h9 := hO.cls
    rw [hvm] at h9
    exact h9
  have hall : s.sameButNew ({ U with vm := s.vm } : State) locs mc ms := by
    subst hA
    obtain ⟨e1, e2⟩ := hsame
    rw [State.setFrames_setFrames] at e1
    have h2 : (T.setVm s.vm).sameButNew ({ U with vm := s.vm } : State) [] (0 + 1) (0 + 6) := ⟨e1, e2⟩
    have h3 := X.same.trans h2
    rw [List.append_nil] at h3
    exact h3.mono hc hs
  refine ⟨U, ?_, .threw T.heap.size, hrun, hend, Or.inr ⟨T.heap.size, rfl, cls, ce, locs, hx U hWs.alike f1 (fun q hq => f2 q hq (fun z hz => nomatch hz)), hce, hO.vm, hcl, hWs, hall, hf⟩⟩
  refine st1 _ ?_
  show Steps p.tables e below (T1.setTop { method := m, pc := pc + 3, locals := ls, stack := .ref T.heap.size :: rest, locked := none }) _
  jvm_step X₁.here [X₁.here.top, hexec, d3', Value.category]
  exact hsteps
/-- 'throw new E("text")': new; dup; ldc; invokespecial; athrow -/
theorem vx_throwS {cc : ByteArray} {pc : Nat} (hexec : p.tables.exec = Jvm.exec) (hb : c.code = cc) (hl : l.stackTraces = false) {own cls text : String} {names : List String} {ik is ic mc ms sa : Nat} {A : Nat → Prop}
    (hown : s.vm.findClass own = some m.cls) (hcls : Bundle.fit cls = true) (hnames : ∀ n ∈ names, Bundle.fit n = true)
    (hk : (Cond.classLink own ik cls).before args s = true) (hini : (Cond.initialized cls).before args s = true) (hstr : vk_R own is text sa s) (hat : ∀ w ∈ vx_atS own ic cls names, w.before args s = true)
    (hgood : ∀ w ∈ Cond.classLink own ik cls :: Cond.initialized cls :: vx_atS own ic cls names, vx_ot w = true)
    (hU : vx_Zq Bundle.tN "UNASSIGNED_STACK" Bundle.steD A s s.heap) (hN : vx_Zq Bundle.tN "SUPPRESSED_SENTINEL" Bundle.listD A s s.heap) (hS : va_S A s.heap H locs) (hsize : ls.size = c.maxLocals)
    (d0 : decode cc pc = .ok (.new ik, 3)) (d3 : decode cc (pc + 3) = .ok (.dup, 1)) (d4 : decode cc (pc + 4) = .ok (.ldc is, 2)) (d6 : decode cc (pc + 6) = .ok (.invokespecial ic, 3)) (d9 : decode cc (pc + 9) = .ok (.athrow, 1))
    (hout : ∀ x ∈ c.exceptionTable.toList, covers x (pc + 9) = false)
    (hRframes : names.length + 3 < R.frames) (hRlocals : (rest.map fun v => v.category).sum + (13 * (names.length + 1) + 43) ≤ R.locals) (hRcells : cells + 1 ≤ R.cells) (hRslots : slots + 6 ≤ R.slots) (hlocks : meth.locks = false)
    (hx : ∀ t : State, s.vm.Alike t.vm → H.size ≤ t.heap.size → (∀ q : Nat, q < H.size → t.heap[q]? = H[q]?) → XC cls s t)
    (hf : ∀ z ∈ locs, free z.base) (hc : cells + 1 ≤ mc) (hs : slots + 6 ≤ ms) :
    W p l e R s m args below meth c H locs cells slots (vx_MQ below Qc XC args s mc ms free) (F0 m pc ls rest) := by
  intro T hT X
  have htr : e.platform.stackTraces = false := (show e.platform.stackTraces = l.stackTraces by rw [X.admits.platform]).trans hl
  have Y := vx_rebase X (R' := { frames := R.frames, locals := R.locals, cells := 1, slots := 6 }) (Nat.le_refl _) (Nat.le_refl _) hRcells hRslots
  obtain ⟨s', hA⟩ : ∃ z, z = (T.setVm s.vm).setFrames (.invoking m args :: below) := ⟨_, rfl⟩
  rw [← hA] at Y
  have hvm : s'.vm = s.vm := by rw [hA]; rfl
  have hhp : s'.heap = H := by rw [hA]; exact hT
  have hW0 : s.WarmedH s'.vm := by rw [hvm]; exact State.WarmedH.refl s
  have hat' : ∀ w ∈ vx_atS own ic cls names, w.before args s' = true := fun w hw => vx_ot_at hW0 hvm.symm (hgood w (List.mem_cons_of_mem _ (List.mem_cons_of_mem _ hw))) (hat w hw)
  have hk' : (Cond.classLink own ik cls).before args s' = true := vx_ot_at hW0 hvm.symm (hgood _ List.mem_cons_self) hk
  have hini' : (Cond.initialized cls).before args s' = true := vx_ot_at hW0 hvm.symm (hgood _ (List.mem_cons_of_mem _ List.mem_cons_self)) hini
  have hU' : vx_Zq Bundle.tN "UNASSIGNED_STACK" Bundle.steD A s' s'.heap := by rw [hhp]; exact vx_Zq.moved hW0.alike (hU.kept hS.2.1)
  have hN' : vx_Zq Bundle.tN "SUPPRESSED_SENTINEL" Bundle.listD A s' s'.heap := by rw [hhp]; exact vx_Zq.moved hW0.alike (hN.kept hS.2.1)
  have h : ∀ w ∈ Bundle.ownAtoms own ic cls names, w.before args s' = true := vx_own hat' (vx_isRefq hU'.1) (vx_isRefq hN'.1) hU'.2.word hN'.2.word
  have hown' : s'.vm.findClass own = some m.cls := by rw [hvm]; exact hown
  have hins : (Cond.instantiable cls 6).before args s' = true := h _ (by simp [Bundle.ownAtoms])
  obtain ⟨vm₁, cX, kX, hfX, hkX, -, -, X₁, st1⟩ := Y.newCold hexec (own := own) (C := cls) (index := ik) (n := 6) hown' hk' hins hini'
    (g := F0 m pc ls rest) rfl (by rw [hb]; exact d0) (Nat.le_refl _) (Nat.le_refl _)
  generalize hT1 : (T.setVm vm₁).pushCell { cls := cX, slots := kX.instanceTypes.map defaultValue, vm := .none } = T1 at X₁ st1
  have hcat : (Value.ref T.heap.size).category = 1 := rfl
  have hcellA : T1.heap[T.heap.size]? = some (freshCell cX kX) := by rw [← hT1]; exact State.heap_pushCell_size _ _
  have d3' : decode c.code (pc + 3) = .ok (.dup, 1) := by rw [hb]; exact d3
  have d4' : decode c.code (pc + 4) = .ok (.ldc is, 2) := by rw [hb]; exact d4
  have hstr' : vk_R own is text sa s' := vk_R.warm hW0 hstr
  obtain ⟨U, hsteps, hrun, hend, hW, hsame, ce, hce, hO⟩ := X₁.ctorThrowS hexec htr (own := own) (cls := cls) (names := names) (ic := ic) hown' hcls hnames h (fun x hx => nomatch hx) hfX hkX hcellA (by rw [hhp, hT]; exact Nat.le_refl _) (msg := .ref sa) rfl
    (g := { method := m, pc := pc + 6, locals := ls, stack := .ref sa :: .ref T.heap.size :: .ref T.heap.size :: rest, locked := none }) rfl hsize rfl rfl (rest := rest) rfl
    (by rw [hb]; exact d6) (by rw [hb]; exact d9) hout hRframes (by simp only [List.map_cons, List.sum_cons, hcat]; omega) hlocks
  obtain ⟨f1, f2⟩ := vx_frame hsame
  rw [hhp] at f1 f2
  have hWs : s.WarmedH U.vm := State.WarmedH.trans hW0 hW
  have hcl : s.vm.findClass cls = some ce.cls := by
    have h9 := hO.cls
    rw [hvm] at h9
    exact h9
  have hall : s.sameButNew ({ U with vm := s.vm } : State) locs mc ms := by
    subst hA
    obtain ⟨e1, e2⟩ := hsame
    rw [State.setFrames_setFrames] at e1
    have h2 : (T.setVm s.vm).sameButNew ({ U with vm := s.vm } : State) [] (0 + 1) (0 + 6) := ⟨e1, e2⟩
    have h3 := X.same.trans h2
    rw [List.append_nil] at h3
    exact h3.mono hc hs
  refine ⟨U, ?_, .threw T.heap.size, hrun, hend, Or.inr ⟨T.heap.size, rfl, cls, ce, locs, hx U hWs.alike f1 (fun q hq => f2 q hq (fun z hz => nomatch hz)), hce, hO.vm, hcl, hWs, hall, hf⟩⟩
  refine st1 _ ?_
  show Steps p.tables e below (T1.setTop { method := m, pc := pc + 3, locals := ls, stack := .ref T.heap.size :: rest, locked := none }) _
  jvm_step X₁.here [X₁.here.top, hexec, d3', Value.category]
  exact X₁.ldcString hexec (own := own) (text := text) (index := is) (a := sa) hown' hstr'.1 hstr'.2
    (g := { method := m, pc := pc + 4, locals := ls, stack := .ref T.heap.size :: .ref T.heap.size :: rest, locked := none }) rfl d4' _ hsteps
/-- 'throw new E("text")', the text by a wide index -/
theorem vx_throwSW {cc : ByteArray} {pc : Nat} (hexec : p.tables.exec = Jvm.exec) (hb : c.code = cc) (hl : l.stackTraces = false) {own cls text : String} {names : List String} {ik is ic mc ms sa : Nat} {A : Nat → Prop}
    (hown : s.vm.findClass own = some m.cls) (hcls : Bundle.fit cls = true) (hnames : ∀ n ∈ names, Bundle.fit n = true)
    (hk : (Cond.classLink own ik cls).before args s = true) (hini : (Cond.initialized cls).before args s = true) (hstr : vk_R own is text sa s) (hat : ∀ w ∈ vx_atS own ic cls names, w.before args s = true)
    (hgood : ∀ w ∈ Cond.classLink own ik cls :: Cond.initialized cls :: vx_atS own ic cls names, vx_ot w = true)
    (hU : vx_Zq Bundle.tN "UNASSIGNED_STACK" Bundle.steD A s s.heap) (hN : vx_Zq Bundle.tN "SUPPRESSED_SENTINEL" Bundle.listD A s s.heap) (hS : va_S A s.heap H locs) (hsize : ls.size = c.maxLocals)
    (d0 : decode cc pc = .ok (.new ik, 3)) (d3 : decode cc (pc + 3) = .ok (.dup, 1)) (d4 : decode cc (pc + 4) = .ok (.ldc_w is, 3)) (d7 : decode cc (pc + 7) = .ok (.invokespecial ic, 3)) (d10 : decode cc (pc + 10) = .ok (.athrow, 1))
    (hout : ∀ x ∈ c.exceptionTable.toList, covers x (pc + 10) = false)
    (hRframes : names.length + 3 < R.frames) (hRlocals : (rest.map fun v => v.category).sum + (13 * (names.length + 1) + 43) ≤ R.locals) (hRcells : cells + 1 ≤ R.cells) (hRslots : slots + 6 ≤ R.slots) (hlocks : meth.locks = false)
    (hx : ∀ t : State, s.vm.Alike t.vm → H.size ≤ t.heap.size → (∀ q : Nat, q < H.size → t.heap[q]? = H[q]?) → XC cls s t)
    (hf : ∀ z ∈ locs, free z.base) (hc : cells + 1 ≤ mc) (hs : slots + 6 ≤ ms) :
    W p l e R s m args below meth c H locs cells slots (vx_MQ below Qc XC args s mc ms free) (F0 m pc ls rest) := by
  intro T hT X
  have htr : e.platform.stackTraces = false := (show e.platform.stackTraces = l.stackTraces by rw [X.admits.platform]).trans hl
  have Y := vx_rebase X (R' := { frames := R.frames, locals := R.locals, cells := 1, slots := 6 }) (Nat.le_refl _) (Nat.le_refl _) hRcells hRslots
  obtain ⟨s', hA⟩ : ∃ z, z = (T.setVm s.vm).setFrames (.invoking m args :: below) := ⟨_, rfl⟩
  rw [← hA] at Y
  have hvm : s'.vm = s.vm := by rw [hA]; rfl
  have hhp : s'.heap = H := by rw [hA]; exact hT
  have hW0 : s.WarmedH s'.vm := by rw [hvm]; exact State.WarmedH.refl s
  have hat' : ∀ w ∈ vx_atS own ic cls names, w.before args s' = true := fun w hw => vx_ot_at hW0 hvm.symm (hgood w (List.mem_cons_of_mem _ (List.mem_cons_of_mem _ hw))) (hat w hw)
  have hk' : (Cond.classLink own ik cls).before args s' = true := vx_ot_at hW0 hvm.symm (hgood _ List.mem_cons_self) hk
  have hini' : (Cond.initialized cls).before args s' = true := vx_ot_at hW0 hvm.symm (hgood _ (List.mem_cons_of_mem _ List.mem_cons_self)) hini
  have hU' : vx_Zq Bundle.tN "UNASSIGNED_STACK" Bundle.steD A s' s'.heap := by rw [hhp]; exact vx_Zq.moved hW0.alike (hU.kept hS.2.1)
  have hN' : vx_Zq Bundle.tN "SUPPRESSED_SENTINEL" Bundle.listD A s' s'.heap := by rw [hhp]; exact vx_Zq.moved hW0.alike (hN.kept hS.2.1)
  have h : ∀ w ∈ Bundle.ownAtoms own ic cls names, w.before args s' = true := vx_own hat' (vx_isRefq hU'.1) (vx_isRefq hN'.1) hU'.2.word hN'.2.word
  have hown' : s'.vm.findClass own = some m.cls := by rw [hvm]; exact hown
  have hins : (Cond.instantiable cls 6).before args s' = true := h _ (by simp [Bundle.ownAtoms])
  obtain ⟨vm₁, cX, kX, hfX, hkX, -, -, X₁, st1⟩ := Y.newCold hexec (own := own) (C := cls) (index := ik) (n := 6) hown' hk' hins hini'
    (g := F0 m pc ls rest) rfl (by rw [hb]; exact d0) (Nat.le_refl _) (Nat.le_refl _)
  generalize hT1 : (T.setVm vm₁).pushCell { cls := cX, slots := kX.instanceTypes.map defaultValue, vm := .none } = T1 at X₁ st1
  have hcat : (Value.ref T.heap.size).category = 1 := rfl
  have hcellA : T1.heap[T.heap.size]? = some (freshCell cX kX) := by rw [← hT1]; exact State.heap_pushCell_size _ _
  have d3' : decode c.code (pc + 3) = .ok (.dup, 1) := by rw [hb]; exact d3
  have d4' : decode c.code (pc + 4) = .ok (.ldc_w is, 3) := by rw [hb]; exact d4
  have hstr' : vk_R own is text sa s' := vk_R.warm hW0 hstr
  obtain ⟨U, hsteps, hrun, hend, hW, hsame, ce, hce, hO⟩ := X₁.ctorThrowS hexec htr (own := own) (cls := cls) (names := names) (ic := ic) hown' hcls hnames h (fun x hx => nomatch hx) hfX hkX hcellA (by rw [hhp, hT]; exact Nat.le_refl _) (msg := .ref sa) rfl
    (g := { method := m, pc := pc + 7, locals := ls, stack := .ref sa :: .ref T.heap.size :: .ref T.heap.size :: rest, locked := none }) rfl hsize rfl rfl (rest := rest) rfl
    (by rw [hb]; exact d7) (by rw [hb]; exact d10) hout hRframes (by simp only [List.map_cons, List.sum_cons, hcat]; omega) hlocks
  obtain ⟨f1, f2⟩ := vx_frame hsame
  rw [hhp] at f1 f2
  have hWs : s.WarmedH U.vm := State.WarmedH.trans hW0 hW
  have hcl : s.vm.findClass cls = some ce.cls := by
    have h9 := hO.cls
    rw [hvm] at h9
    exact h9
  have hall : s.sameButNew ({ U with vm := s.vm } : State) locs mc ms := by
    subst hA
    obtain ⟨e1, e2⟩ := hsame
    rw [State.setFrames_setFrames] at e1
    have h2 : (T.setVm s.vm).sameButNew ({ U with vm := s.vm } : State) [] (0 + 1) (0 + 6) := ⟨e1, e2⟩
    have h3 := X.same.trans h2
    rw [List.append_nil] at h3
    exact h3.mono hc hs
  refine ⟨U, ?_, .threw T.heap.size, hrun, hend, Or.inr ⟨T.heap.size, rfl, cls, ce, locs, hx U hWs.alike f1 (fun q hq => f2 q hq (fun z hz => nomatch hz)), hce, hO.vm, hcl, hWs, hall, hf⟩⟩
  refine st1 _ ?_
  show Steps p.tables e below (T1.setTop { method := m, pc := pc + 3, locals := ls, stack := .ref T.heap.size :: rest, locked := none }) _
  jvm_step X₁.here [X₁.here.top, hexec, d3', Value.category]
  exact X₁.ldcStringW hexec (own := own) (text := text) (index := is) (a := sa) hown' hstr'.1 hstr'.2
    (g := { method := m, pc := pc + 4, locals := ls, stack := .ref T.heap.size :: .ref T.heap.size :: rest, locked := none }) rfl d4' _ hsteps
end Ends
section Bodies
variable {l : Launch}
theorem vx_ofW {y : MethodName} {ws ws' : List Cond} {rm : Room} {Pc : Array Value → State → Prop} {Qc : Array Value → State → Outcome → State → Prop} {XC : String → State → State → Prop} {mc ms : Nat} {free : Addr → Prop} {cc : ByteArray} {maxL : Nat} {ret : Option FieldType}
    (hy : plainName y.cls = true) (hw : ws = Cond.code y cc maxL ret :: ws')
    (body : ∀ p e s m args below meth c s₁, BodyLoose p l y (headSpec ws rm) cc maxL ret e s m args below meth c s₁ → c.maxLocals = maxL → (∀ x ∈ c.exceptionTable.toList, False) → Pc args s →
      W p l e (headSpec ws rm).room s m args below meth c s.heap [] 0 0 (vx_MQ below Qc XC args s mc ms free) (entryFrame m args maxL)) : vx_Met l y ws rm Pc Qc XC mc ms free := by
  refine MetFree.of_bodyS (code := cc) (maxLocals := maxL) (ret := ret) hy ?_ ?_
  · intro args s m h hn
    obtain ⟨meth, c, h1, h2, h3, h4, h5, h6, -, -⟩ := Cond.code_spec hn (atoms_spec (ws := ws) h _ (by rw [hw]; exact List.mem_cons_self))
    exact ⟨meth, c, h1, h2, h3, h4, h5, h6⟩
  · intro p e s m args below meth c s₁ B hml hP _
    have hh0 : s₁.heap = s.heap := by rw [B.state]; rfl
    have ht : ∀ x ∈ c.exceptionTable.toList, False := by
      obtain ⟨meth9, c9, h1, h2, -, -, -, -, h7, -⟩ := Cond.code_spec B.named (atoms_spec (ws := ws) B.pre _ (by rw [hw]; exact List.mem_cons_self))
      cases Option.some.inj (h1.symm.trans B.method)
      cases Option.some.inj (h2.symm.trans (Stand.of_body B).code)
      intro x hx
      rw [Array.isEmpty_iff.mp h7] at hx
      cases hx
    obtain ⟨t, a1, o, b1, b2, b3⟩ := body p e s m args below meth c s₁ B hml ht hP s₁ hh0 (Stand.of_body B)
    exact ⟨t, o, a1, b1, b2, b3⟩
/-- the table of a body with handlers -/
theorem vx_table {p : Program} {x y : MethodName} {S : Spec} {cc bytes : ByteArray} {maxL maxL' : Nat} {ret ret' : Option FieldType} {e : Env} {s s₁ : State} {m : MethodId} {args : Array Value} {below : List Frame} {meth : Method} {c : Code} {hh : List (Nat × Nat × Nat × Nat)}
    (B : BodyLoose p l y S cc maxL ret e s m args below meth c s₁) (h : (Cond.codeWith y bytes maxL' ret' hh).before args s = true) : c.exceptionTable.toList = tableOf hh := by
  obtain ⟨m9, meth9, c9, hn9, h1, h2, -, -, h6, -⟩ := Cond.codeWith_spec h
  cases Option.some.inj (hn9.symm.trans B.named)
  cases Option.some.inj (h1.symm.trans B.method)
  cases Option.some.inj (h2.symm.trans (Stand.of_body B).code)
  rw [← h6, table_eq]
end Bodies
end VXA
/-! ===== END ===== -/
/-! ===== BEGIN a static call of a method with an exception table ===== -/
section VXS
variable {p : Program} {l : Launch} {e : Env} {R : Room} {s : State} {m : MethodId} {args : Array Value} {below : List Frame} {meth : Method} {c : Code} {T : State} {H : Heap} {locs : List Loc} {cells slots : Nat}
abbrev vx_CSW (R : Room) (s : State) (args : Array Value) (own : String) (index : Nat) (y : MethodName) (bytes : ByteArray) (maxL : Nat) (ret : Option FieldType) (hh : List (Nat × Nat × Nat × Nat)) (ws : List Cond) (rm : Room) (mc ms n : Nat) : Prop :=
  (rm.cells = mc ∧ rm.slots = ms ∧ rm.frames + 1 ≤ R.frames ∧ 8 + (maxL + 11) + rm.locals ≤ R.locals ∧ (∀ w ∈ ws, ∀ (a' : Array Value) (U : State), s.WarmedH U.vm → w.before a' U = true) ∧ Cond.codeWith y bytes maxL ret hh ∈ ws) ∧
  (Cond.codeWith y bytes maxL ret hh).before args s = true ∧ (Cond.initialized y.cls).before args s = true ∧ (y.cls ≠ "java/lang/invoke/MethodHandle" ∧ y.cls ≠ "java/lang/invoke/VarHandle") ∧
  (∀ sig, parseMethodDescriptor y.desc = some sig → n = sig.parameters.length) ∧ (Cond.methodLink own index y).before args s = true ∧ (Cond.static y).before args s = true
theorem vx_cwSW {own : String} {index maxL mc ms : Nat} {y : MethodName} {bytes : ByteArray} {ret : Option FieldType} {hh : List (Nat × Nat × Nat × Nat)} {Ts ws ws' : List Cond} {rm : Room} (n : Nat) (ht : ∀ w ∈ Ts, w.before args s = true) (hT : GoodIn Ts (va_wsS own index y ws)) (hw : ws = Cond.codeWith y bytes maxL ret hh :: ws') (hrc : rm.cells = mc) (hrs : rm.slots = ms)
    (hd : y.cls ≠ "java/lang/invoke/MethodHandle" ∧ y.cls ≠ "java/lang/invoke/VarHandle" ∧ (parseMethodDescriptor y.desc).map (fun d => d.parameters.length) = some n) (hR : rm.frames + 1 ≤ R.frames ∧ 8 + (maxL + 11) + rm.locals ≤ R.locals) :
    vx_CSW R s args own index y bytes maxL ret hh ws rm mc ms n := by
  have ok : ∀ w ∈ va_wsS own index y ws, w.before args s = true := fun w h => ht w (hT w h).1
  have hG : GoodIn Ts ws := fun w h => hT w (by unfold va_wsS; exact List.mem_append_right _ h)
  have hc : Cond.codeWith y bytes maxL ret hh ∈ ws := by rw [hw]; exact List.mem_cons_self
  refine ⟨⟨hrc, hrs, hR.1, hR.2, pay_in ht hG, hc⟩, ht _ (hG _ hc).1, ok _ (by simp [va_wsS]), ⟨hd.1, hd.2.1⟩, fun sig h => ?_, ok _ (by simp [va_wsS]), ok _ (by simp [va_wsS])⟩
  have h2 := hd.2.2
  rw [h] at h2
  exact (Option.some.inj h2).symm
theorem vx_callSW (X : Stand p l e R s m args below meth c T locs cells slots) (hexec : p.tables.exec = Jvm.exec) {own : String} {index : Nat} {y : MethodName} {bytes : ByteArray} {maxL : Nat} {ret : Option FieldType} {hh : List (Nat × Nat × Nat × Nat)}
    (hown : s.vm.findClass own = some m.cls) (hlink : (Cond.methodLink own index y).before args s = true) (hstat : (Cond.static y).before args s = true) (hinit : (Cond.initialized y.cls).before args s = true)
    (hcode : (Cond.codeWith y bytes maxL ret hh).before args s = true) (hy : y.cls ≠ "java/lang/invoke/MethodHandle" ∧ y.cls ≠ "java/lang/invoke/VarHandle")
    {W9 : Nat} {Pre : Pt → Array Value → Prop} {Post : Pt → Array Value → Option Value → Pt → Prop} (hK : Back l R p e below s args y 3 W9 Pre Post)
    {g : JFrame} (hg : g.method = m) (hsize : g.locals.size = c.maxLocals) {argsL rest : List Value} (hlen : ∀ sig, parseMethodDescriptor y.desc = some sig → argsL.length = sig.parameters.length)
    (hstack : g.stack = argsL.reverse ++ rest) (hW : 2 * g.monitorRoom + (rest.map fun v => v.category).sum ≤ W9) (hdg : decode c.code g.pc = .ok (.invokestatic index, 3))
    (hpre : ∀ vm₁, s.WarmedH vm₁ → Pre ⟨T.setVm vm₁, locs, cells, slots⟩ argsL.toArray) :
    ∃ (v : Option Value) (vm₁ : Vm) (B : Pt), s.WarmedH vm₁ ∧ Stand p l e R s m args below meth c B.U B.locs B.cells B.slots ∧ Post ⟨T.setVm vm₁, locs, cells, slots⟩ argsL.toArray v B ∧
      ∀ target, Steps p.tables e below (B.U.setTop { g with pc := g.pc + 3, stack := v.toList ++ rest }) target → Steps p.tables e below (T.setTop g) target := by
  obtain ⟨mk, methM, cM, hnamed, hmethM, -, -, -, -, -, -, hsigM⟩ := Cond.codeWith_spec hcode
  have hstatic : methM.isStatic = true := Cond.static_spec hnamed hmethM hstat
  obtain ⟨kP, hkP, -⟩ := className_of_methodNamed hnamed
  have hinitP : kP.init = .initialized := Cond.initialized_spec (findClass_of_methodNamed hnamed) hkP hinit
  obtain ⟨vm₁, X₁, hstep₁⟩ := X.invokestatic hexec hown hlink hnamed hmethM hstatic hkP hinitP hy (g := g) hg (argsL := argsL) (rest := rest) (hlen _ hsigM) hstack hdg
  obtain ⟨v, B, X', hpost, hsteps⟩ := hK m meth c ⟨T.setVm vm₁, locs, cells, slots⟩ { g with stack := rest } (.invokestatic index) mk argsL.toArray X₁ hg hsize hdg hW (X₁.named hnamed) (hpre vm₁ X₁.warmed)
  exact ⟨v, vm₁, B, X₁.warmed, X', hpost, fun target h => hstep₁ _ fun acts => by rw [doInvoke_state]; exact hsteps.trans h⟩
theorem vx_runSW {y : MethodName} {bytes cc : ByteArray} {maxL nL mc ms n index : Nat} {ret : Option FieldType} {hh : List (Nat × Nat × Nat × Nat)} {ws : List Cond} {rm : Room} {Pc : Array Value → State → Prop} {Qc : Array Value → State → Outcome → State → Prop} {free : Addr → Prop} {Ts : List Cond} {own : String} {As rest : List Value} {g : JFrame}
    (S : CallFix p m c cc nL s args Ts own) (hM : Met l y ws rm Pc Qc mc ms free) (cw : vx_CSW R s args own index y bytes maxL ret hh ws rm mc ms n) (hp : PreS s H Pc As)
    (hg : g.method = m) (hn : As.length = n) (hsize : g.locals.size = nL) (hstack : g.stack = As.reverse ++ rest) (hW : 2 * g.monitorRoom + (rest.map fun v => v.category).sum ≤ 8) (hdg : decode cc g.pc = .ok (.invokestatic index, 3)) (hf : cells + mc ≤ R.cells ∧ slots + ms ≤ R.slots) :
    va_Run p l e R s m args below meth c H locs cells slots mc ms g rest (Qc As.toArray) (free) := by
  obtain ⟨⟨hrc, hrs, hfr, hlo, hws, hcw⟩, hcode, hini, hy, hlen, hl, hstt⟩ := cw
  have hK : Back l R p e below s args y 3 8 (PreOf R mc ms Pc) (PostOf Qc mc ms free) := va_backW (hh := hh) (bytes := bytes) (maxL := maxL) (ret := ret) hM hp.1 hrc hrs hfr hlo hws hcw (fun a' U hW => word_at hW (Or.inl (by first | rfl | simp [Cond.onTables, Cond.keeps, Cond.steady])) hini)
  obtain ⟨hx, hb, hml, ho, -⟩ := S
  intro T hT X
  obtain ⟨v, vm₁, ⟨U', l2, c2, s2⟩, hW₁, X', ⟨g', mk, t, L, e1, e2, hq, h1, hL, h2, h3⟩, st⟩ := vx_callSW X hx (hh := hh) (bytes := bytes) (maxL := maxL) (ret := ret) ho hl hstt hini hcode hy hK hg (hsize.trans hml.symm) (argsL := As) (rest := rest) (fun sig h => hn.trans (hlen sig h)) hstack hW (by rw [hb]; exact hdg)
    (fun vm₁ hW₁ => ⟨hf.1, hf.2, hp.2 (T.setVm vm₁) hT hW₁⟩)
  dsimp only [Pt.U, Pt.locs, Pt.cells, Pt.slots] at X' e1 e2 h1 h2 h3 st
  subst h1; subst h2; subst h3
  exact ⟨v, (T.setVm vm₁).calling g' mk As.toArray, t, U', L, hT, X', hL, e1, e2, hq, st⟩
/-- not caught here, past rows that name other classes: it goes on to the caller -/
theorem vx_outP {p : Program} {l : Launch} {e : Env} {R : Room} {s : State} {m : MethodId} {args : Array Value} {below : List Frame} {meth : Method} {c : Code} {H : Heap} {locs : List Loc} {cells slots : Nat} {free : Addr → Prop} {ls : Array Slot} {rest : List Value} {Qc : Array Value → State → Outcome → State → Prop} {XC : String → State → State → Prop}
    {pc : Nat} {own E : String} {ce : Cell} {q : Addr} {mc ms : Nat} (hown : s.vm.findClass own = some m.cls) (hlocks : meth.locks = false)
    (hpass : ∀ z ∈ c.exceptionTable.toList, covers z pc = false ∨ (z.catchType ≠ 0 ∧ ∃ nm : String, (Cond.classLink own z.catchType nm).before args s = true ∧ va_Nc E nm s)) (hcell : H[q]? = some ce) (hv : ce.vm = .none) (hcl : s.vm.findClass E = some ce.cls)
    (hx : ∀ t : State, t.heap = H → s.vm.Alike t.vm → XC E s t) (hf : ∀ z ∈ locs, free z.base) (hc : cells ≤ mc) (hs : slots ≤ ms) :
    vx_W p l e R s m args below meth c H locs cells slots (vx_MQ below Qc XC args s mc ms free) (F0 m pc ls rest) q := by
  intro T hT X
  have hpl : e.platform.magicAccessors = ({} : Platform).magicAccessors := by rw [X.admits.platform]
  obtain ⟨vm', hW', X', st⟩ := X.outThrough hlocks q (g := F0 m pc ls rest) rfl rfl rfl (cell := ce) (by rw [hT]; exact hcell) (by rw [hv]; rfl)
    (by obtain ⟨k9, h9, -⟩ := Vm.findClass_spec hcl; exact ⟨k9, h9⟩) (fun z hz => by
      rcases hpass z hz with h | ⟨hz0, nm, hl1, hn1⟩
      · exact Or.inl h
      · obtain ⟨c6, hc6, hcl6⟩ := Cond.classLink_spec hown hl1 e.platform hpl
        obtain ⟨a8, b8, h1, h2, h3⟩ := hn1
        cases Option.some.inj (h1.symm.trans hcl)
        cases Option.some.inj (h2.symm.trans hc6)
        exact Or.inr ⟨hz0, _, hcl6, h3⟩)
  obtain ⟨g₀, hfr⟩ := X'.frames_eq
  have hcell9 : ((T.setVm vm').setFrames (.throwing q :: below)).heap[q]? = some ce := by
    show T.heap[q]? = some ce
    rw [hT]; exact hcell
  have hend : Ended ((T.setVm vm').setFrames (.throwing q :: below)) below (.threw q) := State.frames_setFrames _ (State.cur_lt_of_frames hfr)
  refine ⟨(T.setVm vm').setFrames (.throwing q :: below), ?_, .threw q, X'.here.running, hend, Or.inr ⟨q, rfl, E, ce, locs, hx _ hT (X'.ends _).1.alike, hcell9, hv, hcl, (X'.ends _).1, (X'.ends _).2.mono hc hs, hf⟩⟩
  rw [X.pushThrowing_eq]
  exact st
/-- a thing of a world lies in the heap -/
theorem vx_lt {D : va_G} {cl : List vw_C} {ws : va_W} {H1 : Heap} (h : va_P D cl ws H1) {k : Nat} {q : Nat × va_E} (hk : ws[k]? = some q) : q.1 < H1.size := (h k q hk).lt
end VXS
/-! ===== END ===== -/
/-! ===== BEGIN methods with a table of their own: called by a name, returning or throwing ===== -/
section VXH
/-! vx_backW, vx_callVX, vx_callSX, vx_callVW, vx_runVW, vx_runVX, vx_runSX, vx_ofWH follow the same proofs as their sisters above (Free/Laws.lean, Shelf42/LK1.lean); vx_outP calls Shelf42/NT130.lean (outThrough). -/
section
variable {l : Launch} {R : Room} {p : Program} {e : Env} {below : List Frame} {s : State} {sargs : Array Value} {y : MethodName} {len W9 : Nat}
theorem vx_backW {ws : List Cond} {rm : Room} {Pc : Array Value → State → Prop} {Qc : Array Value → State → Outcome → State → Prop} {XC : String → State → State → Prop} {mc ms : Nat} {free : Addr → Prop} {bytes : ByteArray} {maxL : Nat} {ret : Option FieldType} {hh : List (Nat × Nat × Nat × Nat)}
    (hM : vx_Met l y ws rm Pc Qc XC mc ms free) (hblind : FrameBlind Pc) (hrc : rm.cells = mc) (hrs : rm.slots = ms)
    (hframes : rm.frames + 1 ≤ R.frames) (hlocals : W9 + (maxL + 11) + rm.locals ≤ R.locals)
    (hws : ∀ w ∈ ws, ∀ a' U, s.WarmedH U.vm → w.before a' U = true) (hcode : Cond.codeWith y bytes maxL ret hh ∈ ws) (hinit : ∀ a' U, s.WarmedH U.vm → (Cond.initialized y.cls).before a' U = true) :
    vx_Back l R p e below s sargs y len W9 (PreOf R mc ms Pc) (PostOf Qc mc ms free) (vx_Post XC mc ms free) := by
  intro m meth c A g ig mk a X hg hsize hdg hW hn hp
  have h1 : (headSpec ws rm).pre.before a A.U = true := atoms_intro fun w hw => hws w hw _ _ X.warmed
  have h2 : (Cond.codeWith y bytes maxL ret hh).before a A.U = true := hws _ hcode _ _ X.warmed
  have h3 : (Cond.initialized y.cls).before a A.U = true := hinit _ _ X.warmed
  have h4 : A.cells + (headSpec ws rm).room.cells ≤ R.cells := by rw [show (headSpec ws rm).room.cells = mc from hrc]; exact hp.1
  have h5 : A.slots + (headSpec ws rm).room.slots ≤ R.slots := by rw [show (headSpec ws rm).room.slots = ms from hrs]; exact hp.2.1
  have hPc : Pc a (A.U.calling g mk a) := hblind _ _ _ _ hp.2.2
  obtain ⟨U, Ls, c0, s0⟩ := A
  dsimp only [Pt.U, Pt.locs, Pt.cells, Pt.slots] at h1 h2 h3 h4 h5 X hn hPc ⊢
  obtain ⟨m9, methY, cY, hn9, hmY, hcY, -, hlY, -⟩ := Cond.codeWith_spec h2
  cases Option.some.inj (hn9.symm.trans hn)
  obtain ⟨kY, hkY, -⟩ := className_of_methodNamed hn
  have hinitY : kY.init = .initialized := Cond.initialized_spec (findClass_of_methodNamed hn) hkY h3
  have h : At U g.method c below := by rw [hg]; exact X.here
  have hlocals9 : W9 + (maxL + 11) + (headSpec ws rm).room.locals ≤ R.locals := hlocals
  have happ : (headSpec ws rm).appliesLoose y e.platform (U.calling g mk a) = true :=
    Spec.appliesLoose_calling (g := g) h hdg hn hkY hinitY
      (X.room_calling (g := g) (R' := (headSpec ws rm).room) hsize hmY hcY hframes (by rw [hlY]; omega) h4 h5) h1
  obtain ⟨mid, hmid⟩ := h.above
  have hfr : (U.setTop g).frames = (.java g :: mid) ++ below := by rw [State.frames_setTop' g h.top, hmid]; rfl
  obtain ⟨o, s₂, hsteps, -, hend, hq⟩ := Steps.callFree hM p X.admits X.cas X.clock (acts := []) hfr happ hPc trivial
  have hq' : vx_Q Qc XC mc ms free a (U.calling g mk a) o s₂ := hq
  rw [State.frames_setTop' g h.top] at hend
  obtain ⟨g₀, hg0⟩ := Option.isSome_iff_exists.mp h.top
  obtain ⟨r, hr⟩ := State.topJava?_eq_some.mp hg0
  have hr' : (({ U with heap := s₂.heap, slotsUsed := s₂.slotsUsed } : State).setVm s₂.vm).frames = .java g₀ :: r := hr
  rcases hq' with ⟨hqc, L, hfe, hL⟩ | ⟨q, rfl, E, ce, L, hx, hce, hcv, hcl, hW₂, hsm, hL⟩
  · obtain ⟨⟨v, rfl⟩, hW₂, e2, q2, q3, q4, q5, q6⟩ := id hfe
    have e3 : s₂ = ({ (U.calling g mk a).setFrames s₂.frames with heap := s₂.heap, slotsUsed := s₂.slotsUsed } : State).setVm s₂.vm := by
      have : s₂ = ({ s₂ with vm := (U.calling g mk a).vm } : State).setVm s₂.vm := rfl
      rw [e2] at this
      exact this
    obtain ⟨c₂, i₂, len₂, hc₂, hd₂, hf₂⟩ := hend
    have hW' : U.WarmedH s₂.vm := hW₂
    have hcc : c₂ = c := by
      have h1 : s₂.code? g.method = U.code? g.method := by
        rw [State.code?_eq, State.code?_eq, hW'.alike.method?]
      exact Option.some.inj (hc₂.symm.trans (h1.trans h.code))
    subst hcc
    have hlen : len₂ = len := by rw [hdg] at hd₂; cases hd₂; rfl
    subst hlen
    have hs₂ : s₂ = (({ U with heap := s₂.heap, slotsUsed := s₂.slotsUsed } : State).setVm s₂.vm).setTop { g with pc := g.pc + len₂, stack := v.toList ++ g.stack } := by
      refine e3.trans ?_
      rw [hf₂, State.calling_eq h.top, State.setFrames_setFrames, State.setTop_of_frames _ hr', hr]
      rfl
    have hsame : U.sameButNew ({ U with heap := s₂.heap, slotsUsed := s₂.slotsUsed } : State) L mc ms := by
      refine ⟨?_, q2, q3, q4, q5, q6⟩
      obtain ⟨t, ht, -⟩ := State.frames_cons hr
      show ({ U with heap := s₂.heap, slotsUsed := s₂.slotsUsed } : State) = { U.setFrames U.frames with heap := s₂.heap, slotsUsed := s₂.slotsUsed }
      rw [State.setFrames_self ht]
    subst hg
    refine Or.inl ⟨v, ⟨(({ U with heap := s₂.heap, slotsUsed := s₂.slotsUsed } : State).setVm s₂.vm), Ls ++ L, c0 + mc, s0 + ms⟩,
      ⟨X.admits, X.cas, X.clock, X.frames, X.room, X.hears, X.method, X.code, (X.here.setHeapUsed s₂.heap s₂.slotsUsed).setVm hW'.alike, X.tail, State.WarmedH.trans X.warmed hW', X.limits, X.bytes, X.same.trans (hsame.setVm s.vm)⟩,
      ⟨g, mk, s₂, L, rfl, rfl, hqc, rfl, hL, rfl, rfl⟩, ?_⟩
    show Steps p.tables e below _ ((({ U with heap := s₂.heap, slotsUsed := s₂.slotsUsed } : State).setVm s₂.vm).setTop { g with pc := g.pc + len₂, stack := v.toList ++ g.stack })
    rw [← hs₂]
    exact hsteps
  · obtain ⟨e2, q2, q3, q4, q5, q6⟩ := id hsm
    have e3 : s₂ = ({ (U.calling g mk a).setFrames s₂.frames with heap := s₂.heap, slotsUsed := s₂.slotsUsed } : State).setVm s₂.vm := by
      have : s₂ = ({ s₂ with vm := (U.calling g mk a).vm } : State).setVm s₂.vm := rfl
      rw [e2] at this
      exact this
    have hf₂ : s₂.frames = .throwing q :: .java g :: U.frames.tail := hend
    have hW' : U.WarmedH s₂.vm := hW₂
    have hs₂ : s₂ = ((({ U with heap := s₂.heap, slotsUsed := s₂.slotsUsed } : State).setVm s₂.vm).setTop g).pushFrame (.throwing q) := by
      refine e3.trans ?_
      rw [hf₂, State.calling_eq h.top, State.setFrames_setFrames, State.pushFrame, State.frames_setTop _ hr', State.setTop_of_frames _ hr', State.setFrames_setFrames, hr]
      rfl
    have hsame : U.sameButNew ({ U with heap := s₂.heap, slotsUsed := s₂.slotsUsed } : State) L mc ms := by
      refine ⟨?_, q2, q3, q4, q5, q6⟩
      obtain ⟨t, ht, -⟩ := State.frames_cons hr
      show ({ U with heap := s₂.heap, slotsUsed := s₂.slotsUsed } : State) = { U.setFrames U.frames with heap := s₂.heap, slotsUsed := s₂.slotsUsed }
      rw [State.setFrames_self ht]
    subst hg
    refine Or.inr ⟨q, ⟨(({ U with heap := s₂.heap, slotsUsed := s₂.slotsUsed } : State).setVm s₂.vm), Ls ++ L, c0 + mc, s0 + ms⟩,
      ⟨X.admits, X.cas, X.clock, X.frames, X.room, X.hears, X.method, X.code, (X.here.setHeapUsed s₂.heap s₂.slotsUsed).setVm hW'.alike, X.tail, State.WarmedH.trans X.warmed hW', X.limits, X.bytes, X.same.trans (hsame.setVm s.vm)⟩,
      ⟨g, mk, s₂, L, E, ce, rfl, rfl, hx, hce, hcv, hcl, rfl, hL, rfl, rfl⟩, ?_⟩
    show Steps p.tables e below _ (((({ U with heap := s₂.heap, slotsUsed := s₂.slotsUsed } : State).setVm s₂.vm).setTop g).pushFrame (.throwing q))
    rw [← hs₂]
    exact hsteps
end
variable {p : Program} {l : Launch} {e : Env} {R : Room} {s : State} {m : MethodId} {args : Array Value} {below : List Frame} {meth : Method} {c : Code} {T : State} {H : Heap} {locs : List Loc} {cells slots : Nat}
theorem vx_callVX (X : Stand p l e R s m args below meth c T locs cells slots) (hexec : p.tables.exec = Jvm.exec) {own C : String} {index : Nat} {y : MethodName} {bytes : ByteArray} {maxL : Nat} {ret : Option FieldType} {hh : List (Nat × Nat × Nat × Nat)}
    (hown : s.vm.findClass own = some m.cls) (hlink : (Cond.methodLink own index y).before args s = true) (hinst : (Cond.instanceMethod y).before args s = true) (hsel : (Cond.selects C y y).before args s = true)
    (hcode : (Cond.codeWith y bytes maxL ret hh).before args s = true) (hy : y.cls ≠ "java/lang/invoke/MethodHandle" ∧ y.cls ≠ "java/lang/invoke/VarHandle")
    {W9 : Nat} {Pre : Pt → Array Value → Prop} {Post : Pt → Array Value → Option Value → Pt → Prop} {PostX : Pt → Array Value → Addr → Pt → Prop} (hK : vx_Back l R p e below s args y 3 W9 Pre Post PostX)
    {b : Addr} {cellB : Cell} (hcell : T.heap[b]? = some cellB) (hobj : cellB.vm.isStatics = false) (hcls : s.vm.findClass C = some cellB.cls)
    {g : JFrame} (hg : g.method = m) (hsize : g.locals.size = c.maxLocals) {argsL rest : List Value} (hlen : ∀ sig, parseMethodDescriptor y.desc = some sig → argsL.length = sig.parameters.length)
    (hstack : g.stack = argsL.reverse ++ .ref b :: rest) (hW : 2 * g.monitorRoom + (rest.map fun v => v.category).sum ≤ W9) (hdg : decode c.code g.pc = .ok (.invokevirtual index, 3))
    (hpre : ∀ vm₁, s.WarmedH vm₁ → Pre ⟨T.setVm vm₁, locs, cells, slots⟩ (Value.ref b :: argsL).toArray) :
    (∃ (v : Option Value) (vm₁ : Vm) (B : Pt), s.WarmedH vm₁ ∧ Stand p l e R s m args below meth c B.U B.locs B.cells B.slots ∧ Post ⟨T.setVm vm₁, locs, cells, slots⟩ (Value.ref b :: argsL).toArray v B ∧
      ∀ target, Steps p.tables e below (B.U.setTop { g with pc := g.pc + 3, stack := v.toList ++ rest }) target → Steps p.tables e below (T.setTop g) target) ∨
    (∃ (q : Addr) (vm₁ : Vm) (B : Pt), s.WarmedH vm₁ ∧ Stand p l e R s m args below meth c B.U B.locs B.cells B.slots ∧ PostX ⟨T.setVm vm₁, locs, cells, slots⟩ (Value.ref b :: argsL).toArray q B ∧
      Steps p.tables e below (T.setTop g) ((B.U.setTop { g with stack := rest }).pushFrame (.throwing q))) := by
  obtain ⟨mk, methM, hnamed, hmethM, hstM, habM⟩ := Cond.instanceMethod_spec hinst
  obtain ⟨m8, methM', cM, hn8, hmethM', -, -, -, -, -, -, hsigM⟩ := Cond.codeWith_spec hcode
  cases Option.some.inj (hn8.symm.trans hnamed)
  cases hmethM.symm.trans hmethM'
  obtain ⟨c2, r2, m2, q1, q2, q3, q4, kP, hkP, hkPi⟩ := Cond.selects_spec hsel
  cases hcls.symm.trans q1
  cases (State.methodFound?_of_named hnamed hy).symm.trans q2
  cases hnamed.symm.trans q3
  have hselP : selectMethod e.platform s.vm cellB.cls mk = .method mk := by rw [Launch.admits_selectMethod X.admits]; exact q4
  obtain ⟨vm₁, X₁, hstep₁⟩ := X.invokevirtual hexec hown hlink hnamed hmethM hstM hkP hkPi hy (a := b) (cell := cellB) hcell
    (fun z h => by rw [h] at hobj; cases hobj) hselP hmethM habM hkP hkPi (g := g) hg (argsL := argsL) (rest := rest) (hlen _ hsigM) hstack hdg
  rcases hK m meth c ⟨T.setVm vm₁, locs, cells, slots⟩ { g with stack := rest } (.invokevirtual index) mk (Value.ref b :: argsL).toArray X₁ hg hsize hdg hW (X₁.named hnamed) (hpre vm₁ X₁.warmed) with ⟨v, B, X', hpost, hsteps⟩ | ⟨q, B, X', hpost, hsteps⟩
  · exact Or.inl ⟨v, vm₁, B, X₁.warmed, X', hpost, fun target h => hstep₁ _ fun acts => by rw [doInvoke_state]; exact hsteps.trans h⟩
  · exact Or.inr ⟨q, vm₁, B, X₁.warmed, X', hpost, hstep₁ _ fun acts => by rw [doInvoke_state]; exact hsteps⟩
theorem vx_callSX (X : Stand p l e R s m args below meth c T locs cells slots) (hexec : p.tables.exec = Jvm.exec) {own : String} {index : Nat} {y : MethodName} {bytes : ByteArray} {maxL : Nat} {ret : Option FieldType} {hh : List (Nat × Nat × Nat × Nat)}
    (hown : s.vm.findClass own = some m.cls) (hlink : (Cond.methodLink own index y).before args s = true) (hstat : (Cond.static y).before args s = true) (hinit : (Cond.initialized y.cls).before args s = true)
    (hcode : (Cond.codeWith y bytes maxL ret hh).before args s = true) (hy : y.cls ≠ "java/lang/invoke/MethodHandle" ∧ y.cls ≠ "java/lang/invoke/VarHandle")
    {W9 : Nat} {Pre : Pt → Array Value → Prop} {Post : Pt → Array Value → Option Value → Pt → Prop} {PostX : Pt → Array Value → Addr → Pt → Prop} (hK : vx_Back l R p e below s args y 3 W9 Pre Post PostX)
    {g : JFrame} (hg : g.method = m) (hsize : g.locals.size = c.maxLocals) {argsL rest : List Value} (hlen : ∀ sig, parseMethodDescriptor y.desc = some sig → argsL.length = sig.parameters.length)
    (hstack : g.stack = argsL.reverse ++ rest) (hW : 2 * g.monitorRoom + (rest.map fun v => v.category).sum ≤ W9) (hdg : decode c.code g.pc = .ok (.invokestatic index, 3))
    (hpre : ∀ vm₁, s.WarmedH vm₁ → Pre ⟨T.setVm vm₁, locs, cells, slots⟩ argsL.toArray) :
    (∃ (v : Option Value) (vm₁ : Vm) (B : Pt), s.WarmedH vm₁ ∧ Stand p l e R s m args below meth c B.U B.locs B.cells B.slots ∧ Post ⟨T.setVm vm₁, locs, cells, slots⟩ argsL.toArray v B ∧
      ∀ target, Steps p.tables e below (B.U.setTop { g with pc := g.pc + 3, stack := v.toList ++ rest }) target → Steps p.tables e below (T.setTop g) target) ∨
    (∃ (q : Addr) (vm₁ : Vm) (B : Pt), s.WarmedH vm₁ ∧ Stand p l e R s m args below meth c B.U B.locs B.cells B.slots ∧ PostX ⟨T.setVm vm₁, locs, cells, slots⟩ argsL.toArray q B ∧
      Steps p.tables e below (T.setTop g) ((B.U.setTop { g with stack := rest }).pushFrame (.throwing q))) := by
  obtain ⟨mk, methM, cM, hnamed, hmethM, -, -, -, -, -, -, hsigM⟩ := Cond.codeWith_spec hcode
  have hstatic : methM.isStatic = true := Cond.static_spec hnamed hmethM hstat
  obtain ⟨kP, hkP, -⟩ := className_of_methodNamed hnamed
  have hinitP : kP.init = .initialized := Cond.initialized_spec (findClass_of_methodNamed hnamed) hkP hinit
  obtain ⟨vm₁, X₁, hstep₁⟩ := X.invokestatic hexec hown hlink hnamed hmethM hstatic hkP hinitP hy (g := g) hg (argsL := argsL) (rest := rest) (hlen _ hsigM) hstack hdg
  rcases hK m meth c ⟨T.setVm vm₁, locs, cells, slots⟩ { g with stack := rest } (.invokestatic index) mk argsL.toArray X₁ hg hsize hdg hW (X₁.named hnamed) (hpre vm₁ X₁.warmed) with ⟨v, B, X', hpost, hsteps⟩ | ⟨q, B, X', hpost, hsteps⟩
  · exact Or.inl ⟨v, vm₁, B, X₁.warmed, X', hpost, fun target h => hstep₁ _ fun acts => by rw [doInvoke_state]; exact hsteps.trans h⟩
  · exact Or.inr ⟨q, vm₁, B, X₁.warmed, X', hpost, hstep₁ _ fun acts => by rw [doInvoke_state]; exact hsteps⟩
theorem vx_callVW (X : Stand p l e R s m args below meth c T locs cells slots) (hexec : p.tables.exec = Jvm.exec) {own C : String} {index : Nat} {y : MethodName} {bytes : ByteArray} {maxL : Nat} {ret : Option FieldType} {hh : List (Nat × Nat × Nat × Nat)}
    (hown : s.vm.findClass own = some m.cls) (hlink : (Cond.methodLink own index y).before args s = true) (hinst : (Cond.instanceMethod y).before args s = true) (hsel : (Cond.selects C y y).before args s = true)
    (hcode : (Cond.codeWith y bytes maxL ret hh).before args s = true) (hy : y.cls ≠ "java/lang/invoke/MethodHandle" ∧ y.cls ≠ "java/lang/invoke/VarHandle")
    {W9 : Nat} {Pre : Pt → Array Value → Prop} {Post : Pt → Array Value → Option Value → Pt → Prop} (hK : Back l R p e below s args y 3 W9 Pre Post)
    {b : Addr} {cellB : Cell} (hcell : T.heap[b]? = some cellB) (hobj : cellB.vm.isStatics = false) (hcls : s.vm.findClass C = some cellB.cls)
    {g : JFrame} (hg : g.method = m) (hsize : g.locals.size = c.maxLocals) {argsL rest : List Value} (hlen : ∀ sig, parseMethodDescriptor y.desc = some sig → argsL.length = sig.parameters.length)
    (hstack : g.stack = argsL.reverse ++ .ref b :: rest) (hW : 2 * g.monitorRoom + (rest.map fun v => v.category).sum ≤ W9) (hdg : decode c.code g.pc = .ok (.invokevirtual index, 3))
    (hpre : ∀ vm₁, s.WarmedH vm₁ → Pre ⟨T.setVm vm₁, locs, cells, slots⟩ (Value.ref b :: argsL).toArray) :
    ∃ (v : Option Value) (vm₁ : Vm) (B : Pt), s.WarmedH vm₁ ∧ Stand p l e R s m args below meth c B.U B.locs B.cells B.slots ∧ Post ⟨T.setVm vm₁, locs, cells, slots⟩ (Value.ref b :: argsL).toArray v B ∧
      ∀ target, Steps p.tables e below (B.U.setTop { g with pc := g.pc + 3, stack := v.toList ++ rest }) target → Steps p.tables e below (T.setTop g) target := by
  obtain ⟨mk, methM, hnamed, hmethM, hstM, habM⟩ := Cond.instanceMethod_spec hinst
  obtain ⟨m8, methM', cM, hn8, hmethM', -, -, -, -, -, -, hsigM⟩ := Cond.codeWith_spec hcode
  cases Option.some.inj (hn8.symm.trans hnamed)
  cases hmethM.symm.trans hmethM'
  obtain ⟨c2, r2, m2, q1, q2, q3, q4, kP, hkP, hkPi⟩ := Cond.selects_spec hsel
  cases hcls.symm.trans q1
  cases (State.methodFound?_of_named hnamed hy).symm.trans q2
  cases hnamed.symm.trans q3
  have hselP : selectMethod e.platform s.vm cellB.cls mk = .method mk := by rw [Launch.admits_selectMethod X.admits]; exact q4
  obtain ⟨vm₁, X₁, hstep₁⟩ := X.invokevirtual hexec hown hlink hnamed hmethM hstM hkP hkPi hy (a := b) (cell := cellB) hcell
    (fun z h => by rw [h] at hobj; cases hobj) hselP hmethM habM hkP hkPi (g := g) hg (argsL := argsL) (rest := rest) (hlen _ hsigM) hstack hdg
  obtain ⟨v, B, X', hpost, hsteps⟩ := hK m meth c ⟨T.setVm vm₁, locs, cells, slots⟩ { g with stack := rest } (.invokevirtual index) mk (Value.ref b :: argsL).toArray X₁ hg hsize hdg hW (X₁.named hnamed) (hpre vm₁ X₁.warmed)
  exact ⟨v, vm₁, B, X₁.warmed, X', hpost, fun target h => hstep₁ _ fun acts => by rw [doInvoke_state]; exact hsteps.trans h⟩
abbrev vx_CVW (R : Room) (s : State) (args : Array Value) (own C : String) (index : Nat) (y : MethodName) (bytes : ByteArray) (maxL : Nat) (ret : Option FieldType) (hh : List (Nat × Nat × Nat × Nat)) (ws : List Cond) (rm : Room) (mc ms n : Nat) : Prop :=
  (rm.cells = mc ∧ rm.slots = ms ∧ rm.frames + 1 ≤ R.frames ∧ 8 + (maxL + 11) + rm.locals ≤ R.locals ∧ (∀ w ∈ ws, ∀ (a' : Array Value) (U : State), s.WarmedH U.vm → w.before a' U = true) ∧ Cond.codeWith y bytes maxL ret hh ∈ ws) ∧
  (Cond.codeWith y bytes maxL ret hh).before args s = true ∧ (Cond.initialized y.cls).before args s = true ∧ (y.cls ≠ "java/lang/invoke/MethodHandle" ∧ y.cls ≠ "java/lang/invoke/VarHandle") ∧
  (∀ sig, parseMethodDescriptor y.desc = some sig → n = sig.parameters.length) ∧ (Cond.methodLink own index y).before args s = true ∧ (Cond.instanceMethod y).before args s = true ∧ (Cond.selects C y y).before args s = true
theorem vx_cwVW {own C : String} {index maxL mc ms : Nat} {y : MethodName} {bytes : ByteArray} {ret : Option FieldType} {hh : List (Nat × Nat × Nat × Nat)} {Ts ws ws' : List Cond} {rm : Room} (n : Nat) (ht : ∀ w ∈ Ts, w.before args s = true) (hT : GoodIn Ts (wsV own index C y ws)) (hw : ws = Cond.codeWith y bytes maxL ret hh :: ws') (hrc : rm.cells = mc) (hrs : rm.slots = ms)
    (hd : y.cls = C ∧ y.cls ≠ "java/lang/invoke/MethodHandle" ∧ y.cls ≠ "java/lang/invoke/VarHandle" ∧ (parseMethodDescriptor y.desc).map (fun d => d.parameters.length) = some n) (hR : rm.frames + 1 ≤ R.frames ∧ 8 + (maxL + 11) + rm.locals ≤ R.locals) :
    vx_CVW R s args own C index y bytes maxL ret hh ws rm mc ms n := by
  obtain ⟨hC, hd⟩ := hd
  subst hC
  have ok : ∀ w ∈ wsV own index y.cls y ws, w.before args s = true := fun w h => ht w (hT w h).1
  have hG : GoodIn Ts ws := fun w h => hT w (by unfold wsV; exact List.mem_append_right _ h)
  have hc : Cond.codeWith y bytes maxL ret hh ∈ ws := by rw [hw]; exact List.mem_cons_self
  refine ⟨⟨hrc, hrs, hR.1, hR.2, pay_in ht hG, hc⟩, ht _ (hG _ hc).1, ok _ (by simp [wsV]), ⟨hd.1, hd.2.1⟩, fun sig h => ?_, ok _ (by simp [wsV]), ok _ (by simp [wsV]), ok _ (by simp [wsV])⟩
  have h2 := hd.2.2
  rw [h] at h2
  exact (Option.some.inj h2).symm
theorem vx_runVW {y : MethodName} {bytes cc : ByteArray} {maxL nL mc ms n index : Nat} {ret : Option FieldType} {hh : List (Nat × Nat × Nat × Nat)} {ws : List Cond} {rm : Room} {Pc : Array Value → State → Prop} {Qc : Array Value → State → Outcome → State → Prop} {free : Addr → Prop} {Ts : List Cond} {own C : String} {b : Addr} {As rest : List Value} {g : JFrame}
    (S : CallFix p m c cc nL s args Ts own) (hM : Met l y ws rm Pc Qc mc ms free) (cw : vx_CVW R s args own C index y bytes maxL ret hh ws rm mc ms n) (hp : PreV s H C b Pc As)
    (hg : g.method = m) (hn : As.length = n) (hsize : g.locals.size = nL) (hstack : g.stack = As.reverse ++ .ref b :: rest) (hW : 2 * g.monitorRoom + (rest.map fun v => v.category).sum ≤ 8) (hdg : decode cc g.pc = .ok (.invokevirtual index, 3)) (hf : cells + mc ≤ R.cells ∧ slots + ms ≤ R.slots) :
    va_Run p l e R s m args below meth c H locs cells slots mc ms g rest (Qc (Value.ref b :: As).toArray) free := by
  obtain ⟨⟨hrc, hrs, hfr, hlo, hws, hcw⟩, hcode, hini, hy, hlen, hl, hin, hse⟩ := cw
  have hK : Back l R p e below s args y 3 8 (PreOf R mc ms Pc) (PostOf Qc mc ms free) := va_backW (hh := hh) (bytes := bytes) (maxL := maxL) (ret := ret) hM hp.1 hrc hrs hfr hlo hws hcw (fun a' U hW => word_at hW (Or.inl (by first | rfl | simp [Cond.onTables, Cond.keeps, Cond.steady])) hini)
  obtain ⟨hx, hb, hml, ho, -⟩ := S
  obtain ⟨-, ⟨cellB, hcB, hoB, hclB⟩, hPc⟩ := hp
  intro T hT X
  obtain ⟨v, vm₁, ⟨U', l2, c2, s2⟩, hW₁, X', ⟨g', mk, t, L, e1, e2, hq, h1, hL, h2, h3⟩, st⟩ := vx_callVW X hx (C := C) (hh := hh) (bytes := bytes) (maxL := maxL) (ret := ret) ho hl hin hse hcode hy hK (by rw [hT]; exact hcB) hoB hclB hg (hsize.trans hml.symm) (argsL := As) (rest := rest) (fun sig h => hn.trans (hlen sig h)) hstack hW (by rw [hb]; exact hdg)
    (fun vm₁ hW₁ => ⟨hf.1, hf.2, hPc (T.setVm vm₁) hT hW₁⟩)
  dsimp only [Pt.U, Pt.locs, Pt.cells, Pt.slots] at X' e1 e2 h1 h2 h3 st
  subst h1; subst h2; subst h3
  exact ⟨v, (T.setVm vm₁).calling g' mk (Value.ref b :: As).toArray, t, U', L, hT, X', hL, e1, e2, hq, st⟩
section
variable {y : MethodName} {bytes cc : ByteArray} {maxL nL mc ms n index : Nat} {ret : Option FieldType} {ws : List Cond} {rm : Room} {Pc : Array Value → State → Prop} {Qc : Array Value → State → Outcome → State → Prop} {XC : String → State → State → Prop} {free : Addr → Prop} {Ts : List Cond} {own C : String} {b : Addr} {As rest : List Value} {g : JFrame}
theorem vx_runVX {hh : List (Nat × Nat × Nat × Nat)} (S : CallFix p m c cc nL s args Ts own) (hM : vx_Met l y ws rm Pc Qc XC mc ms free) (cw : vx_CVW R s args own C index y bytes maxL ret hh ws rm mc ms n) (hp : PreV s H C b Pc As)
    (hg : g.method = m) (hn : As.length = n) (hsize : g.locals.size = nL) (hstack : g.stack = As.reverse ++ .ref b :: rest) (hW : 2 * g.monitorRoom + (rest.map fun v => v.category).sum ≤ 8) (hdg : decode cc g.pc = .ok (.invokevirtual index, 3)) (hf : cells + mc ≤ R.cells ∧ slots + ms ≤ R.slots) :
    vx_Run p l e R s m args below meth c H locs cells slots mc ms g rest (Qc (Value.ref b :: As).toArray) XC free := by
  obtain ⟨⟨hrc, hrs, hfr, hlo, hws, hcw⟩, hcode, hini, hy, hlen, hl, hin, hse⟩ := cw
  have hK : vx_Back l R p e below s args y 3 8 (PreOf R mc ms Pc) (PostOf Qc mc ms free) (vx_Post XC mc ms free) := vx_backW (hh := hh) (bytes := bytes) (maxL := maxL) (ret := ret) hM hp.1 hrc hrs hfr hlo hws hcw (fun a' U hW => word_at hW (Or.inl (by first | rfl | simp [Cond.onTables, Cond.keeps, Cond.steady])) hini)
  obtain ⟨hx, hb, hml, ho, -⟩ := S
  obtain ⟨-, ⟨cellB, hcB, hoB, hclB⟩, hPc⟩ := hp
  intro T hT X
  rcases vx_callVX X hx (C := C) (hh := hh) (bytes := bytes) (maxL := maxL) (ret := ret) ho hl hin hse hcode hy hK (by rw [hT]; exact hcB) hoB hclB hg (hsize.trans hml.symm) (argsL := As) (rest := rest) (fun sig h => hn.trans (hlen sig h)) hstack hW (by rw [hb]; exact hdg)
    (fun vm₁ hW₁ => ⟨hf.1, hf.2, hPc (T.setVm vm₁) hT hW₁⟩) with ⟨v, vm₁, ⟨U', l2, c2, s2⟩, hW₁, X', ⟨g', mk, t, L, e1, e2, hq, h1, hL, h2, h3⟩, st⟩ | ⟨q, vm₁, ⟨U', l2, c2, s2⟩, hW₁, X', ⟨g', mk, t, L, E, ce, e1, e2, hq, hce, hcv, hcl, h1, hL, h2, h3⟩, st⟩
  · dsimp only [Pt.U, Pt.locs, Pt.cells, Pt.slots] at X' e1 e2 h1 h2 h3 st
    subst h1; subst h2; subst h3
    exact Or.inl ⟨v, (T.setVm vm₁).calling g' mk (Value.ref b :: As).toArray, t, U', L, hT, X', hL, e1, e2, hq, st⟩
  · dsimp only [Pt.U, Pt.locs, Pt.cells, Pt.slots] at X' e1 e2 h1 h2 h3 st hcl
    subst h1; subst h2; subst h3
    exact Or.inr ⟨q, (T.setVm vm₁).calling g' mk (Value.ref b :: As).toArray, t, U', L, E, ce, hT, X', hL, e1, e2, hq, hce, hcv, vx_cls hW₁ hcl, st⟩
theorem vx_runSX {hh : List (Nat × Nat × Nat × Nat)} (S : CallFix p m c cc nL s args Ts own) (hM : vx_Met l y ws rm Pc Qc XC mc ms free) (cw : vx_CSW R s args own index y bytes maxL ret hh ws rm mc ms n) (hp : PreS s H Pc As)
    (hg : g.method = m) (hn : As.length = n) (hsize : g.locals.size = nL) (hstack : g.stack = As.reverse ++ rest) (hW : 2 * g.monitorRoom + (rest.map fun v => v.category).sum ≤ 8) (hdg : decode cc g.pc = .ok (.invokestatic index, 3)) (hf : cells + mc ≤ R.cells ∧ slots + ms ≤ R.slots) :
    vx_Run p l e R s m args below meth c H locs cells slots mc ms g rest (Qc As.toArray) XC free := by
  obtain ⟨⟨hrc, hrs, hfr, hlo, hws, hcw⟩, hcode, hini, hy, hlen, hl, hstt⟩ := cw
  have hK : vx_Back l R p e below s args y 3 8 (PreOf R mc ms Pc) (PostOf Qc mc ms free) (vx_Post XC mc ms free) := vx_backW (hh := hh) (bytes := bytes) (maxL := maxL) (ret := ret) hM hp.1 hrc hrs hfr hlo hws hcw (fun a' U hW => word_at hW (Or.inl (by first | rfl | simp [Cond.onTables, Cond.keeps, Cond.steady])) hini)
  obtain ⟨hx, hb, hml, ho, -⟩ := S
  intro T hT X
  rcases vx_callSX X hx (hh := hh) (bytes := bytes) (maxL := maxL) (ret := ret) ho hl hstt hini hcode hy hK hg (hsize.trans hml.symm) (argsL := As) (rest := rest) (fun sig h => hn.trans (hlen sig h)) hstack hW (by rw [hb]; exact hdg)
    (fun vm₁ hW₁ => ⟨hf.1, hf.2, hp.2 (T.setVm vm₁) hT hW₁⟩) with ⟨v, vm₁, ⟨U', l2, c2, s2⟩, hW₁, X', ⟨g', mk, t, L, e1, e2, hq, h1, hL, h2, h3⟩, st⟩ | ⟨q, vm₁, ⟨U', l2, c2, s2⟩, hW₁, X', ⟨g', mk, t, L, E, ce, e1, e2, hq, hce, hcv, hcl, h1, hL, h2, h3⟩, st⟩
  · dsimp only [Pt.U, Pt.locs, Pt.cells, Pt.slots] at X' e1 e2 h1 h2 h3 st
    subst h1; subst h2; subst h3
    exact Or.inl ⟨v, (T.setVm vm₁).calling g' mk As.toArray, t, U', L, hT, X', hL, e1, e2, hq, st⟩
  · dsimp only [Pt.U, Pt.locs, Pt.cells, Pt.slots] at X' e1 e2 h1 h2 h3 st hcl
    subst h1; subst h2; subst h3
    exact Or.inr ⟨q, (T.setVm vm₁).calling g' mk As.toArray, t, U', L, E, ce, hT, X', hL, e1, e2, hq, hce, hcv, vx_cls hW₁ hcl, st⟩
end
end VXH
theorem vx_ofWH {l : Launch} {y : MethodName} {ws ws' : List Cond} {rm : Room} {Pc : Array Value → State → Prop} {Qc : Array Value → State → Outcome → State → Prop} {XC : String → State → State → Prop} {mc ms : Nat} {free : Addr → Prop} {cc : ByteArray} {maxL : Nat} {ret : Option FieldType} {hh : List (Nat × Nat × Nat × Nat)}
    (hy : plainName y.cls = true) (hw : ws = Cond.codeWith y cc maxL ret hh :: ws')
    (body : ∀ p e s m args below meth c s₁, BodyLoose p l y (headSpec ws rm) cc maxL ret e s m args below meth c s₁ → c.maxLocals = maxL → Pc args s →
      W p l e (headSpec ws rm).room s m args below meth c s.heap [] 0 0 (vx_MQ below Qc XC args s mc ms free) (entryFrame m args maxL)) : vx_Met l y ws rm Pc Qc XC mc ms free := by
  refine MetFree.of_bodyS (code := cc) (maxLocals := maxL) (ret := ret) hy ?_ ?_
  · intro args s m h hn
    obtain ⟨m9, meth, c, hn9, h1, h2, h3, h4, -, h5, h6, -⟩ := Cond.codeWith_spec (atoms_spec (ws := ws) h _ (by rw [hw]; exact List.mem_cons_self))
    cases hn.symm.trans hn9
    exact ⟨meth, c, h1, h2, h3, h4, h5, h6⟩
  · intro p e s m args below meth c s₁ B hml hP _
    have hh0 : s₁.heap = s.heap := by rw [B.state]; rfl
    obtain ⟨t, a1, o, b1, b2, b3⟩ := body p e s m args below meth c s₁ B hml hP s₁ hh0 (Stand.of_body B)
    exact ⟨t, o, a1, b1, b2, b3⟩
/-! ===== END ===== -/
end
section
/-! ===== BEGIN printed: names, fields, word lists, decode rows ===== -/
def RX0 : String := "GuardedGrammar$Reader"
def TX0 : u_T := fun k => match k with
  | 0 => ("GuardedGrammar$Reader", "terms", "LGuardedGrammar$Terms;", true)
  | 1 => ("GuardedGrammar$Reader", "typing", "LGuardedGrammar$Typing;", true)
  | 2 => ("GuardedGrammar$Reader", "waiting", "[I", true)
  | 3 => ("GuardedGrammar$Reader", "open", "I", false)
  | 4 => ("GuardedGrammar$Reader", "place", "I", false)
  | 5 => ("GuardedGrammar$Reader", "visits", "I", false)
  | 6 => ("GuardedGrammar$Reader", "made", "LGuardedGrammar$Steps;", false)
  | _ => ("GuardedGrammar$Reader", "kept", "LGuardedGrammar$Steps;", false)
def tyX0 : Nat → FieldType := fun k => match k with
  | 0 => .object "GuardedGrammar$Terms"
  | 1 => .object "GuardedGrammar$Typing"
  | 2 => .array .int
  | 3 => .int
  | 4 => .int
  | 5 => .int
  | 6 => .object "GuardedGrammar$Steps"
  | _ => .object "GuardedGrammar$Steps"
abbrev wsX00 : List Cond := u_ws RX0 TX0 8
theorem nmX0 : ∀ a, a < 8 → ∀ b, b < 8 → a ≠ b → (TX0 a).2.1 ≠ (TX0 b).2.1 := by decide +kernel
theorem tyX0_ok : ∀ k, k < 8 → parseFieldDescriptor (TX0 k).2.2.1 = some (tyX0 k) := by decide +kernel
abbrev cX0_init : ByteArray := prog_2_method_1_code
def yX0_init : MethodName := ⟨RX0, "<init>", "(LGuardedGrammar$Terms;LGuardedGrammar$Typing;)V"⟩
abbrev cX0_reads : ByteArray := prog_2_method_2_code
def yX0_reads : MethodName := ⟨RX0, "reads", "(ILGuardedGrammar$Word;)Z"⟩
abbrev cX0_place : ByteArray := prog_2_method_3_code
def yX0_place : MethodName := ⟨RX0, "place", "()I"⟩
abbrev cX0_visits : ByteArray := prog_2_method_4_code
def yX0_visits : MethodName := ⟨RX0, "visits", "()I"⟩
abbrev cX0_keepSteps : ByteArray := prog_2_method_5_code
def yX0_keepSteps : MethodName := ⟨RX0, "keepSteps", "()V"⟩
abbrev cX0_kept : ByteArray := prog_2_method_6_code
def yX0_kept : MethodName := ⟨RX0, "kept", "()LGuardedGrammar$Steps;"⟩
abbrev cX0_await : ByteArray := prog_2_method_7_code
def yX0_await : MethodName := ⟨RX0, "await", "(I)V"⟩
abbrev cX0_visit : ByteArray := prog_2_method_8_code
def yX0_visit : MethodName := ⟨RX0, "visit", "(ILGuardedGrammar$Word;)Z"⟩
abbrev cX0_readLetter : ByteArray := prog_2_method_9_code
def yX0_readLetter : MethodName := ⟨RX0, "readLetter", "(ILGuardedGrammar$Word;)Z"⟩
abbrev cX0_choose : ByteArray := prog_2_method_10_code
def yX0_choose : MethodName := ⟨RX0, "choose", "(ILGuardedGrammar$Word;)Z"⟩
def RX1 : String := "GuardedGrammar$Speller"
def TX1 : u_T := fun k => match k with
  | 0 => ("GuardedGrammar$Speller", "terms", "LGuardedGrammar$Terms;", true)
  | 1 => ("GuardedGrammar$Speller", "typing", "LGuardedGrammar$Typing;", true)
  | 2 => ("GuardedGrammar$Speller", "tally", "LGuardedGrammar$Tally;", true)
  | 3 => ("GuardedGrammar$Speller", "pile", "[I", true)
  | 4 => ("GuardedGrammar$Speller", "height", "I", false)
  | 5 => ("GuardedGrammar$Speller", "ways", "[J", true)
  | 6 => ("GuardedGrammar$Speller", "fresh", "[I", true)
  | 7 => ("GuardedGrammar$Speller", "freshSize", "I", false)
  | _ => ("GuardedGrammar$Speller", "ahead", "[J", true)
def tyX1 : Nat → FieldType := fun k => match k with
  | 0 => .object "GuardedGrammar$Terms"
  | 1 => .object "GuardedGrammar$Typing"
  | 2 => .object "GuardedGrammar$Tally"
  | 3 => .array .int
  | 4 => .int
  | 5 => .array .long
  | 6 => .array .int
  | 7 => .int
  | _ => .array .long
abbrev wsX10 : List Cond := u_ws RX1 TX1 9
theorem nmX1 : ∀ a, a < 9 → ∀ b, b < 9 → a ≠ b → (TX1 a).2.1 ≠ (TX1 b).2.1 := by decide +kernel
theorem tyX1_ok : ∀ k, k < 9 → parseFieldDescriptor (TX1 k).2.2.1 = some (tyX1 k) := by decide +kernel
abbrev cX1_init : ByteArray := prog_3_method_1_code
def yX1_init : MethodName := ⟨RX1, "<init>", "(LGuardedGrammar$Terms;LGuardedGrammar$Typing;LGuardedGrammar$Tally;)V"⟩
abbrev cX1_spell : ByteArray := prog_3_method_2_code
def yX1_spell : MethodName := ⟨RX1, "spell", "(IIJLGuardedGrammar$Word;)V"⟩
abbrev cX1_startPile : ByteArray := prog_3_method_3_code
def yX1_startPile : MethodName := ⟨RX1, "startPile", "(II)V"⟩
abbrev cX1_spellNext : ByteArray := prog_3_method_4_code
def yX1_spellNext : MethodName := ⟨RX1, "spellNext", "(IJLGuardedGrammar$Word;)J"⟩
abbrev cX1_readerOf : ByteArray := prog_3_method_5_code
def yX1_readerOf : MethodName := ⟨RX1, "readerOf", "(I)I"⟩
abbrev cX1_goDown : ByteArray := prog_3_method_6_code
def yX1_goDown : MethodName := ⟨RX1, "goDown", "(II)V"⟩
abbrev cX1_below : ByteArray := prog_3_method_7_code
def yX1_below : MethodName := ⟨RX1, "below", "(II)I"⟩
abbrev cX1_wordsAhead : ByteArray := prog_3_method_8_code
def yX1_wordsAhead : MethodName := ⟨RX1, "wordsAhead", "(II)J"⟩
abbrev cX1_takeFresh : ByteArray := prog_3_method_9_code
def yX1_takeFresh : MethodName := ⟨RX1, "takeFresh", "(II)V"⟩
abbrev cX1_pileUp : ByteArray := prog_3_method_10_code
def yX1_pileUp : MethodName := ⟨RX1, "pileUp", "(II)V"⟩
def RX2 : String := "GuardedGrammar$Steps"
def TX2 : u_T := fun k => match k with
  | 0 => ("GuardedGrammar$Steps", "bits", "[J", true)
  | _ => ("GuardedGrammar$Steps", "size", "I", false)
def tyX2 : Nat → FieldType := fun k => match k with
  | 0 => .array .long
  | _ => .int
abbrev wsX20 : List Cond := u_ws RX2 TX2 2
theorem nmX2 : ∀ a, a < 2 → ∀ b, b < 2 → a ≠ b → (TX2 a).2.1 ≠ (TX2 b).2.1 := by decide +kernel
theorem tyX2_ok : ∀ k, k < 2 → parseFieldDescriptor (TX2 k).2.2.1 = some (tyX2 k) := by decide +kernel
abbrev cX2_init : ByteArray := prog_4_method_1_code
def yX2_init : MethodName := ⟨RX2, "<init>", "()V"⟩
abbrev cX2_forgetAll : ByteArray := prog_4_method_2_code
def yX2_forgetAll : MethodName := ⟨RX2, "forgetAll", "()V"⟩
abbrev cX2_add : ByteArray := prog_4_method_3_code
def yX2_add : MethodName := ⟨RX2, "add", "(I)V"⟩
abbrev cX2_size : ByteArray := prog_4_method_4_code
def yX2_size : MethodName := ⟨RX2, "size", "()I"⟩
abbrev cX2_at : ByteArray := prog_4_method_5_code
def yX2_at : MethodName := ⟨RX2, "at", "(I)I"⟩
def RX3 : String := "GuardedGrammar$Tally"
def TX3 : u_T := fun k => match k with
  | 0 => ("GuardedGrammar$Tally", "terms", "LGuardedGrammar$Terms;", true)
  | 1 => ("GuardedGrammar$Tally", "typing", "LGuardedGrammar$Typing;", true)
  | _ => ("GuardedGrammar$Tally", "words", "[[J", true)
def tyX3 : Nat → FieldType := fun k => match k with
  | 0 => .object "GuardedGrammar$Terms"
  | 1 => .object "GuardedGrammar$Typing"
  | _ => .array (.array .long)
abbrev wsX30 : List Cond := u_ws RX3 TX3 3
theorem nmX3 : ∀ a, a < 3 → ∀ b, b < 3 → a ≠ b → (TX3 a).2.1 ≠ (TX3 b).2.1 := by decide +kernel
theorem tyX3_ok : ∀ k, k < 3 → parseFieldDescriptor (TX3 k).2.2.1 = some (tyX3 k) := by decide +kernel
abbrev cX3_init : ByteArray := prog_5_method_1_code
def yX3_init : MethodName := ⟨RX3, "<init>", "(LGuardedGrammar$Terms;LGuardedGrammar$Typing;)V"⟩
abbrev cX3_words : ByteArray := prog_5_method_2_code
def yX3_words : MethodName := ⟨RX3, "words", "(II)J"⟩
abbrev cX3_countTo : ByteArray := prog_5_method_3_code
def yX3_countTo : MethodName := ⟨RX3, "countTo", "(I)V"⟩
abbrev cX3_lengthen : ByteArray := prog_5_method_4_code
def yX3_lengthen : MethodName := ⟨RX3, "lengthen", "([JIII)V"⟩
abbrev cX3_countLength : ByteArray := prog_5_method_5_code
def yX3_countLength : MethodName := ⟨RX3, "countLength", "(I)V"⟩
abbrev cX3_wordsByParts : ByteArray := prog_5_method_6_code
def yX3_wordsByParts : MethodName := ⟨RX3, "wordsByParts", "(II)J"⟩
abbrev cX3_wordsOfPair : ByteArray := prog_5_method_7_code
def yX3_wordsOfPair : MethodName := ⟨RX3, "wordsOfPair", "(III)J"⟩
def RX4 : String := "GuardedGrammar$Terms"
def TX4 : u_T := fun k => match k with
  | 0 => ("GuardedGrammar$Terms", "kinds", "[I", true)
  | 1 => ("GuardedGrammar$Terms", "values", "[I", true)
  | 2 => ("GuardedGrammar$Terms", "lefts", "[I", true)
  | 3 => ("GuardedGrammar$Terms", "rights", "[I", true)
  | 4 => ("GuardedGrammar$Terms", "wholes", "[I", true)
  | 5 => ("GuardedGrammar$Terms", "knots", "[I", true)
  | _ => ("GuardedGrammar$Terms", "size", "I", false)
def tyX4 : Nat → FieldType := fun k => match k with
  | 0 => .array .int
  | 1 => .array .int
  | 2 => .array .int
  | 3 => .array .int
  | 4 => .array .int
  | 5 => .array .int
  | _ => .int
abbrev wsX40 : List Cond := u_ws RX4 TX4 7
theorem nmX4 : ∀ a, a < 7 → ∀ b, b < 7 → a ≠ b → (TX4 a).2.1 ≠ (TX4 b).2.1 := by decide +kernel
theorem tyX4_ok : ∀ k, k < 7 → parseFieldDescriptor (TX4 k).2.2.1 = some (tyX4 k) := by decide +kernel
abbrev cX4_init : ByteArray := prog_6_method_1_code
def yX4_init : MethodName := ⟨RX4, "<init>", "()V"⟩
abbrev cX4_add : ByteArray := prog_6_method_2_code
def yX4_add : MethodName := ⟨RX4, "add", "(IIII)I"⟩
abbrev cX4_makePart : ByteArray := prog_6_method_3_code
def yX4_makePart : MethodName := ⟨RX4, "makePart", "(II)V"⟩
abbrev cX4_forgetAll : ByteArray := prog_6_method_4_code
def yX4_forgetAll : MethodName := ⟨RX4, "forgetAll", "()V"⟩
abbrev cX4_size : ByteArray := prog_6_method_5_code
def yX4_size : MethodName := ⟨RX4, "size", "()I"⟩
abbrev cX4_has : ByteArray := prog_6_method_6_code
def yX4_has : MethodName := ⟨RX4, "has", "(I)Z"⟩
abbrev cX4_isFull : ByteArray := prog_6_method_7_code
def yX4_isFull : MethodName := ⟨RX4, "isFull", "()Z"⟩
abbrev cX4_isPart : ByteArray := prog_6_method_8_code
def yX4_isPart : MethodName := ⟨RX4, "isPart", "(I)Z"⟩
abbrev cX4_knotsIn : ByteArray := prog_6_method_9_code
def yX4_knotsIn : MethodName := ⟨RX4, "knotsIn", "(I)I"⟩
abbrev cX4_kind : ByteArray := prog_6_method_10_code
def yX4_kind : MethodName := ⟨RX4, "kind", "(I)I"⟩
abbrev cX4_value : ByteArray := prog_6_method_11_code
def yX4_value : MethodName := ⟨RX4, "value", "(I)I"⟩
abbrev cX4_left : ByteArray := prog_6_method_12_code
def yX4_left : MethodName := ⟨RX4, "left", "(I)I"⟩
abbrev cX4_right : ByteArray := prog_6_method_13_code
def yX4_right : MethodName := ⟨RX4, "right", "(I)I"⟩
abbrev cX4_whole : ByteArray := prog_6_method_14_code
def yX4_whole : MethodName := ⟨RX4, "whole", "(I)I"⟩
def RX5 : String := "GuardedGrammar$Typing"
def TX5 : u_T := fun k => match k with
  | 0 => ("GuardedGrammar$Typing", "terms", "LGuardedGrammar$Terms;", true)
  | 1 => ("GuardedGrammar$Typing", "order", "[I", true)
  | 2 => ("GuardedGrammar$Typing", "waiting", "[I", true)
  | 3 => ("GuardedGrammar$Typing", "binders", "[I", true)
  | 4 => ("GuardedGrammar$Typing", "guarded", "[Z", true)
  | 5 => ("GuardedGrammar$Typing", "nullable", "[Z", true)
  | 6 => ("GuardedGrammar$Typing", "firsts", "[I", true)
  | 7 => ("GuardedGrammar$Typing", "afters", "[I", true)
  | _ => ("GuardedGrammar$Typing", "start", "I", false)
def tyX5 : Nat → FieldType := fun k => match k with
  | 0 => .object "GuardedGrammar$Terms"
  | 1 => .array .int
  | 2 => .array .int
  | 3 => .array .int
  | 4 => .array .boolean
  | 5 => .array .boolean
  | 6 => .array .int
  | 7 => .array .int
  | _ => .int
abbrev wsX50 : List Cond := u_ws RX5 TX5 9
theorem nmX5 : ∀ a, a < 9 → ∀ b, b < 9 → a ≠ b → (TX5 a).2.1 ≠ (TX5 b).2.1 := by decide +kernel
theorem tyX5_ok : ∀ k, k < 9 → parseFieldDescriptor (TX5 k).2.2.1 = some (tyX5 k) := by decide +kernel
abbrev cX5_init : ByteArray := prog_7_method_1_code
def yX5_init : MethodName := ⟨RX5, "<init>", "(LGuardedGrammar$Terms;)V"⟩
abbrev cX5_study : ByteArray := prog_7_method_2_code
def yX5_study : MethodName := ⟨RX5, "study", "(I)V"⟩
abbrev cX5_size : ByteArray := prog_7_method_3_code
def yX5_size : MethodName := ⟨RX5, "size", "()I"⟩
abbrev cX5_inOrder : ByteArray := prog_7_method_4_code
def yX5_inOrder : MethodName := ⟨RX5, "inOrder", "(I)I"⟩
abbrev cX5_isNullable : ByteArray := prog_7_method_5_code
def yX5_isNullable : MethodName := ⟨RX5, "isNullable", "(I)Z"⟩
abbrev cX5_firstOf : ByteArray := prog_7_method_6_code
def yX5_firstOf : MethodName := ⟨RX5, "firstOf", "(I)I"⟩
abbrev cX5_afterOf : ByteArray := prog_7_method_7_code
def yX5_afterOf : MethodName := ⟨RX5, "afterOf", "(I)I"⟩
abbrev cX5_binder : ByteArray := prog_7_method_8_code
def yX5_binder : MethodName := ⟨RX5, "binder", "(I)I"⟩
abbrev cX5_side : ByteArray := prog_7_method_9_code
def yX5_side : MethodName := ⟨RX5, "side", "(II)I"⟩
abbrev cX5_firstFault : ByteArray := prog_7_method_10_code
def yX5_firstFault : MethodName := ⟨RX5, "firstFault", "()I"⟩
abbrev cX5_lineUp : ByteArray := prog_7_method_11_code
def yX5_lineUp : MethodName := ⟨RX5, "lineUp", "(I)V"⟩
abbrev cX5_bind : ByteArray := prog_7_method_12_code
def yX5_bind : MethodName := ⟨RX5, "bind", "(II)V"⟩
abbrev cX5_inferTypes : ByteArray := prog_7_method_13_code
def yX5_inferTypes : MethodName := ⟨RX5, "inferTypes", "()V"⟩
abbrev cX5_widen : ByteArray := prog_7_method_14_code
def yX5_widen : MethodName := ⟨RX5, "widen", "(I)Z"⟩
abbrev cX5_widenPair : ByteArray := prog_7_method_15_code
def yX5_widenPair : MethodName := ⟨RX5, "widenPair", "(III)Z"⟩
abbrev cX5_addTypeOf : ByteArray := prog_7_method_16_code
def yX5_addTypeOf : MethodName := ⟨RX5, "addTypeOf", "(II)Z"⟩
abbrev cX5_addToType : ByteArray := prog_7_method_17_code
def yX5_addToType : MethodName := ⟨RX5, "addToType", "(IZII)Z"⟩
abbrev cX5_faultAt : ByteArray := prog_7_method_18_code
def yX5_faultAt : MethodName := ⟨RX5, "faultAt", "(I)I"⟩
abbrev cX5_isLoose : ByteArray := prog_7_method_19_code
def yX5_isLoose : MethodName := ⟨RX5, "isLoose", "(II)Z"⟩
abbrev cX5_isDouble : ByteArray := prog_7_method_20_code
def yX5_isDouble : MethodName := ⟨RX5, "isDouble", "(II)Z"⟩
def RX6 : String := "GuardedGrammar$Word"
def TX6 : u_T := fun k => match k with
  | 0 => ("GuardedGrammar$Word", "letters", "[I", true)
  | _ => ("GuardedGrammar$Word", "size", "I", false)
def tyX6 : Nat → FieldType := fun k => match k with
  | 0 => .array .int
  | _ => .int
abbrev wsX60 : List Cond := u_ws RX6 TX6 2
theorem nmX6 : ∀ a, a < 2 → ∀ b, b < 2 → a ≠ b → (TX6 a).2.1 ≠ (TX6 b).2.1 := by decide +kernel
theorem tyX6_ok : ∀ k, k < 2 → parseFieldDescriptor (TX6 k).2.2.1 = some (tyX6 k) := by decide +kernel
abbrev cX6_init : ByteArray := prog_8_method_1_code
def yX6_init : MethodName := ⟨RX6, "<init>", "()V"⟩
abbrev cX6_add : ByteArray := prog_8_method_2_code
def yX6_add : MethodName := ⟨RX6, "add", "(I)V"⟩
abbrev cX6_keep : ByteArray := prog_8_method_3_code
def yX6_keep : MethodName := ⟨RX6, "keep", "(I)V"⟩
abbrev cX6_size : ByteArray := prog_8_method_4_code
def yX6_size : MethodName := ⟨RX6, "size", "()I"⟩
abbrev cX6_isFull : ByteArray := prog_8_method_5_code
def yX6_isFull : MethodName := ⟨RX6, "isFull", "()Z"⟩
abbrev cX6_at : ByteArray := prog_8_method_6_code
def yX6_at : MethodName := ⟨RX6, "at", "(I)I"⟩
def RX7 : String := "GuardedGrammar"
def TX7 : u_T := fun k => match k with
  | 0 => ("GuardedGrammar", "terms", "LGuardedGrammar$Terms;", true)
  | 1 => ("GuardedGrammar", "typing", "LGuardedGrammar$Typing;", true)
  | 2 => ("GuardedGrammar", "word", "LGuardedGrammar$Word;", true)
  | 3 => ("GuardedGrammar", "reader", "LGuardedGrammar$Reader;", true)
  | 4 => ("GuardedGrammar", "tally", "LGuardedGrammar$Tally;", true)
  | 5 => ("GuardedGrammar", "speller", "LGuardedGrammar$Speller;", true)
  | _ => ("GuardedGrammar", "stopped", "I", false)
def tyX7 : Nat → FieldType := fun k => match k with
  | 0 => .object "GuardedGrammar$Terms"
  | 1 => .object "GuardedGrammar$Typing"
  | 2 => .object "GuardedGrammar$Word"
  | 3 => .object "GuardedGrammar$Reader"
  | 4 => .object "GuardedGrammar$Tally"
  | 5 => .object "GuardedGrammar$Speller"
  | _ => .int
abbrev wsX70 : List Cond := u_ws RX7 TX7 7
theorem nmX7 : ∀ a, a < 7 → ∀ b, b < 7 → a ≠ b → (TX7 a).2.1 ≠ (TX7 b).2.1 := by decide +kernel
theorem tyX7_ok : ∀ k, k < 7 → parseFieldDescriptor (TX7 k).2.2.1 = some (tyX7 k) := by decide +kernel
abbrev cX7_init : ByteArray := prog_1_method_1_code
def yX7_init : MethodName := ⟨RX7, "<init>", "()V"⟩
abbrev cX7_leaf : ByteArray := prog_1_method_2_code
def yX7_leaf : MethodName := ⟨RX7, "leaf", "(I)I"⟩
abbrev cX7_variable : ByteArray := prog_1_method_3_code
def yX7_variable : MethodName := ⟨RX7, "variable", "(I)I"⟩
abbrev cX7_join : ByteArray := prog_1_method_4_code
def yX7_join : MethodName := ⟨RX7, "join", "(IIZ)I"⟩
abbrev cX7_knot : ByteArray := prog_1_method_5_code
def yX7_knot : MethodName := ⟨RX7, "knot", "(II)I"⟩
abbrev cX7_clear : ByteArray := prog_1_method_6_code
def yX7_clear : MethodName := ⟨RX7, "clear", "()V"⟩
abbrev cX7_terms : ByteArray := prog_1_method_7_code
def yX7_terms : MethodName := ⟨RX7, "terms", "()I"⟩
abbrev cX7_fault : ByteArray := prog_1_method_8_code
def yX7_fault : MethodName := ⟨RX7, "fault", "(I)I"⟩
abbrev cX7_type : ByteArray := prog_1_method_9_code
def yX7_type : MethodName := ⟨RX7, "type", "(II)I"⟩
abbrev cX7_put : ByteArray := prog_1_method_10_code
def yX7_put : MethodName := ⟨RX7, "put", "(I)Z"⟩
abbrev cX7_cut : ByteArray := prog_1_method_11_code
def yX7_cut : MethodName := ⟨RX7, "cut", "(I)Z"⟩
abbrev cX7_length : ByteArray := prog_1_method_12_code
def yX7_length : MethodName := ⟨RX7, "length", "()I"⟩
abbrev cX7_letter : ByteArray := prog_1_method_13_code
def yX7_letter : MethodName := ⟨RX7, "letter", "(I)I"⟩
abbrev cX7_read : ByteArray := prog_1_method_14_code
def yX7_read : MethodName := ⟨RX7, "read", "(I)I"⟩
abbrev cX7_stopped : ByteArray := prog_1_method_15_code
def yX7_stopped : MethodName := ⟨RX7, "stopped", "()I"⟩
abbrev cX7_trace : ByteArray := prog_1_method_16_code
def yX7_trace : MethodName := ⟨RX7, "trace", "()I"⟩
abbrev cX7_step : ByteArray := prog_1_method_17_code
def yX7_step : MethodName := ⟨RX7, "step", "(I)I"⟩
abbrev cX7_count : ByteArray := prog_1_method_18_code
def yX7_count : MethodName := ⟨RX7, "count", "(II)J"⟩
abbrev cX7_find : ByteArray := prog_1_method_19_code
def yX7_find : MethodName := ⟨RX7, "find", "(IIJ)V"⟩
abbrev cX7_countTo : ByteArray := prog_1_method_20_code
def yX7_countTo : MethodName := ⟨RX7, "countTo", "(II)V"⟩
abbrev cX7_needTerm : ByteArray := prog_1_method_21_code
def yX7_needTerm : MethodName := ⟨RX7, "needTerm", "(I)V"⟩
abbrev cX7_needTyped : ByteArray := prog_1_method_22_code
def yX7_needTyped : MethodName := ⟨RX7, "needTyped", "(I)V"⟩
abbrev cX7_needVariable : ByteArray := prog_1_method_23_code
def yX7_needVariable : MethodName := ⟨RX7, "needVariable", "(I)V"⟩
abbrev cX7_needRoom : ByteArray := prog_1_method_24_code
def yX7_needRoom : MethodName := ⟨RX7, "needRoom", "()V"⟩
def RX8 : String := "GuardedGrammarModel"
def TX8 : u_T := fun k => match k with
  | 0 => ("GuardedGrammarModel", "thrown", "I", false)
  | 1 => ("GuardedGrammarModel", "terms", "I", false)
  | 2 => ("GuardedGrammarModel", "kind", "[I", true)
  | 3 => ("GuardedGrammarModel", "sign", "[I", true)
  | 4 => ("GuardedGrammarModel", "one", "[I", true)
  | 5 => ("GuardedGrammarModel", "two", "[I", true)
  | 6 => ("GuardedGrammarModel", "whole", "[I", true)
  | 7 => ("GuardedGrammarModel", "knots", "[I", true)
  | 8 => ("GuardedGrammarModel", "nullable", "[Z", true)
  | 9 => ("GuardedGrammarModel", "first", "[I", true)
  | 10 => ("GuardedGrammarModel", "after", "[I", true)
  | 11 => ("GuardedGrammarModel", "inside", "[Z", true)
  | 12 => ("GuardedGrammarModel", "binder", "[I", true)
  | 13 => ("GuardedGrammarModel", "letters", "I", false)
  | 14 => ("GuardedGrammarModel", "word", "[I", true)
  | 15 => ("GuardedGrammarModel", "at", "I", false)
  | 16 => ("GuardedGrammarModel", "steps", "I", false)
  | 17 => ("GuardedGrammarModel", "trace", "[I", true)
  | 18 => ("GuardedGrammarModel", "fresh", "I", false)
  | 19 => ("GuardedGrammarModel", "met", "[I", true)
  | 20 => ("GuardedGrammarModel", "visited", "I", false)
  | 21 => ("GuardedGrammarModel", "open", "I", false)
  | 22 => ("GuardedGrammarModel", "todo", "[I", true)
  | 23 => ("GuardedGrammarModel", "saved", "I", false)
  | 24 => ("GuardedGrammarModel", "todoSaved", "[I", true)
  | 25 => ("GuardedGrammarModel", "counts", "[J", true)
  | 26 => ("GuardedGrammarModel", "row", "[J", true)
  | _ => ("GuardedGrammarModel", "other", "[J", true)
def tyX8 : Nat → FieldType := fun k => match k with
  | 0 => .int
  | 1 => .int
  | 2 => .array .int
  | 3 => .array .int
  | 4 => .array .int
  | 5 => .array .int
  | 6 => .array .int
  | 7 => .array .int
  | 8 => .array .boolean
  | 9 => .array .int
  | 10 => .array .int
  | 11 => .array .boolean
  | 12 => .array .int
  | 13 => .int
  | 14 => .array .int
  | 15 => .int
  | 16 => .int
  | 17 => .array .int
  | 18 => .int
  | 19 => .array .int
  | 20 => .int
  | 21 => .int
  | 22 => .array .int
  | 23 => .int
  | 24 => .array .int
  | 25 => .array .long
  | 26 => .array .long
  | _ => .array .long
abbrev wsX80 : List Cond := u_ws RX8 TX8 28
theorem nmX8 : ∀ a, a < 28 → ∀ b, b < 28 → a ≠ b → (TX8 a).2.1 ≠ (TX8 b).2.1 := by decide +kernel
theorem tyX8_ok : ∀ k, k < 28 → parseFieldDescriptor (TX8 k).2.2.1 = some (tyX8 k) := by decide +kernel
abbrev cX8_init : ByteArray := prog_10_method_1_code
def yX8_init : MethodName := ⟨RX8, "<init>", "()V"⟩
abbrev cX8_thrown : ByteArray := prog_10_method_2_code
def yX8_thrown : MethodName := ⟨RX8, "thrown", "()I"⟩
abbrev cX8_fail : ByteArray := prog_10_method_3_code
def yX8_fail : MethodName := ⟨RX8, "fail", "(I)I"⟩
abbrev cX8_isTerm : ByteArray := prog_10_method_4_code
def yX8_isTerm : MethodName := ⟨RX8, "isTerm", "(I)Z"⟩
abbrev cX8_isPart : ByteArray := prog_10_method_5_code
def yX8_isPart : MethodName := ⟨RX8, "isPart", "(I)Z"⟩
abbrev cX8_add : ByteArray := prog_10_method_6_code
def yX8_add : MethodName := ⟨RX8, "add", "(IIII)I"⟩
abbrev cX8_leaf : ByteArray := prog_10_method_7_code
def yX8_leaf : MethodName := ⟨RX8, "leaf", "(I)I"⟩
abbrev cX8_variable : ByteArray := prog_10_method_8_code
def yX8_variable : MethodName := ⟨RX8, "variable", "(I)I"⟩
abbrev cX8_join : ByteArray := prog_10_method_9_code
def yX8_join : MethodName := ⟨RX8, "join", "(IIZ)I"⟩
abbrev cX8_knot : ByteArray := prog_10_method_10_code
def yX8_knot : MethodName := ⟨RX8, "knot", "(II)I"⟩
abbrev cX8_clear : ByteArray := prog_10_method_11_code
def yX8_clear : MethodName := ⟨RX8, "clear", "()V"⟩
abbrev cX8_terms : ByteArray := prog_10_method_12_code
def yX8_terms : MethodName := ⟨RX8, "terms", "()I"⟩
abbrev cX8_gather : ByteArray := prog_10_method_13_code
def yX8_gather : MethodName := ⟨RX8, "gather", "(I)V"⟩
abbrev cX8_grow : ByteArray := prog_10_method_14_code
def yX8_grow : MethodName := ⟨RX8, "grow", "(I)Z"⟩
abbrev cX8_typeAll : ByteArray := prog_10_method_15_code
def yX8_typeAll : MethodName := ⟨RX8, "typeAll", "(I)V"⟩
abbrev cX8_isGuarded : ByteArray := prog_10_method_16_code
def yX8_isGuarded : MethodName := ⟨RX8, "isGuarded", "(I)Z"⟩
abbrev cX8_faultAt : ByteArray := prog_10_method_17_code
def yX8_faultAt : MethodName := ⟨RX8, "faultAt", "(I)I"⟩
abbrev cX8_leftmost : ByteArray := prog_10_method_18_code
def yX8_leftmost : MethodName := ⟨RX8, "leftmost", "(I)I"⟩
abbrev cX8_faultOf : ByteArray := prog_10_method_19_code
def yX8_faultOf : MethodName := ⟨RX8, "faultOf", "(I)I"⟩
abbrev cX8_fault : ByteArray := prog_10_method_20_code
def yX8_fault : MethodName := ⟨RX8, "fault", "(I)I"⟩
abbrev cX8_type : ByteArray := prog_10_method_21_code
def yX8_type : MethodName := ⟨RX8, "type", "(II)I"⟩
abbrev cX8_put : ByteArray := prog_10_method_22_code
def yX8_put : MethodName := ⟨RX8, "put", "(I)Z"⟩
abbrev cX8_cut : ByteArray := prog_10_method_23_code
def yX8_cut : MethodName := ⟨RX8, "cut", "(I)Z"⟩
abbrev cX8_length : ByteArray := prog_10_method_24_code
def yX8_length : MethodName := ⟨RX8, "length", "()I"⟩
abbrev cX8_letter : ByteArray := prog_10_method_25_code
def yX8_letter : MethodName := ⟨RX8, "letter", "(I)I"⟩
abbrev cX8_go : ByteArray := prog_10_method_26_code
def yX8_go : MethodName := ⟨RX8, "go", "(I)I"⟩
abbrev cX8_choice : ByteArray := prog_10_method_27_code
def yX8_choice : MethodName := ⟨RX8, "choice", "(II)I"⟩
abbrev cX8_beginAt : ByteArray := prog_10_method_28_code
def yX8_beginAt : MethodName := ⟨RX8, "beginAt", "(I)V"⟩
abbrev cX8_read : ByteArray := prog_10_method_29_code
def yX8_read : MethodName := ⟨RX8, "read", "(I)I"⟩
abbrev cX8_stopped : ByteArray := prog_10_method_30_code
def yX8_stopped : MethodName := ⟨RX8, "stopped", "()I"⟩
abbrev cX8_trace : ByteArray := prog_10_method_31_code
def yX8_trace : MethodName := ⟨RX8, "trace", "()I"⟩
abbrev cX8_step : ByteArray := prog_10_method_32_code
def yX8_step : MethodName := ⟨RX8, "step", "(I)I"⟩
abbrev cX8_countAt : ByteArray := prog_10_method_33_code
def yX8_countAt : MethodName := ⟨RX8, "countAt", "(II)J"⟩
abbrev cX8_countAll : ByteArray := prog_10_method_34_code
def yX8_countAll : MethodName := ⟨RX8, "countAll", "(I)V"⟩
abbrev cX8_wrongCount : ByteArray := prog_10_method_35_code
def yX8_wrongCount : MethodName := ⟨RX8, "wrongCount", "(II)I"⟩
abbrev cX8_count : ByteArray := prog_10_method_36_code
def yX8_count : MethodName := ⟨RX8, "count", "(II)J"⟩
abbrev cX8_countOpen : ByteArray := prog_10_method_37_code
def yX8_countOpen : MethodName := ⟨RX8, "countOpen", "(I)J"⟩
abbrev cX8_keep : ByteArray := prog_10_method_38_code
def yX8_keep : MethodName := ⟨RX8, "keep", "()V"⟩
abbrev cX8_back : ByteArray := prog_10_method_39_code
def yX8_back : MethodName := ⟨RX8, "back", "()V"⟩
abbrev cX8_find : ByteArray := prog_10_method_40_code
def yX8_find : MethodName := ⟨RX8, "find", "(IIJ)V"⟩
def RJx145de : String := "java/io/Serializable"
def TJx145de : u_T := fun k => match k with
  | _ => ("", "", "", false)
def tyJx145de : Nat → FieldType := fun k => match k with
  | _ => .int
abbrev wsJx145de0 : List Cond := u_ws RJx145de TJx145de 0
theorem nmJx145de : ∀ a, a < 0 → ∀ b, b < 0 → a ≠ b → (TJx145de a).2.1 ≠ (TJx145de b).2.1 := by decide +kernel
theorem tyJx145de_ok : ∀ k, k < 0 → parseFieldDescriptor (TJx145de k).2.2.1 = some (tyJx145de k) := by decide +kernel
def RJ9 : String := "java/lang/Math"
def TJ9 : u_T := fun k => match k with
  | _ => ("", "", "", false)
def tyJ9 : Nat → FieldType := fun k => match k with
  | _ => .int
abbrev wsJ90 : List Cond := u_ws RJ9 TJ9 0
theorem nmJ9 : ∀ a, a < 0 → ∀ b, b < 0 → a ≠ b → (TJ9 a).2.1 ≠ (TJ9 b).2.1 := by decide +kernel
theorem tyJ9_ok : ∀ k, k < 0 → parseFieldDescriptor (TJ9 k).2.2.1 = some (tyJ9 k) := by decide +kernel
abbrev cJ9_max_7cf53 : ByteArray := prog_16_method_65_code
def yJ9_max_7cf53 : MethodName := ⟨RJ9, "max", "(II)I"⟩
def RJ10 : String := "java/lang/System"
def TJ10 : u_T := fun k => match k with
  | _ => ("", "", "", false)
def tyJ10 : Nat → FieldType := fun k => match k with
  | _ => .int
abbrev wsJ100 : List Cond := u_ws RJ10 TJ10 0
theorem nmJ10 : ∀ a, a < 0 → ∀ b, b < 0 → a ≠ b → (TJ10 a).2.1 ≠ (TJ10 b).2.1 := by decide +kernel
theorem tyJ10_ok : ∀ k, k < 0 → parseFieldDescriptor (TJ10 k).2.2.1 = some (tyJ10 k) := by decide +kernel
def RL : String := "GuardedGrammarLaw"
abbrev cL_leaf : ByteArray := method_3_code
def yL_leaf : MethodName := ⟨RL, "leaf", "(LGuardedGrammar;I[J)I"⟩
abbrev cL_variable : ByteArray := method_4_code
def yL_variable : MethodName := ⟨RL, "variable", "(LGuardedGrammar;I[J)I"⟩
abbrev cL_join : ByteArray := method_5_code
def yL_join : MethodName := ⟨RL, "join", "(LGuardedGrammar;IIZ[J)I"⟩
abbrev cL_knot : ByteArray := method_6_code
def yL_knot : MethodName := ⟨RL, "knot", "(LGuardedGrammar;II[J)I"⟩
abbrev cL_fault : ByteArray := method_7_code
def yL_fault : MethodName := ⟨RL, "fault", "(LGuardedGrammar;I[J)I"⟩
abbrev cL_type : ByteArray := method_8_code
def yL_type : MethodName := ⟨RL, "type", "(LGuardedGrammar;II[J)I"⟩
abbrev cL_letter : ByteArray := method_9_code
def yL_letter : MethodName := ⟨RL, "letter", "(LGuardedGrammar;I[J)I"⟩
abbrev cL_read : ByteArray := method_10_code
def yL_read : MethodName := ⟨RL, "read", "(LGuardedGrammar;I[J)I"⟩
abbrev cL_step : ByteArray := method_11_code
def yL_step : MethodName := ⟨RL, "step", "(LGuardedGrammar;I[J)I"⟩
abbrev cL_count : ByteArray := method_12_code
def yL_count : MethodName := ⟨RL, "count", "(LGuardedGrammar;II[J)I"⟩
abbrev cL_find : ByteArray := method_13_code
def yL_find : MethodName := ⟨RL, "find", "(LGuardedGrammar;IIJ)I"⟩
abbrev cL_law : ByteArray := code
def yL_law : MethodName := ⟨RL, "law", "([I)Z"⟩
def wsX2_init : List Cond := .code yX2_init cX2_init 1 none :: ([.methodLink RX2 3 objectInit, .instanceMethod objectInit, .code objectInit ⟨#[0xb1]⟩ 1 none, .arrayClass .long, .fieldLink RX2 9 "GuardedGrammar$Steps" "bits" "[J", .fieldLink RX2 15 "GuardedGrammar$Steps" "size" "I"] ++ wsX20)
def wsX0_init : List Cond := .code yX0_init cX0_init 3 none :: ([.methodLink RX0 3 objectInit, .instanceMethod objectInit, .code objectInit ⟨#[0xb1]⟩ 1 none, .arrayClass .int, .fieldLink RX0 9 "GuardedGrammar$Reader" "waiting" "[I", .fieldLink RX0 15 "GuardedGrammar$Reader" "open" "I", .fieldLink RX0 19 "GuardedGrammar$Reader" "place" "I", .fieldLink RX0 22 "GuardedGrammar$Reader" "visits" "I", .classLink RX0 25 RX2, .instantiable RX2 2, .initialized RX2, .fieldLink RX0 28 "GuardedGrammar$Reader" "made" "LGuardedGrammar$Steps;", .fieldLink RX0 32 "GuardedGrammar$Reader" "kept" "LGuardedGrammar$Steps;", .fieldLink RX0 35 "GuardedGrammar$Reader" "terms" "LGuardedGrammar$Terms;", .fieldLink RX0 39 "GuardedGrammar$Reader" "typing" "LGuardedGrammar$Typing;", .instanceMethod yX2_init, .code yX2_init cX2_init 1 none, .methodLink RX2 3 objectInit, .arrayClass .long, .fieldLink RX2 9 "GuardedGrammar$Steps" "bits" "[J", .fieldLink RX2 15 "GuardedGrammar$Steps" "size" "I"] ++ wsX00 ++ wsX20)
def wsX2_forgetAll : List Cond := .code yX2_forgetAll cX2_forgetAll 1 none :: ([.fieldLink RX2 15 "GuardedGrammar$Steps" "size" "I"] ++ wsX20)
def wsX0_await : List Cond := .code yX0_await cX0_await 2 none :: ([.fieldLink RX0 15 "GuardedGrammar$Reader" "open" "I", .fieldLink RX0 9 "GuardedGrammar$Reader" "waiting" "[I"] ++ wsX00)
def wsX4_kind : List Cond := .code yX4_kind cX4_kind 2 (some .int) :: ([.fieldLink RX4 9 "GuardedGrammar$Terms" "kinds" "[I"] ++ wsX40)
def wsX4_value : List Cond := .code yX4_value cX4_value 2 (some .int) :: ([.fieldLink RX4 15 "GuardedGrammar$Terms" "values" "[I"] ++ wsX40)
def wsX6_size : List Cond := .code yX6_size cX6_size 1 (some .int) :: ([.fieldLink RX6 15 "GuardedGrammar$Word" "size" "I"] ++ wsX60)
def wsX6_at : List Cond := .code yX6_at cX6_at 2 (some .int) :: ([.fieldLink RX6 9 "GuardedGrammar$Word" "letters" "[I"] ++ wsX60)
def wsX0_readLetter : List Cond := .code yX0_readLetter cX0_readLetter 3 (some .boolean) :: ([.fieldLink RX0 19 "GuardedGrammar$Reader" "place" "I", .methodLink RX0 55 yX6_size, .instanceMethod yX6_size, .selects RX6 yX6_size yX6_size, .initialized RX6, .code yX6_size cX6_size 1 (some .int), .fieldLink RX6 15 "GuardedGrammar$Word" "size" "I", .methodLink RX0 87 yX6_at, .instanceMethod yX6_at, .selects RX6 yX6_at yX6_at, .code yX6_at cX6_at 2 (some .int), .fieldLink RX6 9 "GuardedGrammar$Word" "letters" "[I"] ++ wsX00 ++ wsX60)
def wsX4_right : List Cond := .code yX4_right cX4_right 2 (some .int) :: ([.fieldLink RX4 21 "GuardedGrammar$Terms" "rights" "[I"] ++ wsX40)
def wsX4_left : List Cond := .code yX4_left cX4_left 2 (some .int) :: ([.fieldLink RX4 18 "GuardedGrammar$Terms" "lefts" "[I"] ++ wsX40)
def wsX5_side : List Cond := .code yX5_side cX5_side 5 (some .int) :: ([.fieldLink RX5 38 "GuardedGrammar$Typing" "terms" "LGuardedGrammar$Terms;", .fieldLink RX5 28 "GuardedGrammar$Typing" "firsts" "[I", .fieldLink RX5 25 "GuardedGrammar$Typing" "nullable" "[Z", .methodLink RX5 53 yX4_left, .instanceMethod yX4_left, .selects RX4 yX4_left yX4_left, .initialized RX4, .code yX4_left cX4_left 2 (some .int), .fieldLink RX4 18 "GuardedGrammar$Terms" "lefts" "[I", .methodLink RX5 59 yX4_right, .instanceMethod yX4_right, .selects RX4 yX4_right yX4_right, .code yX4_right cX4_right 2 (some .int), .fieldLink RX4 21 "GuardedGrammar$Terms" "rights" "[I"] ++ wsX50 ++ wsX40)
def wsX2_add : List Cond := .code yX2_add cX2_add 5 none :: ([.fieldLink RX2 15 "GuardedGrammar$Steps" "size" "I", .fieldLink RX2 9 "GuardedGrammar$Steps" "bits" "[J", .constantLong RX2 19 (-1)] ++ wsX20)
def wsX0_choose_r1 : List Cond := [Cond.fieldLink RX0 19 "GuardedGrammar$Reader" "place" "I", Cond.fieldLink RX0 39 "GuardedGrammar$Reader" "typing" "LGuardedGrammar$Typing;", Cond.fieldLink RX0 28 "GuardedGrammar$Reader" "made" "LGuardedGrammar$Steps;", Cond.fieldLink RX0 35 "GuardedGrammar$Reader" "terms" "LGuardedGrammar$Terms;", Cond.methodLink RX0 55 yX6_size, Cond.instanceMethod yX6_size, Cond.selects RX6 yX6_size yX6_size, Cond.initialized RX6, Cond.code yX6_size cX6_size 1 (some .int), Cond.fieldLink RX6 15 "GuardedGrammar$Word" "size" "I", Cond.methodLink RX0 87 yX6_at, Cond.instanceMethod yX6_at, Cond.selects RX6 yX6_at yX6_at, Cond.code yX6_at cX6_at 2 (some .int), Cond.fieldLink RX6 9 "GuardedGrammar$Word" "letters" "[I", Cond.methodLink RX0 90 yX5_side, Cond.instanceMethod yX5_side, Cond.selects RX5 yX5_side yX5_side, Cond.initialized RX5, Cond.code yX5_side cX5_side 5 (some .int), Cond.fieldLink RX5 38 "GuardedGrammar$Typing" "terms" "LGuardedGrammar$Terms;", Cond.fieldLink RX5 28 "GuardedGrammar$Typing" "firsts" "[I", Cond.fieldLink RX5 25 "GuardedGrammar$Typing" "nullable" "[Z", Cond.methodLink RX5 53 yX4_left]
def wsX0_choose_r2 : List Cond := [Cond.instanceMethod yX4_left, Cond.selects RX4 yX4_left yX4_left, Cond.initialized RX4, Cond.code yX4_left cX4_left 2 (some .int), Cond.fieldLink RX4 18 "GuardedGrammar$Terms" "lefts" "[I", Cond.methodLink RX5 59 yX4_right, Cond.instanceMethod yX4_right, Cond.selects RX4 yX4_right yX4_right, Cond.code yX4_right cX4_right 2 (some .int), Cond.fieldLink RX4 21 "GuardedGrammar$Terms" "rights" "[I", Cond.methodLink RX0 94 yX2_add, Cond.instanceMethod yX2_add, Cond.selects RX2 yX2_add yX2_add, Cond.initialized RX2, Cond.code yX2_add cX2_add 5 none, Cond.fieldLink RX2 15 "GuardedGrammar$Steps" "size" "I", Cond.fieldLink RX2 9 "GuardedGrammar$Steps" "bits" "[J", Cond.constantLong RX2 19 (-1), Cond.methodLink RX0 76 yX4_left, Cond.methodLink RX0 73 yX4_right, Cond.methodLink RX0 46 yX0_await, Cond.instanceMethod yX0_await, Cond.selects RX0 yX0_await yX0_await, Cond.initialized RX0]
def wsX0_choose_r3 : List Cond := [Cond.code yX0_await cX0_await 2 none, Cond.fieldLink RX0 15 "GuardedGrammar$Reader" "open" "I", Cond.fieldLink RX0 9 "GuardedGrammar$Reader" "waiting" "[I"]
def wsX0_choose : List Cond := .code yX0_choose cX0_choose 5 (some .boolean) :: ((wsX0_choose_r1 ++ (wsX0_choose_r2 ++ wsX0_choose_r3)) ++ wsX00 ++ wsX60 ++ wsX50 ++ wsX40 ++ wsX20)
def wsX5_binder : List Cond := .code yX5_binder cX5_binder 2 (some .int) :: ([.fieldLink RX5 18 "GuardedGrammar$Typing" "binders" "[I"] ++ wsX50)
def wsX0_visit_r1 : List Cond := [Cond.fieldLink RX0 35 "GuardedGrammar$Reader" "terms" "LGuardedGrammar$Terms;", Cond.fieldLink RX0 39 "GuardedGrammar$Reader" "typing" "LGuardedGrammar$Typing;", Cond.methodLink RX0 61 yX4_kind, Cond.instanceMethod yX4_kind, Cond.selects RX4 yX4_kind yX4_kind, Cond.initialized RX4, Cond.code yX4_kind cX4_kind 2 (some .int), Cond.fieldLink RX4 9 "GuardedGrammar$Terms" "kinds" "[I", Cond.methodLink RX0 67 yX4_value, Cond.instanceMethod yX4_value, Cond.selects RX4 yX4_value yX4_value, Cond.code yX4_value cX4_value 2 (some .int), Cond.fieldLink RX4 15 "GuardedGrammar$Terms" "values" "[I", Cond.methodLink RX0 70 yX0_readLetter, Cond.instanceMethod yX0_readLetter, Cond.selects RX0 yX0_readLetter yX0_readLetter, Cond.initialized RX0, Cond.code yX0_readLetter cX0_readLetter 3 (some .boolean), Cond.fieldLink RX0 19 "GuardedGrammar$Reader" "place" "I", Cond.methodLink RX0 55 yX6_size, Cond.instanceMethod yX6_size, Cond.selects RX6 yX6_size yX6_size, Cond.initialized RX6, Cond.code yX6_size cX6_size 1 (some .int)]
def wsX0_visit_r2 : List Cond := [Cond.fieldLink RX6 15 "GuardedGrammar$Word" "size" "I", Cond.methodLink RX0 87 yX6_at, Cond.instanceMethod yX6_at, Cond.selects RX6 yX6_at yX6_at, Cond.code yX6_at cX6_at 2 (some .int), Cond.fieldLink RX6 9 "GuardedGrammar$Word" "letters" "[I", Cond.methodLink RX0 73 yX4_right, Cond.instanceMethod yX4_right, Cond.selects RX4 yX4_right yX4_right, Cond.code yX4_right cX4_right 2 (some .int), Cond.fieldLink RX4 21 "GuardedGrammar$Terms" "rights" "[I", Cond.methodLink RX0 46 yX0_await, Cond.instanceMethod yX0_await, Cond.selects RX0 yX0_await yX0_await, Cond.code yX0_await cX0_await 2 none, Cond.fieldLink RX0 15 "GuardedGrammar$Reader" "open" "I", Cond.fieldLink RX0 9 "GuardedGrammar$Reader" "waiting" "[I", Cond.methodLink RX0 76 yX4_left, Cond.instanceMethod yX4_left, Cond.selects RX4 yX4_left yX4_left, Cond.code yX4_left cX4_left 2 (some .int), Cond.fieldLink RX4 18 "GuardedGrammar$Terms" "lefts" "[I", Cond.methodLink RX0 79 yX0_choose, Cond.instanceMethod yX0_choose]
def wsX0_visit_r3 : List Cond := [Cond.selects RX0 yX0_choose yX0_choose, Cond.code yX0_choose cX0_choose 5 (some .boolean), Cond.fieldLink RX0 28 "GuardedGrammar$Reader" "made" "LGuardedGrammar$Steps;", Cond.methodLink RX0 90 yX5_side, Cond.instanceMethod yX5_side, Cond.selects RX5 yX5_side yX5_side, Cond.initialized RX5, Cond.code yX5_side cX5_side 5 (some .int), Cond.fieldLink RX5 38 "GuardedGrammar$Typing" "terms" "LGuardedGrammar$Terms;", Cond.fieldLink RX5 28 "GuardedGrammar$Typing" "firsts" "[I", Cond.fieldLink RX5 25 "GuardedGrammar$Typing" "nullable" "[Z", Cond.methodLink RX5 53 yX4_left, Cond.methodLink RX5 59 yX4_right, Cond.methodLink RX0 94 yX2_add, Cond.instanceMethod yX2_add, Cond.selects RX2 yX2_add yX2_add, Cond.initialized RX2, Cond.code yX2_add cX2_add 5 none, Cond.fieldLink RX2 15 "GuardedGrammar$Steps" "size" "I", Cond.fieldLink RX2 9 "GuardedGrammar$Steps" "bits" "[J", Cond.constantLong RX2 19 (-1), Cond.methodLink RX0 82 yX5_binder, Cond.instanceMethod yX5_binder, Cond.selects RX5 yX5_binder yX5_binder]
def wsX0_visit_r4 : List Cond := [Cond.code yX5_binder cX5_binder 2 (some .int), Cond.fieldLink RX5 18 "GuardedGrammar$Typing" "binders" "[I"]
def wsX0_visit : List Cond := .code yX0_visit cX0_visit 3 (some .boolean) :: ((wsX0_visit_r1 ++ (wsX0_visit_r2 ++ (wsX0_visit_r3 ++ wsX0_visit_r4))) ++ wsX00 ++ wsX40 ++ wsX60 ++ wsX50 ++ wsX20)
def wsX0_reads_r1 : List Cond := [Cond.fieldLink RX0 28 "GuardedGrammar$Reader" "made" "LGuardedGrammar$Steps;", Cond.fieldLink RX0 19 "GuardedGrammar$Reader" "place" "I", Cond.fieldLink RX0 15 "GuardedGrammar$Reader" "open" "I", Cond.fieldLink RX0 22 "GuardedGrammar$Reader" "visits" "I", Cond.constant RX0 50 (1000000), Cond.fieldLink RX0 9 "GuardedGrammar$Reader" "waiting" "[I", Cond.methodLink RX0 43 yX2_forgetAll, Cond.instanceMethod yX2_forgetAll, Cond.selects RX2 yX2_forgetAll yX2_forgetAll, Cond.initialized RX2, Cond.code yX2_forgetAll cX2_forgetAll 1 none, Cond.fieldLink RX2 15 "GuardedGrammar$Steps" "size" "I", Cond.methodLink RX0 46 yX0_await, Cond.instanceMethod yX0_await, Cond.selects RX0 yX0_await yX0_await, Cond.initialized RX0, Cond.code yX0_await cX0_await 2 none, Cond.methodLink RX0 51 yX0_visit, Cond.instanceMethod yX0_visit, Cond.selects RX0 yX0_visit yX0_visit, Cond.code yX0_visit cX0_visit 3 (some .boolean), Cond.fieldLink RX0 35 "GuardedGrammar$Reader" "terms" "LGuardedGrammar$Terms;", Cond.fieldLink RX0 39 "GuardedGrammar$Reader" "typing" "LGuardedGrammar$Typing;", Cond.methodLink RX0 61 yX4_kind]
def wsX0_reads_r2 : List Cond := [Cond.instanceMethod yX4_kind, Cond.selects RX4 yX4_kind yX4_kind, Cond.initialized RX4, Cond.code yX4_kind cX4_kind 2 (some .int), Cond.fieldLink RX4 9 "GuardedGrammar$Terms" "kinds" "[I", Cond.methodLink RX0 67 yX4_value, Cond.instanceMethod yX4_value, Cond.selects RX4 yX4_value yX4_value, Cond.code yX4_value cX4_value 2 (some .int), Cond.fieldLink RX4 15 "GuardedGrammar$Terms" "values" "[I", Cond.methodLink RX0 70 yX0_readLetter, Cond.instanceMethod yX0_readLetter, Cond.selects RX0 yX0_readLetter yX0_readLetter, Cond.code yX0_readLetter cX0_readLetter 3 (some .boolean), Cond.methodLink RX0 55 yX6_size, Cond.instanceMethod yX6_size, Cond.selects RX6 yX6_size yX6_size, Cond.initialized RX6, Cond.code yX6_size cX6_size 1 (some .int), Cond.fieldLink RX6 15 "GuardedGrammar$Word" "size" "I", Cond.methodLink RX0 87 yX6_at, Cond.instanceMethod yX6_at, Cond.selects RX6 yX6_at yX6_at, Cond.code yX6_at cX6_at 2 (some .int)]
def wsX0_reads_r3 : List Cond := [Cond.fieldLink RX6 9 "GuardedGrammar$Word" "letters" "[I", Cond.methodLink RX0 73 yX4_right, Cond.instanceMethod yX4_right, Cond.selects RX4 yX4_right yX4_right, Cond.code yX4_right cX4_right 2 (some .int), Cond.fieldLink RX4 21 "GuardedGrammar$Terms" "rights" "[I", Cond.methodLink RX0 76 yX4_left, Cond.instanceMethod yX4_left, Cond.selects RX4 yX4_left yX4_left, Cond.code yX4_left cX4_left 2 (some .int), Cond.fieldLink RX4 18 "GuardedGrammar$Terms" "lefts" "[I", Cond.methodLink RX0 79 yX0_choose, Cond.instanceMethod yX0_choose, Cond.selects RX0 yX0_choose yX0_choose, Cond.code yX0_choose cX0_choose 5 (some .boolean), Cond.methodLink RX0 90 yX5_side, Cond.instanceMethod yX5_side, Cond.selects RX5 yX5_side yX5_side, Cond.initialized RX5, Cond.code yX5_side cX5_side 5 (some .int), Cond.fieldLink RX5 38 "GuardedGrammar$Typing" "terms" "LGuardedGrammar$Terms;", Cond.fieldLink RX5 28 "GuardedGrammar$Typing" "firsts" "[I", Cond.fieldLink RX5 25 "GuardedGrammar$Typing" "nullable" "[Z", Cond.methodLink RX5 53 yX4_left]
def wsX0_reads_r4 : List Cond := [Cond.methodLink RX5 59 yX4_right, Cond.methodLink RX0 94 yX2_add, Cond.instanceMethod yX2_add, Cond.selects RX2 yX2_add yX2_add, Cond.code yX2_add cX2_add 5 none, Cond.fieldLink RX2 9 "GuardedGrammar$Steps" "bits" "[J", Cond.constantLong RX2 19 (-1), Cond.methodLink RX0 82 yX5_binder, Cond.instanceMethod yX5_binder, Cond.selects RX5 yX5_binder yX5_binder, Cond.code yX5_binder cX5_binder 2 (some .int), Cond.fieldLink RX5 18 "GuardedGrammar$Typing" "binders" "[I"]
def wsX0_reads : List Cond := .code yX0_reads cX0_reads 3 (some .boolean) :: ((wsX0_reads_r1 ++ (wsX0_reads_r2 ++ (wsX0_reads_r3 ++ wsX0_reads_r4))) ++ wsX00 ++ wsX20 ++ wsX40 ++ wsX60 ++ wsX50)
def wsX0_place : List Cond := .code yX0_place cX0_place 1 (some .int) :: ([.fieldLink RX0 19 "GuardedGrammar$Reader" "place" "I"] ++ wsX00)
def wsX0_visits : List Cond := .code yX0_visits cX0_visits 1 (some .int) :: ([.fieldLink RX0 22 "GuardedGrammar$Reader" "visits" "I"] ++ wsX00)
def wsX0_keepSteps : List Cond := .code yX0_keepSteps cX0_keepSteps 2 none :: ([.fieldLink RX0 32 "GuardedGrammar$Reader" "kept" "LGuardedGrammar$Steps;", .fieldLink RX0 28 "GuardedGrammar$Reader" "made" "LGuardedGrammar$Steps;"] ++ wsX00)
def wsX0_kept : List Cond := .code yX0_kept cX0_kept 1 (some (.object "GuardedGrammar$Steps")) :: ([.fieldLink RX0 32 "GuardedGrammar$Reader" "kept" "LGuardedGrammar$Steps;"] ++ wsX00)
def wsX1_init : List Cond := .code yX1_init cX1_init 4 none :: ([.methodLink RX1 3 objectInit, .instanceMethod objectInit, .code objectInit ⟨#[0xb1]⟩ 1 none, .arrayClass .int, .fieldLink RX1 9 "GuardedGrammar$Speller" "pile" "[I", .fieldLink RX1 15 "GuardedGrammar$Speller" "height" "I", .arrayClass .long, .fieldLink RX1 19 "GuardedGrammar$Speller" "ways" "[J", .fieldLink RX1 23 "GuardedGrammar$Speller" "fresh" "[I", .fieldLink RX1 26 "GuardedGrammar$Speller" "freshSize" "I", .fieldLink RX1 29 "GuardedGrammar$Speller" "ahead" "[J", .fieldLink RX1 32 "GuardedGrammar$Speller" "terms" "LGuardedGrammar$Terms;", .fieldLink RX1 36 "GuardedGrammar$Speller" "typing" "LGuardedGrammar$Typing;", .fieldLink RX1 40 "GuardedGrammar$Speller" "tally" "LGuardedGrammar$Tally;"] ++ wsX10)
def wsX6_keep : List Cond := .code yX6_keep cX6_keep 2 none :: ([.fieldLink RX6 15 "GuardedGrammar$Word" "size" "I"] ++ wsX60)
def wsX3_lengthen : List Cond := .code yX3_lengthen cX3_lengthen 9 none :: ([.fieldLink RX3 11 "GuardedGrammar$Tally" "words" "[[J"] ++ wsX30)
def wsX1_pileUp : List Cond := .code yX1_pileUp cX1_pileUp 4 none :: ([.fieldLink RX1 15 "GuardedGrammar$Speller" "height" "I", .fieldLink RX1 19 "GuardedGrammar$Speller" "ways" "[J", .methodLink RX1 108 arraycopyName, .native arraycopyName, .static arraycopyName, .initialized "java/lang/System", .fieldLink RX1 40 "GuardedGrammar$Speller" "tally" "LGuardedGrammar$Tally;", .fieldLink RX1 9 "GuardedGrammar$Speller" "pile" "[I", .methodLink RX1 114 yX3_lengthen, .instanceMethod yX3_lengthen, .selects RX3 yX3_lengthen yX3_lengthen, .initialized RX3, .code yX3_lengthen cX3_lengthen 9 none, .fieldLink RX3 11 "GuardedGrammar$Tally" "words" "[[J"] ++ wsX10 ++ wsX30)
def wsX1_startPile : List Cond := .code yX1_startPile cX1_startPile 4 none :: ([.fieldLink RX1 19 "GuardedGrammar$Speller" "ways" "[J", .fieldLink RX1 15 "GuardedGrammar$Speller" "height" "I", .methodLink RX1 58 yX1_pileUp, .instanceMethod yX1_pileUp, .selects RX1 yX1_pileUp yX1_pileUp, .initialized RX1, .code yX1_pileUp cX1_pileUp 4 none, .methodLink RX1 108 arraycopyName, .native arraycopyName, .static arraycopyName, .initialized "java/lang/System", .fieldLink RX1 40 "GuardedGrammar$Speller" "tally" "LGuardedGrammar$Tally;", .fieldLink RX1 9 "GuardedGrammar$Speller" "pile" "[I", .methodLink RX1 114 yX3_lengthen, .instanceMethod yX3_lengthen, .selects RX3 yX3_lengthen yX3_lengthen, .initialized RX3, .code yX3_lengthen cX3_lengthen 9 none, .fieldLink RX3 11 "GuardedGrammar$Tally" "words" "[[J"] ++ wsX10 ++ wsX30)
def wsX5_firstOf : List Cond := .code yX5_firstOf cX5_firstOf 2 (some .int) :: ([.fieldLink RX5 28 "GuardedGrammar$Typing" "firsts" "[I"] ++ wsX50)
def wsX5_isNullable : List Cond := .code yX5_isNullable cX5_isNullable 2 (some .boolean) :: ([.fieldLink RX5 25 "GuardedGrammar$Typing" "nullable" "[Z"] ++ wsX50)
def wsX1_readerOf : List Cond := .code yX1_readerOf cX1_readerOf 3 (some .int) :: ([.fieldLink RX1 15 "GuardedGrammar$Speller" "height" "I", .fieldLink RX1 36 "GuardedGrammar$Speller" "typing" "LGuardedGrammar$Typing;", .fieldLink RX1 9 "GuardedGrammar$Speller" "pile" "[I", .methodLink RX1 78 yX5_firstOf, .instanceMethod yX5_firstOf, .selects RX5 yX5_firstOf yX5_firstOf, .initialized RX5, .code yX5_firstOf cX5_firstOf 2 (some .int), .fieldLink RX5 28 "GuardedGrammar$Typing" "firsts" "[I", .methodLink RX1 83 yX5_isNullable, .instanceMethod yX5_isNullable, .selects RX5 yX5_isNullable yX5_isNullable, .code yX5_isNullable cX5_isNullable 2 (some .boolean), .fieldLink RX5 25 "GuardedGrammar$Typing" "nullable" "[Z"] ++ wsX10 ++ wsX50)
def wsX1_below_r1 : List Cond := [Cond.fieldLink RX1 32 "GuardedGrammar$Speller" "terms" "LGuardedGrammar$Terms;", Cond.fieldLink RX1 36 "GuardedGrammar$Speller" "typing" "LGuardedGrammar$Typing;", Cond.methodLink RX1 87 yX4_kind, Cond.instanceMethod yX4_kind, Cond.selects RX4 yX4_kind yX4_kind, Cond.initialized RX4, Cond.code yX4_kind cX4_kind 2 (some .int), Cond.fieldLink RX4 9 "GuardedGrammar$Terms" "kinds" "[I", Cond.methodLink RX1 99 yX5_binder, Cond.instanceMethod yX5_binder, Cond.selects RX5 yX5_binder yX5_binder, Cond.initialized RX5, Cond.code yX5_binder cX5_binder 2 (some .int), Cond.fieldLink RX5 18 "GuardedGrammar$Typing" "binders" "[I", Cond.methodLink RX1 102 yX5_side, Cond.instanceMethod yX5_side, Cond.selects RX5 yX5_side yX5_side, Cond.code yX5_side cX5_side 5 (some .int), Cond.fieldLink RX5 38 "GuardedGrammar$Typing" "terms" "LGuardedGrammar$Terms;", Cond.fieldLink RX5 28 "GuardedGrammar$Typing" "firsts" "[I", Cond.fieldLink RX5 25 "GuardedGrammar$Typing" "nullable" "[Z", Cond.methodLink RX5 53 yX4_left, Cond.instanceMethod yX4_left, Cond.selects RX4 yX4_left yX4_left]
def wsX1_below_r2 : List Cond := [Cond.code yX4_left cX4_left 2 (some .int), Cond.fieldLink RX4 18 "GuardedGrammar$Terms" "lefts" "[I", Cond.methodLink RX5 59 yX4_right, Cond.instanceMethod yX4_right, Cond.selects RX4 yX4_right yX4_right, Cond.code yX4_right cX4_right 2 (some .int), Cond.fieldLink RX4 21 "GuardedGrammar$Terms" "rights" "[I", Cond.methodLink RX1 92 yX4_right, Cond.methodLink RX1 105 yX4_left]
def wsX1_below : List Cond := .code yX1_below cX1_below 3 (some .int) :: ((wsX1_below_r1 ++ wsX1_below_r2) ++ wsX10 ++ wsX40 ++ wsX50)
def wsX1_goDown_r1 : List Cond := [Cond.fieldLink RX1 26 "GuardedGrammar$Speller" "freshSize" "I", Cond.fieldLink RX1 32 "GuardedGrammar$Speller" "terms" "LGuardedGrammar$Terms;", Cond.fieldLink RX1 23 "GuardedGrammar$Speller" "fresh" "[I", Cond.methodLink RX1 87 yX4_kind, Cond.instanceMethod yX4_kind, Cond.selects RX4 yX4_kind yX4_kind, Cond.initialized RX4, Cond.code yX4_kind cX4_kind 2 (some .int), Cond.fieldLink RX4 9 "GuardedGrammar$Terms" "kinds" "[I", Cond.methodLink RX1 92 yX4_right, Cond.instanceMethod yX4_right, Cond.selects RX4 yX4_right yX4_right, Cond.code yX4_right cX4_right 2 (some .int), Cond.fieldLink RX4 21 "GuardedGrammar$Terms" "rights" "[I", Cond.methodLink RX1 95 yX1_below, Cond.instanceMethod yX1_below, Cond.selects RX1 yX1_below yX1_below, Cond.initialized RX1, Cond.code yX1_below cX1_below 3 (some .int), Cond.fieldLink RX1 36 "GuardedGrammar$Speller" "typing" "LGuardedGrammar$Typing;", Cond.methodLink RX1 99 yX5_binder, Cond.instanceMethod yX5_binder, Cond.selects RX5 yX5_binder yX5_binder, Cond.initialized RX5]
def wsX1_goDown_r2 : List Cond := [Cond.code yX5_binder cX5_binder 2 (some .int), Cond.fieldLink RX5 18 "GuardedGrammar$Typing" "binders" "[I", Cond.methodLink RX1 102 yX5_side, Cond.instanceMethod yX5_side, Cond.selects RX5 yX5_side yX5_side, Cond.code yX5_side cX5_side 5 (some .int), Cond.fieldLink RX5 38 "GuardedGrammar$Typing" "terms" "LGuardedGrammar$Terms;", Cond.fieldLink RX5 28 "GuardedGrammar$Typing" "firsts" "[I", Cond.fieldLink RX5 25 "GuardedGrammar$Typing" "nullable" "[Z", Cond.methodLink RX5 53 yX4_left, Cond.instanceMethod yX4_left, Cond.selects RX4 yX4_left yX4_left, Cond.code yX4_left cX4_left 2 (some .int), Cond.fieldLink RX4 18 "GuardedGrammar$Terms" "lefts" "[I", Cond.methodLink RX5 59 yX4_right, Cond.methodLink RX1 105 yX4_left]
def wsX1_goDown : List Cond := .code yX1_goDown cX1_goDown 5 none :: ((wsX1_goDown_r1 ++ wsX1_goDown_r2) ++ wsX10 ++ wsX40 ++ wsX50)
def wsX1_wordsAhead : List Cond := .code yX1_wordsAhead cX1_wordsAhead 4 (some .long) :: ([.fieldLink RX1 19 "GuardedGrammar$Speller" "ways" "[J", .fieldLink RX1 29 "GuardedGrammar$Speller" "ahead" "[J", .methodLink RX1 108 arraycopyName, .native arraycopyName, .static arraycopyName, .initialized "java/lang/System", .fieldLink RX1 26 "GuardedGrammar$Speller" "freshSize" "I", .fieldLink RX1 40 "GuardedGrammar$Speller" "tally" "LGuardedGrammar$Tally;", .fieldLink RX1 23 "GuardedGrammar$Speller" "fresh" "[I", .methodLink RX1 114 yX3_lengthen, .instanceMethod yX3_lengthen, .selects RX3 yX3_lengthen yX3_lengthen, .initialized RX3, .code yX3_lengthen cX3_lengthen 9 none, .fieldLink RX3 11 "GuardedGrammar$Tally" "words" "[[J"] ++ wsX10 ++ wsX30)
def wsX1_takeFresh : List Cond := .code yX1_takeFresh cX1_takeFresh 4 none :: ([.fieldLink RX1 15 "GuardedGrammar$Speller" "height" "I", .fieldLink RX1 26 "GuardedGrammar$Speller" "freshSize" "I", .fieldLink RX1 23 "GuardedGrammar$Speller" "fresh" "[I", .methodLink RX1 58 yX1_pileUp, .instanceMethod yX1_pileUp, .selects RX1 yX1_pileUp yX1_pileUp, .initialized RX1, .code yX1_pileUp cX1_pileUp 4 none, .fieldLink RX1 19 "GuardedGrammar$Speller" "ways" "[J", .methodLink RX1 108 arraycopyName, .native arraycopyName, .static arraycopyName, .initialized "java/lang/System", .fieldLink RX1 40 "GuardedGrammar$Speller" "tally" "LGuardedGrammar$Tally;", .fieldLink RX1 9 "GuardedGrammar$Speller" "pile" "[I", .methodLink RX1 114 yX3_lengthen, .instanceMethod yX3_lengthen, .selects RX3 yX3_lengthen yX3_lengthen, .initialized RX3, .code yX3_lengthen cX3_lengthen 9 none, .fieldLink RX3 11 "GuardedGrammar$Tally" "words" "[[J"] ++ wsX10 ++ wsX30)
def wsX6_add : List Cond := .code yX6_add cX6_add 2 none :: ([.fieldLink RX6 9 "GuardedGrammar$Word" "letters" "[I", .fieldLink RX6 15 "GuardedGrammar$Word" "size" "I"] ++ wsX60)
def wsX1_spellNext_r1 : List Cond := [Cond.fieldLink RX1 9 "GuardedGrammar$Speller" "pile" "[I", Cond.methodLink RX1 61 yX1_readerOf, Cond.instanceMethod yX1_readerOf, Cond.selects RX1 yX1_readerOf yX1_readerOf, Cond.initialized RX1, Cond.code yX1_readerOf cX1_readerOf 3 (some .int), Cond.fieldLink RX1 15 "GuardedGrammar$Speller" "height" "I", Cond.fieldLink RX1 36 "GuardedGrammar$Speller" "typing" "LGuardedGrammar$Typing;", Cond.methodLink RX1 78 yX5_firstOf, Cond.instanceMethod yX5_firstOf, Cond.selects RX5 yX5_firstOf yX5_firstOf, Cond.initialized RX5, Cond.code yX5_firstOf cX5_firstOf 2 (some .int), Cond.fieldLink RX5 28 "GuardedGrammar$Typing" "firsts" "[I", Cond.methodLink RX1 83 yX5_isNullable, Cond.instanceMethod yX5_isNullable, Cond.selects RX5 yX5_isNullable yX5_isNullable, Cond.code yX5_isNullable cX5_isNullable 2 (some .boolean), Cond.fieldLink RX5 25 "GuardedGrammar$Typing" "nullable" "[Z", Cond.methodLink RX1 65 yX1_goDown, Cond.instanceMethod yX1_goDown, Cond.selects RX1 yX1_goDown yX1_goDown, Cond.code yX1_goDown cX1_goDown 5 none, Cond.fieldLink RX1 26 "GuardedGrammar$Speller" "freshSize" "I"]
def wsX1_spellNext_r2 : List Cond := [Cond.fieldLink RX1 32 "GuardedGrammar$Speller" "terms" "LGuardedGrammar$Terms;", Cond.fieldLink RX1 23 "GuardedGrammar$Speller" "fresh" "[I", Cond.methodLink RX1 87 yX4_kind, Cond.instanceMethod yX4_kind, Cond.selects RX4 yX4_kind yX4_kind, Cond.initialized RX4, Cond.code yX4_kind cX4_kind 2 (some .int), Cond.fieldLink RX4 9 "GuardedGrammar$Terms" "kinds" "[I", Cond.methodLink RX1 92 yX4_right, Cond.instanceMethod yX4_right, Cond.selects RX4 yX4_right yX4_right, Cond.code yX4_right cX4_right 2 (some .int), Cond.fieldLink RX4 21 "GuardedGrammar$Terms" "rights" "[I", Cond.methodLink RX1 95 yX1_below, Cond.instanceMethod yX1_below, Cond.selects RX1 yX1_below yX1_below, Cond.code yX1_below cX1_below 3 (some .int), Cond.methodLink RX1 99 yX5_binder, Cond.instanceMethod yX5_binder, Cond.selects RX5 yX5_binder yX5_binder, Cond.code yX5_binder cX5_binder 2 (some .int), Cond.fieldLink RX5 18 "GuardedGrammar$Typing" "binders" "[I", Cond.methodLink RX1 102 yX5_side, Cond.instanceMethod yX5_side]
def wsX1_spellNext_r3 : List Cond := [Cond.selects RX5 yX5_side yX5_side, Cond.code yX5_side cX5_side 5 (some .int), Cond.fieldLink RX5 38 "GuardedGrammar$Typing" "terms" "LGuardedGrammar$Terms;", Cond.methodLink RX5 53 yX4_left, Cond.instanceMethod yX4_left, Cond.selects RX4 yX4_left yX4_left, Cond.code yX4_left cX4_left 2 (some .int), Cond.fieldLink RX4 18 "GuardedGrammar$Terms" "lefts" "[I", Cond.methodLink RX5 59 yX4_right, Cond.methodLink RX1 105 yX4_left, Cond.methodLink RX1 68 yX1_wordsAhead, Cond.instanceMethod yX1_wordsAhead, Cond.selects RX1 yX1_wordsAhead yX1_wordsAhead, Cond.code yX1_wordsAhead cX1_wordsAhead 4 (some .long), Cond.fieldLink RX1 19 "GuardedGrammar$Speller" "ways" "[J", Cond.fieldLink RX1 29 "GuardedGrammar$Speller" "ahead" "[J", Cond.methodLink RX1 108 arraycopyName, Cond.native arraycopyName, Cond.static arraycopyName, Cond.initialized "java/lang/System", Cond.fieldLink RX1 40 "GuardedGrammar$Speller" "tally" "LGuardedGrammar$Tally;", Cond.methodLink RX1 114 yX3_lengthen, Cond.instanceMethod yX3_lengthen, Cond.selects RX3 yX3_lengthen yX3_lengthen]
def wsX1_spellNext_r4 : List Cond := [Cond.initialized RX3, Cond.code yX3_lengthen cX3_lengthen 9 none, Cond.fieldLink RX3 11 "GuardedGrammar$Tally" "words" "[[J", Cond.methodLink RX1 72 yX1_takeFresh, Cond.instanceMethod yX1_takeFresh, Cond.selects RX1 yX1_takeFresh yX1_takeFresh, Cond.code yX1_takeFresh cX1_takeFresh 4 none, Cond.methodLink RX1 58 yX1_pileUp, Cond.instanceMethod yX1_pileUp, Cond.selects RX1 yX1_pileUp yX1_pileUp, Cond.code yX1_pileUp cX1_pileUp 4 none, Cond.methodLink RX1 75 yX6_add, Cond.instanceMethod yX6_add, Cond.selects RX6 yX6_add yX6_add, Cond.initialized RX6, Cond.code yX6_add cX6_add 2 none, Cond.fieldLink RX6 9 "GuardedGrammar$Word" "letters" "[I", Cond.fieldLink RX6 15 "GuardedGrammar$Word" "size" "I"]
def wsX1_spellNext : List Cond := .code yX1_spellNext cX1_spellNext 11 (some .long) :: ((wsX1_spellNext_r1 ++ (wsX1_spellNext_r2 ++ (wsX1_spellNext_r3 ++ wsX1_spellNext_r4))) ++ wsX10 ++ wsX50 ++ wsX40 ++ wsX30 ++ wsX60)
def wsX1_spell_r1 : List Cond := [Cond.methodLink RX1 44 yX6_keep, Cond.instanceMethod yX6_keep, Cond.selects RX6 yX6_keep yX6_keep, Cond.initialized RX6, Cond.code yX6_keep cX6_keep 2 none, Cond.fieldLink RX6 15 "GuardedGrammar$Word" "size" "I", Cond.methodLink RX1 50 yX1_startPile, Cond.instanceMethod yX1_startPile, Cond.selects RX1 yX1_startPile yX1_startPile, Cond.initialized RX1, Cond.code yX1_startPile cX1_startPile 4 none, Cond.fieldLink RX1 19 "GuardedGrammar$Speller" "ways" "[J", Cond.fieldLink RX1 15 "GuardedGrammar$Speller" "height" "I", Cond.methodLink RX1 58 yX1_pileUp, Cond.instanceMethod yX1_pileUp, Cond.selects RX1 yX1_pileUp yX1_pileUp, Cond.code yX1_pileUp cX1_pileUp 4 none, Cond.methodLink RX1 108 arraycopyName, Cond.native arraycopyName, Cond.static arraycopyName, Cond.initialized "java/lang/System", Cond.fieldLink RX1 40 "GuardedGrammar$Speller" "tally" "LGuardedGrammar$Tally;", Cond.fieldLink RX1 9 "GuardedGrammar$Speller" "pile" "[I", Cond.methodLink RX1 114 yX3_lengthen]
def wsX1_spell_r2 : List Cond := [Cond.instanceMethod yX3_lengthen, Cond.selects RX3 yX3_lengthen yX3_lengthen, Cond.initialized RX3, Cond.code yX3_lengthen cX3_lengthen 9 none, Cond.fieldLink RX3 11 "GuardedGrammar$Tally" "words" "[[J", Cond.methodLink RX1 54 yX1_spellNext, Cond.instanceMethod yX1_spellNext, Cond.selects RX1 yX1_spellNext yX1_spellNext, Cond.code yX1_spellNext cX1_spellNext 11 (some .long), Cond.methodLink RX1 61 yX1_readerOf, Cond.instanceMethod yX1_readerOf, Cond.selects RX1 yX1_readerOf yX1_readerOf, Cond.code yX1_readerOf cX1_readerOf 3 (some .int), Cond.fieldLink RX1 36 "GuardedGrammar$Speller" "typing" "LGuardedGrammar$Typing;", Cond.methodLink RX1 78 yX5_firstOf, Cond.instanceMethod yX5_firstOf, Cond.selects RX5 yX5_firstOf yX5_firstOf, Cond.initialized RX5, Cond.code yX5_firstOf cX5_firstOf 2 (some .int), Cond.fieldLink RX5 28 "GuardedGrammar$Typing" "firsts" "[I", Cond.methodLink RX1 83 yX5_isNullable, Cond.instanceMethod yX5_isNullable, Cond.selects RX5 yX5_isNullable yX5_isNullable, Cond.code yX5_isNullable cX5_isNullable 2 (some .boolean)]
def wsX1_spell_r3 : List Cond := [Cond.fieldLink RX5 25 "GuardedGrammar$Typing" "nullable" "[Z", Cond.methodLink RX1 65 yX1_goDown, Cond.instanceMethod yX1_goDown, Cond.selects RX1 yX1_goDown yX1_goDown, Cond.code yX1_goDown cX1_goDown 5 none, Cond.fieldLink RX1 26 "GuardedGrammar$Speller" "freshSize" "I", Cond.fieldLink RX1 32 "GuardedGrammar$Speller" "terms" "LGuardedGrammar$Terms;", Cond.fieldLink RX1 23 "GuardedGrammar$Speller" "fresh" "[I", Cond.methodLink RX1 87 yX4_kind, Cond.instanceMethod yX4_kind, Cond.selects RX4 yX4_kind yX4_kind, Cond.initialized RX4, Cond.code yX4_kind cX4_kind 2 (some .int), Cond.fieldLink RX4 9 "GuardedGrammar$Terms" "kinds" "[I", Cond.methodLink RX1 92 yX4_right, Cond.instanceMethod yX4_right, Cond.selects RX4 yX4_right yX4_right, Cond.code yX4_right cX4_right 2 (some .int), Cond.fieldLink RX4 21 "GuardedGrammar$Terms" "rights" "[I", Cond.methodLink RX1 95 yX1_below, Cond.instanceMethod yX1_below, Cond.selects RX1 yX1_below yX1_below, Cond.code yX1_below cX1_below 3 (some .int), Cond.methodLink RX1 99 yX5_binder]
def wsX1_spell_r4 : List Cond := [Cond.instanceMethod yX5_binder, Cond.selects RX5 yX5_binder yX5_binder, Cond.code yX5_binder cX5_binder 2 (some .int), Cond.fieldLink RX5 18 "GuardedGrammar$Typing" "binders" "[I", Cond.methodLink RX1 102 yX5_side, Cond.instanceMethod yX5_side, Cond.selects RX5 yX5_side yX5_side, Cond.code yX5_side cX5_side 5 (some .int), Cond.fieldLink RX5 38 "GuardedGrammar$Typing" "terms" "LGuardedGrammar$Terms;", Cond.methodLink RX5 53 yX4_left, Cond.instanceMethod yX4_left, Cond.selects RX4 yX4_left yX4_left, Cond.code yX4_left cX4_left 2 (some .int), Cond.fieldLink RX4 18 "GuardedGrammar$Terms" "lefts" "[I", Cond.methodLink RX5 59 yX4_right, Cond.methodLink RX1 105 yX4_left, Cond.methodLink RX1 68 yX1_wordsAhead, Cond.instanceMethod yX1_wordsAhead, Cond.selects RX1 yX1_wordsAhead yX1_wordsAhead, Cond.code yX1_wordsAhead cX1_wordsAhead 4 (some .long), Cond.fieldLink RX1 29 "GuardedGrammar$Speller" "ahead" "[J", Cond.methodLink RX1 72 yX1_takeFresh, Cond.instanceMethod yX1_takeFresh, Cond.selects RX1 yX1_takeFresh yX1_takeFresh]
def wsX1_spell_r5 : List Cond := [Cond.code yX1_takeFresh cX1_takeFresh 4 none, Cond.methodLink RX1 75 yX6_add, Cond.instanceMethod yX6_add, Cond.selects RX6 yX6_add yX6_add, Cond.code yX6_add cX6_add 2 none, Cond.fieldLink RX6 9 "GuardedGrammar$Word" "letters" "[I"]
def wsX1_spell : List Cond := .code yX1_spell cX1_spell 9 none :: ((wsX1_spell_r1 ++ (wsX1_spell_r2 ++ (wsX1_spell_r3 ++ (wsX1_spell_r4 ++ wsX1_spell_r5)))) ++ wsX60 ++ wsX10 ++ wsX30 ++ wsX50 ++ wsX40)
def wsX2_size : List Cond := .code yX2_size cX2_size 1 (some .int) :: ([.fieldLink RX2 15 "GuardedGrammar$Steps" "size" "I"] ++ wsX20)
def wsX2_at : List Cond := .code yX2_at cX2_at 2 (some .int) :: ([.fieldLink RX2 9 "GuardedGrammar$Steps" "bits" "[J"] ++ wsX20)
def wsX3_init : List Cond := .code yX3_init cX3_init 3 none :: ([.methodLink RX3 3 objectInit, .instanceMethod objectInit, .code objectInit ⟨#[0xb1]⟩ 1 none, .classLink RX3 9 "[[J", .arrayClass .long, .fieldLink RX3 11 "GuardedGrammar$Tally" "words" "[[J", .fieldLink RX3 16 "GuardedGrammar$Tally" "terms" "LGuardedGrammar$Terms;", .fieldLink RX3 20 "GuardedGrammar$Tally" "typing" "LGuardedGrammar$Typing;"] ++ wsX30)
def wsX3_words : List Cond := .code yX3_words cX3_words 3 (some .long) :: ([.fieldLink RX3 11 "GuardedGrammar$Tally" "words" "[[J"] ++ wsX30)
def wsX5_size : List Cond := .code yX5_size cX5_size 1 (some .int) :: ([.fieldLink RX5 34 "GuardedGrammar$Typing" "start" "I"] ++ wsX50)
def wsX5_inOrder : List Cond := .code yX5_inOrder cX5_inOrder 2 (some .int) :: ([.fieldLink RX5 9 "GuardedGrammar$Typing" "order" "[I", .fieldLink RX5 34 "GuardedGrammar$Typing" "start" "I"] ++ wsX50)
def wsX3_wordsOfPair : List Cond := .code yX3_wordsOfPair cX3_wordsOfPair 7 (some .long) :: ([.fieldLink RX3 11 "GuardedGrammar$Tally" "words" "[[J"] ++ wsX30)
def wsX3_wordsByParts_r1 : List Cond := [Cond.fieldLink RX3 16 "GuardedGrammar$Tally" "terms" "LGuardedGrammar$Terms;", Cond.fieldLink RX3 11 "GuardedGrammar$Tally" "words" "[[J", Cond.fieldLink RX3 20 "GuardedGrammar$Tally" "typing" "LGuardedGrammar$Typing;", Cond.methodLink RX3 42 yX4_kind, Cond.instanceMethod yX4_kind, Cond.selects RX4 yX4_kind yX4_kind, Cond.initialized RX4, Cond.code yX4_kind cX4_kind 2 (some .int), Cond.fieldLink RX4 9 "GuardedGrammar$Terms" "kinds" "[I", Cond.methodLink RX3 47 yX4_left, Cond.instanceMethod yX4_left, Cond.selects RX4 yX4_left yX4_left, Cond.code yX4_left cX4_left 2 (some .int), Cond.fieldLink RX4 18 "GuardedGrammar$Terms" "lefts" "[I", Cond.methodLink RX3 50 yX4_right, Cond.instanceMethod yX4_right, Cond.selects RX4 yX4_right yX4_right, Cond.code yX4_right cX4_right 2 (some .int), Cond.fieldLink RX4 21 "GuardedGrammar$Terms" "rights" "[I", Cond.methodLink RX3 53 yX3_wordsOfPair, Cond.instanceMethod yX3_wordsOfPair, Cond.selects RX3 yX3_wordsOfPair yX3_wordsOfPair, Cond.initialized RX3, Cond.code yX3_wordsOfPair cX3_wordsOfPair 7 (some .long)]
def wsX3_wordsByParts_r2 : List Cond := [Cond.methodLink RX3 57 yX5_binder, Cond.instanceMethod yX5_binder, Cond.selects RX5 yX5_binder yX5_binder, Cond.initialized RX5, Cond.code yX5_binder cX5_binder 2 (some .int), Cond.fieldLink RX5 18 "GuardedGrammar$Typing" "binders" "[I"]
def wsX3_wordsByParts : List Cond := .code yX3_wordsByParts cX3_wordsByParts 3 (some .long) :: ((wsX3_wordsByParts_r1 ++ wsX3_wordsByParts_r2) ++ wsX30 ++ wsX40 ++ wsX50)
def wsX3_countLength_r1 : List Cond := [Cond.fieldLink RX3 20 "GuardedGrammar$Tally" "typing" "LGuardedGrammar$Typing;", Cond.fieldLink RX3 11 "GuardedGrammar$Tally" "words" "[[J", Cond.methodLink RX3 28 yX5_size, Cond.instanceMethod yX5_size, Cond.selects RX5 yX5_size yX5_size, Cond.initialized RX5, Cond.code yX5_size cX5_size 1 (some .int), Cond.fieldLink RX5 34 "GuardedGrammar$Typing" "start" "I", Cond.methodLink RX3 34 yX5_inOrder, Cond.instanceMethod yX5_inOrder, Cond.selects RX5 yX5_inOrder yX5_inOrder, Cond.code yX5_inOrder cX5_inOrder 2 (some .int), Cond.fieldLink RX5 9 "GuardedGrammar$Typing" "order" "[I", Cond.methodLink RX3 38 yX3_wordsByParts, Cond.instanceMethod yX3_wordsByParts, Cond.selects RX3 yX3_wordsByParts yX3_wordsByParts, Cond.initialized RX3, Cond.code yX3_wordsByParts cX3_wordsByParts 3 (some .long), Cond.fieldLink RX3 16 "GuardedGrammar$Tally" "terms" "LGuardedGrammar$Terms;", Cond.methodLink RX3 42 yX4_kind, Cond.instanceMethod yX4_kind, Cond.selects RX4 yX4_kind yX4_kind, Cond.initialized RX4, Cond.code yX4_kind cX4_kind 2 (some .int)]
def wsX3_countLength_r2 : List Cond := [Cond.fieldLink RX4 9 "GuardedGrammar$Terms" "kinds" "[I", Cond.methodLink RX3 47 yX4_left, Cond.instanceMethod yX4_left, Cond.selects RX4 yX4_left yX4_left, Cond.code yX4_left cX4_left 2 (some .int), Cond.fieldLink RX4 18 "GuardedGrammar$Terms" "lefts" "[I", Cond.methodLink RX3 50 yX4_right, Cond.instanceMethod yX4_right, Cond.selects RX4 yX4_right yX4_right, Cond.code yX4_right cX4_right 2 (some .int), Cond.fieldLink RX4 21 "GuardedGrammar$Terms" "rights" "[I", Cond.methodLink RX3 53 yX3_wordsOfPair, Cond.instanceMethod yX3_wordsOfPair, Cond.selects RX3 yX3_wordsOfPair yX3_wordsOfPair, Cond.code yX3_wordsOfPair cX3_wordsOfPair 7 (some .long), Cond.methodLink RX3 57 yX5_binder, Cond.instanceMethod yX5_binder, Cond.selects RX5 yX5_binder yX5_binder, Cond.code yX5_binder cX5_binder 2 (some .int), Cond.fieldLink RX5 18 "GuardedGrammar$Typing" "binders" "[I"]
def wsX3_countLength : List Cond := .code yX3_countLength cX3_countLength 8 none :: ((wsX3_countLength_r1 ++ wsX3_countLength_r2) ++ wsX30 ++ wsX50 ++ wsX40)
def wsX3_countTo_r1 : List Cond := [Cond.methodLink RX3 24 yX3_countLength, Cond.instanceMethod yX3_countLength, Cond.selects RX3 yX3_countLength yX3_countLength, Cond.initialized RX3, Cond.code yX3_countLength cX3_countLength 8 none, Cond.fieldLink RX3 20 "GuardedGrammar$Tally" "typing" "LGuardedGrammar$Typing;", Cond.fieldLink RX3 11 "GuardedGrammar$Tally" "words" "[[J", Cond.methodLink RX3 28 yX5_size, Cond.instanceMethod yX5_size, Cond.selects RX5 yX5_size yX5_size, Cond.initialized RX5, Cond.code yX5_size cX5_size 1 (some .int), Cond.fieldLink RX5 34 "GuardedGrammar$Typing" "start" "I", Cond.methodLink RX3 34 yX5_inOrder, Cond.instanceMethod yX5_inOrder, Cond.selects RX5 yX5_inOrder yX5_inOrder, Cond.code yX5_inOrder cX5_inOrder 2 (some .int), Cond.fieldLink RX5 9 "GuardedGrammar$Typing" "order" "[I", Cond.methodLink RX3 38 yX3_wordsByParts, Cond.instanceMethod yX3_wordsByParts, Cond.selects RX3 yX3_wordsByParts yX3_wordsByParts, Cond.code yX3_wordsByParts cX3_wordsByParts 3 (some .long), Cond.fieldLink RX3 16 "GuardedGrammar$Tally" "terms" "LGuardedGrammar$Terms;", Cond.methodLink RX3 42 yX4_kind]
def wsX3_countTo_r2 : List Cond := [Cond.instanceMethod yX4_kind, Cond.selects RX4 yX4_kind yX4_kind, Cond.initialized RX4, Cond.code yX4_kind cX4_kind 2 (some .int), Cond.fieldLink RX4 9 "GuardedGrammar$Terms" "kinds" "[I", Cond.methodLink RX3 47 yX4_left, Cond.instanceMethod yX4_left, Cond.selects RX4 yX4_left yX4_left, Cond.code yX4_left cX4_left 2 (some .int), Cond.fieldLink RX4 18 "GuardedGrammar$Terms" "lefts" "[I", Cond.methodLink RX3 50 yX4_right, Cond.instanceMethod yX4_right, Cond.selects RX4 yX4_right yX4_right, Cond.code yX4_right cX4_right 2 (some .int), Cond.fieldLink RX4 21 "GuardedGrammar$Terms" "rights" "[I", Cond.methodLink RX3 53 yX3_wordsOfPair, Cond.instanceMethod yX3_wordsOfPair, Cond.selects RX3 yX3_wordsOfPair yX3_wordsOfPair, Cond.code yX3_wordsOfPair cX3_wordsOfPair 7 (some .long), Cond.methodLink RX3 57 yX5_binder, Cond.instanceMethod yX5_binder, Cond.selects RX5 yX5_binder yX5_binder, Cond.code yX5_binder cX5_binder 2 (some .int), Cond.fieldLink RX5 18 "GuardedGrammar$Typing" "binders" "[I"]
def wsX3_countTo : List Cond := .code yX3_countTo cX3_countTo 3 none :: ((wsX3_countTo_r1 ++ wsX3_countTo_r2) ++ wsX30 ++ wsX50 ++ wsX40)
def wsX4_init : List Cond := .code yX4_init cX4_init 1 none :: ([.methodLink RX4 3 objectInit, .instanceMethod objectInit, .code objectInit ⟨#[0xb1]⟩ 1 none, .arrayClass .int, .fieldLink RX4 9 "GuardedGrammar$Terms" "kinds" "[I", .fieldLink RX4 15 "GuardedGrammar$Terms" "values" "[I", .fieldLink RX4 18 "GuardedGrammar$Terms" "lefts" "[I", .fieldLink RX4 21 "GuardedGrammar$Terms" "rights" "[I", .fieldLink RX4 24 "GuardedGrammar$Terms" "wholes" "[I", .fieldLink RX4 27 "GuardedGrammar$Terms" "knots" "[I", .fieldLink RX4 30 "GuardedGrammar$Terms" "size" "I"] ++ wsX40)
def wsX4_knotsIn : List Cond := .code yX4_knotsIn cX4_knotsIn 2 (some .int) :: ([.fieldLink RX4 27 "GuardedGrammar$Terms" "knots" "[I"] ++ wsX40)
def wsX4_makePart : List Cond := .code yX4_makePart cX4_makePart 3 none :: ([.fieldLink RX4 24 "GuardedGrammar$Terms" "wholes" "[I"] ++ wsX40)
def wsX4_add : List Cond := .code yX4_add cX4_add 6 (some .int) :: ([.fieldLink RX4 30 "GuardedGrammar$Terms" "size" "I", .fieldLink RX4 9 "GuardedGrammar$Terms" "kinds" "[I", .fieldLink RX4 15 "GuardedGrammar$Terms" "values" "[I", .fieldLink RX4 18 "GuardedGrammar$Terms" "lefts" "[I", .fieldLink RX4 21 "GuardedGrammar$Terms" "rights" "[I", .fieldLink RX4 24 "GuardedGrammar$Terms" "wholes" "[I", .fieldLink RX4 27 "GuardedGrammar$Terms" "knots" "[I", .methodLink RX4 38 Lib.Math.max.name, .static Lib.Math.max.name, .initialized "java/lang/Math", .code Lib.Math.max.name Lib.Math.max.code 2 (some .int), .methodLink RX4 34 yX4_knotsIn, .instanceMethod yX4_knotsIn, .selects RX4 yX4_knotsIn yX4_knotsIn, .initialized RX4, .code yX4_knotsIn cX4_knotsIn 2 (some .int), .methodLink RX4 44 yX4_makePart, .instanceMethod yX4_makePart, .selects RX4 yX4_makePart yX4_makePart, .code yX4_makePart cX4_makePart 3 none] ++ wsX40)
def wsX4_forgetAll : List Cond := .code yX4_forgetAll cX4_forgetAll 1 none :: ([.fieldLink RX4 30 "GuardedGrammar$Terms" "size" "I"] ++ wsX40)
def wsX4_size : List Cond := .code yX4_size cX4_size 1 (some .int) :: ([.fieldLink RX4 30 "GuardedGrammar$Terms" "size" "I"] ++ wsX40)
def wsX4_has : List Cond := .code yX4_has cX4_has 2 (some .boolean) :: ([.fieldLink RX4 30 "GuardedGrammar$Terms" "size" "I"] ++ wsX40)
def wsX4_isFull : List Cond := .code yX4_isFull cX4_isFull 1 (some .boolean) :: ([.fieldLink RX4 30 "GuardedGrammar$Terms" "size" "I"] ++ wsX40)
def wsX4_isPart : List Cond := .code yX4_isPart cX4_isPart 2 (some .boolean) :: ([.fieldLink RX4 24 "GuardedGrammar$Terms" "wholes" "[I"] ++ wsX40)
def wsX4_whole : List Cond := .code yX4_whole cX4_whole 2 (some .int) :: ([.fieldLink RX4 24 "GuardedGrammar$Terms" "wholes" "[I"] ++ wsX40)
def wsX5_init : List Cond := .code yX5_init cX5_init 2 none :: ([.methodLink RX5 3 objectInit, .instanceMethod objectInit, .code objectInit ⟨#[0xb1]⟩ 1 none, .arrayClass .int, .fieldLink RX5 9 "GuardedGrammar$Typing" "order" "[I", .fieldLink RX5 15 "GuardedGrammar$Typing" "waiting" "[I", .fieldLink RX5 18 "GuardedGrammar$Typing" "binders" "[I", .arrayClass .boolean, .fieldLink RX5 21 "GuardedGrammar$Typing" "guarded" "[Z", .fieldLink RX5 25 "GuardedGrammar$Typing" "nullable" "[Z", .fieldLink RX5 28 "GuardedGrammar$Typing" "firsts" "[I", .fieldLink RX5 31 "GuardedGrammar$Typing" "afters" "[I", .fieldLink RX5 34 "GuardedGrammar$Typing" "start" "I", .fieldLink RX5 38 "GuardedGrammar$Typing" "terms" "LGuardedGrammar$Terms;"] ++ wsX50)
def wsX5_lineUp : List Cond := .code yX5_lineUp cX5_lineUp 4 none :: ([.fieldLink RX5 34 "GuardedGrammar$Typing" "start" "I", .fieldLink RX5 15 "GuardedGrammar$Typing" "waiting" "[I", .fieldLink RX5 9 "GuardedGrammar$Typing" "order" "[I", .fieldLink RX5 38 "GuardedGrammar$Typing" "terms" "LGuardedGrammar$Terms;", .methodLink RX5 53 yX4_left, .instanceMethod yX4_left, .selects RX4 yX4_left yX4_left, .initialized RX4, .code yX4_left cX4_left 2 (some .int), .fieldLink RX4 18 "GuardedGrammar$Terms" "lefts" "[I", .methodLink RX5 59 yX4_right, .instanceMethod yX4_right, .selects RX4 yX4_right yX4_right, .code yX4_right cX4_right 2 (some .int), .fieldLink RX4 21 "GuardedGrammar$Terms" "rights" "[I"] ++ wsX50 ++ wsX40)
def wsX5_bind : List Cond := .code yX5_bind cX5_bind 6 none :: ([.fieldLink RX5 18 "GuardedGrammar$Typing" "binders" "[I", .fieldLink RX5 21 "GuardedGrammar$Typing" "guarded" "[Z", .fieldLink RX5 38 "GuardedGrammar$Typing" "terms" "LGuardedGrammar$Terms;", .methodLink RX5 65 yX4_kind, .instanceMethod yX4_kind, .selects RX4 yX4_kind yX4_kind, .initialized RX4, .code yX4_kind cX4_kind 2 (some .int), .fieldLink RX4 9 "GuardedGrammar$Terms" "kinds" "[I", .methodLink RX5 68 yX4_whole, .instanceMethod yX4_whole, .selects RX4 yX4_whole yX4_whole, .code yX4_whole cX4_whole 2 (some .int), .fieldLink RX4 24 "GuardedGrammar$Terms" "wholes" "[I", .methodLink RX5 59 yX4_right, .instanceMethod yX4_right, .selects RX4 yX4_right yX4_right, .code yX4_right cX4_right 2 (some .int), .fieldLink RX4 21 "GuardedGrammar$Terms" "rights" "[I", .methodLink RX5 71 yX4_value, .instanceMethod yX4_value, .selects RX4 yX4_value yX4_value, .code yX4_value cX4_value 2 (some .int), .fieldLink RX4 15 "GuardedGrammar$Terms" "values" "[I"] ++ wsX50 ++ wsX40)
def wsX5_addToType : List Cond := .code yX5_addToType cX5_addToType 6 (some .boolean) :: ([.fieldLink RX5 25 "GuardedGrammar$Typing" "nullable" "[Z", .fieldLink RX5 28 "GuardedGrammar$Typing" "firsts" "[I", .fieldLink RX5 31 "GuardedGrammar$Typing" "afters" "[I"] ++ wsX50)
def wsX5_widenPair : List Cond := .code yX5_widenPair cX5_widenPair 6 (some .boolean) :: ([.fieldLink RX5 28 "GuardedGrammar$Typing" "firsts" "[I", .fieldLink RX5 25 "GuardedGrammar$Typing" "nullable" "[Z", .fieldLink RX5 31 "GuardedGrammar$Typing" "afters" "[I", .methodLink RX5 78 yX5_addToType, .instanceMethod yX5_addToType, .selects RX5 yX5_addToType yX5_addToType, .initialized RX5, .code yX5_addToType cX5_addToType 6 (some .boolean)] ++ wsX50)
def wsX5_addTypeOf : List Cond := .code yX5_addTypeOf cX5_addTypeOf 3 (some .boolean) :: ([.fieldLink RX5 25 "GuardedGrammar$Typing" "nullable" "[Z", .fieldLink RX5 28 "GuardedGrammar$Typing" "firsts" "[I", .fieldLink RX5 31 "GuardedGrammar$Typing" "afters" "[I", .methodLink RX5 78 yX5_addToType, .instanceMethod yX5_addToType, .selects RX5 yX5_addToType yX5_addToType, .initialized RX5, .code yX5_addToType cX5_addToType 6 (some .boolean)] ++ wsX50)
def wsX5_widen_r1 : List Cond := [Cond.fieldLink RX5 38 "GuardedGrammar$Typing" "terms" "LGuardedGrammar$Terms;", Cond.fieldLink RX5 18 "GuardedGrammar$Typing" "binders" "[I", Cond.methodLink RX5 65 yX4_kind, Cond.instanceMethod yX4_kind, Cond.selects RX4 yX4_kind yX4_kind, Cond.initialized RX4, Cond.code yX4_kind cX4_kind 2 (some .int), Cond.fieldLink RX4 9 "GuardedGrammar$Terms" "kinds" "[I", Cond.methodLink RX5 78 yX5_addToType, Cond.instanceMethod yX5_addToType, Cond.selects RX5 yX5_addToType yX5_addToType, Cond.initialized RX5, Cond.code yX5_addToType cX5_addToType 6 (some .boolean), Cond.fieldLink RX5 25 "GuardedGrammar$Typing" "nullable" "[Z", Cond.fieldLink RX5 28 "GuardedGrammar$Typing" "firsts" "[I", Cond.fieldLink RX5 31 "GuardedGrammar$Typing" "afters" "[I", Cond.methodLink RX5 71 yX4_value, Cond.instanceMethod yX4_value, Cond.selects RX4 yX4_value yX4_value, Cond.code yX4_value cX4_value 2 (some .int), Cond.fieldLink RX4 15 "GuardedGrammar$Terms" "values" "[I", Cond.methodLink RX5 53 yX4_left, Cond.instanceMethod yX4_left, Cond.selects RX4 yX4_left yX4_left]
def wsX5_widen_r2 : List Cond := [Cond.code yX4_left cX4_left 2 (some .int), Cond.fieldLink RX4 18 "GuardedGrammar$Terms" "lefts" "[I", Cond.methodLink RX5 59 yX4_right, Cond.instanceMethod yX4_right, Cond.selects RX4 yX4_right yX4_right, Cond.code yX4_right cX4_right 2 (some .int), Cond.fieldLink RX4 21 "GuardedGrammar$Terms" "rights" "[I", Cond.methodLink RX5 82 yX5_widenPair, Cond.instanceMethod yX5_widenPair, Cond.selects RX5 yX5_widenPair yX5_widenPair, Cond.code yX5_widenPair cX5_widenPair 6 (some .boolean), Cond.methodLink RX5 86 yX5_addTypeOf, Cond.instanceMethod yX5_addTypeOf, Cond.selects RX5 yX5_addTypeOf yX5_addTypeOf, Cond.code yX5_addTypeOf cX5_addTypeOf 3 (some .boolean)]
def wsX5_widen : List Cond := .code yX5_widen cX5_widen 3 (some .boolean) :: ((wsX5_widen_r1 ++ wsX5_widen_r2) ++ wsX50 ++ wsX40)
def wsX5_inferTypes_r1 : List Cond := [Cond.fieldLink RX5 34 "GuardedGrammar$Typing" "start" "I", Cond.fieldLink RX5 9 "GuardedGrammar$Typing" "order" "[I", Cond.fieldLink RX5 25 "GuardedGrammar$Typing" "nullable" "[Z", Cond.fieldLink RX5 28 "GuardedGrammar$Typing" "firsts" "[I", Cond.fieldLink RX5 31 "GuardedGrammar$Typing" "afters" "[I", Cond.methodLink RX5 74 yX5_widen, Cond.instanceMethod yX5_widen, Cond.selects RX5 yX5_widen yX5_widen, Cond.initialized RX5, Cond.code yX5_widen cX5_widen 3 (some .boolean), Cond.fieldLink RX5 38 "GuardedGrammar$Typing" "terms" "LGuardedGrammar$Terms;", Cond.fieldLink RX5 18 "GuardedGrammar$Typing" "binders" "[I", Cond.methodLink RX5 65 yX4_kind, Cond.instanceMethod yX4_kind, Cond.selects RX4 yX4_kind yX4_kind, Cond.initialized RX4, Cond.code yX4_kind cX4_kind 2 (some .int), Cond.fieldLink RX4 9 "GuardedGrammar$Terms" "kinds" "[I", Cond.methodLink RX5 78 yX5_addToType, Cond.instanceMethod yX5_addToType, Cond.selects RX5 yX5_addToType yX5_addToType, Cond.code yX5_addToType cX5_addToType 6 (some .boolean), Cond.methodLink RX5 71 yX4_value, Cond.instanceMethod yX4_value]
def wsX5_inferTypes_r2 : List Cond := [Cond.selects RX4 yX4_value yX4_value, Cond.code yX4_value cX4_value 2 (some .int), Cond.fieldLink RX4 15 "GuardedGrammar$Terms" "values" "[I", Cond.methodLink RX5 53 yX4_left, Cond.instanceMethod yX4_left, Cond.selects RX4 yX4_left yX4_left, Cond.code yX4_left cX4_left 2 (some .int), Cond.fieldLink RX4 18 "GuardedGrammar$Terms" "lefts" "[I", Cond.methodLink RX5 59 yX4_right, Cond.instanceMethod yX4_right, Cond.selects RX4 yX4_right yX4_right, Cond.code yX4_right cX4_right 2 (some .int), Cond.fieldLink RX4 21 "GuardedGrammar$Terms" "rights" "[I", Cond.methodLink RX5 82 yX5_widenPair, Cond.instanceMethod yX5_widenPair, Cond.selects RX5 yX5_widenPair yX5_widenPair, Cond.code yX5_widenPair cX5_widenPair 6 (some .boolean), Cond.methodLink RX5 86 yX5_addTypeOf, Cond.instanceMethod yX5_addTypeOf, Cond.selects RX5 yX5_addTypeOf yX5_addTypeOf, Cond.code yX5_addTypeOf cX5_addTypeOf 3 (some .boolean)]
def wsX5_inferTypes : List Cond := .code yX5_inferTypes cX5_inferTypes 4 none :: ((wsX5_inferTypes_r1 ++ wsX5_inferTypes_r2) ++ wsX50 ++ wsX40)
def wsX5_study_r1 : List Cond := [Cond.fieldLink RX5 34 "GuardedGrammar$Typing" "start" "I", Cond.fieldLink RX5 9 "GuardedGrammar$Typing" "order" "[I", Cond.methodLink RX5 42 yX5_lineUp, Cond.instanceMethod yX5_lineUp, Cond.selects RX5 yX5_lineUp yX5_lineUp, Cond.initialized RX5, Cond.code yX5_lineUp cX5_lineUp 4 none, Cond.fieldLink RX5 15 "GuardedGrammar$Typing" "waiting" "[I", Cond.fieldLink RX5 38 "GuardedGrammar$Typing" "terms" "LGuardedGrammar$Terms;", Cond.methodLink RX5 53 yX4_left, Cond.instanceMethod yX4_left, Cond.selects RX4 yX4_left yX4_left, Cond.initialized RX4, Cond.code yX4_left cX4_left 2 (some .int), Cond.fieldLink RX4 18 "GuardedGrammar$Terms" "lefts" "[I", Cond.methodLink RX5 59 yX4_right, Cond.instanceMethod yX4_right, Cond.selects RX4 yX4_right yX4_right, Cond.code yX4_right cX4_right 2 (some .int), Cond.fieldLink RX4 21 "GuardedGrammar$Terms" "rights" "[I", Cond.methodLink RX5 46 yX5_bind, Cond.instanceMethod yX5_bind, Cond.selects RX5 yX5_bind yX5_bind, Cond.code yX5_bind cX5_bind 6 none]
def wsX5_study_r2 : List Cond := [Cond.fieldLink RX5 18 "GuardedGrammar$Typing" "binders" "[I", Cond.fieldLink RX5 21 "GuardedGrammar$Typing" "guarded" "[Z", Cond.methodLink RX5 65 yX4_kind, Cond.instanceMethod yX4_kind, Cond.selects RX4 yX4_kind yX4_kind, Cond.code yX4_kind cX4_kind 2 (some .int), Cond.fieldLink RX4 9 "GuardedGrammar$Terms" "kinds" "[I", Cond.methodLink RX5 68 yX4_whole, Cond.instanceMethod yX4_whole, Cond.selects RX4 yX4_whole yX4_whole, Cond.code yX4_whole cX4_whole 2 (some .int), Cond.fieldLink RX4 24 "GuardedGrammar$Terms" "wholes" "[I", Cond.methodLink RX5 71 yX4_value, Cond.instanceMethod yX4_value, Cond.selects RX4 yX4_value yX4_value, Cond.code yX4_value cX4_value 2 (some .int), Cond.fieldLink RX4 15 "GuardedGrammar$Terms" "values" "[I", Cond.methodLink RX5 50 yX5_inferTypes, Cond.instanceMethod yX5_inferTypes, Cond.selects RX5 yX5_inferTypes yX5_inferTypes, Cond.code yX5_inferTypes cX5_inferTypes 4 none, Cond.fieldLink RX5 25 "GuardedGrammar$Typing" "nullable" "[Z", Cond.fieldLink RX5 28 "GuardedGrammar$Typing" "firsts" "[I", Cond.fieldLink RX5 31 "GuardedGrammar$Typing" "afters" "[I"]
def wsX5_study_r3 : List Cond := [Cond.methodLink RX5 74 yX5_widen, Cond.instanceMethod yX5_widen, Cond.selects RX5 yX5_widen yX5_widen, Cond.code yX5_widen cX5_widen 3 (some .boolean), Cond.methodLink RX5 78 yX5_addToType, Cond.instanceMethod yX5_addToType, Cond.selects RX5 yX5_addToType yX5_addToType, Cond.code yX5_addToType cX5_addToType 6 (some .boolean), Cond.methodLink RX5 82 yX5_widenPair, Cond.instanceMethod yX5_widenPair, Cond.selects RX5 yX5_widenPair yX5_widenPair, Cond.code yX5_widenPair cX5_widenPair 6 (some .boolean), Cond.methodLink RX5 86 yX5_addTypeOf, Cond.instanceMethod yX5_addTypeOf, Cond.selects RX5 yX5_addTypeOf yX5_addTypeOf, Cond.code yX5_addTypeOf cX5_addTypeOf 3 (some .boolean)]
def wsX5_study : List Cond := .code yX5_study cX5_study 3 none :: ((wsX5_study_r1 ++ (wsX5_study_r2 ++ wsX5_study_r3)) ++ wsX50 ++ wsX40)
def wsX5_afterOf : List Cond := .code yX5_afterOf cX5_afterOf 2 (some .int) :: ([.fieldLink RX5 31 "GuardedGrammar$Typing" "afters" "[I"] ++ wsX50)
def wsX5_isLoose : List Cond := .code yX5_isLoose cX5_isLoose 3 (some .boolean) :: ([.fieldLink RX5 25 "GuardedGrammar$Typing" "nullable" "[Z", .fieldLink RX5 31 "GuardedGrammar$Typing" "afters" "[I", .fieldLink RX5 28 "GuardedGrammar$Typing" "firsts" "[I"] ++ wsX50)
def wsX5_isDouble : List Cond := .code yX5_isDouble cX5_isDouble 3 (some .boolean) :: ([.fieldLink RX5 25 "GuardedGrammar$Typing" "nullable" "[Z", .fieldLink RX5 28 "GuardedGrammar$Typing" "firsts" "[I"] ++ wsX50)
def wsX5_faultAt_r1 : List Cond := [Cond.fieldLink RX5 38 "GuardedGrammar$Typing" "terms" "LGuardedGrammar$Terms;", Cond.fieldLink RX5 18 "GuardedGrammar$Typing" "binders" "[I", Cond.fieldLink RX5 21 "GuardedGrammar$Typing" "guarded" "[Z", Cond.methodLink RX5 65 yX4_kind, Cond.instanceMethod yX4_kind, Cond.selects RX4 yX4_kind yX4_kind, Cond.initialized RX4, Cond.code yX4_kind cX4_kind 2 (some .int), Cond.fieldLink RX4 9 "GuardedGrammar$Terms" "kinds" "[I", Cond.methodLink RX5 53 yX4_left, Cond.instanceMethod yX4_left, Cond.selects RX4 yX4_left yX4_left, Cond.code yX4_left cX4_left 2 (some .int), Cond.fieldLink RX4 18 "GuardedGrammar$Terms" "lefts" "[I", Cond.methodLink RX5 59 yX4_right, Cond.instanceMethod yX4_right, Cond.selects RX4 yX4_right yX4_right, Cond.code yX4_right cX4_right 2 (some .int), Cond.fieldLink RX4 21 "GuardedGrammar$Terms" "rights" "[I", Cond.methodLink RX5 90 yX5_isLoose, Cond.instanceMethod yX5_isLoose, Cond.selects RX5 yX5_isLoose yX5_isLoose, Cond.initialized RX5, Cond.code yX5_isLoose cX5_isLoose 3 (some .boolean)]
def wsX5_faultAt_r2 : List Cond := [Cond.fieldLink RX5 25 "GuardedGrammar$Typing" "nullable" "[Z", Cond.fieldLink RX5 31 "GuardedGrammar$Typing" "afters" "[I", Cond.fieldLink RX5 28 "GuardedGrammar$Typing" "firsts" "[I", Cond.methodLink RX5 93 yX5_isDouble, Cond.instanceMethod yX5_isDouble, Cond.selects RX5 yX5_isDouble yX5_isDouble, Cond.code yX5_isDouble cX5_isDouble 3 (some .boolean)]
def wsX5_faultAt : List Cond := .code yX5_faultAt cX5_faultAt 2 (some .int) :: ((wsX5_faultAt_r1 ++ wsX5_faultAt_r2) ++ wsX50 ++ wsX40)
def wsX5_firstFault_r1 : List Cond := [Cond.fieldLink RX5 34 "GuardedGrammar$Typing" "start" "I", Cond.fieldLink RX5 9 "GuardedGrammar$Typing" "order" "[I", Cond.methodLink RX5 62 yX5_faultAt, Cond.instanceMethod yX5_faultAt, Cond.selects RX5 yX5_faultAt yX5_faultAt, Cond.initialized RX5, Cond.code yX5_faultAt cX5_faultAt 2 (some .int), Cond.fieldLink RX5 38 "GuardedGrammar$Typing" "terms" "LGuardedGrammar$Terms;", Cond.fieldLink RX5 18 "GuardedGrammar$Typing" "binders" "[I", Cond.fieldLink RX5 21 "GuardedGrammar$Typing" "guarded" "[Z", Cond.methodLink RX5 65 yX4_kind, Cond.instanceMethod yX4_kind, Cond.selects RX4 yX4_kind yX4_kind, Cond.initialized RX4, Cond.code yX4_kind cX4_kind 2 (some .int), Cond.fieldLink RX4 9 "GuardedGrammar$Terms" "kinds" "[I", Cond.methodLink RX5 53 yX4_left, Cond.instanceMethod yX4_left, Cond.selects RX4 yX4_left yX4_left, Cond.code yX4_left cX4_left 2 (some .int), Cond.fieldLink RX4 18 "GuardedGrammar$Terms" "lefts" "[I", Cond.methodLink RX5 59 yX4_right, Cond.instanceMethod yX4_right, Cond.selects RX4 yX4_right yX4_right]
def wsX5_firstFault_r2 : List Cond := [Cond.code yX4_right cX4_right 2 (some .int), Cond.fieldLink RX4 21 "GuardedGrammar$Terms" "rights" "[I", Cond.methodLink RX5 90 yX5_isLoose, Cond.instanceMethod yX5_isLoose, Cond.selects RX5 yX5_isLoose yX5_isLoose, Cond.code yX5_isLoose cX5_isLoose 3 (some .boolean), Cond.fieldLink RX5 25 "GuardedGrammar$Typing" "nullable" "[Z", Cond.fieldLink RX5 31 "GuardedGrammar$Typing" "afters" "[I", Cond.fieldLink RX5 28 "GuardedGrammar$Typing" "firsts" "[I", Cond.methodLink RX5 93 yX5_isDouble, Cond.instanceMethod yX5_isDouble, Cond.selects RX5 yX5_isDouble yX5_isDouble, Cond.code yX5_isDouble cX5_isDouble 3 (some .boolean)]
def wsX5_firstFault : List Cond := .code yX5_firstFault cX5_firstFault 3 (some .int) :: ((wsX5_firstFault_r1 ++ wsX5_firstFault_r2) ++ wsX50 ++ wsX40)
def wsX6_init : List Cond := .code yX6_init cX6_init 1 none :: ([.methodLink RX6 3 objectInit, .instanceMethod objectInit, .code objectInit ⟨#[0xb1]⟩ 1 none, .arrayClass .int, .fieldLink RX6 9 "GuardedGrammar$Word" "letters" "[I", .fieldLink RX6 15 "GuardedGrammar$Word" "size" "I"] ++ wsX60)
def wsX6_isFull : List Cond := .code yX6_isFull cX6_isFull 1 (some .boolean) :: ([.fieldLink RX6 15 "GuardedGrammar$Word" "size" "I"] ++ wsX60)
def wsX7_init_r1 : List Cond := [Cond.methodLink RX7 3 objectInit, Cond.instanceMethod objectInit, Cond.code objectInit ⟨#[0xb1]⟩ 1 none, Cond.classLink RX7 9 RX4, Cond.instantiable RX4 7, Cond.initialized RX4, Cond.fieldLink RX7 12 "GuardedGrammar" "terms" "LGuardedGrammar$Terms;", Cond.classLink RX7 16 RX5, Cond.instantiable RX5 9, Cond.initialized RX5, Cond.fieldLink RX7 21 "GuardedGrammar" "typing" "LGuardedGrammar$Typing;", Cond.classLink RX7 25 RX6, Cond.instantiable RX6 2, Cond.initialized RX6, Cond.fieldLink RX7 28 "GuardedGrammar" "word" "LGuardedGrammar$Word;", Cond.classLink RX7 32 RX0, Cond.instantiable RX0 8, Cond.initialized RX0, Cond.fieldLink RX7 37 "GuardedGrammar" "reader" "LGuardedGrammar$Reader;", Cond.classLink RX7 41 RX3, Cond.instantiable RX3 3, Cond.initialized RX3, Cond.fieldLink RX7 44 "GuardedGrammar" "tally" "LGuardedGrammar$Tally;", Cond.classLink RX7 48 RX1]
def wsX7_init_r2 : List Cond := [Cond.instantiable RX1 9, Cond.initialized RX1, Cond.fieldLink RX7 53 "GuardedGrammar" "speller" "LGuardedGrammar$Speller;", Cond.fieldLink RX7 57 "GuardedGrammar" "stopped" "I", Cond.instanceMethod yX4_init, Cond.code yX4_init cX4_init 1 none, Cond.methodLink RX4 3 objectInit, Cond.arrayClass .int, Cond.fieldLink RX4 9 "GuardedGrammar$Terms" "kinds" "[I", Cond.fieldLink RX4 15 "GuardedGrammar$Terms" "values" "[I", Cond.fieldLink RX4 18 "GuardedGrammar$Terms" "lefts" "[I", Cond.fieldLink RX4 21 "GuardedGrammar$Terms" "rights" "[I", Cond.fieldLink RX4 24 "GuardedGrammar$Terms" "wholes" "[I", Cond.fieldLink RX4 27 "GuardedGrammar$Terms" "knots" "[I", Cond.fieldLink RX4 30 "GuardedGrammar$Terms" "size" "I", Cond.methodLink RX7 18 yX5_init, Cond.instanceMethod yX5_init, Cond.code yX5_init cX5_init 2 none, Cond.methodLink RX5 3 objectInit, Cond.fieldLink RX5 9 "GuardedGrammar$Typing" "order" "[I", Cond.fieldLink RX5 15 "GuardedGrammar$Typing" "waiting" "[I", Cond.fieldLink RX5 18 "GuardedGrammar$Typing" "binders" "[I", Cond.arrayClass .boolean, Cond.fieldLink RX5 21 "GuardedGrammar$Typing" "guarded" "[Z"]
def wsX7_init_r3 : List Cond := [Cond.fieldLink RX5 25 "GuardedGrammar$Typing" "nullable" "[Z", Cond.fieldLink RX5 28 "GuardedGrammar$Typing" "firsts" "[I", Cond.fieldLink RX5 31 "GuardedGrammar$Typing" "afters" "[I", Cond.fieldLink RX5 34 "GuardedGrammar$Typing" "start" "I", Cond.fieldLink RX5 38 "GuardedGrammar$Typing" "terms" "LGuardedGrammar$Terms;", Cond.instanceMethod yX6_init, Cond.code yX6_init cX6_init 1 none, Cond.methodLink RX6 3 objectInit, Cond.fieldLink RX6 9 "GuardedGrammar$Word" "letters" "[I", Cond.fieldLink RX6 15 "GuardedGrammar$Word" "size" "I", Cond.methodLink RX7 34 yX0_init, Cond.instanceMethod yX0_init, Cond.code yX0_init cX0_init 3 none, Cond.methodLink RX0 3 objectInit, Cond.fieldLink RX0 9 "GuardedGrammar$Reader" "waiting" "[I", Cond.fieldLink RX0 15 "GuardedGrammar$Reader" "open" "I", Cond.fieldLink RX0 19 "GuardedGrammar$Reader" "place" "I", Cond.fieldLink RX0 22 "GuardedGrammar$Reader" "visits" "I", Cond.classLink RX0 25 RX2, Cond.instantiable RX2 2, Cond.initialized RX2, Cond.fieldLink RX0 28 "GuardedGrammar$Reader" "made" "LGuardedGrammar$Steps;", Cond.fieldLink RX0 32 "GuardedGrammar$Reader" "kept" "LGuardedGrammar$Steps;", Cond.fieldLink RX0 35 "GuardedGrammar$Reader" "terms" "LGuardedGrammar$Terms;"]
def wsX7_init_r4 : List Cond := [Cond.fieldLink RX0 39 "GuardedGrammar$Reader" "typing" "LGuardedGrammar$Typing;", Cond.instanceMethod yX2_init, Cond.code yX2_init cX2_init 1 none, Cond.methodLink RX2 3 objectInit, Cond.arrayClass .long, Cond.fieldLink RX2 9 "GuardedGrammar$Steps" "bits" "[J", Cond.fieldLink RX2 15 "GuardedGrammar$Steps" "size" "I", Cond.methodLink RX7 43 yX3_init, Cond.instanceMethod yX3_init, Cond.code yX3_init cX3_init 3 none, Cond.methodLink RX3 3 objectInit, Cond.classLink RX3 9 "[[J", Cond.fieldLink RX3 11 "GuardedGrammar$Tally" "words" "[[J", Cond.fieldLink RX3 16 "GuardedGrammar$Tally" "terms" "LGuardedGrammar$Terms;", Cond.fieldLink RX3 20 "GuardedGrammar$Tally" "typing" "LGuardedGrammar$Typing;", Cond.methodLink RX7 50 yX1_init, Cond.instanceMethod yX1_init, Cond.code yX1_init cX1_init 4 none, Cond.methodLink RX1 3 objectInit, Cond.fieldLink RX1 9 "GuardedGrammar$Speller" "pile" "[I", Cond.fieldLink RX1 15 "GuardedGrammar$Speller" "height" "I", Cond.fieldLink RX1 19 "GuardedGrammar$Speller" "ways" "[J", Cond.fieldLink RX1 23 "GuardedGrammar$Speller" "fresh" "[I", Cond.fieldLink RX1 26 "GuardedGrammar$Speller" "freshSize" "I"]
def wsX7_init_r5 : List Cond := [Cond.fieldLink RX1 29 "GuardedGrammar$Speller" "ahead" "[J", Cond.fieldLink RX1 32 "GuardedGrammar$Speller" "terms" "LGuardedGrammar$Terms;", Cond.fieldLink RX1 36 "GuardedGrammar$Speller" "typing" "LGuardedGrammar$Typing;", Cond.fieldLink RX1 40 "GuardedGrammar$Speller" "tally" "LGuardedGrammar$Tally;"]
def wsX7_init : List Cond := .code yX7_init cX7_init 1 none :: ((wsX7_init_r1 ++ (wsX7_init_r2 ++ (wsX7_init_r3 ++ (wsX7_init_r4 ++ wsX7_init_r5)))) ++ wsX40 ++ wsX70 ++ wsX50 ++ wsX60 ++ wsX00 ++ wsX30 ++ wsX10 ++ wsX20)
def wsX7_needRoom : List Cond := .code yX7_needRoom cX7_needRoom 1 none :: ([.classLink RX7 89 "java/lang/UnsupportedOperationException", .initialized "java/lang/UnsupportedOperationException", .fieldLink RX7 12 "GuardedGrammar" "terms" "LGuardedGrammar$Terms;", .methodLink RX7 174 yX4_isFull, .instanceMethod yX4_isFull, .selects RX4 yX4_isFull yX4_isFull, .initialized RX4, .code yX4_isFull cX4_isFull 1 (some .boolean), .fieldLink RX4 30 "GuardedGrammar$Terms" "size" "I"] ++ wsX70 ++ wsX40 ++ (vx_at0 RX7 91 "java/lang/UnsupportedOperationException" ["java/lang/RuntimeException", "java/lang/Exception"]).filter goodWord)
def wsX7_leaf_r1 : List Cond := [Cond.classLink RX7 61 "java/lang/IllegalArgumentException", Cond.initialized "java/lang/IllegalArgumentException", Cond.fieldLink RX7 12 "GuardedGrammar" "terms" "LGuardedGrammar$Terms;", Cond.methodLink RX7 64 yX7_needRoom, Cond.instanceMethod yX7_needRoom, Cond.selects RX7 yX7_needRoom yX7_needRoom, Cond.initialized RX7, Cond.code yX7_needRoom cX7_needRoom 1 none, Cond.classLink RX7 89 "java/lang/UnsupportedOperationException", Cond.initialized "java/lang/UnsupportedOperationException", Cond.methodLink RX7 174 yX4_isFull, Cond.instanceMethod yX4_isFull, Cond.selects RX4 yX4_isFull yX4_isFull, Cond.initialized RX4, Cond.code yX4_isFull cX4_isFull 1 (some .boolean), Cond.fieldLink RX4 30 "GuardedGrammar$Terms" "size" "I", Cond.methodLink RX7 67 yX4_add, Cond.instanceMethod yX4_add, Cond.selects RX4 yX4_add yX4_add, Cond.code yX4_add cX4_add 6 (some .int), Cond.fieldLink RX4 9 "GuardedGrammar$Terms" "kinds" "[I", Cond.fieldLink RX4 15 "GuardedGrammar$Terms" "values" "[I", Cond.fieldLink RX4 18 "GuardedGrammar$Terms" "lefts" "[I", Cond.fieldLink RX4 21 "GuardedGrammar$Terms" "rights" "[I"]
def wsX7_leaf_r2 : List Cond := [Cond.fieldLink RX4 24 "GuardedGrammar$Terms" "wholes" "[I", Cond.fieldLink RX4 27 "GuardedGrammar$Terms" "knots" "[I", Cond.methodLink RX4 38 Lib.Math.max.name, Cond.static Lib.Math.max.name, Cond.initialized "java/lang/Math", Cond.code Lib.Math.max.name Lib.Math.max.code 2 (some .int), Cond.methodLink RX4 34 yX4_knotsIn, Cond.instanceMethod yX4_knotsIn, Cond.selects RX4 yX4_knotsIn yX4_knotsIn, Cond.code yX4_knotsIn cX4_knotsIn 2 (some .int), Cond.methodLink RX4 44 yX4_makePart, Cond.instanceMethod yX4_makePart, Cond.selects RX4 yX4_makePart yX4_makePart, Cond.code yX4_makePart cX4_makePart 3 none]
def wsX7_leaf : List Cond := .code yX7_leaf cX7_leaf 2 (some .int) :: ((wsX7_leaf_r1 ++ wsX7_leaf_r2) ++ wsX70 ++ wsX40 ++ (vx_at0 RX7 63 "java/lang/IllegalArgumentException" ["java/lang/RuntimeException", "java/lang/Exception"]).filter goodWord ++ (vx_at0 RX7 91 "java/lang/UnsupportedOperationException" ["java/lang/RuntimeException", "java/lang/Exception"]).filter goodWord)
def wsX7_needVariable : List Cond := .code yX7_needVariable cX7_needVariable 2 none :: ([.classLink RX7 61 "java/lang/IllegalArgumentException", .initialized "java/lang/IllegalArgumentException"] ++ (vx_at0 RX7 63 "java/lang/IllegalArgumentException" ["java/lang/RuntimeException", "java/lang/Exception"]).filter goodWord)
def wsX7_variable_r1 : List Cond := [Cond.fieldLink RX7 12 "GuardedGrammar" "terms" "LGuardedGrammar$Terms;", Cond.methodLink RX7 71 yX7_needVariable, Cond.instanceMethod yX7_needVariable, Cond.selects RX7 yX7_needVariable yX7_needVariable, Cond.initialized RX7, Cond.code yX7_needVariable cX7_needVariable 2 none, Cond.classLink RX7 61 "java/lang/IllegalArgumentException", Cond.initialized "java/lang/IllegalArgumentException", Cond.methodLink RX7 64 yX7_needRoom, Cond.instanceMethod yX7_needRoom, Cond.selects RX7 yX7_needRoom yX7_needRoom, Cond.code yX7_needRoom cX7_needRoom 1 none, Cond.classLink RX7 89 "java/lang/UnsupportedOperationException", Cond.initialized "java/lang/UnsupportedOperationException", Cond.methodLink RX7 174 yX4_isFull, Cond.instanceMethod yX4_isFull, Cond.selects RX4 yX4_isFull yX4_isFull, Cond.initialized RX4, Cond.code yX4_isFull cX4_isFull 1 (some .boolean), Cond.fieldLink RX4 30 "GuardedGrammar$Terms" "size" "I", Cond.methodLink RX7 67 yX4_add, Cond.instanceMethod yX4_add, Cond.selects RX4 yX4_add yX4_add, Cond.code yX4_add cX4_add 6 (some .int)]
def wsX7_variable_r2 : List Cond := [Cond.fieldLink RX4 9 "GuardedGrammar$Terms" "kinds" "[I", Cond.fieldLink RX4 15 "GuardedGrammar$Terms" "values" "[I", Cond.fieldLink RX4 18 "GuardedGrammar$Terms" "lefts" "[I", Cond.fieldLink RX4 21 "GuardedGrammar$Terms" "rights" "[I", Cond.fieldLink RX4 24 "GuardedGrammar$Terms" "wholes" "[I", Cond.fieldLink RX4 27 "GuardedGrammar$Terms" "knots" "[I", Cond.methodLink RX4 38 Lib.Math.max.name, Cond.static Lib.Math.max.name, Cond.initialized "java/lang/Math", Cond.code Lib.Math.max.name Lib.Math.max.code 2 (some .int), Cond.methodLink RX4 34 yX4_knotsIn, Cond.instanceMethod yX4_knotsIn, Cond.selects RX4 yX4_knotsIn yX4_knotsIn, Cond.code yX4_knotsIn cX4_knotsIn 2 (some .int), Cond.methodLink RX4 44 yX4_makePart, Cond.instanceMethod yX4_makePart, Cond.selects RX4 yX4_makePart yX4_makePart, Cond.code yX4_makePart cX4_makePart 3 none]
def wsX7_variable : List Cond := .code yX7_variable cX7_variable 2 (some .int) :: ((wsX7_variable_r1 ++ wsX7_variable_r2) ++ wsX70 ++ wsX40 ++ (vx_at0 RX7 63 "java/lang/IllegalArgumentException" ["java/lang/RuntimeException", "java/lang/Exception"]).filter goodWord ++ (vx_at0 RX7 91 "java/lang/UnsupportedOperationException" ["java/lang/RuntimeException", "java/lang/Exception"]).filter goodWord)
def wsX7_needTerm : List Cond := .code yX7_needTerm cX7_needTerm 2 none :: ([.classLink RX7 105 "java/lang/IndexOutOfBoundsException", .initialized "java/lang/IndexOutOfBoundsException", .fieldLink RX7 12 "GuardedGrammar" "terms" "LGuardedGrammar$Terms;", .methodLink RX7 171 yX4_has, .instanceMethod yX4_has, .selects RX4 yX4_has yX4_has, .initialized RX4, .code yX4_has cX4_has 2 (some .boolean), .fieldLink RX4 30 "GuardedGrammar$Terms" "size" "I"] ++ wsX70 ++ wsX40 ++ (vx_at0 RX7 107 "java/lang/IndexOutOfBoundsException" ["java/lang/RuntimeException", "java/lang/Exception"]).filter goodWord)
def wsX7_join_r1 : List Cond := [Cond.classLink RX7 82 "java/lang/IllegalStateException", Cond.initialized "java/lang/IllegalStateException", Cond.fieldLink RX7 12 "GuardedGrammar" "terms" "LGuardedGrammar$Terms;", Cond.methodLink RX7 75 yX7_needTerm, Cond.instanceMethod yX7_needTerm, Cond.selects RX7 yX7_needTerm yX7_needTerm, Cond.initialized RX7, Cond.code yX7_needTerm cX7_needTerm 2 none, Cond.classLink RX7 105 "java/lang/IndexOutOfBoundsException", Cond.initialized "java/lang/IndexOutOfBoundsException", Cond.methodLink RX7 171 yX4_has, Cond.instanceMethod yX4_has, Cond.selects RX4 yX4_has yX4_has, Cond.initialized RX4, Cond.code yX4_has cX4_has 2 (some .boolean), Cond.fieldLink RX4 30 "GuardedGrammar$Terms" "size" "I", Cond.methodLink RX7 78 yX4_isPart, Cond.instanceMethod yX4_isPart, Cond.selects RX4 yX4_isPart yX4_isPart, Cond.code yX4_isPart cX4_isPart 2 (some .boolean), Cond.fieldLink RX4 24 "GuardedGrammar$Terms" "wholes" "[I", Cond.methodLink RX7 64 yX7_needRoom, Cond.instanceMethod yX7_needRoom, Cond.selects RX7 yX7_needRoom yX7_needRoom]
def wsX7_join_r2 : List Cond := [Cond.code yX7_needRoom cX7_needRoom 1 none, Cond.classLink RX7 89 "java/lang/UnsupportedOperationException", Cond.initialized "java/lang/UnsupportedOperationException", Cond.methodLink RX7 174 yX4_isFull, Cond.instanceMethod yX4_isFull, Cond.selects RX4 yX4_isFull yX4_isFull, Cond.code yX4_isFull cX4_isFull 1 (some .boolean), Cond.methodLink RX7 67 yX4_add, Cond.instanceMethod yX4_add, Cond.selects RX4 yX4_add yX4_add, Cond.code yX4_add cX4_add 6 (some .int), Cond.fieldLink RX4 9 "GuardedGrammar$Terms" "kinds" "[I", Cond.fieldLink RX4 15 "GuardedGrammar$Terms" "values" "[I", Cond.fieldLink RX4 18 "GuardedGrammar$Terms" "lefts" "[I", Cond.fieldLink RX4 21 "GuardedGrammar$Terms" "rights" "[I", Cond.fieldLink RX4 27 "GuardedGrammar$Terms" "knots" "[I", Cond.methodLink RX4 38 Lib.Math.max.name, Cond.static Lib.Math.max.name, Cond.initialized "java/lang/Math", Cond.code Lib.Math.max.name Lib.Math.max.code 2 (some .int), Cond.methodLink RX4 34 yX4_knotsIn, Cond.instanceMethod yX4_knotsIn, Cond.selects RX4 yX4_knotsIn yX4_knotsIn, Cond.code yX4_knotsIn cX4_knotsIn 2 (some .int)]
def wsX7_join_r3 : List Cond := [Cond.methodLink RX4 44 yX4_makePart, Cond.instanceMethod yX4_makePart, Cond.selects RX4 yX4_makePart yX4_makePart, Cond.code yX4_makePart cX4_makePart 3 none]
def wsX7_join : List Cond := .code yX7_join cX7_join 4 (some .int) :: ((wsX7_join_r1 ++ (wsX7_join_r2 ++ wsX7_join_r3)) ++ wsX70 ++ wsX40 ++ (vx_at0 RX7 84 "java/lang/IllegalStateException" ["java/lang/RuntimeException", "java/lang/Exception"]).filter goodWord ++ (vx_at0 RX7 107 "java/lang/IndexOutOfBoundsException" ["java/lang/RuntimeException", "java/lang/Exception"]).filter goodWord ++ (vx_at0 RX7 91 "java/lang/UnsupportedOperationException" ["java/lang/RuntimeException", "java/lang/Exception"]).filter goodWord)
def wsX7_knot_r1 : List Cond := [Cond.classLink RX7 82 "java/lang/IllegalStateException", Cond.initialized "java/lang/IllegalStateException", Cond.classLink RX7 89 "java/lang/UnsupportedOperationException", Cond.initialized "java/lang/UnsupportedOperationException", Cond.fieldLink RX7 12 "GuardedGrammar" "terms" "LGuardedGrammar$Terms;", Cond.methodLink RX7 75 yX7_needTerm, Cond.instanceMethod yX7_needTerm, Cond.selects RX7 yX7_needTerm yX7_needTerm, Cond.initialized RX7, Cond.code yX7_needTerm cX7_needTerm 2 none, Cond.classLink RX7 105 "java/lang/IndexOutOfBoundsException", Cond.initialized "java/lang/IndexOutOfBoundsException", Cond.methodLink RX7 171 yX4_has, Cond.instanceMethod yX4_has, Cond.selects RX4 yX4_has yX4_has, Cond.initialized RX4, Cond.code yX4_has cX4_has 2 (some .boolean), Cond.fieldLink RX4 30 "GuardedGrammar$Terms" "size" "I", Cond.methodLink RX7 78 yX4_isPart, Cond.instanceMethod yX4_isPart, Cond.selects RX4 yX4_isPart yX4_isPart, Cond.code yX4_isPart cX4_isPart 2 (some .boolean), Cond.fieldLink RX4 24 "GuardedGrammar$Terms" "wholes" "[I", Cond.methodLink RX7 71 yX7_needVariable]
def wsX7_knot_r2 : List Cond := [Cond.instanceMethod yX7_needVariable, Cond.selects RX7 yX7_needVariable yX7_needVariable, Cond.code yX7_needVariable cX7_needVariable 2 none, Cond.classLink RX7 61 "java/lang/IllegalArgumentException", Cond.initialized "java/lang/IllegalArgumentException", Cond.methodLink RX7 64 yX7_needRoom, Cond.instanceMethod yX7_needRoom, Cond.selects RX7 yX7_needRoom yX7_needRoom, Cond.code yX7_needRoom cX7_needRoom 1 none, Cond.methodLink RX7 174 yX4_isFull, Cond.instanceMethod yX4_isFull, Cond.selects RX4 yX4_isFull yX4_isFull, Cond.code yX4_isFull cX4_isFull 1 (some .boolean), Cond.methodLink RX7 85 yX4_knotsIn, Cond.instanceMethod yX4_knotsIn, Cond.selects RX4 yX4_knotsIn yX4_knotsIn, Cond.code yX4_knotsIn cX4_knotsIn 2 (some .int), Cond.fieldLink RX4 27 "GuardedGrammar$Terms" "knots" "[I", Cond.methodLink RX7 67 yX4_add, Cond.instanceMethod yX4_add, Cond.selects RX4 yX4_add yX4_add, Cond.code yX4_add cX4_add 6 (some .int), Cond.fieldLink RX4 9 "GuardedGrammar$Terms" "kinds" "[I", Cond.fieldLink RX4 15 "GuardedGrammar$Terms" "values" "[I"]
def wsX7_knot_r3 : List Cond := [Cond.fieldLink RX4 18 "GuardedGrammar$Terms" "lefts" "[I", Cond.fieldLink RX4 21 "GuardedGrammar$Terms" "rights" "[I", Cond.methodLink RX4 38 Lib.Math.max.name, Cond.static Lib.Math.max.name, Cond.initialized "java/lang/Math", Cond.code Lib.Math.max.name Lib.Math.max.code 2 (some .int), Cond.methodLink RX4 34 yX4_knotsIn, Cond.methodLink RX4 44 yX4_makePart, Cond.instanceMethod yX4_makePart, Cond.selects RX4 yX4_makePart yX4_makePart, Cond.code yX4_makePart cX4_makePart 3 none]
def wsX7_knot : List Cond := .code yX7_knot cX7_knot 3 (some .int) :: ((wsX7_knot_r1 ++ (wsX7_knot_r2 ++ wsX7_knot_r3)) ++ wsX70 ++ wsX40 ++ (vx_at0 RX7 84 "java/lang/IllegalStateException" ["java/lang/RuntimeException", "java/lang/Exception"]).filter goodWord ++ (vx_at0 RX7 91 "java/lang/UnsupportedOperationException" ["java/lang/RuntimeException", "java/lang/Exception"]).filter goodWord ++ (vx_at0 RX7 107 "java/lang/IndexOutOfBoundsException" ["java/lang/RuntimeException", "java/lang/Exception"]).filter goodWord ++ (vx_at0 RX7 63 "java/lang/IllegalArgumentException" ["java/lang/RuntimeException", "java/lang/Exception"]).filter goodWord)
def wsX7_clear : List Cond := .code yX7_clear cX7_clear 1 none :: ([.fieldLink RX7 12 "GuardedGrammar" "terms" "LGuardedGrammar$Terms;", .methodLink RX7 92 yX4_forgetAll, .instanceMethod yX4_forgetAll, .selects RX4 yX4_forgetAll yX4_forgetAll, .initialized RX4, .code yX4_forgetAll cX4_forgetAll 1 none, .fieldLink RX4 30 "GuardedGrammar$Terms" "size" "I"] ++ wsX70 ++ wsX40)
def wsX7_terms : List Cond := .code yX7_terms cX7_terms 1 (some .int) :: ([.fieldLink RX7 12 "GuardedGrammar" "terms" "LGuardedGrammar$Terms;", .methodLink RX7 95 yX4_size, .instanceMethod yX4_size, .selects RX4 yX4_size yX4_size, .initialized RX4, .code yX4_size cX4_size 1 (some .int), .fieldLink RX4 30 "GuardedGrammar$Terms" "size" "I"] ++ wsX70 ++ wsX40)
def wsX7_fault_r1 : List Cond := [Cond.fieldLink RX7 21 "GuardedGrammar" "typing" "LGuardedGrammar$Typing;", Cond.methodLink RX7 75 yX7_needTerm, Cond.instanceMethod yX7_needTerm, Cond.selects RX7 yX7_needTerm yX7_needTerm, Cond.initialized RX7, Cond.code yX7_needTerm cX7_needTerm 2 none, Cond.classLink RX7 105 "java/lang/IndexOutOfBoundsException", Cond.initialized "java/lang/IndexOutOfBoundsException", Cond.fieldLink RX7 12 "GuardedGrammar" "terms" "LGuardedGrammar$Terms;", Cond.methodLink RX7 171 yX4_has, Cond.instanceMethod yX4_has, Cond.selects RX4 yX4_has yX4_has, Cond.initialized RX4, Cond.code yX4_has cX4_has 2 (some .boolean), Cond.fieldLink RX4 30 "GuardedGrammar$Terms" "size" "I", Cond.methodLink RX7 99 yX5_study, Cond.instanceMethod yX5_study, Cond.selects RX5 yX5_study yX5_study, Cond.initialized RX5, Cond.code yX5_study cX5_study 3 none, Cond.fieldLink RX5 34 "GuardedGrammar$Typing" "start" "I", Cond.fieldLink RX5 9 "GuardedGrammar$Typing" "order" "[I", Cond.methodLink RX5 42 yX5_lineUp, Cond.instanceMethod yX5_lineUp]
def wsX7_fault_r2 : List Cond := [Cond.selects RX5 yX5_lineUp yX5_lineUp, Cond.code yX5_lineUp cX5_lineUp 4 none, Cond.fieldLink RX5 15 "GuardedGrammar$Typing" "waiting" "[I", Cond.fieldLink RX5 38 "GuardedGrammar$Typing" "terms" "LGuardedGrammar$Terms;", Cond.methodLink RX5 53 yX4_left, Cond.instanceMethod yX4_left, Cond.selects RX4 yX4_left yX4_left, Cond.code yX4_left cX4_left 2 (some .int), Cond.fieldLink RX4 18 "GuardedGrammar$Terms" "lefts" "[I", Cond.methodLink RX5 59 yX4_right, Cond.instanceMethod yX4_right, Cond.selects RX4 yX4_right yX4_right, Cond.code yX4_right cX4_right 2 (some .int), Cond.fieldLink RX4 21 "GuardedGrammar$Terms" "rights" "[I", Cond.methodLink RX5 46 yX5_bind, Cond.instanceMethod yX5_bind, Cond.selects RX5 yX5_bind yX5_bind, Cond.code yX5_bind cX5_bind 6 none, Cond.fieldLink RX5 18 "GuardedGrammar$Typing" "binders" "[I", Cond.fieldLink RX5 21 "GuardedGrammar$Typing" "guarded" "[Z", Cond.methodLink RX5 65 yX4_kind, Cond.instanceMethod yX4_kind, Cond.selects RX4 yX4_kind yX4_kind, Cond.code yX4_kind cX4_kind 2 (some .int)]
def wsX7_fault_r3 : List Cond := [Cond.fieldLink RX4 9 "GuardedGrammar$Terms" "kinds" "[I", Cond.methodLink RX5 68 yX4_whole, Cond.instanceMethod yX4_whole, Cond.selects RX4 yX4_whole yX4_whole, Cond.code yX4_whole cX4_whole 2 (some .int), Cond.fieldLink RX4 24 "GuardedGrammar$Terms" "wholes" "[I", Cond.methodLink RX5 71 yX4_value, Cond.instanceMethod yX4_value, Cond.selects RX4 yX4_value yX4_value, Cond.code yX4_value cX4_value 2 (some .int), Cond.fieldLink RX4 15 "GuardedGrammar$Terms" "values" "[I", Cond.methodLink RX5 50 yX5_inferTypes, Cond.instanceMethod yX5_inferTypes, Cond.selects RX5 yX5_inferTypes yX5_inferTypes, Cond.code yX5_inferTypes cX5_inferTypes 4 none, Cond.fieldLink RX5 25 "GuardedGrammar$Typing" "nullable" "[Z", Cond.fieldLink RX5 28 "GuardedGrammar$Typing" "firsts" "[I", Cond.fieldLink RX5 31 "GuardedGrammar$Typing" "afters" "[I", Cond.methodLink RX5 74 yX5_widen, Cond.instanceMethod yX5_widen, Cond.selects RX5 yX5_widen yX5_widen, Cond.code yX5_widen cX5_widen 3 (some .boolean), Cond.methodLink RX5 78 yX5_addToType, Cond.instanceMethod yX5_addToType]
def wsX7_fault_r4 : List Cond := [Cond.selects RX5 yX5_addToType yX5_addToType, Cond.code yX5_addToType cX5_addToType 6 (some .boolean), Cond.methodLink RX5 82 yX5_widenPair, Cond.instanceMethod yX5_widenPair, Cond.selects RX5 yX5_widenPair yX5_widenPair, Cond.code yX5_widenPair cX5_widenPair 6 (some .boolean), Cond.methodLink RX5 86 yX5_addTypeOf, Cond.instanceMethod yX5_addTypeOf, Cond.selects RX5 yX5_addTypeOf yX5_addTypeOf, Cond.code yX5_addTypeOf cX5_addTypeOf 3 (some .boolean), Cond.methodLink RX7 102 yX5_firstFault, Cond.instanceMethod yX5_firstFault, Cond.selects RX5 yX5_firstFault yX5_firstFault, Cond.code yX5_firstFault cX5_firstFault 3 (some .int), Cond.methodLink RX5 62 yX5_faultAt, Cond.instanceMethod yX5_faultAt, Cond.selects RX5 yX5_faultAt yX5_faultAt, Cond.code yX5_faultAt cX5_faultAt 2 (some .int), Cond.methodLink RX5 90 yX5_isLoose, Cond.instanceMethod yX5_isLoose, Cond.selects RX5 yX5_isLoose yX5_isLoose, Cond.code yX5_isLoose cX5_isLoose 3 (some .boolean), Cond.methodLink RX5 93 yX5_isDouble, Cond.instanceMethod yX5_isDouble]
def wsX7_fault_r5 : List Cond := [Cond.selects RX5 yX5_isDouble yX5_isDouble, Cond.code yX5_isDouble cX5_isDouble 3 (some .boolean)]
def wsX7_fault : List Cond := .code yX7_fault cX7_fault 2 (some .int) :: ((wsX7_fault_r1 ++ (wsX7_fault_r2 ++ (wsX7_fault_r3 ++ (wsX7_fault_r4 ++ wsX7_fault_r5)))) ++ wsX70 ++ wsX40 ++ wsX50 ++ (vx_at0 RX7 107 "java/lang/IndexOutOfBoundsException" ["java/lang/RuntimeException", "java/lang/Exception"]).filter goodWord)
def wsX7_needTyped_r1 : List Cond := [Cond.classLink RX7 82 "java/lang/IllegalStateException", Cond.initialized "java/lang/IllegalStateException", Cond.fieldLink RX7 21 "GuardedGrammar" "typing" "LGuardedGrammar$Typing;", Cond.methodLink RX7 99 yX5_study, Cond.instanceMethod yX5_study, Cond.selects RX5 yX5_study yX5_study, Cond.initialized RX5, Cond.code yX5_study cX5_study 3 none, Cond.fieldLink RX5 34 "GuardedGrammar$Typing" "start" "I", Cond.fieldLink RX5 9 "GuardedGrammar$Typing" "order" "[I", Cond.methodLink RX5 42 yX5_lineUp, Cond.instanceMethod yX5_lineUp, Cond.selects RX5 yX5_lineUp yX5_lineUp, Cond.code yX5_lineUp cX5_lineUp 4 none, Cond.fieldLink RX5 15 "GuardedGrammar$Typing" "waiting" "[I", Cond.fieldLink RX5 38 "GuardedGrammar$Typing" "terms" "LGuardedGrammar$Terms;", Cond.methodLink RX5 53 yX4_left, Cond.instanceMethod yX4_left, Cond.selects RX4 yX4_left yX4_left, Cond.initialized RX4, Cond.code yX4_left cX4_left 2 (some .int), Cond.fieldLink RX4 18 "GuardedGrammar$Terms" "lefts" "[I", Cond.methodLink RX5 59 yX4_right, Cond.instanceMethod yX4_right]
def wsX7_needTyped_r2 : List Cond := [Cond.selects RX4 yX4_right yX4_right, Cond.code yX4_right cX4_right 2 (some .int), Cond.fieldLink RX4 21 "GuardedGrammar$Terms" "rights" "[I", Cond.methodLink RX5 46 yX5_bind, Cond.instanceMethod yX5_bind, Cond.selects RX5 yX5_bind yX5_bind, Cond.code yX5_bind cX5_bind 6 none, Cond.fieldLink RX5 18 "GuardedGrammar$Typing" "binders" "[I", Cond.fieldLink RX5 21 "GuardedGrammar$Typing" "guarded" "[Z", Cond.methodLink RX5 65 yX4_kind, Cond.instanceMethod yX4_kind, Cond.selects RX4 yX4_kind yX4_kind, Cond.code yX4_kind cX4_kind 2 (some .int), Cond.fieldLink RX4 9 "GuardedGrammar$Terms" "kinds" "[I", Cond.methodLink RX5 68 yX4_whole, Cond.instanceMethod yX4_whole, Cond.selects RX4 yX4_whole yX4_whole, Cond.code yX4_whole cX4_whole 2 (some .int), Cond.fieldLink RX4 24 "GuardedGrammar$Terms" "wholes" "[I", Cond.methodLink RX5 71 yX4_value, Cond.instanceMethod yX4_value, Cond.selects RX4 yX4_value yX4_value, Cond.code yX4_value cX4_value 2 (some .int), Cond.fieldLink RX4 15 "GuardedGrammar$Terms" "values" "[I"]
def wsX7_needTyped_r3 : List Cond := [Cond.methodLink RX5 50 yX5_inferTypes, Cond.instanceMethod yX5_inferTypes, Cond.selects RX5 yX5_inferTypes yX5_inferTypes, Cond.code yX5_inferTypes cX5_inferTypes 4 none, Cond.fieldLink RX5 25 "GuardedGrammar$Typing" "nullable" "[Z", Cond.fieldLink RX5 28 "GuardedGrammar$Typing" "firsts" "[I", Cond.fieldLink RX5 31 "GuardedGrammar$Typing" "afters" "[I", Cond.methodLink RX5 74 yX5_widen, Cond.instanceMethod yX5_widen, Cond.selects RX5 yX5_widen yX5_widen, Cond.code yX5_widen cX5_widen 3 (some .boolean), Cond.methodLink RX5 78 yX5_addToType, Cond.instanceMethod yX5_addToType, Cond.selects RX5 yX5_addToType yX5_addToType, Cond.code yX5_addToType cX5_addToType 6 (some .boolean), Cond.methodLink RX5 82 yX5_widenPair, Cond.instanceMethod yX5_widenPair, Cond.selects RX5 yX5_widenPair yX5_widenPair, Cond.code yX5_widenPair cX5_widenPair 6 (some .boolean), Cond.methodLink RX5 86 yX5_addTypeOf, Cond.instanceMethod yX5_addTypeOf, Cond.selects RX5 yX5_addTypeOf yX5_addTypeOf, Cond.code yX5_addTypeOf cX5_addTypeOf 3 (some .boolean), Cond.methodLink RX7 102 yX5_firstFault]
def wsX7_needTyped_r4 : List Cond := [Cond.instanceMethod yX5_firstFault, Cond.selects RX5 yX5_firstFault yX5_firstFault, Cond.code yX5_firstFault cX5_firstFault 3 (some .int), Cond.methodLink RX5 62 yX5_faultAt, Cond.instanceMethod yX5_faultAt, Cond.selects RX5 yX5_faultAt yX5_faultAt, Cond.code yX5_faultAt cX5_faultAt 2 (some .int), Cond.methodLink RX5 90 yX5_isLoose, Cond.instanceMethod yX5_isLoose, Cond.selects RX5 yX5_isLoose yX5_isLoose, Cond.code yX5_isLoose cX5_isLoose 3 (some .boolean), Cond.methodLink RX5 93 yX5_isDouble, Cond.instanceMethod yX5_isDouble, Cond.selects RX5 yX5_isDouble yX5_isDouble, Cond.code yX5_isDouble cX5_isDouble 3 (some .boolean)]
def wsX7_needTyped : List Cond := .code yX7_needTyped cX7_needTyped 2 none :: ((wsX7_needTyped_r1 ++ (wsX7_needTyped_r2 ++ (wsX7_needTyped_r3 ++ wsX7_needTyped_r4))) ++ wsX70 ++ wsX50 ++ wsX40 ++ (vx_at0 RX7 84 "java/lang/IllegalStateException" ["java/lang/RuntimeException", "java/lang/Exception"]).filter goodWord)
def wsX7_type_r1 : List Cond := [Cond.classLink RX7 105 "java/lang/IndexOutOfBoundsException", Cond.initialized "java/lang/IndexOutOfBoundsException", Cond.fieldLink RX7 21 "GuardedGrammar" "typing" "LGuardedGrammar$Typing;", Cond.methodLink RX7 75 yX7_needTerm, Cond.instanceMethod yX7_needTerm, Cond.selects RX7 yX7_needTerm yX7_needTerm, Cond.initialized RX7, Cond.code yX7_needTerm cX7_needTerm 2 none, Cond.fieldLink RX7 12 "GuardedGrammar" "terms" "LGuardedGrammar$Terms;", Cond.methodLink RX7 171 yX4_has, Cond.instanceMethod yX4_has, Cond.selects RX4 yX4_has yX4_has, Cond.initialized RX4, Cond.code yX4_has cX4_has 2 (some .boolean), Cond.fieldLink RX4 30 "GuardedGrammar$Terms" "size" "I", Cond.methodLink RX7 108 yX7_needTyped, Cond.instanceMethod yX7_needTyped, Cond.selects RX7 yX7_needTyped yX7_needTyped, Cond.code yX7_needTyped cX7_needTyped 2 none, Cond.classLink RX7 82 "java/lang/IllegalStateException", Cond.initialized "java/lang/IllegalStateException", Cond.methodLink RX7 99 yX5_study, Cond.instanceMethod yX5_study, Cond.selects RX5 yX5_study yX5_study]
def wsX7_type_r2 : List Cond := [Cond.initialized RX5, Cond.code yX5_study cX5_study 3 none, Cond.fieldLink RX5 34 "GuardedGrammar$Typing" "start" "I", Cond.fieldLink RX5 9 "GuardedGrammar$Typing" "order" "[I", Cond.methodLink RX5 42 yX5_lineUp, Cond.instanceMethod yX5_lineUp, Cond.selects RX5 yX5_lineUp yX5_lineUp, Cond.code yX5_lineUp cX5_lineUp 4 none, Cond.fieldLink RX5 15 "GuardedGrammar$Typing" "waiting" "[I", Cond.fieldLink RX5 38 "GuardedGrammar$Typing" "terms" "LGuardedGrammar$Terms;", Cond.methodLink RX5 53 yX4_left, Cond.instanceMethod yX4_left, Cond.selects RX4 yX4_left yX4_left, Cond.code yX4_left cX4_left 2 (some .int), Cond.fieldLink RX4 18 "GuardedGrammar$Terms" "lefts" "[I", Cond.methodLink RX5 59 yX4_right, Cond.instanceMethod yX4_right, Cond.selects RX4 yX4_right yX4_right, Cond.code yX4_right cX4_right 2 (some .int), Cond.fieldLink RX4 21 "GuardedGrammar$Terms" "rights" "[I", Cond.methodLink RX5 46 yX5_bind, Cond.instanceMethod yX5_bind, Cond.selects RX5 yX5_bind yX5_bind, Cond.code yX5_bind cX5_bind 6 none]
def wsX7_type_r3 : List Cond := [Cond.fieldLink RX5 18 "GuardedGrammar$Typing" "binders" "[I", Cond.fieldLink RX5 21 "GuardedGrammar$Typing" "guarded" "[Z", Cond.methodLink RX5 65 yX4_kind, Cond.instanceMethod yX4_kind, Cond.selects RX4 yX4_kind yX4_kind, Cond.code yX4_kind cX4_kind 2 (some .int), Cond.fieldLink RX4 9 "GuardedGrammar$Terms" "kinds" "[I", Cond.methodLink RX5 68 yX4_whole, Cond.instanceMethod yX4_whole, Cond.selects RX4 yX4_whole yX4_whole, Cond.code yX4_whole cX4_whole 2 (some .int), Cond.fieldLink RX4 24 "GuardedGrammar$Terms" "wholes" "[I", Cond.methodLink RX5 71 yX4_value, Cond.instanceMethod yX4_value, Cond.selects RX4 yX4_value yX4_value, Cond.code yX4_value cX4_value 2 (some .int), Cond.fieldLink RX4 15 "GuardedGrammar$Terms" "values" "[I", Cond.methodLink RX5 50 yX5_inferTypes, Cond.instanceMethod yX5_inferTypes, Cond.selects RX5 yX5_inferTypes yX5_inferTypes, Cond.code yX5_inferTypes cX5_inferTypes 4 none, Cond.fieldLink RX5 25 "GuardedGrammar$Typing" "nullable" "[Z", Cond.fieldLink RX5 28 "GuardedGrammar$Typing" "firsts" "[I", Cond.fieldLink RX5 31 "GuardedGrammar$Typing" "afters" "[I"]
def wsX7_type_r4 : List Cond := [Cond.methodLink RX5 74 yX5_widen, Cond.instanceMethod yX5_widen, Cond.selects RX5 yX5_widen yX5_widen, Cond.code yX5_widen cX5_widen 3 (some .boolean), Cond.methodLink RX5 78 yX5_addToType, Cond.instanceMethod yX5_addToType, Cond.selects RX5 yX5_addToType yX5_addToType, Cond.code yX5_addToType cX5_addToType 6 (some .boolean), Cond.methodLink RX5 82 yX5_widenPair, Cond.instanceMethod yX5_widenPair, Cond.selects RX5 yX5_widenPair yX5_widenPair, Cond.code yX5_widenPair cX5_widenPair 6 (some .boolean), Cond.methodLink RX5 86 yX5_addTypeOf, Cond.instanceMethod yX5_addTypeOf, Cond.selects RX5 yX5_addTypeOf yX5_addTypeOf, Cond.code yX5_addTypeOf cX5_addTypeOf 3 (some .boolean), Cond.methodLink RX7 102 yX5_firstFault, Cond.instanceMethod yX5_firstFault, Cond.selects RX5 yX5_firstFault yX5_firstFault, Cond.code yX5_firstFault cX5_firstFault 3 (some .int), Cond.methodLink RX5 62 yX5_faultAt, Cond.instanceMethod yX5_faultAt, Cond.selects RX5 yX5_faultAt yX5_faultAt, Cond.code yX5_faultAt cX5_faultAt 2 (some .int)]
def wsX7_type_r5 : List Cond := [Cond.methodLink RX5 90 yX5_isLoose, Cond.instanceMethod yX5_isLoose, Cond.selects RX5 yX5_isLoose yX5_isLoose, Cond.code yX5_isLoose cX5_isLoose 3 (some .boolean), Cond.methodLink RX5 93 yX5_isDouble, Cond.instanceMethod yX5_isDouble, Cond.selects RX5 yX5_isDouble yX5_isDouble, Cond.code yX5_isDouble cX5_isDouble 3 (some .boolean), Cond.methodLink RX7 111 yX5_isNullable, Cond.instanceMethod yX5_isNullable, Cond.selects RX5 yX5_isNullable yX5_isNullable, Cond.code yX5_isNullable cX5_isNullable 2 (some .boolean), Cond.methodLink RX7 114 yX5_firstOf, Cond.instanceMethod yX5_firstOf, Cond.selects RX5 yX5_firstOf yX5_firstOf, Cond.code yX5_firstOf cX5_firstOf 2 (some .int), Cond.methodLink RX7 117 yX5_afterOf, Cond.instanceMethod yX5_afterOf, Cond.selects RX5 yX5_afterOf yX5_afterOf, Cond.code yX5_afterOf cX5_afterOf 2 (some .int)]
def wsX7_type : List Cond := .code yX7_type cX7_type 3 (some .int) :: ((wsX7_type_r1 ++ (wsX7_type_r2 ++ (wsX7_type_r3 ++ (wsX7_type_r4 ++ wsX7_type_r5)))) ++ wsX70 ++ wsX40 ++ wsX50 ++ (vx_at0 RX7 107 "java/lang/IndexOutOfBoundsException" ["java/lang/RuntimeException", "java/lang/Exception"]).filter goodWord ++ (vx_at0 RX7 84 "java/lang/IllegalStateException" ["java/lang/RuntimeException", "java/lang/Exception"]).filter goodWord)
def wsX7_put : List Cond := .code yX7_put cX7_put 2 (some .boolean) :: ([.fieldLink RX7 28 "GuardedGrammar" "word" "LGuardedGrammar$Word;", .methodLink RX7 120 yX6_isFull, .instanceMethod yX6_isFull, .selects RX6 yX6_isFull yX6_isFull, .initialized RX6, .code yX6_isFull cX6_isFull 1 (some .boolean), .fieldLink RX6 15 "GuardedGrammar$Word" "size" "I", .methodLink RX7 124 yX6_add, .instanceMethod yX6_add, .selects RX6 yX6_add yX6_add, .code yX6_add cX6_add 2 none, .fieldLink RX6 9 "GuardedGrammar$Word" "letters" "[I"] ++ wsX70 ++ wsX60)
def wsX7_cut : List Cond := .code yX7_cut cX7_cut 2 (some .boolean) :: ([.fieldLink RX7 28 "GuardedGrammar" "word" "LGuardedGrammar$Word;", .methodLink RX7 126 yX6_size, .instanceMethod yX6_size, .selects RX6 yX6_size yX6_size, .initialized RX6, .code yX6_size cX6_size 1 (some .int), .fieldLink RX6 15 "GuardedGrammar$Word" "size" "I", .methodLink RX7 127 yX6_keep, .instanceMethod yX6_keep, .selects RX6 yX6_keep yX6_keep, .code yX6_keep cX6_keep 2 none] ++ wsX70 ++ wsX60)
def wsX7_length : List Cond := .code yX7_length cX7_length 1 (some .int) :: ([.fieldLink RX7 28 "GuardedGrammar" "word" "LGuardedGrammar$Word;", .methodLink RX7 126 yX6_size, .instanceMethod yX6_size, .selects RX6 yX6_size yX6_size, .initialized RX6, .code yX6_size cX6_size 1 (some .int), .fieldLink RX6 15 "GuardedGrammar$Word" "size" "I"] ++ wsX70 ++ wsX60)
def wsX7_letter : List Cond := .code yX7_letter cX7_letter 2 (some .int) :: ([.classLink RX7 105 "java/lang/IndexOutOfBoundsException", .initialized "java/lang/IndexOutOfBoundsException", .fieldLink RX7 28 "GuardedGrammar" "word" "LGuardedGrammar$Word;", .methodLink RX7 126 yX6_size, .instanceMethod yX6_size, .selects RX6 yX6_size yX6_size, .initialized RX6, .code yX6_size cX6_size 1 (some .int), .fieldLink RX6 15 "GuardedGrammar$Word" "size" "I", .methodLink RX7 130 yX6_at, .instanceMethod yX6_at, .selects RX6 yX6_at yX6_at, .code yX6_at cX6_at 2 (some .int), .fieldLink RX6 9 "GuardedGrammar$Word" "letters" "[I"] ++ wsX70 ++ wsX60 ++ (vx_at0 RX7 107 "java/lang/IndexOutOfBoundsException" ["java/lang/RuntimeException", "java/lang/Exception"]).filter goodWord)
def wsX7_read_r1 : List Cond := [Cond.classLink RX7 61 "java/lang/IllegalArgumentException", Cond.initialized "java/lang/IllegalArgumentException", Cond.fieldLink RX7 37 "GuardedGrammar" "reader" "LGuardedGrammar$Reader;", Cond.fieldLink RX7 28 "GuardedGrammar" "word" "LGuardedGrammar$Word;", Cond.fieldLink RX7 57 "GuardedGrammar" "stopped" "I", Cond.methodLink RX7 75 yX7_needTerm, Cond.instanceMethod yX7_needTerm, Cond.selects RX7 yX7_needTerm yX7_needTerm, Cond.initialized RX7, Cond.code yX7_needTerm cX7_needTerm 2 none, Cond.classLink RX7 105 "java/lang/IndexOutOfBoundsException", Cond.initialized "java/lang/IndexOutOfBoundsException", Cond.fieldLink RX7 12 "GuardedGrammar" "terms" "LGuardedGrammar$Terms;", Cond.methodLink RX7 171 yX4_has, Cond.instanceMethod yX4_has, Cond.selects RX4 yX4_has yX4_has, Cond.initialized RX4, Cond.code yX4_has cX4_has 2 (some .boolean), Cond.fieldLink RX4 30 "GuardedGrammar$Terms" "size" "I", Cond.methodLink RX7 108 yX7_needTyped, Cond.instanceMethod yX7_needTyped, Cond.selects RX7 yX7_needTyped yX7_needTyped, Cond.code yX7_needTyped cX7_needTyped 2 none, Cond.classLink RX7 82 "java/lang/IllegalStateException"]
def wsX7_read_r2 : List Cond := [Cond.initialized "java/lang/IllegalStateException", Cond.fieldLink RX7 21 "GuardedGrammar" "typing" "LGuardedGrammar$Typing;", Cond.methodLink RX7 99 yX5_study, Cond.instanceMethod yX5_study, Cond.selects RX5 yX5_study yX5_study, Cond.initialized RX5, Cond.code yX5_study cX5_study 3 none, Cond.fieldLink RX5 34 "GuardedGrammar$Typing" "start" "I", Cond.fieldLink RX5 9 "GuardedGrammar$Typing" "order" "[I", Cond.methodLink RX5 42 yX5_lineUp, Cond.instanceMethod yX5_lineUp, Cond.selects RX5 yX5_lineUp yX5_lineUp, Cond.code yX5_lineUp cX5_lineUp 4 none, Cond.fieldLink RX5 15 "GuardedGrammar$Typing" "waiting" "[I", Cond.fieldLink RX5 38 "GuardedGrammar$Typing" "terms" "LGuardedGrammar$Terms;", Cond.methodLink RX5 53 yX4_left, Cond.instanceMethod yX4_left, Cond.selects RX4 yX4_left yX4_left, Cond.code yX4_left cX4_left 2 (some .int), Cond.fieldLink RX4 18 "GuardedGrammar$Terms" "lefts" "[I", Cond.methodLink RX5 59 yX4_right, Cond.instanceMethod yX4_right, Cond.selects RX4 yX4_right yX4_right, Cond.code yX4_right cX4_right 2 (some .int)]
def wsX7_read_r3 : List Cond := [Cond.fieldLink RX4 21 "GuardedGrammar$Terms" "rights" "[I", Cond.methodLink RX5 46 yX5_bind, Cond.instanceMethod yX5_bind, Cond.selects RX5 yX5_bind yX5_bind, Cond.code yX5_bind cX5_bind 6 none, Cond.fieldLink RX5 18 "GuardedGrammar$Typing" "binders" "[I", Cond.fieldLink RX5 21 "GuardedGrammar$Typing" "guarded" "[Z", Cond.methodLink RX5 65 yX4_kind, Cond.instanceMethod yX4_kind, Cond.selects RX4 yX4_kind yX4_kind, Cond.code yX4_kind cX4_kind 2 (some .int), Cond.fieldLink RX4 9 "GuardedGrammar$Terms" "kinds" "[I", Cond.methodLink RX5 68 yX4_whole, Cond.instanceMethod yX4_whole, Cond.selects RX4 yX4_whole yX4_whole, Cond.code yX4_whole cX4_whole 2 (some .int), Cond.fieldLink RX4 24 "GuardedGrammar$Terms" "wholes" "[I", Cond.methodLink RX5 71 yX4_value, Cond.instanceMethod yX4_value, Cond.selects RX4 yX4_value yX4_value, Cond.code yX4_value cX4_value 2 (some .int), Cond.fieldLink RX4 15 "GuardedGrammar$Terms" "values" "[I", Cond.methodLink RX5 50 yX5_inferTypes, Cond.instanceMethod yX5_inferTypes]
def wsX7_read_r4 : List Cond := [Cond.selects RX5 yX5_inferTypes yX5_inferTypes, Cond.code yX5_inferTypes cX5_inferTypes 4 none, Cond.fieldLink RX5 25 "GuardedGrammar$Typing" "nullable" "[Z", Cond.fieldLink RX5 28 "GuardedGrammar$Typing" "firsts" "[I", Cond.fieldLink RX5 31 "GuardedGrammar$Typing" "afters" "[I", Cond.methodLink RX5 74 yX5_widen, Cond.instanceMethod yX5_widen, Cond.selects RX5 yX5_widen yX5_widen, Cond.code yX5_widen cX5_widen 3 (some .boolean), Cond.methodLink RX5 78 yX5_addToType, Cond.instanceMethod yX5_addToType, Cond.selects RX5 yX5_addToType yX5_addToType, Cond.code yX5_addToType cX5_addToType 6 (some .boolean), Cond.methodLink RX5 82 yX5_widenPair, Cond.instanceMethod yX5_widenPair, Cond.selects RX5 yX5_widenPair yX5_widenPair, Cond.code yX5_widenPair cX5_widenPair 6 (some .boolean), Cond.methodLink RX5 86 yX5_addTypeOf, Cond.instanceMethod yX5_addTypeOf, Cond.selects RX5 yX5_addTypeOf yX5_addTypeOf, Cond.code yX5_addTypeOf cX5_addTypeOf 3 (some .boolean), Cond.methodLink RX7 102 yX5_firstFault, Cond.instanceMethod yX5_firstFault, Cond.selects RX5 yX5_firstFault yX5_firstFault]
def wsX7_read_r5 : List Cond := [Cond.code yX5_firstFault cX5_firstFault 3 (some .int), Cond.methodLink RX5 62 yX5_faultAt, Cond.instanceMethod yX5_faultAt, Cond.selects RX5 yX5_faultAt yX5_faultAt, Cond.code yX5_faultAt cX5_faultAt 2 (some .int), Cond.methodLink RX5 90 yX5_isLoose, Cond.instanceMethod yX5_isLoose, Cond.selects RX5 yX5_isLoose yX5_isLoose, Cond.code yX5_isLoose cX5_isLoose 3 (some .boolean), Cond.methodLink RX5 93 yX5_isDouble, Cond.instanceMethod yX5_isDouble, Cond.selects RX5 yX5_isDouble yX5_isDouble, Cond.code yX5_isDouble cX5_isDouble 3 (some .boolean), Cond.methodLink RX7 133 yX0_reads, Cond.instanceMethod yX0_reads, Cond.selects RX0 yX0_reads yX0_reads, Cond.initialized RX0, Cond.code yX0_reads cX0_reads 3 (some .boolean), Cond.fieldLink RX0 28 "GuardedGrammar$Reader" "made" "LGuardedGrammar$Steps;", Cond.fieldLink RX0 19 "GuardedGrammar$Reader" "place" "I", Cond.fieldLink RX0 15 "GuardedGrammar$Reader" "open" "I", Cond.fieldLink RX0 22 "GuardedGrammar$Reader" "visits" "I", Cond.constant RX0 50 (1000000), Cond.fieldLink RX0 9 "GuardedGrammar$Reader" "waiting" "[I"]
def wsX7_read_r6 : List Cond := [Cond.methodLink RX0 43 yX2_forgetAll, Cond.instanceMethod yX2_forgetAll, Cond.selects RX2 yX2_forgetAll yX2_forgetAll, Cond.initialized RX2, Cond.code yX2_forgetAll cX2_forgetAll 1 none, Cond.fieldLink RX2 15 "GuardedGrammar$Steps" "size" "I", Cond.methodLink RX0 46 yX0_await, Cond.instanceMethod yX0_await, Cond.selects RX0 yX0_await yX0_await, Cond.code yX0_await cX0_await 2 none, Cond.methodLink RX0 51 yX0_visit, Cond.instanceMethod yX0_visit, Cond.selects RX0 yX0_visit yX0_visit, Cond.code yX0_visit cX0_visit 3 (some .boolean), Cond.fieldLink RX0 35 "GuardedGrammar$Reader" "terms" "LGuardedGrammar$Terms;", Cond.fieldLink RX0 39 "GuardedGrammar$Reader" "typing" "LGuardedGrammar$Typing;", Cond.methodLink RX0 61 yX4_kind, Cond.methodLink RX0 67 yX4_value, Cond.methodLink RX0 70 yX0_readLetter, Cond.instanceMethod yX0_readLetter, Cond.selects RX0 yX0_readLetter yX0_readLetter, Cond.code yX0_readLetter cX0_readLetter 3 (some .boolean), Cond.methodLink RX0 55 yX6_size, Cond.instanceMethod yX6_size]
def wsX7_read_r7 : List Cond := [Cond.selects RX6 yX6_size yX6_size, Cond.initialized RX6, Cond.code yX6_size cX6_size 1 (some .int), Cond.fieldLink RX6 15 "GuardedGrammar$Word" "size" "I", Cond.methodLink RX0 87 yX6_at, Cond.instanceMethod yX6_at, Cond.selects RX6 yX6_at yX6_at, Cond.code yX6_at cX6_at 2 (some .int), Cond.fieldLink RX6 9 "GuardedGrammar$Word" "letters" "[I", Cond.methodLink RX0 73 yX4_right, Cond.methodLink RX0 76 yX4_left, Cond.methodLink RX0 79 yX0_choose, Cond.instanceMethod yX0_choose, Cond.selects RX0 yX0_choose yX0_choose, Cond.code yX0_choose cX0_choose 5 (some .boolean), Cond.methodLink RX0 90 yX5_side, Cond.instanceMethod yX5_side, Cond.selects RX5 yX5_side yX5_side, Cond.code yX5_side cX5_side 5 (some .int), Cond.methodLink RX0 94 yX2_add, Cond.instanceMethod yX2_add, Cond.selects RX2 yX2_add yX2_add, Cond.code yX2_add cX2_add 5 none, Cond.fieldLink RX2 9 "GuardedGrammar$Steps" "bits" "[J"]
def wsX7_read_r8 : List Cond := [Cond.constantLong RX2 19 (-1), Cond.methodLink RX0 82 yX5_binder, Cond.instanceMethod yX5_binder, Cond.selects RX5 yX5_binder yX5_binder, Cond.code yX5_binder cX5_binder 2 (some .int), Cond.methodLink RX7 137 yX0_place, Cond.instanceMethod yX0_place, Cond.selects RX0 yX0_place yX0_place, Cond.code yX0_place cX0_place 1 (some .int), Cond.methodLink RX7 140 yX0_keepSteps, Cond.instanceMethod yX0_keepSteps, Cond.selects RX0 yX0_keepSteps yX0_keepSteps, Cond.code yX0_keepSteps cX0_keepSteps 2 none, Cond.fieldLink RX0 32 "GuardedGrammar$Reader" "kept" "LGuardedGrammar$Steps;", Cond.methodLink RX7 143 yX0_visits, Cond.instanceMethod yX0_visits, Cond.selects RX0 yX0_visits yX0_visits, Cond.code yX0_visits cX0_visits 1 (some .int)]
def wsX7_read : List Cond := .code yX7_read cX7_read 2 (some .int) :: ((wsX7_read_r1 ++ (wsX7_read_r2 ++ (wsX7_read_r3 ++ (wsX7_read_r4 ++ (wsX7_read_r5 ++ (wsX7_read_r6 ++ (wsX7_read_r7 ++ wsX7_read_r8))))))) ++ wsX70 ++ wsX40 ++ wsX50 ++ wsX00 ++ wsX20 ++ wsX60 ++ (vx_at0 RX7 63 "java/lang/IllegalArgumentException" ["java/lang/RuntimeException", "java/lang/Exception"]).filter goodWord ++ (vx_at0 RX7 107 "java/lang/IndexOutOfBoundsException" ["java/lang/RuntimeException", "java/lang/Exception"]).filter goodWord ++ (vx_at0 RX7 84 "java/lang/IllegalStateException" ["java/lang/RuntimeException", "java/lang/Exception"]).filter goodWord)
def wsX7_stopped : List Cond := .code yX7_stopped cX7_stopped 1 (some .int) :: ([.fieldLink RX7 57 "GuardedGrammar" "stopped" "I"] ++ wsX70)
def wsX7_trace : List Cond := .code yX7_trace cX7_trace 1 (some .int) :: ([.fieldLink RX7 37 "GuardedGrammar" "reader" "LGuardedGrammar$Reader;", .methodLink RX7 146 yX0_kept, .instanceMethod yX0_kept, .selects RX0 yX0_kept yX0_kept, .initialized RX0, .code yX0_kept cX0_kept 1 (some (.object "GuardedGrammar$Steps")), .fieldLink RX0 32 "GuardedGrammar$Reader" "kept" "LGuardedGrammar$Steps;", .methodLink RX7 150 yX2_size, .instanceMethod yX2_size, .selects RX2 yX2_size yX2_size, .initialized RX2, .code yX2_size cX2_size 1 (some .int), .fieldLink RX2 15 "GuardedGrammar$Steps" "size" "I"] ++ wsX70 ++ wsX00 ++ wsX20)
def wsX7_step : List Cond := .code yX7_step cX7_step 2 (some .int) :: ([.classLink RX7 105 "java/lang/IndexOutOfBoundsException", .initialized "java/lang/IndexOutOfBoundsException", .fieldLink RX7 37 "GuardedGrammar" "reader" "LGuardedGrammar$Reader;", .methodLink RX7 146 yX0_kept, .instanceMethod yX0_kept, .selects RX0 yX0_kept yX0_kept, .initialized RX0, .code yX0_kept cX0_kept 1 (some (.object "GuardedGrammar$Steps")), .fieldLink RX0 32 "GuardedGrammar$Reader" "kept" "LGuardedGrammar$Steps;", .methodLink RX7 150 yX2_size, .instanceMethod yX2_size, .selects RX2 yX2_size yX2_size, .initialized RX2, .code yX2_size cX2_size 1 (some .int), .fieldLink RX2 15 "GuardedGrammar$Steps" "size" "I", .methodLink RX7 153 yX2_at, .instanceMethod yX2_at, .selects RX2 yX2_at yX2_at, .code yX2_at cX2_at 2 (some .int), .fieldLink RX2 9 "GuardedGrammar$Steps" "bits" "[J"] ++ wsX70 ++ wsX00 ++ wsX20 ++ (vx_at0 RX7 107 "java/lang/IndexOutOfBoundsException" ["java/lang/RuntimeException", "java/lang/Exception"]).filter goodWord)
def wsX7_countTo_r1 : List Cond := [Cond.classLink RX7 61 "java/lang/IllegalArgumentException", Cond.initialized "java/lang/IllegalArgumentException", Cond.fieldLink RX7 44 "GuardedGrammar" "tally" "LGuardedGrammar$Tally;", Cond.methodLink RX7 75 yX7_needTerm, Cond.instanceMethod yX7_needTerm, Cond.selects RX7 yX7_needTerm yX7_needTerm, Cond.initialized RX7, Cond.code yX7_needTerm cX7_needTerm 2 none, Cond.classLink RX7 105 "java/lang/IndexOutOfBoundsException", Cond.initialized "java/lang/IndexOutOfBoundsException", Cond.fieldLink RX7 12 "GuardedGrammar" "terms" "LGuardedGrammar$Terms;", Cond.methodLink RX7 171 yX4_has, Cond.instanceMethod yX4_has, Cond.selects RX4 yX4_has yX4_has, Cond.initialized RX4, Cond.code yX4_has cX4_has 2 (some .boolean), Cond.fieldLink RX4 30 "GuardedGrammar$Terms" "size" "I", Cond.methodLink RX7 108 yX7_needTyped, Cond.instanceMethod yX7_needTyped, Cond.selects RX7 yX7_needTyped yX7_needTyped, Cond.code yX7_needTyped cX7_needTyped 2 none, Cond.classLink RX7 82 "java/lang/IllegalStateException", Cond.initialized "java/lang/IllegalStateException", Cond.fieldLink RX7 21 "GuardedGrammar" "typing" "LGuardedGrammar$Typing;"]
def wsX7_countTo_r2 : List Cond := [Cond.methodLink RX7 99 yX5_study, Cond.instanceMethod yX5_study, Cond.selects RX5 yX5_study yX5_study, Cond.initialized RX5, Cond.code yX5_study cX5_study 3 none, Cond.fieldLink RX5 34 "GuardedGrammar$Typing" "start" "I", Cond.fieldLink RX5 9 "GuardedGrammar$Typing" "order" "[I", Cond.methodLink RX5 42 yX5_lineUp, Cond.instanceMethod yX5_lineUp, Cond.selects RX5 yX5_lineUp yX5_lineUp, Cond.code yX5_lineUp cX5_lineUp 4 none, Cond.fieldLink RX5 15 "GuardedGrammar$Typing" "waiting" "[I", Cond.fieldLink RX5 38 "GuardedGrammar$Typing" "terms" "LGuardedGrammar$Terms;", Cond.methodLink RX5 53 yX4_left, Cond.instanceMethod yX4_left, Cond.selects RX4 yX4_left yX4_left, Cond.code yX4_left cX4_left 2 (some .int), Cond.fieldLink RX4 18 "GuardedGrammar$Terms" "lefts" "[I", Cond.methodLink RX5 59 yX4_right, Cond.instanceMethod yX4_right, Cond.selects RX4 yX4_right yX4_right, Cond.code yX4_right cX4_right 2 (some .int), Cond.fieldLink RX4 21 "GuardedGrammar$Terms" "rights" "[I", Cond.methodLink RX5 46 yX5_bind]
def wsX7_countTo_r3 : List Cond := [Cond.instanceMethod yX5_bind, Cond.selects RX5 yX5_bind yX5_bind, Cond.code yX5_bind cX5_bind 6 none, Cond.fieldLink RX5 18 "GuardedGrammar$Typing" "binders" "[I", Cond.fieldLink RX5 21 "GuardedGrammar$Typing" "guarded" "[Z", Cond.methodLink RX5 65 yX4_kind, Cond.instanceMethod yX4_kind, Cond.selects RX4 yX4_kind yX4_kind, Cond.code yX4_kind cX4_kind 2 (some .int), Cond.fieldLink RX4 9 "GuardedGrammar$Terms" "kinds" "[I", Cond.methodLink RX5 68 yX4_whole, Cond.instanceMethod yX4_whole, Cond.selects RX4 yX4_whole yX4_whole, Cond.code yX4_whole cX4_whole 2 (some .int), Cond.fieldLink RX4 24 "GuardedGrammar$Terms" "wholes" "[I", Cond.methodLink RX5 71 yX4_value, Cond.instanceMethod yX4_value, Cond.selects RX4 yX4_value yX4_value, Cond.code yX4_value cX4_value 2 (some .int), Cond.fieldLink RX4 15 "GuardedGrammar$Terms" "values" "[I", Cond.methodLink RX5 50 yX5_inferTypes, Cond.instanceMethod yX5_inferTypes, Cond.selects RX5 yX5_inferTypes yX5_inferTypes, Cond.code yX5_inferTypes cX5_inferTypes 4 none]
def wsX7_countTo_r4 : List Cond := [Cond.fieldLink RX5 25 "GuardedGrammar$Typing" "nullable" "[Z", Cond.fieldLink RX5 28 "GuardedGrammar$Typing" "firsts" "[I", Cond.fieldLink RX5 31 "GuardedGrammar$Typing" "afters" "[I", Cond.methodLink RX5 74 yX5_widen, Cond.instanceMethod yX5_widen, Cond.selects RX5 yX5_widen yX5_widen, Cond.code yX5_widen cX5_widen 3 (some .boolean), Cond.methodLink RX5 78 yX5_addToType, Cond.instanceMethod yX5_addToType, Cond.selects RX5 yX5_addToType yX5_addToType, Cond.code yX5_addToType cX5_addToType 6 (some .boolean), Cond.methodLink RX5 82 yX5_widenPair, Cond.instanceMethod yX5_widenPair, Cond.selects RX5 yX5_widenPair yX5_widenPair, Cond.code yX5_widenPair cX5_widenPair 6 (some .boolean), Cond.methodLink RX5 86 yX5_addTypeOf, Cond.instanceMethod yX5_addTypeOf, Cond.selects RX5 yX5_addTypeOf yX5_addTypeOf, Cond.code yX5_addTypeOf cX5_addTypeOf 3 (some .boolean), Cond.methodLink RX7 102 yX5_firstFault, Cond.instanceMethod yX5_firstFault, Cond.selects RX5 yX5_firstFault yX5_firstFault, Cond.code yX5_firstFault cX5_firstFault 3 (some .int), Cond.methodLink RX5 62 yX5_faultAt]
def wsX7_countTo_r5 : List Cond := [Cond.instanceMethod yX5_faultAt, Cond.selects RX5 yX5_faultAt yX5_faultAt, Cond.code yX5_faultAt cX5_faultAt 2 (some .int), Cond.methodLink RX5 90 yX5_isLoose, Cond.instanceMethod yX5_isLoose, Cond.selects RX5 yX5_isLoose yX5_isLoose, Cond.code yX5_isLoose cX5_isLoose 3 (some .boolean), Cond.methodLink RX5 93 yX5_isDouble, Cond.instanceMethod yX5_isDouble, Cond.selects RX5 yX5_isDouble yX5_isDouble, Cond.code yX5_isDouble cX5_isDouble 3 (some .boolean), Cond.methodLink RX7 169 yX3_countTo, Cond.instanceMethod yX3_countTo, Cond.selects RX3 yX3_countTo yX3_countTo, Cond.initialized RX3, Cond.code yX3_countTo cX3_countTo 3 none, Cond.methodLink RX3 24 yX3_countLength, Cond.instanceMethod yX3_countLength, Cond.selects RX3 yX3_countLength yX3_countLength, Cond.code yX3_countLength cX3_countLength 8 none, Cond.fieldLink RX3 20 "GuardedGrammar$Tally" "typing" "LGuardedGrammar$Typing;", Cond.fieldLink RX3 11 "GuardedGrammar$Tally" "words" "[[J", Cond.methodLink RX3 28 yX5_size, Cond.instanceMethod yX5_size]
def wsX7_countTo_r6 : List Cond := [Cond.selects RX5 yX5_size yX5_size, Cond.code yX5_size cX5_size 1 (some .int), Cond.methodLink RX3 34 yX5_inOrder, Cond.instanceMethod yX5_inOrder, Cond.selects RX5 yX5_inOrder yX5_inOrder, Cond.code yX5_inOrder cX5_inOrder 2 (some .int), Cond.methodLink RX3 38 yX3_wordsByParts, Cond.instanceMethod yX3_wordsByParts, Cond.selects RX3 yX3_wordsByParts yX3_wordsByParts, Cond.code yX3_wordsByParts cX3_wordsByParts 3 (some .long), Cond.fieldLink RX3 16 "GuardedGrammar$Tally" "terms" "LGuardedGrammar$Terms;", Cond.methodLink RX3 42 yX4_kind, Cond.methodLink RX3 47 yX4_left, Cond.methodLink RX3 50 yX4_right, Cond.methodLink RX3 53 yX3_wordsOfPair, Cond.instanceMethod yX3_wordsOfPair, Cond.selects RX3 yX3_wordsOfPair yX3_wordsOfPair, Cond.code yX3_wordsOfPair cX3_wordsOfPair 7 (some .long), Cond.methodLink RX3 57 yX5_binder, Cond.instanceMethod yX5_binder, Cond.selects RX5 yX5_binder yX5_binder, Cond.code yX5_binder cX5_binder 2 (some .int)]
def wsX7_countTo : List Cond := .code yX7_countTo cX7_countTo 3 none :: ((wsX7_countTo_r1 ++ (wsX7_countTo_r2 ++ (wsX7_countTo_r3 ++ (wsX7_countTo_r4 ++ (wsX7_countTo_r5 ++ wsX7_countTo_r6))))) ++ wsX70 ++ wsX40 ++ wsX50 ++ wsX30 ++ (vx_at0 RX7 63 "java/lang/IllegalArgumentException" ["java/lang/RuntimeException", "java/lang/Exception"]).filter goodWord ++ (vx_at0 RX7 107 "java/lang/IndexOutOfBoundsException" ["java/lang/RuntimeException", "java/lang/Exception"]).filter goodWord ++ (vx_at0 RX7 84 "java/lang/IllegalStateException" ["java/lang/RuntimeException", "java/lang/Exception"]).filter goodWord)
def wsX7_count_r1 : List Cond := [Cond.fieldLink RX7 44 "GuardedGrammar" "tally" "LGuardedGrammar$Tally;", Cond.methodLink RX7 154 yX7_countTo, Cond.instanceMethod yX7_countTo, Cond.selects RX7 yX7_countTo yX7_countTo, Cond.initialized RX7, Cond.code yX7_countTo cX7_countTo 3 none, Cond.classLink RX7 61 "java/lang/IllegalArgumentException", Cond.initialized "java/lang/IllegalArgumentException", Cond.methodLink RX7 75 yX7_needTerm, Cond.instanceMethod yX7_needTerm, Cond.selects RX7 yX7_needTerm yX7_needTerm, Cond.code yX7_needTerm cX7_needTerm 2 none, Cond.classLink RX7 105 "java/lang/IndexOutOfBoundsException", Cond.initialized "java/lang/IndexOutOfBoundsException", Cond.fieldLink RX7 12 "GuardedGrammar" "terms" "LGuardedGrammar$Terms;", Cond.methodLink RX7 171 yX4_has, Cond.instanceMethod yX4_has, Cond.selects RX4 yX4_has yX4_has, Cond.initialized RX4, Cond.code yX4_has cX4_has 2 (some .boolean), Cond.fieldLink RX4 30 "GuardedGrammar$Terms" "size" "I", Cond.methodLink RX7 108 yX7_needTyped, Cond.instanceMethod yX7_needTyped, Cond.selects RX7 yX7_needTyped yX7_needTyped]
def wsX7_count_r2 : List Cond := [Cond.code yX7_needTyped cX7_needTyped 2 none, Cond.classLink RX7 82 "java/lang/IllegalStateException", Cond.initialized "java/lang/IllegalStateException", Cond.fieldLink RX7 21 "GuardedGrammar" "typing" "LGuardedGrammar$Typing;", Cond.methodLink RX7 99 yX5_study, Cond.instanceMethod yX5_study, Cond.selects RX5 yX5_study yX5_study, Cond.initialized RX5, Cond.code yX5_study cX5_study 3 none, Cond.fieldLink RX5 34 "GuardedGrammar$Typing" "start" "I", Cond.fieldLink RX5 9 "GuardedGrammar$Typing" "order" "[I", Cond.methodLink RX5 42 yX5_lineUp, Cond.instanceMethod yX5_lineUp, Cond.selects RX5 yX5_lineUp yX5_lineUp, Cond.code yX5_lineUp cX5_lineUp 4 none, Cond.fieldLink RX5 15 "GuardedGrammar$Typing" "waiting" "[I", Cond.fieldLink RX5 38 "GuardedGrammar$Typing" "terms" "LGuardedGrammar$Terms;", Cond.methodLink RX5 53 yX4_left, Cond.instanceMethod yX4_left, Cond.selects RX4 yX4_left yX4_left, Cond.code yX4_left cX4_left 2 (some .int), Cond.fieldLink RX4 18 "GuardedGrammar$Terms" "lefts" "[I", Cond.methodLink RX5 59 yX4_right, Cond.instanceMethod yX4_right]
def wsX7_count_r3 : List Cond := [Cond.selects RX4 yX4_right yX4_right, Cond.code yX4_right cX4_right 2 (some .int), Cond.fieldLink RX4 21 "GuardedGrammar$Terms" "rights" "[I", Cond.methodLink RX5 46 yX5_bind, Cond.instanceMethod yX5_bind, Cond.selects RX5 yX5_bind yX5_bind, Cond.code yX5_bind cX5_bind 6 none, Cond.fieldLink RX5 18 "GuardedGrammar$Typing" "binders" "[I", Cond.fieldLink RX5 21 "GuardedGrammar$Typing" "guarded" "[Z", Cond.methodLink RX5 65 yX4_kind, Cond.instanceMethod yX4_kind, Cond.selects RX4 yX4_kind yX4_kind, Cond.code yX4_kind cX4_kind 2 (some .int), Cond.fieldLink RX4 9 "GuardedGrammar$Terms" "kinds" "[I", Cond.methodLink RX5 68 yX4_whole, Cond.instanceMethod yX4_whole, Cond.selects RX4 yX4_whole yX4_whole, Cond.code yX4_whole cX4_whole 2 (some .int), Cond.fieldLink RX4 24 "GuardedGrammar$Terms" "wholes" "[I", Cond.methodLink RX5 71 yX4_value, Cond.instanceMethod yX4_value, Cond.selects RX4 yX4_value yX4_value, Cond.code yX4_value cX4_value 2 (some .int), Cond.fieldLink RX4 15 "GuardedGrammar$Terms" "values" "[I"]
def wsX7_count_r4 : List Cond := [Cond.methodLink RX5 50 yX5_inferTypes, Cond.instanceMethod yX5_inferTypes, Cond.selects RX5 yX5_inferTypes yX5_inferTypes, Cond.code yX5_inferTypes cX5_inferTypes 4 none, Cond.fieldLink RX5 25 "GuardedGrammar$Typing" "nullable" "[Z", Cond.fieldLink RX5 28 "GuardedGrammar$Typing" "firsts" "[I", Cond.fieldLink RX5 31 "GuardedGrammar$Typing" "afters" "[I", Cond.methodLink RX5 74 yX5_widen, Cond.instanceMethod yX5_widen, Cond.selects RX5 yX5_widen yX5_widen, Cond.code yX5_widen cX5_widen 3 (some .boolean), Cond.methodLink RX5 78 yX5_addToType, Cond.instanceMethod yX5_addToType, Cond.selects RX5 yX5_addToType yX5_addToType, Cond.code yX5_addToType cX5_addToType 6 (some .boolean), Cond.methodLink RX5 82 yX5_widenPair, Cond.instanceMethod yX5_widenPair, Cond.selects RX5 yX5_widenPair yX5_widenPair, Cond.code yX5_widenPair cX5_widenPair 6 (some .boolean), Cond.methodLink RX5 86 yX5_addTypeOf, Cond.instanceMethod yX5_addTypeOf, Cond.selects RX5 yX5_addTypeOf yX5_addTypeOf, Cond.code yX5_addTypeOf cX5_addTypeOf 3 (some .boolean), Cond.methodLink RX7 102 yX5_firstFault]
def wsX7_count_r5 : List Cond := [Cond.instanceMethod yX5_firstFault, Cond.selects RX5 yX5_firstFault yX5_firstFault, Cond.code yX5_firstFault cX5_firstFault 3 (some .int), Cond.methodLink RX5 62 yX5_faultAt, Cond.instanceMethod yX5_faultAt, Cond.selects RX5 yX5_faultAt yX5_faultAt, Cond.code yX5_faultAt cX5_faultAt 2 (some .int), Cond.methodLink RX5 90 yX5_isLoose, Cond.instanceMethod yX5_isLoose, Cond.selects RX5 yX5_isLoose yX5_isLoose, Cond.code yX5_isLoose cX5_isLoose 3 (some .boolean), Cond.methodLink RX5 93 yX5_isDouble, Cond.instanceMethod yX5_isDouble, Cond.selects RX5 yX5_isDouble yX5_isDouble, Cond.code yX5_isDouble cX5_isDouble 3 (some .boolean), Cond.methodLink RX7 169 yX3_countTo, Cond.instanceMethod yX3_countTo, Cond.selects RX3 yX3_countTo yX3_countTo, Cond.initialized RX3, Cond.code yX3_countTo cX3_countTo 3 none, Cond.methodLink RX3 24 yX3_countLength, Cond.instanceMethod yX3_countLength, Cond.selects RX3 yX3_countLength yX3_countLength, Cond.code yX3_countLength cX3_countLength 8 none]
def wsX7_count_r6 : List Cond := [Cond.fieldLink RX3 20 "GuardedGrammar$Tally" "typing" "LGuardedGrammar$Typing;", Cond.fieldLink RX3 11 "GuardedGrammar$Tally" "words" "[[J", Cond.methodLink RX3 28 yX5_size, Cond.instanceMethod yX5_size, Cond.selects RX5 yX5_size yX5_size, Cond.code yX5_size cX5_size 1 (some .int), Cond.methodLink RX3 34 yX5_inOrder, Cond.instanceMethod yX5_inOrder, Cond.selects RX5 yX5_inOrder yX5_inOrder, Cond.code yX5_inOrder cX5_inOrder 2 (some .int), Cond.methodLink RX3 38 yX3_wordsByParts, Cond.instanceMethod yX3_wordsByParts, Cond.selects RX3 yX3_wordsByParts yX3_wordsByParts, Cond.code yX3_wordsByParts cX3_wordsByParts 3 (some .long), Cond.fieldLink RX3 16 "GuardedGrammar$Tally" "terms" "LGuardedGrammar$Terms;", Cond.methodLink RX3 42 yX4_kind, Cond.methodLink RX3 47 yX4_left, Cond.methodLink RX3 50 yX4_right, Cond.methodLink RX3 53 yX3_wordsOfPair, Cond.instanceMethod yX3_wordsOfPair, Cond.selects RX3 yX3_wordsOfPair yX3_wordsOfPair, Cond.code yX3_wordsOfPair cX3_wordsOfPair 7 (some .long), Cond.methodLink RX3 57 yX5_binder, Cond.instanceMethod yX5_binder]
def wsX7_count_r7 : List Cond := [Cond.selects RX5 yX5_binder yX5_binder, Cond.code yX5_binder cX5_binder 2 (some .int), Cond.methodLink RX7 158 yX3_words, Cond.instanceMethod yX3_words, Cond.selects RX3 yX3_words yX3_words, Cond.code yX3_words cX3_words 3 (some .long)]
def wsX7_count : List Cond := .code yX7_count cX7_count 3 (some .long) :: ((wsX7_count_r1 ++ (wsX7_count_r2 ++ (wsX7_count_r3 ++ (wsX7_count_r4 ++ (wsX7_count_r5 ++ (wsX7_count_r6 ++ wsX7_count_r7)))))) ++ wsX70 ++ wsX40 ++ wsX50 ++ wsX30 ++ (vx_at0 RX7 63 "java/lang/IllegalArgumentException" ["java/lang/RuntimeException", "java/lang/Exception"]).filter goodWord ++ (vx_at0 RX7 107 "java/lang/IndexOutOfBoundsException" ["java/lang/RuntimeException", "java/lang/Exception"]).filter goodWord ++ (vx_at0 RX7 84 "java/lang/IllegalStateException" ["java/lang/RuntimeException", "java/lang/Exception"]).filter goodWord)
def wsX7_find_r1 : List Cond := [Cond.classLink RX7 162 "java/util/NoSuchElementException", Cond.initialized "java/util/NoSuchElementException", Cond.fieldLink RX7 44 "GuardedGrammar" "tally" "LGuardedGrammar$Tally;", Cond.fieldLink RX7 53 "GuardedGrammar" "speller" "LGuardedGrammar$Speller;", Cond.fieldLink RX7 28 "GuardedGrammar" "word" "LGuardedGrammar$Word;", Cond.methodLink RX7 154 yX7_countTo, Cond.instanceMethod yX7_countTo, Cond.selects RX7 yX7_countTo yX7_countTo, Cond.initialized RX7, Cond.code yX7_countTo cX7_countTo 3 none, Cond.classLink RX7 61 "java/lang/IllegalArgumentException", Cond.initialized "java/lang/IllegalArgumentException", Cond.methodLink RX7 75 yX7_needTerm, Cond.instanceMethod yX7_needTerm, Cond.selects RX7 yX7_needTerm yX7_needTerm, Cond.code yX7_needTerm cX7_needTerm 2 none, Cond.classLink RX7 105 "java/lang/IndexOutOfBoundsException", Cond.initialized "java/lang/IndexOutOfBoundsException", Cond.fieldLink RX7 12 "GuardedGrammar" "terms" "LGuardedGrammar$Terms;", Cond.methodLink RX7 171 yX4_has, Cond.instanceMethod yX4_has, Cond.selects RX4 yX4_has yX4_has, Cond.initialized RX4, Cond.code yX4_has cX4_has 2 (some .boolean)]
def wsX7_find_r2 : List Cond := [Cond.fieldLink RX4 30 "GuardedGrammar$Terms" "size" "I", Cond.methodLink RX7 108 yX7_needTyped, Cond.instanceMethod yX7_needTyped, Cond.selects RX7 yX7_needTyped yX7_needTyped, Cond.code yX7_needTyped cX7_needTyped 2 none, Cond.classLink RX7 82 "java/lang/IllegalStateException", Cond.initialized "java/lang/IllegalStateException", Cond.fieldLink RX7 21 "GuardedGrammar" "typing" "LGuardedGrammar$Typing;", Cond.methodLink RX7 99 yX5_study, Cond.instanceMethod yX5_study, Cond.selects RX5 yX5_study yX5_study, Cond.initialized RX5, Cond.code yX5_study cX5_study 3 none, Cond.fieldLink RX5 34 "GuardedGrammar$Typing" "start" "I", Cond.fieldLink RX5 9 "GuardedGrammar$Typing" "order" "[I", Cond.methodLink RX5 42 yX5_lineUp, Cond.instanceMethod yX5_lineUp, Cond.selects RX5 yX5_lineUp yX5_lineUp, Cond.code yX5_lineUp cX5_lineUp 4 none, Cond.fieldLink RX5 15 "GuardedGrammar$Typing" "waiting" "[I", Cond.fieldLink RX5 38 "GuardedGrammar$Typing" "terms" "LGuardedGrammar$Terms;", Cond.methodLink RX5 53 yX4_left, Cond.instanceMethod yX4_left, Cond.selects RX4 yX4_left yX4_left]
def wsX7_find_r3 : List Cond := [Cond.code yX4_left cX4_left 2 (some .int), Cond.fieldLink RX4 18 "GuardedGrammar$Terms" "lefts" "[I", Cond.methodLink RX5 59 yX4_right, Cond.instanceMethod yX4_right, Cond.selects RX4 yX4_right yX4_right, Cond.code yX4_right cX4_right 2 (some .int), Cond.fieldLink RX4 21 "GuardedGrammar$Terms" "rights" "[I", Cond.methodLink RX5 46 yX5_bind, Cond.instanceMethod yX5_bind, Cond.selects RX5 yX5_bind yX5_bind, Cond.code yX5_bind cX5_bind 6 none, Cond.fieldLink RX5 18 "GuardedGrammar$Typing" "binders" "[I", Cond.fieldLink RX5 21 "GuardedGrammar$Typing" "guarded" "[Z", Cond.methodLink RX5 65 yX4_kind, Cond.instanceMethod yX4_kind, Cond.selects RX4 yX4_kind yX4_kind, Cond.code yX4_kind cX4_kind 2 (some .int), Cond.fieldLink RX4 9 "GuardedGrammar$Terms" "kinds" "[I", Cond.methodLink RX5 68 yX4_whole, Cond.instanceMethod yX4_whole, Cond.selects RX4 yX4_whole yX4_whole, Cond.code yX4_whole cX4_whole 2 (some .int), Cond.fieldLink RX4 24 "GuardedGrammar$Terms" "wholes" "[I", Cond.methodLink RX5 71 yX4_value]
def wsX7_find_r4 : List Cond := [Cond.instanceMethod yX4_value, Cond.selects RX4 yX4_value yX4_value, Cond.code yX4_value cX4_value 2 (some .int), Cond.fieldLink RX4 15 "GuardedGrammar$Terms" "values" "[I", Cond.methodLink RX5 50 yX5_inferTypes, Cond.instanceMethod yX5_inferTypes, Cond.selects RX5 yX5_inferTypes yX5_inferTypes, Cond.code yX5_inferTypes cX5_inferTypes 4 none, Cond.fieldLink RX5 25 "GuardedGrammar$Typing" "nullable" "[Z", Cond.fieldLink RX5 28 "GuardedGrammar$Typing" "firsts" "[I", Cond.fieldLink RX5 31 "GuardedGrammar$Typing" "afters" "[I", Cond.methodLink RX5 74 yX5_widen, Cond.instanceMethod yX5_widen, Cond.selects RX5 yX5_widen yX5_widen, Cond.code yX5_widen cX5_widen 3 (some .boolean), Cond.methodLink RX5 78 yX5_addToType, Cond.instanceMethod yX5_addToType, Cond.selects RX5 yX5_addToType yX5_addToType, Cond.code yX5_addToType cX5_addToType 6 (some .boolean), Cond.methodLink RX5 82 yX5_widenPair, Cond.instanceMethod yX5_widenPair, Cond.selects RX5 yX5_widenPair yX5_widenPair, Cond.code yX5_widenPair cX5_widenPair 6 (some .boolean), Cond.methodLink RX5 86 yX5_addTypeOf]
def wsX7_find_r5 : List Cond := [Cond.instanceMethod yX5_addTypeOf, Cond.selects RX5 yX5_addTypeOf yX5_addTypeOf, Cond.code yX5_addTypeOf cX5_addTypeOf 3 (some .boolean), Cond.methodLink RX7 102 yX5_firstFault, Cond.instanceMethod yX5_firstFault, Cond.selects RX5 yX5_firstFault yX5_firstFault, Cond.code yX5_firstFault cX5_firstFault 3 (some .int), Cond.methodLink RX5 62 yX5_faultAt, Cond.instanceMethod yX5_faultAt, Cond.selects RX5 yX5_faultAt yX5_faultAt, Cond.code yX5_faultAt cX5_faultAt 2 (some .int), Cond.methodLink RX5 90 yX5_isLoose, Cond.instanceMethod yX5_isLoose, Cond.selects RX5 yX5_isLoose yX5_isLoose, Cond.code yX5_isLoose cX5_isLoose 3 (some .boolean), Cond.methodLink RX5 93 yX5_isDouble, Cond.instanceMethod yX5_isDouble, Cond.selects RX5 yX5_isDouble yX5_isDouble, Cond.code yX5_isDouble cX5_isDouble 3 (some .boolean), Cond.methodLink RX7 169 yX3_countTo, Cond.instanceMethod yX3_countTo, Cond.selects RX3 yX3_countTo yX3_countTo, Cond.initialized RX3, Cond.code yX3_countTo cX3_countTo 3 none]
def wsX7_find_r6 : List Cond := [Cond.methodLink RX3 24 yX3_countLength, Cond.instanceMethod yX3_countLength, Cond.selects RX3 yX3_countLength yX3_countLength, Cond.code yX3_countLength cX3_countLength 8 none, Cond.fieldLink RX3 20 "GuardedGrammar$Tally" "typing" "LGuardedGrammar$Typing;", Cond.fieldLink RX3 11 "GuardedGrammar$Tally" "words" "[[J", Cond.methodLink RX3 28 yX5_size, Cond.instanceMethod yX5_size, Cond.selects RX5 yX5_size yX5_size, Cond.code yX5_size cX5_size 1 (some .int), Cond.methodLink RX3 34 yX5_inOrder, Cond.instanceMethod yX5_inOrder, Cond.selects RX5 yX5_inOrder yX5_inOrder, Cond.code yX5_inOrder cX5_inOrder 2 (some .int), Cond.methodLink RX3 38 yX3_wordsByParts, Cond.instanceMethod yX3_wordsByParts, Cond.selects RX3 yX3_wordsByParts yX3_wordsByParts, Cond.code yX3_wordsByParts cX3_wordsByParts 3 (some .long), Cond.fieldLink RX3 16 "GuardedGrammar$Tally" "terms" "LGuardedGrammar$Terms;", Cond.methodLink RX3 42 yX4_kind, Cond.methodLink RX3 47 yX4_left, Cond.methodLink RX3 50 yX4_right, Cond.methodLink RX3 53 yX3_wordsOfPair, Cond.instanceMethod yX3_wordsOfPair]
def wsX7_find_r7 : List Cond := [Cond.selects RX3 yX3_wordsOfPair yX3_wordsOfPair, Cond.code yX3_wordsOfPair cX3_wordsOfPair 7 (some .long), Cond.methodLink RX3 57 yX5_binder, Cond.instanceMethod yX5_binder, Cond.selects RX5 yX5_binder yX5_binder, Cond.code yX5_binder cX5_binder 2 (some .int), Cond.methodLink RX7 158 yX3_words, Cond.instanceMethod yX3_words, Cond.selects RX3 yX3_words yX3_words, Cond.code yX3_words cX3_words 3 (some .long), Cond.methodLink RX7 165 yX1_spell, Cond.instanceMethod yX1_spell, Cond.selects RX1 yX1_spell yX1_spell, Cond.initialized RX1, Cond.code yX1_spell cX1_spell 9 none, Cond.methodLink RX1 44 yX6_keep, Cond.instanceMethod yX6_keep, Cond.selects RX6 yX6_keep yX6_keep, Cond.initialized RX6, Cond.code yX6_keep cX6_keep 2 none, Cond.fieldLink RX6 15 "GuardedGrammar$Word" "size" "I", Cond.methodLink RX1 50 yX1_startPile, Cond.instanceMethod yX1_startPile, Cond.selects RX1 yX1_startPile yX1_startPile]
def wsX7_find_r8 : List Cond := [Cond.code yX1_startPile cX1_startPile 4 none, Cond.fieldLink RX1 19 "GuardedGrammar$Speller" "ways" "[J", Cond.fieldLink RX1 15 "GuardedGrammar$Speller" "height" "I", Cond.methodLink RX1 58 yX1_pileUp, Cond.instanceMethod yX1_pileUp, Cond.selects RX1 yX1_pileUp yX1_pileUp, Cond.code yX1_pileUp cX1_pileUp 4 none, Cond.methodLink RX1 108 arraycopyName, Cond.native arraycopyName, Cond.static arraycopyName, Cond.initialized "java/lang/System", Cond.fieldLink RX1 40 "GuardedGrammar$Speller" "tally" "LGuardedGrammar$Tally;", Cond.fieldLink RX1 9 "GuardedGrammar$Speller" "pile" "[I", Cond.methodLink RX1 114 yX3_lengthen, Cond.instanceMethod yX3_lengthen, Cond.selects RX3 yX3_lengthen yX3_lengthen, Cond.code yX3_lengthen cX3_lengthen 9 none, Cond.methodLink RX1 54 yX1_spellNext, Cond.instanceMethod yX1_spellNext, Cond.selects RX1 yX1_spellNext yX1_spellNext, Cond.code yX1_spellNext cX1_spellNext 11 (some .long), Cond.methodLink RX1 61 yX1_readerOf, Cond.instanceMethod yX1_readerOf, Cond.selects RX1 yX1_readerOf yX1_readerOf]
def wsX7_find_r9 : List Cond := [Cond.code yX1_readerOf cX1_readerOf 3 (some .int), Cond.fieldLink RX1 36 "GuardedGrammar$Speller" "typing" "LGuardedGrammar$Typing;", Cond.methodLink RX1 78 yX5_firstOf, Cond.instanceMethod yX5_firstOf, Cond.selects RX5 yX5_firstOf yX5_firstOf, Cond.code yX5_firstOf cX5_firstOf 2 (some .int), Cond.methodLink RX1 83 yX5_isNullable, Cond.instanceMethod yX5_isNullable, Cond.selects RX5 yX5_isNullable yX5_isNullable, Cond.code yX5_isNullable cX5_isNullable 2 (some .boolean), Cond.methodLink RX1 65 yX1_goDown, Cond.instanceMethod yX1_goDown, Cond.selects RX1 yX1_goDown yX1_goDown, Cond.code yX1_goDown cX1_goDown 5 none, Cond.fieldLink RX1 26 "GuardedGrammar$Speller" "freshSize" "I", Cond.fieldLink RX1 32 "GuardedGrammar$Speller" "terms" "LGuardedGrammar$Terms;", Cond.fieldLink RX1 23 "GuardedGrammar$Speller" "fresh" "[I", Cond.methodLink RX1 87 yX4_kind, Cond.methodLink RX1 92 yX4_right, Cond.methodLink RX1 95 yX1_below, Cond.instanceMethod yX1_below, Cond.selects RX1 yX1_below yX1_below, Cond.code yX1_below cX1_below 3 (some .int), Cond.methodLink RX1 99 yX5_binder]
def wsX7_find_r10 : List Cond := [Cond.methodLink RX1 102 yX5_side, Cond.instanceMethod yX5_side, Cond.selects RX5 yX5_side yX5_side, Cond.code yX5_side cX5_side 5 (some .int), Cond.methodLink RX1 105 yX4_left, Cond.methodLink RX1 68 yX1_wordsAhead, Cond.instanceMethod yX1_wordsAhead, Cond.selects RX1 yX1_wordsAhead yX1_wordsAhead, Cond.code yX1_wordsAhead cX1_wordsAhead 4 (some .long), Cond.fieldLink RX1 29 "GuardedGrammar$Speller" "ahead" "[J", Cond.methodLink RX1 72 yX1_takeFresh, Cond.instanceMethod yX1_takeFresh, Cond.selects RX1 yX1_takeFresh yX1_takeFresh, Cond.code yX1_takeFresh cX1_takeFresh 4 none, Cond.methodLink RX1 75 yX6_add, Cond.instanceMethod yX6_add, Cond.selects RX6 yX6_add yX6_add, Cond.code yX6_add cX6_add 2 none, Cond.fieldLink RX6 9 "GuardedGrammar$Word" "letters" "[I"]
def wsX7_find : List Cond := .code yX7_find cX7_find 5 none :: ((wsX7_find_r1 ++ (wsX7_find_r2 ++ (wsX7_find_r3 ++ (wsX7_find_r4 ++ (wsX7_find_r5 ++ (wsX7_find_r6 ++ (wsX7_find_r7 ++ (wsX7_find_r8 ++ (wsX7_find_r9 ++ wsX7_find_r10))))))))) ++ wsX70 ++ wsX40 ++ wsX50 ++ wsX30 ++ wsX60 ++ wsX10 ++ (vx_at0 RX7 164 "java/util/NoSuchElementException" ["java/lang/RuntimeException", "java/lang/Exception"]).filter goodWord ++ (vx_at0 RX7 63 "java/lang/IllegalArgumentException" ["java/lang/RuntimeException", "java/lang/Exception"]).filter goodWord ++ (vx_at0 RX7 107 "java/lang/IndexOutOfBoundsException" ["java/lang/RuntimeException", "java/lang/Exception"]).filter goodWord ++ (vx_at0 RX7 84 "java/lang/IllegalStateException" ["java/lang/RuntimeException", "java/lang/Exception"]).filter goodWord)
def wsX8_init_r1 : List Cond := [Cond.methodLink RX8 1 objectInit, Cond.instanceMethod objectInit, Cond.code objectInit ⟨#[0xb1]⟩ 1 none, Cond.arrayClass .int, Cond.fieldLink RX8 7 "GuardedGrammarModel" "kind" "[I", Cond.fieldLink RX8 13 "GuardedGrammarModel" "sign" "[I", Cond.fieldLink RX8 16 "GuardedGrammarModel" "one" "[I", Cond.fieldLink RX8 19 "GuardedGrammarModel" "two" "[I", Cond.fieldLink RX8 22 "GuardedGrammarModel" "whole" "[I", Cond.fieldLink RX8 25 "GuardedGrammarModel" "knots" "[I", Cond.arrayClass .boolean, Cond.fieldLink RX8 28 "GuardedGrammarModel" "nullable" "[Z", Cond.fieldLink RX8 32 "GuardedGrammarModel" "first" "[I", Cond.fieldLink RX8 35 "GuardedGrammarModel" "after" "[I", Cond.fieldLink RX8 38 "GuardedGrammarModel" "inside" "[Z", Cond.fieldLink RX8 41 "GuardedGrammarModel" "binder" "[I", Cond.fieldLink RX8 44 "GuardedGrammarModel" "word" "[I", Cond.fieldLink RX8 47 "GuardedGrammarModel" "at" "I", Cond.fieldLink RX8 51 "GuardedGrammarModel" "trace" "[I", Cond.fieldLink RX8 54 "GuardedGrammarModel" "met" "[I", Cond.fieldLink RX8 57 "GuardedGrammarModel" "todo" "[I", Cond.fieldLink RX8 60 "GuardedGrammarModel" "todoSaved" "[I", Cond.arrayClass .long, Cond.fieldLink RX8 63 "GuardedGrammarModel" "counts" "[J"]
def wsX8_init_r2 : List Cond := [Cond.fieldLink RX8 67 "GuardedGrammarModel" "row" "[J", Cond.fieldLink RX8 70 "GuardedGrammarModel" "other" "[J"]
def wsX8_init : List Cond := .code yX8_init cX8_init 1 none :: ((wsX8_init_r1 ++ wsX8_init_r2) ++ wsX80)
def wsX8_thrown : List Cond := .code yX8_thrown cX8_thrown 1 (some .int) :: ([.fieldLink RX8 73 "GuardedGrammarModel" "thrown" "I"] ++ wsX80)
def wsX8_fail : List Cond := .code yX8_fail cX8_fail 2 (some .int) :: ([.fieldLink RX8 73 "GuardedGrammarModel" "thrown" "I"] ++ wsX80)
def wsX8_isTerm : List Cond := .code yX8_isTerm cX8_isTerm 2 (some .boolean) :: ([.fieldLink RX8 76 "GuardedGrammarModel" "terms" "I"] ++ wsX80)
def wsX8_isPart : List Cond := .code yX8_isPart cX8_isPart 2 (some .boolean) :: ([.fieldLink RX8 22 "GuardedGrammarModel" "whole" "[I"] ++ wsX80)
def wsX8_add : List Cond := .code yX8_add cX8_add 6 (some .int) :: ([.fieldLink RX8 7 "GuardedGrammarModel" "kind" "[I", .fieldLink RX8 76 "GuardedGrammarModel" "terms" "I", .fieldLink RX8 13 "GuardedGrammarModel" "sign" "[I", .fieldLink RX8 16 "GuardedGrammarModel" "one" "[I", .fieldLink RX8 19 "GuardedGrammarModel" "two" "[I", .fieldLink RX8 22 "GuardedGrammarModel" "whole" "[I", .fieldLink RX8 25 "GuardedGrammarModel" "knots" "[I"] ++ wsX80)
def wsX8_leaf : List Cond := .code yX8_leaf cX8_leaf 2 (some .int) :: ([.fieldLink RX8 76 "GuardedGrammarModel" "terms" "I", .fieldLink RX8 73 "GuardedGrammarModel" "thrown" "I", .methodLink RX8 79 yX8_add, .instanceMethod yX8_add, .selects RX8 yX8_add yX8_add, .initialized RX8, .code yX8_add cX8_add 6 (some .int), .fieldLink RX8 7 "GuardedGrammarModel" "kind" "[I", .fieldLink RX8 13 "GuardedGrammarModel" "sign" "[I", .fieldLink RX8 16 "GuardedGrammarModel" "one" "[I", .fieldLink RX8 19 "GuardedGrammarModel" "two" "[I", .fieldLink RX8 22 "GuardedGrammarModel" "whole" "[I", .fieldLink RX8 25 "GuardedGrammarModel" "knots" "[I"] ++ wsX80)
def wsX8_variable : List Cond := .code yX8_variable cX8_variable 2 (some .int) :: ([.fieldLink RX8 76 "GuardedGrammarModel" "terms" "I", .fieldLink RX8 73 "GuardedGrammarModel" "thrown" "I", .methodLink RX8 79 yX8_add, .instanceMethod yX8_add, .selects RX8 yX8_add yX8_add, .initialized RX8, .code yX8_add cX8_add 6 (some .int), .fieldLink RX8 7 "GuardedGrammarModel" "kind" "[I", .fieldLink RX8 13 "GuardedGrammarModel" "sign" "[I", .fieldLink RX8 16 "GuardedGrammarModel" "one" "[I", .fieldLink RX8 19 "GuardedGrammarModel" "two" "[I", .fieldLink RX8 22 "GuardedGrammarModel" "whole" "[I", .fieldLink RX8 25 "GuardedGrammarModel" "knots" "[I"] ++ wsX80)
def wsX8_join : List Cond := .code yX8_join cX8_join 4 (some .int) :: ([.fieldLink RX8 76 "GuardedGrammarModel" "terms" "I", .fieldLink RX8 73 "GuardedGrammarModel" "thrown" "I", .methodLink RX8 83 yX8_isTerm, .instanceMethod yX8_isTerm, .selects RX8 yX8_isTerm yX8_isTerm, .initialized RX8, .code yX8_isTerm cX8_isTerm 2 (some .boolean), .methodLink RX8 87 yX8_isPart, .instanceMethod yX8_isPart, .selects RX8 yX8_isPart yX8_isPart, .code yX8_isPart cX8_isPart 2 (some .boolean), .fieldLink RX8 22 "GuardedGrammarModel" "whole" "[I", .methodLink RX8 79 yX8_add, .instanceMethod yX8_add, .selects RX8 yX8_add yX8_add, .code yX8_add cX8_add 6 (some .int), .fieldLink RX8 7 "GuardedGrammarModel" "kind" "[I", .fieldLink RX8 13 "GuardedGrammarModel" "sign" "[I", .fieldLink RX8 16 "GuardedGrammarModel" "one" "[I", .fieldLink RX8 19 "GuardedGrammarModel" "two" "[I", .fieldLink RX8 25 "GuardedGrammarModel" "knots" "[I"] ++ wsX80)
def wsX8_knot : List Cond := .code yX8_knot cX8_knot 3 (some .int) :: ([.fieldLink RX8 76 "GuardedGrammarModel" "terms" "I", .fieldLink RX8 25 "GuardedGrammarModel" "knots" "[I", .fieldLink RX8 73 "GuardedGrammarModel" "thrown" "I", .methodLink RX8 83 yX8_isTerm, .instanceMethod yX8_isTerm, .selects RX8 yX8_isTerm yX8_isTerm, .initialized RX8, .code yX8_isTerm cX8_isTerm 2 (some .boolean), .methodLink RX8 87 yX8_isPart, .instanceMethod yX8_isPart, .selects RX8 yX8_isPart yX8_isPart, .code yX8_isPart cX8_isPart 2 (some .boolean), .fieldLink RX8 22 "GuardedGrammarModel" "whole" "[I", .methodLink RX8 79 yX8_add, .instanceMethod yX8_add, .selects RX8 yX8_add yX8_add, .code yX8_add cX8_add 6 (some .int), .fieldLink RX8 7 "GuardedGrammarModel" "kind" "[I", .fieldLink RX8 13 "GuardedGrammarModel" "sign" "[I", .fieldLink RX8 16 "GuardedGrammarModel" "one" "[I", .fieldLink RX8 19 "GuardedGrammarModel" "two" "[I"] ++ wsX80)
def wsX8_clear : List Cond := .code yX8_clear cX8_clear 1 none :: ([.fieldLink RX8 73 "GuardedGrammarModel" "thrown" "I", .fieldLink RX8 76 "GuardedGrammarModel" "terms" "I"] ++ wsX80)
def wsX8_terms : List Cond := .code yX8_terms cX8_terms 1 (some .int) :: ([.fieldLink RX8 73 "GuardedGrammarModel" "thrown" "I", .fieldLink RX8 76 "GuardedGrammarModel" "terms" "I"] ++ wsX80)
def wsX8_gather : List Cond := .code yX8_gather cX8_gather 4 none :: ([.fieldLink RX8 76 "GuardedGrammarModel" "terms" "I", .fieldLink RX8 41 "GuardedGrammarModel" "binder" "[I", .fieldLink RX8 22 "GuardedGrammarModel" "whole" "[I", .fieldLink RX8 7 "GuardedGrammarModel" "kind" "[I", .fieldLink RX8 13 "GuardedGrammarModel" "sign" "[I", .fieldLink RX8 38 "GuardedGrammarModel" "inside" "[Z", .fieldLink RX8 28 "GuardedGrammarModel" "nullable" "[Z", .fieldLink RX8 32 "GuardedGrammarModel" "first" "[I", .fieldLink RX8 35 "GuardedGrammarModel" "after" "[I"] ++ wsX80)
def wsX8_grow : List Cond := .code yX8_grow cX8_grow 8 (some .boolean) :: ([.fieldLink RX8 7 "GuardedGrammarModel" "kind" "[I", .fieldLink RX8 13 "GuardedGrammarModel" "sign" "[I", .fieldLink RX8 16 "GuardedGrammarModel" "one" "[I", .fieldLink RX8 19 "GuardedGrammarModel" "two" "[I", .fieldLink RX8 28 "GuardedGrammarModel" "nullable" "[Z", .fieldLink RX8 32 "GuardedGrammarModel" "first" "[I", .fieldLink RX8 35 "GuardedGrammarModel" "after" "[I", .fieldLink RX8 41 "GuardedGrammarModel" "binder" "[I"] ++ wsX80)
def wsX8_typeAll : List Cond := .code yX8_typeAll cX8_typeAll 4 none :: ([.fieldLink RX8 76 "GuardedGrammarModel" "terms" "I", .fieldLink RX8 38 "GuardedGrammarModel" "inside" "[Z", .methodLink RX8 90 yX8_gather, .instanceMethod yX8_gather, .selects RX8 yX8_gather yX8_gather, .initialized RX8, .code yX8_gather cX8_gather 4 none, .fieldLink RX8 41 "GuardedGrammarModel" "binder" "[I", .fieldLink RX8 22 "GuardedGrammarModel" "whole" "[I", .fieldLink RX8 7 "GuardedGrammarModel" "kind" "[I", .fieldLink RX8 13 "GuardedGrammarModel" "sign" "[I", .fieldLink RX8 28 "GuardedGrammarModel" "nullable" "[Z", .fieldLink RX8 32 "GuardedGrammarModel" "first" "[I", .fieldLink RX8 35 "GuardedGrammarModel" "after" "[I", .methodLink RX8 94 yX8_grow, .instanceMethod yX8_grow, .selects RX8 yX8_grow yX8_grow, .code yX8_grow cX8_grow 8 (some .boolean), .fieldLink RX8 16 "GuardedGrammarModel" "one" "[I", .fieldLink RX8 19 "GuardedGrammarModel" "two" "[I"] ++ wsX80)
def wsX8_isGuarded : List Cond := .code yX8_isGuarded cX8_isGuarded 5 (some .boolean) :: ([.fieldLink RX8 41 "GuardedGrammarModel" "binder" "[I", .fieldLink RX8 22 "GuardedGrammarModel" "whole" "[I", .fieldLink RX8 7 "GuardedGrammarModel" "kind" "[I", .fieldLink RX8 19 "GuardedGrammarModel" "two" "[I"] ++ wsX80)
def wsX8_faultAt : List Cond := .code yX8_faultAt cX8_faultAt 4 (some .int) :: ([.fieldLink RX8 16 "GuardedGrammarModel" "one" "[I", .fieldLink RX8 19 "GuardedGrammarModel" "two" "[I", .fieldLink RX8 7 "GuardedGrammarModel" "kind" "[I", .fieldLink RX8 41 "GuardedGrammarModel" "binder" "[I", .fieldLink RX8 28 "GuardedGrammarModel" "nullable" "[Z", .fieldLink RX8 35 "GuardedGrammarModel" "after" "[I", .fieldLink RX8 32 "GuardedGrammarModel" "first" "[I", .methodLink RX8 97 yX8_isGuarded, .instanceMethod yX8_isGuarded, .selects RX8 yX8_isGuarded yX8_isGuarded, .initialized RX8, .code yX8_isGuarded cX8_isGuarded 5 (some .boolean), .fieldLink RX8 22 "GuardedGrammarModel" "whole" "[I"] ++ wsX80)
def wsX8_leftmost : List Cond := .code yX8_leftmost cX8_leftmost 3 (some .int) :: ([.fieldLink RX8 16 "GuardedGrammarModel" "one" "[I"] ++ wsX80)
def wsX8_faultOf_r1 : List Cond := [Cond.fieldLink RX8 22 "GuardedGrammarModel" "whole" "[I", Cond.fieldLink RX8 19 "GuardedGrammarModel" "two" "[I", Cond.methodLink RX8 100 yX8_typeAll, Cond.instanceMethod yX8_typeAll, Cond.selects RX8 yX8_typeAll yX8_typeAll, Cond.initialized RX8, Cond.code yX8_typeAll cX8_typeAll 4 none, Cond.fieldLink RX8 76 "GuardedGrammarModel" "terms" "I", Cond.fieldLink RX8 38 "GuardedGrammarModel" "inside" "[Z", Cond.methodLink RX8 90 yX8_gather, Cond.instanceMethod yX8_gather, Cond.selects RX8 yX8_gather yX8_gather, Cond.code yX8_gather cX8_gather 4 none, Cond.fieldLink RX8 41 "GuardedGrammarModel" "binder" "[I", Cond.fieldLink RX8 7 "GuardedGrammarModel" "kind" "[I", Cond.fieldLink RX8 13 "GuardedGrammarModel" "sign" "[I", Cond.fieldLink RX8 28 "GuardedGrammarModel" "nullable" "[Z", Cond.fieldLink RX8 32 "GuardedGrammarModel" "first" "[I", Cond.fieldLink RX8 35 "GuardedGrammarModel" "after" "[I", Cond.methodLink RX8 94 yX8_grow, Cond.instanceMethod yX8_grow, Cond.selects RX8 yX8_grow yX8_grow, Cond.code yX8_grow cX8_grow 8 (some .boolean), Cond.fieldLink RX8 16 "GuardedGrammarModel" "one" "[I"]
def wsX8_faultOf_r2 : List Cond := [Cond.methodLink RX8 103 yX8_leftmost, Cond.instanceMethod yX8_leftmost, Cond.selects RX8 yX8_leftmost yX8_leftmost, Cond.code yX8_leftmost cX8_leftmost 3 (some .int), Cond.methodLink RX8 107 yX8_faultAt, Cond.instanceMethod yX8_faultAt, Cond.selects RX8 yX8_faultAt yX8_faultAt, Cond.code yX8_faultAt cX8_faultAt 4 (some .int), Cond.methodLink RX8 97 yX8_isGuarded, Cond.instanceMethod yX8_isGuarded, Cond.selects RX8 yX8_isGuarded yX8_isGuarded, Cond.code yX8_isGuarded cX8_isGuarded 5 (some .boolean)]
def wsX8_faultOf : List Cond := .code yX8_faultOf cX8_faultOf 4 (some .int) :: ((wsX8_faultOf_r1 ++ wsX8_faultOf_r2) ++ wsX80)
def wsX8_fault_r1 : List Cond := [Cond.fieldLink RX8 73 "GuardedGrammarModel" "thrown" "I", Cond.methodLink RX8 83 yX8_isTerm, Cond.instanceMethod yX8_isTerm, Cond.selects RX8 yX8_isTerm yX8_isTerm, Cond.initialized RX8, Cond.code yX8_isTerm cX8_isTerm 2 (some .boolean), Cond.fieldLink RX8 76 "GuardedGrammarModel" "terms" "I", Cond.methodLink RX8 110 yX8_faultOf, Cond.instanceMethod yX8_faultOf, Cond.selects RX8 yX8_faultOf yX8_faultOf, Cond.code yX8_faultOf cX8_faultOf 4 (some .int), Cond.fieldLink RX8 22 "GuardedGrammarModel" "whole" "[I", Cond.fieldLink RX8 19 "GuardedGrammarModel" "two" "[I", Cond.methodLink RX8 100 yX8_typeAll, Cond.instanceMethod yX8_typeAll, Cond.selects RX8 yX8_typeAll yX8_typeAll, Cond.code yX8_typeAll cX8_typeAll 4 none, Cond.fieldLink RX8 38 "GuardedGrammarModel" "inside" "[Z", Cond.methodLink RX8 90 yX8_gather, Cond.instanceMethod yX8_gather, Cond.selects RX8 yX8_gather yX8_gather, Cond.code yX8_gather cX8_gather 4 none, Cond.fieldLink RX8 41 "GuardedGrammarModel" "binder" "[I", Cond.fieldLink RX8 7 "GuardedGrammarModel" "kind" "[I"]
def wsX8_fault_r2 : List Cond := [Cond.fieldLink RX8 13 "GuardedGrammarModel" "sign" "[I", Cond.fieldLink RX8 28 "GuardedGrammarModel" "nullable" "[Z", Cond.fieldLink RX8 32 "GuardedGrammarModel" "first" "[I", Cond.fieldLink RX8 35 "GuardedGrammarModel" "after" "[I", Cond.methodLink RX8 94 yX8_grow, Cond.instanceMethod yX8_grow, Cond.selects RX8 yX8_grow yX8_grow, Cond.code yX8_grow cX8_grow 8 (some .boolean), Cond.fieldLink RX8 16 "GuardedGrammarModel" "one" "[I", Cond.methodLink RX8 103 yX8_leftmost, Cond.instanceMethod yX8_leftmost, Cond.selects RX8 yX8_leftmost yX8_leftmost, Cond.code yX8_leftmost cX8_leftmost 3 (some .int), Cond.methodLink RX8 107 yX8_faultAt, Cond.instanceMethod yX8_faultAt, Cond.selects RX8 yX8_faultAt yX8_faultAt, Cond.code yX8_faultAt cX8_faultAt 4 (some .int), Cond.methodLink RX8 97 yX8_isGuarded, Cond.instanceMethod yX8_isGuarded, Cond.selects RX8 yX8_isGuarded yX8_isGuarded, Cond.code yX8_isGuarded cX8_isGuarded 5 (some .boolean)]
def wsX8_fault : List Cond := .code yX8_fault cX8_fault 2 (some .int) :: ((wsX8_fault_r1 ++ wsX8_fault_r2) ++ wsX80)
def wsX8_type_r1 : List Cond := [Cond.fieldLink RX8 73 "GuardedGrammarModel" "thrown" "I", Cond.fieldLink RX8 32 "GuardedGrammarModel" "first" "[I", Cond.fieldLink RX8 35 "GuardedGrammarModel" "after" "[I", Cond.fieldLink RX8 28 "GuardedGrammarModel" "nullable" "[Z", Cond.methodLink RX8 83 yX8_isTerm, Cond.instanceMethod yX8_isTerm, Cond.selects RX8 yX8_isTerm yX8_isTerm, Cond.initialized RX8, Cond.code yX8_isTerm cX8_isTerm 2 (some .boolean), Cond.fieldLink RX8 76 "GuardedGrammarModel" "terms" "I", Cond.methodLink RX8 110 yX8_faultOf, Cond.instanceMethod yX8_faultOf, Cond.selects RX8 yX8_faultOf yX8_faultOf, Cond.code yX8_faultOf cX8_faultOf 4 (some .int), Cond.fieldLink RX8 22 "GuardedGrammarModel" "whole" "[I", Cond.fieldLink RX8 19 "GuardedGrammarModel" "two" "[I", Cond.methodLink RX8 100 yX8_typeAll, Cond.instanceMethod yX8_typeAll, Cond.selects RX8 yX8_typeAll yX8_typeAll, Cond.code yX8_typeAll cX8_typeAll 4 none, Cond.fieldLink RX8 38 "GuardedGrammarModel" "inside" "[Z", Cond.methodLink RX8 90 yX8_gather, Cond.instanceMethod yX8_gather, Cond.selects RX8 yX8_gather yX8_gather]
def wsX8_type_r2 : List Cond := [Cond.code yX8_gather cX8_gather 4 none, Cond.fieldLink RX8 41 "GuardedGrammarModel" "binder" "[I", Cond.fieldLink RX8 7 "GuardedGrammarModel" "kind" "[I", Cond.fieldLink RX8 13 "GuardedGrammarModel" "sign" "[I", Cond.methodLink RX8 94 yX8_grow, Cond.instanceMethod yX8_grow, Cond.selects RX8 yX8_grow yX8_grow, Cond.code yX8_grow cX8_grow 8 (some .boolean), Cond.fieldLink RX8 16 "GuardedGrammarModel" "one" "[I", Cond.methodLink RX8 103 yX8_leftmost, Cond.instanceMethod yX8_leftmost, Cond.selects RX8 yX8_leftmost yX8_leftmost, Cond.code yX8_leftmost cX8_leftmost 3 (some .int), Cond.methodLink RX8 107 yX8_faultAt, Cond.instanceMethod yX8_faultAt, Cond.selects RX8 yX8_faultAt yX8_faultAt, Cond.code yX8_faultAt cX8_faultAt 4 (some .int), Cond.methodLink RX8 97 yX8_isGuarded, Cond.instanceMethod yX8_isGuarded, Cond.selects RX8 yX8_isGuarded yX8_isGuarded, Cond.code yX8_isGuarded cX8_isGuarded 5 (some .boolean)]
def wsX8_type : List Cond := .code yX8_type cX8_type 3 (some .int) :: ((wsX8_type_r1 ++ wsX8_type_r2) ++ wsX80)
def wsX8_put : List Cond := .code yX8_put cX8_put 2 (some .boolean) :: ([.fieldLink RX8 73 "GuardedGrammarModel" "thrown" "I", .fieldLink RX8 113 "GuardedGrammarModel" "letters" "I", .fieldLink RX8 44 "GuardedGrammarModel" "word" "[I"] ++ wsX80)
def wsX8_cut : List Cond := .code yX8_cut cX8_cut 2 (some .boolean) :: ([.fieldLink RX8 73 "GuardedGrammarModel" "thrown" "I", .fieldLink RX8 113 "GuardedGrammarModel" "letters" "I"] ++ wsX80)
def wsX8_length : List Cond := .code yX8_length cX8_length 1 (some .int) :: ([.fieldLink RX8 73 "GuardedGrammarModel" "thrown" "I", .fieldLink RX8 113 "GuardedGrammarModel" "letters" "I"] ++ wsX80)
def wsX8_letter : List Cond := .code yX8_letter cX8_letter 2 (some .int) :: ([.fieldLink RX8 113 "GuardedGrammarModel" "letters" "I", .fieldLink RX8 73 "GuardedGrammarModel" "thrown" "I", .fieldLink RX8 44 "GuardedGrammarModel" "word" "[I"] ++ wsX80)
def wsX8_choice : List Cond := .code yX8_choice cX8_choice 5 (some .int) :: ([.fieldLink RX8 16 "GuardedGrammarModel" "one" "[I", .fieldLink RX8 19 "GuardedGrammarModel" "two" "[I", .fieldLink RX8 32 "GuardedGrammarModel" "first" "[I", .fieldLink RX8 28 "GuardedGrammarModel" "nullable" "[Z"] ++ wsX80)
def wsX8_go : List Cond := .code yX8_go cX8_go 4 (some .int) :: ([.fieldLink RX8 116 "GuardedGrammarModel" "open" "I", .fieldLink RX8 57 "GuardedGrammarModel" "todo" "[I", .fieldLink RX8 119 "GuardedGrammarModel" "visited" "I", .fieldLink RX8 7 "GuardedGrammarModel" "kind" "[I", .fieldLink RX8 13 "GuardedGrammarModel" "sign" "[I", .fieldLink RX8 19 "GuardedGrammarModel" "two" "[I", .fieldLink RX8 16 "GuardedGrammarModel" "one" "[I", .fieldLink RX8 41 "GuardedGrammarModel" "binder" "[I", .fieldLink RX8 54 "GuardedGrammarModel" "met" "[I", .fieldLink RX8 126 "GuardedGrammarModel" "fresh" "I", .methodLink RX8 122 yX8_choice, .instanceMethod yX8_choice, .selects RX8 yX8_choice yX8_choice, .initialized RX8, .code yX8_choice cX8_choice 5 (some .int), .fieldLink RX8 32 "GuardedGrammarModel" "first" "[I", .fieldLink RX8 28 "GuardedGrammarModel" "nullable" "[Z"] ++ wsX80)
def wsX8_beginAt : List Cond := .code yX8_beginAt cX8_beginAt 2 none :: ([.fieldLink RX8 57 "GuardedGrammarModel" "todo" "[I", .fieldLink RX8 116 "GuardedGrammarModel" "open" "I", .fieldLink RX8 119 "GuardedGrammarModel" "visited" "I", .fieldLink RX8 126 "GuardedGrammarModel" "fresh" "I"] ++ wsX80)
def wsX8_read_r1 : List Cond := [Cond.fieldLink RX8 73 "GuardedGrammarModel" "thrown" "I", Cond.fieldLink RX8 113 "GuardedGrammarModel" "letters" "I", Cond.fieldLink RX8 44 "GuardedGrammarModel" "word" "[I", Cond.fieldLink RX8 47 "GuardedGrammarModel" "at" "I", Cond.fieldLink RX8 126 "GuardedGrammarModel" "fresh" "I", Cond.fieldLink RX8 138 "GuardedGrammarModel" "steps" "I", Cond.fieldLink RX8 51 "GuardedGrammarModel" "trace" "[I", Cond.fieldLink RX8 54 "GuardedGrammarModel" "met" "[I", Cond.fieldLink RX8 119 "GuardedGrammarModel" "visited" "I", Cond.methodLink RX8 83 yX8_isTerm, Cond.instanceMethod yX8_isTerm, Cond.selects RX8 yX8_isTerm yX8_isTerm, Cond.initialized RX8, Cond.code yX8_isTerm cX8_isTerm 2 (some .boolean), Cond.fieldLink RX8 76 "GuardedGrammarModel" "terms" "I", Cond.methodLink RX8 110 yX8_faultOf, Cond.instanceMethod yX8_faultOf, Cond.selects RX8 yX8_faultOf yX8_faultOf, Cond.code yX8_faultOf cX8_faultOf 4 (some .int), Cond.fieldLink RX8 22 "GuardedGrammarModel" "whole" "[I", Cond.fieldLink RX8 19 "GuardedGrammarModel" "two" "[I", Cond.methodLink RX8 100 yX8_typeAll, Cond.instanceMethod yX8_typeAll, Cond.selects RX8 yX8_typeAll yX8_typeAll]
def wsX8_read_r2 : List Cond := [Cond.code yX8_typeAll cX8_typeAll 4 none, Cond.fieldLink RX8 38 "GuardedGrammarModel" "inside" "[Z", Cond.methodLink RX8 90 yX8_gather, Cond.instanceMethod yX8_gather, Cond.selects RX8 yX8_gather yX8_gather, Cond.code yX8_gather cX8_gather 4 none, Cond.fieldLink RX8 41 "GuardedGrammarModel" "binder" "[I", Cond.fieldLink RX8 7 "GuardedGrammarModel" "kind" "[I", Cond.fieldLink RX8 13 "GuardedGrammarModel" "sign" "[I", Cond.fieldLink RX8 28 "GuardedGrammarModel" "nullable" "[Z", Cond.fieldLink RX8 32 "GuardedGrammarModel" "first" "[I", Cond.fieldLink RX8 35 "GuardedGrammarModel" "after" "[I", Cond.methodLink RX8 94 yX8_grow, Cond.instanceMethod yX8_grow, Cond.selects RX8 yX8_grow yX8_grow, Cond.code yX8_grow cX8_grow 8 (some .boolean), Cond.fieldLink RX8 16 "GuardedGrammarModel" "one" "[I", Cond.methodLink RX8 103 yX8_leftmost, Cond.instanceMethod yX8_leftmost, Cond.selects RX8 yX8_leftmost yX8_leftmost, Cond.code yX8_leftmost cX8_leftmost 3 (some .int), Cond.methodLink RX8 107 yX8_faultAt, Cond.instanceMethod yX8_faultAt, Cond.selects RX8 yX8_faultAt yX8_faultAt]
def wsX8_read_r3 : List Cond := [Cond.code yX8_faultAt cX8_faultAt 4 (some .int), Cond.methodLink RX8 97 yX8_isGuarded, Cond.instanceMethod yX8_isGuarded, Cond.selects RX8 yX8_isGuarded yX8_isGuarded, Cond.code yX8_isGuarded cX8_isGuarded 5 (some .boolean), Cond.methodLink RX8 129 yX8_beginAt, Cond.instanceMethod yX8_beginAt, Cond.selects RX8 yX8_beginAt yX8_beginAt, Cond.code yX8_beginAt cX8_beginAt 2 none, Cond.fieldLink RX8 57 "GuardedGrammarModel" "todo" "[I", Cond.fieldLink RX8 116 "GuardedGrammarModel" "open" "I", Cond.methodLink RX8 132 yX8_go, Cond.instanceMethod yX8_go, Cond.selects RX8 yX8_go yX8_go, Cond.code yX8_go cX8_go 4 (some .int), Cond.methodLink RX8 122 yX8_choice, Cond.instanceMethod yX8_choice, Cond.selects RX8 yX8_choice yX8_choice, Cond.code yX8_choice cX8_choice 5 (some .int), Cond.methodLink RX8 135 yX8_fail, Cond.instanceMethod yX8_fail, Cond.selects RX8 yX8_fail yX8_fail, Cond.code yX8_fail cX8_fail 2 (some .int)]
def wsX8_read : List Cond := .code yX8_read cX8_read 5 (some .int) :: ((wsX8_read_r1 ++ (wsX8_read_r2 ++ wsX8_read_r3)) ++ wsX80)
def wsX8_stopped : List Cond := .code yX8_stopped cX8_stopped 1 (some .int) :: ([.fieldLink RX8 73 "GuardedGrammarModel" "thrown" "I", .fieldLink RX8 47 "GuardedGrammarModel" "at" "I"] ++ wsX80)
def wsX8_trace : List Cond := .code yX8_trace cX8_trace 1 (some .int) :: ([.fieldLink RX8 73 "GuardedGrammarModel" "thrown" "I", .fieldLink RX8 138 "GuardedGrammarModel" "steps" "I"] ++ wsX80)
def wsX8_step : List Cond := .code yX8_step cX8_step 2 (some .int) :: ([.fieldLink RX8 138 "GuardedGrammarModel" "steps" "I", .fieldLink RX8 73 "GuardedGrammarModel" "thrown" "I", .fieldLink RX8 51 "GuardedGrammarModel" "trace" "[I"] ++ wsX80)
def wsX8_countAt : List Cond := .code yX8_countAt cX8_countAt 8 (some .long) :: ([.fieldLink RX8 16 "GuardedGrammarModel" "one" "[I", .fieldLink RX8 19 "GuardedGrammarModel" "two" "[I", .fieldLink RX8 7 "GuardedGrammarModel" "kind" "[I", .fieldLink RX8 63 "GuardedGrammarModel" "counts" "[J"] ++ wsX80)
def wsX8_countAll : List Cond := .code yX8_countAll cX8_countAll 7 none :: ([.fieldLink RX8 76 "GuardedGrammarModel" "terms" "I", .fieldLink RX8 63 "GuardedGrammarModel" "counts" "[J", .fieldLink RX8 38 "GuardedGrammarModel" "inside" "[Z", .fieldLink RX8 7 "GuardedGrammarModel" "kind" "[I", .fieldLink RX8 41 "GuardedGrammarModel" "binder" "[I", .methodLink RX8 141 yX8_countAt, .instanceMethod yX8_countAt, .selects RX8 yX8_countAt yX8_countAt, .initialized RX8, .code yX8_countAt cX8_countAt 8 (some .long), .fieldLink RX8 16 "GuardedGrammarModel" "one" "[I", .fieldLink RX8 19 "GuardedGrammarModel" "two" "[I"] ++ wsX80)
def wsX8_wrongCount_r1 : List Cond := [Cond.methodLink RX8 83 yX8_isTerm, Cond.instanceMethod yX8_isTerm, Cond.selects RX8 yX8_isTerm yX8_isTerm, Cond.initialized RX8, Cond.code yX8_isTerm cX8_isTerm 2 (some .boolean), Cond.fieldLink RX8 76 "GuardedGrammarModel" "terms" "I", Cond.methodLink RX8 110 yX8_faultOf, Cond.instanceMethod yX8_faultOf, Cond.selects RX8 yX8_faultOf yX8_faultOf, Cond.code yX8_faultOf cX8_faultOf 4 (some .int), Cond.fieldLink RX8 22 "GuardedGrammarModel" "whole" "[I", Cond.fieldLink RX8 19 "GuardedGrammarModel" "two" "[I", Cond.methodLink RX8 100 yX8_typeAll, Cond.instanceMethod yX8_typeAll, Cond.selects RX8 yX8_typeAll yX8_typeAll, Cond.code yX8_typeAll cX8_typeAll 4 none, Cond.fieldLink RX8 38 "GuardedGrammarModel" "inside" "[Z", Cond.methodLink RX8 90 yX8_gather, Cond.instanceMethod yX8_gather, Cond.selects RX8 yX8_gather yX8_gather, Cond.code yX8_gather cX8_gather 4 none, Cond.fieldLink RX8 41 "GuardedGrammarModel" "binder" "[I", Cond.fieldLink RX8 7 "GuardedGrammarModel" "kind" "[I", Cond.fieldLink RX8 13 "GuardedGrammarModel" "sign" "[I"]
def wsX8_wrongCount_r2 : List Cond := [Cond.fieldLink RX8 28 "GuardedGrammarModel" "nullable" "[Z", Cond.fieldLink RX8 32 "GuardedGrammarModel" "first" "[I", Cond.fieldLink RX8 35 "GuardedGrammarModel" "after" "[I", Cond.methodLink RX8 94 yX8_grow, Cond.instanceMethod yX8_grow, Cond.selects RX8 yX8_grow yX8_grow, Cond.code yX8_grow cX8_grow 8 (some .boolean), Cond.fieldLink RX8 16 "GuardedGrammarModel" "one" "[I", Cond.methodLink RX8 103 yX8_leftmost, Cond.instanceMethod yX8_leftmost, Cond.selects RX8 yX8_leftmost yX8_leftmost, Cond.code yX8_leftmost cX8_leftmost 3 (some .int), Cond.methodLink RX8 107 yX8_faultAt, Cond.instanceMethod yX8_faultAt, Cond.selects RX8 yX8_faultAt yX8_faultAt, Cond.code yX8_faultAt cX8_faultAt 4 (some .int), Cond.methodLink RX8 97 yX8_isGuarded, Cond.instanceMethod yX8_isGuarded, Cond.selects RX8 yX8_isGuarded yX8_isGuarded, Cond.code yX8_isGuarded cX8_isGuarded 5 (some .boolean)]
def wsX8_wrongCount : List Cond := .code yX8_wrongCount cX8_wrongCount 3 (some .int) :: ((wsX8_wrongCount_r1 ++ wsX8_wrongCount_r2) ++ wsX80)
def wsX8_count_r1 : List Cond := [Cond.fieldLink RX8 73 "GuardedGrammarModel" "thrown" "I", Cond.fieldLink RX8 63 "GuardedGrammarModel" "counts" "[J", Cond.methodLink RX8 145 yX8_wrongCount, Cond.instanceMethod yX8_wrongCount, Cond.selects RX8 yX8_wrongCount yX8_wrongCount, Cond.initialized RX8, Cond.code yX8_wrongCount cX8_wrongCount 3 (some .int), Cond.methodLink RX8 83 yX8_isTerm, Cond.instanceMethod yX8_isTerm, Cond.selects RX8 yX8_isTerm yX8_isTerm, Cond.code yX8_isTerm cX8_isTerm 2 (some .boolean), Cond.fieldLink RX8 76 "GuardedGrammarModel" "terms" "I", Cond.methodLink RX8 110 yX8_faultOf, Cond.instanceMethod yX8_faultOf, Cond.selects RX8 yX8_faultOf yX8_faultOf, Cond.code yX8_faultOf cX8_faultOf 4 (some .int), Cond.fieldLink RX8 22 "GuardedGrammarModel" "whole" "[I", Cond.fieldLink RX8 19 "GuardedGrammarModel" "two" "[I", Cond.methodLink RX8 100 yX8_typeAll, Cond.instanceMethod yX8_typeAll, Cond.selects RX8 yX8_typeAll yX8_typeAll, Cond.code yX8_typeAll cX8_typeAll 4 none, Cond.fieldLink RX8 38 "GuardedGrammarModel" "inside" "[Z", Cond.methodLink RX8 90 yX8_gather]
def wsX8_count_r2 : List Cond := [Cond.instanceMethod yX8_gather, Cond.selects RX8 yX8_gather yX8_gather, Cond.code yX8_gather cX8_gather 4 none, Cond.fieldLink RX8 41 "GuardedGrammarModel" "binder" "[I", Cond.fieldLink RX8 7 "GuardedGrammarModel" "kind" "[I", Cond.fieldLink RX8 13 "GuardedGrammarModel" "sign" "[I", Cond.fieldLink RX8 28 "GuardedGrammarModel" "nullable" "[Z", Cond.fieldLink RX8 32 "GuardedGrammarModel" "first" "[I", Cond.fieldLink RX8 35 "GuardedGrammarModel" "after" "[I", Cond.methodLink RX8 94 yX8_grow, Cond.instanceMethod yX8_grow, Cond.selects RX8 yX8_grow yX8_grow, Cond.code yX8_grow cX8_grow 8 (some .boolean), Cond.fieldLink RX8 16 "GuardedGrammarModel" "one" "[I", Cond.methodLink RX8 103 yX8_leftmost, Cond.instanceMethod yX8_leftmost, Cond.selects RX8 yX8_leftmost yX8_leftmost, Cond.code yX8_leftmost cX8_leftmost 3 (some .int), Cond.methodLink RX8 107 yX8_faultAt, Cond.instanceMethod yX8_faultAt, Cond.selects RX8 yX8_faultAt yX8_faultAt, Cond.code yX8_faultAt cX8_faultAt 4 (some .int), Cond.methodLink RX8 97 yX8_isGuarded, Cond.instanceMethod yX8_isGuarded]
def wsX8_count_r3 : List Cond := [Cond.selects RX8 yX8_isGuarded yX8_isGuarded, Cond.code yX8_isGuarded cX8_isGuarded 5 (some .boolean), Cond.methodLink RX8 148 yX8_countAll, Cond.instanceMethod yX8_countAll, Cond.selects RX8 yX8_countAll yX8_countAll, Cond.code yX8_countAll cX8_countAll 7 none, Cond.methodLink RX8 141 yX8_countAt, Cond.instanceMethod yX8_countAt, Cond.selects RX8 yX8_countAt yX8_countAt, Cond.code yX8_countAt cX8_countAt 8 (some .long)]
def wsX8_count : List Cond := .code yX8_count cX8_count 3 (some .long) :: ((wsX8_count_r1 ++ (wsX8_count_r2 ++ wsX8_count_r3)) ++ wsX80)
def wsX8_countOpen : List Cond := .code yX8_countOpen cX8_countOpen 5 (some .long) :: ([.fieldLink RX8 67 "GuardedGrammarModel" "row" "[J", .fieldLink RX8 116 "GuardedGrammarModel" "open" "I", .fieldLink RX8 70 "GuardedGrammarModel" "other" "[J", .fieldLink RX8 63 "GuardedGrammarModel" "counts" "[J", .fieldLink RX8 57 "GuardedGrammarModel" "todo" "[I"] ++ wsX80)
def wsX8_keep : List Cond := .code yX8_keep cX8_keep 2 none :: ([.fieldLink RX8 116 "GuardedGrammarModel" "open" "I", .fieldLink RX8 151 "GuardedGrammarModel" "saved" "I", .fieldLink RX8 60 "GuardedGrammarModel" "todoSaved" "[I", .fieldLink RX8 57 "GuardedGrammarModel" "todo" "[I"] ++ wsX80)
def wsX8_back : List Cond := .code yX8_back cX8_back 2 none :: ([.fieldLink RX8 126 "GuardedGrammarModel" "fresh" "I", .fieldLink RX8 151 "GuardedGrammarModel" "saved" "I", .fieldLink RX8 116 "GuardedGrammarModel" "open" "I", .fieldLink RX8 57 "GuardedGrammarModel" "todo" "[I", .fieldLink RX8 60 "GuardedGrammarModel" "todoSaved" "[I"] ++ wsX80)
def wsX8_find_r1 : List Cond := [Cond.fieldLink RX8 73 "GuardedGrammarModel" "thrown" "I", Cond.fieldLink RX8 63 "GuardedGrammarModel" "counts" "[J", Cond.fieldLink RX8 44 "GuardedGrammarModel" "word" "[I", Cond.fieldLink RX8 126 "GuardedGrammarModel" "fresh" "I", Cond.fieldLink RX8 113 "GuardedGrammarModel" "letters" "I", Cond.methodLink RX8 145 yX8_wrongCount, Cond.instanceMethod yX8_wrongCount, Cond.selects RX8 yX8_wrongCount yX8_wrongCount, Cond.initialized RX8, Cond.code yX8_wrongCount cX8_wrongCount 3 (some .int), Cond.methodLink RX8 83 yX8_isTerm, Cond.instanceMethod yX8_isTerm, Cond.selects RX8 yX8_isTerm yX8_isTerm, Cond.code yX8_isTerm cX8_isTerm 2 (some .boolean), Cond.fieldLink RX8 76 "GuardedGrammarModel" "terms" "I", Cond.methodLink RX8 110 yX8_faultOf, Cond.instanceMethod yX8_faultOf, Cond.selects RX8 yX8_faultOf yX8_faultOf, Cond.code yX8_faultOf cX8_faultOf 4 (some .int), Cond.fieldLink RX8 22 "GuardedGrammarModel" "whole" "[I", Cond.fieldLink RX8 19 "GuardedGrammarModel" "two" "[I", Cond.methodLink RX8 100 yX8_typeAll, Cond.instanceMethod yX8_typeAll, Cond.selects RX8 yX8_typeAll yX8_typeAll]
def wsX8_find_r2 : List Cond := [Cond.code yX8_typeAll cX8_typeAll 4 none, Cond.fieldLink RX8 38 "GuardedGrammarModel" "inside" "[Z", Cond.methodLink RX8 90 yX8_gather, Cond.instanceMethod yX8_gather, Cond.selects RX8 yX8_gather yX8_gather, Cond.code yX8_gather cX8_gather 4 none, Cond.fieldLink RX8 41 "GuardedGrammarModel" "binder" "[I", Cond.fieldLink RX8 7 "GuardedGrammarModel" "kind" "[I", Cond.fieldLink RX8 13 "GuardedGrammarModel" "sign" "[I", Cond.fieldLink RX8 28 "GuardedGrammarModel" "nullable" "[Z", Cond.fieldLink RX8 32 "GuardedGrammarModel" "first" "[I", Cond.fieldLink RX8 35 "GuardedGrammarModel" "after" "[I", Cond.methodLink RX8 94 yX8_grow, Cond.instanceMethod yX8_grow, Cond.selects RX8 yX8_grow yX8_grow, Cond.code yX8_grow cX8_grow 8 (some .boolean), Cond.fieldLink RX8 16 "GuardedGrammarModel" "one" "[I", Cond.methodLink RX8 103 yX8_leftmost, Cond.instanceMethod yX8_leftmost, Cond.selects RX8 yX8_leftmost yX8_leftmost, Cond.code yX8_leftmost cX8_leftmost 3 (some .int), Cond.methodLink RX8 107 yX8_faultAt, Cond.instanceMethod yX8_faultAt, Cond.selects RX8 yX8_faultAt yX8_faultAt]
def wsX8_find_r3 : List Cond := [Cond.code yX8_faultAt cX8_faultAt 4 (some .int), Cond.methodLink RX8 97 yX8_isGuarded, Cond.instanceMethod yX8_isGuarded, Cond.selects RX8 yX8_isGuarded yX8_isGuarded, Cond.code yX8_isGuarded cX8_isGuarded 5 (some .boolean), Cond.methodLink RX8 148 yX8_countAll, Cond.instanceMethod yX8_countAll, Cond.selects RX8 yX8_countAll yX8_countAll, Cond.code yX8_countAll cX8_countAll 7 none, Cond.methodLink RX8 141 yX8_countAt, Cond.instanceMethod yX8_countAt, Cond.selects RX8 yX8_countAt yX8_countAt, Cond.code yX8_countAt cX8_countAt 8 (some .long), Cond.methodLink RX8 129 yX8_beginAt, Cond.instanceMethod yX8_beginAt, Cond.selects RX8 yX8_beginAt yX8_beginAt, Cond.code yX8_beginAt cX8_beginAt 2 none, Cond.fieldLink RX8 57 "GuardedGrammarModel" "todo" "[I", Cond.fieldLink RX8 116 "GuardedGrammarModel" "open" "I", Cond.fieldLink RX8 119 "GuardedGrammarModel" "visited" "I", Cond.methodLink RX8 154 yX8_keep, Cond.instanceMethod yX8_keep, Cond.selects RX8 yX8_keep yX8_keep, Cond.code yX8_keep cX8_keep 2 none]
def wsX8_find_r4 : List Cond := [Cond.fieldLink RX8 151 "GuardedGrammarModel" "saved" "I", Cond.fieldLink RX8 60 "GuardedGrammarModel" "todoSaved" "[I", Cond.methodLink RX8 132 yX8_go, Cond.instanceMethod yX8_go, Cond.selects RX8 yX8_go yX8_go, Cond.code yX8_go cX8_go 4 (some .int), Cond.fieldLink RX8 54 "GuardedGrammarModel" "met" "[I", Cond.methodLink RX8 122 yX8_choice, Cond.instanceMethod yX8_choice, Cond.selects RX8 yX8_choice yX8_choice, Cond.code yX8_choice cX8_choice 5 (some .int), Cond.methodLink RX8 157 yX8_countOpen, Cond.instanceMethod yX8_countOpen, Cond.selects RX8 yX8_countOpen yX8_countOpen, Cond.code yX8_countOpen cX8_countOpen 5 (some .long), Cond.fieldLink RX8 67 "GuardedGrammarModel" "row" "[J", Cond.fieldLink RX8 70 "GuardedGrammarModel" "other" "[J", Cond.methodLink RX8 161 yX8_back, Cond.instanceMethod yX8_back, Cond.selects RX8 yX8_back yX8_back, Cond.code yX8_back cX8_back 2 none]
def wsX8_find : List Cond := .code yX8_find cX8_find 12 none :: ((wsX8_find_r1 ++ (wsX8_find_r2 ++ (wsX8_find_r3 ++ wsX8_find_r4))) ++ wsX80)
def wsJ9_max_7cf53 : List Cond := .code yJ9_max_7cf53 cJ9_max_7cf53 2 (some .int) :: ([])
def wsL_leaf_r1 : List Cond := [Cond.classLink RL 13 "java/lang/IllegalArgumentException", Cond.classLink RL 15 "java/lang/UnsupportedOperationException", Cond.methodLink RL 7 yX7_leaf, Cond.instanceMethod yX7_leaf, Cond.selects RX7 yX7_leaf yX7_leaf, Cond.initialized RX7, Cond.code yX7_leaf cX7_leaf 2 (some .int), Cond.classLink RX7 61 "java/lang/IllegalArgumentException", Cond.initialized "java/lang/IllegalArgumentException", Cond.fieldLink RX7 12 "GuardedGrammar" "terms" "LGuardedGrammar$Terms;", Cond.methodLink RX7 64 yX7_needRoom, Cond.instanceMethod yX7_needRoom, Cond.selects RX7 yX7_needRoom yX7_needRoom, Cond.code yX7_needRoom cX7_needRoom 1 none, Cond.classLink RX7 89 "java/lang/UnsupportedOperationException", Cond.initialized "java/lang/UnsupportedOperationException", Cond.methodLink RX7 174 yX4_isFull, Cond.instanceMethod yX4_isFull, Cond.selects RX4 yX4_isFull yX4_isFull, Cond.initialized RX4, Cond.code yX4_isFull cX4_isFull 1 (some .boolean), Cond.fieldLink RX4 30 "GuardedGrammar$Terms" "size" "I", Cond.methodLink RX7 67 yX4_add, Cond.instanceMethod yX4_add]
def wsL_leaf_r2 : List Cond := [Cond.selects RX4 yX4_add yX4_add, Cond.code yX4_add cX4_add 6 (some .int), Cond.fieldLink RX4 9 "GuardedGrammar$Terms" "kinds" "[I", Cond.fieldLink RX4 15 "GuardedGrammar$Terms" "values" "[I", Cond.fieldLink RX4 18 "GuardedGrammar$Terms" "lefts" "[I", Cond.fieldLink RX4 21 "GuardedGrammar$Terms" "rights" "[I", Cond.fieldLink RX4 24 "GuardedGrammar$Terms" "wholes" "[I", Cond.fieldLink RX4 27 "GuardedGrammar$Terms" "knots" "[I", Cond.methodLink RX4 38 Lib.Math.max.name, Cond.static Lib.Math.max.name, Cond.initialized "java/lang/Math", Cond.code Lib.Math.max.name Lib.Math.max.code 2 (some .int), Cond.methodLink RX4 34 yX4_knotsIn, Cond.instanceMethod yX4_knotsIn, Cond.selects RX4 yX4_knotsIn yX4_knotsIn, Cond.code yX4_knotsIn cX4_knotsIn 2 (some .int), Cond.methodLink RX4 44 yX4_makePart, Cond.instanceMethod yX4_makePart, Cond.selects RX4 yX4_makePart yX4_makePart, Cond.code yX4_makePart cX4_makePart 3 none]
def wsL_leaf : List Cond := .codeWith yL_leaf cL_leaf 4 (some .int) [(0, 9, 12, 13), (0, 9, 15, 15)] :: ((wsL_leaf_r1 ++ wsL_leaf_r2) ++ wsX70 ++ wsX40 ++ (vx_at0 RX7 63 "java/lang/IllegalArgumentException" ["java/lang/RuntimeException", "java/lang/Exception"]).filter goodWord ++ (vx_at0 RX7 91 "java/lang/UnsupportedOperationException" ["java/lang/RuntimeException", "java/lang/Exception"]).filter goodWord)
def wsL_variable_r1 : List Cond := [Cond.classLink RL 13 "java/lang/IllegalArgumentException", Cond.classLink RL 15 "java/lang/UnsupportedOperationException", Cond.methodLink RL 17 yX7_variable, Cond.instanceMethod yX7_variable, Cond.selects RX7 yX7_variable yX7_variable, Cond.initialized RX7, Cond.code yX7_variable cX7_variable 2 (some .int), Cond.fieldLink RX7 12 "GuardedGrammar" "terms" "LGuardedGrammar$Terms;", Cond.methodLink RX7 71 yX7_needVariable, Cond.instanceMethod yX7_needVariable, Cond.selects RX7 yX7_needVariable yX7_needVariable, Cond.code yX7_needVariable cX7_needVariable 2 none, Cond.classLink RX7 61 "java/lang/IllegalArgumentException", Cond.initialized "java/lang/IllegalArgumentException", Cond.methodLink RX7 64 yX7_needRoom, Cond.instanceMethod yX7_needRoom, Cond.selects RX7 yX7_needRoom yX7_needRoom, Cond.code yX7_needRoom cX7_needRoom 1 none, Cond.classLink RX7 89 "java/lang/UnsupportedOperationException", Cond.initialized "java/lang/UnsupportedOperationException", Cond.methodLink RX7 174 yX4_isFull, Cond.instanceMethod yX4_isFull, Cond.selects RX4 yX4_isFull yX4_isFull, Cond.initialized RX4]
def wsL_variable_r2 : List Cond := [Cond.code yX4_isFull cX4_isFull 1 (some .boolean), Cond.fieldLink RX4 30 "GuardedGrammar$Terms" "size" "I", Cond.methodLink RX7 67 yX4_add, Cond.instanceMethod yX4_add, Cond.selects RX4 yX4_add yX4_add, Cond.code yX4_add cX4_add 6 (some .int), Cond.fieldLink RX4 9 "GuardedGrammar$Terms" "kinds" "[I", Cond.fieldLink RX4 15 "GuardedGrammar$Terms" "values" "[I", Cond.fieldLink RX4 18 "GuardedGrammar$Terms" "lefts" "[I", Cond.fieldLink RX4 21 "GuardedGrammar$Terms" "rights" "[I", Cond.fieldLink RX4 24 "GuardedGrammar$Terms" "wholes" "[I", Cond.fieldLink RX4 27 "GuardedGrammar$Terms" "knots" "[I", Cond.methodLink RX4 38 Lib.Math.max.name, Cond.static Lib.Math.max.name, Cond.initialized "java/lang/Math", Cond.code Lib.Math.max.name Lib.Math.max.code 2 (some .int), Cond.methodLink RX4 34 yX4_knotsIn, Cond.instanceMethod yX4_knotsIn, Cond.selects RX4 yX4_knotsIn yX4_knotsIn, Cond.code yX4_knotsIn cX4_knotsIn 2 (some .int), Cond.methodLink RX4 44 yX4_makePart, Cond.instanceMethod yX4_makePart, Cond.selects RX4 yX4_makePart yX4_makePart, Cond.code yX4_makePart cX4_makePart 3 none]
def wsL_variable : List Cond := .codeWith yL_variable cL_variable 4 (some .int) [(0, 9, 12, 13), (0, 9, 15, 15)] :: ((wsL_variable_r1 ++ wsL_variable_r2) ++ wsX70 ++ wsX40 ++ (vx_at0 RX7 63 "java/lang/IllegalArgumentException" ["java/lang/RuntimeException", "java/lang/Exception"]).filter goodWord ++ (vx_at0 RX7 91 "java/lang/UnsupportedOperationException" ["java/lang/RuntimeException", "java/lang/Exception"]).filter goodWord)
def wsL_join_r1 : List Cond := [Cond.classLink RL 24 "java/lang/IndexOutOfBoundsException", Cond.classLink RL 26 "java/lang/IllegalStateException", Cond.classLink RL 15 "java/lang/UnsupportedOperationException", Cond.methodLink RL 20 yX7_join, Cond.instanceMethod yX7_join, Cond.selects RX7 yX7_join yX7_join, Cond.initialized RX7, Cond.code yX7_join cX7_join 4 (some .int), Cond.classLink RX7 82 "java/lang/IllegalStateException", Cond.initialized "java/lang/IllegalStateException", Cond.fieldLink RX7 12 "GuardedGrammar" "terms" "LGuardedGrammar$Terms;", Cond.methodLink RX7 75 yX7_needTerm, Cond.instanceMethod yX7_needTerm, Cond.selects RX7 yX7_needTerm yX7_needTerm, Cond.code yX7_needTerm cX7_needTerm 2 none, Cond.classLink RX7 105 "java/lang/IndexOutOfBoundsException", Cond.initialized "java/lang/IndexOutOfBoundsException", Cond.methodLink RX7 171 yX4_has, Cond.instanceMethod yX4_has, Cond.selects RX4 yX4_has yX4_has, Cond.initialized RX4, Cond.code yX4_has cX4_has 2 (some .boolean), Cond.fieldLink RX4 30 "GuardedGrammar$Terms" "size" "I", Cond.methodLink RX7 78 yX4_isPart]
def wsL_join_r2 : List Cond := [Cond.instanceMethod yX4_isPart, Cond.selects RX4 yX4_isPart yX4_isPart, Cond.code yX4_isPart cX4_isPart 2 (some .boolean), Cond.fieldLink RX4 24 "GuardedGrammar$Terms" "wholes" "[I", Cond.methodLink RX7 64 yX7_needRoom, Cond.instanceMethod yX7_needRoom, Cond.selects RX7 yX7_needRoom yX7_needRoom, Cond.code yX7_needRoom cX7_needRoom 1 none, Cond.classLink RX7 89 "java/lang/UnsupportedOperationException", Cond.initialized "java/lang/UnsupportedOperationException", Cond.methodLink RX7 174 yX4_isFull, Cond.instanceMethod yX4_isFull, Cond.selects RX4 yX4_isFull yX4_isFull, Cond.code yX4_isFull cX4_isFull 1 (some .boolean), Cond.methodLink RX7 67 yX4_add, Cond.instanceMethod yX4_add, Cond.selects RX4 yX4_add yX4_add, Cond.code yX4_add cX4_add 6 (some .int), Cond.fieldLink RX4 9 "GuardedGrammar$Terms" "kinds" "[I", Cond.fieldLink RX4 15 "GuardedGrammar$Terms" "values" "[I", Cond.fieldLink RX4 18 "GuardedGrammar$Terms" "lefts" "[I", Cond.fieldLink RX4 21 "GuardedGrammar$Terms" "rights" "[I", Cond.fieldLink RX4 27 "GuardedGrammar$Terms" "knots" "[I", Cond.methodLink RX4 38 Lib.Math.max.name]
def wsL_join_r3 : List Cond := [Cond.static Lib.Math.max.name, Cond.initialized "java/lang/Math", Cond.code Lib.Math.max.name Lib.Math.max.code 2 (some .int), Cond.methodLink RX4 34 yX4_knotsIn, Cond.instanceMethod yX4_knotsIn, Cond.selects RX4 yX4_knotsIn yX4_knotsIn, Cond.code yX4_knotsIn cX4_knotsIn 2 (some .int), Cond.methodLink RX4 44 yX4_makePart, Cond.instanceMethod yX4_makePart, Cond.selects RX4 yX4_makePart yX4_makePart, Cond.code yX4_makePart cX4_makePart 3 none]
def wsL_join : List Cond := .codeWith yL_join cL_join 6 (some .int) [(0, 12, 15, 24), (0, 12, 19, 26), (0, 12, 23, 15)] :: ((wsL_join_r1 ++ (wsL_join_r2 ++ wsL_join_r3)) ++ wsX70 ++ wsX40 ++ (vx_at0 RX7 84 "java/lang/IllegalStateException" ["java/lang/RuntimeException", "java/lang/Exception"]).filter goodWord ++ (vx_at0 RX7 107 "java/lang/IndexOutOfBoundsException" ["java/lang/RuntimeException", "java/lang/Exception"]).filter goodWord ++ (vx_at0 RX7 91 "java/lang/UnsupportedOperationException" ["java/lang/RuntimeException", "java/lang/Exception"]).filter goodWord)
def wsL_knot_r1 : List Cond := [Cond.classLink RL 24 "java/lang/IndexOutOfBoundsException", Cond.classLink RL 26 "java/lang/IllegalStateException", Cond.classLink RL 13 "java/lang/IllegalArgumentException", Cond.classLink RL 15 "java/lang/UnsupportedOperationException", Cond.methodLink RL 28 yX7_knot, Cond.instanceMethod yX7_knot, Cond.selects RX7 yX7_knot yX7_knot, Cond.initialized RX7, Cond.code yX7_knot cX7_knot 3 (some .int), Cond.classLink RX7 82 "java/lang/IllegalStateException", Cond.initialized "java/lang/IllegalStateException", Cond.classLink RX7 89 "java/lang/UnsupportedOperationException", Cond.initialized "java/lang/UnsupportedOperationException", Cond.fieldLink RX7 12 "GuardedGrammar" "terms" "LGuardedGrammar$Terms;", Cond.methodLink RX7 75 yX7_needTerm, Cond.instanceMethod yX7_needTerm, Cond.selects RX7 yX7_needTerm yX7_needTerm, Cond.code yX7_needTerm cX7_needTerm 2 none, Cond.classLink RX7 105 "java/lang/IndexOutOfBoundsException", Cond.initialized "java/lang/IndexOutOfBoundsException", Cond.methodLink RX7 171 yX4_has, Cond.instanceMethod yX4_has, Cond.selects RX4 yX4_has yX4_has, Cond.initialized RX4]
def wsL_knot_r2 : List Cond := [Cond.code yX4_has cX4_has 2 (some .boolean), Cond.fieldLink RX4 30 "GuardedGrammar$Terms" "size" "I", Cond.methodLink RX7 78 yX4_isPart, Cond.instanceMethod yX4_isPart, Cond.selects RX4 yX4_isPart yX4_isPart, Cond.code yX4_isPart cX4_isPart 2 (some .boolean), Cond.fieldLink RX4 24 "GuardedGrammar$Terms" "wholes" "[I", Cond.methodLink RX7 71 yX7_needVariable, Cond.instanceMethod yX7_needVariable, Cond.selects RX7 yX7_needVariable yX7_needVariable, Cond.code yX7_needVariable cX7_needVariable 2 none, Cond.classLink RX7 61 "java/lang/IllegalArgumentException", Cond.initialized "java/lang/IllegalArgumentException", Cond.methodLink RX7 64 yX7_needRoom, Cond.instanceMethod yX7_needRoom, Cond.selects RX7 yX7_needRoom yX7_needRoom, Cond.code yX7_needRoom cX7_needRoom 1 none, Cond.methodLink RX7 174 yX4_isFull, Cond.instanceMethod yX4_isFull, Cond.selects RX4 yX4_isFull yX4_isFull, Cond.code yX4_isFull cX4_isFull 1 (some .boolean), Cond.methodLink RX7 85 yX4_knotsIn, Cond.instanceMethod yX4_knotsIn, Cond.selects RX4 yX4_knotsIn yX4_knotsIn]
def wsL_knot_r3 : List Cond := [Cond.code yX4_knotsIn cX4_knotsIn 2 (some .int), Cond.fieldLink RX4 27 "GuardedGrammar$Terms" "knots" "[I", Cond.methodLink RX7 67 yX4_add, Cond.instanceMethod yX4_add, Cond.selects RX4 yX4_add yX4_add, Cond.code yX4_add cX4_add 6 (some .int), Cond.fieldLink RX4 9 "GuardedGrammar$Terms" "kinds" "[I", Cond.fieldLink RX4 15 "GuardedGrammar$Terms" "values" "[I", Cond.fieldLink RX4 18 "GuardedGrammar$Terms" "lefts" "[I", Cond.fieldLink RX4 21 "GuardedGrammar$Terms" "rights" "[I", Cond.methodLink RX4 38 Lib.Math.max.name, Cond.static Lib.Math.max.name, Cond.initialized "java/lang/Math", Cond.code Lib.Math.max.name Lib.Math.max.code 2 (some .int), Cond.methodLink RX4 34 yX4_knotsIn, Cond.methodLink RX4 44 yX4_makePart, Cond.instanceMethod yX4_makePart, Cond.selects RX4 yX4_makePart yX4_makePart, Cond.code yX4_makePart cX4_makePart 3 none]
def wsL_knot : List Cond := .codeWith yL_knot cL_knot 5 (some .int) [(0, 10, 13, 24), (0, 10, 17, 26), (0, 10, 21, 13), (0, 10, 25, 15)] :: ((wsL_knot_r1 ++ (wsL_knot_r2 ++ wsL_knot_r3)) ++ wsX70 ++ wsX40 ++ (vx_at0 RX7 84 "java/lang/IllegalStateException" ["java/lang/RuntimeException", "java/lang/Exception"]).filter goodWord ++ (vx_at0 RX7 91 "java/lang/UnsupportedOperationException" ["java/lang/RuntimeException", "java/lang/Exception"]).filter goodWord ++ (vx_at0 RX7 107 "java/lang/IndexOutOfBoundsException" ["java/lang/RuntimeException", "java/lang/Exception"]).filter goodWord ++ (vx_at0 RX7 63 "java/lang/IllegalArgumentException" ["java/lang/RuntimeException", "java/lang/Exception"]).filter goodWord)
def wsL_fault_r1 : List Cond := [Cond.classLink RL 24 "java/lang/IndexOutOfBoundsException", Cond.methodLink RL 32 yX7_fault, Cond.instanceMethod yX7_fault, Cond.selects RX7 yX7_fault yX7_fault, Cond.initialized RX7, Cond.code yX7_fault cX7_fault 2 (some .int), Cond.fieldLink RX7 21 "GuardedGrammar" "typing" "LGuardedGrammar$Typing;", Cond.methodLink RX7 75 yX7_needTerm, Cond.instanceMethod yX7_needTerm, Cond.selects RX7 yX7_needTerm yX7_needTerm, Cond.code yX7_needTerm cX7_needTerm 2 none, Cond.classLink RX7 105 "java/lang/IndexOutOfBoundsException", Cond.initialized "java/lang/IndexOutOfBoundsException", Cond.fieldLink RX7 12 "GuardedGrammar" "terms" "LGuardedGrammar$Terms;", Cond.methodLink RX7 171 yX4_has, Cond.instanceMethod yX4_has, Cond.selects RX4 yX4_has yX4_has, Cond.initialized RX4, Cond.code yX4_has cX4_has 2 (some .boolean), Cond.fieldLink RX4 30 "GuardedGrammar$Terms" "size" "I", Cond.methodLink RX7 99 yX5_study, Cond.instanceMethod yX5_study, Cond.selects RX5 yX5_study yX5_study, Cond.initialized RX5]
def wsL_fault_r2 : List Cond := [Cond.code yX5_study cX5_study 3 none, Cond.fieldLink RX5 34 "GuardedGrammar$Typing" "start" "I", Cond.fieldLink RX5 9 "GuardedGrammar$Typing" "order" "[I", Cond.methodLink RX5 42 yX5_lineUp, Cond.instanceMethod yX5_lineUp, Cond.selects RX5 yX5_lineUp yX5_lineUp, Cond.code yX5_lineUp cX5_lineUp 4 none, Cond.fieldLink RX5 15 "GuardedGrammar$Typing" "waiting" "[I", Cond.fieldLink RX5 38 "GuardedGrammar$Typing" "terms" "LGuardedGrammar$Terms;", Cond.methodLink RX5 53 yX4_left, Cond.instanceMethod yX4_left, Cond.selects RX4 yX4_left yX4_left, Cond.code yX4_left cX4_left 2 (some .int), Cond.fieldLink RX4 18 "GuardedGrammar$Terms" "lefts" "[I", Cond.methodLink RX5 59 yX4_right, Cond.instanceMethod yX4_right, Cond.selects RX4 yX4_right yX4_right, Cond.code yX4_right cX4_right 2 (some .int), Cond.fieldLink RX4 21 "GuardedGrammar$Terms" "rights" "[I", Cond.methodLink RX5 46 yX5_bind, Cond.instanceMethod yX5_bind, Cond.selects RX5 yX5_bind yX5_bind, Cond.code yX5_bind cX5_bind 6 none, Cond.fieldLink RX5 18 "GuardedGrammar$Typing" "binders" "[I"]
def wsL_fault_r3 : List Cond := [Cond.fieldLink RX5 21 "GuardedGrammar$Typing" "guarded" "[Z", Cond.methodLink RX5 65 yX4_kind, Cond.instanceMethod yX4_kind, Cond.selects RX4 yX4_kind yX4_kind, Cond.code yX4_kind cX4_kind 2 (some .int), Cond.fieldLink RX4 9 "GuardedGrammar$Terms" "kinds" "[I", Cond.methodLink RX5 68 yX4_whole, Cond.instanceMethod yX4_whole, Cond.selects RX4 yX4_whole yX4_whole, Cond.code yX4_whole cX4_whole 2 (some .int), Cond.fieldLink RX4 24 "GuardedGrammar$Terms" "wholes" "[I", Cond.methodLink RX5 71 yX4_value, Cond.instanceMethod yX4_value, Cond.selects RX4 yX4_value yX4_value, Cond.code yX4_value cX4_value 2 (some .int), Cond.fieldLink RX4 15 "GuardedGrammar$Terms" "values" "[I", Cond.methodLink RX5 50 yX5_inferTypes, Cond.instanceMethod yX5_inferTypes, Cond.selects RX5 yX5_inferTypes yX5_inferTypes, Cond.code yX5_inferTypes cX5_inferTypes 4 none, Cond.fieldLink RX5 25 "GuardedGrammar$Typing" "nullable" "[Z", Cond.fieldLink RX5 28 "GuardedGrammar$Typing" "firsts" "[I", Cond.fieldLink RX5 31 "GuardedGrammar$Typing" "afters" "[I", Cond.methodLink RX5 74 yX5_widen]
def wsL_fault_r4 : List Cond := [Cond.instanceMethod yX5_widen, Cond.selects RX5 yX5_widen yX5_widen, Cond.code yX5_widen cX5_widen 3 (some .boolean), Cond.methodLink RX5 78 yX5_addToType, Cond.instanceMethod yX5_addToType, Cond.selects RX5 yX5_addToType yX5_addToType, Cond.code yX5_addToType cX5_addToType 6 (some .boolean), Cond.methodLink RX5 82 yX5_widenPair, Cond.instanceMethod yX5_widenPair, Cond.selects RX5 yX5_widenPair yX5_widenPair, Cond.code yX5_widenPair cX5_widenPair 6 (some .boolean), Cond.methodLink RX5 86 yX5_addTypeOf, Cond.instanceMethod yX5_addTypeOf, Cond.selects RX5 yX5_addTypeOf yX5_addTypeOf, Cond.code yX5_addTypeOf cX5_addTypeOf 3 (some .boolean), Cond.methodLink RX7 102 yX5_firstFault, Cond.instanceMethod yX5_firstFault, Cond.selects RX5 yX5_firstFault yX5_firstFault, Cond.code yX5_firstFault cX5_firstFault 3 (some .int), Cond.methodLink RX5 62 yX5_faultAt, Cond.instanceMethod yX5_faultAt, Cond.selects RX5 yX5_faultAt yX5_faultAt, Cond.code yX5_faultAt cX5_faultAt 2 (some .int), Cond.methodLink RX5 90 yX5_isLoose]
def wsL_fault_r5 : List Cond := [Cond.instanceMethod yX5_isLoose, Cond.selects RX5 yX5_isLoose yX5_isLoose, Cond.code yX5_isLoose cX5_isLoose 3 (some .boolean), Cond.methodLink RX5 93 yX5_isDouble, Cond.instanceMethod yX5_isDouble, Cond.selects RX5 yX5_isDouble yX5_isDouble, Cond.code yX5_isDouble cX5_isDouble 3 (some .boolean)]
def wsL_fault : List Cond := .codeWith yL_fault cL_fault 4 (some .int) [(0, 9, 12, 24)] :: ((wsL_fault_r1 ++ (wsL_fault_r2 ++ (wsL_fault_r3 ++ (wsL_fault_r4 ++ wsL_fault_r5)))) ++ wsX70 ++ wsX40 ++ wsX50 ++ (vx_at0 RX7 107 "java/lang/IndexOutOfBoundsException" ["java/lang/RuntimeException", "java/lang/Exception"]).filter goodWord)
def wsL_type_r1 : List Cond := [Cond.classLink RL 24 "java/lang/IndexOutOfBoundsException", Cond.classLink RL 26 "java/lang/IllegalStateException", Cond.methodLink RL 35 yX7_type, Cond.instanceMethod yX7_type, Cond.selects RX7 yX7_type yX7_type, Cond.initialized RX7, Cond.code yX7_type cX7_type 3 (some .int), Cond.classLink RX7 105 "java/lang/IndexOutOfBoundsException", Cond.initialized "java/lang/IndexOutOfBoundsException", Cond.fieldLink RX7 21 "GuardedGrammar" "typing" "LGuardedGrammar$Typing;", Cond.methodLink RX7 75 yX7_needTerm, Cond.instanceMethod yX7_needTerm, Cond.selects RX7 yX7_needTerm yX7_needTerm, Cond.code yX7_needTerm cX7_needTerm 2 none, Cond.fieldLink RX7 12 "GuardedGrammar" "terms" "LGuardedGrammar$Terms;", Cond.methodLink RX7 171 yX4_has, Cond.instanceMethod yX4_has, Cond.selects RX4 yX4_has yX4_has, Cond.initialized RX4, Cond.code yX4_has cX4_has 2 (some .boolean), Cond.fieldLink RX4 30 "GuardedGrammar$Terms" "size" "I", Cond.methodLink RX7 108 yX7_needTyped, Cond.instanceMethod yX7_needTyped, Cond.selects RX7 yX7_needTyped yX7_needTyped]
def wsL_type_r2 : List Cond := [Cond.code yX7_needTyped cX7_needTyped 2 none, Cond.classLink RX7 82 "java/lang/IllegalStateException", Cond.initialized "java/lang/IllegalStateException", Cond.methodLink RX7 99 yX5_study, Cond.instanceMethod yX5_study, Cond.selects RX5 yX5_study yX5_study, Cond.initialized RX5, Cond.code yX5_study cX5_study 3 none, Cond.fieldLink RX5 34 "GuardedGrammar$Typing" "start" "I", Cond.fieldLink RX5 9 "GuardedGrammar$Typing" "order" "[I", Cond.methodLink RX5 42 yX5_lineUp, Cond.instanceMethod yX5_lineUp, Cond.selects RX5 yX5_lineUp yX5_lineUp, Cond.code yX5_lineUp cX5_lineUp 4 none, Cond.fieldLink RX5 15 "GuardedGrammar$Typing" "waiting" "[I", Cond.fieldLink RX5 38 "GuardedGrammar$Typing" "terms" "LGuardedGrammar$Terms;", Cond.methodLink RX5 53 yX4_left, Cond.instanceMethod yX4_left, Cond.selects RX4 yX4_left yX4_left, Cond.code yX4_left cX4_left 2 (some .int), Cond.fieldLink RX4 18 "GuardedGrammar$Terms" "lefts" "[I", Cond.methodLink RX5 59 yX4_right, Cond.instanceMethod yX4_right, Cond.selects RX4 yX4_right yX4_right]
def wsL_type_r3 : List Cond := [Cond.code yX4_right cX4_right 2 (some .int), Cond.fieldLink RX4 21 "GuardedGrammar$Terms" "rights" "[I", Cond.methodLink RX5 46 yX5_bind, Cond.instanceMethod yX5_bind, Cond.selects RX5 yX5_bind yX5_bind, Cond.code yX5_bind cX5_bind 6 none, Cond.fieldLink RX5 18 "GuardedGrammar$Typing" "binders" "[I", Cond.fieldLink RX5 21 "GuardedGrammar$Typing" "guarded" "[Z", Cond.methodLink RX5 65 yX4_kind, Cond.instanceMethod yX4_kind, Cond.selects RX4 yX4_kind yX4_kind, Cond.code yX4_kind cX4_kind 2 (some .int), Cond.fieldLink RX4 9 "GuardedGrammar$Terms" "kinds" "[I", Cond.methodLink RX5 68 yX4_whole, Cond.instanceMethod yX4_whole, Cond.selects RX4 yX4_whole yX4_whole, Cond.code yX4_whole cX4_whole 2 (some .int), Cond.fieldLink RX4 24 "GuardedGrammar$Terms" "wholes" "[I", Cond.methodLink RX5 71 yX4_value, Cond.instanceMethod yX4_value, Cond.selects RX4 yX4_value yX4_value, Cond.code yX4_value cX4_value 2 (some .int), Cond.fieldLink RX4 15 "GuardedGrammar$Terms" "values" "[I", Cond.methodLink RX5 50 yX5_inferTypes]
def wsL_type_r4 : List Cond := [Cond.instanceMethod yX5_inferTypes, Cond.selects RX5 yX5_inferTypes yX5_inferTypes, Cond.code yX5_inferTypes cX5_inferTypes 4 none, Cond.fieldLink RX5 25 "GuardedGrammar$Typing" "nullable" "[Z", Cond.fieldLink RX5 28 "GuardedGrammar$Typing" "firsts" "[I", Cond.fieldLink RX5 31 "GuardedGrammar$Typing" "afters" "[I", Cond.methodLink RX5 74 yX5_widen, Cond.instanceMethod yX5_widen, Cond.selects RX5 yX5_widen yX5_widen, Cond.code yX5_widen cX5_widen 3 (some .boolean), Cond.methodLink RX5 78 yX5_addToType, Cond.instanceMethod yX5_addToType, Cond.selects RX5 yX5_addToType yX5_addToType, Cond.code yX5_addToType cX5_addToType 6 (some .boolean), Cond.methodLink RX5 82 yX5_widenPair, Cond.instanceMethod yX5_widenPair, Cond.selects RX5 yX5_widenPair yX5_widenPair, Cond.code yX5_widenPair cX5_widenPair 6 (some .boolean), Cond.methodLink RX5 86 yX5_addTypeOf, Cond.instanceMethod yX5_addTypeOf, Cond.selects RX5 yX5_addTypeOf yX5_addTypeOf, Cond.code yX5_addTypeOf cX5_addTypeOf 3 (some .boolean), Cond.methodLink RX7 102 yX5_firstFault, Cond.instanceMethod yX5_firstFault]
def wsL_type_r5 : List Cond := [Cond.selects RX5 yX5_firstFault yX5_firstFault, Cond.code yX5_firstFault cX5_firstFault 3 (some .int), Cond.methodLink RX5 62 yX5_faultAt, Cond.instanceMethod yX5_faultAt, Cond.selects RX5 yX5_faultAt yX5_faultAt, Cond.code yX5_faultAt cX5_faultAt 2 (some .int), Cond.methodLink RX5 90 yX5_isLoose, Cond.instanceMethod yX5_isLoose, Cond.selects RX5 yX5_isLoose yX5_isLoose, Cond.code yX5_isLoose cX5_isLoose 3 (some .boolean), Cond.methodLink RX5 93 yX5_isDouble, Cond.instanceMethod yX5_isDouble, Cond.selects RX5 yX5_isDouble yX5_isDouble, Cond.code yX5_isDouble cX5_isDouble 3 (some .boolean), Cond.methodLink RX7 111 yX5_isNullable, Cond.instanceMethod yX5_isNullable, Cond.selects RX5 yX5_isNullable yX5_isNullable, Cond.code yX5_isNullable cX5_isNullable 2 (some .boolean), Cond.methodLink RX7 114 yX5_firstOf, Cond.instanceMethod yX5_firstOf, Cond.selects RX5 yX5_firstOf yX5_firstOf, Cond.code yX5_firstOf cX5_firstOf 2 (some .int), Cond.methodLink RX7 117 yX5_afterOf, Cond.instanceMethod yX5_afterOf]
def wsL_type_r6 : List Cond := [Cond.selects RX5 yX5_afterOf yX5_afterOf, Cond.code yX5_afterOf cX5_afterOf 2 (some .int)]
def wsL_type : List Cond := .codeWith yL_type cL_type 5 (some .int) [(0, 10, 13, 24), (0, 10, 17, 26)] :: ((wsL_type_r1 ++ (wsL_type_r2 ++ (wsL_type_r3 ++ (wsL_type_r4 ++ (wsL_type_r5 ++ wsL_type_r6))))) ++ wsX70 ++ wsX40 ++ wsX50 ++ (vx_at0 RX7 107 "java/lang/IndexOutOfBoundsException" ["java/lang/RuntimeException", "java/lang/Exception"]).filter goodWord ++ (vx_at0 RX7 84 "java/lang/IllegalStateException" ["java/lang/RuntimeException", "java/lang/Exception"]).filter goodWord)
def wsL_letter : List Cond := .codeWith yL_letter cL_letter 4 (some .int) [(0, 9, 12, 24)] :: ([.classLink RL 24 "java/lang/IndexOutOfBoundsException", .methodLink RL 38 yX7_letter, .instanceMethod yX7_letter, .selects RX7 yX7_letter yX7_letter, .initialized RX7, .code yX7_letter cX7_letter 2 (some .int), .classLink RX7 105 "java/lang/IndexOutOfBoundsException", .initialized "java/lang/IndexOutOfBoundsException", .fieldLink RX7 28 "GuardedGrammar" "word" "LGuardedGrammar$Word;", .methodLink RX7 126 yX6_size, .instanceMethod yX6_size, .selects RX6 yX6_size yX6_size, .initialized RX6, .code yX6_size cX6_size 1 (some .int), .fieldLink RX6 15 "GuardedGrammar$Word" "size" "I", .methodLink RX7 130 yX6_at, .instanceMethod yX6_at, .selects RX6 yX6_at yX6_at, .code yX6_at cX6_at 2 (some .int), .fieldLink RX6 9 "GuardedGrammar$Word" "letters" "[I"] ++ wsX70 ++ wsX60 ++ (vx_at0 RX7 107 "java/lang/IndexOutOfBoundsException" ["java/lang/RuntimeException", "java/lang/Exception"]).filter goodWord)
def wsL_read_r1 : List Cond := [Cond.classLink RL 24 "java/lang/IndexOutOfBoundsException", Cond.classLink RL 26 "java/lang/IllegalStateException", Cond.classLink RL 13 "java/lang/IllegalArgumentException", Cond.methodLink RL 41 yX7_read, Cond.instanceMethod yX7_read, Cond.selects RX7 yX7_read yX7_read, Cond.initialized RX7, Cond.code yX7_read cX7_read 2 (some .int), Cond.classLink RX7 61 "java/lang/IllegalArgumentException", Cond.initialized "java/lang/IllegalArgumentException", Cond.fieldLink RX7 37 "GuardedGrammar" "reader" "LGuardedGrammar$Reader;", Cond.fieldLink RX7 28 "GuardedGrammar" "word" "LGuardedGrammar$Word;", Cond.fieldLink RX7 57 "GuardedGrammar" "stopped" "I", Cond.methodLink RX7 75 yX7_needTerm, Cond.instanceMethod yX7_needTerm, Cond.selects RX7 yX7_needTerm yX7_needTerm, Cond.code yX7_needTerm cX7_needTerm 2 none, Cond.classLink RX7 105 "java/lang/IndexOutOfBoundsException", Cond.initialized "java/lang/IndexOutOfBoundsException", Cond.fieldLink RX7 12 "GuardedGrammar" "terms" "LGuardedGrammar$Terms;", Cond.methodLink RX7 171 yX4_has, Cond.instanceMethod yX4_has, Cond.selects RX4 yX4_has yX4_has, Cond.initialized RX4]
def wsL_read_r2 : List Cond := [Cond.code yX4_has cX4_has 2 (some .boolean), Cond.fieldLink RX4 30 "GuardedGrammar$Terms" "size" "I", Cond.methodLink RX7 108 yX7_needTyped, Cond.instanceMethod yX7_needTyped, Cond.selects RX7 yX7_needTyped yX7_needTyped, Cond.code yX7_needTyped cX7_needTyped 2 none, Cond.classLink RX7 82 "java/lang/IllegalStateException", Cond.initialized "java/lang/IllegalStateException", Cond.fieldLink RX7 21 "GuardedGrammar" "typing" "LGuardedGrammar$Typing;", Cond.methodLink RX7 99 yX5_study, Cond.instanceMethod yX5_study, Cond.selects RX5 yX5_study yX5_study, Cond.initialized RX5, Cond.code yX5_study cX5_study 3 none, Cond.fieldLink RX5 34 "GuardedGrammar$Typing" "start" "I", Cond.fieldLink RX5 9 "GuardedGrammar$Typing" "order" "[I", Cond.methodLink RX5 42 yX5_lineUp, Cond.instanceMethod yX5_lineUp, Cond.selects RX5 yX5_lineUp yX5_lineUp, Cond.code yX5_lineUp cX5_lineUp 4 none, Cond.fieldLink RX5 15 "GuardedGrammar$Typing" "waiting" "[I", Cond.fieldLink RX5 38 "GuardedGrammar$Typing" "terms" "LGuardedGrammar$Terms;", Cond.methodLink RX5 53 yX4_left, Cond.instanceMethod yX4_left]
def wsL_read_r3 : List Cond := [Cond.selects RX4 yX4_left yX4_left, Cond.code yX4_left cX4_left 2 (some .int), Cond.fieldLink RX4 18 "GuardedGrammar$Terms" "lefts" "[I", Cond.methodLink RX5 59 yX4_right, Cond.instanceMethod yX4_right, Cond.selects RX4 yX4_right yX4_right, Cond.code yX4_right cX4_right 2 (some .int), Cond.fieldLink RX4 21 "GuardedGrammar$Terms" "rights" "[I", Cond.methodLink RX5 46 yX5_bind, Cond.instanceMethod yX5_bind, Cond.selects RX5 yX5_bind yX5_bind, Cond.code yX5_bind cX5_bind 6 none, Cond.fieldLink RX5 18 "GuardedGrammar$Typing" "binders" "[I", Cond.fieldLink RX5 21 "GuardedGrammar$Typing" "guarded" "[Z", Cond.methodLink RX5 65 yX4_kind, Cond.instanceMethod yX4_kind, Cond.selects RX4 yX4_kind yX4_kind, Cond.code yX4_kind cX4_kind 2 (some .int), Cond.fieldLink RX4 9 "GuardedGrammar$Terms" "kinds" "[I", Cond.methodLink RX5 68 yX4_whole, Cond.instanceMethod yX4_whole, Cond.selects RX4 yX4_whole yX4_whole, Cond.code yX4_whole cX4_whole 2 (some .int), Cond.fieldLink RX4 24 "GuardedGrammar$Terms" "wholes" "[I"]
def wsL_read_r4 : List Cond := [Cond.methodLink RX5 71 yX4_value, Cond.instanceMethod yX4_value, Cond.selects RX4 yX4_value yX4_value, Cond.code yX4_value cX4_value 2 (some .int), Cond.fieldLink RX4 15 "GuardedGrammar$Terms" "values" "[I", Cond.methodLink RX5 50 yX5_inferTypes, Cond.instanceMethod yX5_inferTypes, Cond.selects RX5 yX5_inferTypes yX5_inferTypes, Cond.code yX5_inferTypes cX5_inferTypes 4 none, Cond.fieldLink RX5 25 "GuardedGrammar$Typing" "nullable" "[Z", Cond.fieldLink RX5 28 "GuardedGrammar$Typing" "firsts" "[I", Cond.fieldLink RX5 31 "GuardedGrammar$Typing" "afters" "[I", Cond.methodLink RX5 74 yX5_widen, Cond.instanceMethod yX5_widen, Cond.selects RX5 yX5_widen yX5_widen, Cond.code yX5_widen cX5_widen 3 (some .boolean), Cond.methodLink RX5 78 yX5_addToType, Cond.instanceMethod yX5_addToType, Cond.selects RX5 yX5_addToType yX5_addToType, Cond.code yX5_addToType cX5_addToType 6 (some .boolean), Cond.methodLink RX5 82 yX5_widenPair, Cond.instanceMethod yX5_widenPair, Cond.selects RX5 yX5_widenPair yX5_widenPair, Cond.code yX5_widenPair cX5_widenPair 6 (some .boolean)]
def wsL_read_r5 : List Cond := [Cond.methodLink RX5 86 yX5_addTypeOf, Cond.instanceMethod yX5_addTypeOf, Cond.selects RX5 yX5_addTypeOf yX5_addTypeOf, Cond.code yX5_addTypeOf cX5_addTypeOf 3 (some .boolean), Cond.methodLink RX7 102 yX5_firstFault, Cond.instanceMethod yX5_firstFault, Cond.selects RX5 yX5_firstFault yX5_firstFault, Cond.code yX5_firstFault cX5_firstFault 3 (some .int), Cond.methodLink RX5 62 yX5_faultAt, Cond.instanceMethod yX5_faultAt, Cond.selects RX5 yX5_faultAt yX5_faultAt, Cond.code yX5_faultAt cX5_faultAt 2 (some .int), Cond.methodLink RX5 90 yX5_isLoose, Cond.instanceMethod yX5_isLoose, Cond.selects RX5 yX5_isLoose yX5_isLoose, Cond.code yX5_isLoose cX5_isLoose 3 (some .boolean), Cond.methodLink RX5 93 yX5_isDouble, Cond.instanceMethod yX5_isDouble, Cond.selects RX5 yX5_isDouble yX5_isDouble, Cond.code yX5_isDouble cX5_isDouble 3 (some .boolean), Cond.methodLink RX7 133 yX0_reads, Cond.instanceMethod yX0_reads, Cond.selects RX0 yX0_reads yX0_reads, Cond.initialized RX0]
def wsL_read_r6 : List Cond := [Cond.code yX0_reads cX0_reads 3 (some .boolean), Cond.fieldLink RX0 28 "GuardedGrammar$Reader" "made" "LGuardedGrammar$Steps;", Cond.fieldLink RX0 19 "GuardedGrammar$Reader" "place" "I", Cond.fieldLink RX0 15 "GuardedGrammar$Reader" "open" "I", Cond.fieldLink RX0 22 "GuardedGrammar$Reader" "visits" "I", Cond.constant RX0 50 (1000000), Cond.fieldLink RX0 9 "GuardedGrammar$Reader" "waiting" "[I", Cond.methodLink RX0 43 yX2_forgetAll, Cond.instanceMethod yX2_forgetAll, Cond.selects RX2 yX2_forgetAll yX2_forgetAll, Cond.initialized RX2, Cond.code yX2_forgetAll cX2_forgetAll 1 none, Cond.fieldLink RX2 15 "GuardedGrammar$Steps" "size" "I", Cond.methodLink RX0 46 yX0_await, Cond.instanceMethod yX0_await, Cond.selects RX0 yX0_await yX0_await, Cond.code yX0_await cX0_await 2 none, Cond.methodLink RX0 51 yX0_visit, Cond.instanceMethod yX0_visit, Cond.selects RX0 yX0_visit yX0_visit, Cond.code yX0_visit cX0_visit 3 (some .boolean), Cond.fieldLink RX0 35 "GuardedGrammar$Reader" "terms" "LGuardedGrammar$Terms;", Cond.fieldLink RX0 39 "GuardedGrammar$Reader" "typing" "LGuardedGrammar$Typing;", Cond.methodLink RX0 61 yX4_kind]
def wsL_read_r7 : List Cond := [Cond.methodLink RX0 67 yX4_value, Cond.methodLink RX0 70 yX0_readLetter, Cond.instanceMethod yX0_readLetter, Cond.selects RX0 yX0_readLetter yX0_readLetter, Cond.code yX0_readLetter cX0_readLetter 3 (some .boolean), Cond.methodLink RX0 55 yX6_size, Cond.instanceMethod yX6_size, Cond.selects RX6 yX6_size yX6_size, Cond.initialized RX6, Cond.code yX6_size cX6_size 1 (some .int), Cond.fieldLink RX6 15 "GuardedGrammar$Word" "size" "I", Cond.methodLink RX0 87 yX6_at, Cond.instanceMethod yX6_at, Cond.selects RX6 yX6_at yX6_at, Cond.code yX6_at cX6_at 2 (some .int), Cond.fieldLink RX6 9 "GuardedGrammar$Word" "letters" "[I", Cond.methodLink RX0 73 yX4_right, Cond.methodLink RX0 76 yX4_left, Cond.methodLink RX0 79 yX0_choose, Cond.instanceMethod yX0_choose, Cond.selects RX0 yX0_choose yX0_choose, Cond.code yX0_choose cX0_choose 5 (some .boolean), Cond.methodLink RX0 90 yX5_side, Cond.instanceMethod yX5_side]
def wsL_read_r8 : List Cond := [Cond.selects RX5 yX5_side yX5_side, Cond.code yX5_side cX5_side 5 (some .int), Cond.methodLink RX0 94 yX2_add, Cond.instanceMethod yX2_add, Cond.selects RX2 yX2_add yX2_add, Cond.code yX2_add cX2_add 5 none, Cond.fieldLink RX2 9 "GuardedGrammar$Steps" "bits" "[J", Cond.constantLong RX2 19 (-1), Cond.methodLink RX0 82 yX5_binder, Cond.instanceMethod yX5_binder, Cond.selects RX5 yX5_binder yX5_binder, Cond.code yX5_binder cX5_binder 2 (some .int), Cond.methodLink RX7 137 yX0_place, Cond.instanceMethod yX0_place, Cond.selects RX0 yX0_place yX0_place, Cond.code yX0_place cX0_place 1 (some .int), Cond.methodLink RX7 140 yX0_keepSteps, Cond.instanceMethod yX0_keepSteps, Cond.selects RX0 yX0_keepSteps yX0_keepSteps, Cond.code yX0_keepSteps cX0_keepSteps 2 none, Cond.fieldLink RX0 32 "GuardedGrammar$Reader" "kept" "LGuardedGrammar$Steps;", Cond.methodLink RX7 143 yX0_visits, Cond.instanceMethod yX0_visits, Cond.selects RX0 yX0_visits yX0_visits]
def wsL_read_r9 : List Cond := [Cond.code yX0_visits cX0_visits 1 (some .int)]
def wsL_read : List Cond := .codeWith yL_read cL_read 4 (some .int) [(0, 9, 12, 24), (0, 9, 15, 26), (0, 9, 18, 13)] :: ((wsL_read_r1 ++ (wsL_read_r2 ++ (wsL_read_r3 ++ (wsL_read_r4 ++ (wsL_read_r5 ++ (wsL_read_r6 ++ (wsL_read_r7 ++ (wsL_read_r8 ++ wsL_read_r9)))))))) ++ wsX70 ++ wsX40 ++ wsX50 ++ wsX00 ++ wsX20 ++ wsX60 ++ (vx_at0 RX7 63 "java/lang/IllegalArgumentException" ["java/lang/RuntimeException", "java/lang/Exception"]).filter goodWord ++ (vx_at0 RX7 107 "java/lang/IndexOutOfBoundsException" ["java/lang/RuntimeException", "java/lang/Exception"]).filter goodWord ++ (vx_at0 RX7 84 "java/lang/IllegalStateException" ["java/lang/RuntimeException", "java/lang/Exception"]).filter goodWord)
def wsL_step_r1 : List Cond := [Cond.classLink RL 24 "java/lang/IndexOutOfBoundsException", Cond.methodLink RL 44 yX7_step, Cond.instanceMethod yX7_step, Cond.selects RX7 yX7_step yX7_step, Cond.initialized RX7, Cond.code yX7_step cX7_step 2 (some .int), Cond.classLink RX7 105 "java/lang/IndexOutOfBoundsException", Cond.initialized "java/lang/IndexOutOfBoundsException", Cond.fieldLink RX7 37 "GuardedGrammar" "reader" "LGuardedGrammar$Reader;", Cond.methodLink RX7 146 yX0_kept, Cond.instanceMethod yX0_kept, Cond.selects RX0 yX0_kept yX0_kept, Cond.initialized RX0, Cond.code yX0_kept cX0_kept 1 (some (.object "GuardedGrammar$Steps")), Cond.fieldLink RX0 32 "GuardedGrammar$Reader" "kept" "LGuardedGrammar$Steps;", Cond.methodLink RX7 150 yX2_size, Cond.instanceMethod yX2_size, Cond.selects RX2 yX2_size yX2_size, Cond.initialized RX2, Cond.code yX2_size cX2_size 1 (some .int), Cond.fieldLink RX2 15 "GuardedGrammar$Steps" "size" "I", Cond.methodLink RX7 153 yX2_at, Cond.instanceMethod yX2_at, Cond.selects RX2 yX2_at yX2_at]
def wsL_step_r2 : List Cond := [Cond.code yX2_at cX2_at 2 (some .int), Cond.fieldLink RX2 9 "GuardedGrammar$Steps" "bits" "[J"]
def wsL_step : List Cond := .codeWith yL_step cL_step 4 (some .int) [(0, 9, 12, 24)] :: ((wsL_step_r1 ++ wsL_step_r2) ++ wsX70 ++ wsX00 ++ wsX20 ++ (vx_at0 RX7 107 "java/lang/IndexOutOfBoundsException" ["java/lang/RuntimeException", "java/lang/Exception"]).filter goodWord)
def wsL_count_r1 : List Cond := [Cond.classLink RL 24 "java/lang/IndexOutOfBoundsException", Cond.classLink RL 26 "java/lang/IllegalStateException", Cond.classLink RL 13 "java/lang/IllegalArgumentException", Cond.methodLink RL 47 yX7_count, Cond.instanceMethod yX7_count, Cond.selects RX7 yX7_count yX7_count, Cond.initialized RX7, Cond.code yX7_count cX7_count 3 (some .long), Cond.fieldLink RX7 44 "GuardedGrammar" "tally" "LGuardedGrammar$Tally;", Cond.methodLink RX7 154 yX7_countTo, Cond.instanceMethod yX7_countTo, Cond.selects RX7 yX7_countTo yX7_countTo, Cond.code yX7_countTo cX7_countTo 3 none, Cond.classLink RX7 61 "java/lang/IllegalArgumentException", Cond.initialized "java/lang/IllegalArgumentException", Cond.methodLink RX7 75 yX7_needTerm, Cond.instanceMethod yX7_needTerm, Cond.selects RX7 yX7_needTerm yX7_needTerm, Cond.code yX7_needTerm cX7_needTerm 2 none, Cond.classLink RX7 105 "java/lang/IndexOutOfBoundsException", Cond.initialized "java/lang/IndexOutOfBoundsException", Cond.fieldLink RX7 12 "GuardedGrammar" "terms" "LGuardedGrammar$Terms;", Cond.methodLink RX7 171 yX4_has, Cond.instanceMethod yX4_has]
def wsL_count_r2 : List Cond := [Cond.selects RX4 yX4_has yX4_has, Cond.initialized RX4, Cond.code yX4_has cX4_has 2 (some .boolean), Cond.fieldLink RX4 30 "GuardedGrammar$Terms" "size" "I", Cond.methodLink RX7 108 yX7_needTyped, Cond.instanceMethod yX7_needTyped, Cond.selects RX7 yX7_needTyped yX7_needTyped, Cond.code yX7_needTyped cX7_needTyped 2 none, Cond.classLink RX7 82 "java/lang/IllegalStateException", Cond.initialized "java/lang/IllegalStateException", Cond.fieldLink RX7 21 "GuardedGrammar" "typing" "LGuardedGrammar$Typing;", Cond.methodLink RX7 99 yX5_study, Cond.instanceMethod yX5_study, Cond.selects RX5 yX5_study yX5_study, Cond.initialized RX5, Cond.code yX5_study cX5_study 3 none, Cond.fieldLink RX5 34 "GuardedGrammar$Typing" "start" "I", Cond.fieldLink RX5 9 "GuardedGrammar$Typing" "order" "[I", Cond.methodLink RX5 42 yX5_lineUp, Cond.instanceMethod yX5_lineUp, Cond.selects RX5 yX5_lineUp yX5_lineUp, Cond.code yX5_lineUp cX5_lineUp 4 none, Cond.fieldLink RX5 15 "GuardedGrammar$Typing" "waiting" "[I", Cond.fieldLink RX5 38 "GuardedGrammar$Typing" "terms" "LGuardedGrammar$Terms;"]
def wsL_count_r3 : List Cond := [Cond.methodLink RX5 53 yX4_left, Cond.instanceMethod yX4_left, Cond.selects RX4 yX4_left yX4_left, Cond.code yX4_left cX4_left 2 (some .int), Cond.fieldLink RX4 18 "GuardedGrammar$Terms" "lefts" "[I", Cond.methodLink RX5 59 yX4_right, Cond.instanceMethod yX4_right, Cond.selects RX4 yX4_right yX4_right, Cond.code yX4_right cX4_right 2 (some .int), Cond.fieldLink RX4 21 "GuardedGrammar$Terms" "rights" "[I", Cond.methodLink RX5 46 yX5_bind, Cond.instanceMethod yX5_bind, Cond.selects RX5 yX5_bind yX5_bind, Cond.code yX5_bind cX5_bind 6 none, Cond.fieldLink RX5 18 "GuardedGrammar$Typing" "binders" "[I", Cond.fieldLink RX5 21 "GuardedGrammar$Typing" "guarded" "[Z", Cond.methodLink RX5 65 yX4_kind, Cond.instanceMethod yX4_kind, Cond.selects RX4 yX4_kind yX4_kind, Cond.code yX4_kind cX4_kind 2 (some .int), Cond.fieldLink RX4 9 "GuardedGrammar$Terms" "kinds" "[I", Cond.methodLink RX5 68 yX4_whole, Cond.instanceMethod yX4_whole, Cond.selects RX4 yX4_whole yX4_whole]
def wsL_count_r4 : List Cond := [Cond.code yX4_whole cX4_whole 2 (some .int), Cond.fieldLink RX4 24 "GuardedGrammar$Terms" "wholes" "[I", Cond.methodLink RX5 71 yX4_value, Cond.instanceMethod yX4_value, Cond.selects RX4 yX4_value yX4_value, Cond.code yX4_value cX4_value 2 (some .int), Cond.fieldLink RX4 15 "GuardedGrammar$Terms" "values" "[I", Cond.methodLink RX5 50 yX5_inferTypes, Cond.instanceMethod yX5_inferTypes, Cond.selects RX5 yX5_inferTypes yX5_inferTypes, Cond.code yX5_inferTypes cX5_inferTypes 4 none, Cond.fieldLink RX5 25 "GuardedGrammar$Typing" "nullable" "[Z", Cond.fieldLink RX5 28 "GuardedGrammar$Typing" "firsts" "[I", Cond.fieldLink RX5 31 "GuardedGrammar$Typing" "afters" "[I", Cond.methodLink RX5 74 yX5_widen, Cond.instanceMethod yX5_widen, Cond.selects RX5 yX5_widen yX5_widen, Cond.code yX5_widen cX5_widen 3 (some .boolean), Cond.methodLink RX5 78 yX5_addToType, Cond.instanceMethod yX5_addToType, Cond.selects RX5 yX5_addToType yX5_addToType, Cond.code yX5_addToType cX5_addToType 6 (some .boolean), Cond.methodLink RX5 82 yX5_widenPair, Cond.instanceMethod yX5_widenPair]
def wsL_count_r5 : List Cond := [Cond.selects RX5 yX5_widenPair yX5_widenPair, Cond.code yX5_widenPair cX5_widenPair 6 (some .boolean), Cond.methodLink RX5 86 yX5_addTypeOf, Cond.instanceMethod yX5_addTypeOf, Cond.selects RX5 yX5_addTypeOf yX5_addTypeOf, Cond.code yX5_addTypeOf cX5_addTypeOf 3 (some .boolean), Cond.methodLink RX7 102 yX5_firstFault, Cond.instanceMethod yX5_firstFault, Cond.selects RX5 yX5_firstFault yX5_firstFault, Cond.code yX5_firstFault cX5_firstFault 3 (some .int), Cond.methodLink RX5 62 yX5_faultAt, Cond.instanceMethod yX5_faultAt, Cond.selects RX5 yX5_faultAt yX5_faultAt, Cond.code yX5_faultAt cX5_faultAt 2 (some .int), Cond.methodLink RX5 90 yX5_isLoose, Cond.instanceMethod yX5_isLoose, Cond.selects RX5 yX5_isLoose yX5_isLoose, Cond.code yX5_isLoose cX5_isLoose 3 (some .boolean), Cond.methodLink RX5 93 yX5_isDouble, Cond.instanceMethod yX5_isDouble, Cond.selects RX5 yX5_isDouble yX5_isDouble, Cond.code yX5_isDouble cX5_isDouble 3 (some .boolean), Cond.methodLink RX7 169 yX3_countTo, Cond.instanceMethod yX3_countTo]
def wsL_count_r6 : List Cond := [Cond.selects RX3 yX3_countTo yX3_countTo, Cond.initialized RX3, Cond.code yX3_countTo cX3_countTo 3 none, Cond.methodLink RX3 24 yX3_countLength, Cond.instanceMethod yX3_countLength, Cond.selects RX3 yX3_countLength yX3_countLength, Cond.code yX3_countLength cX3_countLength 8 none, Cond.fieldLink RX3 20 "GuardedGrammar$Tally" "typing" "LGuardedGrammar$Typing;", Cond.fieldLink RX3 11 "GuardedGrammar$Tally" "words" "[[J", Cond.methodLink RX3 28 yX5_size, Cond.instanceMethod yX5_size, Cond.selects RX5 yX5_size yX5_size, Cond.code yX5_size cX5_size 1 (some .int), Cond.methodLink RX3 34 yX5_inOrder, Cond.instanceMethod yX5_inOrder, Cond.selects RX5 yX5_inOrder yX5_inOrder, Cond.code yX5_inOrder cX5_inOrder 2 (some .int), Cond.methodLink RX3 38 yX3_wordsByParts, Cond.instanceMethod yX3_wordsByParts, Cond.selects RX3 yX3_wordsByParts yX3_wordsByParts, Cond.code yX3_wordsByParts cX3_wordsByParts 3 (some .long), Cond.fieldLink RX3 16 "GuardedGrammar$Tally" "terms" "LGuardedGrammar$Terms;", Cond.methodLink RX3 42 yX4_kind, Cond.methodLink RX3 47 yX4_left]
def wsL_count_r7 : List Cond := [Cond.methodLink RX3 50 yX4_right, Cond.methodLink RX3 53 yX3_wordsOfPair, Cond.instanceMethod yX3_wordsOfPair, Cond.selects RX3 yX3_wordsOfPair yX3_wordsOfPair, Cond.code yX3_wordsOfPair cX3_wordsOfPair 7 (some .long), Cond.methodLink RX3 57 yX5_binder, Cond.instanceMethod yX5_binder, Cond.selects RX5 yX5_binder yX5_binder, Cond.code yX5_binder cX5_binder 2 (some .int), Cond.methodLink RX7 158 yX3_words, Cond.instanceMethod yX3_words, Cond.selects RX3 yX3_words yX3_words, Cond.code yX3_words cX3_words 3 (some .long)]
def wsL_count : List Cond := .codeWith yL_count cL_count 5 (some .int) [(0, 9, 12, 24), (0, 9, 16, 26), (0, 9, 20, 13)] :: ((wsL_count_r1 ++ (wsL_count_r2 ++ (wsL_count_r3 ++ (wsL_count_r4 ++ (wsL_count_r5 ++ (wsL_count_r6 ++ wsL_count_r7)))))) ++ wsX70 ++ wsX40 ++ wsX50 ++ wsX30 ++ (vx_at0 RX7 63 "java/lang/IllegalArgumentException" ["java/lang/RuntimeException", "java/lang/Exception"]).filter goodWord ++ (vx_at0 RX7 107 "java/lang/IndexOutOfBoundsException" ["java/lang/RuntimeException", "java/lang/Exception"]).filter goodWord ++ (vx_at0 RX7 84 "java/lang/IllegalStateException" ["java/lang/RuntimeException", "java/lang/Exception"]).filter goodWord)
def wsL_find_r1 : List Cond := [Cond.classLink RL 24 "java/lang/IndexOutOfBoundsException", Cond.classLink RL 26 "java/lang/IllegalStateException", Cond.classLink RL 13 "java/lang/IllegalArgumentException", Cond.classLink RL 55 "java/util/NoSuchElementException", Cond.methodLink RL 51 yX7_find, Cond.instanceMethod yX7_find, Cond.selects RX7 yX7_find yX7_find, Cond.initialized RX7, Cond.code yX7_find cX7_find 5 none, Cond.classLink RX7 162 "java/util/NoSuchElementException", Cond.initialized "java/util/NoSuchElementException", Cond.fieldLink RX7 44 "GuardedGrammar" "tally" "LGuardedGrammar$Tally;", Cond.fieldLink RX7 53 "GuardedGrammar" "speller" "LGuardedGrammar$Speller;", Cond.fieldLink RX7 28 "GuardedGrammar" "word" "LGuardedGrammar$Word;", Cond.methodLink RX7 154 yX7_countTo, Cond.instanceMethod yX7_countTo, Cond.selects RX7 yX7_countTo yX7_countTo, Cond.code yX7_countTo cX7_countTo 3 none, Cond.classLink RX7 61 "java/lang/IllegalArgumentException", Cond.initialized "java/lang/IllegalArgumentException", Cond.methodLink RX7 75 yX7_needTerm, Cond.instanceMethod yX7_needTerm, Cond.selects RX7 yX7_needTerm yX7_needTerm, Cond.code yX7_needTerm cX7_needTerm 2 none]
def wsL_find_r2 : List Cond := [Cond.classLink RX7 105 "java/lang/IndexOutOfBoundsException", Cond.initialized "java/lang/IndexOutOfBoundsException", Cond.fieldLink RX7 12 "GuardedGrammar" "terms" "LGuardedGrammar$Terms;", Cond.methodLink RX7 171 yX4_has, Cond.instanceMethod yX4_has, Cond.selects RX4 yX4_has yX4_has, Cond.initialized RX4, Cond.code yX4_has cX4_has 2 (some .boolean), Cond.fieldLink RX4 30 "GuardedGrammar$Terms" "size" "I", Cond.methodLink RX7 108 yX7_needTyped, Cond.instanceMethod yX7_needTyped, Cond.selects RX7 yX7_needTyped yX7_needTyped, Cond.code yX7_needTyped cX7_needTyped 2 none, Cond.classLink RX7 82 "java/lang/IllegalStateException", Cond.initialized "java/lang/IllegalStateException", Cond.fieldLink RX7 21 "GuardedGrammar" "typing" "LGuardedGrammar$Typing;", Cond.methodLink RX7 99 yX5_study, Cond.instanceMethod yX5_study, Cond.selects RX5 yX5_study yX5_study, Cond.initialized RX5, Cond.code yX5_study cX5_study 3 none, Cond.fieldLink RX5 34 "GuardedGrammar$Typing" "start" "I", Cond.fieldLink RX5 9 "GuardedGrammar$Typing" "order" "[I", Cond.methodLink RX5 42 yX5_lineUp]
def wsL_find_r3 : List Cond := [Cond.instanceMethod yX5_lineUp, Cond.selects RX5 yX5_lineUp yX5_lineUp, Cond.code yX5_lineUp cX5_lineUp 4 none, Cond.fieldLink RX5 15 "GuardedGrammar$Typing" "waiting" "[I", Cond.fieldLink RX5 38 "GuardedGrammar$Typing" "terms" "LGuardedGrammar$Terms;", Cond.methodLink RX5 53 yX4_left, Cond.instanceMethod yX4_left, Cond.selects RX4 yX4_left yX4_left, Cond.code yX4_left cX4_left 2 (some .int), Cond.fieldLink RX4 18 "GuardedGrammar$Terms" "lefts" "[I", Cond.methodLink RX5 59 yX4_right, Cond.instanceMethod yX4_right, Cond.selects RX4 yX4_right yX4_right, Cond.code yX4_right cX4_right 2 (some .int), Cond.fieldLink RX4 21 "GuardedGrammar$Terms" "rights" "[I", Cond.methodLink RX5 46 yX5_bind, Cond.instanceMethod yX5_bind, Cond.selects RX5 yX5_bind yX5_bind, Cond.code yX5_bind cX5_bind 6 none, Cond.fieldLink RX5 18 "GuardedGrammar$Typing" "binders" "[I", Cond.fieldLink RX5 21 "GuardedGrammar$Typing" "guarded" "[Z", Cond.methodLink RX5 65 yX4_kind, Cond.instanceMethod yX4_kind, Cond.selects RX4 yX4_kind yX4_kind]
def wsL_find_r4 : List Cond := [Cond.code yX4_kind cX4_kind 2 (some .int), Cond.fieldLink RX4 9 "GuardedGrammar$Terms" "kinds" "[I", Cond.methodLink RX5 68 yX4_whole, Cond.instanceMethod yX4_whole, Cond.selects RX4 yX4_whole yX4_whole, Cond.code yX4_whole cX4_whole 2 (some .int), Cond.fieldLink RX4 24 "GuardedGrammar$Terms" "wholes" "[I", Cond.methodLink RX5 71 yX4_value, Cond.instanceMethod yX4_value, Cond.selects RX4 yX4_value yX4_value, Cond.code yX4_value cX4_value 2 (some .int), Cond.fieldLink RX4 15 "GuardedGrammar$Terms" "values" "[I", Cond.methodLink RX5 50 yX5_inferTypes, Cond.instanceMethod yX5_inferTypes, Cond.selects RX5 yX5_inferTypes yX5_inferTypes, Cond.code yX5_inferTypes cX5_inferTypes 4 none, Cond.fieldLink RX5 25 "GuardedGrammar$Typing" "nullable" "[Z", Cond.fieldLink RX5 28 "GuardedGrammar$Typing" "firsts" "[I", Cond.fieldLink RX5 31 "GuardedGrammar$Typing" "afters" "[I", Cond.methodLink RX5 74 yX5_widen, Cond.instanceMethod yX5_widen, Cond.selects RX5 yX5_widen yX5_widen, Cond.code yX5_widen cX5_widen 3 (some .boolean), Cond.methodLink RX5 78 yX5_addToType]
def wsL_find_r5 : List Cond := [Cond.instanceMethod yX5_addToType, Cond.selects RX5 yX5_addToType yX5_addToType, Cond.code yX5_addToType cX5_addToType 6 (some .boolean), Cond.methodLink RX5 82 yX5_widenPair, Cond.instanceMethod yX5_widenPair, Cond.selects RX5 yX5_widenPair yX5_widenPair, Cond.code yX5_widenPair cX5_widenPair 6 (some .boolean), Cond.methodLink RX5 86 yX5_addTypeOf, Cond.instanceMethod yX5_addTypeOf, Cond.selects RX5 yX5_addTypeOf yX5_addTypeOf, Cond.code yX5_addTypeOf cX5_addTypeOf 3 (some .boolean), Cond.methodLink RX7 102 yX5_firstFault, Cond.instanceMethod yX5_firstFault, Cond.selects RX5 yX5_firstFault yX5_firstFault, Cond.code yX5_firstFault cX5_firstFault 3 (some .int), Cond.methodLink RX5 62 yX5_faultAt, Cond.instanceMethod yX5_faultAt, Cond.selects RX5 yX5_faultAt yX5_faultAt, Cond.code yX5_faultAt cX5_faultAt 2 (some .int), Cond.methodLink RX5 90 yX5_isLoose, Cond.instanceMethod yX5_isLoose, Cond.selects RX5 yX5_isLoose yX5_isLoose, Cond.code yX5_isLoose cX5_isLoose 3 (some .boolean), Cond.methodLink RX5 93 yX5_isDouble]
def wsL_find_r6 : List Cond := [Cond.instanceMethod yX5_isDouble, Cond.selects RX5 yX5_isDouble yX5_isDouble, Cond.code yX5_isDouble cX5_isDouble 3 (some .boolean), Cond.methodLink RX7 169 yX3_countTo, Cond.instanceMethod yX3_countTo, Cond.selects RX3 yX3_countTo yX3_countTo, Cond.initialized RX3, Cond.code yX3_countTo cX3_countTo 3 none, Cond.methodLink RX3 24 yX3_countLength, Cond.instanceMethod yX3_countLength, Cond.selects RX3 yX3_countLength yX3_countLength, Cond.code yX3_countLength cX3_countLength 8 none, Cond.fieldLink RX3 20 "GuardedGrammar$Tally" "typing" "LGuardedGrammar$Typing;", Cond.fieldLink RX3 11 "GuardedGrammar$Tally" "words" "[[J", Cond.methodLink RX3 28 yX5_size, Cond.instanceMethod yX5_size, Cond.selects RX5 yX5_size yX5_size, Cond.code yX5_size cX5_size 1 (some .int), Cond.methodLink RX3 34 yX5_inOrder, Cond.instanceMethod yX5_inOrder, Cond.selects RX5 yX5_inOrder yX5_inOrder, Cond.code yX5_inOrder cX5_inOrder 2 (some .int), Cond.methodLink RX3 38 yX3_wordsByParts, Cond.instanceMethod yX3_wordsByParts]
def wsL_find_r7 : List Cond := [Cond.selects RX3 yX3_wordsByParts yX3_wordsByParts, Cond.code yX3_wordsByParts cX3_wordsByParts 3 (some .long), Cond.fieldLink RX3 16 "GuardedGrammar$Tally" "terms" "LGuardedGrammar$Terms;", Cond.methodLink RX3 42 yX4_kind, Cond.methodLink RX3 47 yX4_left, Cond.methodLink RX3 50 yX4_right, Cond.methodLink RX3 53 yX3_wordsOfPair, Cond.instanceMethod yX3_wordsOfPair, Cond.selects RX3 yX3_wordsOfPair yX3_wordsOfPair, Cond.code yX3_wordsOfPair cX3_wordsOfPair 7 (some .long), Cond.methodLink RX3 57 yX5_binder, Cond.instanceMethod yX5_binder, Cond.selects RX5 yX5_binder yX5_binder, Cond.code yX5_binder cX5_binder 2 (some .int), Cond.methodLink RX7 158 yX3_words, Cond.instanceMethod yX3_words, Cond.selects RX3 yX3_words yX3_words, Cond.code yX3_words cX3_words 3 (some .long), Cond.methodLink RX7 165 yX1_spell, Cond.instanceMethod yX1_spell, Cond.selects RX1 yX1_spell yX1_spell, Cond.initialized RX1, Cond.code yX1_spell cX1_spell 9 none, Cond.methodLink RX1 44 yX6_keep]
def wsL_find_r8 : List Cond := [Cond.instanceMethod yX6_keep, Cond.selects RX6 yX6_keep yX6_keep, Cond.initialized RX6, Cond.code yX6_keep cX6_keep 2 none, Cond.fieldLink RX6 15 "GuardedGrammar$Word" "size" "I", Cond.methodLink RX1 50 yX1_startPile, Cond.instanceMethod yX1_startPile, Cond.selects RX1 yX1_startPile yX1_startPile, Cond.code yX1_startPile cX1_startPile 4 none, Cond.fieldLink RX1 19 "GuardedGrammar$Speller" "ways" "[J", Cond.fieldLink RX1 15 "GuardedGrammar$Speller" "height" "I", Cond.methodLink RX1 58 yX1_pileUp, Cond.instanceMethod yX1_pileUp, Cond.selects RX1 yX1_pileUp yX1_pileUp, Cond.code yX1_pileUp cX1_pileUp 4 none, Cond.methodLink RX1 108 arraycopyName, Cond.native arraycopyName, Cond.static arraycopyName, Cond.initialized "java/lang/System", Cond.fieldLink RX1 40 "GuardedGrammar$Speller" "tally" "LGuardedGrammar$Tally;", Cond.fieldLink RX1 9 "GuardedGrammar$Speller" "pile" "[I", Cond.methodLink RX1 114 yX3_lengthen, Cond.instanceMethod yX3_lengthen, Cond.selects RX3 yX3_lengthen yX3_lengthen]
def wsL_find_r9 : List Cond := [Cond.code yX3_lengthen cX3_lengthen 9 none, Cond.methodLink RX1 54 yX1_spellNext, Cond.instanceMethod yX1_spellNext, Cond.selects RX1 yX1_spellNext yX1_spellNext, Cond.code yX1_spellNext cX1_spellNext 11 (some .long), Cond.methodLink RX1 61 yX1_readerOf, Cond.instanceMethod yX1_readerOf, Cond.selects RX1 yX1_readerOf yX1_readerOf, Cond.code yX1_readerOf cX1_readerOf 3 (some .int), Cond.fieldLink RX1 36 "GuardedGrammar$Speller" "typing" "LGuardedGrammar$Typing;", Cond.methodLink RX1 78 yX5_firstOf, Cond.instanceMethod yX5_firstOf, Cond.selects RX5 yX5_firstOf yX5_firstOf, Cond.code yX5_firstOf cX5_firstOf 2 (some .int), Cond.methodLink RX1 83 yX5_isNullable, Cond.instanceMethod yX5_isNullable, Cond.selects RX5 yX5_isNullable yX5_isNullable, Cond.code yX5_isNullable cX5_isNullable 2 (some .boolean), Cond.methodLink RX1 65 yX1_goDown, Cond.instanceMethod yX1_goDown, Cond.selects RX1 yX1_goDown yX1_goDown, Cond.code yX1_goDown cX1_goDown 5 none, Cond.fieldLink RX1 26 "GuardedGrammar$Speller" "freshSize" "I", Cond.fieldLink RX1 32 "GuardedGrammar$Speller" "terms" "LGuardedGrammar$Terms;"]
def wsL_find_r10 : List Cond := [Cond.fieldLink RX1 23 "GuardedGrammar$Speller" "fresh" "[I", Cond.methodLink RX1 87 yX4_kind, Cond.methodLink RX1 92 yX4_right, Cond.methodLink RX1 95 yX1_below, Cond.instanceMethod yX1_below, Cond.selects RX1 yX1_below yX1_below, Cond.code yX1_below cX1_below 3 (some .int), Cond.methodLink RX1 99 yX5_binder, Cond.methodLink RX1 102 yX5_side, Cond.instanceMethod yX5_side, Cond.selects RX5 yX5_side yX5_side, Cond.code yX5_side cX5_side 5 (some .int), Cond.methodLink RX1 105 yX4_left, Cond.methodLink RX1 68 yX1_wordsAhead, Cond.instanceMethod yX1_wordsAhead, Cond.selects RX1 yX1_wordsAhead yX1_wordsAhead, Cond.code yX1_wordsAhead cX1_wordsAhead 4 (some .long), Cond.fieldLink RX1 29 "GuardedGrammar$Speller" "ahead" "[J", Cond.methodLink RX1 72 yX1_takeFresh, Cond.instanceMethod yX1_takeFresh, Cond.selects RX1 yX1_takeFresh yX1_takeFresh, Cond.code yX1_takeFresh cX1_takeFresh 4 none, Cond.methodLink RX1 75 yX6_add, Cond.instanceMethod yX6_add]
def wsL_find_r11 : List Cond := [Cond.selects RX6 yX6_add yX6_add, Cond.code yX6_add cX6_add 2 none, Cond.fieldLink RX6 9 "GuardedGrammar$Word" "letters" "[I"]
def wsL_find : List Cond := .codeWith yL_find cL_find 6 (some .int) [(0, 7, 10, 24), (0, 7, 14, 26), (0, 7, 18, 13), (0, 7, 22, 55)] :: ((wsL_find_r1 ++ (wsL_find_r2 ++ (wsL_find_r3 ++ (wsL_find_r4 ++ (wsL_find_r5 ++ (wsL_find_r6 ++ (wsL_find_r7 ++ (wsL_find_r8 ++ (wsL_find_r9 ++ (wsL_find_r10 ++ wsL_find_r11)))))))))) ++ wsX70 ++ wsX40 ++ wsX50 ++ wsX30 ++ wsX60 ++ wsX10 ++ (vx_at0 RX7 164 "java/util/NoSuchElementException" ["java/lang/RuntimeException", "java/lang/Exception"]).filter goodWord ++ (vx_at0 RX7 63 "java/lang/IllegalArgumentException" ["java/lang/RuntimeException", "java/lang/Exception"]).filter goodWord ++ (vx_at0 RX7 107 "java/lang/IndexOutOfBoundsException" ["java/lang/RuntimeException", "java/lang/Exception"]).filter goodWord ++ (vx_at0 RX7 84 "java/lang/IllegalStateException" ["java/lang/RuntimeException", "java/lang/Exception"]).filter goodWord)
def wsL_law0_r1 : List Cond := [Cond.classLink RL 8 RX7, Cond.instantiable RX7 7, Cond.initialized RX7, Cond.classLink RL 58 RX8, Cond.instantiable RX8 28, Cond.initialized RX8, Cond.arrayClass .long, Cond.constantLong RL 129 (4294967295), Cond.methodLink RL 57 yX7_init, Cond.instanceMethod yX7_init, Cond.code yX7_init cX7_init 1 none, Cond.methodLink RX7 3 objectInit, Cond.instanceMethod objectInit, Cond.code objectInit ⟨#[0xb1]⟩ 1 none, Cond.classLink RX7 9 RX4, Cond.instantiable RX4 7, Cond.initialized RX4, Cond.fieldLink RX7 12 "GuardedGrammar" "terms" "LGuardedGrammar$Terms;", Cond.classLink RX7 16 RX5, Cond.instantiable RX5 9, Cond.initialized RX5, Cond.fieldLink RX7 21 "GuardedGrammar" "typing" "LGuardedGrammar$Typing;", Cond.classLink RX7 25 RX6, Cond.instantiable RX6 2]
def wsL_law0_r2 : List Cond := [Cond.initialized RX6, Cond.fieldLink RX7 28 "GuardedGrammar" "word" "LGuardedGrammar$Word;", Cond.classLink RX7 32 RX0, Cond.instantiable RX0 8, Cond.initialized RX0, Cond.fieldLink RX7 37 "GuardedGrammar" "reader" "LGuardedGrammar$Reader;", Cond.classLink RX7 41 RX3, Cond.instantiable RX3 3, Cond.initialized RX3, Cond.fieldLink RX7 44 "GuardedGrammar" "tally" "LGuardedGrammar$Tally;", Cond.classLink RX7 48 RX1, Cond.instantiable RX1 9, Cond.initialized RX1, Cond.fieldLink RX7 53 "GuardedGrammar" "speller" "LGuardedGrammar$Speller;", Cond.fieldLink RX7 57 "GuardedGrammar" "stopped" "I", Cond.instanceMethod yX4_init, Cond.code yX4_init cX4_init 1 none, Cond.methodLink RX4 3 objectInit, Cond.arrayClass .int, Cond.fieldLink RX4 9 "GuardedGrammar$Terms" "kinds" "[I", Cond.fieldLink RX4 15 "GuardedGrammar$Terms" "values" "[I", Cond.fieldLink RX4 18 "GuardedGrammar$Terms" "lefts" "[I", Cond.fieldLink RX4 21 "GuardedGrammar$Terms" "rights" "[I", Cond.fieldLink RX4 24 "GuardedGrammar$Terms" "wholes" "[I"]
def wsL_law0_r3 : List Cond := [Cond.fieldLink RX4 27 "GuardedGrammar$Terms" "knots" "[I", Cond.fieldLink RX4 30 "GuardedGrammar$Terms" "size" "I", Cond.methodLink RX7 18 yX5_init, Cond.instanceMethod yX5_init, Cond.code yX5_init cX5_init 2 none, Cond.methodLink RX5 3 objectInit, Cond.fieldLink RX5 9 "GuardedGrammar$Typing" "order" "[I", Cond.fieldLink RX5 15 "GuardedGrammar$Typing" "waiting" "[I", Cond.fieldLink RX5 18 "GuardedGrammar$Typing" "binders" "[I", Cond.arrayClass .boolean, Cond.fieldLink RX5 21 "GuardedGrammar$Typing" "guarded" "[Z", Cond.fieldLink RX5 25 "GuardedGrammar$Typing" "nullable" "[Z", Cond.fieldLink RX5 28 "GuardedGrammar$Typing" "firsts" "[I", Cond.fieldLink RX5 31 "GuardedGrammar$Typing" "afters" "[I", Cond.fieldLink RX5 34 "GuardedGrammar$Typing" "start" "I", Cond.fieldLink RX5 38 "GuardedGrammar$Typing" "terms" "LGuardedGrammar$Terms;", Cond.instanceMethod yX6_init, Cond.code yX6_init cX6_init 1 none, Cond.methodLink RX6 3 objectInit, Cond.fieldLink RX6 9 "GuardedGrammar$Word" "letters" "[I", Cond.fieldLink RX6 15 "GuardedGrammar$Word" "size" "I", Cond.methodLink RX7 34 yX0_init, Cond.instanceMethod yX0_init, Cond.code yX0_init cX0_init 3 none]
def wsL_law0_r4 : List Cond := [Cond.methodLink RX0 3 objectInit, Cond.fieldLink RX0 9 "GuardedGrammar$Reader" "waiting" "[I", Cond.fieldLink RX0 15 "GuardedGrammar$Reader" "open" "I", Cond.fieldLink RX0 19 "GuardedGrammar$Reader" "place" "I", Cond.fieldLink RX0 22 "GuardedGrammar$Reader" "visits" "I", Cond.classLink RX0 25 RX2, Cond.instantiable RX2 2, Cond.initialized RX2, Cond.fieldLink RX0 28 "GuardedGrammar$Reader" "made" "LGuardedGrammar$Steps;", Cond.fieldLink RX0 32 "GuardedGrammar$Reader" "kept" "LGuardedGrammar$Steps;", Cond.fieldLink RX0 35 "GuardedGrammar$Reader" "terms" "LGuardedGrammar$Terms;", Cond.fieldLink RX0 39 "GuardedGrammar$Reader" "typing" "LGuardedGrammar$Typing;", Cond.instanceMethod yX2_init, Cond.code yX2_init cX2_init 1 none, Cond.methodLink RX2 3 objectInit, Cond.fieldLink RX2 9 "GuardedGrammar$Steps" "bits" "[J", Cond.fieldLink RX2 15 "GuardedGrammar$Steps" "size" "I", Cond.methodLink RX7 43 yX3_init, Cond.instanceMethod yX3_init, Cond.code yX3_init cX3_init 3 none, Cond.methodLink RX3 3 objectInit, Cond.classLink RX3 9 "[[J", Cond.fieldLink RX3 11 "GuardedGrammar$Tally" "words" "[[J", Cond.fieldLink RX3 16 "GuardedGrammar$Tally" "terms" "LGuardedGrammar$Terms;"]
def wsL_law0_r5 : List Cond := [Cond.fieldLink RX3 20 "GuardedGrammar$Tally" "typing" "LGuardedGrammar$Typing;", Cond.methodLink RX7 50 yX1_init, Cond.instanceMethod yX1_init, Cond.code yX1_init cX1_init 4 none, Cond.methodLink RX1 3 objectInit, Cond.fieldLink RX1 9 "GuardedGrammar$Speller" "pile" "[I", Cond.fieldLink RX1 15 "GuardedGrammar$Speller" "height" "I", Cond.fieldLink RX1 19 "GuardedGrammar$Speller" "ways" "[J", Cond.fieldLink RX1 23 "GuardedGrammar$Speller" "fresh" "[I", Cond.fieldLink RX1 26 "GuardedGrammar$Speller" "freshSize" "I", Cond.fieldLink RX1 29 "GuardedGrammar$Speller" "ahead" "[J", Cond.fieldLink RX1 32 "GuardedGrammar$Speller" "terms" "LGuardedGrammar$Terms;", Cond.fieldLink RX1 36 "GuardedGrammar$Speller" "typing" "LGuardedGrammar$Typing;", Cond.fieldLink RX1 40 "GuardedGrammar$Speller" "tally" "LGuardedGrammar$Tally;", Cond.methodLink RL 60 yX8_init, Cond.instanceMethod yX8_init, Cond.code yX8_init cX8_init 1 none, Cond.methodLink RX8 1 objectInit, Cond.fieldLink RX8 7 "GuardedGrammarModel" "kind" "[I", Cond.fieldLink RX8 13 "GuardedGrammarModel" "sign" "[I", Cond.fieldLink RX8 16 "GuardedGrammarModel" "one" "[I", Cond.fieldLink RX8 19 "GuardedGrammarModel" "two" "[I", Cond.fieldLink RX8 22 "GuardedGrammarModel" "whole" "[I", Cond.fieldLink RX8 25 "GuardedGrammarModel" "knots" "[I"]
def wsL_law0_r6 : List Cond := [Cond.fieldLink RX8 28 "GuardedGrammarModel" "nullable" "[Z", Cond.fieldLink RX8 32 "GuardedGrammarModel" "first" "[I", Cond.fieldLink RX8 35 "GuardedGrammarModel" "after" "[I", Cond.fieldLink RX8 38 "GuardedGrammarModel" "inside" "[Z", Cond.fieldLink RX8 41 "GuardedGrammarModel" "binder" "[I", Cond.fieldLink RX8 44 "GuardedGrammarModel" "word" "[I", Cond.fieldLink RX8 47 "GuardedGrammarModel" "at" "I", Cond.fieldLink RX8 51 "GuardedGrammarModel" "trace" "[I", Cond.fieldLink RX8 54 "GuardedGrammarModel" "met" "[I", Cond.fieldLink RX8 57 "GuardedGrammarModel" "todo" "[I", Cond.fieldLink RX8 60 "GuardedGrammarModel" "todoSaved" "[I", Cond.fieldLink RX8 63 "GuardedGrammarModel" "counts" "[J", Cond.fieldLink RX8 67 "GuardedGrammarModel" "row" "[J", Cond.fieldLink RX8 70 "GuardedGrammarModel" "other" "[J", Cond.methodLink RL 61 yL_leaf, Cond.static yL_leaf, Cond.initialized RL, Cond.codeWith yL_leaf cL_leaf 4 (some .int) [(0, 9, 12, 13), (0, 9, 15, 15)], Cond.classLink RL 13 "java/lang/IllegalArgumentException", Cond.classLink RL 15 "java/lang/UnsupportedOperationException", Cond.methodLink RL 7 yX7_leaf, Cond.instanceMethod yX7_leaf, Cond.selects RX7 yX7_leaf yX7_leaf, Cond.code yX7_leaf cX7_leaf 2 (some .int)]
def wsL_law0_r7 : List Cond := [Cond.classLink RX7 61 "java/lang/IllegalArgumentException", Cond.initialized "java/lang/IllegalArgumentException", Cond.methodLink RX7 64 yX7_needRoom, Cond.instanceMethod yX7_needRoom, Cond.selects RX7 yX7_needRoom yX7_needRoom, Cond.code yX7_needRoom cX7_needRoom 1 none, Cond.classLink RX7 89 "java/lang/UnsupportedOperationException", Cond.initialized "java/lang/UnsupportedOperationException", Cond.methodLink RX7 174 yX4_isFull, Cond.instanceMethod yX4_isFull, Cond.selects RX4 yX4_isFull yX4_isFull, Cond.code yX4_isFull cX4_isFull 1 (some .boolean), Cond.methodLink RX7 67 yX4_add, Cond.instanceMethod yX4_add, Cond.selects RX4 yX4_add yX4_add, Cond.code yX4_add cX4_add 6 (some .int), Cond.methodLink RX4 38 Lib.Math.max.name, Cond.static Lib.Math.max.name, Cond.initialized "java/lang/Math", Cond.code Lib.Math.max.name Lib.Math.max.code 2 (some .int), Cond.methodLink RX4 34 yX4_knotsIn, Cond.instanceMethod yX4_knotsIn, Cond.selects RX4 yX4_knotsIn yX4_knotsIn, Cond.code yX4_knotsIn cX4_knotsIn 2 (some .int)]
def wsL_law0_r8 : List Cond := [Cond.methodLink RX4 44 yX4_makePart, Cond.instanceMethod yX4_makePart, Cond.selects RX4 yX4_makePart yX4_makePart, Cond.code yX4_makePart cX4_makePart 3 none, Cond.methodLink RL 66 yX8_leaf, Cond.instanceMethod yX8_leaf, Cond.selects RX8 yX8_leaf yX8_leaf, Cond.code yX8_leaf cX8_leaf 2 (some .int), Cond.fieldLink RX8 76 "GuardedGrammarModel" "terms" "I", Cond.fieldLink RX8 73 "GuardedGrammarModel" "thrown" "I", Cond.methodLink RX8 79 yX8_add, Cond.instanceMethod yX8_add, Cond.selects RX8 yX8_add yX8_add, Cond.code yX8_add cX8_add 6 (some .int), Cond.methodLink RL 67 yX8_thrown, Cond.instanceMethod yX8_thrown, Cond.selects RX8 yX8_thrown yX8_thrown, Cond.code yX8_thrown cX8_thrown 1 (some .int), Cond.methodLink RL 71 yL_variable, Cond.static yL_variable, Cond.codeWith yL_variable cL_variable 4 (some .int) [(0, 9, 12, 13), (0, 9, 15, 15)], Cond.methodLink RL 17 yX7_variable, Cond.instanceMethod yX7_variable, Cond.selects RX7 yX7_variable yX7_variable]
def wsL_law0_r9 : List Cond := [Cond.code yX7_variable cX7_variable 2 (some .int), Cond.methodLink RX7 71 yX7_needVariable, Cond.instanceMethod yX7_needVariable, Cond.selects RX7 yX7_needVariable yX7_needVariable, Cond.code yX7_needVariable cX7_needVariable 2 none, Cond.methodLink RL 73 yX8_variable, Cond.instanceMethod yX8_variable, Cond.selects RX8 yX8_variable yX8_variable, Cond.code yX8_variable cX8_variable 2 (some .int), Cond.methodLink RL 74 yL_join, Cond.static yL_join, Cond.codeWith yL_join cL_join 6 (some .int) [(0, 12, 15, 24), (0, 12, 19, 26), (0, 12, 23, 15)], Cond.classLink RL 24 "java/lang/IndexOutOfBoundsException", Cond.classLink RL 26 "java/lang/IllegalStateException", Cond.methodLink RL 20 yX7_join, Cond.instanceMethod yX7_join, Cond.selects RX7 yX7_join yX7_join, Cond.code yX7_join cX7_join 4 (some .int), Cond.classLink RX7 82 "java/lang/IllegalStateException", Cond.initialized "java/lang/IllegalStateException", Cond.methodLink RX7 75 yX7_needTerm, Cond.instanceMethod yX7_needTerm, Cond.selects RX7 yX7_needTerm yX7_needTerm, Cond.code yX7_needTerm cX7_needTerm 2 none]
def wsL_law0_r10 : List Cond := [Cond.classLink RX7 105 "java/lang/IndexOutOfBoundsException", Cond.initialized "java/lang/IndexOutOfBoundsException", Cond.methodLink RX7 171 yX4_has, Cond.instanceMethod yX4_has, Cond.selects RX4 yX4_has yX4_has, Cond.code yX4_has cX4_has 2 (some .boolean), Cond.methodLink RX7 78 yX4_isPart, Cond.instanceMethod yX4_isPart, Cond.selects RX4 yX4_isPart yX4_isPart, Cond.code yX4_isPart cX4_isPart 2 (some .boolean), Cond.methodLink RL 77 yX8_join, Cond.instanceMethod yX8_join, Cond.selects RX8 yX8_join yX8_join, Cond.code yX8_join cX8_join 4 (some .int), Cond.methodLink RX8 83 yX8_isTerm, Cond.instanceMethod yX8_isTerm, Cond.selects RX8 yX8_isTerm yX8_isTerm, Cond.code yX8_isTerm cX8_isTerm 2 (some .boolean), Cond.methodLink RX8 87 yX8_isPart, Cond.instanceMethod yX8_isPart, Cond.selects RX8 yX8_isPart yX8_isPart, Cond.code yX8_isPart cX8_isPart 2 (some .boolean), Cond.methodLink RL 78 yL_knot, Cond.static yL_knot]
def wsL_law0_r11 : List Cond := [Cond.codeWith yL_knot cL_knot 5 (some .int) [(0, 10, 13, 24), (0, 10, 17, 26), (0, 10, 21, 13), (0, 10, 25, 15)], Cond.methodLink RL 28 yX7_knot, Cond.instanceMethod yX7_knot, Cond.selects RX7 yX7_knot yX7_knot, Cond.code yX7_knot cX7_knot 3 (some .int), Cond.methodLink RX7 85 yX4_knotsIn, Cond.methodLink RL 81 yX8_knot, Cond.instanceMethod yX8_knot, Cond.selects RX8 yX8_knot yX8_knot, Cond.code yX8_knot cX8_knot 3 (some .int), Cond.methodLink RL 82 yX7_clear, Cond.instanceMethod yX7_clear, Cond.selects RX7 yX7_clear yX7_clear, Cond.code yX7_clear cX7_clear 1 none, Cond.methodLink RX7 92 yX4_forgetAll, Cond.instanceMethod yX4_forgetAll, Cond.selects RX4 yX4_forgetAll yX4_forgetAll, Cond.code yX4_forgetAll cX4_forgetAll 1 none, Cond.methodLink RL 85 yX8_clear, Cond.instanceMethod yX8_clear, Cond.selects RX8 yX8_clear yX8_clear, Cond.code yX8_clear cX8_clear 1 none, Cond.methodLink RL 86 yX7_terms, Cond.instanceMethod yX7_terms]
def wsL_law0_r12 : List Cond := [Cond.selects RX7 yX7_terms yX7_terms, Cond.code yX7_terms cX7_terms 1 (some .int), Cond.methodLink RX7 95 yX4_size, Cond.instanceMethod yX4_size, Cond.selects RX4 yX4_size yX4_size, Cond.code yX4_size cX4_size 1 (some .int), Cond.methodLink RL 89 yX8_terms, Cond.instanceMethod yX8_terms, Cond.selects RX8 yX8_terms yX8_terms, Cond.code yX8_terms cX8_terms 1 (some .int), Cond.methodLink RL 90 yL_fault, Cond.static yL_fault, Cond.codeWith yL_fault cL_fault 4 (some .int) [(0, 9, 12, 24)], Cond.methodLink RL 32 yX7_fault, Cond.instanceMethod yX7_fault, Cond.selects RX7 yX7_fault yX7_fault, Cond.code yX7_fault cX7_fault 2 (some .int), Cond.methodLink RX7 99 yX5_study, Cond.instanceMethod yX5_study, Cond.selects RX5 yX5_study yX5_study, Cond.code yX5_study cX5_study 3 none, Cond.methodLink RX5 42 yX5_lineUp, Cond.instanceMethod yX5_lineUp, Cond.selects RX5 yX5_lineUp yX5_lineUp]
def wsL_law0_r13 : List Cond := [Cond.code yX5_lineUp cX5_lineUp 4 none, Cond.methodLink RX5 53 yX4_left, Cond.instanceMethod yX4_left, Cond.selects RX4 yX4_left yX4_left, Cond.code yX4_left cX4_left 2 (some .int), Cond.methodLink RX5 59 yX4_right, Cond.instanceMethod yX4_right, Cond.selects RX4 yX4_right yX4_right, Cond.code yX4_right cX4_right 2 (some .int), Cond.methodLink RX5 46 yX5_bind, Cond.instanceMethod yX5_bind, Cond.selects RX5 yX5_bind yX5_bind, Cond.code yX5_bind cX5_bind 6 none, Cond.methodLink RX5 65 yX4_kind, Cond.instanceMethod yX4_kind, Cond.selects RX4 yX4_kind yX4_kind, Cond.code yX4_kind cX4_kind 2 (some .int), Cond.methodLink RX5 68 yX4_whole, Cond.instanceMethod yX4_whole, Cond.selects RX4 yX4_whole yX4_whole, Cond.code yX4_whole cX4_whole 2 (some .int), Cond.methodLink RX5 71 yX4_value, Cond.instanceMethod yX4_value, Cond.selects RX4 yX4_value yX4_value]
def wsL_law0_r14 : List Cond := [Cond.code yX4_value cX4_value 2 (some .int), Cond.methodLink RX5 50 yX5_inferTypes, Cond.instanceMethod yX5_inferTypes, Cond.selects RX5 yX5_inferTypes yX5_inferTypes, Cond.code yX5_inferTypes cX5_inferTypes 4 none, Cond.methodLink RX5 74 yX5_widen, Cond.instanceMethod yX5_widen, Cond.selects RX5 yX5_widen yX5_widen, Cond.code yX5_widen cX5_widen 3 (some .boolean), Cond.methodLink RX5 78 yX5_addToType, Cond.instanceMethod yX5_addToType, Cond.selects RX5 yX5_addToType yX5_addToType, Cond.code yX5_addToType cX5_addToType 6 (some .boolean), Cond.methodLink RX5 82 yX5_widenPair, Cond.instanceMethod yX5_widenPair, Cond.selects RX5 yX5_widenPair yX5_widenPair, Cond.code yX5_widenPair cX5_widenPair 6 (some .boolean), Cond.methodLink RX5 86 yX5_addTypeOf, Cond.instanceMethod yX5_addTypeOf, Cond.selects RX5 yX5_addTypeOf yX5_addTypeOf, Cond.code yX5_addTypeOf cX5_addTypeOf 3 (some .boolean), Cond.methodLink RX7 102 yX5_firstFault, Cond.instanceMethod yX5_firstFault, Cond.selects RX5 yX5_firstFault yX5_firstFault]
def wsL_law0_r15 : List Cond := [Cond.code yX5_firstFault cX5_firstFault 3 (some .int), Cond.methodLink RX5 62 yX5_faultAt, Cond.instanceMethod yX5_faultAt, Cond.selects RX5 yX5_faultAt yX5_faultAt, Cond.code yX5_faultAt cX5_faultAt 2 (some .int), Cond.methodLink RX5 90 yX5_isLoose, Cond.instanceMethod yX5_isLoose, Cond.selects RX5 yX5_isLoose yX5_isLoose, Cond.code yX5_isLoose cX5_isLoose 3 (some .boolean), Cond.methodLink RX5 93 yX5_isDouble, Cond.instanceMethod yX5_isDouble, Cond.selects RX5 yX5_isDouble yX5_isDouble, Cond.code yX5_isDouble cX5_isDouble 3 (some .boolean), Cond.methodLink RL 92 yX8_fault, Cond.instanceMethod yX8_fault, Cond.selects RX8 yX8_fault yX8_fault, Cond.code yX8_fault cX8_fault 2 (some .int), Cond.methodLink RX8 110 yX8_faultOf, Cond.instanceMethod yX8_faultOf, Cond.selects RX8 yX8_faultOf yX8_faultOf, Cond.code yX8_faultOf cX8_faultOf 4 (some .int), Cond.methodLink RX8 100 yX8_typeAll, Cond.instanceMethod yX8_typeAll, Cond.selects RX8 yX8_typeAll yX8_typeAll]
def wsL_law0_r16 : List Cond := [Cond.code yX8_typeAll cX8_typeAll 4 none, Cond.methodLink RX8 90 yX8_gather, Cond.instanceMethod yX8_gather, Cond.selects RX8 yX8_gather yX8_gather, Cond.code yX8_gather cX8_gather 4 none, Cond.methodLink RX8 94 yX8_grow, Cond.instanceMethod yX8_grow, Cond.selects RX8 yX8_grow yX8_grow, Cond.code yX8_grow cX8_grow 8 (some .boolean), Cond.methodLink RX8 103 yX8_leftmost, Cond.instanceMethod yX8_leftmost, Cond.selects RX8 yX8_leftmost yX8_leftmost, Cond.code yX8_leftmost cX8_leftmost 3 (some .int), Cond.methodLink RX8 107 yX8_faultAt, Cond.instanceMethod yX8_faultAt, Cond.selects RX8 yX8_faultAt yX8_faultAt, Cond.code yX8_faultAt cX8_faultAt 4 (some .int), Cond.methodLink RX8 97 yX8_isGuarded, Cond.instanceMethod yX8_isGuarded, Cond.selects RX8 yX8_isGuarded yX8_isGuarded, Cond.code yX8_isGuarded cX8_isGuarded 5 (some .boolean), Cond.methodLink RL 93 yL_type, Cond.static yL_type, Cond.codeWith yL_type cL_type 5 (some .int) [(0, 10, 13, 24), (0, 10, 17, 26)]]
def wsL_law0_r17 : List Cond := [Cond.methodLink RL 35 yX7_type, Cond.instanceMethod yX7_type, Cond.selects RX7 yX7_type yX7_type, Cond.code yX7_type cX7_type 3 (some .int), Cond.methodLink RX7 108 yX7_needTyped, Cond.instanceMethod yX7_needTyped, Cond.selects RX7 yX7_needTyped yX7_needTyped, Cond.code yX7_needTyped cX7_needTyped 2 none, Cond.methodLink RX7 111 yX5_isNullable, Cond.instanceMethod yX5_isNullable, Cond.selects RX5 yX5_isNullable yX5_isNullable, Cond.code yX5_isNullable cX5_isNullable 2 (some .boolean), Cond.methodLink RX7 114 yX5_firstOf, Cond.instanceMethod yX5_firstOf, Cond.selects RX5 yX5_firstOf yX5_firstOf, Cond.code yX5_firstOf cX5_firstOf 2 (some .int), Cond.methodLink RX7 117 yX5_afterOf, Cond.instanceMethod yX5_afterOf, Cond.selects RX5 yX5_afterOf yX5_afterOf, Cond.code yX5_afterOf cX5_afterOf 2 (some .int), Cond.methodLink RL 95 yX8_type, Cond.instanceMethod yX8_type, Cond.selects RX8 yX8_type yX8_type, Cond.code yX8_type cX8_type 3 (some .int)]
def wsL_law0_r18 : List Cond := [Cond.methodLink RL 96 yX7_put, Cond.instanceMethod yX7_put, Cond.selects RX7 yX7_put yX7_put, Cond.code yX7_put cX7_put 2 (some .boolean), Cond.methodLink RX7 120 yX6_isFull, Cond.instanceMethod yX6_isFull, Cond.selects RX6 yX6_isFull yX6_isFull, Cond.code yX6_isFull cX6_isFull 1 (some .boolean), Cond.methodLink RX7 124 yX6_add, Cond.instanceMethod yX6_add, Cond.selects RX6 yX6_add yX6_add, Cond.code yX6_add cX6_add 2 none, Cond.methodLink RL 100 yX8_put, Cond.instanceMethod yX8_put, Cond.selects RX8 yX8_put yX8_put, Cond.code yX8_put cX8_put 2 (some .boolean), Cond.fieldLink RX8 113 "GuardedGrammarModel" "letters" "I", Cond.methodLink RL 101 yX7_cut, Cond.instanceMethod yX7_cut, Cond.selects RX7 yX7_cut yX7_cut, Cond.code yX7_cut cX7_cut 2 (some .boolean), Cond.methodLink RX7 126 yX6_size, Cond.instanceMethod yX6_size, Cond.selects RX6 yX6_size yX6_size]
def wsL_law0_r19 : List Cond := [Cond.code yX6_size cX6_size 1 (some .int), Cond.methodLink RX7 127 yX6_keep, Cond.instanceMethod yX6_keep, Cond.selects RX6 yX6_keep yX6_keep, Cond.code yX6_keep cX6_keep 2 none, Cond.methodLink RL 104 yX8_cut, Cond.instanceMethod yX8_cut, Cond.selects RX8 yX8_cut yX8_cut, Cond.code yX8_cut cX8_cut 2 (some .boolean), Cond.methodLink RL 105 yX7_length, Cond.instanceMethod yX7_length, Cond.selects RX7 yX7_length yX7_length, Cond.code yX7_length cX7_length 1 (some .int), Cond.methodLink RL 108 yX8_length, Cond.instanceMethod yX8_length, Cond.selects RX8 yX8_length yX8_length, Cond.code yX8_length cX8_length 1 (some .int), Cond.methodLink RL 109 yL_letter, Cond.static yL_letter, Cond.codeWith yL_letter cL_letter 4 (some .int) [(0, 9, 12, 24)], Cond.methodLink RL 38 yX7_letter, Cond.instanceMethod yX7_letter, Cond.selects RX7 yX7_letter yX7_letter, Cond.code yX7_letter cX7_letter 2 (some .int)]
def wsL_law0_r20 : List Cond := [Cond.methodLink RX7 130 yX6_at, Cond.instanceMethod yX6_at, Cond.selects RX6 yX6_at yX6_at, Cond.code yX6_at cX6_at 2 (some .int), Cond.methodLink RL 111 yX8_letter, Cond.instanceMethod yX8_letter, Cond.selects RX8 yX8_letter yX8_letter, Cond.code yX8_letter cX8_letter 2 (some .int), Cond.methodLink RL 112 yL_read, Cond.static yL_read, Cond.codeWith yL_read cL_read 4 (some .int) [(0, 9, 12, 24), (0, 9, 15, 26), (0, 9, 18, 13)], Cond.methodLink RL 41 yX7_read, Cond.instanceMethod yX7_read, Cond.selects RX7 yX7_read yX7_read, Cond.code yX7_read cX7_read 2 (some .int), Cond.methodLink RX7 133 yX0_reads, Cond.instanceMethod yX0_reads, Cond.selects RX0 yX0_reads yX0_reads, Cond.code yX0_reads cX0_reads 3 (some .boolean), Cond.constant RX0 50 (1000000), Cond.methodLink RX0 43 yX2_forgetAll, Cond.instanceMethod yX2_forgetAll, Cond.selects RX2 yX2_forgetAll yX2_forgetAll, Cond.code yX2_forgetAll cX2_forgetAll 1 none]
def wsL_law0_r21 : List Cond := [Cond.methodLink RX0 46 yX0_await, Cond.instanceMethod yX0_await, Cond.selects RX0 yX0_await yX0_await, Cond.code yX0_await cX0_await 2 none, Cond.methodLink RX0 51 yX0_visit, Cond.instanceMethod yX0_visit, Cond.selects RX0 yX0_visit yX0_visit, Cond.code yX0_visit cX0_visit 3 (some .boolean), Cond.methodLink RX0 61 yX4_kind, Cond.methodLink RX0 67 yX4_value, Cond.methodLink RX0 70 yX0_readLetter, Cond.instanceMethod yX0_readLetter, Cond.selects RX0 yX0_readLetter yX0_readLetter, Cond.code yX0_readLetter cX0_readLetter 3 (some .boolean), Cond.methodLink RX0 55 yX6_size, Cond.methodLink RX0 87 yX6_at, Cond.methodLink RX0 73 yX4_right, Cond.methodLink RX0 76 yX4_left, Cond.methodLink RX0 79 yX0_choose, Cond.instanceMethod yX0_choose, Cond.selects RX0 yX0_choose yX0_choose, Cond.code yX0_choose cX0_choose 5 (some .boolean), Cond.methodLink RX0 90 yX5_side, Cond.instanceMethod yX5_side]
def wsL_law0_r22 : List Cond := [Cond.selects RX5 yX5_side yX5_side, Cond.code yX5_side cX5_side 5 (some .int), Cond.methodLink RX0 94 yX2_add, Cond.instanceMethod yX2_add, Cond.selects RX2 yX2_add yX2_add, Cond.code yX2_add cX2_add 5 none, Cond.constantLong RX2 19 (-1), Cond.methodLink RX0 82 yX5_binder, Cond.instanceMethod yX5_binder, Cond.selects RX5 yX5_binder yX5_binder, Cond.code yX5_binder cX5_binder 2 (some .int), Cond.methodLink RX7 137 yX0_place, Cond.instanceMethod yX0_place, Cond.selects RX0 yX0_place yX0_place, Cond.code yX0_place cX0_place 1 (some .int), Cond.methodLink RX7 140 yX0_keepSteps, Cond.instanceMethod yX0_keepSteps, Cond.selects RX0 yX0_keepSteps yX0_keepSteps, Cond.code yX0_keepSteps cX0_keepSteps 2 none, Cond.methodLink RX7 143 yX0_visits, Cond.instanceMethod yX0_visits, Cond.selects RX0 yX0_visits yX0_visits, Cond.code yX0_visits cX0_visits 1 (some .int), Cond.methodLink RL 114 yX8_read]
def wsL_law0_r23 : List Cond := [Cond.instanceMethod yX8_read, Cond.selects RX8 yX8_read yX8_read, Cond.code yX8_read cX8_read 5 (some .int), Cond.fieldLink RX8 126 "GuardedGrammarModel" "fresh" "I", Cond.fieldLink RX8 138 "GuardedGrammarModel" "steps" "I", Cond.fieldLink RX8 119 "GuardedGrammarModel" "visited" "I", Cond.methodLink RX8 129 yX8_beginAt, Cond.instanceMethod yX8_beginAt, Cond.selects RX8 yX8_beginAt yX8_beginAt, Cond.code yX8_beginAt cX8_beginAt 2 none, Cond.fieldLink RX8 116 "GuardedGrammarModel" "open" "I", Cond.methodLink RX8 132 yX8_go, Cond.instanceMethod yX8_go, Cond.selects RX8 yX8_go yX8_go, Cond.code yX8_go cX8_go 4 (some .int), Cond.methodLink RX8 122 yX8_choice, Cond.instanceMethod yX8_choice, Cond.selects RX8 yX8_choice yX8_choice, Cond.code yX8_choice cX8_choice 5 (some .int), Cond.methodLink RX8 135 yX8_fail, Cond.instanceMethod yX8_fail, Cond.selects RX8 yX8_fail yX8_fail, Cond.code yX8_fail cX8_fail 2 (some .int), Cond.methodLink RL 115 yX7_stopped]
def wsL_law0_r24 : List Cond := [Cond.instanceMethod yX7_stopped, Cond.selects RX7 yX7_stopped yX7_stopped, Cond.code yX7_stopped cX7_stopped 1 (some .int), Cond.methodLink RL 118 yX8_stopped, Cond.instanceMethod yX8_stopped, Cond.selects RX8 yX8_stopped yX8_stopped, Cond.code yX8_stopped cX8_stopped 1 (some .int), Cond.methodLink RL 119 yX7_trace, Cond.instanceMethod yX7_trace, Cond.selects RX7 yX7_trace yX7_trace, Cond.code yX7_trace cX7_trace 1 (some .int), Cond.methodLink RX7 146 yX0_kept, Cond.instanceMethod yX0_kept, Cond.selects RX0 yX0_kept yX0_kept, Cond.code yX0_kept cX0_kept 1 (some (.object "GuardedGrammar$Steps")), Cond.methodLink RX7 150 yX2_size, Cond.instanceMethod yX2_size, Cond.selects RX2 yX2_size yX2_size, Cond.code yX2_size cX2_size 1 (some .int), Cond.methodLink RL 122 yX8_trace, Cond.instanceMethod yX8_trace, Cond.selects RX8 yX8_trace yX8_trace, Cond.code yX8_trace cX8_trace 1 (some .int), Cond.methodLink RL 123 yL_step]
def wsL_law0_r25 : List Cond := [Cond.static yL_step, Cond.codeWith yL_step cL_step 4 (some .int) [(0, 9, 12, 24)], Cond.methodLink RL 44 yX7_step, Cond.instanceMethod yX7_step, Cond.selects RX7 yX7_step yX7_step, Cond.code yX7_step cX7_step 2 (some .int), Cond.methodLink RX7 153 yX2_at, Cond.instanceMethod yX2_at, Cond.selects RX2 yX2_at yX2_at, Cond.code yX2_at cX2_at 2 (some .int), Cond.methodLink RL 125 yX8_step, Cond.instanceMethod yX8_step, Cond.selects RX8 yX8_step yX8_step, Cond.code yX8_step cX8_step 2 (some .int), Cond.methodLink RL 126 yL_count, Cond.static yL_count, Cond.codeWith yL_count cL_count 5 (some .int) [(0, 9, 12, 24), (0, 9, 16, 26), (0, 9, 20, 13)], Cond.methodLink RL 47 yX7_count, Cond.instanceMethod yX7_count, Cond.selects RX7 yX7_count yX7_count, Cond.code yX7_count cX7_count 3 (some .long), Cond.methodLink RX7 154 yX7_countTo, Cond.instanceMethod yX7_countTo, Cond.selects RX7 yX7_countTo yX7_countTo]
def wsL_law0_r26 : List Cond := [Cond.code yX7_countTo cX7_countTo 3 none, Cond.methodLink RX7 169 yX3_countTo, Cond.instanceMethod yX3_countTo, Cond.selects RX3 yX3_countTo yX3_countTo, Cond.code yX3_countTo cX3_countTo 3 none, Cond.methodLink RX3 24 yX3_countLength, Cond.instanceMethod yX3_countLength, Cond.selects RX3 yX3_countLength yX3_countLength, Cond.code yX3_countLength cX3_countLength 8 none, Cond.methodLink RX3 28 yX5_size, Cond.instanceMethod yX5_size, Cond.selects RX5 yX5_size yX5_size, Cond.code yX5_size cX5_size 1 (some .int), Cond.methodLink RX3 34 yX5_inOrder, Cond.instanceMethod yX5_inOrder, Cond.selects RX5 yX5_inOrder yX5_inOrder, Cond.code yX5_inOrder cX5_inOrder 2 (some .int), Cond.methodLink RX3 38 yX3_wordsByParts, Cond.instanceMethod yX3_wordsByParts, Cond.selects RX3 yX3_wordsByParts yX3_wordsByParts, Cond.code yX3_wordsByParts cX3_wordsByParts 3 (some .long), Cond.methodLink RX3 42 yX4_kind, Cond.methodLink RX3 47 yX4_left, Cond.methodLink RX3 50 yX4_right]
def wsL_law0_r27 : List Cond := [Cond.methodLink RX3 53 yX3_wordsOfPair, Cond.instanceMethod yX3_wordsOfPair, Cond.selects RX3 yX3_wordsOfPair yX3_wordsOfPair, Cond.code yX3_wordsOfPair cX3_wordsOfPair 7 (some .long), Cond.methodLink RX3 57 yX5_binder, Cond.methodLink RX7 158 yX3_words, Cond.instanceMethod yX3_words, Cond.selects RX3 yX3_words yX3_words, Cond.code yX3_words cX3_words 3 (some .long), Cond.methodLink RL 128 yX8_count, Cond.instanceMethod yX8_count, Cond.selects RX8 yX8_count yX8_count, Cond.code yX8_count cX8_count 3 (some .long), Cond.methodLink RX8 145 yX8_wrongCount, Cond.instanceMethod yX8_wrongCount, Cond.selects RX8 yX8_wrongCount yX8_wrongCount, Cond.code yX8_wrongCount cX8_wrongCount 3 (some .int), Cond.methodLink RX8 148 yX8_countAll, Cond.instanceMethod yX8_countAll, Cond.selects RX8 yX8_countAll yX8_countAll, Cond.code yX8_countAll cX8_countAll 7 none, Cond.methodLink RX8 141 yX8_countAt, Cond.instanceMethod yX8_countAt, Cond.selects RX8 yX8_countAt yX8_countAt]
def wsL_law0_r28 : List Cond := [Cond.code yX8_countAt cX8_countAt 8 (some .long), Cond.methodLink RL 131 yL_find, Cond.static yL_find, Cond.codeWith yL_find cL_find 6 (some .int) [(0, 7, 10, 24), (0, 7, 14, 26), (0, 7, 18, 13), (0, 7, 22, 55)], Cond.classLink RL 55 "java/util/NoSuchElementException", Cond.methodLink RL 51 yX7_find, Cond.instanceMethod yX7_find, Cond.selects RX7 yX7_find yX7_find, Cond.code yX7_find cX7_find 5 none, Cond.classLink RX7 162 "java/util/NoSuchElementException", Cond.initialized "java/util/NoSuchElementException", Cond.methodLink RX7 165 yX1_spell, Cond.instanceMethod yX1_spell, Cond.selects RX1 yX1_spell yX1_spell, Cond.code yX1_spell cX1_spell 9 none, Cond.methodLink RX1 44 yX6_keep, Cond.methodLink RX1 50 yX1_startPile, Cond.instanceMethod yX1_startPile, Cond.selects RX1 yX1_startPile yX1_startPile, Cond.code yX1_startPile cX1_startPile 4 none, Cond.methodLink RX1 58 yX1_pileUp, Cond.instanceMethod yX1_pileUp, Cond.selects RX1 yX1_pileUp yX1_pileUp, Cond.code yX1_pileUp cX1_pileUp 4 none]
def wsL_law0_r29 : List Cond := [Cond.methodLink RX1 108 arraycopyName, Cond.native arraycopyName, Cond.static arraycopyName, Cond.initialized "java/lang/System", Cond.methodLink RX1 114 yX3_lengthen, Cond.instanceMethod yX3_lengthen, Cond.selects RX3 yX3_lengthen yX3_lengthen, Cond.code yX3_lengthen cX3_lengthen 9 none, Cond.methodLink RX1 54 yX1_spellNext, Cond.instanceMethod yX1_spellNext, Cond.selects RX1 yX1_spellNext yX1_spellNext, Cond.code yX1_spellNext cX1_spellNext 11 (some .long), Cond.methodLink RX1 61 yX1_readerOf, Cond.instanceMethod yX1_readerOf, Cond.selects RX1 yX1_readerOf yX1_readerOf, Cond.code yX1_readerOf cX1_readerOf 3 (some .int), Cond.methodLink RX1 78 yX5_firstOf, Cond.methodLink RX1 83 yX5_isNullable, Cond.methodLink RX1 65 yX1_goDown, Cond.instanceMethod yX1_goDown, Cond.selects RX1 yX1_goDown yX1_goDown, Cond.code yX1_goDown cX1_goDown 5 none, Cond.methodLink RX1 87 yX4_kind, Cond.methodLink RX1 92 yX4_right]
def wsL_law0_r30 : List Cond := [Cond.methodLink RX1 95 yX1_below, Cond.instanceMethod yX1_below, Cond.selects RX1 yX1_below yX1_below, Cond.code yX1_below cX1_below 3 (some .int), Cond.methodLink RX1 99 yX5_binder, Cond.methodLink RX1 102 yX5_side, Cond.methodLink RX1 105 yX4_left, Cond.methodLink RX1 68 yX1_wordsAhead, Cond.instanceMethod yX1_wordsAhead, Cond.selects RX1 yX1_wordsAhead yX1_wordsAhead, Cond.code yX1_wordsAhead cX1_wordsAhead 4 (some .long), Cond.methodLink RX1 72 yX1_takeFresh, Cond.instanceMethod yX1_takeFresh, Cond.selects RX1 yX1_takeFresh yX1_takeFresh, Cond.code yX1_takeFresh cX1_takeFresh 4 none, Cond.methodLink RX1 75 yX6_add, Cond.methodLink RL 134 yX8_find, Cond.instanceMethod yX8_find, Cond.selects RX8 yX8_find yX8_find, Cond.code yX8_find cX8_find 12 none, Cond.methodLink RX8 154 yX8_keep, Cond.instanceMethod yX8_keep, Cond.selects RX8 yX8_keep yX8_keep, Cond.code yX8_keep cX8_keep 2 none]
def wsL_law0_r31 : List Cond := [Cond.fieldLink RX8 151 "GuardedGrammarModel" "saved" "I", Cond.methodLink RX8 157 yX8_countOpen, Cond.instanceMethod yX8_countOpen, Cond.selects RX8 yX8_countOpen yX8_countOpen, Cond.code yX8_countOpen cX8_countOpen 5 (some .long), Cond.methodLink RX8 161 yX8_back, Cond.instanceMethod yX8_back, Cond.selects RX8 yX8_back yX8_back, Cond.code yX8_back cX8_back 2 none]
def wsL_law0 : List Cond := (wsL_law0_r1 ++ (wsL_law0_r2 ++ (wsL_law0_r3 ++ (wsL_law0_r4 ++ (wsL_law0_r5 ++ (wsL_law0_r6 ++ (wsL_law0_r7 ++ (wsL_law0_r8 ++ (wsL_law0_r9 ++ (wsL_law0_r10 ++ (wsL_law0_r11 ++ (wsL_law0_r12 ++ (wsL_law0_r13 ++ (wsL_law0_r14 ++ (wsL_law0_r15 ++ (wsL_law0_r16 ++ (wsL_law0_r17 ++ (wsL_law0_r18 ++ (wsL_law0_r19 ++ (wsL_law0_r20 ++ (wsL_law0_r21 ++ (wsL_law0_r22 ++ (wsL_law0_r23 ++ (wsL_law0_r24 ++ (wsL_law0_r25 ++ (wsL_law0_r26 ++ (wsL_law0_r27 ++ (wsL_law0_r28 ++ (wsL_law0_r29 ++ (wsL_law0_r30 ++ wsL_law0_r31)))))))))))))))))))))))))))))) ++ wsX70 ++ wsX80 ++ wsX40 ++ wsX50 ++ wsX60 ++ wsX00 ++ wsX30 ++ wsX10 ++ wsX20 ++ ([] : List Cond)
def wsL_law : List Cond := wsL_law0 ++ (vx_at0 RX7 63 "java/lang/IllegalArgumentException" ["java/lang/RuntimeException", "java/lang/Exception"]).filter goodWord ++ (vx_at0 RX7 91 "java/lang/UnsupportedOperationException" ["java/lang/RuntimeException", "java/lang/Exception"]).filter goodWord ++ (vx_at0 RX7 84 "java/lang/IllegalStateException" ["java/lang/RuntimeException", "java/lang/Exception"]).filter goodWord ++ (vx_at0 RX7 107 "java/lang/IndexOutOfBoundsException" ["java/lang/RuntimeException", "java/lang/Exception"]).filter goodWord ++ (vx_at0 RX7 164 "java/util/NoSuchElementException" ["java/lang/RuntimeException", "java/lang/Exception"]).filter goodWord
set_option maxRecDepth 20000 in
theorem wsL_law_in0 : ∀ w ∈ wsL_law0, w ∈ lw_tbl := fun w h => (goodIn_p wsL_law0 [76, 79, 84, 113, 148, 161, 167, 206, 224, 823, 344, 413, 417, 436, 443, 440, 447, 917, 921, 913, 454, 458, 925, 467, 471, 475, 494, 929, 933, 937, 516, 941, 279, 283, 945, 287, 291, 949, 524, 528, 532, 536, 540, 544, 548, 552, 556, 560, 564, 568, 572, 576, 580, 584, 588, 592, 953, 957, 961, 965, 969, 973, 977, 981, 599, 603, 607, 611, 615, 985, 295, 299, 303, 989, 307, 311, 315, 993, 319, 997, 622, 626, 1001, 633, 637, 641, 645, 650, 656, 664, 668, 672, 677, 681, 685, 689, 1005, 1009, 1013, 1017, 1021, 323, 1025, 327, 331, 335, 1029, 696, 700, 1033, 707, 711, 715, 719, 723, 727, 731, 738, 743, 1037, 1041, 1045, 1049, 751, 770, 775, 779, 786, 790, 794, 800, 806, 813, 817, 1053, 1057, 1061, 1065] (by decide +kernel) (by decide +kernel) w h).1
theorem wsL_law_x0 : ∀ w ∈ (vx_at0 RX7 63 "java/lang/IllegalArgumentException" ["java/lang/RuntimeException", "java/lang/Exception"]).filter goodWord, w ∈ lw_tbl := by decide +kernel
theorem wsL_law_x1 : ∀ w ∈ (vx_at0 RX7 91 "java/lang/UnsupportedOperationException" ["java/lang/RuntimeException", "java/lang/Exception"]).filter goodWord, w ∈ lw_tbl := by decide +kernel
theorem wsL_law_x2 : ∀ w ∈ (vx_at0 RX7 84 "java/lang/IllegalStateException" ["java/lang/RuntimeException", "java/lang/Exception"]).filter goodWord, w ∈ lw_tbl := by decide +kernel
theorem wsL_law_x3 : ∀ w ∈ (vx_at0 RX7 107 "java/lang/IndexOutOfBoundsException" ["java/lang/RuntimeException", "java/lang/Exception"]).filter goodWord, w ∈ lw_tbl := by decide +kernel
theorem wsL_law_x4 : ∀ w ∈ (vx_at0 RX7 164 "java/util/NoSuchElementException" ["java/lang/RuntimeException", "java/lang/Exception"]).filter goodWord, w ∈ lw_tbl := by decide +kernel
theorem wsL_law_in : ∀ w ∈ wsL_law, w ∈ lw_tbl := fun w h => (List.mem_append.mp h).elim (fun h => (List.mem_append.mp h).elim (fun h => (List.mem_append.mp h).elim (fun h => (List.mem_append.mp h).elim (fun h => (List.mem_append.mp h).elim (fun h => wsL_law_in0 w h) (fun h => wsL_law_x0 w h)) (fun h => wsL_law_x1 w h)) (fun h => wsL_law_x2 w h)) (fun h => wsL_law_x3 w h)) (fun h => wsL_law_x4 w h)
theorem inlX0 : ∀ w ∈ wsX00, w ∈ wsL_law := fun _ h => List.mem_append_left _ (List.mem_append_left _ (List.mem_append_left _ (List.mem_append_left _ (List.mem_append_left _ (List.mem_append_left _ (List.mem_append_left _ (List.mem_append_left _ (List.mem_append_left _ (List.mem_append_right _ h)))))))))
theorem inX0 : ∀ w ∈ wsX00, w ∈ lw_tbl := fun w h => wsL_law_in w (inlX0 w h)
theorem inlX1 : ∀ w ∈ wsX10, w ∈ wsL_law := fun _ h => List.mem_append_left _ (List.mem_append_left _ (List.mem_append_left _ (List.mem_append_left _ (List.mem_append_left _ (List.mem_append_left _ (List.mem_append_left _ (List.mem_append_right _ h)))))))
theorem inX1 : ∀ w ∈ wsX10, w ∈ lw_tbl := fun w h => wsL_law_in w (inlX1 w h)
theorem inlX2 : ∀ w ∈ wsX20, w ∈ wsL_law := fun _ h => List.mem_append_left _ (List.mem_append_left _ (List.mem_append_left _ (List.mem_append_left _ (List.mem_append_left _ (List.mem_append_left _ (List.mem_append_right _ h))))))
theorem inX2 : ∀ w ∈ wsX20, w ∈ lw_tbl := fun w h => wsL_law_in w (inlX2 w h)
theorem inlX3 : ∀ w ∈ wsX30, w ∈ wsL_law := fun _ h => List.mem_append_left _ (List.mem_append_left _ (List.mem_append_left _ (List.mem_append_left _ (List.mem_append_left _ (List.mem_append_left _ (List.mem_append_left _ (List.mem_append_left _ (List.mem_append_right _ h))))))))
theorem inX3 : ∀ w ∈ wsX30, w ∈ lw_tbl := fun w h => wsL_law_in w (inlX3 w h)
theorem inlX4 : ∀ w ∈ wsX40, w ∈ wsL_law := fun _ h => List.mem_append_left _ (List.mem_append_left _ (List.mem_append_left _ (List.mem_append_left _ (List.mem_append_left _ (List.mem_append_left _ (List.mem_append_left _ (List.mem_append_left _ (List.mem_append_left _ (List.mem_append_left _ (List.mem_append_left _ (List.mem_append_left _ (List.mem_append_right _ h))))))))))))
theorem inX4 : ∀ w ∈ wsX40, w ∈ lw_tbl := fun w h => wsL_law_in w (inlX4 w h)
theorem inlX5 : ∀ w ∈ wsX50, w ∈ wsL_law := fun _ h => List.mem_append_left _ (List.mem_append_left _ (List.mem_append_left _ (List.mem_append_left _ (List.mem_append_left _ (List.mem_append_left _ (List.mem_append_left _ (List.mem_append_left _ (List.mem_append_left _ (List.mem_append_left _ (List.mem_append_left _ (List.mem_append_right _ h)))))))))))
theorem inX5 : ∀ w ∈ wsX50, w ∈ lw_tbl := fun w h => wsL_law_in w (inlX5 w h)
theorem inlX6 : ∀ w ∈ wsX60, w ∈ wsL_law := fun _ h => List.mem_append_left _ (List.mem_append_left _ (List.mem_append_left _ (List.mem_append_left _ (List.mem_append_left _ (List.mem_append_left _ (List.mem_append_left _ (List.mem_append_left _ (List.mem_append_left _ (List.mem_append_left _ (List.mem_append_right _ h))))))))))
theorem inX6 : ∀ w ∈ wsX60, w ∈ lw_tbl := fun w h => wsL_law_in w (inlX6 w h)
theorem inlX7 : ∀ w ∈ wsX70, w ∈ wsL_law := fun _ h => List.mem_append_left _ (List.mem_append_left _ (List.mem_append_left _ (List.mem_append_left _ (List.mem_append_left _ (List.mem_append_left _ (List.mem_append_left _ (List.mem_append_left _ (List.mem_append_left _ (List.mem_append_left _ (List.mem_append_left _ (List.mem_append_left _ (List.mem_append_left _ (List.mem_append_left _ (List.mem_append_right _ h))))))))))))))
theorem inX7 : ∀ w ∈ wsX70, w ∈ lw_tbl := fun w h => wsL_law_in w (inlX7 w h)
theorem inlX8 : ∀ w ∈ wsX80, w ∈ wsL_law := fun _ h => List.mem_append_left _ (List.mem_append_left _ (List.mem_append_left _ (List.mem_append_left _ (List.mem_append_left _ (List.mem_append_left _ (List.mem_append_left _ (List.mem_append_left _ (List.mem_append_left _ (List.mem_append_left _ (List.mem_append_left _ (List.mem_append_left _ (List.mem_append_left _ (List.mem_append_right _ h)))))))))))))
theorem inX8 : ∀ w ∈ wsX80, w ∈ lw_tbl := fun w h => wsL_law_in w (inlX8 w h)
theorem inJx145de : ∀ w ∈ wsJx145de0, w ∈ lw_tbl := by decide +kernel
theorem inJ9 : ∀ w ∈ wsJ90, w ∈ lw_tbl := by decide +kernel
theorem inJ10 : ∀ w ∈ wsJ100, w ∈ lw_tbl := by decide +kernel
theorem dJ9_max_7cf53_0 : decode cJ9_max_7cf53 0 = .ok (.iload_n 0, 1) := by decide +kernel
theorem dJ9_max_7cf53_1 : decode cJ9_max_7cf53 1 = .ok (.iload_n 1, 1) := by decide +kernel
theorem dJ9_max_7cf53_2 : decode cJ9_max_7cf53 2 = .ok (.if_icmp .lt 7, 3) := by decide +kernel
theorem dJ9_max_7cf53_5 : decode cJ9_max_7cf53 5 = .ok (.iload_n 0, 1) := by decide +kernel
theorem dJ9_max_7cf53_6 : decode cJ9_max_7cf53 6 = .ok (.goto 4, 3) := by decide +kernel
theorem dJ9_max_7cf53_9 : decode cJ9_max_7cf53 9 = .ok (.iload_n 1, 1) := by decide +kernel
theorem dJ9_max_7cf53_10 : decode cJ9_max_7cf53 10 = .ok (.ireturn, 1) := by decide +kernel
abbrev vwCl : List vw_C := [(RX0, TX0, 8), (RX1, TX1, 9), (RX2, TX2, 2), (RX3, TX3, 3), (RX4, TX4, 7), (RX5, TX5, 9), (RX6, TX6, 2), (RX7, TX7, 7), (RX8, TX8, 28)]
end
section
set_option maxRecDepth 20000 in
theorem ggX0_init_X2_init : GoodIn wsX0_init wsX2_init := goodIn_r _ [17, 18, 2, 3, 19, 20, 21, 30, 31] (by decide +kernel) (by decide +kernel)
set_option maxRecDepth 20000 in
theorem gX0_init_X2_init_n27 : GoodIn wsX0_init (wsX2_init) := ggX0_init_X2_init
set_option maxRecDepth 20000 in
theorem ggX0_reads_X2_forgetAll : GoodIn wsX0_reads wsX2_forgetAll := goodIn_r _ [11, 12, 93, 94] (by decide +kernel) (by decide +kernel)
set_option maxRecDepth 20000 in
theorem gX0_reads_X2_forgetAll : GoodIn wsX0_reads (wsV RX0 43 RX2 yX2_forgetAll wsX2_forgetAll) := goodIn_app (goodIn_of _ (by decide +kernel)) ggX0_reads_X2_forgetAll
set_option maxRecDepth 20000 in
theorem ggX0_reads_X0_await : GoodIn wsX0_reads wsX0_await := goodIn_r _ [17, 3, 6, 85, 86, 87, 88, 89, 90, 91, 92] (by decide +kernel) (by decide +kernel)
set_option maxRecDepth 20000 in
theorem gX0_reads_X0_await : GoodIn wsX0_reads (wsV RX0 46 RX0 yX0_await wsX0_await) := goodIn_app (goodIn_of _ (by decide +kernel)) ggX0_reads_X0_await
set_option maxRecDepth 20000 in
theorem ggX0_reads_X0_visit : GoodIn wsX0_reads wsX0_visit := goodIn_r _ [21, 22, 23, 24, 25, 26, 27, 28, 29, 30, 31, 32, 33, 34, 35, 36, 37, 16, 38, 2, 39, 40, 41, 42, 43, 44, 45, 46, 47, 48, 49, 50, 51, 52, 53, 54, 13, 14, 15, 17, 3, 6, 55, 56, 57, 58, 59, 60, 61, 62, 63, 1, 64, 65, 66, 67, 68, 69, 70, 71, 72, 73, 74, 75, 76, 10, 77, 12, 78, 79, 80, 81, 82, 83, 84, 85, 86, 87, 88, 89, 90, 91, 92, 95, 96, 97, 98, 99, 100, 101, 102, 103, 104, 105, 106, 107, 108, 109, 110, 111, 112, 93, 94] (by decide +kernel) (by decide +kernel)
set_option maxRecDepth 20000 in
theorem gX0_reads_X0_visit : GoodIn wsX0_reads (wsV RX0 51 RX0 yX0_visit wsX0_visit) := goodIn_app (goodIn_of _ (by decide +kernel)) ggX0_reads_X0_visit
set_option maxRecDepth 20000 in
theorem ggX0_reads_X6_size : GoodIn wsX0_reads wsX6_size := goodIn_r _ [43, 44, 102, 103] (by decide +kernel) (by decide +kernel)
set_option maxRecDepth 20000 in
theorem gX0_reads_X6_size : GoodIn wsX0_reads (wsV RX0 55 RX6 yX6_size wsX6_size) := goodIn_app (goodIn_of _ (by decide +kernel)) ggX0_reads_X6_size
set_option maxRecDepth 20000 in
theorem ggX0_visit_X4_kind : GoodIn wsX0_visit wsX4_kind := goodIn_r _ [7, 8, 83, 84, 85, 86, 87, 88, 89] (by decide +kernel) (by decide +kernel)
set_option maxRecDepth 20000 in
theorem gX0_visit_X4_kind : GoodIn wsX0_visit (wsV RX0 61 RX4 yX4_kind wsX4_kind) := goodIn_app (goodIn_of _ (by decide +kernel)) ggX0_visit_X4_kind
set_option maxRecDepth 20000 in
theorem ggX0_visit_X4_value : GoodIn wsX0_visit wsX4_value := goodIn_r _ [12, 13, 83, 84, 85, 86, 87, 88, 89] (by decide +kernel) (by decide +kernel)
set_option maxRecDepth 20000 in
theorem gX0_visit_X4_value : GoodIn wsX0_visit (wsV RX0 67 RX4 yX4_value wsX4_value) := goodIn_app (goodIn_of _ (by decide +kernel)) ggX0_visit_X4_value
set_option maxRecDepth 20000 in
theorem ggX0_visit_X0_readLetter : GoodIn wsX0_visit wsX0_readLetter := goodIn_r _ [18, 19, 20, 21, 22, 23, 24, 25, 26, 27, 28, 29, 30, 75, 76, 77, 78, 79, 80, 81, 82, 90, 91] (by decide +kernel) (by decide +kernel)
set_option maxRecDepth 20000 in
theorem gX0_visit_X0_readLetter : GoodIn wsX0_visit (wsV RX0 70 RX0 yX0_readLetter wsX0_readLetter) := goodIn_app (goodIn_of _ (by decide +kernel)) ggX0_visit_X0_readLetter
set_option maxRecDepth 20000 in
theorem ggX0_visit_X4_right : GoodIn wsX0_visit wsX4_right := goodIn_r _ [34, 35, 83, 84, 85, 86, 87, 88, 89] (by decide +kernel) (by decide +kernel)
set_option maxRecDepth 20000 in
theorem gX0_visit_X4_right : GoodIn wsX0_visit (wsV RX0 73 RX4 yX4_right wsX4_right) := goodIn_app (goodIn_of _ (by decide +kernel)) ggX0_visit_X4_right
set_option maxRecDepth 20000 in
theorem ggX0_visit_X0_await : GoodIn wsX0_visit wsX0_await := goodIn_r _ [39, 40, 41, 75, 76, 77, 78, 79, 80, 81, 82] (by decide +kernel) (by decide +kernel)
set_option maxRecDepth 20000 in
theorem gX0_visit_X0_await : GoodIn wsX0_visit (wsV RX0 46 RX0 yX0_await wsX0_await) := goodIn_app (goodIn_of _ (by decide +kernel)) ggX0_visit_X0_await
set_option maxRecDepth 20000 in
theorem ggX0_visit_X4_left : GoodIn wsX0_visit wsX4_left := goodIn_r _ [45, 46, 83, 84, 85, 86, 87, 88, 89] (by decide +kernel) (by decide +kernel)
set_option maxRecDepth 20000 in
theorem gX0_visit_X4_left : GoodIn wsX0_visit (wsV RX0 76 RX4 yX4_left wsX4_left) := goodIn_app (goodIn_of _ (by decide +kernel)) ggX0_visit_X4_left
set_option maxRecDepth 20000 in
theorem ggX0_visit_X0_choose : GoodIn wsX0_visit wsX0_choose := goodIn_r _ [50, 19, 2, 51, 1, 20, 21, 22, 23, 24, 25, 26, 27, 28, 29, 30, 52, 53, 54, 55, 56, 57, 58, 59, 60, 43, 44, 6, 45, 46, 61, 32, 33, 34, 35, 62, 63, 64, 65, 66, 67, 68, 69, 42, 31, 36, 37, 38, 17, 39, 40, 41, 75, 76, 77, 78, 79, 80, 81, 82, 90, 91, 92, 93, 94, 95, 96, 97, 98, 99, 100, 83, 84, 85, 86, 87, 88, 89, 101, 102] (by decide +kernel) (by decide +kernel)
set_option maxRecDepth 20000 in
theorem gX0_visit_X0_choose : GoodIn wsX0_visit (wsV RX0 79 RX0 yX0_choose wsX0_choose) := goodIn_app (goodIn_of _ (by decide +kernel)) ggX0_visit_X0_choose
set_option maxRecDepth 20000 in
theorem ggX0_visit_X5_binder : GoodIn wsX0_visit wsX5_binder := goodIn_r _ [73, 74, 92, 93, 94, 95, 96, 97, 98, 99, 100] (by decide +kernel) (by decide +kernel)
set_option maxRecDepth 20000 in
theorem gX0_visit_X5_binder : GoodIn wsX0_visit (wsV RX0 82 RX5 yX5_binder wsX5_binder) := goodIn_app (goodIn_of _ (by decide +kernel)) ggX0_visit_X5_binder
set_option maxRecDepth 20000 in
theorem ggX0_readLetter_X6_size : GoodIn wsX0_readLetter wsX6_size := goodIn_r _ [6, 7, 21, 22] (by decide +kernel) (by decide +kernel)
set_option maxRecDepth 20000 in
theorem gX0_readLetter_X6_size : GoodIn wsX0_readLetter (wsV RX0 55 RX6 yX6_size wsX6_size) := goodIn_app (goodIn_of _ (by decide +kernel)) ggX0_readLetter_X6_size
set_option maxRecDepth 20000 in
theorem ggX0_readLetter_X6_at : GoodIn wsX0_readLetter wsX6_at := goodIn_r _ [11, 12, 21, 22] (by decide +kernel) (by decide +kernel)
set_option maxRecDepth 20000 in
theorem gX0_readLetter_X6_at : GoodIn wsX0_readLetter (wsV RX0 87 RX6 yX6_at wsX6_at) := goodIn_app (goodIn_of _ (by decide +kernel)) ggX0_readLetter_X6_at
set_option maxRecDepth 20000 in
theorem ggX0_choose_X6_size : GoodIn wsX0_choose wsX6_size := goodIn_r _ [9, 10, 60, 61] (by decide +kernel) (by decide +kernel)
set_option maxRecDepth 20000 in
theorem gX0_choose_X6_size : GoodIn wsX0_choose (wsV RX0 55 RX6 yX6_size wsX6_size) := goodIn_app (goodIn_of _ (by decide +kernel)) ggX0_choose_X6_size
set_option maxRecDepth 20000 in
theorem ggX0_choose_X6_at : GoodIn wsX0_choose wsX6_at := goodIn_r _ [14, 15, 60, 61] (by decide +kernel) (by decide +kernel)
set_option maxRecDepth 20000 in
theorem gX0_choose_X6_at : GoodIn wsX0_choose (wsV RX0 87 RX6 yX6_at wsX6_at) := goodIn_app (goodIn_of _ (by decide +kernel)) ggX0_choose_X6_at
set_option maxRecDepth 20000 in
theorem ggX0_choose_X5_side : GoodIn wsX0_choose wsX5_side := goodIn_r _ [20, 21, 22, 23, 24, 25, 26, 27, 28, 29, 30, 31, 32, 33, 34, 62, 63, 64, 65, 66, 67, 68, 69, 70, 71, 72, 73, 74, 75, 76, 77] (by decide +kernel) (by decide +kernel)
set_option maxRecDepth 20000 in
theorem gX0_choose_X5_side : GoodIn wsX0_choose (wsV RX0 90 RX5 yX5_side wsX5_side) := goodIn_app (goodIn_of _ (by decide +kernel)) ggX0_choose_X5_side
set_option maxRecDepth 20000 in
theorem ggX0_choose_X2_add : GoodIn wsX0_choose wsX2_add := goodIn_r _ [39, 40, 41, 42, 78, 79] (by decide +kernel) (by decide +kernel)
set_option maxRecDepth 20000 in
theorem gX0_choose_X2_add : GoodIn wsX0_choose (wsV RX0 94 RX2 yX2_add wsX2_add) := goodIn_app (goodIn_of _ (by decide +kernel)) ggX0_choose_X2_add
set_option maxRecDepth 20000 in
theorem ggX0_choose_X4_left : GoodIn wsX0_choose wsX4_left := goodIn_r _ [28, 29, 71, 72, 73, 74, 75, 76, 77] (by decide +kernel) (by decide +kernel)
set_option maxRecDepth 20000 in
theorem gX0_choose_X4_left : GoodIn wsX0_choose (wsV RX0 76 RX4 yX4_left wsX4_left) := goodIn_app (goodIn_of _ (by decide +kernel)) ggX0_choose_X4_left
set_option maxRecDepth 20000 in
theorem ggX0_choose_X4_right : GoodIn wsX0_choose wsX4_right := goodIn_r _ [33, 34, 71, 72, 73, 74, 75, 76, 77] (by decide +kernel) (by decide +kernel)
set_option maxRecDepth 20000 in
theorem gX0_choose_X4_right : GoodIn wsX0_choose (wsV RX0 73 RX4 yX4_right wsX4_right) := goodIn_app (goodIn_of _ (by decide +kernel)) ggX0_choose_X4_right
set_option maxRecDepth 20000 in
theorem ggX0_choose_X0_await : GoodIn wsX0_choose wsX0_await := goodIn_r _ [49, 50, 51, 52, 53, 54, 55, 56, 57, 58, 59] (by decide +kernel) (by decide +kernel)
set_option maxRecDepth 20000 in
theorem gX0_choose_X0_await : GoodIn wsX0_choose (wsV RX0 46 RX0 yX0_await wsX0_await) := goodIn_app (goodIn_of _ (by decide +kernel)) ggX0_choose_X0_await
set_option maxRecDepth 20000 in
theorem ggX1_spell_X6_keep : GoodIn wsX1_spell wsX6_keep := goodIn_r _ [5, 6, 103, 104] (by decide +kernel) (by decide +kernel)
set_option maxRecDepth 20000 in
theorem gX1_spell_X6_keep : GoodIn wsX1_spell (wsV RX1 44 RX6 yX6_keep wsX6_keep) := goodIn_app (goodIn_of _ (by decide +kernel)) ggX1_spell_X6_keep
set_option maxRecDepth 20000 in
theorem ggX1_spell_X1_startPile : GoodIn wsX1_spell wsX1_startPile := goodIn_r _ [11, 12, 13, 14, 15, 16, 10, 17, 18, 19, 20, 21, 22, 23, 24, 25, 26, 27, 28, 29, 105, 106, 107, 108, 109, 110, 111, 112, 113, 114, 115, 116] (by decide +kernel) (by decide +kernel)
set_option maxRecDepth 20000 in
theorem gX1_spell_X1_startPile : GoodIn wsX1_spell (wsV RX1 50 RX1 yX1_startPile wsX1_startPile) := goodIn_app (goodIn_of _ (by decide +kernel)) ggX1_spell_X1_startPile
set_option maxRecDepth 20000 in
theorem ggX1_spell_X1_spellNext : GoodIn wsX1_spell wsX1_spellNext := goodIn_r _ [33, 23, 34, 35, 36, 10, 37, 13, 38, 39, 40, 41, 42, 43, 44, 45, 46, 47, 48, 49, 50, 51, 52, 53, 54, 55, 56, 57, 58, 59, 60, 61, 62, 63, 64, 65, 66, 67, 68, 69, 70, 71, 72, 73, 74, 75, 76, 77, 78, 79, 80, 81, 82, 83, 84, 85, 86, 87, 88, 89, 90, 91, 92, 12, 93, 18, 19, 20, 21, 22, 24, 25, 26, 27, 28, 29, 94, 95, 96, 97, 14, 15, 16, 17, 98, 99, 100, 4, 101, 102, 6, 105, 106, 107, 108, 109, 110, 111, 112, 113, 117, 118, 119, 120, 121, 122, 123, 124, 125, 126, 127, 128, 129, 130, 131, 132, 114, 115, 116, 103, 104] (by decide +kernel) (by decide +kernel)
set_option maxRecDepth 20000 in
theorem gX1_spell_X1_spellNext : GoodIn wsX1_spell (wsV RX1 54 RX1 yX1_spellNext wsX1_spellNext) := goodIn_app (goodIn_of _ (by decide +kernel)) ggX1_spell_X1_spellNext
set_option maxRecDepth 20000 in
theorem ggX1_startPile_X1_pileUp : GoodIn wsX1_startPile wsX1_pileUp := goodIn_r _ [7, 2, 1, 8, 9, 10, 11, 12, 13, 14, 15, 16, 17, 18, 19, 20, 21, 22, 23, 24, 25, 26, 27, 28, 29, 30, 31] (by decide +kernel) (by decide +kernel)
set_option maxRecDepth 20000 in
theorem gX1_startPile_X1_pileUp : GoodIn wsX1_startPile (wsV RX1 58 RX1 yX1_pileUp wsX1_pileUp) := goodIn_app (goodIn_of _ (by decide +kernel)) ggX1_startPile_X1_pileUp
set_option maxRecDepth 20000 in
theorem ggX1_spellNext_X1_readerOf : GoodIn wsX1_spellNext wsX1_readerOf := goodIn_r _ [6, 7, 8, 1, 9, 10, 11, 12, 13, 14, 15, 16, 17, 18, 19, 91, 92, 93, 94, 95, 96, 97, 98, 99, 100, 101, 102, 103, 104, 105, 106, 107, 108] (by decide +kernel) (by decide +kernel)
set_option maxRecDepth 20000 in
theorem gX1_spellNext_X1_readerOf : GoodIn wsX1_spellNext (wsV RX1 61 RX1 yX1_readerOf wsX1_readerOf) := goodIn_app (goodIn_of _ (by decide +kernel)) ggX1_spellNext_X1_readerOf
set_option maxRecDepth 20000 in
theorem ggX1_spellNext_X1_goDown : GoodIn wsX1_spellNext wsX1_goDown := goodIn_r _ [23, 24, 25, 26, 27, 28, 29, 30, 31, 32, 33, 34, 35, 36, 37, 38, 39, 40, 5, 41, 8, 42, 43, 44, 12, 45, 46, 47, 48, 49, 50, 51, 14, 19, 52, 53, 54, 55, 56, 57, 58, 91, 92, 93, 94, 95, 96, 97, 98, 99, 109, 110, 111, 112, 113, 114, 115, 100, 101, 102, 103, 104, 105, 106, 107, 108] (by decide +kernel) (by decide +kernel)
set_option maxRecDepth 20000 in
theorem gX1_spellNext_X1_goDown : GoodIn wsX1_spellNext (wsV RX1 65 RX1 yX1_goDown wsX1_goDown) := goodIn_app (goodIn_of _ (by decide +kernel)) ggX1_spellNext_X1_goDown
set_option maxRecDepth 20000 in
theorem ggX1_spellNext_X1_wordsAhead : GoodIn wsX1_spellNext wsX1_wordsAhead := goodIn_r _ [62, 63, 64, 65, 66, 67, 68, 24, 69, 26, 70, 71, 72, 73, 74, 75, 91, 92, 93, 94, 95, 96, 97, 98, 99, 116, 117, 118] (by decide +kernel) (by decide +kernel)
set_option maxRecDepth 20000 in
theorem gX1_spellNext_X1_wordsAhead : GoodIn wsX1_spellNext (wsV RX1 68 RX1 yX1_wordsAhead wsX1_wordsAhead) := goodIn_app (goodIn_of _ (by decide +kernel)) ggX1_spellNext_X1_wordsAhead
set_option maxRecDepth 20000 in
theorem ggX1_spellNext_X1_takeFresh : GoodIn wsX1_spellNext wsX1_takeFresh := goodIn_r _ [79, 7, 24, 26, 80, 81, 82, 5, 83, 63, 65, 66, 67, 68, 69, 1, 70, 71, 72, 73, 74, 75, 91, 92, 93, 94, 95, 96, 97, 98, 99, 116, 117, 118] (by decide +kernel) (by decide +kernel)
set_option maxRecDepth 20000 in
theorem gX1_spellNext_X1_takeFresh : GoodIn wsX1_spellNext (wsV RX1 72 RX1 yX1_takeFresh wsX1_takeFresh) := goodIn_app (goodIn_of _ (by decide +kernel)) ggX1_spellNext_X1_takeFresh
set_option maxRecDepth 20000 in
theorem ggX1_spellNext_X6_add : GoodIn wsX1_spellNext wsX6_add := goodIn_r _ [88, 89, 90, 119, 120] (by decide +kernel) (by decide +kernel)
set_option maxRecDepth 20000 in
theorem gX1_spellNext_X6_add : GoodIn wsX1_spellNext (wsV RX1 75 RX6 yX6_add wsX6_add) := goodIn_app (goodIn_of _ (by decide +kernel)) ggX1_spellNext_X6_add
set_option maxRecDepth 20000 in
theorem ggX1_readerOf_X5_firstOf : GoodIn wsX1_readerOf wsX5_firstOf := goodIn_r _ [8, 9, 24, 25, 26, 27, 28, 29, 30, 31, 32] (by decide +kernel) (by decide +kernel)
set_option maxRecDepth 20000 in
theorem gX1_readerOf_X5_firstOf : GoodIn wsX1_readerOf (wsV RX1 78 RX5 yX5_firstOf wsX5_firstOf) := goodIn_app (goodIn_of _ (by decide +kernel)) ggX1_readerOf_X5_firstOf
set_option maxRecDepth 20000 in
theorem ggX1_readerOf_X5_isNullable : GoodIn wsX1_readerOf wsX5_isNullable := goodIn_r _ [13, 14, 24, 25, 26, 27, 28, 29, 30, 31, 32] (by decide +kernel) (by decide +kernel)
set_option maxRecDepth 20000 in
theorem gX1_readerOf_X5_isNullable : GoodIn wsX1_readerOf (wsV RX1 83 RX5 yX5_isNullable wsX5_isNullable) := goodIn_app (goodIn_of _ (by decide +kernel)) ggX1_readerOf_X5_isNullable
set_option maxRecDepth 20000 in
theorem ggX1_goDown_X4_kind : GoodIn wsX1_goDown wsX4_kind := goodIn_r _ [8, 9, 50, 51, 52, 53, 54, 55, 56] (by decide +kernel) (by decide +kernel)
set_option maxRecDepth 20000 in
theorem gX1_goDown_X4_kind : GoodIn wsX1_goDown (wsV RX1 87 RX4 yX4_kind wsX4_kind) := goodIn_app (goodIn_of _ (by decide +kernel)) ggX1_goDown_X4_kind
set_option maxRecDepth 20000 in
theorem ggX1_goDown_X4_right : GoodIn wsX1_goDown wsX4_right := goodIn_r _ [13, 14, 50, 51, 52, 53, 54, 55, 56] (by decide +kernel) (by decide +kernel)
set_option maxRecDepth 20000 in
theorem gX1_goDown_X4_right : GoodIn wsX1_goDown (wsV RX1 92 RX4 yX4_right wsX4_right) := goodIn_app (goodIn_of _ (by decide +kernel)) ggX1_goDown_X4_right
set_option maxRecDepth 20000 in
theorem ggX1_goDown_X1_below : GoodIn wsX1_goDown wsX1_below := goodIn_r _ [19, 2, 20, 4, 5, 6, 7, 8, 9, 21, 22, 23, 24, 25, 26, 27, 28, 29, 30, 31, 32, 33, 34, 35, 36, 37, 38, 39, 11, 12, 13, 14, 10, 40, 41, 42, 43, 44, 45, 46, 47, 48, 49, 50, 51, 52, 53, 54, 55, 56, 57, 58, 59, 60, 61, 62, 63, 64, 65] (by decide +kernel) (by decide +kernel)
set_option maxRecDepth 20000 in
theorem gX1_goDown_X1_below : GoodIn wsX1_goDown (wsV RX1 95 RX1 yX1_below wsX1_below) := goodIn_app (goodIn_of _ (by decide +kernel)) ggX1_goDown_X1_below
set_option maxRecDepth 20000 in
theorem ggX1_below_X4_kind : GoodIn wsX1_below wsX4_kind := goodIn_r _ [7, 8, 43, 44, 45, 46, 47, 48, 49] (by decide +kernel) (by decide +kernel)
set_option maxRecDepth 20000 in
theorem gX1_below_X4_kind : GoodIn wsX1_below (wsV RX1 87 RX4 yX4_kind wsX4_kind) := goodIn_app (goodIn_of _ (by decide +kernel)) ggX1_below_X4_kind
set_option maxRecDepth 20000 in
theorem ggX1_below_X5_binder : GoodIn wsX1_below wsX5_binder := goodIn_r _ [13, 14, 50, 51, 52, 53, 54, 55, 56, 57, 58] (by decide +kernel) (by decide +kernel)
set_option maxRecDepth 20000 in
theorem gX1_below_X5_binder : GoodIn wsX1_below (wsV RX1 99 RX5 yX5_binder wsX5_binder) := goodIn_app (goodIn_of _ (by decide +kernel)) ggX1_below_X5_binder
set_option maxRecDepth 20000 in
theorem ggX1_below_X5_side : GoodIn wsX1_below wsX5_side := goodIn_r _ [18, 19, 20, 21, 22, 23, 24, 6, 25, 26, 27, 28, 29, 30, 31, 50, 51, 52, 53, 54, 55, 56, 57, 58, 43, 44, 45, 46, 47, 48, 49] (by decide +kernel) (by decide +kernel)
set_option maxRecDepth 20000 in
theorem gX1_below_X5_side : GoodIn wsX1_below (wsV RX1 102 RX5 yX5_side wsX5_side) := goodIn_app (goodIn_of _ (by decide +kernel)) ggX1_below_X5_side
set_option maxRecDepth 20000 in
theorem ggX1_below_X4_right : GoodIn wsX1_below wsX4_right := goodIn_r _ [30, 31, 43, 44, 45, 46, 47, 48, 49] (by decide +kernel) (by decide +kernel)
set_option maxRecDepth 20000 in
theorem gX1_below_X4_right : GoodIn wsX1_below (wsV RX1 92 RX4 yX4_right wsX4_right) := goodIn_app (goodIn_of _ (by decide +kernel)) ggX1_below_X4_right
set_option maxRecDepth 20000 in
theorem ggX1_below_X4_left : GoodIn wsX1_below wsX4_left := goodIn_r _ [25, 26, 43, 44, 45, 46, 47, 48, 49] (by decide +kernel) (by decide +kernel)
set_option maxRecDepth 20000 in
theorem gX1_below_X4_left : GoodIn wsX1_below (wsV RX1 105 RX4 yX4_left wsX4_left) := goodIn_app (goodIn_of _ (by decide +kernel)) ggX1_below_X4_left
set_option maxRecDepth 20000 in
theorem ggX1_wordsAhead_X3_lengthen : GoodIn wsX1_wordsAhead wsX3_lengthen := goodIn_r _ [14, 15, 25, 26, 27] (by decide +kernel) (by decide +kernel)
set_option maxRecDepth 20000 in
theorem gX1_wordsAhead_X3_lengthen : GoodIn wsX1_wordsAhead (wsV RX1 114 RX3 yX3_lengthen wsX3_lengthen) := goodIn_app (goodIn_of _ (by decide +kernel)) ggX1_wordsAhead_X3_lengthen
set_option maxRecDepth 20000 in
theorem ggX1_takeFresh_X1_pileUp : GoodIn wsX1_takeFresh wsX1_pileUp := goodIn_r _ [8, 1, 9, 10, 11, 12, 13, 14, 15, 16, 17, 18, 19, 20, 21, 22, 23, 24, 25, 26, 27, 28, 29, 30, 31, 32, 33] (by decide +kernel) (by decide +kernel)
set_option maxRecDepth 20000 in
theorem gX1_takeFresh_X1_pileUp : GoodIn wsX1_takeFresh (wsV RX1 58 RX1 yX1_pileUp wsX1_pileUp) := goodIn_app (goodIn_of _ (by decide +kernel)) ggX1_takeFresh_X1_pileUp
set_option maxRecDepth 20000 in
theorem ggX1_pileUp_X3_lengthen : GoodIn wsX1_pileUp wsX3_lengthen := goodIn_r _ [13, 14, 24, 25, 26] (by decide +kernel) (by decide +kernel)
set_option maxRecDepth 20000 in
theorem gX1_pileUp_X3_lengthen : GoodIn wsX1_pileUp (wsV RX1 114 RX3 yX3_lengthen wsX3_lengthen) := goodIn_app (goodIn_of _ (by decide +kernel)) ggX1_pileUp_X3_lengthen
set_option maxRecDepth 20000 in
theorem ggX3_countTo_X3_countLength : GoodIn wsX3_countTo wsX3_countLength := goodIn_r _ [5, 6, 7, 8, 9, 10, 11, 12, 13, 14, 15, 16, 17, 18, 19, 20, 21, 4, 22, 23, 24, 25, 26, 27, 28, 29, 30, 31, 32, 33, 34, 35, 36, 37, 38, 39, 40, 41, 42, 43, 44, 45, 46, 47, 48, 49, 50, 51, 52, 53, 54, 55, 56, 57, 58, 59, 60, 61, 62, 63, 64, 65, 66, 67] (by decide +kernel) (by decide +kernel)
set_option maxRecDepth 20000 in
theorem gX3_countTo_X3_countLength : GoodIn wsX3_countTo (wsV RX3 24 RX3 yX3_countLength wsX3_countLength) := goodIn_app (goodIn_of _ (by decide +kernel)) ggX3_countTo_X3_countLength
set_option maxRecDepth 20000 in
theorem ggX3_countLength_X5_size : GoodIn wsX3_countLength wsX5_size := goodIn_r _ [7, 8, 48, 49, 50, 51, 52, 53, 54, 55, 56] (by decide +kernel) (by decide +kernel)
set_option maxRecDepth 20000 in
theorem gX3_countLength_X5_size : GoodIn wsX3_countLength (wsV RX3 28 RX5 yX5_size wsX5_size) := goodIn_app (goodIn_of _ (by decide +kernel)) ggX3_countLength_X5_size
set_option maxRecDepth 20000 in
theorem ggX3_countLength_X5_inOrder : GoodIn wsX3_countLength wsX5_inOrder := goodIn_r _ [12, 13, 8, 48, 49, 50, 51, 52, 53, 54, 55, 56] (by decide +kernel) (by decide +kernel)
set_option maxRecDepth 20000 in
theorem gX3_countLength_X5_inOrder : GoodIn wsX3_countLength (wsV RX3 34 RX5 yX5_inOrder wsX5_inOrder) := goodIn_app (goodIn_of _ (by decide +kernel)) ggX3_countLength_X5_inOrder
set_option maxRecDepth 20000 in
theorem ggX3_countLength_X3_wordsByParts : GoodIn wsX3_countLength wsX3_wordsByParts := goodIn_r _ [18, 19, 2, 1, 20, 21, 22, 23, 24, 25, 26, 27, 28, 29, 30, 31, 32, 33, 34, 35, 36, 37, 38, 17, 39, 40, 41, 42, 6, 43, 44, 45, 46, 47, 57, 58, 59, 60, 61, 62, 63, 48, 49, 50, 51, 52, 53, 54, 55, 56] (by decide +kernel) (by decide +kernel)
set_option maxRecDepth 20000 in
theorem gX3_countLength_X3_wordsByParts : GoodIn wsX3_countLength (wsV RX3 38 RX3 yX3_wordsByParts wsX3_wordsByParts) := goodIn_app (goodIn_of _ (by decide +kernel)) ggX3_countLength_X3_wordsByParts
set_option maxRecDepth 20000 in
theorem ggX3_wordsByParts_X4_kind : GoodIn wsX3_wordsByParts wsX4_kind := goodIn_r _ [8, 9, 34, 35, 36, 37, 38, 39, 40] (by decide +kernel) (by decide +kernel)
set_option maxRecDepth 20000 in
theorem gX3_wordsByParts_X4_kind : GoodIn wsX3_wordsByParts (wsV RX3 42 RX4 yX4_kind wsX4_kind) := goodIn_app (goodIn_of _ (by decide +kernel)) ggX3_wordsByParts_X4_kind
set_option maxRecDepth 20000 in
theorem ggX3_wordsByParts_X4_left : GoodIn wsX3_wordsByParts wsX4_left := goodIn_r _ [13, 14, 34, 35, 36, 37, 38, 39, 40] (by decide +kernel) (by decide +kernel)
set_option maxRecDepth 20000 in
theorem gX3_wordsByParts_X4_left : GoodIn wsX3_wordsByParts (wsV RX3 47 RX4 yX4_left wsX4_left) := goodIn_app (goodIn_of _ (by decide +kernel)) ggX3_wordsByParts_X4_left
set_option maxRecDepth 20000 in
theorem ggX3_wordsByParts_X4_right : GoodIn wsX3_wordsByParts wsX4_right := goodIn_r _ [18, 19, 34, 35, 36, 37, 38, 39, 40] (by decide +kernel) (by decide +kernel)
set_option maxRecDepth 20000 in
theorem gX3_wordsByParts_X4_right : GoodIn wsX3_wordsByParts (wsV RX3 50 RX4 yX4_right wsX4_right) := goodIn_app (goodIn_of _ (by decide +kernel)) ggX3_wordsByParts_X4_right
set_option maxRecDepth 20000 in
theorem ggX3_wordsByParts_X3_wordsOfPair : GoodIn wsX3_wordsByParts wsX3_wordsOfPair := goodIn_r _ [24, 2, 31, 32, 33] (by decide +kernel) (by decide +kernel)
set_option maxRecDepth 20000 in
theorem gX3_wordsByParts_X3_wordsOfPair : GoodIn wsX3_wordsByParts (wsV RX3 53 RX3 yX3_wordsOfPair wsX3_wordsOfPair) := goodIn_app (goodIn_of _ (by decide +kernel)) ggX3_wordsByParts_X3_wordsOfPair
set_option maxRecDepth 20000 in
theorem ggX3_wordsByParts_X5_binder : GoodIn wsX3_wordsByParts wsX5_binder := goodIn_r _ [29, 30, 41, 42, 43, 44, 45, 46, 47, 48, 49] (by decide +kernel) (by decide +kernel)
set_option maxRecDepth 20000 in
theorem gX3_wordsByParts_X5_binder : GoodIn wsX3_wordsByParts (wsV RX3 57 RX5 yX5_binder wsX5_binder) := goodIn_app (goodIn_of _ (by decide +kernel)) ggX3_wordsByParts_X5_binder
set_option maxRecDepth 20000 in
theorem ggX4_add_X4_knotsIn : GoodIn wsX4_add wsX4_knotsIn := goodIn_r _ [16, 7, 21, 22, 23, 24, 25, 26, 27] (by decide +kernel) (by decide +kernel)
set_option maxRecDepth 20000 in
theorem gX4_add_X4_knotsIn : GoodIn wsX4_add (wsV RX4 34 RX4 yX4_knotsIn wsX4_knotsIn) := goodIn_app (goodIn_of _ (by decide +kernel)) ggX4_add_X4_knotsIn
set_option maxRecDepth 20000 in
theorem ggX4_add_X4_makePart : GoodIn wsX4_add wsX4_makePart := goodIn_r _ [20, 6, 21, 22, 23, 24, 25, 26, 27] (by decide +kernel) (by decide +kernel)
set_option maxRecDepth 20000 in
theorem gX4_add_X4_makePart : GoodIn wsX4_add (wsV RX4 44 RX4 yX4_makePart wsX4_makePart) := goodIn_app (goodIn_of _ (by decide +kernel)) ggX4_add_X4_makePart
set_option maxRecDepth 20000 in
theorem ggX5_study_X5_lineUp : GoodIn wsX5_study wsX5_lineUp := goodIn_r _ [7, 1, 8, 2, 9, 10, 11, 12, 13, 14, 15, 16, 17, 18, 19, 20, 65, 66, 67, 68, 69, 70, 71, 72, 73, 74, 75, 76, 77, 78, 79, 80] (by decide +kernel) (by decide +kernel)
set_option maxRecDepth 20000 in
theorem gX5_study_X5_lineUp : GoodIn wsX5_study (wsV RX5 42 RX5 yX5_lineUp wsX5_lineUp) := goodIn_app (goodIn_of _ (by decide +kernel)) ggX5_study_X5_lineUp
set_option maxRecDepth 20000 in
theorem ggX5_study_X5_bind : GoodIn wsX5_study wsX5_bind := goodIn_r _ [24, 25, 26, 9, 27, 28, 29, 13, 30, 31, 32, 33, 34, 35, 36, 16, 17, 18, 19, 20, 37, 38, 39, 40, 41, 65, 66, 67, 68, 69, 70, 71, 72, 73, 74, 75, 76, 77, 78, 79, 80] (by decide +kernel) (by decide +kernel)
set_option maxRecDepth 20000 in
theorem gX5_study_X5_bind : GoodIn wsX5_study (wsV RX5 46 RX5 yX5_bind wsX5_bind) := goodIn_app (goodIn_of _ (by decide +kernel)) ggX5_study_X5_bind
set_option maxRecDepth 20000 in
theorem ggX5_study_X5_inferTypes : GoodIn wsX5_study wsX5_inferTypes := goodIn_r _ [45, 1, 2, 46, 47, 48, 49, 50, 51, 6, 52, 9, 25, 27, 28, 29, 13, 30, 31, 53, 54, 55, 56, 37, 38, 39, 40, 41, 10, 11, 12, 14, 15, 16, 17, 18, 19, 20, 57, 58, 59, 60, 61, 62, 63, 64, 65, 66, 67, 68, 69, 70, 71, 72, 73, 74, 75, 76, 77, 78, 79, 80] (by decide +kernel) (by decide +kernel)
set_option maxRecDepth 20000 in
theorem gX5_study_X5_inferTypes : GoodIn wsX5_study (wsV RX5 50 RX5 yX5_inferTypes wsX5_inferTypes) := goodIn_app (goodIn_of _ (by decide +kernel)) ggX5_study_X5_inferTypes
set_option maxRecDepth 20000 in
theorem ggX5_side_X4_left : GoodIn wsX5_side wsX4_left := goodIn_r _ [8, 9, 24, 25, 26, 27, 28, 29, 30] (by decide +kernel) (by decide +kernel)
set_option maxRecDepth 20000 in
theorem gX5_side_X4_left : GoodIn wsX5_side (wsV RX5 53 RX4 yX4_left wsX4_left) := goodIn_app (goodIn_of _ (by decide +kernel)) ggX5_side_X4_left
set_option maxRecDepth 20000 in
theorem ggX5_side_X4_right : GoodIn wsX5_side wsX4_right := goodIn_r _ [13, 14, 24, 25, 26, 27, 28, 29, 30] (by decide +kernel) (by decide +kernel)
set_option maxRecDepth 20000 in
theorem gX5_side_X4_right : GoodIn wsX5_side (wsV RX5 59 RX4 yX4_right wsX4_right) := goodIn_app (goodIn_of _ (by decide +kernel)) ggX5_side_X4_right
set_option maxRecDepth 20000 in
theorem ggX5_firstFault_X5_faultAt : GoodIn wsX5_firstFault wsX5_faultAt := goodIn_r _ [7, 8, 9, 10, 11, 12, 13, 14, 15, 16, 17, 18, 19, 20, 21, 22, 23, 24, 25, 26, 27, 28, 29, 6, 30, 31, 32, 33, 34, 35, 36, 37, 38, 39, 40, 41, 42, 43, 44, 45, 46, 47, 48, 49, 50, 51, 52, 53] (by decide +kernel) (by decide +kernel)
set_option maxRecDepth 20000 in
theorem gX5_firstFault_X5_faultAt : GoodIn wsX5_firstFault (wsV RX5 62 RX5 yX5_faultAt wsX5_faultAt) := goodIn_app (goodIn_of _ (by decide +kernel)) ggX5_firstFault_X5_faultAt
set_option maxRecDepth 20000 in
theorem ggX5_lineUp_X4_left : GoodIn wsX5_lineUp wsX4_left := goodIn_r _ [9, 10, 25, 26, 27, 28, 29, 30, 31] (by decide +kernel) (by decide +kernel)
set_option maxRecDepth 20000 in
theorem gX5_lineUp_X4_left : GoodIn wsX5_lineUp (wsV RX5 53 RX4 yX4_left wsX4_left) := goodIn_app (goodIn_of _ (by decide +kernel)) ggX5_lineUp_X4_left
set_option maxRecDepth 20000 in
theorem ggX5_lineUp_X4_right : GoodIn wsX5_lineUp wsX4_right := goodIn_r _ [14, 15, 25, 26, 27, 28, 29, 30, 31] (by decide +kernel) (by decide +kernel)
set_option maxRecDepth 20000 in
theorem gX5_lineUp_X4_right : GoodIn wsX5_lineUp (wsV RX5 59 RX4 yX4_right wsX4_right) := goodIn_app (goodIn_of _ (by decide +kernel)) ggX5_lineUp_X4_right
set_option maxRecDepth 20000 in
theorem ggX5_bind_X4_kind : GoodIn wsX5_bind wsX4_kind := goodIn_r _ [8, 9, 34, 35, 36, 37, 38, 39, 40] (by decide +kernel) (by decide +kernel)
set_option maxRecDepth 20000 in
theorem gX5_bind_X4_kind : GoodIn wsX5_bind (wsV RX5 65 RX4 yX4_kind wsX4_kind) := goodIn_app (goodIn_of _ (by decide +kernel)) ggX5_bind_X4_kind
set_option maxRecDepth 20000 in
theorem ggX5_bind_X4_whole : GoodIn wsX5_bind wsX4_whole := goodIn_r _ [13, 14, 34, 35, 36, 37, 38, 39, 40] (by decide +kernel) (by decide +kernel)
set_option maxRecDepth 20000 in
theorem gX5_bind_X4_whole : GoodIn wsX5_bind (wsV RX5 68 RX4 yX4_whole wsX4_whole) := goodIn_app (goodIn_of _ (by decide +kernel)) ggX5_bind_X4_whole
set_option maxRecDepth 20000 in
theorem ggX5_bind_X4_right : GoodIn wsX5_bind wsX4_right := goodIn_r _ [18, 19, 34, 35, 36, 37, 38, 39, 40] (by decide +kernel) (by decide +kernel)
set_option maxRecDepth 20000 in
theorem gX5_bind_X4_right : GoodIn wsX5_bind (wsV RX5 59 RX4 yX4_right wsX4_right) := goodIn_app (goodIn_of _ (by decide +kernel)) ggX5_bind_X4_right
set_option maxRecDepth 20000 in
theorem ggX5_bind_X4_value : GoodIn wsX5_bind wsX4_value := goodIn_r _ [23, 24, 34, 35, 36, 37, 38, 39, 40] (by decide +kernel) (by decide +kernel)
set_option maxRecDepth 20000 in
theorem gX5_bind_X4_value : GoodIn wsX5_bind (wsV RX5 71 RX4 yX4_value wsX4_value) := goodIn_app (goodIn_of _ (by decide +kernel)) ggX5_bind_X4_value
set_option maxRecDepth 20000 in
theorem ggX5_inferTypes_X5_widen : GoodIn wsX5_inferTypes wsX5_widen := goodIn_r _ [10, 11, 12, 13, 14, 15, 16, 17, 18, 19, 20, 21, 9, 22, 3, 4, 5, 23, 24, 25, 26, 27, 28, 29, 30, 31, 32, 33, 34, 35, 36, 37, 38, 39, 40, 41, 42, 43, 44, 45, 46, 47, 48, 49, 50, 51, 52, 53, 54, 55, 56, 57, 58, 59, 60, 61] (by decide +kernel) (by decide +kernel)
set_option maxRecDepth 20000 in
theorem gX5_inferTypes_X5_widen : GoodIn wsX5_inferTypes (wsV RX5 74 RX5 yX5_widen wsX5_widen) := goodIn_app (goodIn_of _ (by decide +kernel)) ggX5_inferTypes_X5_widen
set_option maxRecDepth 20000 in
theorem ggX5_widen_X4_kind : GoodIn wsX5_widen wsX4_kind := goodIn_r _ [7, 8, 49, 50, 51, 52, 53, 54, 55] (by decide +kernel) (by decide +kernel)
set_option maxRecDepth 20000 in
theorem gX5_widen_X4_kind : GoodIn wsX5_widen (wsV RX5 65 RX4 yX4_kind wsX4_kind) := goodIn_app (goodIn_of _ (by decide +kernel)) ggX5_widen_X4_kind
set_option maxRecDepth 20000 in
theorem ggX5_widen_X5_addToType : GoodIn wsX5_widen wsX5_addToType := goodIn_r _ [13, 14, 15, 16, 40, 41, 42, 43, 44, 45, 46, 47, 48] (by decide +kernel) (by decide +kernel)
set_option maxRecDepth 20000 in
theorem gX5_widen_X5_addToType : GoodIn wsX5_widen (wsV RX5 78 RX5 yX5_addToType wsX5_addToType) := goodIn_app (goodIn_of _ (by decide +kernel)) ggX5_widen_X5_addToType
set_option maxRecDepth 20000 in
theorem ggX5_widen_X4_value : GoodIn wsX5_widen wsX4_value := goodIn_r _ [20, 21, 49, 50, 51, 52, 53, 54, 55] (by decide +kernel) (by decide +kernel)
set_option maxRecDepth 20000 in
theorem gX5_widen_X4_value : GoodIn wsX5_widen (wsV RX5 71 RX4 yX4_value wsX4_value) := goodIn_app (goodIn_of _ (by decide +kernel)) ggX5_widen_X4_value
set_option maxRecDepth 20000 in
theorem ggX5_widen_X4_left : GoodIn wsX5_widen wsX4_left := goodIn_r _ [25, 26, 49, 50, 51, 52, 53, 54, 55] (by decide +kernel) (by decide +kernel)
set_option maxRecDepth 20000 in
theorem gX5_widen_X4_left : GoodIn wsX5_widen (wsV RX5 53 RX4 yX4_left wsX4_left) := goodIn_app (goodIn_of _ (by decide +kernel)) ggX5_widen_X4_left
set_option maxRecDepth 20000 in
theorem ggX5_widen_X4_right : GoodIn wsX5_widen wsX4_right := goodIn_r _ [30, 31, 49, 50, 51, 52, 53, 54, 55] (by decide +kernel) (by decide +kernel)
set_option maxRecDepth 20000 in
theorem gX5_widen_X4_right : GoodIn wsX5_widen (wsV RX5 59 RX4 yX4_right wsX4_right) := goodIn_app (goodIn_of _ (by decide +kernel)) ggX5_widen_X4_right
set_option maxRecDepth 20000 in
theorem ggX5_widen_X5_widenPair : GoodIn wsX5_widen wsX5_widenPair := goodIn_r _ [35, 15, 14, 16, 9, 10, 11, 12, 13, 40, 41, 42, 43, 44, 45, 46, 47, 48] (by decide +kernel) (by decide +kernel)
set_option maxRecDepth 20000 in
theorem gX5_widen_X5_widenPair : GoodIn wsX5_widen (wsV RX5 82 RX5 yX5_widenPair wsX5_widenPair) := goodIn_app (goodIn_of _ (by decide +kernel)) ggX5_widen_X5_widenPair
set_option maxRecDepth 20000 in
theorem ggX5_widen_X5_addTypeOf : GoodIn wsX5_widen wsX5_addTypeOf := goodIn_r _ [39, 14, 15, 16, 9, 10, 11, 12, 13, 40, 41, 42, 43, 44, 45, 46, 47, 48] (by decide +kernel) (by decide +kernel)
set_option maxRecDepth 20000 in
theorem gX5_widen_X5_addTypeOf : GoodIn wsX5_widen (wsV RX5 86 RX5 yX5_addTypeOf wsX5_addTypeOf) := goodIn_app (goodIn_of _ (by decide +kernel)) ggX5_widen_X5_addTypeOf
set_option maxRecDepth 20000 in
theorem ggX5_widenPair_X5_addToType : GoodIn wsX5_widenPair wsX5_addToType := goodIn_r _ [8, 2, 1, 3, 9, 10, 11, 12, 13, 14, 15, 16, 17] (by decide +kernel) (by decide +kernel)
set_option maxRecDepth 20000 in
theorem gX5_widenPair_X5_addToType : GoodIn wsX5_widenPair (wsV RX5 78 RX5 yX5_addToType wsX5_addToType) := goodIn_app (goodIn_of _ (by decide +kernel)) ggX5_widenPair_X5_addToType
set_option maxRecDepth 20000 in
theorem ggX5_addTypeOf_X5_addToType : GoodIn wsX5_addTypeOf wsX5_addToType := goodIn_r _ [8, 1, 2, 3, 9, 10, 11, 12, 13, 14, 15, 16, 17] (by decide +kernel) (by decide +kernel)
set_option maxRecDepth 20000 in
theorem gX5_addTypeOf_X5_addToType : GoodIn wsX5_addTypeOf (wsV RX5 78 RX5 yX5_addToType wsX5_addToType) := goodIn_app (goodIn_of _ (by decide +kernel)) ggX5_addTypeOf_X5_addToType
set_option maxRecDepth 20000 in
theorem ggX5_faultAt_X4_kind : GoodIn wsX5_faultAt wsX4_kind := goodIn_r _ [8, 9, 41, 42, 43, 44, 45, 46, 47] (by decide +kernel) (by decide +kernel)
set_option maxRecDepth 20000 in
theorem gX5_faultAt_X4_kind : GoodIn wsX5_faultAt (wsV RX5 65 RX4 yX4_kind wsX4_kind) := goodIn_app (goodIn_of _ (by decide +kernel)) ggX5_faultAt_X4_kind
set_option maxRecDepth 20000 in
theorem ggX5_faultAt_X4_left : GoodIn wsX5_faultAt wsX4_left := goodIn_r _ [13, 14, 41, 42, 43, 44, 45, 46, 47] (by decide +kernel) (by decide +kernel)
set_option maxRecDepth 20000 in
theorem gX5_faultAt_X4_left : GoodIn wsX5_faultAt (wsV RX5 53 RX4 yX4_left wsX4_left) := goodIn_app (goodIn_of _ (by decide +kernel)) ggX5_faultAt_X4_left
set_option maxRecDepth 20000 in
theorem ggX5_faultAt_X4_right : GoodIn wsX5_faultAt wsX4_right := goodIn_r _ [18, 19, 41, 42, 43, 44, 45, 46, 47] (by decide +kernel) (by decide +kernel)
set_option maxRecDepth 20000 in
theorem gX5_faultAt_X4_right : GoodIn wsX5_faultAt (wsV RX5 59 RX4 yX4_right wsX4_right) := goodIn_app (goodIn_of _ (by decide +kernel)) ggX5_faultAt_X4_right
set_option maxRecDepth 20000 in
theorem ggX5_faultAt_X5_isLoose : GoodIn wsX5_faultAt wsX5_isLoose := goodIn_r _ [24, 25, 26, 27, 32, 33, 34, 35, 36, 37, 38, 39, 40] (by decide +kernel) (by decide +kernel)
set_option maxRecDepth 20000 in
theorem gX5_faultAt_X5_isLoose : GoodIn wsX5_faultAt (wsV RX5 90 RX5 yX5_isLoose wsX5_isLoose) := goodIn_app (goodIn_of _ (by decide +kernel)) ggX5_faultAt_X5_isLoose
set_option maxRecDepth 20000 in
theorem ggX5_faultAt_X5_isDouble : GoodIn wsX5_faultAt wsX5_isDouble := goodIn_r _ [31, 25, 27, 32, 33, 34, 35, 36, 37, 38, 39, 40] (by decide +kernel) (by decide +kernel)
set_option maxRecDepth 20000 in
theorem gX5_faultAt_X5_isDouble : GoodIn wsX5_faultAt (wsV RX5 93 RX5 yX5_isDouble wsX5_isDouble) := goodIn_app (goodIn_of _ (by decide +kernel)) ggX5_faultAt_X5_isDouble
set_option maxRecDepth 20000 in
theorem ggX7_init_X4_init : GoodIn wsX7_init wsX4_init := goodIn_r _ [30, 31, 2, 3, 32, 33, 34, 35, 36, 37, 38, 39, 101, 102, 103, 104, 105, 106, 107] (by decide +kernel) (by decide +kernel)
set_option maxRecDepth 20000 in
theorem gX7_init_X4_init_n11 : GoodIn wsX7_init (wsX4_init) := ggX7_init_X4_init
set_option maxRecDepth 20000 in
theorem ggX7_init_X5_init : GoodIn wsX7_init wsX5_init := goodIn_r _ [42, 43, 2, 3, 32, 44, 45, 46, 47, 48, 49, 50, 51, 52, 53, 115, 116, 117, 118, 119, 120, 121, 122, 123] (by decide +kernel) (by decide +kernel)
set_option maxRecDepth 20000 in
theorem gX7_init_X5_init : GoodIn wsX7_init (wsX5_init) := ggX7_init_X5_init
set_option maxRecDepth 20000 in
theorem ggX7_init_X6_init : GoodIn wsX7_init wsX6_init := goodIn_r _ [55, 56, 2, 3, 32, 57, 58, 124, 125] (by decide +kernel) (by decide +kernel)
set_option maxRecDepth 20000 in
theorem gX7_init_X6_init_n27 : GoodIn wsX7_init (wsX6_init) := ggX7_init_X6_init
set_option maxRecDepth 20000 in
theorem ggX7_init_X0_init : GoodIn wsX7_init wsX0_init := goodIn_r _ [61, 62, 2, 3, 32, 63, 64, 65, 66, 67, 68, 69, 70, 71, 72, 73, 74, 75, 76, 77, 78, 79, 126, 127, 128, 129, 130, 131, 132, 133, 146, 147] (by decide +kernel) (by decide +kernel)
set_option maxRecDepth 20000 in
theorem gX7_init_X0_init : GoodIn wsX7_init (wsX0_init) := ggX7_init_X0_init
set_option maxRecDepth 20000 in
theorem ggX7_init_X3_init : GoodIn wsX7_init wsX3_init := goodIn_r _ [82, 83, 2, 3, 84, 77, 85, 86, 87, 134, 135, 136] (by decide +kernel) (by decide +kernel)
set_option maxRecDepth 20000 in
theorem gX7_init_X3_init : GoodIn wsX7_init (wsX3_init) := ggX7_init_X3_init
set_option maxRecDepth 20000 in
theorem ggX7_init_X1_init : GoodIn wsX7_init wsX1_init := goodIn_r _ [90, 91, 2, 3, 32, 92, 93, 77, 94, 95, 96, 97, 98, 99, 100, 137, 138, 139, 140, 141, 142, 143, 144, 145] (by decide +kernel) (by decide +kernel)
set_option maxRecDepth 20000 in
theorem gX7_init_X1_init : GoodIn wsX7_init (wsX1_init) := ggX7_init_X1_init
set_option maxRecDepth 20000 in
theorem ggX7_leaf_X7_needRoom : GoodIn wsX7_leaf wsX7_needRoom := goodIn_ca (goodIn_r _ [8, 9, 10, 3, 11, 12, 13, 14, 15, 16, 39, 40, 41, 42, 43, 44, 45, 46, 47, 48, 49, 50, 51, 52] (by decide +kernel) (by decide +kernel)) (goodIn_sub (fun _ h => List.mem_cons_of_mem _ (List.mem_append_right _ h)) (by decide +kernel))
set_option maxRecDepth 20000 in
theorem gX7_leaf_X7_needRoom : GoodIn wsX7_leaf (wsV RX7 64 RX7 yX7_needRoom wsX7_needRoom) := goodIn_app (goodIn_of _ (by decide +kernel)) ggX7_leaf_X7_needRoom
set_option maxRecDepth 20000 in
theorem ggX7_leaf_X4_add : GoodIn wsX7_leaf wsX4_add := goodIn_r _ [20, 16, 21, 22, 23, 24, 25, 26, 27, 28, 29, 30, 31, 32, 33, 14, 34, 35, 36, 37, 38, 46, 47, 48, 49, 50, 51, 52] (by decide +kernel) (by decide +kernel)
set_option maxRecDepth 20000 in
theorem gX7_leaf_X4_add : GoodIn wsX7_leaf (wsV RX7 67 RX4 yX4_add wsX4_add) := goodIn_app (goodIn_of _ (by decide +kernel)) ggX7_leaf_X4_add
set_option maxRecDepth 20000 in
theorem ggX7_variable_X7_needVariable : GoodIn wsX7_variable wsX7_needVariable := goodIn_ca (goodIn_r _ [6, 7, 8] (by decide +kernel) (by decide +kernel)) (goodIn_sub (fun _ h => List.mem_cons_of_mem _ (List.mem_append_left _ (List.mem_append_right _ h))) (by decide +kernel))
set_option maxRecDepth 20000 in
theorem gX7_variable_X7_needVariable : GoodIn wsX7_variable (wsV RX7 71 RX7 yX7_needVariable wsX7_needVariable) := goodIn_app (goodIn_of _ (by decide +kernel)) ggX7_variable_X7_needVariable
set_option maxRecDepth 20000 in
theorem ggX7_variable_X7_needRoom : GoodIn wsX7_variable wsX7_needRoom := goodIn_ca (goodIn_r _ [12, 13, 14, 1, 15, 16, 17, 18, 19, 20, 43, 44, 45, 46, 47, 48, 49, 50, 51, 52, 53, 54, 55, 56] (by decide +kernel) (by decide +kernel)) (goodIn_sub (fun _ h => List.mem_cons_of_mem _ (List.mem_append_right _ h)) (by decide +kernel))
set_option maxRecDepth 20000 in
theorem gX7_variable_X7_needRoom : GoodIn wsX7_variable (wsV RX7 64 RX7 yX7_needRoom wsX7_needRoom) := goodIn_app (goodIn_of _ (by decide +kernel)) ggX7_variable_X7_needRoom
set_option maxRecDepth 20000 in
theorem ggX7_variable_X4_add : GoodIn wsX7_variable wsX4_add := goodIn_r _ [24, 20, 25, 26, 27, 28, 29, 30, 31, 32, 33, 34, 35, 36, 37, 18, 38, 39, 40, 41, 42, 50, 51, 52, 53, 54, 55, 56] (by decide +kernel) (by decide +kernel)
set_option maxRecDepth 20000 in
theorem gX7_variable_X4_add : GoodIn wsX7_variable (wsV RX7 67 RX4 yX4_add wsX4_add) := goodIn_app (goodIn_of _ (by decide +kernel)) ggX7_variable_X4_add
set_option maxRecDepth 20000 in
theorem ggX7_join_X7_needTerm : GoodIn wsX7_join wsX7_needTerm := goodIn_ca (goodIn_r _ [8, 9, 10, 3, 11, 12, 13, 14, 15, 16, 53, 54, 55, 56, 57, 58, 59, 60, 61, 62, 63, 64, 65, 66] (by decide +kernel) (by decide +kernel)) (goodIn_sub (fun _ h => List.mem_cons_of_mem _ (List.mem_append_left _ (List.mem_append_right _ h))) (by decide +kernel))
set_option maxRecDepth 20000 in
theorem gX7_join_X7_needTerm : GoodIn wsX7_join (wsV RX7 75 RX7 yX7_needTerm wsX7_needTerm) := goodIn_app (goodIn_of _ (by decide +kernel)) ggX7_join_X7_needTerm
set_option maxRecDepth 20000 in
theorem ggX7_join_X4_isPart : GoodIn wsX7_join wsX4_isPart := goodIn_r _ [20, 21, 60, 61, 62, 63, 64, 65, 66] (by decide +kernel) (by decide +kernel)
set_option maxRecDepth 20000 in
theorem gX7_join_X4_isPart : GoodIn wsX7_join (wsV RX7 78 RX4 yX4_isPart wsX4_isPart) := goodIn_app (goodIn_of _ (by decide +kernel)) ggX7_join_X4_isPart
set_option maxRecDepth 20000 in
theorem ggX7_join_X7_needRoom : GoodIn wsX7_join wsX7_needRoom := goodIn_ca (goodIn_r _ [25, 26, 27, 3, 28, 29, 30, 14, 31, 16, 53, 54, 55, 56, 57, 58, 59, 60, 61, 62, 63, 64, 65, 66] (by decide +kernel) (by decide +kernel)) (goodIn_sub (fun _ h => List.mem_cons_of_mem _ (List.mem_append_right _ h)) (by decide +kernel))
set_option maxRecDepth 20000 in
theorem gX7_join_X7_needRoom : GoodIn wsX7_join (wsV RX7 64 RX7 yX7_needRoom wsX7_needRoom) := goodIn_app (goodIn_of _ (by decide +kernel)) ggX7_join_X7_needRoom
set_option maxRecDepth 20000 in
theorem ggX7_join_X4_add : GoodIn wsX7_join wsX4_add := goodIn_r _ [35, 16, 36, 37, 38, 39, 21, 40, 41, 42, 43, 44, 45, 46, 47, 14, 48, 49, 50, 51, 52, 60, 61, 62, 63, 64, 65, 66] (by decide +kernel) (by decide +kernel)
set_option maxRecDepth 20000 in
theorem gX7_join_X4_add : GoodIn wsX7_join (wsV RX7 67 RX4 yX4_add wsX4_add) := goodIn_app (goodIn_of _ (by decide +kernel)) ggX7_join_X4_add
set_option maxRecDepth 20000 in
theorem ggX7_knot_X7_needTerm : GoodIn wsX7_knot wsX7_needTerm := goodIn_ca (goodIn_r _ [10, 11, 12, 5, 13, 14, 15, 16, 17, 18, 60, 61, 62, 63, 64, 65, 66, 67, 68, 69, 70, 71, 72, 73] (by decide +kernel) (by decide +kernel)) (goodIn_sub (fun _ h => List.mem_cons_of_mem _ (List.mem_append_left _ (List.mem_append_right _ h))) (by decide +kernel))
set_option maxRecDepth 20000 in
theorem gX7_knot_X7_needTerm : GoodIn wsX7_knot (wsV RX7 75 RX7 yX7_needTerm wsX7_needTerm) := goodIn_app (goodIn_of _ (by decide +kernel)) ggX7_knot_X7_needTerm
set_option maxRecDepth 20000 in
theorem ggX7_knot_X4_isPart : GoodIn wsX7_knot wsX4_isPart := goodIn_r _ [22, 23, 67, 68, 69, 70, 71, 72, 73] (by decide +kernel) (by decide +kernel)
set_option maxRecDepth 20000 in
theorem gX7_knot_X4_isPart : GoodIn wsX7_knot (wsV RX7 78 RX4 yX4_isPart wsX4_isPart) := goodIn_app (goodIn_of _ (by decide +kernel)) ggX7_knot_X4_isPart
set_option maxRecDepth 20000 in
theorem ggX7_knot_X7_needVariable : GoodIn wsX7_knot wsX7_needVariable := goodIn_ca (goodIn_r _ [27, 28, 29] (by decide +kernel) (by decide +kernel)) (goodIn_sub (fun _ h => List.mem_cons_of_mem _ (List.mem_append_right _ h)) (by decide +kernel))
set_option maxRecDepth 20000 in
theorem gX7_knot_X7_needVariable : GoodIn wsX7_knot (wsV RX7 71 RX7 yX7_needVariable wsX7_needVariable) := goodIn_app (goodIn_of _ (by decide +kernel)) ggX7_knot_X7_needVariable
set_option maxRecDepth 20000 in
theorem ggX7_knot_X7_needRoom : GoodIn wsX7_knot wsX7_needRoom := goodIn_ca (goodIn_r _ [33, 3, 4, 5, 34, 35, 36, 16, 37, 18, 60, 61, 62, 63, 64, 65, 66, 67, 68, 69, 70, 71, 72, 73] (by decide +kernel) (by decide +kernel)) (goodIn_sub (fun _ h => List.mem_cons_of_mem _ (List.mem_append_left _ (List.mem_append_left _ (List.mem_append_right _ h)))) (by decide +kernel))
set_option maxRecDepth 20000 in
theorem gX7_knot_X7_needRoom : GoodIn wsX7_knot (wsV RX7 64 RX7 yX7_needRoom wsX7_needRoom) := goodIn_app (goodIn_of _ (by decide +kernel)) ggX7_knot_X7_needRoom
set_option maxRecDepth 20000 in
theorem ggX7_knot_X4_knotsIn : GoodIn wsX7_knot wsX4_knotsIn := goodIn_r _ [41, 42, 67, 68, 69, 70, 71, 72, 73] (by decide +kernel) (by decide +kernel)
set_option maxRecDepth 20000 in
theorem gX7_knot_X4_knotsIn : GoodIn wsX7_knot (wsV RX7 85 RX4 yX4_knotsIn wsX4_knotsIn) := goodIn_app (goodIn_of _ (by decide +kernel)) ggX7_knot_X4_knotsIn
set_option maxRecDepth 20000 in
theorem ggX7_knot_X4_add : GoodIn wsX7_knot wsX4_add := goodIn_r _ [46, 18, 47, 48, 49, 50, 23, 42, 51, 52, 53, 54, 55, 39, 40, 16, 41, 56, 57, 58, 59, 67, 68, 69, 70, 71, 72, 73] (by decide +kernel) (by decide +kernel)
set_option maxRecDepth 20000 in
theorem gX7_knot_X4_add : GoodIn wsX7_knot (wsV RX7 67 RX4 yX4_add wsX4_add) := goodIn_app (goodIn_of _ (by decide +kernel)) ggX7_knot_X4_add
set_option maxRecDepth 20000 in
theorem ggX7_clear_X4_forgetAll : GoodIn wsX7_clear wsX4_forgetAll := goodIn_r _ [6, 7, 15, 16, 17, 18, 19, 20, 21] (by decide +kernel) (by decide +kernel)
set_option maxRecDepth 20000 in
theorem gX7_clear_X4_forgetAll : GoodIn wsX7_clear (wsV RX7 92 RX4 yX4_forgetAll wsX4_forgetAll) := goodIn_app (goodIn_of _ (by decide +kernel)) ggX7_clear_X4_forgetAll
set_option maxRecDepth 20000 in
theorem ggX7_terms_X4_size : GoodIn wsX7_terms wsX4_size := goodIn_r _ [6, 7, 15, 16, 17, 18, 19, 20, 21] (by decide +kernel) (by decide +kernel)
set_option maxRecDepth 20000 in
theorem gX7_terms_X4_size : GoodIn wsX7_terms (wsV RX7 95 RX4 yX4_size wsX4_size) := goodIn_app (goodIn_of _ (by decide +kernel)) ggX7_terms_X4_size
set_option maxRecDepth 20000 in
theorem ggX7_fault_X7_needTerm : GoodIn wsX7_fault wsX7_needTerm := goodIn_ca (goodIn_r _ [6, 7, 8, 9, 10, 11, 12, 13, 14, 15, 99, 100, 101, 102, 103, 104, 105, 106, 107, 108, 109, 110, 111, 112] (by decide +kernel) (by decide +kernel)) (goodIn_sub (fun _ h => List.mem_cons_of_mem _ (List.mem_append_right _ h)) (by decide +kernel))
set_option maxRecDepth 20000 in
theorem gX7_fault_X7_needTerm : GoodIn wsX7_fault (wsV RX7 75 RX7 yX7_needTerm wsX7_needTerm) := goodIn_app (goodIn_of _ (by decide +kernel)) ggX7_fault_X7_needTerm
set_option maxRecDepth 20000 in
theorem ggX7_fault_X5_study : GoodIn wsX7_fault wsX5_study := goodIn_r _ [20, 21, 22, 23, 24, 25, 19, 26, 27, 28, 29, 30, 31, 13, 32, 33, 34, 35, 36, 37, 38, 39, 40, 41, 42, 43, 44, 45, 46, 47, 48, 49, 50, 51, 52, 53, 54, 55, 56, 57, 58, 59, 60, 61, 62, 63, 64, 65, 66, 67, 68, 69, 70, 71, 72, 73, 74, 75, 76, 77, 78, 79, 80, 81, 82, 113, 114, 115, 116, 117, 118, 119, 120, 121, 106, 107, 108, 109, 110, 111, 112] (by decide +kernel) (by decide +kernel)
set_option maxRecDepth 20000 in
theorem gX7_fault_X5_study : GoodIn wsX7_fault (wsV RX7 99 RX5 yX5_study wsX5_study) := goodIn_app (goodIn_of _ (by decide +kernel)) ggX7_fault_X5_study
set_option maxRecDepth 20000 in
theorem ggX7_fault_X5_firstFault : GoodIn wsX7_fault wsX5_firstFault := goodIn_r _ [86, 21, 22, 87, 88, 89, 19, 90, 28, 43, 44, 45, 46, 47, 13, 48, 49, 29, 30, 31, 32, 33, 34, 35, 36, 37, 38, 91, 92, 93, 94, 64, 66, 65, 95, 96, 97, 98, 113, 114, 115, 116, 117, 118, 119, 120, 121, 106, 107, 108, 109, 110, 111, 112] (by decide +kernel) (by decide +kernel)
set_option maxRecDepth 20000 in
theorem gX7_fault_X5_firstFault : GoodIn wsX7_fault (wsV RX7 102 RX5 yX5_firstFault wsX5_firstFault) := goodIn_app (goodIn_of _ (by decide +kernel)) ggX7_fault_X5_firstFault
set_option maxRecDepth 20000 in
theorem ggX7_type_X7_needTerm : GoodIn wsX7_type wsX7_needTerm := goodIn_ca (goodIn_r _ [8, 1, 2, 9, 10, 11, 12, 13, 14, 15, 117, 118, 119, 120, 121, 122, 123, 124, 125, 126, 127, 128, 129, 130] (by decide +kernel) (by decide +kernel)) (goodIn_sub (fun _ h => List.mem_cons_of_mem _ (List.mem_append_left _ (List.mem_append_right _ h))) (by decide +kernel))
set_option maxRecDepth 20000 in
theorem gX7_type_X7_needTerm : GoodIn wsX7_type (wsV RX7 75 RX7 yX7_needTerm wsX7_needTerm) := goodIn_app (goodIn_of _ (by decide +kernel)) ggX7_type_X7_needTerm
set_option maxRecDepth 20000 in
theorem ggX7_type_X7_needTyped : GoodIn wsX7_type wsX7_needTyped := goodIn_ca (goodIn_r _ [19, 20, 21, 3, 22, 23, 24, 25, 26, 27, 28, 29, 30, 31, 32, 33, 34, 35, 36, 37, 13, 38, 39, 40, 41, 42, 43, 44, 45, 46, 47, 48, 49, 50, 51, 52, 53, 54, 55, 56, 57, 58, 59, 60, 61, 62, 63, 64, 65, 66, 67, 68, 69, 70, 71, 72, 73, 74, 75, 76, 77, 78, 79, 80, 81, 82, 83, 84, 85, 86, 87, 88, 89, 90, 91, 92, 93, 94, 95, 96, 97, 98, 99, 100, 101, 102, 103, 104, 117, 118, 119, 120, 121, 122, 123, 131, 132, 133, 134, 135, 136, 137, 138, 139, 124, 125, 126, 127, 128, 129, 130] (by decide +kernel) (by decide +kernel)) (goodIn_sub (fun _ h => List.mem_cons_of_mem _ (List.mem_append_right _ h)) (by decide +kernel))
set_option maxRecDepth 20000 in
theorem gX7_type_X7_needTyped : GoodIn wsX7_type (wsV RX7 108 RX7 yX7_needTyped wsX7_needTyped) := goodIn_app (goodIn_of _ (by decide +kernel)) ggX7_type_X7_needTyped
set_option maxRecDepth 20000 in
theorem ggX7_type_X5_isNullable : GoodIn wsX7_type wsX5_isNullable := goodIn_r _ [108, 70, 131, 132, 133, 134, 135, 136, 137, 138, 139] (by decide +kernel) (by decide +kernel)
set_option maxRecDepth 20000 in
theorem gX7_type_X5_isNullable : GoodIn wsX7_type (wsV RX7 111 RX5 yX5_isNullable wsX5_isNullable) := goodIn_app (goodIn_of _ (by decide +kernel)) ggX7_type_X5_isNullable
set_option maxRecDepth 20000 in
theorem ggX7_type_X5_firstOf : GoodIn wsX7_type wsX5_firstOf := goodIn_r _ [112, 71, 131, 132, 133, 134, 135, 136, 137, 138, 139] (by decide +kernel) (by decide +kernel)
set_option maxRecDepth 20000 in
theorem gX7_type_X5_firstOf : GoodIn wsX7_type (wsV RX7 114 RX5 yX5_firstOf wsX5_firstOf) := goodIn_app (goodIn_of _ (by decide +kernel)) ggX7_type_X5_firstOf
set_option maxRecDepth 20000 in
theorem ggX7_type_X5_afterOf : GoodIn wsX7_type wsX5_afterOf := goodIn_r _ [116, 72, 131, 132, 133, 134, 135, 136, 137, 138, 139] (by decide +kernel) (by decide +kernel)
set_option maxRecDepth 20000 in
theorem gX7_type_X5_afterOf : GoodIn wsX7_type (wsV RX7 117 RX5 yX5_afterOf wsX5_afterOf) := goodIn_app (goodIn_of _ (by decide +kernel)) ggX7_type_X5_afterOf
set_option maxRecDepth 20000 in
theorem ggX7_put_X6_isFull : GoodIn wsX7_put wsX6_isFull := goodIn_r _ [6, 7, 20, 21] (by decide +kernel) (by decide +kernel)
set_option maxRecDepth 20000 in
theorem gX7_put_X6_isFull : GoodIn wsX7_put (wsV RX7 120 RX6 yX6_isFull wsX6_isFull) := goodIn_app (goodIn_of _ (by decide +kernel)) ggX7_put_X6_isFull
set_option maxRecDepth 20000 in
theorem ggX7_put_X6_add : GoodIn wsX7_put wsX6_add := goodIn_r _ [11, 12, 7, 20, 21] (by decide +kernel) (by decide +kernel)
set_option maxRecDepth 20000 in
theorem gX7_put_X6_add : GoodIn wsX7_put (wsV RX7 124 RX6 yX6_add wsX6_add) := goodIn_app (goodIn_of _ (by decide +kernel)) ggX7_put_X6_add
set_option maxRecDepth 20000 in
theorem ggX7_cut_X6_size : GoodIn wsX7_cut wsX6_size := goodIn_r _ [6, 7, 19, 20] (by decide +kernel) (by decide +kernel)
set_option maxRecDepth 20000 in
theorem gX7_cut_X6_size : GoodIn wsX7_cut (wsV RX7 126 RX6 yX6_size wsX6_size) := goodIn_app (goodIn_of _ (by decide +kernel)) ggX7_cut_X6_size
set_option maxRecDepth 20000 in
theorem ggX7_cut_X6_keep : GoodIn wsX7_cut wsX6_keep := goodIn_r _ [11, 7, 19, 20] (by decide +kernel) (by decide +kernel)
set_option maxRecDepth 20000 in
theorem gX7_cut_X6_keep : GoodIn wsX7_cut (wsV RX7 127 RX6 yX6_keep wsX6_keep) := goodIn_app (goodIn_of _ (by decide +kernel)) ggX7_cut_X6_keep
set_option maxRecDepth 20000 in
theorem ggX7_length_X6_size : GoodIn wsX7_length wsX6_size := goodIn_r _ [6, 7, 15, 16] (by decide +kernel) (by decide +kernel)
set_option maxRecDepth 20000 in
theorem gX7_length_X6_size : GoodIn wsX7_length (wsV RX7 126 RX6 yX6_size wsX6_size) := goodIn_app (goodIn_of _ (by decide +kernel)) ggX7_length_X6_size
set_option maxRecDepth 20000 in
theorem ggX7_letter_X6_size : GoodIn wsX7_letter wsX6_size := goodIn_r _ [8, 9, 22, 23] (by decide +kernel) (by decide +kernel)
set_option maxRecDepth 20000 in
theorem gX7_letter_X6_size : GoodIn wsX7_letter (wsV RX7 126 RX6 yX6_size wsX6_size) := goodIn_app (goodIn_of _ (by decide +kernel)) ggX7_letter_X6_size
set_option maxRecDepth 20000 in
theorem ggX7_letter_X6_at : GoodIn wsX7_letter wsX6_at := goodIn_r _ [13, 14, 22, 23] (by decide +kernel) (by decide +kernel)
set_option maxRecDepth 20000 in
theorem gX7_letter_X6_at : GoodIn wsX7_letter (wsV RX7 130 RX6 yX6_at wsX6_at) := goodIn_app (goodIn_of _ (by decide +kernel)) ggX7_letter_X6_at
set_option maxRecDepth 20000 in
theorem ggX7_read_X7_needTerm : GoodIn wsX7_read wsX7_needTerm := goodIn_ca (goodIn_r _ [10, 11, 12, 13, 14, 15, 16, 17, 18, 19, 187, 188, 189, 190, 191, 192, 193, 194, 195, 196, 197, 198, 199, 200] (by decide +kernel) (by decide +kernel)) (goodIn_sub (fun _ h => List.mem_cons_of_mem _ (List.mem_append_left _ (List.mem_append_right _ h))) (by decide +kernel))
set_option maxRecDepth 20000 in
theorem gX7_read_X7_needTerm : GoodIn wsX7_read (wsV RX7 75 RX7 yX7_needTerm wsX7_needTerm) := goodIn_app (goodIn_of _ (by decide +kernel)) ggX7_read_X7_needTerm
set_option maxRecDepth 20000 in
theorem ggX7_read_X7_needTyped : GoodIn wsX7_read wsX7_needTyped := goodIn_ca (goodIn_r _ [23, 24, 25, 26, 27, 28, 29, 30, 31, 32, 33, 34, 35, 36, 37, 38, 39, 40, 41, 42, 17, 43, 44, 45, 46, 47, 48, 49, 50, 51, 52, 53, 54, 55, 56, 57, 58, 59, 60, 61, 62, 63, 64, 65, 66, 67, 68, 69, 70, 71, 72, 73, 74, 75, 76, 77, 78, 79, 80, 81, 82, 83, 84, 85, 86, 87, 88, 89, 90, 91, 92, 93, 94, 95, 96, 97, 98, 99, 100, 101, 102, 103, 104, 105, 106, 107, 108, 109, 187, 188, 189, 190, 191, 192, 193, 201, 202, 203, 204, 205, 206, 207, 208, 209, 194, 195, 196, 197, 198, 199, 200] (by decide +kernel) (by decide +kernel)) (goodIn_sub (fun _ h => List.mem_cons_of_mem _ (List.mem_append_right _ h)) (by decide +kernel))
set_option maxRecDepth 20000 in
theorem gX7_read_X7_needTyped : GoodIn wsX7_read (wsV RX7 108 RX7 yX7_needTyped wsX7_needTyped) := goodIn_app (goodIn_of _ (by decide +kernel)) ggX7_read_X7_needTyped
set_option maxRecDepth 20000 in
theorem ggX7_read_X0_reads : GoodIn wsX7_read wsX0_reads := goodIn_r _ [114, 115, 116, 117, 118, 119, 120, 121, 122, 123, 124, 125, 126, 127, 128, 129, 113, 130, 131, 132, 133, 134, 135, 136, 137, 57, 58, 17, 59, 60, 138, 67, 68, 69, 70, 139, 140, 141, 142, 143, 144, 145, 146, 147, 148, 149, 150, 151, 152, 153, 154, 46, 47, 48, 49, 155, 41, 42, 43, 44, 156, 157, 158, 159, 160, 161, 162, 30, 163, 39, 76, 75, 40, 45, 164, 165, 166, 167, 168, 169, 170, 171, 172, 173, 54, 210, 211, 212, 213, 214, 215, 216, 217, 218, 219, 194, 195, 196, 197, 198, 199, 200, 220, 221, 201, 202, 203, 204, 205, 206, 207, 208, 209] (by decide +kernel) (by decide +kernel)
set_option maxRecDepth 20000 in
theorem gX7_read_X0_reads : GoodIn wsX7_read (wsV RX7 133 RX0 yX0_reads wsX0_reads) := goodIn_app (goodIn_of _ (by decide +kernel)) ggX7_read_X0_reads
set_option maxRecDepth 20000 in
theorem ggX7_read_X0_place : GoodIn wsX7_read wsX0_place := goodIn_r _ [177, 116, 210, 211, 212, 213, 214, 215, 216, 217] (by decide +kernel) (by decide +kernel)
set_option maxRecDepth 20000 in
theorem gX7_read_X0_place : GoodIn wsX7_read (wsV RX7 137 RX0 yX0_place wsX0_place) := goodIn_app (goodIn_of _ (by decide +kernel)) ggX7_read_X0_place
set_option maxRecDepth 20000 in
theorem ggX7_read_X0_keepSteps : GoodIn wsX7_read wsX0_keepSteps := goodIn_r _ [181, 182, 115, 210, 211, 212, 213, 214, 215, 216, 217] (by decide +kernel) (by decide +kernel)
set_option maxRecDepth 20000 in
theorem gX7_read_X0_keepSteps : GoodIn wsX7_read (wsV RX7 140 RX0 yX0_keepSteps wsX0_keepSteps) := goodIn_app (goodIn_of _ (by decide +kernel)) ggX7_read_X0_keepSteps
set_option maxRecDepth 20000 in
theorem ggX7_read_X0_visits : GoodIn wsX7_read wsX0_visits := goodIn_r _ [186, 118, 210, 211, 212, 213, 214, 215, 216, 217] (by decide +kernel) (by decide +kernel)
set_option maxRecDepth 20000 in
theorem gX7_read_X0_visits : GoodIn wsX7_read (wsV RX7 143 RX0 yX0_visits wsX0_visits) := goodIn_app (goodIn_of _ (by decide +kernel)) ggX7_read_X0_visits
set_option maxRecDepth 20000 in
theorem ggX7_trace_X0_kept : GoodIn wsX7_trace wsX0_kept := goodIn_r _ [6, 7, 21, 22, 23, 24, 25, 26, 27, 28] (by decide +kernel) (by decide +kernel)
set_option maxRecDepth 20000 in
theorem gX7_trace_X0_kept : GoodIn wsX7_trace (wsV RX7 146 RX0 yX0_kept wsX0_kept) := goodIn_app (goodIn_of _ (by decide +kernel)) ggX7_trace_X0_kept
set_option maxRecDepth 20000 in
theorem ggX7_trace_X2_size : GoodIn wsX7_trace wsX2_size := goodIn_r _ [12, 13, 29, 30] (by decide +kernel) (by decide +kernel)
set_option maxRecDepth 20000 in
theorem gX7_trace_X2_size : GoodIn wsX7_trace (wsV RX7 150 RX2 yX2_size wsX2_size) := goodIn_app (goodIn_of _ (by decide +kernel)) ggX7_trace_X2_size
set_option maxRecDepth 20000 in
theorem ggX7_step_X0_kept : GoodIn wsX7_step wsX0_kept := goodIn_r _ [8, 9, 28, 29, 30, 31, 32, 33, 34, 35] (by decide +kernel) (by decide +kernel)
set_option maxRecDepth 20000 in
theorem gX7_step_X0_kept : GoodIn wsX7_step (wsV RX7 146 RX0 yX0_kept wsX0_kept) := goodIn_app (goodIn_of _ (by decide +kernel)) ggX7_step_X0_kept
set_option maxRecDepth 20000 in
theorem ggX7_step_X2_size : GoodIn wsX7_step wsX2_size := goodIn_r _ [14, 15, 36, 37] (by decide +kernel) (by decide +kernel)
set_option maxRecDepth 20000 in
theorem gX7_step_X2_size : GoodIn wsX7_step (wsV RX7 150 RX2 yX2_size wsX2_size) := goodIn_app (goodIn_of _ (by decide +kernel)) ggX7_step_X2_size
set_option maxRecDepth 20000 in
theorem ggX7_step_X2_at : GoodIn wsX7_step wsX2_at := goodIn_r _ [19, 20, 36, 37] (by decide +kernel) (by decide +kernel)
set_option maxRecDepth 20000 in
theorem gX7_step_X2_at : GoodIn wsX7_step (wsV RX7 153 RX2 yX2_at wsX2_at) := goodIn_app (goodIn_of _ (by decide +kernel)) ggX7_step_X2_at
set_option maxRecDepth 20000 in
theorem ggX7_count_X7_countTo : GoodIn wsX7_count wsX7_countTo := goodIn_ca (goodIn_ca (goodIn_ca (goodIn_r _ [6, 7, 8, 1, 9, 10, 11, 5, 12, 13, 14, 15, 16, 17, 18, 19, 20, 21, 22, 23, 24, 25, 26, 27, 28, 29, 30, 31, 32, 33, 34, 35, 36, 37, 38, 39, 40, 41, 42, 43, 44, 45, 46, 47, 48, 49, 50, 51, 52, 53, 54, 55, 56, 57, 58, 59, 60, 61, 62, 63, 64, 65, 66, 67, 68, 69, 70, 71, 72, 73, 74, 75, 76, 77, 78, 79, 80, 81, 82, 83, 84, 85, 86, 87, 88, 89, 90, 91, 92, 93, 94, 95, 96, 97, 98, 99, 100, 101, 102, 103, 104, 105, 106, 107, 108, 109, 110, 111, 112, 113, 114, 115, 116, 117, 118, 119, 120, 121, 122, 123, 124, 125, 126, 127, 128, 129, 130, 131, 132, 133, 134, 135, 136, 137, 138, 139, 140, 141, 142, 143, 144, 145, 146, 151, 152, 153, 154, 155, 156, 157, 158, 159, 160, 161, 162, 163, 164, 165, 166, 167, 168, 169, 170, 171, 172, 173, 174, 175, 176] (by decide +kernel) (by decide +kernel)) (goodIn_sub (fun _ h => List.mem_cons_of_mem _ (List.mem_append_left _ (List.mem_append_left _ (List.mem_append_right _ h)))) (by decide +kernel))) (goodIn_sub (fun _ h => List.mem_cons_of_mem _ (List.mem_append_left _ (List.mem_append_right _ h))) (by decide +kernel))) (goodIn_sub (fun _ h => List.mem_cons_of_mem _ (List.mem_append_right _ h)) (by decide +kernel))
set_option maxRecDepth 20000 in
theorem gX7_count_X7_countTo : GoodIn wsX7_count (wsV RX7 154 RX7 yX7_countTo wsX7_countTo) := goodIn_app (goodIn_of _ (by decide +kernel)) ggX7_count_X7_countTo
set_option maxRecDepth 20000 in
theorem ggX7_count_X3_words : GoodIn wsX7_count wsX3_words := goodIn_r _ [150, 122, 174, 175, 176] (by decide +kernel) (by decide +kernel)
set_option maxRecDepth 20000 in
theorem gX7_count_X3_words : GoodIn wsX7_count (wsV RX7 158 RX3 yX3_words wsX3_words) := goodIn_app (goodIn_of _ (by decide +kernel)) ggX7_count_X3_words
set_option maxRecDepth 20000 in
theorem ggX7_find_X7_countTo : GoodIn wsX7_find wsX7_countTo := goodIn_ca (goodIn_ca (goodIn_ca (goodIn_r _ [10, 11, 12, 3, 13, 14, 15, 9, 16, 17, 18, 19, 20, 21, 22, 23, 24, 25, 26, 27, 28, 29, 30, 31, 32, 33, 34, 35, 36, 37, 38, 39, 40, 41, 42, 43, 44, 45, 46, 47, 48, 49, 50, 51, 52, 53, 54, 55, 56, 57, 58, 59, 60, 61, 62, 63, 64, 65, 66, 67, 68, 69, 70, 71, 72, 73, 74, 75, 76, 77, 78, 79, 80, 81, 82, 83, 84, 85, 86, 87, 88, 89, 90, 91, 92, 93, 94, 95, 96, 97, 98, 99, 100, 101, 102, 103, 104, 105, 106, 107, 108, 109, 110, 111, 112, 113, 114, 115, 116, 117, 118, 119, 120, 121, 122, 123, 124, 125, 126, 127, 128, 129, 130, 131, 132, 133, 134, 135, 136, 137, 138, 139, 140, 141, 142, 143, 144, 145, 146, 147, 148, 149, 150, 236, 237, 238, 239, 240, 241, 242, 243, 244, 245, 246, 247, 248, 249, 250, 251, 252, 253, 254, 255, 256, 257, 258, 259, 260, 261] (by decide +kernel) (by decide +kernel)) (goodIn_sub (fun _ h => List.mem_cons_of_mem _ (List.mem_append_left _ (List.mem_append_left _ (List.mem_append_right _ h)))) (by decide +kernel))) (goodIn_sub (fun _ h => List.mem_cons_of_mem _ (List.mem_append_left _ (List.mem_append_right _ h))) (by decide +kernel))) (goodIn_sub (fun _ h => List.mem_cons_of_mem _ (List.mem_append_right _ h)) (by decide +kernel))
set_option maxRecDepth 20000 in
theorem gX7_find_X7_countTo : GoodIn wsX7_find (wsV RX7 154 RX7 yX7_countTo wsX7_countTo) := goodIn_app (goodIn_of _ (by decide +kernel)) ggX7_find_X7_countTo
set_option maxRecDepth 20000 in
theorem ggX7_find_X3_words : GoodIn wsX7_find wsX3_words := goodIn_r _ [154, 126, 259, 260, 261] (by decide +kernel) (by decide +kernel)
set_option maxRecDepth 20000 in
theorem gX7_find_X3_words : GoodIn wsX7_find (wsV RX7 158 RX3 yX3_words wsX3_words) := goodIn_app (goodIn_of _ (by decide +kernel)) ggX7_find_X3_words
set_option maxRecDepth 20000 in
theorem ggX7_find_X1_spell : GoodIn wsX7_find wsX1_spell := goodIn_r _ [159, 160, 161, 162, 163, 164, 165, 166, 167, 168, 158, 169, 170, 171, 172, 173, 174, 175, 176, 177, 178, 179, 180, 181, 182, 183, 184, 119, 185, 126, 186, 187, 188, 189, 190, 191, 192, 193, 194, 195, 196, 197, 36, 198, 82, 199, 200, 201, 202, 81, 203, 204, 205, 206, 207, 208, 209, 210, 63, 64, 23, 65, 66, 211, 52, 53, 54, 55, 212, 213, 214, 215, 216, 148, 149, 150, 60, 217, 218, 219, 220, 45, 46, 47, 48, 49, 50, 51, 221, 222, 223, 224, 225, 226, 227, 228, 229, 230, 231, 232, 233, 234, 235, 262, 263, 264, 265, 266, 267, 268, 269, 270, 271, 272, 259, 260, 261, 250, 251, 252, 253, 254, 255, 256, 257, 258, 243, 244, 245, 246, 247, 248, 249] (by decide +kernel) (by decide +kernel)
set_option maxRecDepth 20000 in
theorem gX7_find_X1_spell : GoodIn wsX7_find (wsV RX7 165 RX1 yX1_spell wsX1_spell) := goodIn_app (goodIn_of _ (by decide +kernel)) ggX7_find_X1_spell
set_option maxRecDepth 20000 in
theorem ggX7_countTo_X7_needTerm : GoodIn wsX7_countTo wsX7_needTerm := goodIn_ca (goodIn_r _ [8, 9, 10, 11, 12, 13, 14, 15, 16, 17, 143, 144, 145, 146, 147, 148, 149, 150, 151, 152, 153, 154, 155, 156] (by decide +kernel) (by decide +kernel)) (goodIn_sub (fun _ h => List.mem_cons_of_mem _ (List.mem_append_left _ (List.mem_append_right _ h))) (by decide +kernel))
set_option maxRecDepth 20000 in
theorem gX7_countTo_X7_needTerm : GoodIn wsX7_countTo (wsV RX7 75 RX7 yX7_needTerm wsX7_needTerm) := goodIn_app (goodIn_of _ (by decide +kernel)) ggX7_countTo_X7_needTerm
set_option maxRecDepth 20000 in
theorem ggX7_countTo_X7_needTyped : GoodIn wsX7_countTo wsX7_needTyped := goodIn_ca (goodIn_r _ [21, 22, 23, 24, 25, 26, 27, 28, 29, 30, 31, 32, 33, 34, 35, 36, 37, 38, 39, 40, 15, 41, 42, 43, 44, 45, 46, 47, 48, 49, 50, 51, 52, 53, 54, 55, 56, 57, 58, 59, 60, 61, 62, 63, 64, 65, 66, 67, 68, 69, 70, 71, 72, 73, 74, 75, 76, 77, 78, 79, 80, 81, 82, 83, 84, 85, 86, 87, 88, 89, 90, 91, 92, 93, 94, 95, 96, 97, 98, 99, 100, 101, 102, 103, 104, 105, 106, 107, 143, 144, 145, 146, 147, 148, 149, 157, 158, 159, 160, 161, 162, 163, 164, 165, 150, 151, 152, 153, 154, 155, 156] (by decide +kernel) (by decide +kernel)) (goodIn_sub (fun _ h => List.mem_cons_of_mem _ (List.mem_append_right _ h)) (by decide +kernel))
set_option maxRecDepth 20000 in
theorem gX7_countTo_X7_needTyped : GoodIn wsX7_countTo (wsV RX7 108 RX7 yX7_needTyped wsX7_needTyped) := goodIn_app (goodIn_of _ (by decide +kernel)) ggX7_countTo_X7_needTyped
set_option maxRecDepth 20000 in
theorem ggX7_countTo_X3_countTo : GoodIn wsX7_countTo wsX3_countTo := goodIn_r _ [112, 113, 114, 115, 111, 116, 117, 118, 119, 120, 121, 28, 122, 30, 123, 124, 125, 126, 31, 127, 128, 129, 130, 131, 132, 55, 56, 15, 57, 58, 133, 39, 40, 41, 42, 134, 44, 45, 46, 47, 135, 136, 137, 138, 139, 140, 141, 142, 52, 166, 167, 168, 157, 158, 159, 160, 161, 162, 163, 164, 165, 150, 151, 152, 153, 154, 155, 156] (by decide +kernel) (by decide +kernel)
set_option maxRecDepth 20000 in
theorem gX7_countTo_X3_countTo : GoodIn wsX7_countTo (wsV RX7 169 RX3 yX3_countTo wsX3_countTo) := goodIn_app (goodIn_of _ (by decide +kernel)) ggX7_countTo_X3_countTo
set_option maxRecDepth 20000 in
theorem ggX7_needTerm_X4_has : GoodIn wsX7_needTerm wsX4_has := goodIn_r _ [8, 9, 17, 18, 19, 20, 21, 22, 23] (by decide +kernel) (by decide +kernel)
set_option maxRecDepth 20000 in
theorem gX7_needTerm_X4_has : GoodIn wsX7_needTerm (wsV RX7 171 RX4 yX4_has wsX4_has) := goodIn_app (goodIn_of _ (by decide +kernel)) ggX7_needTerm_X4_has
set_option maxRecDepth 20000 in
theorem ggX7_needTyped_X5_study : GoodIn wsX7_needTyped wsX5_study := goodIn_r _ [8, 9, 10, 11, 12, 13, 7, 14, 15, 16, 17, 18, 19, 20, 21, 22, 23, 24, 25, 26, 27, 28, 29, 30, 31, 32, 33, 34, 35, 36, 37, 38, 39, 40, 41, 42, 43, 44, 45, 46, 47, 48, 49, 50, 51, 52, 53, 54, 55, 56, 57, 58, 59, 60, 61, 62, 63, 64, 65, 66, 67, 68, 69, 70, 71, 95, 96, 97, 98, 99, 100, 101, 102, 103, 104, 105, 106, 107, 108, 109, 110] (by decide +kernel) (by decide +kernel)
set_option maxRecDepth 20000 in
theorem gX7_needTyped_X5_study : GoodIn wsX7_needTyped (wsV RX7 99 RX5 yX5_study wsX5_study) := goodIn_app (goodIn_of _ (by decide +kernel)) ggX7_needTyped_X5_study
set_option maxRecDepth 20000 in
theorem ggX7_needTyped_X5_firstFault : GoodIn wsX7_needTyped wsX5_firstFault := goodIn_r _ [75, 9, 10, 76, 77, 78, 7, 79, 16, 32, 33, 34, 35, 36, 20, 37, 38, 17, 18, 19, 21, 22, 23, 24, 25, 26, 27, 80, 81, 82, 83, 53, 55, 54, 84, 85, 86, 87, 95, 96, 97, 98, 99, 100, 101, 102, 103, 104, 105, 106, 107, 108, 109, 110] (by decide +kernel) (by decide +kernel)
set_option maxRecDepth 20000 in
theorem gX7_needTyped_X5_firstFault : GoodIn wsX7_needTyped (wsV RX7 102 RX5 yX5_firstFault wsX5_firstFault) := goodIn_app (goodIn_of _ (by decide +kernel)) ggX7_needTyped_X5_firstFault
set_option maxRecDepth 20000 in
theorem ggX7_needRoom_X4_isFull : GoodIn wsX7_needRoom wsX4_isFull := goodIn_r _ [8, 9, 17, 18, 19, 20, 21, 22, 23] (by decide +kernel) (by decide +kernel)
set_option maxRecDepth 20000 in
theorem gX7_needRoom_X4_isFull : GoodIn wsX7_needRoom (wsV RX7 174 RX4 yX4_isFull wsX4_isFull) := goodIn_app (goodIn_of _ (by decide +kernel)) ggX7_needRoom_X4_isFull
set_option maxRecDepth 20000 in
theorem ggX8_leaf_X8_add : GoodIn wsX8_leaf wsX8_add := goodIn_r _ [7, 8, 1, 9, 10, 11, 12, 13, 14, 15, 16, 17, 18, 19, 20, 21, 22, 23, 24, 25, 26, 27, 28, 29, 30, 31, 32, 33, 34, 35, 36, 37, 38, 39, 40, 41] (by decide +kernel) (by decide +kernel)
set_option maxRecDepth 20000 in
theorem gX8_leaf_X8_add : GoodIn wsX8_leaf (wsV RX8 79 RX8 yX8_add wsX8_add) := goodIn_app (goodIn_of _ (by decide +kernel)) ggX8_leaf_X8_add
set_option maxRecDepth 20000 in
theorem ggX8_variable_X8_add : GoodIn wsX8_variable wsX8_add := goodIn_r _ [7, 8, 1, 9, 10, 11, 12, 13, 14, 15, 16, 17, 18, 19, 20, 21, 22, 23, 24, 25, 26, 27, 28, 29, 30, 31, 32, 33, 34, 35, 36, 37, 38, 39, 40, 41] (by decide +kernel) (by decide +kernel)
set_option maxRecDepth 20000 in
theorem gX8_variable_X8_add : GoodIn wsX8_variable (wsV RX8 79 RX8 yX8_add wsX8_add) := goodIn_app (goodIn_of _ (by decide +kernel)) ggX8_variable_X8_add
set_option maxRecDepth 20000 in
theorem ggX8_join_X8_isTerm : GoodIn wsX8_join wsX8_isTerm := goodIn_r _ [7, 1, 22, 23, 24, 25, 26, 27, 28, 29, 30, 31, 32, 33, 34, 35, 36, 37, 38, 39, 40, 41, 42, 43, 44, 45, 46, 47, 48, 49] (by decide +kernel) (by decide +kernel)
set_option maxRecDepth 20000 in
theorem gX8_join_X8_isTerm : GoodIn wsX8_join (wsV RX8 83 RX8 yX8_isTerm wsX8_isTerm) := goodIn_app (goodIn_of _ (by decide +kernel)) ggX8_join_X8_isTerm
set_option maxRecDepth 20000 in
theorem ggX8_join_X8_isPart : GoodIn wsX8_join wsX8_isPart := goodIn_r _ [11, 12, 22, 23, 24, 25, 26, 27, 28, 29, 30, 31, 32, 33, 34, 35, 36, 37, 38, 39, 40, 41, 42, 43, 44, 45, 46, 47, 48, 49] (by decide +kernel) (by decide +kernel)
set_option maxRecDepth 20000 in
theorem gX8_join_X8_isPart : GoodIn wsX8_join (wsV RX8 87 RX8 yX8_isPart wsX8_isPart) := goodIn_app (goodIn_of _ (by decide +kernel)) ggX8_join_X8_isPart
set_option maxRecDepth 20000 in
theorem ggX8_join_X8_add : GoodIn wsX8_join wsX8_add := goodIn_r _ [16, 17, 1, 18, 19, 20, 12, 21, 22, 23, 24, 25, 26, 27, 28, 29, 30, 31, 32, 33, 34, 35, 36, 37, 38, 39, 40, 41, 42, 43, 44, 45, 46, 47, 48, 49] (by decide +kernel) (by decide +kernel)
set_option maxRecDepth 20000 in
theorem gX8_join_X8_add : GoodIn wsX8_join (wsV RX8 79 RX8 yX8_add wsX8_add) := goodIn_app (goodIn_of _ (by decide +kernel)) ggX8_join_X8_add
set_option maxRecDepth 20000 in
theorem ggX8_knot_X8_isTerm : GoodIn wsX8_knot wsX8_isTerm := goodIn_r _ [8, 1, 22, 23, 24, 25, 26, 27, 28, 29, 30, 31, 32, 33, 34, 35, 36, 37, 38, 39, 40, 41, 42, 43, 44, 45, 46, 47, 48, 49] (by decide +kernel) (by decide +kernel)
set_option maxRecDepth 20000 in
theorem gX8_knot_X8_isTerm : GoodIn wsX8_knot (wsV RX8 83 RX8 yX8_isTerm wsX8_isTerm) := goodIn_app (goodIn_of _ (by decide +kernel)) ggX8_knot_X8_isTerm
set_option maxRecDepth 20000 in
theorem ggX8_knot_X8_isPart : GoodIn wsX8_knot wsX8_isPart := goodIn_r _ [12, 13, 22, 23, 24, 25, 26, 27, 28, 29, 30, 31, 32, 33, 34, 35, 36, 37, 38, 39, 40, 41, 42, 43, 44, 45, 46, 47, 48, 49] (by decide +kernel) (by decide +kernel)
set_option maxRecDepth 20000 in
theorem gX8_knot_X8_isPart : GoodIn wsX8_knot (wsV RX8 87 RX8 yX8_isPart wsX8_isPart) := goodIn_app (goodIn_of _ (by decide +kernel)) ggX8_knot_X8_isPart
set_option maxRecDepth 20000 in
theorem ggX8_knot_X8_add : GoodIn wsX8_knot wsX8_add := goodIn_r _ [17, 18, 1, 19, 20, 21, 13, 2, 22, 23, 24, 25, 26, 27, 28, 29, 30, 31, 32, 33, 34, 35, 36, 37, 38, 39, 40, 41, 42, 43, 44, 45, 46, 47, 48, 49] (by decide +kernel) (by decide +kernel)
set_option maxRecDepth 20000 in
theorem gX8_knot_X8_add : GoodIn wsX8_knot (wsV RX8 79 RX8 yX8_add wsX8_add) := goodIn_app (goodIn_of _ (by decide +kernel)) ggX8_knot_X8_add
set_option maxRecDepth 20000 in
theorem ggX8_typeAll_X8_gather : GoodIn wsX8_typeAll wsX8_gather := goodIn_r _ [7, 1, 8, 9, 10, 11, 2, 12, 13, 14, 21, 22, 23, 24, 25, 26, 27, 28, 29, 30, 31, 32, 33, 34, 35, 36, 37, 38, 39, 40, 41, 42, 43, 44, 45, 46, 47, 48] (by decide +kernel) (by decide +kernel)
set_option maxRecDepth 20000 in
theorem gX8_typeAll_X8_gather : GoodIn wsX8_typeAll (wsV RX8 90 RX8 yX8_gather wsX8_gather) := goodIn_app (goodIn_of _ (by decide +kernel)) ggX8_typeAll_X8_gather
set_option maxRecDepth 20000 in
theorem ggX8_typeAll_X8_grow : GoodIn wsX8_typeAll wsX8_grow := goodIn_r _ [18, 10, 11, 19, 20, 12, 13, 14, 8, 21, 22, 23, 24, 25, 26, 27, 28, 29, 30, 31, 32, 33, 34, 35, 36, 37, 38, 39, 40, 41, 42, 43, 44, 45, 46, 47, 48] (by decide +kernel) (by decide +kernel)
set_option maxRecDepth 20000 in
theorem gX8_typeAll_X8_grow : GoodIn wsX8_typeAll (wsV RX8 94 RX8 yX8_grow wsX8_grow) := goodIn_app (goodIn_of _ (by decide +kernel)) ggX8_typeAll_X8_grow
set_option maxRecDepth 20000 in
theorem ggX8_faultAt_X8_isGuarded : GoodIn wsX8_faultAt wsX8_isGuarded := goodIn_r _ [12, 4, 13, 3, 2, 14, 15, 16, 17, 18, 19, 20, 21, 22, 23, 24, 25, 26, 27, 28, 29, 30, 31, 32, 33, 34, 35, 36, 37, 38, 39, 40, 41] (by decide +kernel) (by decide +kernel)
set_option maxRecDepth 20000 in
theorem gX8_faultAt_X8_isGuarded : GoodIn wsX8_faultAt (wsV RX8 97 RX8 yX8_isGuarded wsX8_isGuarded) := goodIn_app (goodIn_of _ (by decide +kernel)) ggX8_faultAt_X8_isGuarded
set_option maxRecDepth 20000 in
theorem ggX8_faultOf_X8_typeAll : GoodIn wsX8_faultOf wsX8_typeAll := goodIn_r _ [7, 8, 9, 10, 11, 12, 6, 13, 14, 1, 15, 16, 17, 18, 19, 20, 21, 22, 23, 24, 2, 37, 38, 39, 40, 41, 42, 43, 44, 45, 46, 47, 48, 49, 50, 51, 52, 53, 54, 55, 56, 57, 58, 59, 60, 61, 62, 63, 64] (by decide +kernel) (by decide +kernel)
set_option maxRecDepth 20000 in
theorem gX8_faultOf_X8_typeAll : GoodIn wsX8_faultOf (wsV RX8 100 RX8 yX8_typeAll wsX8_typeAll) := goodIn_app (goodIn_of _ (by decide +kernel)) ggX8_faultOf_X8_typeAll
set_option maxRecDepth 20000 in
theorem ggX8_faultOf_X8_leftmost : GoodIn wsX8_faultOf wsX8_leftmost := goodIn_r _ [28, 24, 37, 38, 39, 40, 41, 42, 43, 44, 45, 46, 47, 48, 49, 50, 51, 52, 53, 54, 55, 56, 57, 58, 59, 60, 61, 62, 63, 64] (by decide +kernel) (by decide +kernel)
set_option maxRecDepth 20000 in
theorem gX8_faultOf_X8_leftmost : GoodIn wsX8_faultOf (wsV RX8 103 RX8 yX8_leftmost wsX8_leftmost) := goodIn_app (goodIn_of _ (by decide +kernel)) ggX8_faultOf_X8_leftmost
set_option maxRecDepth 20000 in
theorem ggX8_faultOf_X8_faultAt : GoodIn wsX8_faultOf wsX8_faultAt := goodIn_r _ [32, 24, 2, 15, 14, 17, 19, 18, 33, 34, 35, 6, 36, 1, 37, 38, 39, 40, 41, 42, 43, 44, 45, 46, 47, 48, 49, 50, 51, 52, 53, 54, 55, 56, 57, 58, 59, 60, 61, 62, 63, 64] (by decide +kernel) (by decide +kernel)
set_option maxRecDepth 20000 in
theorem gX8_faultOf_X8_faultAt : GoodIn wsX8_faultOf (wsV RX8 107 RX8 yX8_faultAt wsX8_faultAt) := goodIn_app (goodIn_of _ (by decide +kernel)) ggX8_faultOf_X8_faultAt
set_option maxRecDepth 20000 in
theorem ggX8_fault_X8_isTerm : GoodIn wsX8_fault wsX8_isTerm := goodIn_r _ [6, 7, 46, 47, 48, 49, 50, 51, 52, 53, 54, 55, 56, 57, 58, 59, 60, 61, 62, 63, 64, 65, 66, 67, 68, 69, 70, 71, 72, 73] (by decide +kernel) (by decide +kernel)
set_option maxRecDepth 20000 in
theorem gX8_fault_X8_isTerm : GoodIn wsX8_fault (wsV RX8 83 RX8 yX8_isTerm wsX8_isTerm) := goodIn_app (goodIn_of _ (by decide +kernel)) ggX8_fault_X8_isTerm
set_option maxRecDepth 20000 in
theorem ggX8_fault_X8_faultOf : GoodIn wsX8_fault wsX8_faultOf := goodIn_r _ [11, 12, 13, 14, 15, 16, 5, 17, 7, 18, 19, 20, 21, 22, 23, 24, 25, 26, 27, 28, 29, 30, 31, 32, 33, 34, 35, 36, 37, 38, 39, 40, 41, 42, 43, 44, 45, 46, 47, 48, 49, 50, 51, 52, 53, 54, 55, 56, 57, 58, 59, 60, 61, 62, 63, 64, 65, 66, 67, 68, 69, 70, 71, 72, 73] (by decide +kernel) (by decide +kernel)
set_option maxRecDepth 20000 in
theorem gX8_fault_X8_faultOf : GoodIn wsX8_fault (wsV RX8 110 RX8 yX8_faultOf wsX8_faultOf) := goodIn_app (goodIn_of _ (by decide +kernel)) ggX8_fault_X8_faultOf
set_option maxRecDepth 20000 in
theorem ggX8_type_X8_isTerm : GoodIn wsX8_type wsX8_isTerm := goodIn_r _ [9, 10, 46, 47, 48, 49, 50, 51, 52, 53, 54, 55, 56, 57, 58, 59, 60, 61, 62, 63, 64, 65, 66, 67, 68, 69, 70, 71, 72, 73] (by decide +kernel) (by decide +kernel)
set_option maxRecDepth 20000 in
theorem gX8_type_X8_isTerm : GoodIn wsX8_type (wsV RX8 83 RX8 yX8_isTerm wsX8_isTerm) := goodIn_app (goodIn_of _ (by decide +kernel)) ggX8_type_X8_isTerm
set_option maxRecDepth 20000 in
theorem ggX8_type_X8_faultOf : GoodIn wsX8_type wsX8_faultOf := goodIn_r _ [14, 15, 16, 17, 18, 19, 8, 20, 10, 21, 22, 23, 24, 25, 26, 27, 28, 4, 2, 3, 29, 30, 31, 32, 33, 34, 35, 36, 37, 38, 39, 40, 41, 42, 43, 44, 45, 46, 47, 48, 49, 50, 51, 52, 53, 54, 55, 56, 57, 58, 59, 60, 61, 62, 63, 64, 65, 66, 67, 68, 69, 70, 71, 72, 73] (by decide +kernel) (by decide +kernel)
set_option maxRecDepth 20000 in
theorem gX8_type_X8_faultOf : GoodIn wsX8_type (wsV RX8 110 RX8 yX8_faultOf wsX8_faultOf) := goodIn_app (goodIn_of _ (by decide +kernel)) ggX8_type_X8_faultOf
set_option maxRecDepth 20000 in
theorem ggX8_go_X8_choice : GoodIn wsX8_go wsX8_choice := goodIn_r _ [15, 7, 6, 16, 17, 18, 19, 20, 21, 22, 23, 24, 25, 26, 27, 28, 29, 30, 31, 32, 33, 34, 35, 36, 37, 38, 39, 40, 41, 42, 43, 44, 45] (by decide +kernel) (by decide +kernel)
set_option maxRecDepth 20000 in
theorem gX8_go_X8_choice : GoodIn wsX8_go (wsV RX8 122 RX8 yX8_choice wsX8_choice) := goodIn_app (goodIn_of _ (by decide +kernel)) ggX8_go_X8_choice
set_option maxRecDepth 20000 in
theorem ggX8_read_X8_isTerm : GoodIn wsX8_read wsX8_isTerm := goodIn_r _ [14, 15, 72, 73, 74, 75, 76, 77, 78, 79, 80, 81, 82, 83, 84, 85, 86, 87, 88, 89, 90, 91, 92, 93, 94, 95, 96, 97, 98, 99] (by decide +kernel) (by decide +kernel)
set_option maxRecDepth 20000 in
theorem gX8_read_X8_isTerm : GoodIn wsX8_read (wsV RX8 83 RX8 yX8_isTerm wsX8_isTerm) := goodIn_app (goodIn_of _ (by decide +kernel)) ggX8_read_X8_isTerm
set_option maxRecDepth 20000 in
theorem ggX8_read_X8_faultOf : GoodIn wsX8_read wsX8_faultOf := goodIn_r _ [19, 20, 21, 22, 23, 24, 13, 25, 15, 26, 27, 28, 29, 30, 31, 32, 33, 34, 35, 36, 37, 38, 39, 40, 41, 42, 43, 44, 45, 46, 47, 48, 49, 50, 51, 52, 53, 72, 73, 74, 75, 76, 77, 78, 79, 80, 81, 82, 83, 84, 85, 86, 87, 88, 89, 90, 91, 92, 93, 94, 95, 96, 97, 98, 99] (by decide +kernel) (by decide +kernel)
set_option maxRecDepth 20000 in
theorem gX8_read_X8_faultOf : GoodIn wsX8_read (wsV RX8 110 RX8 yX8_faultOf wsX8_faultOf) := goodIn_app (goodIn_of _ (by decide +kernel)) ggX8_read_X8_faultOf
set_option maxRecDepth 20000 in
theorem ggX8_read_X8_beginAt : GoodIn wsX8_read wsX8_beginAt := goodIn_r _ [57, 58, 59, 9, 5, 72, 73, 74, 75, 76, 77, 78, 79, 80, 81, 82, 83, 84, 85, 86, 87, 88, 89, 90, 91, 92, 93, 94, 95, 96, 97, 98, 99] (by decide +kernel) (by decide +kernel)
set_option maxRecDepth 20000 in
theorem gX8_read_X8_beginAt : GoodIn wsX8_read (wsV RX8 129 RX8 yX8_beginAt wsX8_beginAt) := goodIn_app (goodIn_of _ (by decide +kernel)) ggX8_read_X8_beginAt
set_option maxRecDepth 20000 in
theorem ggX8_read_X8_go : GoodIn wsX8_read wsX8_go := goodIn_r _ [63, 59, 58, 9, 32, 33, 21, 41, 31, 8, 5, 64, 65, 66, 13, 67, 35, 34, 72, 73, 74, 75, 76, 77, 78, 79, 80, 81, 82, 83, 84, 85, 86, 87, 88, 89, 90, 91, 92, 93, 94, 95, 96, 97, 98, 99] (by decide +kernel) (by decide +kernel)
set_option maxRecDepth 20000 in
theorem gX8_read_X8_go : GoodIn wsX8_read (wsV RX8 132 RX8 yX8_go wsX8_go) := goodIn_app (goodIn_of _ (by decide +kernel)) ggX8_read_X8_go
set_option maxRecDepth 20000 in
theorem ggX8_read_X8_fail : GoodIn wsX8_read wsX8_fail := goodIn_r _ [71, 1, 72, 73, 74, 75, 76, 77, 78, 79, 80, 81, 82, 83, 84, 85, 86, 87, 88, 89, 90, 91, 92, 93, 94, 95, 96, 97, 98, 99] (by decide +kernel) (by decide +kernel)
set_option maxRecDepth 20000 in
theorem gX8_read_X8_fail : GoodIn wsX8_read (wsV RX8 135 RX8 yX8_fail wsX8_fail) := goodIn_app (goodIn_of _ (by decide +kernel)) ggX8_read_X8_fail
set_option maxRecDepth 20000 in
theorem ggX8_countAll_X8_countAt : GoodIn wsX8_countAll wsX8_countAt := goodIn_r _ [10, 11, 12, 4, 2, 13, 14, 15, 16, 17, 18, 19, 20, 21, 22, 23, 24, 25, 26, 27, 28, 29, 30, 31, 32, 33, 34, 35, 36, 37, 38, 39, 40] (by decide +kernel) (by decide +kernel)
set_option maxRecDepth 20000 in
theorem gX8_countAll_X8_countAt : GoodIn wsX8_countAll (wsV RX8 141 RX8 yX8_countAt wsX8_countAt) := goodIn_app (goodIn_of _ (by decide +kernel)) ggX8_countAll_X8_countAt
set_option maxRecDepth 20000 in
theorem ggX8_wrongCount_X8_isTerm : GoodIn wsX8_wrongCount wsX8_isTerm := goodIn_r _ [5, 6, 45, 46, 47, 48, 49, 50, 51, 52, 53, 54, 55, 56, 57, 58, 59, 60, 61, 62, 63, 64, 65, 66, 67, 68, 69, 70, 71, 72] (by decide +kernel) (by decide +kernel)
set_option maxRecDepth 20000 in
theorem gX8_wrongCount_X8_isTerm : GoodIn wsX8_wrongCount (wsV RX8 83 RX8 yX8_isTerm wsX8_isTerm) := goodIn_app (goodIn_of _ (by decide +kernel)) ggX8_wrongCount_X8_isTerm
set_option maxRecDepth 20000 in
theorem ggX8_wrongCount_X8_faultOf : GoodIn wsX8_wrongCount wsX8_faultOf := goodIn_r _ [10, 11, 12, 13, 14, 15, 4, 16, 6, 17, 18, 19, 20, 21, 22, 23, 24, 25, 26, 27, 28, 29, 30, 31, 32, 33, 34, 35, 36, 37, 38, 39, 40, 41, 42, 43, 44, 45, 46, 47, 48, 49, 50, 51, 52, 53, 54, 55, 56, 57, 58, 59, 60, 61, 62, 63, 64, 65, 66, 67, 68, 69, 70, 71, 72] (by decide +kernel) (by decide +kernel)
set_option maxRecDepth 20000 in
theorem gX8_wrongCount_X8_faultOf : GoodIn wsX8_wrongCount (wsV RX8 110 RX8 yX8_faultOf wsX8_faultOf) := goodIn_app (goodIn_of _ (by decide +kernel)) ggX8_wrongCount_X8_faultOf
set_option maxRecDepth 20000 in
theorem ggX8_count_X8_wrongCount : GoodIn wsX8_count wsX8_wrongCount := goodIn_r _ [7, 8, 9, 10, 6, 11, 12, 13, 14, 15, 16, 17, 18, 19, 20, 21, 22, 23, 24, 25, 26, 27, 28, 29, 30, 31, 32, 33, 34, 35, 36, 37, 38, 39, 40, 41, 42, 43, 44, 45, 46, 47, 48, 49, 50, 59, 60, 61, 62, 63, 64, 65, 66, 67, 68, 69, 70, 71, 72, 73, 74, 75, 76, 77, 78, 79, 80, 81, 82, 83, 84, 85, 86] (by decide +kernel) (by decide +kernel)
set_option maxRecDepth 20000 in
theorem gX8_count_X8_wrongCount : GoodIn wsX8_count (wsV RX8 145 RX8 yX8_wrongCount wsX8_wrongCount) := goodIn_app (goodIn_of _ (by decide +kernel)) ggX8_count_X8_wrongCount
set_option maxRecDepth 20000 in
theorem ggX8_count_X8_countAll : GoodIn wsX8_count wsX8_countAll := goodIn_r _ [54, 12, 2, 23, 29, 28, 55, 56, 57, 6, 58, 38, 18, 59, 60, 61, 62, 63, 64, 65, 66, 67, 68, 69, 70, 71, 72, 73, 74, 75, 76, 77, 78, 79, 80, 81, 82, 83, 84, 85, 86] (by decide +kernel) (by decide +kernel)
set_option maxRecDepth 20000 in
theorem gX8_count_X8_countAll : GoodIn wsX8_count (wsV RX8 148 RX8 yX8_countAll wsX8_countAll) := goodIn_app (goodIn_of _ (by decide +kernel)) ggX8_count_X8_countAll
set_option maxRecDepth 20000 in
theorem ggX8_find_X8_wrongCount : GoodIn wsX8_find wsX8_wrongCount := goodIn_r _ [10, 11, 12, 13, 9, 14, 15, 16, 17, 18, 19, 20, 21, 22, 23, 24, 25, 26, 27, 28, 29, 30, 31, 32, 33, 34, 35, 36, 37, 38, 39, 40, 41, 42, 43, 44, 45, 46, 47, 48, 49, 50, 51, 52, 53, 94, 95, 96, 97, 98, 99, 100, 101, 102, 103, 104, 105, 106, 107, 108, 109, 110, 111, 112, 113, 114, 115, 116, 117, 118, 119, 120, 121] (by decide +kernel) (by decide +kernel)
set_option maxRecDepth 20000 in
theorem gX8_find_X8_wrongCount : GoodIn wsX8_find (wsV RX8 145 RX8 yX8_wrongCount wsX8_wrongCount) := goodIn_app (goodIn_of _ (by decide +kernel)) ggX8_find_X8_wrongCount
set_option maxRecDepth 20000 in
theorem ggX8_find_X8_countAll : GoodIn wsX8_find wsX8_countAll := goodIn_r _ [57, 15, 2, 26, 32, 31, 58, 59, 60, 9, 61, 41, 21, 94, 95, 96, 97, 98, 99, 100, 101, 102, 103, 104, 105, 106, 107, 108, 109, 110, 111, 112, 113, 114, 115, 116, 117, 118, 119, 120, 121] (by decide +kernel) (by decide +kernel)
set_option maxRecDepth 20000 in
theorem gX8_find_X8_countAll : GoodIn wsX8_find (wsV RX8 148 RX8 yX8_countAll wsX8_countAll) := goodIn_app (goodIn_of _ (by decide +kernel)) ggX8_find_X8_countAll
set_option maxRecDepth 20000 in
theorem ggX8_find_X8_beginAt : GoodIn wsX8_find wsX8_beginAt := goodIn_r _ [65, 66, 67, 68, 4, 94, 95, 96, 97, 98, 99, 100, 101, 102, 103, 104, 105, 106, 107, 108, 109, 110, 111, 112, 113, 114, 115, 116, 117, 118, 119, 120, 121] (by decide +kernel) (by decide +kernel)
set_option maxRecDepth 20000 in
theorem gX8_find_X8_beginAt : GoodIn wsX8_find (wsV RX8 129 RX8 yX8_beginAt wsX8_beginAt) := goodIn_app (goodIn_of _ (by decide +kernel)) ggX8_find_X8_beginAt
set_option maxRecDepth 20000 in
theorem ggX8_find_X8_keep : GoodIn wsX8_find wsX8_keep := goodIn_r _ [72, 67, 73, 74, 66, 94, 95, 96, 97, 98, 99, 100, 101, 102, 103, 104, 105, 106, 107, 108, 109, 110, 111, 112, 113, 114, 115, 116, 117, 118, 119, 120, 121] (by decide +kernel) (by decide +kernel)
set_option maxRecDepth 20000 in
theorem gX8_find_X8_keep : GoodIn wsX8_find (wsV RX8 154 RX8 yX8_keep wsX8_keep) := goodIn_app (goodIn_of _ (by decide +kernel)) ggX8_find_X8_keep
set_option maxRecDepth 20000 in
theorem ggX8_find_X8_go : GoodIn wsX8_find wsX8_go := goodIn_r _ [78, 67, 66, 68, 32, 33, 21, 41, 31, 79, 4, 80, 81, 82, 9, 83, 35, 34, 94, 95, 96, 97, 98, 99, 100, 101, 102, 103, 104, 105, 106, 107, 108, 109, 110, 111, 112, 113, 114, 115, 116, 117, 118, 119, 120, 121] (by decide +kernel) (by decide +kernel)
set_option maxRecDepth 20000 in
theorem gX8_find_X8_go : GoodIn wsX8_find (wsV RX8 132 RX8 yX8_go wsX8_go) := goodIn_app (goodIn_of _ (by decide +kernel)) ggX8_find_X8_go
set_option maxRecDepth 20000 in
theorem ggX8_find_X8_countOpen : GoodIn wsX8_find wsX8_countOpen := goodIn_r _ [87, 88, 67, 89, 2, 66, 94, 95, 96, 97, 98, 99, 100, 101, 102, 103, 104, 105, 106, 107, 108, 109, 110, 111, 112, 113, 114, 115, 116, 117, 118, 119, 120, 121] (by decide +kernel) (by decide +kernel)
set_option maxRecDepth 20000 in
theorem gX8_find_X8_countOpen : GoodIn wsX8_find (wsV RX8 157 RX8 yX8_countOpen wsX8_countOpen) := goodIn_app (goodIn_of _ (by decide +kernel)) ggX8_find_X8_countOpen
set_option maxRecDepth 20000 in
theorem ggX8_find_X8_back : GoodIn wsX8_find wsX8_back := goodIn_r _ [93, 4, 73, 67, 66, 74, 94, 95, 96, 97, 98, 99, 100, 101, 102, 103, 104, 105, 106, 107, 108, 109, 110, 111, 112, 113, 114, 115, 116, 117, 118, 119, 120, 121] (by decide +kernel) (by decide +kernel)
set_option maxRecDepth 20000 in
theorem gX8_find_X8_back : GoodIn wsX8_find (wsV RX8 161 RX8 yX8_back wsX8_back) := goodIn_app (goodIn_of _ (by decide +kernel)) ggX8_find_X8_back
set_option maxRecDepth 20000 in
theorem ggL_leaf_X7_leaf : GoodIn wsL_leaf wsX7_leaf := goodIn_ca (goodIn_ca (goodIn_r _ [7, 8, 9, 10, 11, 12, 13, 6, 14, 15, 16, 17, 18, 19, 20, 21, 22, 23, 24, 25, 26, 27, 28, 29, 30, 31, 32, 33, 34, 35, 36, 37, 38, 39, 40, 41, 42, 43, 44, 45, 46, 47, 48, 49, 50, 51, 52, 53, 54, 55, 56, 57, 58] (by decide +kernel) (by decide +kernel)) (goodIn_sub (fun _ h => List.mem_cons_of_mem _ (List.mem_append_left _ (List.mem_append_right _ h))) (by decide +kernel))) (goodIn_sub (fun _ h => List.mem_cons_of_mem _ (List.mem_append_right _ h)) (by decide +kernel))
set_option maxRecDepth 20000 in
theorem gL_leaf_X7_leaf : GoodIn wsL_leaf (wsV RL 7 RX7 yX7_leaf wsX7_leaf) := goodIn_app (goodIn_of _ (by decide +kernel)) ggL_leaf_X7_leaf
set_option maxRecDepth 20000 in
theorem ggL_variable_X7_variable : GoodIn wsL_variable wsX7_variable := goodIn_ca (goodIn_ca (goodIn_r _ [7, 8, 9, 10, 11, 6, 12, 13, 14, 15, 16, 17, 18, 19, 20, 21, 22, 23, 24, 25, 26, 27, 28, 29, 30, 31, 32, 33, 34, 35, 36, 37, 38, 39, 40, 41, 42, 43, 44, 45, 46, 47, 48, 49, 50, 51, 52, 53, 54, 55, 56, 57, 58, 59, 60, 61, 62] (by decide +kernel) (by decide +kernel)) (goodIn_sub (fun _ h => List.mem_cons_of_mem _ (List.mem_append_left _ (List.mem_append_right _ h))) (by decide +kernel))) (goodIn_sub (fun _ h => List.mem_cons_of_mem _ (List.mem_append_right _ h)) (by decide +kernel))
set_option maxRecDepth 20000 in
theorem gL_variable_X7_variable : GoodIn wsL_variable (wsV RL 17 RX7 yX7_variable wsX7_variable) := goodIn_app (goodIn_of _ (by decide +kernel)) ggL_variable_X7_variable
set_option maxRecDepth 20000 in
theorem ggL_join_X7_join : GoodIn wsL_join wsX7_join := goodIn_ca (goodIn_ca (goodIn_ca (goodIn_r _ [8, 9, 10, 11, 12, 13, 14, 7, 15, 16, 17, 18, 19, 20, 21, 22, 23, 24, 25, 26, 27, 28, 29, 30, 31, 32, 33, 34, 35, 36, 37, 38, 39, 40, 41, 42, 43, 44, 45, 46, 47, 48, 49, 50, 51, 52, 53, 54, 55, 56, 57, 58, 59, 60, 61, 62, 63, 64, 65, 66, 67, 68, 69, 70, 71, 72, 73] (by decide +kernel) (by decide +kernel)) (goodIn_sub (fun _ h => List.mem_cons_of_mem _ (List.mem_append_left _ (List.mem_append_left _ (List.mem_append_right _ h)))) (by decide +kernel))) (goodIn_sub (fun _ h => List.mem_cons_of_mem _ (List.mem_append_left _ (List.mem_append_right _ h))) (by decide +kernel))) (goodIn_sub (fun _ h => List.mem_cons_of_mem _ (List.mem_append_right _ h)) (by decide +kernel))
set_option maxRecDepth 20000 in
theorem gL_join_X7_join : GoodIn wsL_join (wsV RL 20 RX7 yX7_join wsX7_join) := goodIn_app (goodIn_of _ (by decide +kernel)) ggL_join_X7_join
set_option maxRecDepth 20000 in
theorem ggL_knot_X7_knot : GoodIn wsL_knot wsX7_knot := goodIn_ca (goodIn_ca (goodIn_ca (goodIn_ca (goodIn_r _ [9, 10, 11, 12, 13, 14, 15, 16, 17, 8, 18, 19, 20, 21, 22, 23, 24, 25, 26, 27, 28, 29, 30, 31, 32, 33, 34, 35, 36, 37, 38, 39, 40, 41, 42, 43, 44, 45, 46, 47, 48, 49, 50, 51, 52, 53, 54, 55, 56, 57, 58, 59, 60, 61, 62, 63, 64, 65, 66, 67, 68, 69, 70, 71, 72, 73, 74, 75, 76, 77, 78, 79, 80, 81] (by decide +kernel) (by decide +kernel)) (goodIn_sub (fun _ h => List.mem_cons_of_mem _ (List.mem_append_left _ (List.mem_append_left _ (List.mem_append_left _ (List.mem_append_right _ h))))) (by decide +kernel))) (goodIn_sub (fun _ h => List.mem_cons_of_mem _ (List.mem_append_left _ (List.mem_append_left _ (List.mem_append_right _ h)))) (by decide +kernel))) (goodIn_sub (fun _ h => List.mem_cons_of_mem _ (List.mem_append_left _ (List.mem_append_right _ h))) (by decide +kernel))) (goodIn_sub (fun _ h => List.mem_cons_of_mem _ (List.mem_append_right _ h)) (by decide +kernel))
set_option maxRecDepth 20000 in
theorem gL_knot_X7_knot : GoodIn wsL_knot (wsV RL 28 RX7 yX7_knot wsX7_knot) := goodIn_app (goodIn_of _ (by decide +kernel)) ggL_knot_X7_knot
set_option maxRecDepth 20000 in
theorem ggL_fault_X7_fault : GoodIn wsL_fault wsX7_fault := goodIn_ca (goodIn_r _ [6, 7, 8, 9, 10, 5, 11, 12, 13, 14, 15, 16, 17, 18, 19, 20, 21, 22, 23, 24, 25, 26, 27, 28, 29, 30, 31, 32, 33, 34, 35, 36, 37, 38, 39, 40, 41, 42, 43, 44, 45, 46, 47, 48, 49, 50, 51, 52, 53, 54, 55, 56, 57, 58, 59, 60, 61, 62, 63, 64, 65, 66, 67, 68, 69, 70, 71, 72, 73, 74, 75, 76, 77, 78, 79, 80, 81, 82, 83, 84, 85, 86, 87, 88, 89, 90, 91, 92, 93, 94, 95, 96, 97, 98, 99, 100, 101, 102, 103, 104, 105, 106, 107, 108, 109, 110, 111, 112, 113, 114, 115, 116, 117, 118, 119, 120, 121, 122, 123, 124, 125, 126] (by decide +kernel) (by decide +kernel)) (goodIn_sub (fun _ h => List.mem_cons_of_mem _ (List.mem_append_right _ h)) (by decide +kernel))
set_option maxRecDepth 20000 in
theorem gL_fault_X7_fault : GoodIn wsL_fault (wsV RL 32 RX7 yX7_fault wsX7_fault) := goodIn_app (goodIn_of _ (by decide +kernel)) ggL_fault_X7_fault
set_option maxRecDepth 20000 in
theorem ggL_type_X7_type : GoodIn wsL_type wsX7_type := goodIn_ca (goodIn_ca (goodIn_r _ [7, 8, 9, 10, 11, 12, 13, 6, 14, 15, 16, 17, 18, 19, 20, 21, 22, 23, 24, 25, 26, 27, 28, 29, 30, 31, 32, 33, 34, 35, 36, 37, 38, 39, 40, 41, 42, 43, 44, 45, 46, 47, 48, 49, 50, 51, 52, 53, 54, 55, 56, 57, 58, 59, 60, 61, 62, 63, 64, 65, 66, 67, 68, 69, 70, 71, 72, 73, 74, 75, 76, 77, 78, 79, 80, 81, 82, 83, 84, 85, 86, 87, 88, 89, 90, 91, 92, 93, 94, 95, 96, 97, 98, 99, 100, 101, 102, 103, 104, 105, 106, 107, 108, 109, 110, 111, 112, 113, 114, 115, 116, 117, 118, 119, 120, 121, 122, 123, 124, 125, 126, 127, 128, 129, 130, 131, 132, 133, 134, 135, 136, 137, 138, 139, 140, 141, 142, 143, 144, 145] (by decide +kernel) (by decide +kernel)) (goodIn_sub (fun _ h => List.mem_cons_of_mem _ (List.mem_append_left _ (List.mem_append_right _ h))) (by decide +kernel))) (goodIn_sub (fun _ h => List.mem_cons_of_mem _ (List.mem_append_right _ h)) (by decide +kernel))
set_option maxRecDepth 20000 in
theorem gL_type_X7_type : GoodIn wsL_type (wsV RL 35 RX7 yX7_type wsX7_type) := goodIn_app (goodIn_of _ (by decide +kernel)) ggL_type_X7_type
set_option maxRecDepth 20000 in
theorem ggL_letter_X7_letter : GoodIn wsL_letter wsX7_letter := goodIn_ca (goodIn_r _ [6, 7, 8, 9, 10, 11, 12, 13, 14, 15, 16, 17, 18, 19, 20, 21, 22, 23, 24, 25, 26, 27, 28, 29] (by decide +kernel) (by decide +kernel)) (goodIn_sub (fun _ h => List.mem_cons_of_mem _ (List.mem_append_right _ h)) (by decide +kernel))
set_option maxRecDepth 20000 in
theorem gL_letter_X7_letter : GoodIn wsL_letter (wsV RL 38 RX7 yX7_letter wsX7_letter) := goodIn_app (goodIn_of _ (by decide +kernel)) ggL_letter_X7_letter
set_option maxRecDepth 20000 in
theorem ggL_read_X7_read : GoodIn wsL_read wsX7_read := goodIn_ca (goodIn_ca (goodIn_ca (goodIn_r _ [8, 9, 10, 11, 12, 13, 14, 15, 16, 7, 17, 18, 19, 20, 21, 22, 23, 24, 25, 26, 27, 28, 29, 30, 31, 32, 33, 34, 35, 36, 37, 38, 39, 40, 41, 42, 43, 44, 45, 46, 47, 48, 49, 50, 51, 52, 53, 54, 55, 56, 57, 58, 59, 60, 61, 62, 63, 64, 65, 66, 67, 68, 69, 70, 71, 72, 73, 74, 75, 76, 77, 78, 79, 80, 81, 82, 83, 84, 85, 86, 87, 88, 89, 90, 91, 92, 93, 94, 95, 96, 97, 98, 99, 100, 101, 102, 103, 104, 105, 106, 107, 108, 109, 110, 111, 112, 113, 114, 115, 116, 117, 118, 119, 120, 121, 122, 123, 124, 125, 126, 127, 128, 129, 130, 131, 132, 133, 134, 135, 136, 137, 138, 139, 140, 141, 142, 143, 144, 145, 146, 147, 148, 149, 150, 151, 152, 153, 154, 155, 156, 157, 158, 159, 160, 161, 162, 163, 164, 165, 166, 167, 168, 169, 170, 171, 172, 173, 174, 175, 176, 177, 178, 179, 180, 181, 182, 183, 184, 185, 186, 187, 188, 189, 190, 191, 192, 193, 194, 195, 196, 197, 198, 199, 200, 201, 202, 203, 204, 205, 206, 207, 208, 209, 210, 211, 212, 213, 214, 215, 216, 217, 218, 219, 220, 221, 222, 223, 224, 225, 226, 227, 228] (by decide +kernel) (by decide +kernel)) (goodIn_sub (fun _ h => List.mem_cons_of_mem _ (List.mem_append_left _ (List.mem_append_left _ (List.mem_append_right _ h)))) (by decide +kernel))) (goodIn_sub (fun _ h => List.mem_cons_of_mem _ (List.mem_append_left _ (List.mem_append_right _ h))) (by decide +kernel))) (goodIn_sub (fun _ h => List.mem_cons_of_mem _ (List.mem_append_right _ h)) (by decide +kernel))
set_option maxRecDepth 20000 in
theorem gL_read_X7_read : GoodIn wsL_read (wsV RL 41 RX7 yX7_read wsX7_read) := goodIn_app (goodIn_of _ (by decide +kernel)) ggL_read_X7_read
set_option maxRecDepth 20000 in
theorem ggL_step_X7_step : GoodIn wsL_step wsX7_step := goodIn_ca (goodIn_r _ [6, 7, 8, 9, 10, 11, 12, 13, 14, 15, 16, 17, 18, 19, 20, 21, 22, 23, 24, 25, 26, 27, 28, 29, 30, 31, 32, 33, 34, 35, 36, 37, 38, 39, 40, 41, 42, 43] (by decide +kernel) (by decide +kernel)) (goodIn_sub (fun _ h => List.mem_cons_of_mem _ (List.mem_append_right _ h)) (by decide +kernel))
set_option maxRecDepth 20000 in
theorem gL_step_X7_step : GoodIn wsL_step (wsV RL 44 RX7 yX7_step wsX7_step) := goodIn_app (goodIn_of _ (by decide +kernel)) ggL_step_X7_step
set_option maxRecDepth 20000 in
theorem ggL_count_X7_count : GoodIn wsL_count wsX7_count := goodIn_ca (goodIn_ca (goodIn_ca (goodIn_r _ [8, 9, 10, 11, 12, 7, 13, 14, 15, 16, 17, 18, 19, 20, 21, 22, 23, 24, 25, 26, 27, 28, 29, 30, 31, 32, 33, 34, 35, 36, 37, 38, 39, 40, 41, 42, 43, 44, 45, 46, 47, 48, 49, 50, 51, 52, 53, 54, 55, 56, 57, 58, 59, 60, 61, 62, 63, 64, 65, 66, 67, 68, 69, 70, 71, 72, 73, 74, 75, 76, 77, 78, 79, 80, 81, 82, 83, 84, 85, 86, 87, 88, 89, 90, 91, 92, 93, 94, 95, 96, 97, 98, 99, 100, 101, 102, 103, 104, 105, 106, 107, 108, 109, 110, 111, 112, 113, 114, 115, 116, 117, 118, 119, 120, 121, 122, 123, 124, 125, 126, 127, 128, 129, 130, 131, 132, 133, 134, 135, 136, 137, 138, 139, 140, 141, 142, 143, 144, 145, 146, 147, 148, 149, 150, 151, 152, 153, 154, 155, 156, 157, 158, 159, 160, 161, 162, 163, 164, 165, 166, 167, 168, 169, 170, 171, 172, 173, 174, 175, 176, 177, 178, 179, 180, 181, 182, 183] (by decide +kernel) (by decide +kernel)) (goodIn_sub (fun _ h => List.mem_cons_of_mem _ (List.mem_append_left _ (List.mem_append_left _ (List.mem_append_right _ h)))) (by decide +kernel))) (goodIn_sub (fun _ h => List.mem_cons_of_mem _ (List.mem_append_left _ (List.mem_append_right _ h))) (by decide +kernel))) (goodIn_sub (fun _ h => List.mem_cons_of_mem _ (List.mem_append_right _ h)) (by decide +kernel))
set_option maxRecDepth 20000 in
theorem gL_count_X7_count : GoodIn wsL_count (wsV RL 47 RX7 yX7_count wsX7_count) := goodIn_app (goodIn_of _ (by decide +kernel)) ggL_count_X7_count
set_option maxRecDepth 20000 in
theorem ggL_find_X7_find : GoodIn wsL_find wsX7_find := goodIn_ca (goodIn_ca (goodIn_ca (goodIn_ca (goodIn_r _ [9, 10, 11, 12, 13, 14, 15, 16, 17, 8, 18, 19, 20, 21, 22, 23, 24, 25, 26, 27, 28, 29, 30, 31, 32, 33, 34, 35, 36, 37, 38, 39, 40, 41, 42, 43, 44, 45, 46, 47, 48, 49, 50, 51, 52, 53, 54, 55, 56, 57, 58, 59, 60, 61, 62, 63, 64, 65, 66, 67, 68, 69, 70, 71, 72, 73, 74, 75, 76, 77, 78, 79, 80, 81, 82, 83, 84, 85, 86, 87, 88, 89, 90, 91, 92, 93, 94, 95, 96, 97, 98, 99, 100, 101, 102, 103, 104, 105, 106, 107, 108, 109, 110, 111, 112, 113, 114, 115, 116, 117, 118, 119, 120, 121, 122, 123, 124, 125, 126, 127, 128, 129, 130, 131, 132, 133, 134, 135, 136, 137, 138, 139, 140, 141, 142, 143, 144, 145, 146, 147, 148, 149, 150, 151, 152, 153, 154, 155, 156, 157, 158, 159, 160, 161, 162, 163, 164, 165, 166, 167, 168, 169, 170, 171, 172, 173, 174, 175, 176, 177, 178, 179, 180, 181, 182, 183, 184, 185, 186, 187, 188, 189, 190, 191, 192, 193, 194, 195, 196, 197, 198, 199, 200, 201, 202, 203, 204, 205, 206, 207, 208, 209, 210, 211, 212, 213, 214, 215, 216, 217, 218, 219, 220, 221, 222, 223, 224, 225, 226, 227, 228, 229, 230, 231, 232, 233, 234, 235, 236, 237, 238, 239, 240, 241, 242, 243, 244, 245, 246, 247, 248, 249, 250, 251, 252, 253, 254, 255, 256, 257, 258, 259, 260, 261, 262, 263, 264, 265, 266, 267, 268, 269, 270, 271, 272, 273, 274, 275, 276, 277, 278, 279, 280] (by decide +kernel) (by decide +kernel)) (goodIn_sub (fun _ h => List.mem_cons_of_mem _ (List.mem_append_left _ (List.mem_append_left _ (List.mem_append_left _ (List.mem_append_right _ h))))) (by decide +kernel))) (goodIn_sub (fun _ h => List.mem_cons_of_mem _ (List.mem_append_left _ (List.mem_append_left _ (List.mem_append_right _ h)))) (by decide +kernel))) (goodIn_sub (fun _ h => List.mem_cons_of_mem _ (List.mem_append_left _ (List.mem_append_right _ h))) (by decide +kernel))) (goodIn_sub (fun _ h => List.mem_cons_of_mem _ (List.mem_append_right _ h)) (by decide +kernel))
set_option maxRecDepth 20000 in
theorem gL_find_X7_find : GoodIn wsL_find (wsV RL 51 RX7 yX7_find wsX7_find) := goodIn_app (goodIn_of _ (by decide +kernel)) ggL_find_X7_find
set_option maxRecDepth 20000 in
theorem ggL_law_X7_init : GoodIn wsL_law wsX7_init := goodIn_r _ [10, 11, 12, 13, 14, 15, 16, 17, 18, 19, 20, 21, 22, 23, 24, 25, 26, 27, 28, 29, 30, 31, 32, 33, 34, 35, 36, 37, 38, 39, 40, 41, 42, 43, 44, 45, 46, 47, 48, 49, 50, 51, 52, 53, 54, 55, 56, 57, 58, 59, 60, 61, 62, 63, 64, 65, 66, 67, 68, 69, 70, 71, 72, 73, 74, 75, 76, 77, 78, 79, 80, 81, 82, 83, 84, 85, 86, 6, 87, 88, 89, 90, 91, 92, 93, 94, 95, 96, 97, 98, 99, 100, 101, 102, 103, 104, 105, 106, 107, 108, 109, 764, 765, 766, 767, 768, 769, 770, 729, 730, 731, 732, 733, 734, 735, 771, 772, 773, 774, 775, 776, 777, 778, 779, 780, 781, 782, 783, 784, 785, 786, 787, 788, 789, 790, 791, 792, 793, 794, 795, 796, 797, 798, 799, 800, 801, 802, 803] (by decide +kernel) (by decide +kernel)
set_option maxRecDepth 20000 in
theorem gL_law_X7_init : GoodIn wsL_law (wsX7_init) := ggL_law_X7_init
set_option maxRecDepth 20000 in
theorem ggL_law_X8_init : GoodIn wsL_law wsX8_init := goodIn_r _ [112, 113, 12, 13, 42, 114, 115, 116, 117, 118, 119, 57, 120, 121, 122, 123, 124, 125, 126, 127, 128, 129, 130, 6, 131, 132, 133, 736, 737, 738, 739, 740, 741, 742, 743, 744, 745, 746, 747, 748, 749, 750, 751, 752, 753, 754, 755, 756, 757, 758, 759, 760, 761, 762, 763] (by decide +kernel) (by decide +kernel)
set_option maxRecDepth 20000 in
theorem gL_law_X8_init : GoodIn wsL_law (wsX8_init) := ggL_law_X8_init
set_option maxRecDepth 20000 in
theorem ggL_law_L_leaf : GoodIn wsL_law wsL_leaf := goodIn_ca (goodIn_ca (goodIn_r _ [137, 138, 139, 140, 141, 142, 2, 143, 144, 145, 17, 146, 147, 148, 149, 150, 151, 152, 153, 154, 16, 155, 49, 156, 157, 158, 159, 43, 44, 45, 46, 47, 48, 160, 161, 162, 163, 164, 165, 166, 167, 168, 169, 170, 171, 729, 730, 731, 732, 733, 734, 735, 764, 765, 766, 767, 768, 769, 770] (by decide +kernel) (by decide +kernel)) (goodIn_sub (fun _ h => List.mem_append_left _ (List.mem_append_left _ (List.mem_append_left _ (List.mem_append_left _ (List.mem_append_right _ h))))) (by decide +kernel))) (goodIn_sub (fun _ h => List.mem_append_left _ (List.mem_append_left _ (List.mem_append_left _ (List.mem_append_right _ h)))) (by decide +kernel))
set_option maxRecDepth 20000 in
theorem gL_law_L_leaf : GoodIn wsL_law (va_wsS RL 61 yL_leaf wsL_leaf) := goodIn_app (goodIn_of _ (by decide +kernel)) ggL_law_L_leaf
set_option maxRecDepth 20000 in
theorem ggL_law_X8_leaf : GoodIn wsL_law wsX8_leaf := goodIn_r _ [175, 176, 177, 178, 179, 180, 5, 181, 114, 115, 116, 117, 118, 119, 736, 737, 738, 739, 740, 741, 742, 743, 744, 745, 746, 747, 748, 749, 750, 751, 752, 753, 754, 755, 756, 757, 758, 759, 760, 761, 762, 763] (by decide +kernel) (by decide +kernel)
set_option maxRecDepth 20000 in
theorem gL_law_X8_leaf : GoodIn wsL_law (wsV RL 66 RX8 yX8_leaf wsX8_leaf) := goodIn_app (goodIn_of _ (by decide +kernel)) ggL_law_X8_leaf
set_option maxRecDepth 20000 in
theorem ggL_law_X8_thrown : GoodIn wsL_law wsX8_thrown := goodIn_r _ [185, 177, 736, 737, 738, 739, 740, 741, 742, 743, 744, 745, 746, 747, 748, 749, 750, 751, 752, 753, 754, 755, 756, 757, 758, 759, 760, 761, 762, 763] (by decide +kernel) (by decide +kernel)
set_option maxRecDepth 20000 in
theorem gL_law_X8_thrown : GoodIn wsL_law (wsV RL 67 RX8 yX8_thrown wsX8_thrown) := goodIn_app (goodIn_of _ (by decide +kernel)) ggL_law_X8_thrown
set_option maxRecDepth 20000 in
theorem ggL_law_L_variable : GoodIn wsL_law wsL_variable := goodIn_ca (goodIn_ca (goodIn_r _ [188, 138, 139, 189, 190, 191, 2, 192, 17, 193, 194, 195, 196, 144, 145, 146, 147, 148, 149, 150, 151, 152, 153, 154, 16, 155, 49, 156, 157, 158, 159, 43, 44, 45, 46, 47, 48, 160, 161, 162, 163, 164, 165, 166, 167, 168, 169, 170, 171, 729, 730, 731, 732, 733, 734, 735, 764, 765, 766, 767, 768, 769, 770] (by decide +kernel) (by decide +kernel)) (goodIn_sub (fun _ h => List.mem_append_left _ (List.mem_append_left _ (List.mem_append_left _ (List.mem_append_left _ (List.mem_append_right _ h))))) (by decide +kernel))) (goodIn_sub (fun _ h => List.mem_append_left _ (List.mem_append_left _ (List.mem_append_left _ (List.mem_append_right _ h)))) (by decide +kernel))
set_option maxRecDepth 20000 in
theorem gL_law_L_variable : GoodIn wsL_law (va_wsS RL 71 yL_variable wsL_variable) := goodIn_app (goodIn_of _ (by decide +kernel)) ggL_law_L_variable
set_option maxRecDepth 20000 in
theorem ggL_law_X8_variable : GoodIn wsL_law wsX8_variable := goodIn_r _ [200, 176, 177, 178, 179, 180, 5, 181, 114, 115, 116, 117, 118, 119, 736, 737, 738, 739, 740, 741, 742, 743, 744, 745, 746, 747, 748, 749, 750, 751, 752, 753, 754, 755, 756, 757, 758, 759, 760, 761, 762, 763] (by decide +kernel) (by decide +kernel)
set_option maxRecDepth 20000 in
theorem gL_law_X8_variable : GoodIn wsL_law (wsV RL 73 RX8 yX8_variable wsX8_variable) := goodIn_app (goodIn_of _ (by decide +kernel)) ggL_law_X8_variable
set_option maxRecDepth 20000 in
theorem ggL_law_L_join : GoodIn wsL_law wsL_join := goodIn_ca (goodIn_ca (goodIn_ca (goodIn_r _ [203, 204, 205, 139, 206, 207, 208, 2, 209, 210, 211, 17, 212, 213, 214, 215, 216, 217, 218, 219, 220, 16, 221, 49, 222, 223, 224, 225, 47, 146, 147, 148, 149, 150, 151, 152, 153, 154, 155, 156, 157, 158, 159, 43, 44, 45, 46, 48, 160, 161, 162, 163, 164, 165, 166, 167, 168, 169, 170, 171, 729, 730, 731, 732, 733, 734, 735, 764, 765, 766, 767, 768, 769, 770] (by decide +kernel) (by decide +kernel)) (goodIn_sub (fun _ h => List.mem_append_left _ (List.mem_append_left _ (List.mem_append_right _ h))) (by decide +kernel))) (goodIn_sub (fun _ h => List.mem_append_left _ (List.mem_append_right _ h)) (by decide +kernel))) (goodIn_sub (fun _ h => List.mem_append_left _ (List.mem_append_left _ (List.mem_append_left _ (List.mem_append_right _ h)))) (by decide +kernel))
set_option maxRecDepth 20000 in
theorem gL_law_L_join : GoodIn wsL_law (va_wsS RL 74 yL_join wsL_join) := goodIn_app (goodIn_of _ (by decide +kernel)) ggL_law_L_join
set_option maxRecDepth 20000 in
theorem ggL_law_X8_join : GoodIn wsL_law wsX8_join := goodIn_r _ [229, 176, 177, 230, 231, 232, 5, 233, 234, 235, 236, 237, 118, 178, 179, 180, 181, 114, 115, 116, 117, 119, 736, 737, 738, 739, 740, 741, 742, 743, 744, 745, 746, 747, 748, 749, 750, 751, 752, 753, 754, 755, 756, 757, 758, 759, 760, 761, 762, 763] (by decide +kernel) (by decide +kernel)
set_option maxRecDepth 20000 in
theorem gL_law_X8_join : GoodIn wsL_law (wsV RL 77 RX8 yX8_join wsX8_join) := goodIn_app (goodIn_of _ (by decide +kernel)) ggL_law_X8_join
set_option maxRecDepth 20000 in
theorem ggL_law_L_knot : GoodIn wsL_law wsL_knot := goodIn_ca (goodIn_ca (goodIn_ca (goodIn_ca (goodIn_r _ [240, 204, 205, 138, 139, 241, 242, 243, 2, 244, 210, 211, 150, 151, 17, 212, 213, 214, 215, 216, 217, 218, 219, 220, 16, 221, 49, 222, 223, 224, 225, 47, 193, 194, 195, 196, 144, 145, 146, 147, 148, 149, 152, 153, 154, 155, 245, 165, 166, 167, 48, 156, 157, 158, 159, 43, 44, 45, 46, 160, 161, 162, 163, 164, 168, 169, 170, 171, 729, 730, 731, 732, 733, 734, 735, 764, 765, 766, 767, 768, 769, 770] (by decide +kernel) (by decide +kernel)) (goodIn_sub (fun _ h => List.mem_append_left _ (List.mem_append_left _ (List.mem_append_right _ h))) (by decide +kernel))) (goodIn_sub (fun _ h => List.mem_append_left _ (List.mem_append_left _ (List.mem_append_left _ (List.mem_append_right _ h)))) (by decide +kernel))) (goodIn_sub (fun _ h => List.mem_append_left _ (List.mem_append_right _ h)) (by decide +kernel))) (goodIn_sub (fun _ h => List.mem_append_left _ (List.mem_append_left _ (List.mem_append_left _ (List.mem_append_left _ (List.mem_append_right _ h))))) (by decide +kernel))
set_option maxRecDepth 20000 in
theorem gL_law_L_knot : GoodIn wsL_law (va_wsS RL 78 yL_knot wsL_knot) := goodIn_app (goodIn_of _ (by decide +kernel)) ggL_law_L_knot
set_option maxRecDepth 20000 in
theorem ggL_law_X8_knot : GoodIn wsL_law wsX8_knot := goodIn_r _ [249, 176, 119, 177, 230, 231, 232, 5, 233, 234, 235, 236, 237, 118, 178, 179, 180, 181, 114, 115, 116, 117, 736, 737, 738, 739, 740, 741, 742, 743, 744, 745, 746, 747, 748, 749, 750, 751, 752, 753, 754, 755, 756, 757, 758, 759, 760, 761, 762, 763] (by decide +kernel) (by decide +kernel)
set_option maxRecDepth 20000 in
theorem gL_law_X8_knot : GoodIn wsL_law (wsV RL 81 RX8 yX8_knot wsX8_knot) := goodIn_app (goodIn_of _ (by decide +kernel)) ggL_law_X8_knot
set_option maxRecDepth 20000 in
theorem ggL_law_X7_clear : GoodIn wsL_law wsX7_clear := goodIn_r _ [253, 17, 254, 255, 256, 16, 257, 49, 729, 730, 731, 732, 733, 734, 735, 764, 765, 766, 767, 768, 769, 770] (by decide +kernel) (by decide +kernel)
set_option maxRecDepth 20000 in
theorem gL_law_X7_clear : GoodIn wsL_law (wsV RL 82 RX7 yX7_clear wsX7_clear) := goodIn_app (goodIn_of _ (by decide +kernel)) ggL_law_X7_clear
set_option maxRecDepth 20000 in
theorem ggL_law_X8_clear : GoodIn wsL_law wsX8_clear := goodIn_r _ [261, 177, 176, 736, 737, 738, 739, 740, 741, 742, 743, 744, 745, 746, 747, 748, 749, 750, 751, 752, 753, 754, 755, 756, 757, 758, 759, 760, 761, 762, 763] (by decide +kernel) (by decide +kernel)
set_option maxRecDepth 20000 in
theorem gL_law_X8_clear : GoodIn wsL_law (wsV RL 85 RX8 yX8_clear wsX8_clear) := goodIn_app (goodIn_of _ (by decide +kernel)) ggL_law_X8_clear
set_option maxRecDepth 20000 in
theorem ggL_law_X7_terms : GoodIn wsL_law wsX7_terms := goodIn_r _ [265, 17, 266, 267, 268, 16, 269, 49, 729, 730, 731, 732, 733, 734, 735, 764, 765, 766, 767, 768, 769, 770] (by decide +kernel) (by decide +kernel)
set_option maxRecDepth 20000 in
theorem gL_law_X7_terms : GoodIn wsL_law (wsV RL 86 RX7 yX7_terms wsX7_terms) := goodIn_app (goodIn_of _ (by decide +kernel)) ggL_law_X7_terms
set_option maxRecDepth 20000 in
theorem ggL_law_X8_terms : GoodIn wsL_law wsX8_terms := goodIn_r _ [273, 177, 176, 736, 737, 738, 739, 740, 741, 742, 743, 744, 745, 746, 747, 748, 749, 750, 751, 752, 753, 754, 755, 756, 757, 758, 759, 760, 761, 762, 763] (by decide +kernel) (by decide +kernel)
set_option maxRecDepth 20000 in
theorem gL_law_X8_terms : GoodIn wsL_law (wsV RL 89 RX8 yX8_terms wsX8_terms) := goodIn_app (goodIn_of _ (by decide +kernel)) ggL_law_X8_terms
set_option maxRecDepth 20000 in
theorem ggL_law_L_fault : GoodIn wsL_law wsL_fault := goodIn_ca (goodIn_r _ [276, 204, 277, 278, 279, 2, 280, 21, 212, 213, 214, 215, 216, 217, 17, 218, 219, 220, 16, 221, 49, 281, 282, 283, 20, 284, 62, 54, 285, 286, 287, 288, 55, 63, 289, 290, 291, 292, 45, 293, 294, 295, 296, 46, 297, 298, 299, 300, 56, 58, 301, 302, 303, 304, 43, 305, 306, 307, 308, 47, 309, 310, 311, 312, 44, 313, 314, 315, 316, 59, 60, 61, 317, 318, 319, 320, 321, 322, 323, 324, 325, 326, 327, 328, 329, 330, 331, 332, 333, 334, 335, 336, 337, 338, 339, 340, 341, 342, 343, 344, 345, 346, 347, 348, 729, 730, 731, 732, 733, 734, 735, 764, 765, 766, 767, 768, 769, 770, 771, 772, 773, 774, 775, 776, 777, 778, 779] (by decide +kernel) (by decide +kernel)) (goodIn_sub (fun _ h => List.mem_append_left _ (List.mem_append_right _ h)) (by decide +kernel))
set_option maxRecDepth 20000 in
theorem gL_law_L_fault : GoodIn wsL_law (va_wsS RL 90 yL_fault wsL_fault) := goodIn_app (goodIn_of _ (by decide +kernel)) ggL_law_L_fault
set_option maxRecDepth 20000 in
theorem ggL_law_X8_fault : GoodIn wsL_law wsX8_fault := goodIn_r _ [352, 177, 230, 231, 232, 5, 233, 176, 353, 354, 355, 356, 118, 117, 357, 358, 359, 360, 123, 361, 362, 363, 364, 124, 114, 115, 120, 121, 122, 365, 366, 367, 368, 116, 369, 370, 371, 372, 373, 374, 375, 376, 377, 378, 379, 380, 736, 737, 738, 739, 740, 741, 742, 743, 744, 745, 746, 747, 748, 749, 750, 751, 752, 753, 754, 755, 756, 757, 758, 759, 760, 761, 762, 763] (by decide +kernel) (by decide +kernel)
set_option maxRecDepth 20000 in
theorem gL_law_X8_fault : GoodIn wsL_law (wsV RL 92 RX8 yX8_fault wsX8_fault) := goodIn_app (goodIn_of _ (by decide +kernel)) ggL_law_X8_fault
set_option maxRecDepth 20000 in
theorem ggL_law_L_type : GoodIn wsL_law wsL_type := goodIn_ca (goodIn_ca (goodIn_r _ [383, 204, 205, 384, 385, 386, 2, 387, 216, 217, 21, 212, 213, 214, 215, 17, 218, 219, 220, 16, 221, 49, 388, 389, 390, 391, 210, 211, 281, 282, 283, 20, 284, 62, 54, 285, 286, 287, 288, 55, 63, 289, 290, 291, 292, 45, 293, 294, 295, 296, 46, 297, 298, 299, 300, 56, 58, 301, 302, 303, 304, 43, 305, 306, 307, 308, 47, 309, 310, 311, 312, 44, 313, 314, 315, 316, 59, 60, 61, 317, 318, 319, 320, 321, 322, 323, 324, 325, 326, 327, 328, 329, 330, 331, 332, 333, 334, 335, 336, 337, 338, 339, 340, 341, 342, 343, 344, 345, 346, 347, 348, 392, 393, 394, 395, 396, 397, 398, 399, 400, 401, 402, 403, 729, 730, 731, 732, 733, 734, 735, 764, 765, 766, 767, 768, 769, 770, 771, 772, 773, 774, 775, 776, 777, 778, 779] (by decide +kernel) (by decide +kernel)) (goodIn_sub (fun _ h => List.mem_append_left _ (List.mem_append_right _ h)) (by decide +kernel))) (goodIn_sub (fun _ h => List.mem_append_left _ (List.mem_append_left _ (List.mem_append_right _ h))) (by decide +kernel))
set_option maxRecDepth 20000 in
theorem gL_law_L_type : GoodIn wsL_law (va_wsS RL 93 yL_type wsL_type) := goodIn_app (goodIn_of _ (by decide +kernel)) ggL_law_L_type
set_option maxRecDepth 20000 in
theorem ggL_law_X8_type : GoodIn wsL_law wsX8_type := goodIn_r _ [407, 177, 121, 122, 120, 230, 231, 232, 5, 233, 176, 353, 354, 355, 356, 118, 117, 357, 358, 359, 360, 123, 361, 362, 363, 364, 124, 114, 115, 365, 366, 367, 368, 116, 369, 370, 371, 372, 373, 374, 375, 376, 377, 378, 379, 380, 736, 737, 738, 739, 740, 741, 742, 743, 744, 745, 746, 747, 748, 749, 750, 751, 752, 753, 754, 755, 756, 757, 758, 759, 760, 761, 762, 763] (by decide +kernel) (by decide +kernel)
set_option maxRecDepth 20000 in
theorem gL_law_X8_type : GoodIn wsL_law (wsV RL 95 RX8 yX8_type wsX8_type) := goodIn_app (goodIn_of _ (by decide +kernel)) ggL_law_X8_type
set_option maxRecDepth 20000 in
theorem ggL_law_X7_put : GoodIn wsL_law wsX7_put := goodIn_r _ [411, 25, 412, 413, 414, 24, 415, 68, 416, 417, 418, 419, 67, 729, 730, 731, 732, 733, 734, 735, 780, 781] (by decide +kernel) (by decide +kernel)
set_option maxRecDepth 20000 in
theorem gL_law_X7_put : GoodIn wsL_law (wsV RL 96 RX7 yX7_put wsX7_put) := goodIn_app (goodIn_of _ (by decide +kernel)) ggL_law_X7_put
set_option maxRecDepth 20000 in
theorem ggL_law_X8_put : GoodIn wsL_law wsX8_put := goodIn_r _ [423, 177, 424, 125, 736, 737, 738, 739, 740, 741, 742, 743, 744, 745, 746, 747, 748, 749, 750, 751, 752, 753, 754, 755, 756, 757, 758, 759, 760, 761, 762, 763] (by decide +kernel) (by decide +kernel)
set_option maxRecDepth 20000 in
theorem gL_law_X8_put : GoodIn wsL_law (wsV RL 100 RX8 yX8_put wsX8_put) := goodIn_app (goodIn_of _ (by decide +kernel)) ggL_law_X8_put
set_option maxRecDepth 20000 in
theorem ggL_law_X7_cut : GoodIn wsL_law wsX7_cut := goodIn_r _ [428, 25, 429, 430, 431, 24, 432, 68, 433, 434, 435, 436, 729, 730, 731, 732, 733, 734, 735, 780, 781] (by decide +kernel) (by decide +kernel)
set_option maxRecDepth 20000 in
theorem gL_law_X7_cut : GoodIn wsL_law (wsV RL 101 RX7 yX7_cut wsX7_cut) := goodIn_app (goodIn_of _ (by decide +kernel)) ggL_law_X7_cut
set_option maxRecDepth 20000 in
theorem ggL_law_X8_cut : GoodIn wsL_law wsX8_cut := goodIn_r _ [440, 177, 424, 736, 737, 738, 739, 740, 741, 742, 743, 744, 745, 746, 747, 748, 749, 750, 751, 752, 753, 754, 755, 756, 757, 758, 759, 760, 761, 762, 763] (by decide +kernel) (by decide +kernel)
set_option maxRecDepth 20000 in
theorem gL_law_X8_cut : GoodIn wsL_law (wsV RL 104 RX8 yX8_cut wsX8_cut) := goodIn_app (goodIn_of _ (by decide +kernel)) ggL_law_X8_cut
set_option maxRecDepth 20000 in
theorem ggL_law_X7_length : GoodIn wsL_law wsX7_length := goodIn_r _ [444, 25, 429, 430, 431, 24, 432, 68, 729, 730, 731, 732, 733, 734, 735, 780, 781] (by decide +kernel) (by decide +kernel)
set_option maxRecDepth 20000 in
theorem gL_law_X7_length : GoodIn wsL_law (wsV RL 105 RX7 yX7_length wsX7_length) := goodIn_app (goodIn_of _ (by decide +kernel)) ggL_law_X7_length
set_option maxRecDepth 20000 in
theorem ggL_law_X8_length : GoodIn wsL_law wsX8_length := goodIn_r _ [448, 177, 424, 736, 737, 738, 739, 740, 741, 742, 743, 744, 745, 746, 747, 748, 749, 750, 751, 752, 753, 754, 755, 756, 757, 758, 759, 760, 761, 762, 763] (by decide +kernel) (by decide +kernel)
set_option maxRecDepth 20000 in
theorem gL_law_X8_length : GoodIn wsL_law (wsV RL 108 RX8 yX8_length wsX8_length) := goodIn_app (goodIn_of _ (by decide +kernel)) ggL_law_X8_length
set_option maxRecDepth 20000 in
theorem ggL_law_L_letter : GoodIn wsL_law wsL_letter := goodIn_ca (goodIn_r _ [451, 204, 452, 453, 454, 2, 455, 216, 217, 25, 429, 430, 431, 24, 432, 68, 456, 457, 458, 459, 67, 729, 730, 731, 732, 733, 734, 735, 780, 781] (by decide +kernel) (by decide +kernel)) (goodIn_sub (fun _ h => List.mem_append_left _ (List.mem_append_right _ h)) (by decide +kernel))
set_option maxRecDepth 20000 in
theorem gL_law_L_letter : GoodIn wsL_law (va_wsS RL 109 yL_letter wsL_letter) := goodIn_app (goodIn_of _ (by decide +kernel)) ggL_law_L_letter
set_option maxRecDepth 20000 in
theorem ggL_law_X8_letter : GoodIn wsL_law wsX8_letter := goodIn_r _ [463, 424, 177, 125, 736, 737, 738, 739, 740, 741, 742, 743, 744, 745, 746, 747, 748, 749, 750, 751, 752, 753, 754, 755, 756, 757, 758, 759, 760, 761, 762, 763] (by decide +kernel) (by decide +kernel)
set_option maxRecDepth 20000 in
theorem gL_law_X8_letter : GoodIn wsL_law (wsV RL 111 RX8 yX8_letter wsX8_letter) := goodIn_app (goodIn_of _ (by decide +kernel)) ggL_law_X8_letter
set_option maxRecDepth 20000 in
theorem ggL_law_L_read : GoodIn wsL_law wsL_read := goodIn_ca (goodIn_ca (goodIn_ca (goodIn_r _ [466, 204, 205, 138, 467, 468, 469, 2, 470, 144, 145, 29, 25, 38, 212, 213, 214, 215, 216, 217, 17, 218, 219, 220, 16, 221, 49, 388, 389, 390, 391, 210, 211, 21, 281, 282, 283, 20, 284, 62, 54, 285, 286, 287, 288, 55, 63, 289, 290, 291, 292, 45, 293, 294, 295, 296, 46, 297, 298, 299, 300, 56, 58, 301, 302, 303, 304, 43, 305, 306, 307, 308, 47, 309, 310, 311, 312, 44, 313, 314, 315, 316, 59, 60, 61, 317, 318, 319, 320, 321, 322, 323, 324, 325, 326, 327, 328, 329, 330, 331, 332, 333, 334, 335, 336, 337, 338, 339, 340, 341, 342, 343, 344, 345, 346, 347, 348, 471, 472, 473, 28, 474, 80, 75, 74, 76, 475, 73, 476, 477, 478, 79, 479, 88, 480, 481, 482, 483, 484, 485, 486, 487, 82, 83, 488, 489, 490, 491, 492, 493, 494, 430, 431, 24, 432, 68, 495, 457, 458, 459, 67, 496, 497, 498, 499, 500, 501, 502, 503, 504, 505, 506, 507, 508, 509, 87, 510, 511, 512, 513, 514, 515, 516, 517, 518, 519, 520, 521, 522, 81, 523, 524, 525, 526, 729, 730, 731, 732, 733, 734, 735, 764, 765, 766, 767, 768, 769, 770, 771, 772, 773, 774, 775, 776, 777, 778, 779, 782, 783, 784, 785, 786, 787, 788, 789, 802, 803, 780, 781] (by decide +kernel) (by decide +kernel)) (goodIn_sub (fun _ h => List.mem_append_left _ (List.mem_append_left _ (List.mem_append_left _ (List.mem_append_left _ (List.mem_append_right _ h))))) (by decide +kernel))) (goodIn_sub (fun _ h => List.mem_append_left _ (List.mem_append_right _ h)) (by decide +kernel))) (goodIn_sub (fun _ h => List.mem_append_left _ (List.mem_append_left _ (List.mem_append_right _ h))) (by decide +kernel))
set_option maxRecDepth 20000 in
theorem gL_law_L_read : GoodIn wsL_law (va_wsS RL 112 yL_read wsL_read) := goodIn_app (goodIn_of _ (by decide +kernel)) ggL_law_L_read
set_option maxRecDepth 20000 in
theorem ggL_law_X8_read : GoodIn wsL_law wsX8_read := goodIn_r _ [530, 177, 424, 125, 126, 531, 532, 127, 128, 533, 230, 231, 232, 5, 233, 176, 353, 354, 355, 356, 118, 117, 357, 358, 359, 360, 123, 361, 362, 363, 364, 124, 114, 115, 120, 121, 122, 365, 366, 367, 368, 116, 369, 370, 371, 372, 373, 374, 375, 376, 377, 378, 379, 380, 534, 535, 536, 537, 129, 538, 539, 540, 541, 542, 543, 544, 545, 546, 547, 548, 549, 550, 736, 737, 738, 739, 740, 741, 742, 743, 744, 745, 746, 747, 748, 749, 750, 751, 752, 753, 754, 755, 756, 757, 758, 759, 760, 761, 762, 763] (by decide +kernel) (by decide +kernel)
set_option maxRecDepth 20000 in
theorem gL_law_X8_read : GoodIn wsL_law (wsV RL 114 RX8 yX8_read wsX8_read) := goodIn_app (goodIn_of _ (by decide +kernel)) ggL_law_X8_read
set_option maxRecDepth 20000 in
theorem ggL_law_X7_stopped : GoodIn wsL_law wsX7_stopped := goodIn_r _ [554, 38, 729, 730, 731, 732, 733, 734, 735] (by decide +kernel) (by decide +kernel)
set_option maxRecDepth 20000 in
theorem gL_law_X7_stopped : GoodIn wsL_law (wsV RL 115 RX7 yX7_stopped wsX7_stopped) := goodIn_app (goodIn_of _ (by decide +kernel)) ggL_law_X7_stopped
set_option maxRecDepth 20000 in
theorem ggL_law_X8_stopped : GoodIn wsL_law wsX8_stopped := goodIn_r _ [558, 177, 126, 736, 737, 738, 739, 740, 741, 742, 743, 744, 745, 746, 747, 748, 749, 750, 751, 752, 753, 754, 755, 756, 757, 758, 759, 760, 761, 762, 763] (by decide +kernel) (by decide +kernel)
set_option maxRecDepth 20000 in
theorem gL_law_X8_stopped : GoodIn wsL_law (wsV RL 118 RX8 yX8_stopped wsX8_stopped) := goodIn_app (goodIn_of _ (by decide +kernel)) ggL_law_X8_stopped
set_option maxRecDepth 20000 in
theorem ggL_law_X7_trace : GoodIn wsL_law wsX7_trace := goodIn_r _ [562, 29, 563, 564, 565, 28, 566, 81, 567, 568, 569, 79, 570, 88, 729, 730, 731, 732, 733, 734, 735, 782, 783, 784, 785, 786, 787, 788, 789, 802, 803] (by decide +kernel) (by decide +kernel)
set_option maxRecDepth 20000 in
theorem gL_law_X7_trace : GoodIn wsL_law (wsV RL 119 RX7 yX7_trace wsX7_trace) := goodIn_app (goodIn_of _ (by decide +kernel)) ggL_law_X7_trace
set_option maxRecDepth 20000 in
theorem ggL_law_X8_trace : GoodIn wsL_law wsX8_trace := goodIn_r _ [574, 177, 532, 736, 737, 738, 739, 740, 741, 742, 743, 744, 745, 746, 747, 748, 749, 750, 751, 752, 753, 754, 755, 756, 757, 758, 759, 760, 761, 762, 763] (by decide +kernel) (by decide +kernel)
set_option maxRecDepth 20000 in
theorem gL_law_X8_trace : GoodIn wsL_law (wsV RL 122 RX8 yX8_trace wsX8_trace) := goodIn_app (goodIn_of _ (by decide +kernel)) ggL_law_X8_trace
set_option maxRecDepth 20000 in
theorem ggL_law_L_step : GoodIn wsL_law wsL_step := goodIn_ca (goodIn_r _ [577, 204, 578, 579, 580, 2, 581, 216, 217, 29, 563, 564, 565, 28, 566, 81, 567, 568, 569, 79, 570, 88, 582, 583, 584, 585, 87, 729, 730, 731, 732, 733, 734, 735, 782, 783, 784, 785, 786, 787, 788, 789, 802, 803] (by decide +kernel) (by decide +kernel)) (goodIn_sub (fun _ h => List.mem_append_left _ (List.mem_append_right _ h)) (by decide +kernel))
set_option maxRecDepth 20000 in
theorem gL_law_L_step : GoodIn wsL_law (va_wsS RL 123 yL_step wsL_step) := goodIn_app (goodIn_of _ (by decide +kernel)) ggL_law_L_step
set_option maxRecDepth 20000 in
theorem ggL_law_X8_step : GoodIn wsL_law wsX8_step := goodIn_r _ [589, 532, 177, 127, 736, 737, 738, 739, 740, 741, 742, 743, 744, 745, 746, 747, 748, 749, 750, 751, 752, 753, 754, 755, 756, 757, 758, 759, 760, 761, 762, 763] (by decide +kernel) (by decide +kernel)
set_option maxRecDepth 20000 in
theorem gL_law_X8_step : GoodIn wsL_law (wsV RL 125 RX8 yX8_step wsX8_step) := goodIn_app (goodIn_of _ (by decide +kernel)) ggL_law_X8_step
set_option maxRecDepth 20000 in
theorem ggL_law_L_count : GoodIn wsL_law wsL_count := goodIn_ca (goodIn_ca (goodIn_ca (goodIn_r _ [592, 204, 205, 138, 593, 594, 595, 2, 596, 33, 597, 598, 599, 600, 144, 145, 212, 213, 214, 215, 216, 217, 17, 218, 219, 220, 16, 221, 49, 388, 389, 390, 391, 210, 211, 21, 281, 282, 283, 20, 284, 62, 54, 285, 286, 287, 288, 55, 63, 289, 290, 291, 292, 45, 293, 294, 295, 296, 46, 297, 298, 299, 300, 56, 58, 301, 302, 303, 304, 43, 305, 306, 307, 308, 47, 309, 310, 311, 312, 44, 313, 314, 315, 316, 59, 60, 61, 317, 318, 319, 320, 321, 322, 323, 324, 325, 326, 327, 328, 329, 330, 331, 332, 333, 334, 335, 336, 337, 338, 339, 340, 341, 342, 343, 344, 345, 346, 347, 348, 601, 602, 603, 32, 604, 605, 606, 607, 608, 96, 94, 609, 610, 611, 612, 613, 614, 615, 616, 617, 618, 619, 620, 95, 621, 622, 623, 624, 625, 626, 627, 628, 512, 513, 514, 629, 630, 631, 632, 729, 730, 731, 732, 733, 734, 735, 764, 765, 766, 767, 768, 769, 770, 771, 772, 773, 774, 775, 776, 777, 778, 779, 790, 791, 792] (by decide +kernel) (by decide +kernel)) (goodIn_sub (fun _ h => List.mem_append_left _ (List.mem_append_left _ (List.mem_append_left _ (List.mem_append_left _ (List.mem_append_right _ h))))) (by decide +kernel))) (goodIn_sub (fun _ h => List.mem_append_left _ (List.mem_append_right _ h)) (by decide +kernel))) (goodIn_sub (fun _ h => List.mem_append_left _ (List.mem_append_left _ (List.mem_append_right _ h))) (by decide +kernel))
set_option maxRecDepth 20000 in
theorem gL_law_L_count : GoodIn wsL_law (va_wsS RL 126 yL_count wsL_count) := goodIn_app (goodIn_of _ (by decide +kernel)) ggL_law_L_count
set_option maxRecDepth 20000 in
theorem ggL_law_X8_count : GoodIn wsL_law wsX8_count := goodIn_r _ [636, 177, 131, 637, 638, 639, 5, 640, 230, 231, 232, 233, 176, 353, 354, 355, 356, 118, 117, 357, 358, 359, 360, 123, 361, 362, 363, 364, 124, 114, 115, 120, 121, 122, 365, 366, 367, 368, 116, 369, 370, 371, 372, 373, 374, 375, 376, 377, 378, 379, 380, 641, 642, 643, 644, 645, 646, 647, 648, 736, 737, 738, 739, 740, 741, 742, 743, 744, 745, 746, 747, 748, 749, 750, 751, 752, 753, 754, 755, 756, 757, 758, 759, 760, 761, 762, 763] (by decide +kernel) (by decide +kernel)
set_option maxRecDepth 20000 in
theorem gL_law_X8_count : GoodIn wsL_law (wsV RL 128 RX8 yX8_count wsX8_count) := goodIn_app (goodIn_of _ (by decide +kernel)) ggL_law_X8_count
set_option maxRecDepth 20000 in
theorem ggL_law_L_find : GoodIn wsL_law wsL_find := goodIn_ca (goodIn_ca (goodIn_ca (goodIn_ca (goodIn_r _ [651, 204, 205, 138, 652, 653, 654, 655, 2, 656, 657, 658, 33, 37, 25, 597, 598, 599, 600, 144, 145, 212, 213, 214, 215, 216, 217, 17, 218, 219, 220, 16, 221, 49, 388, 389, 390, 391, 210, 211, 21, 281, 282, 283, 20, 284, 62, 54, 285, 286, 287, 288, 55, 63, 289, 290, 291, 292, 45, 293, 294, 295, 296, 46, 297, 298, 299, 300, 56, 58, 301, 302, 303, 304, 43, 305, 306, 307, 308, 47, 309, 310, 311, 312, 44, 313, 314, 315, 316, 59, 60, 61, 317, 318, 319, 320, 321, 322, 323, 324, 325, 326, 327, 328, 329, 330, 331, 332, 333, 334, 335, 336, 337, 338, 339, 340, 341, 342, 343, 344, 345, 346, 347, 348, 601, 602, 603, 32, 604, 605, 606, 607, 608, 96, 94, 609, 610, 611, 612, 613, 614, 615, 616, 617, 618, 619, 620, 95, 621, 622, 623, 624, 625, 626, 627, 628, 512, 513, 514, 629, 630, 631, 632, 659, 660, 661, 36, 662, 663, 434, 435, 24, 436, 68, 664, 665, 666, 667, 103, 102, 668, 669, 670, 671, 672, 673, 674, 675, 109, 101, 676, 677, 678, 679, 680, 681, 682, 683, 684, 685, 686, 687, 108, 688, 397, 398, 399, 689, 393, 394, 395, 690, 691, 692, 693, 105, 107, 104, 694, 695, 696, 697, 698, 699, 700, 701, 503, 504, 505, 702, 703, 704, 705, 706, 106, 707, 708, 709, 710, 711, 417, 418, 419, 67, 729, 730, 731, 732, 733, 734, 735, 764, 765, 766, 767, 768, 769, 770, 771, 772, 773, 774, 775, 776, 777, 778, 779, 790, 791, 792, 780, 781, 793, 794, 795, 796, 797, 798, 799, 800, 801] (by decide +kernel) (by decide +kernel)) (goodIn_sub (fun _ h => List.mem_append_right _ h) (by decide +kernel))) (goodIn_sub (fun _ h => List.mem_append_left _ (List.mem_append_left _ (List.mem_append_left _ (List.mem_append_left _ (List.mem_append_right _ h))))) (by decide +kernel))) (goodIn_sub (fun _ h => List.mem_append_left _ (List.mem_append_right _ h)) (by decide +kernel))) (goodIn_sub (fun _ h => List.mem_append_left _ (List.mem_append_left _ (List.mem_append_right _ h))) (by decide +kernel))
set_option maxRecDepth 20000 in
theorem gL_law_L_find : GoodIn wsL_law (va_wsS RL 131 yL_find wsL_find) := goodIn_app (goodIn_of _ (by decide +kernel)) ggL_law_L_find
set_option maxRecDepth 20000 in
theorem ggL_law_X8_find : GoodIn wsL_law wsX8_find := goodIn_r _ [715, 177, 131, 125, 531, 424, 637, 638, 639, 5, 640, 230, 231, 232, 233, 176, 353, 354, 355, 356, 118, 117, 357, 358, 359, 360, 123, 361, 362, 363, 364, 124, 114, 115, 120, 121, 122, 365, 366, 367, 368, 116, 369, 370, 371, 372, 373, 374, 375, 376, 377, 378, 379, 380, 641, 642, 643, 644, 645, 646, 647, 648, 534, 535, 536, 537, 129, 538, 533, 716, 717, 718, 719, 720, 130, 539, 540, 541, 542, 128, 543, 544, 545, 546, 721, 722, 723, 724, 132, 133, 725, 726, 727, 728, 736, 737, 738, 739, 740, 741, 742, 743, 744, 745, 746, 747, 748, 749, 750, 751, 752, 753, 754, 755, 756, 757, 758, 759, 760, 761, 762, 763] (by decide +kernel) (by decide +kernel)
set_option maxRecDepth 20000 in
theorem gL_law_X8_find : GoodIn wsL_law (wsV RL 134 RX8 yX8_find wsX8_find) := goodIn_app (goodIn_of _ (by decide +kernel)) ggL_law_X8_find
end
section
theorem dX0_init_0 : decode cX0_init 0 = .ok (.aload_n 0, 1) := by decide +kernel
theorem dX0_init_1 : decode cX0_init 1 = .ok (.invokespecial 3, 3) := by decide +kernel
theorem dX0_init_4 : decode cX0_init 4 = .ok (.aload_n 0, 1) := by decide +kernel
theorem dX0_init_5 : decode cX0_init 5 = .ok (.sipush 945, 3) := by decide +kernel
theorem dX0_init_8 : decode cX0_init 8 = .ok (.newarray .int, 2) := by decide +kernel
theorem dX0_init_10 : decode cX0_init 10 = .ok (.putfield 9, 3) := by decide +kernel
theorem dX0_init_13 : decode cX0_init 13 = .ok (.aload_n 0, 1) := by decide +kernel
theorem dX0_init_14 : decode cX0_init 14 = .ok (.iconst 0, 1) := by decide +kernel
theorem dX0_init_15 : decode cX0_init 15 = .ok (.putfield 15, 3) := by decide +kernel
theorem dX0_init_18 : decode cX0_init 18 = .ok (.aload_n 0, 1) := by decide +kernel
theorem dX0_init_19 : decode cX0_init 19 = .ok (.iconst 0, 1) := by decide +kernel
theorem dX0_init_20 : decode cX0_init 20 = .ok (.putfield 19, 3) := by decide +kernel
theorem dX0_init_23 : decode cX0_init 23 = .ok (.aload_n 0, 1) := by decide +kernel
theorem dX0_init_24 : decode cX0_init 24 = .ok (.iconst 0, 1) := by decide +kernel
theorem dX0_init_25 : decode cX0_init 25 = .ok (.putfield 22, 3) := by decide +kernel
theorem dX0_init_28 : decode cX0_init 28 = .ok (.aload_n 0, 1) := by decide +kernel
theorem dX0_init_29 : decode cX0_init 29 = .ok (.new 25, 3) := by decide +kernel
theorem dX0_init_32 : decode cX0_init 32 = .ok (.dup, 1) := by decide +kernel
theorem dX0_init_33 : decode cX0_init 33 = .ok (.invokespecial 27, 3) := by decide +kernel
theorem dX0_init_36 : decode cX0_init 36 = .ok (.putfield 28, 3) := by decide +kernel
theorem dX0_init_39 : decode cX0_init 39 = .ok (.aload_n 0, 1) := by decide +kernel
theorem dX0_init_40 : decode cX0_init 40 = .ok (.new 25, 3) := by decide +kernel
theorem dX0_init_43 : decode cX0_init 43 = .ok (.dup, 1) := by decide +kernel
theorem dX0_init_44 : decode cX0_init 44 = .ok (.invokespecial 27, 3) := by decide +kernel
theorem dX0_init_47 : decode cX0_init 47 = .ok (.putfield 32, 3) := by decide +kernel
theorem dX0_init_50 : decode cX0_init 50 = .ok (.aload_n 0, 1) := by decide +kernel
theorem dX0_init_51 : decode cX0_init 51 = .ok (.aload_n 1, 1) := by decide +kernel
theorem dX0_init_52 : decode cX0_init 52 = .ok (.putfield 35, 3) := by decide +kernel
theorem dX0_init_55 : decode cX0_init 55 = .ok (.aload_n 0, 1) := by decide +kernel
theorem dX0_init_56 : decode cX0_init 56 = .ok (.aload_n 2, 1) := by decide +kernel
theorem dX0_init_57 : decode cX0_init 57 = .ok (.putfield 39, 3) := by decide +kernel
theorem dX0_init_60 : decode cX0_init 60 = .ok (.return_, 1) := by decide +kernel
theorem dX0_reads_0 : decode cX0_reads 0 = .ok (.aload_n 0, 1) := by decide +kernel
theorem dX0_reads_1 : decode cX0_reads 1 = .ok (.getfield 28, 3) := by decide +kernel
theorem dX0_reads_4 : decode cX0_reads 4 = .ok (.invokevirtual 43, 3) := by decide +kernel
theorem dX0_reads_7 : decode cX0_reads 7 = .ok (.aload_n 0, 1) := by decide +kernel
theorem dX0_reads_8 : decode cX0_reads 8 = .ok (.iconst 0, 1) := by decide +kernel
theorem dX0_reads_9 : decode cX0_reads 9 = .ok (.putfield 19, 3) := by decide +kernel
theorem dX0_reads_12 : decode cX0_reads 12 = .ok (.aload_n 0, 1) := by decide +kernel
theorem dX0_reads_13 : decode cX0_reads 13 = .ok (.iconst 0, 1) := by decide +kernel
theorem dX0_reads_14 : decode cX0_reads 14 = .ok (.putfield 15, 3) := by decide +kernel
theorem dX0_reads_17 : decode cX0_reads 17 = .ok (.aload_n 0, 1) := by decide +kernel
theorem dX0_reads_18 : decode cX0_reads 18 = .ok (.iload_n 1, 1) := by decide +kernel
theorem dX0_reads_19 : decode cX0_reads 19 = .ok (.invokevirtual 46, 3) := by decide +kernel
theorem dX0_reads_22 : decode cX0_reads 22 = .ok (.aload_n 0, 1) := by decide +kernel
theorem dX0_reads_23 : decode cX0_reads 23 = .ok (.iconst 0, 1) := by decide +kernel
theorem dX0_reads_24 : decode cX0_reads 24 = .ok (.putfield 22, 3) := by decide +kernel
theorem dX0_reads_27 : decode cX0_reads 27 = .ok (.aload_n 0, 1) := by decide +kernel
theorem dX0_reads_28 : decode cX0_reads 28 = .ok (.getfield 15, 3) := by decide +kernel
theorem dX0_reads_31 : decode cX0_reads 31 = .ok (.ifCond .le 54, 3) := by decide +kernel
theorem dX0_reads_34 : decode cX0_reads 34 = .ok (.aload_n 0, 1) := by decide +kernel
theorem dX0_reads_35 : decode cX0_reads 35 = .ok (.getfield 22, 3) := by decide +kernel
theorem dX0_reads_38 : decode cX0_reads 38 = .ok (.ldc 50, 2) := by decide +kernel
theorem dX0_reads_40 : decode cX0_reads 40 = .ok (.if_icmp .ge 45, 3) := by decide +kernel
theorem dX0_reads_43 : decode cX0_reads 43 = .ok (.aload_n 0, 1) := by decide +kernel
theorem dX0_reads_44 : decode cX0_reads 44 = .ok (.dup, 1) := by decide +kernel
theorem dX0_reads_45 : decode cX0_reads 45 = .ok (.getfield 15, 3) := by decide +kernel
theorem dX0_reads_48 : decode cX0_reads 48 = .ok (.iconst 1, 1) := by decide +kernel
theorem dX0_reads_49 : decode cX0_reads 49 = .ok (.isub, 1) := by decide +kernel
theorem dX0_reads_50 : decode cX0_reads 50 = .ok (.putfield 15, 3) := by decide +kernel
theorem dX0_reads_53 : decode cX0_reads 53 = .ok (.aload_n 0, 1) := by decide +kernel
theorem dX0_reads_54 : decode cX0_reads 54 = .ok (.aload_n 0, 1) := by decide +kernel
theorem dX0_reads_55 : decode cX0_reads 55 = .ok (.getfield 9, 3) := by decide +kernel
theorem dX0_reads_58 : decode cX0_reads 58 = .ok (.aload_n 0, 1) := by decide +kernel
theorem dX0_reads_59 : decode cX0_reads 59 = .ok (.getfield 15, 3) := by decide +kernel
theorem dX0_reads_62 : decode cX0_reads 62 = .ok (.iaload, 1) := by decide +kernel
theorem dX0_reads_63 : decode cX0_reads 63 = .ok (.aload_n 2, 1) := by decide +kernel
theorem dX0_reads_64 : decode cX0_reads 64 = .ok (.invokevirtual 51, 3) := by decide +kernel
theorem dX0_reads_67 : decode cX0_reads 67 = .ok (.ifCond .ne 5, 3) := by decide +kernel
theorem dX0_reads_70 : decode cX0_reads 70 = .ok (.iconst 0, 1) := by decide +kernel
theorem dX0_reads_71 : decode cX0_reads 71 = .ok (.ireturn, 1) := by decide +kernel
theorem dX0_reads_72 : decode cX0_reads 72 = .ok (.aload_n 0, 1) := by decide +kernel
theorem dX0_reads_73 : decode cX0_reads 73 = .ok (.dup, 1) := by decide +kernel
theorem dX0_reads_74 : decode cX0_reads 74 = .ok (.getfield 22, 3) := by decide +kernel
theorem dX0_reads_77 : decode cX0_reads 77 = .ok (.iconst 1, 1) := by decide +kernel
theorem dX0_reads_78 : decode cX0_reads 78 = .ok (.iadd, 1) := by decide +kernel
theorem dX0_reads_79 : decode cX0_reads 79 = .ok (.putfield 22, 3) := by decide +kernel
theorem dX0_reads_82 : decode cX0_reads 82 = .ok (.goto (-55), 3) := by decide +kernel
theorem dX0_reads_85 : decode cX0_reads 85 = .ok (.aload_n 0, 1) := by decide +kernel
theorem dX0_reads_86 : decode cX0_reads 86 = .ok (.getfield 19, 3) := by decide +kernel
theorem dX0_reads_89 : decode cX0_reads 89 = .ok (.aload_n 2, 1) := by decide +kernel
theorem dX0_reads_90 : decode cX0_reads 90 = .ok (.invokevirtual 55, 3) := by decide +kernel
theorem dX0_reads_93 : decode cX0_reads 93 = .ok (.if_icmp .ne 7, 3) := by decide +kernel
theorem dX0_reads_96 : decode cX0_reads 96 = .ok (.iconst 1, 1) := by decide +kernel
theorem dX0_reads_97 : decode cX0_reads 97 = .ok (.goto 4, 3) := by decide +kernel
theorem dX0_reads_100 : decode cX0_reads 100 = .ok (.iconst 0, 1) := by decide +kernel
theorem dX0_reads_101 : decode cX0_reads 101 = .ok (.ireturn, 1) := by decide +kernel
theorem dX0_place_0 : decode cX0_place 0 = .ok (.aload_n 0, 1) := by decide +kernel
theorem dX0_place_1 : decode cX0_place 1 = .ok (.getfield 19, 3) := by decide +kernel
theorem dX0_place_4 : decode cX0_place 4 = .ok (.ireturn, 1) := by decide +kernel
theorem dX0_visits_0 : decode cX0_visits 0 = .ok (.aload_n 0, 1) := by decide +kernel
theorem dX0_visits_1 : decode cX0_visits 1 = .ok (.getfield 22, 3) := by decide +kernel
theorem dX0_visits_4 : decode cX0_visits 4 = .ok (.ireturn, 1) := by decide +kernel
theorem dX0_keepSteps_0 : decode cX0_keepSteps 0 = .ok (.aload_n 0, 1) := by decide +kernel
theorem dX0_keepSteps_1 : decode cX0_keepSteps 1 = .ok (.getfield 32, 3) := by decide +kernel
theorem dX0_keepSteps_4 : decode cX0_keepSteps 4 = .ok (.astore_n 1, 1) := by decide +kernel
theorem dX0_keepSteps_5 : decode cX0_keepSteps 5 = .ok (.aload_n 0, 1) := by decide +kernel
theorem dX0_keepSteps_6 : decode cX0_keepSteps 6 = .ok (.aload_n 0, 1) := by decide +kernel
theorem dX0_keepSteps_7 : decode cX0_keepSteps 7 = .ok (.getfield 28, 3) := by decide +kernel
theorem dX0_keepSteps_10 : decode cX0_keepSteps 10 = .ok (.putfield 32, 3) := by decide +kernel
theorem dX0_keepSteps_13 : decode cX0_keepSteps 13 = .ok (.aload_n 0, 1) := by decide +kernel
theorem dX0_keepSteps_14 : decode cX0_keepSteps 14 = .ok (.aload_n 1, 1) := by decide +kernel
theorem dX0_keepSteps_15 : decode cX0_keepSteps 15 = .ok (.putfield 28, 3) := by decide +kernel
theorem dX0_keepSteps_18 : decode cX0_keepSteps 18 = .ok (.return_, 1) := by decide +kernel
theorem dX0_kept_0 : decode cX0_kept 0 = .ok (.aload_n 0, 1) := by decide +kernel
theorem dX0_kept_1 : decode cX0_kept 1 = .ok (.getfield 32, 3) := by decide +kernel
theorem dX0_kept_4 : decode cX0_kept 4 = .ok (.areturn, 1) := by decide +kernel
theorem dX0_await_0 : decode cX0_await 0 = .ok (.aload_n 0, 1) := by decide +kernel
theorem dX0_await_1 : decode cX0_await 1 = .ok (.getfield 15, 3) := by decide +kernel
theorem dX0_await_4 : decode cX0_await 4 = .ok (.sipush 945, 3) := by decide +kernel
theorem dX0_await_7 : decode cX0_await 7 = .ok (.if_icmp .ge 23, 3) := by decide +kernel
theorem dX0_await_10 : decode cX0_await 10 = .ok (.aload_n 0, 1) := by decide +kernel
theorem dX0_await_11 : decode cX0_await 11 = .ok (.getfield 9, 3) := by decide +kernel
theorem dX0_await_14 : decode cX0_await 14 = .ok (.aload_n 0, 1) := by decide +kernel
theorem dX0_await_15 : decode cX0_await 15 = .ok (.getfield 15, 3) := by decide +kernel
theorem dX0_await_18 : decode cX0_await 18 = .ok (.iload_n 1, 1) := by decide +kernel
theorem dX0_await_19 : decode cX0_await 19 = .ok (.iastore, 1) := by decide +kernel
theorem dX0_await_20 : decode cX0_await 20 = .ok (.aload_n 0, 1) := by decide +kernel
theorem dX0_await_21 : decode cX0_await 21 = .ok (.dup, 1) := by decide +kernel
theorem dX0_await_22 : decode cX0_await 22 = .ok (.getfield 15, 3) := by decide +kernel
theorem dX0_await_25 : decode cX0_await 25 = .ok (.iconst 1, 1) := by decide +kernel
theorem dX0_await_26 : decode cX0_await 26 = .ok (.iadd, 1) := by decide +kernel
theorem dX0_await_27 : decode cX0_await 27 = .ok (.putfield 15, 3) := by decide +kernel
theorem dX0_await_30 : decode cX0_await 30 = .ok (.return_, 1) := by decide +kernel
theorem dX0_visit_0 : decode cX0_visit 0 = .ok (.aload_n 0, 1) := by decide +kernel
theorem dX0_visit_1 : decode cX0_visit 1 = .ok (.getfield 35, 3) := by decide +kernel
theorem dX0_visit_4 : decode cX0_visit 4 = .ok (.iload_n 1, 1) := by decide +kernel
theorem dX0_visit_5 : decode cX0_visit 5 = .ok (.invokevirtual 61, 3) := by decide +kernel
theorem dX0_visit_8 : decode cX0_visit 8 = .ok (.tableswitch 121 0 6 #[44, 121, 46, 60, 86, 93, 107], 44) := by decide +kernel
theorem dX0_visit_52 : decode cX0_visit 52 = .ok (.iconst 1, 1) := by decide +kernel
theorem dX0_visit_53 : decode cX0_visit 53 = .ok (.ireturn, 1) := by decide +kernel
theorem dX0_visit_54 : decode cX0_visit 54 = .ok (.aload_n 0, 1) := by decide +kernel
theorem dX0_visit_55 : decode cX0_visit 55 = .ok (.aload_n 0, 1) := by decide +kernel
theorem dX0_visit_56 : decode cX0_visit 56 = .ok (.getfield 35, 3) := by decide +kernel
theorem dX0_visit_59 : decode cX0_visit 59 = .ok (.iload_n 1, 1) := by decide +kernel
theorem dX0_visit_60 : decode cX0_visit 60 = .ok (.invokevirtual 67, 3) := by decide +kernel
theorem dX0_visit_63 : decode cX0_visit 63 = .ok (.aload_n 2, 1) := by decide +kernel
theorem dX0_visit_64 : decode cX0_visit 64 = .ok (.invokevirtual 70, 3) := by decide +kernel
theorem dX0_visit_67 : decode cX0_visit 67 = .ok (.ireturn, 1) := by decide +kernel
theorem dX0_visit_68 : decode cX0_visit 68 = .ok (.aload_n 0, 1) := by decide +kernel
theorem dX0_visit_69 : decode cX0_visit 69 = .ok (.aload_n 0, 1) := by decide +kernel
theorem dX0_visit_70 : decode cX0_visit 70 = .ok (.getfield 35, 3) := by decide +kernel
theorem dX0_visit_73 : decode cX0_visit 73 = .ok (.iload_n 1, 1) := by decide +kernel
theorem dX0_visit_74 : decode cX0_visit 74 = .ok (.invokevirtual 73, 3) := by decide +kernel
theorem dX0_visit_77 : decode cX0_visit 77 = .ok (.invokevirtual 46, 3) := by decide +kernel
theorem dX0_visit_80 : decode cX0_visit 80 = .ok (.aload_n 0, 1) := by decide +kernel
theorem dX0_visit_81 : decode cX0_visit 81 = .ok (.aload_n 0, 1) := by decide +kernel
theorem dX0_visit_82 : decode cX0_visit 82 = .ok (.getfield 35, 3) := by decide +kernel
theorem dX0_visit_85 : decode cX0_visit 85 = .ok (.iload_n 1, 1) := by decide +kernel
theorem dX0_visit_86 : decode cX0_visit 86 = .ok (.invokevirtual 76, 3) := by decide +kernel
theorem dX0_visit_89 : decode cX0_visit 89 = .ok (.invokevirtual 46, 3) := by decide +kernel
theorem dX0_visit_92 : decode cX0_visit 92 = .ok (.iconst 1, 1) := by decide +kernel
theorem dX0_visit_93 : decode cX0_visit 93 = .ok (.ireturn, 1) := by decide +kernel
theorem dX0_visit_94 : decode cX0_visit 94 = .ok (.aload_n 0, 1) := by decide +kernel
theorem dX0_visit_95 : decode cX0_visit 95 = .ok (.iload_n 1, 1) := by decide +kernel
theorem dX0_visit_96 : decode cX0_visit 96 = .ok (.aload_n 2, 1) := by decide +kernel
theorem dX0_visit_97 : decode cX0_visit 97 = .ok (.invokevirtual 79, 3) := by decide +kernel
theorem dX0_visit_100 : decode cX0_visit 100 = .ok (.ireturn, 1) := by decide +kernel
theorem dX0_visit_101 : decode cX0_visit 101 = .ok (.aload_n 0, 1) := by decide +kernel
theorem dX0_visit_102 : decode cX0_visit 102 = .ok (.aload_n 0, 1) := by decide +kernel
theorem dX0_visit_103 : decode cX0_visit 103 = .ok (.getfield 39, 3) := by decide +kernel
theorem dX0_visit_106 : decode cX0_visit 106 = .ok (.iload_n 1, 1) := by decide +kernel
theorem dX0_visit_107 : decode cX0_visit 107 = .ok (.invokevirtual 82, 3) := by decide +kernel
theorem dX0_visit_110 : decode cX0_visit 110 = .ok (.invokevirtual 46, 3) := by decide +kernel
theorem dX0_visit_113 : decode cX0_visit 113 = .ok (.iconst 1, 1) := by decide +kernel
theorem dX0_visit_114 : decode cX0_visit 114 = .ok (.ireturn, 1) := by decide +kernel
theorem dX0_visit_115 : decode cX0_visit 115 = .ok (.aload_n 0, 1) := by decide +kernel
theorem dX0_visit_116 : decode cX0_visit 116 = .ok (.aload_n 0, 1) := by decide +kernel
theorem dX0_visit_117 : decode cX0_visit 117 = .ok (.getfield 35, 3) := by decide +kernel
theorem dX0_visit_120 : decode cX0_visit 120 = .ok (.iload_n 1, 1) := by decide +kernel
theorem dX0_visit_121 : decode cX0_visit 121 = .ok (.invokevirtual 76, 3) := by decide +kernel
theorem dX0_visit_124 : decode cX0_visit 124 = .ok (.invokevirtual 46, 3) := by decide +kernel
theorem dX0_visit_127 : decode cX0_visit 127 = .ok (.iconst 1, 1) := by decide +kernel
theorem dX0_visit_128 : decode cX0_visit 128 = .ok (.ireturn, 1) := by decide +kernel
theorem dX0_visit_129 : decode cX0_visit 129 = .ok (.iconst 0, 1) := by decide +kernel
theorem dX0_visit_130 : decode cX0_visit 130 = .ok (.ireturn, 1) := by decide +kernel
theorem dX0_readLetter_0 : decode cX0_readLetter 0 = .ok (.aload_n 0, 1) := by decide +kernel
theorem dX0_readLetter_1 : decode cX0_readLetter 1 = .ok (.getfield 19, 3) := by decide +kernel
theorem dX0_readLetter_4 : decode cX0_readLetter 4 = .ok (.aload_n 2, 1) := by decide +kernel
theorem dX0_readLetter_5 : decode cX0_readLetter 5 = .ok (.invokevirtual 55, 3) := by decide +kernel
theorem dX0_readLetter_8 : decode cX0_readLetter 8 = .ok (.if_icmp .ge 15, 3) := by decide +kernel
theorem dX0_readLetter_11 : decode cX0_readLetter 11 = .ok (.aload_n 2, 1) := by decide +kernel
theorem dX0_readLetter_12 : decode cX0_readLetter 12 = .ok (.aload_n 0, 1) := by decide +kernel
theorem dX0_readLetter_13 : decode cX0_readLetter 13 = .ok (.getfield 19, 3) := by decide +kernel
theorem dX0_readLetter_16 : decode cX0_readLetter 16 = .ok (.invokevirtual 87, 3) := by decide +kernel
theorem dX0_readLetter_19 : decode cX0_readLetter 19 = .ok (.iload_n 1, 1) := by decide +kernel
theorem dX0_readLetter_20 : decode cX0_readLetter 20 = .ok (.if_icmp .eq 5, 3) := by decide +kernel
theorem dX0_readLetter_23 : decode cX0_readLetter 23 = .ok (.iconst 0, 1) := by decide +kernel
theorem dX0_readLetter_24 : decode cX0_readLetter 24 = .ok (.ireturn, 1) := by decide +kernel
theorem dX0_readLetter_25 : decode cX0_readLetter 25 = .ok (.aload_n 0, 1) := by decide +kernel
theorem dX0_readLetter_26 : decode cX0_readLetter 26 = .ok (.dup, 1) := by decide +kernel
theorem dX0_readLetter_27 : decode cX0_readLetter 27 = .ok (.getfield 19, 3) := by decide +kernel
theorem dX0_readLetter_30 : decode cX0_readLetter 30 = .ok (.iconst 1, 1) := by decide +kernel
theorem dX0_readLetter_31 : decode cX0_readLetter 31 = .ok (.iadd, 1) := by decide +kernel
theorem dX0_readLetter_32 : decode cX0_readLetter 32 = .ok (.putfield 19, 3) := by decide +kernel
theorem dX0_readLetter_35 : decode cX0_readLetter 35 = .ok (.iconst 1, 1) := by decide +kernel
theorem dX0_readLetter_36 : decode cX0_readLetter 36 = .ok (.ireturn, 1) := by decide +kernel
theorem dX0_choose_0 : decode cX0_choose 0 = .ok (.aload_n 0, 1) := by decide +kernel
theorem dX0_choose_1 : decode cX0_choose 1 = .ok (.getfield 19, 3) := by decide +kernel
theorem dX0_choose_4 : decode cX0_choose 4 = .ok (.aload_n 2, 1) := by decide +kernel
theorem dX0_choose_5 : decode cX0_choose 5 = .ok (.invokevirtual 55, 3) := by decide +kernel
theorem dX0_choose_8 : decode cX0_choose 8 = .ok (.if_icmp .ge 16, 3) := by decide +kernel
theorem dX0_choose_11 : decode cX0_choose 11 = .ok (.iconst 1, 1) := by decide +kernel
theorem dX0_choose_12 : decode cX0_choose 12 = .ok (.aload_n 2, 1) := by decide +kernel
theorem dX0_choose_13 : decode cX0_choose 13 = .ok (.aload_n 0, 1) := by decide +kernel
theorem dX0_choose_14 : decode cX0_choose 14 = .ok (.getfield 19, 3) := by decide +kernel
theorem dX0_choose_17 : decode cX0_choose 17 = .ok (.invokevirtual 87, 3) := by decide +kernel
theorem dX0_choose_20 : decode cX0_choose 20 = .ok (.ishl, 1) := by decide +kernel
theorem dX0_choose_21 : decode cX0_choose 21 = .ok (.goto 4, 3) := by decide +kernel
theorem dX0_choose_24 : decode cX0_choose 24 = .ok (.iconst 0, 1) := by decide +kernel
theorem dX0_choose_25 : decode cX0_choose 25 = .ok (.istore_n 3, 1) := by decide +kernel
theorem dX0_choose_26 : decode cX0_choose 26 = .ok (.aload_n 0, 1) := by decide +kernel
theorem dX0_choose_27 : decode cX0_choose 27 = .ok (.getfield 39, 3) := by decide +kernel
theorem dX0_choose_30 : decode cX0_choose 30 = .ok (.iload_n 1, 1) := by decide +kernel
theorem dX0_choose_31 : decode cX0_choose 31 = .ok (.iload_n 3, 1) := by decide +kernel
theorem dX0_choose_32 : decode cX0_choose 32 = .ok (.invokevirtual 90, 3) := by decide +kernel
theorem dX0_choose_35 : decode cX0_choose 35 = .ok (.istore 4, 2) := by decide +kernel
theorem dX0_choose_37 : decode cX0_choose 37 = .ok (.iload 4, 2) := by decide +kernel
theorem dX0_choose_39 : decode cX0_choose 39 = .ok (.iconst (-1), 1) := by decide +kernel
theorem dX0_choose_40 : decode cX0_choose 40 = .ok (.if_icmp .ne 5, 3) := by decide +kernel
theorem dX0_choose_43 : decode cX0_choose 43 = .ok (.iconst 0, 1) := by decide +kernel
theorem dX0_choose_44 : decode cX0_choose 44 = .ok (.ireturn, 1) := by decide +kernel
theorem dX0_choose_45 : decode cX0_choose 45 = .ok (.aload_n 0, 1) := by decide +kernel
theorem dX0_choose_46 : decode cX0_choose 46 = .ok (.getfield 28, 3) := by decide +kernel
theorem dX0_choose_49 : decode cX0_choose 49 = .ok (.iload 4, 2) := by decide +kernel
theorem dX0_choose_51 : decode cX0_choose 51 = .ok (.invokevirtual 94, 3) := by decide +kernel
theorem dX0_choose_54 : decode cX0_choose 54 = .ok (.aload_n 0, 1) := by decide +kernel
theorem dX0_choose_55 : decode cX0_choose 55 = .ok (.iload 4, 2) := by decide +kernel
theorem dX0_choose_57 : decode cX0_choose 57 = .ok (.ifCond .ne 14, 3) := by decide +kernel
theorem dX0_choose_60 : decode cX0_choose 60 = .ok (.aload_n 0, 1) := by decide +kernel
theorem dX0_choose_61 : decode cX0_choose 61 = .ok (.getfield 35, 3) := by decide +kernel
theorem dX0_choose_64 : decode cX0_choose 64 = .ok (.iload_n 1, 1) := by decide +kernel
theorem dX0_choose_65 : decode cX0_choose 65 = .ok (.invokevirtual 76, 3) := by decide +kernel
theorem dX0_choose_68 : decode cX0_choose 68 = .ok (.goto 11, 3) := by decide +kernel
theorem dX0_choose_71 : decode cX0_choose 71 = .ok (.aload_n 0, 1) := by decide +kernel
theorem dX0_choose_72 : decode cX0_choose 72 = .ok (.getfield 35, 3) := by decide +kernel
theorem dX0_choose_75 : decode cX0_choose 75 = .ok (.iload_n 1, 1) := by decide +kernel
theorem dX0_choose_76 : decode cX0_choose 76 = .ok (.invokevirtual 73, 3) := by decide +kernel
theorem dX0_choose_79 : decode cX0_choose 79 = .ok (.invokevirtual 46, 3) := by decide +kernel
theorem dX0_choose_82 : decode cX0_choose 82 = .ok (.iconst 1, 1) := by decide +kernel
theorem dX0_choose_83 : decode cX0_choose 83 = .ok (.ireturn, 1) := by decide +kernel
theorem dX1_init_0 : decode cX1_init 0 = .ok (.aload_n 0, 1) := by decide +kernel
theorem dX1_init_1 : decode cX1_init 1 = .ok (.invokespecial 3, 3) := by decide +kernel
theorem dX1_init_4 : decode cX1_init 4 = .ok (.aload_n 0, 1) := by decide +kernel
theorem dX1_init_5 : decode cX1_init 5 = .ok (.sipush 369, 3) := by decide +kernel
theorem dX1_init_8 : decode cX1_init 8 = .ok (.newarray .int, 2) := by decide +kernel
theorem dX1_init_10 : decode cX1_init 10 = .ok (.putfield 9, 3) := by decide +kernel
theorem dX1_init_13 : decode cX1_init 13 = .ok (.aload_n 0, 1) := by decide +kernel
theorem dX1_init_14 : decode cX1_init 14 = .ok (.iconst 0, 1) := by decide +kernel
theorem dX1_init_15 : decode cX1_init 15 = .ok (.putfield 15, 3) := by decide +kernel
theorem dX1_init_18 : decode cX1_init 18 = .ok (.aload_n 0, 1) := by decide +kernel
theorem dX1_init_19 : decode cX1_init 19 = .ok (.sipush 6290, 3) := by decide +kernel
theorem dX1_init_22 : decode cX1_init 22 = .ok (.newarray .long, 2) := by decide +kernel
theorem dX1_init_24 : decode cX1_init 24 = .ok (.putfield 19, 3) := by decide +kernel
theorem dX1_init_27 : decode cX1_init 27 = .ok (.aload_n 0, 1) := by decide +kernel
theorem dX1_init_28 : decode cX1_init 28 = .ok (.bipush 23, 2) := by decide +kernel
theorem dX1_init_30 : decode cX1_init 30 = .ok (.newarray .int, 2) := by decide +kernel
theorem dX1_init_32 : decode cX1_init 32 = .ok (.putfield 23, 3) := by decide +kernel
theorem dX1_init_35 : decode cX1_init 35 = .ok (.aload_n 0, 1) := by decide +kernel
theorem dX1_init_36 : decode cX1_init 36 = .ok (.iconst 0, 1) := by decide +kernel
theorem dX1_init_37 : decode cX1_init 37 = .ok (.putfield 26, 3) := by decide +kernel
theorem dX1_init_40 : decode cX1_init 40 = .ok (.aload_n 0, 1) := by decide +kernel
theorem dX1_init_41 : decode cX1_init 41 = .ok (.bipush 17, 2) := by decide +kernel
theorem dX1_init_43 : decode cX1_init 43 = .ok (.newarray .long, 2) := by decide +kernel
theorem dX1_init_45 : decode cX1_init 45 = .ok (.putfield 29, 3) := by decide +kernel
theorem dX1_init_48 : decode cX1_init 48 = .ok (.aload_n 0, 1) := by decide +kernel
theorem dX1_init_49 : decode cX1_init 49 = .ok (.aload_n 1, 1) := by decide +kernel
theorem dX1_init_50 : decode cX1_init 50 = .ok (.putfield 32, 3) := by decide +kernel
theorem dX1_init_53 : decode cX1_init 53 = .ok (.aload_n 0, 1) := by decide +kernel
theorem dX1_init_54 : decode cX1_init 54 = .ok (.aload_n 2, 1) := by decide +kernel
theorem dX1_init_55 : decode cX1_init 55 = .ok (.putfield 36, 3) := by decide +kernel
theorem dX1_init_58 : decode cX1_init 58 = .ok (.aload_n 0, 1) := by decide +kernel
theorem dX1_init_59 : decode cX1_init 59 = .ok (.aload_n 3, 1) := by decide +kernel
theorem dX1_init_60 : decode cX1_init 60 = .ok (.putfield 40, 3) := by decide +kernel
theorem dX1_init_63 : decode cX1_init 63 = .ok (.return_, 1) := by decide +kernel
theorem dX1_spell_0 : decode cX1_spell 0 = .ok (.aload 5, 2) := by decide +kernel
theorem dX1_spell_2 : decode cX1_spell 2 = .ok (.iconst 0, 1) := by decide +kernel
theorem dX1_spell_3 : decode cX1_spell 3 = .ok (.invokevirtual 44, 3) := by decide +kernel
theorem dX1_spell_6 : decode cX1_spell 6 = .ok (.aload_n 0, 1) := by decide +kernel
theorem dX1_spell_7 : decode cX1_spell 7 = .ok (.iload_n 1, 1) := by decide +kernel
theorem dX1_spell_8 : decode cX1_spell 8 = .ok (.iload_n 2, 1) := by decide +kernel
theorem dX1_spell_9 : decode cX1_spell 9 = .ok (.invokevirtual 50, 3) := by decide +kernel
theorem dX1_spell_12 : decode cX1_spell 12 = .ok (.lload_n 3, 1) := by decide +kernel
theorem dX1_spell_13 : decode cX1_spell 13 = .ok (.lstore 6, 2) := by decide +kernel
theorem dX1_spell_15 : decode cX1_spell 15 = .ok (.iload_n 2, 1) := by decide +kernel
theorem dX1_spell_16 : decode cX1_spell 16 = .ok (.iconst 1, 1) := by decide +kernel
theorem dX1_spell_17 : decode cX1_spell 17 = .ok (.isub, 1) := by decide +kernel
theorem dX1_spell_18 : decode cX1_spell 18 = .ok (.istore 8, 2) := by decide +kernel
theorem dX1_spell_20 : decode cX1_spell 20 = .ok (.iload 8, 2) := by decide +kernel
theorem dX1_spell_22 : decode cX1_spell 22 = .ok (.ifCond .lt 21, 3) := by decide +kernel
theorem dX1_spell_25 : decode cX1_spell 25 = .ok (.aload_n 0, 1) := by decide +kernel
theorem dX1_spell_26 : decode cX1_spell 26 = .ok (.iload 8, 2) := by decide +kernel
theorem dX1_spell_28 : decode cX1_spell 28 = .ok (.lload 6, 2) := by decide +kernel
theorem dX1_spell_30 : decode cX1_spell 30 = .ok (.aload 5, 2) := by decide +kernel
theorem dX1_spell_32 : decode cX1_spell 32 = .ok (.invokevirtual 54, 3) := by decide +kernel
theorem dX1_spell_35 : decode cX1_spell 35 = .ok (.lstore 6, 2) := by decide +kernel
theorem dX1_spell_37 : decode cX1_spell 37 = .ok (.iinc 8 (-1), 3) := by decide +kernel
theorem dX1_spell_40 : decode cX1_spell 40 = .ok (.goto (-20), 3) := by decide +kernel
theorem dX1_spell_43 : decode cX1_spell 43 = .ok (.return_, 1) := by decide +kernel
theorem dX1_startPile_0 : decode cX1_startPile 0 = .ok (.iconst 0, 1) := by decide +kernel
theorem dX1_startPile_1 : decode cX1_startPile 1 = .ok (.istore_n 3, 1) := by decide +kernel
theorem dX1_startPile_2 : decode cX1_startPile 2 = .ok (.iload_n 3, 1) := by decide +kernel
theorem dX1_startPile_3 : decode cX1_startPile 3 = .ok (.iload_n 2, 1) := by decide +kernel
theorem dX1_startPile_4 : decode cX1_startPile 4 = .ok (.if_icmp .gt 24, 3) := by decide +kernel
theorem dX1_startPile_7 : decode cX1_startPile 7 = .ok (.aload_n 0, 1) := by decide +kernel
theorem dX1_startPile_8 : decode cX1_startPile 8 = .ok (.getfield 19, 3) := by decide +kernel
theorem dX1_startPile_11 : decode cX1_startPile 11 = .ok (.iload_n 3, 1) := by decide +kernel
theorem dX1_startPile_12 : decode cX1_startPile 12 = .ok (.iload_n 3, 1) := by decide +kernel
theorem dX1_startPile_13 : decode cX1_startPile 13 = .ok (.ifCond .ne 7, 3) := by decide +kernel
theorem dX1_startPile_16 : decode cX1_startPile 16 = .ok (.lconst 1, 1) := by decide +kernel
theorem dX1_startPile_17 : decode cX1_startPile 17 = .ok (.goto 4, 3) := by decide +kernel
theorem dX1_startPile_20 : decode cX1_startPile 20 = .ok (.lconst 0, 1) := by decide +kernel
theorem dX1_startPile_21 : decode cX1_startPile 21 = .ok (.lastore, 1) := by decide +kernel
theorem dX1_startPile_22 : decode cX1_startPile 22 = .ok (.iinc 3 1, 3) := by decide +kernel
theorem dX1_startPile_25 : decode cX1_startPile 25 = .ok (.goto (-23), 3) := by decide +kernel
theorem dX1_startPile_28 : decode cX1_startPile 28 = .ok (.aload_n 0, 1) := by decide +kernel
theorem dX1_startPile_29 : decode cX1_startPile 29 = .ok (.iconst 0, 1) := by decide +kernel
theorem dX1_startPile_30 : decode cX1_startPile 30 = .ok (.putfield 15, 3) := by decide +kernel
theorem dX1_startPile_33 : decode cX1_startPile 33 = .ok (.aload_n 0, 1) := by decide +kernel
theorem dX1_startPile_34 : decode cX1_startPile 34 = .ok (.iload_n 1, 1) := by decide +kernel
theorem dX1_startPile_35 : decode cX1_startPile 35 = .ok (.iload_n 2, 1) := by decide +kernel
theorem dX1_startPile_36 : decode cX1_startPile 36 = .ok (.invokevirtual 58, 3) := by decide +kernel
theorem dX1_startPile_39 : decode cX1_startPile 39 = .ok (.return_, 1) := by decide +kernel
theorem dX1_spellNext_0 : decode cX1_spellNext 0 = .ok (.lload_n 2, 1) := by decide +kernel
theorem dX1_spellNext_1 : decode cX1_spellNext 1 = .ok (.lstore 5, 2) := by decide +kernel
theorem dX1_spellNext_3 : decode cX1_spellNext 3 = .ok (.iconst 0, 1) := by decide +kernel
theorem dX1_spellNext_4 : decode cX1_spellNext 4 = .ok (.istore 7, 2) := by decide +kernel
theorem dX1_spellNext_6 : decode cX1_spellNext 6 = .ok (.iload 7, 2) := by decide +kernel
theorem dX1_spellNext_8 : decode cX1_spellNext 8 = .ok (.bipush 8, 2) := by decide +kernel
theorem dX1_spellNext_10 : decode cX1_spellNext 10 = .ok (.if_icmp .ge 77, 3) := by decide +kernel
theorem dX1_spellNext_13 : decode cX1_spellNext 13 = .ok (.aload_n 0, 1) := by decide +kernel
theorem dX1_spellNext_14 : decode cX1_spellNext 14 = .ok (.iload 7, 2) := by decide +kernel
theorem dX1_spellNext_16 : decode cX1_spellNext 16 = .ok (.invokevirtual 61, 3) := by decide +kernel
theorem dX1_spellNext_19 : decode cX1_spellNext 19 = .ok (.istore 8, 2) := by decide +kernel
theorem dX1_spellNext_21 : decode cX1_spellNext 21 = .ok (.iload 8, 2) := by decide +kernel
theorem dX1_spellNext_23 : decode cX1_spellNext 23 = .ok (.iconst (-1), 1) := by decide +kernel
theorem dX1_spellNext_24 : decode cX1_spellNext 24 = .ok (.if_icmp .eq 57, 3) := by decide +kernel
theorem dX1_spellNext_27 : decode cX1_spellNext 27 = .ok (.aload_n 0, 1) := by decide +kernel
theorem dX1_spellNext_28 : decode cX1_spellNext 28 = .ok (.aload_n 0, 1) := by decide +kernel
theorem dX1_spellNext_29 : decode cX1_spellNext 29 = .ok (.getfield 9, 3) := by decide +kernel
theorem dX1_spellNext_32 : decode cX1_spellNext 32 = .ok (.iload 8, 2) := by decide +kernel
theorem dX1_spellNext_34 : decode cX1_spellNext 34 = .ok (.iaload, 1) := by decide +kernel
theorem dX1_spellNext_35 : decode cX1_spellNext 35 = .ok (.iload 7, 2) := by decide +kernel
theorem dX1_spellNext_37 : decode cX1_spellNext 37 = .ok (.invokevirtual 65, 3) := by decide +kernel
theorem dX1_spellNext_40 : decode cX1_spellNext 40 = .ok (.aload_n 0, 1) := by decide +kernel
theorem dX1_spellNext_41 : decode cX1_spellNext 41 = .ok (.iload 8, 2) := by decide +kernel
theorem dX1_spellNext_43 : decode cX1_spellNext 43 = .ok (.iload_n 1, 1) := by decide +kernel
theorem dX1_spellNext_44 : decode cX1_spellNext 44 = .ok (.invokevirtual 68, 3) := by decide +kernel
theorem dX1_spellNext_47 : decode cX1_spellNext 47 = .ok (.lstore 9, 2) := by decide +kernel
theorem dX1_spellNext_49 : decode cX1_spellNext 49 = .ok (.lload 5, 2) := by decide +kernel
theorem dX1_spellNext_51 : decode cX1_spellNext 51 = .ok (.lload 9, 2) := by decide +kernel
theorem dX1_spellNext_53 : decode cX1_spellNext 53 = .ok (.lcmp, 1) := by decide +kernel
theorem dX1_spellNext_54 : decode cX1_spellNext 54 = .ok (.ifCond .ge 20, 3) := by decide +kernel
theorem dX1_spellNext_57 : decode cX1_spellNext 57 = .ok (.aload_n 0, 1) := by decide +kernel
theorem dX1_spellNext_58 : decode cX1_spellNext 58 = .ok (.iload 8, 2) := by decide +kernel
theorem dX1_spellNext_60 : decode cX1_spellNext 60 = .ok (.iload_n 1, 1) := by decide +kernel
theorem dX1_spellNext_61 : decode cX1_spellNext 61 = .ok (.invokevirtual 72, 3) := by decide +kernel
theorem dX1_spellNext_64 : decode cX1_spellNext 64 = .ok (.aload 4, 2) := by decide +kernel
theorem dX1_spellNext_66 : decode cX1_spellNext 66 = .ok (.iload 7, 2) := by decide +kernel
theorem dX1_spellNext_68 : decode cX1_spellNext 68 = .ok (.invokevirtual 75, 3) := by decide +kernel
theorem dX1_spellNext_71 : decode cX1_spellNext 71 = .ok (.lload 5, 2) := by decide +kernel
theorem dX1_spellNext_73 : decode cX1_spellNext 73 = .ok (.lreturn, 1) := by decide +kernel
theorem dX1_spellNext_74 : decode cX1_spellNext 74 = .ok (.lload 5, 2) := by decide +kernel
theorem dX1_spellNext_76 : decode cX1_spellNext 76 = .ok (.lload 9, 2) := by decide +kernel
theorem dX1_spellNext_78 : decode cX1_spellNext 78 = .ok (.lsub, 1) := by decide +kernel
theorem dX1_spellNext_79 : decode cX1_spellNext 79 = .ok (.lstore 5, 2) := by decide +kernel
theorem dX1_spellNext_81 : decode cX1_spellNext 81 = .ok (.iinc 7 1, 3) := by decide +kernel
theorem dX1_spellNext_84 : decode cX1_spellNext 84 = .ok (.goto (-78), 3) := by decide +kernel
theorem dX1_spellNext_87 : decode cX1_spellNext 87 = .ok (.lload 5, 2) := by decide +kernel
theorem dX1_spellNext_89 : decode cX1_spellNext 89 = .ok (.lreturn, 1) := by decide +kernel
theorem dX1_readerOf_0 : decode cX1_readerOf 0 = .ok (.aload_n 0, 1) := by decide +kernel
theorem dX1_readerOf_1 : decode cX1_readerOf 1 = .ok (.getfield 15, 3) := by decide +kernel
theorem dX1_readerOf_4 : decode cX1_readerOf 4 = .ok (.iconst 1, 1) := by decide +kernel
theorem dX1_readerOf_5 : decode cX1_readerOf 5 = .ok (.isub, 1) := by decide +kernel
theorem dX1_readerOf_6 : decode cX1_readerOf 6 = .ok (.istore_n 2, 1) := by decide +kernel
theorem dX1_readerOf_7 : decode cX1_readerOf 7 = .ok (.iload_n 2, 1) := by decide +kernel
theorem dX1_readerOf_8 : decode cX1_readerOf 8 = .ok (.ifCond .lt 49, 3) := by decide +kernel
theorem dX1_readerOf_11 : decode cX1_readerOf 11 = .ok (.aload_n 0, 1) := by decide +kernel
theorem dX1_readerOf_12 : decode cX1_readerOf 12 = .ok (.getfield 36, 3) := by decide +kernel
theorem dX1_readerOf_15 : decode cX1_readerOf 15 = .ok (.aload_n 0, 1) := by decide +kernel
theorem dX1_readerOf_16 : decode cX1_readerOf 16 = .ok (.getfield 9, 3) := by decide +kernel
theorem dX1_readerOf_19 : decode cX1_readerOf 19 = .ok (.iload_n 2, 1) := by decide +kernel
theorem dX1_readerOf_20 : decode cX1_readerOf 20 = .ok (.iaload, 1) := by decide +kernel
theorem dX1_readerOf_21 : decode cX1_readerOf 21 = .ok (.invokevirtual 78, 3) := by decide +kernel
theorem dX1_readerOf_24 : decode cX1_readerOf 24 = .ok (.iconst 1, 1) := by decide +kernel
theorem dX1_readerOf_25 : decode cX1_readerOf 25 = .ok (.iload_n 1, 1) := by decide +kernel
theorem dX1_readerOf_26 : decode cX1_readerOf 26 = .ok (.ishl, 1) := by decide +kernel
theorem dX1_readerOf_27 : decode cX1_readerOf 27 = .ok (.iand, 1) := by decide +kernel
theorem dX1_readerOf_28 : decode cX1_readerOf 28 = .ok (.ifCond .eq 5, 3) := by decide +kernel
theorem dX1_readerOf_31 : decode cX1_readerOf 31 = .ok (.iload_n 2, 1) := by decide +kernel
theorem dX1_readerOf_32 : decode cX1_readerOf 32 = .ok (.ireturn, 1) := by decide +kernel
theorem dX1_readerOf_33 : decode cX1_readerOf 33 = .ok (.aload_n 0, 1) := by decide +kernel
theorem dX1_readerOf_34 : decode cX1_readerOf 34 = .ok (.getfield 36, 3) := by decide +kernel
theorem dX1_readerOf_37 : decode cX1_readerOf 37 = .ok (.aload_n 0, 1) := by decide +kernel
theorem dX1_readerOf_38 : decode cX1_readerOf 38 = .ok (.getfield 9, 3) := by decide +kernel
theorem dX1_readerOf_41 : decode cX1_readerOf 41 = .ok (.iload_n 2, 1) := by decide +kernel
theorem dX1_readerOf_42 : decode cX1_readerOf 42 = .ok (.iaload, 1) := by decide +kernel
theorem dX1_readerOf_43 : decode cX1_readerOf 43 = .ok (.invokevirtual 83, 3) := by decide +kernel
theorem dX1_readerOf_46 : decode cX1_readerOf 46 = .ok (.ifCond .ne 5, 3) := by decide +kernel
theorem dX1_readerOf_49 : decode cX1_readerOf 49 = .ok (.iconst (-1), 1) := by decide +kernel
theorem dX1_readerOf_50 : decode cX1_readerOf 50 = .ok (.ireturn, 1) := by decide +kernel
theorem dX1_readerOf_51 : decode cX1_readerOf 51 = .ok (.iinc 2 (-1), 3) := by decide +kernel
theorem dX1_readerOf_54 : decode cX1_readerOf 54 = .ok (.goto (-47), 3) := by decide +kernel
theorem dX1_readerOf_57 : decode cX1_readerOf 57 = .ok (.iconst (-1), 1) := by decide +kernel
theorem dX1_readerOf_58 : decode cX1_readerOf 58 = .ok (.ireturn, 1) := by decide +kernel
theorem dX1_goDown_0 : decode cX1_goDown 0 = .ok (.aload_n 0, 1) := by decide +kernel
theorem dX1_goDown_1 : decode cX1_goDown 1 = .ok (.iconst 0, 1) := by decide +kernel
theorem dX1_goDown_2 : decode cX1_goDown 2 = .ok (.putfield 26, 3) := by decide +kernel
theorem dX1_goDown_5 : decode cX1_goDown 5 = .ok (.iload_n 1, 1) := by decide +kernel
theorem dX1_goDown_6 : decode cX1_goDown 6 = .ok (.istore_n 3, 1) := by decide +kernel
theorem dX1_goDown_7 : decode cX1_goDown 7 = .ok (.iconst 0, 1) := by decide +kernel
theorem dX1_goDown_8 : decode cX1_goDown 8 = .ok (.istore 4, 2) := by decide +kernel
theorem dX1_goDown_10 : decode cX1_goDown 10 = .ok (.iload 4, 2) := by decide +kernel
theorem dX1_goDown_12 : decode cX1_goDown 12 = .ok (.bipush 48, 2) := by decide +kernel
theorem dX1_goDown_14 : decode cX1_goDown 14 = .ok (.if_icmp .ge 76, 3) := by decide +kernel
theorem dX1_goDown_17 : decode cX1_goDown 17 = .ok (.aload_n 0, 1) := by decide +kernel
theorem dX1_goDown_18 : decode cX1_goDown 18 = .ok (.getfield 32, 3) := by decide +kernel
theorem dX1_goDown_21 : decode cX1_goDown 21 = .ok (.iload_n 3, 1) := by decide +kernel
theorem dX1_goDown_22 : decode cX1_goDown 22 = .ok (.invokevirtual 87, 3) := by decide +kernel
theorem dX1_goDown_25 : decode cX1_goDown 25 = .ok (.iconst 2, 1) := by decide +kernel
theorem dX1_goDown_26 : decode cX1_goDown 26 = .ok (.if_icmp .eq 64, 3) := by decide +kernel
theorem dX1_goDown_29 : decode cX1_goDown 29 = .ok (.aload_n 0, 1) := by decide +kernel
theorem dX1_goDown_30 : decode cX1_goDown 30 = .ok (.getfield 32, 3) := by decide +kernel
theorem dX1_goDown_33 : decode cX1_goDown 33 = .ok (.iload_n 3, 1) := by decide +kernel
theorem dX1_goDown_34 : decode cX1_goDown 34 = .ok (.invokevirtual 87, 3) := by decide +kernel
theorem dX1_goDown_37 : decode cX1_goDown 37 = .ok (.iconst 3, 1) := by decide +kernel
theorem dX1_goDown_38 : decode cX1_goDown 38 = .ok (.if_icmp .ne 39, 3) := by decide +kernel
theorem dX1_goDown_41 : decode cX1_goDown 41 = .ok (.aload_n 0, 1) := by decide +kernel
theorem dX1_goDown_42 : decode cX1_goDown 42 = .ok (.getfield 26, 3) := by decide +kernel
theorem dX1_goDown_45 : decode cX1_goDown 45 = .ok (.bipush 23, 2) := by decide +kernel
theorem dX1_goDown_47 : decode cX1_goDown 47 = .ok (.if_icmp .ge 30, 3) := by decide +kernel
theorem dX1_goDown_50 : decode cX1_goDown 50 = .ok (.aload_n 0, 1) := by decide +kernel
theorem dX1_goDown_51 : decode cX1_goDown 51 = .ok (.getfield 23, 3) := by decide +kernel
theorem dX1_goDown_54 : decode cX1_goDown 54 = .ok (.aload_n 0, 1) := by decide +kernel
theorem dX1_goDown_55 : decode cX1_goDown 55 = .ok (.getfield 26, 3) := by decide +kernel
theorem dX1_goDown_58 : decode cX1_goDown 58 = .ok (.aload_n 0, 1) := by decide +kernel
theorem dX1_goDown_59 : decode cX1_goDown 59 = .ok (.getfield 32, 3) := by decide +kernel
theorem dX1_goDown_62 : decode cX1_goDown 62 = .ok (.iload_n 3, 1) := by decide +kernel
theorem dX1_goDown_63 : decode cX1_goDown 63 = .ok (.invokevirtual 92, 3) := by decide +kernel
theorem dX1_goDown_66 : decode cX1_goDown 66 = .ok (.iastore, 1) := by decide +kernel
theorem dX1_goDown_67 : decode cX1_goDown 67 = .ok (.aload_n 0, 1) := by decide +kernel
theorem dX1_goDown_68 : decode cX1_goDown 68 = .ok (.dup, 1) := by decide +kernel
theorem dX1_goDown_69 : decode cX1_goDown 69 = .ok (.getfield 26, 3) := by decide +kernel
theorem dX1_goDown_72 : decode cX1_goDown 72 = .ok (.iconst 1, 1) := by decide +kernel
theorem dX1_goDown_73 : decode cX1_goDown 73 = .ok (.iadd, 1) := by decide +kernel
theorem dX1_goDown_74 : decode cX1_goDown 74 = .ok (.putfield 26, 3) := by decide +kernel
theorem dX1_goDown_77 : decode cX1_goDown 77 = .ok (.aload_n 0, 1) := by decide +kernel
theorem dX1_goDown_78 : decode cX1_goDown 78 = .ok (.iload_n 3, 1) := by decide +kernel
theorem dX1_goDown_79 : decode cX1_goDown 79 = .ok (.iload_n 2, 1) := by decide +kernel
theorem dX1_goDown_80 : decode cX1_goDown 80 = .ok (.invokevirtual 95, 3) := by decide +kernel
theorem dX1_goDown_83 : decode cX1_goDown 83 = .ok (.istore_n 3, 1) := by decide +kernel
theorem dX1_goDown_84 : decode cX1_goDown 84 = .ok (.iinc 4 1, 3) := by decide +kernel
theorem dX1_goDown_87 : decode cX1_goDown 87 = .ok (.goto (-77), 3) := by decide +kernel
theorem dX1_goDown_90 : decode cX1_goDown 90 = .ok (.return_, 1) := by decide +kernel
theorem dX1_below_0 : decode cX1_below 0 = .ok (.aload_n 0, 1) := by decide +kernel
theorem dX1_below_1 : decode cX1_below 1 = .ok (.getfield 32, 3) := by decide +kernel
theorem dX1_below_4 : decode cX1_below 4 = .ok (.iload_n 1, 1) := by decide +kernel
theorem dX1_below_5 : decode cX1_below 5 = .ok (.invokevirtual 87, 3) := by decide +kernel
theorem dX1_below_8 : decode cX1_below 8 = .ok (.iconst 5, 1) := by decide +kernel
theorem dX1_below_9 : decode cX1_below 9 = .ok (.if_icmp .ne 12, 3) := by decide +kernel
theorem dX1_below_12 : decode cX1_below 12 = .ok (.aload_n 0, 1) := by decide +kernel
theorem dX1_below_13 : decode cX1_below 13 = .ok (.getfield 36, 3) := by decide +kernel
theorem dX1_below_16 : decode cX1_below 16 = .ok (.iload_n 1, 1) := by decide +kernel
theorem dX1_below_17 : decode cX1_below 17 = .ok (.invokevirtual 99, 3) := by decide +kernel
theorem dX1_below_20 : decode cX1_below 20 = .ok (.ireturn, 1) := by decide +kernel
theorem dX1_below_21 : decode cX1_below 21 = .ok (.aload_n 0, 1) := by decide +kernel
theorem dX1_below_22 : decode cX1_below 22 = .ok (.getfield 32, 3) := by decide +kernel
theorem dX1_below_25 : decode cX1_below 25 = .ok (.iload_n 1, 1) := by decide +kernel
theorem dX1_below_26 : decode cX1_below 26 = .ok (.invokevirtual 87, 3) := by decide +kernel
theorem dX1_below_29 : decode cX1_below 29 = .ok (.iconst 4, 1) := by decide +kernel
theorem dX1_below_30 : decode cX1_below 30 = .ok (.if_icmp .ne 27, 3) := by decide +kernel
theorem dX1_below_33 : decode cX1_below 33 = .ok (.aload_n 0, 1) := by decide +kernel
theorem dX1_below_34 : decode cX1_below 34 = .ok (.getfield 36, 3) := by decide +kernel
theorem dX1_below_37 : decode cX1_below 37 = .ok (.iload_n 1, 1) := by decide +kernel
theorem dX1_below_38 : decode cX1_below 38 = .ok (.iconst 1, 1) := by decide +kernel
theorem dX1_below_39 : decode cX1_below 39 = .ok (.iload_n 2, 1) := by decide +kernel
theorem dX1_below_40 : decode cX1_below 40 = .ok (.ishl, 1) := by decide +kernel
theorem dX1_below_41 : decode cX1_below 41 = .ok (.invokevirtual 102, 3) := by decide +kernel
theorem dX1_below_44 : decode cX1_below 44 = .ok (.iconst 1, 1) := by decide +kernel
theorem dX1_below_45 : decode cX1_below 45 = .ok (.if_icmp .ne 12, 3) := by decide +kernel
theorem dX1_below_48 : decode cX1_below 48 = .ok (.aload_n 0, 1) := by decide +kernel
theorem dX1_below_49 : decode cX1_below 49 = .ok (.getfield 32, 3) := by decide +kernel
theorem dX1_below_52 : decode cX1_below 52 = .ok (.iload_n 1, 1) := by decide +kernel
theorem dX1_below_53 : decode cX1_below 53 = .ok (.invokevirtual 92, 3) := by decide +kernel
theorem dX1_below_56 : decode cX1_below 56 = .ok (.ireturn, 1) := by decide +kernel
theorem dX1_below_57 : decode cX1_below 57 = .ok (.aload_n 0, 1) := by decide +kernel
theorem dX1_below_58 : decode cX1_below 58 = .ok (.getfield 32, 3) := by decide +kernel
theorem dX1_below_61 : decode cX1_below 61 = .ok (.iload_n 1, 1) := by decide +kernel
theorem dX1_below_62 : decode cX1_below 62 = .ok (.invokevirtual 105, 3) := by decide +kernel
theorem dX1_below_65 : decode cX1_below 65 = .ok (.ireturn, 1) := by decide +kernel
theorem dX1_wordsAhead_0 : decode cX1_wordsAhead 0 = .ok (.aload_n 0, 1) := by decide +kernel
theorem dX1_wordsAhead_1 : decode cX1_wordsAhead 1 = .ok (.getfield 19, 3) := by decide +kernel
theorem dX1_wordsAhead_4 : decode cX1_wordsAhead 4 = .ok (.iload_n 1, 1) := by decide +kernel
theorem dX1_wordsAhead_5 : decode cX1_wordsAhead 5 = .ok (.bipush 17, 2) := by decide +kernel
theorem dX1_wordsAhead_7 : decode cX1_wordsAhead 7 = .ok (.imul, 1) := by decide +kernel
theorem dX1_wordsAhead_8 : decode cX1_wordsAhead 8 = .ok (.aload_n 0, 1) := by decide +kernel
theorem dX1_wordsAhead_9 : decode cX1_wordsAhead 9 = .ok (.getfield 29, 3) := by decide +kernel
theorem dX1_wordsAhead_12 : decode cX1_wordsAhead 12 = .ok (.iconst 0, 1) := by decide +kernel
theorem dX1_wordsAhead_13 : decode cX1_wordsAhead 13 = .ok (.iload_n 2, 1) := by decide +kernel
theorem dX1_wordsAhead_14 : decode cX1_wordsAhead 14 = .ok (.iconst 1, 1) := by decide +kernel
theorem dX1_wordsAhead_15 : decode cX1_wordsAhead 15 = .ok (.iadd, 1) := by decide +kernel
theorem dX1_wordsAhead_16 : decode cX1_wordsAhead 16 = .ok (.invokestatic 108, 3) := by decide +kernel
theorem dX1_wordsAhead_19 : decode cX1_wordsAhead 19 = .ok (.iconst 0, 1) := by decide +kernel
theorem dX1_wordsAhead_20 : decode cX1_wordsAhead 20 = .ok (.istore_n 3, 1) := by decide +kernel
theorem dX1_wordsAhead_21 : decode cX1_wordsAhead 21 = .ok (.iload_n 3, 1) := by decide +kernel
theorem dX1_wordsAhead_22 : decode cX1_wordsAhead 22 = .ok (.aload_n 0, 1) := by decide +kernel
theorem dX1_wordsAhead_23 : decode cX1_wordsAhead 23 = .ok (.getfield 26, 3) := by decide +kernel
theorem dX1_wordsAhead_26 : decode cX1_wordsAhead 26 = .ok (.if_icmp .ge 28, 3) := by decide +kernel
theorem dX1_wordsAhead_29 : decode cX1_wordsAhead 29 = .ok (.aload_n 0, 1) := by decide +kernel
theorem dX1_wordsAhead_30 : decode cX1_wordsAhead 30 = .ok (.getfield 40, 3) := by decide +kernel
theorem dX1_wordsAhead_33 : decode cX1_wordsAhead 33 = .ok (.aload_n 0, 1) := by decide +kernel
theorem dX1_wordsAhead_34 : decode cX1_wordsAhead 34 = .ok (.getfield 29, 3) := by decide +kernel
theorem dX1_wordsAhead_37 : decode cX1_wordsAhead 37 = .ok (.iconst 0, 1) := by decide +kernel
theorem dX1_wordsAhead_38 : decode cX1_wordsAhead 38 = .ok (.aload_n 0, 1) := by decide +kernel
theorem dX1_wordsAhead_39 : decode cX1_wordsAhead 39 = .ok (.getfield 23, 3) := by decide +kernel
theorem dX1_wordsAhead_42 : decode cX1_wordsAhead 42 = .ok (.iload_n 3, 1) := by decide +kernel
theorem dX1_wordsAhead_43 : decode cX1_wordsAhead 43 = .ok (.iaload, 1) := by decide +kernel
theorem dX1_wordsAhead_44 : decode cX1_wordsAhead 44 = .ok (.iload_n 2, 1) := by decide +kernel
theorem dX1_wordsAhead_45 : decode cX1_wordsAhead 45 = .ok (.invokevirtual 114, 3) := by decide +kernel
theorem dX1_wordsAhead_48 : decode cX1_wordsAhead 48 = .ok (.iinc 3 1, 3) := by decide +kernel
theorem dX1_wordsAhead_51 : decode cX1_wordsAhead 51 = .ok (.goto (-30), 3) := by decide +kernel
theorem dX1_wordsAhead_54 : decode cX1_wordsAhead 54 = .ok (.aload_n 0, 1) := by decide +kernel
theorem dX1_wordsAhead_55 : decode cX1_wordsAhead 55 = .ok (.getfield 29, 3) := by decide +kernel
theorem dX1_wordsAhead_58 : decode cX1_wordsAhead 58 = .ok (.iload_n 2, 1) := by decide +kernel
theorem dX1_wordsAhead_59 : decode cX1_wordsAhead 59 = .ok (.laload, 1) := by decide +kernel
theorem dX1_wordsAhead_60 : decode cX1_wordsAhead 60 = .ok (.lreturn, 1) := by decide +kernel
theorem dX1_takeFresh_0 : decode cX1_takeFresh 0 = .ok (.aload_n 0, 1) := by decide +kernel
theorem dX1_takeFresh_1 : decode cX1_takeFresh 1 = .ok (.iload_n 1, 1) := by decide +kernel
theorem dX1_takeFresh_2 : decode cX1_takeFresh 2 = .ok (.putfield 15, 3) := by decide +kernel
theorem dX1_takeFresh_5 : decode cX1_takeFresh 5 = .ok (.iconst 0, 1) := by decide +kernel
theorem dX1_takeFresh_6 : decode cX1_takeFresh 6 = .ok (.istore_n 3, 1) := by decide +kernel
theorem dX1_takeFresh_7 : decode cX1_takeFresh 7 = .ok (.iload_n 3, 1) := by decide +kernel
theorem dX1_takeFresh_8 : decode cX1_takeFresh 8 = .ok (.aload_n 0, 1) := by decide +kernel
theorem dX1_takeFresh_9 : decode cX1_takeFresh 9 = .ok (.getfield 26, 3) := by decide +kernel
theorem dX1_takeFresh_12 : decode cX1_takeFresh 12 = .ok (.if_icmp .ge 20, 3) := by decide +kernel
theorem dX1_takeFresh_15 : decode cX1_takeFresh 15 = .ok (.aload_n 0, 1) := by decide +kernel
theorem dX1_takeFresh_16 : decode cX1_takeFresh 16 = .ok (.aload_n 0, 1) := by decide +kernel
theorem dX1_takeFresh_17 : decode cX1_takeFresh 17 = .ok (.getfield 23, 3) := by decide +kernel
theorem dX1_takeFresh_20 : decode cX1_takeFresh 20 = .ok (.iload_n 3, 1) := by decide +kernel
theorem dX1_takeFresh_21 : decode cX1_takeFresh 21 = .ok (.iaload, 1) := by decide +kernel
theorem dX1_takeFresh_22 : decode cX1_takeFresh 22 = .ok (.iload_n 2, 1) := by decide +kernel
theorem dX1_takeFresh_23 : decode cX1_takeFresh 23 = .ok (.invokevirtual 58, 3) := by decide +kernel
theorem dX1_takeFresh_26 : decode cX1_takeFresh 26 = .ok (.iinc 3 1, 3) := by decide +kernel
theorem dX1_takeFresh_29 : decode cX1_takeFresh 29 = .ok (.goto (-22), 3) := by decide +kernel
theorem dX1_takeFresh_32 : decode cX1_takeFresh 32 = .ok (.return_, 1) := by decide +kernel
theorem dX1_pileUp_0 : decode cX1_pileUp 0 = .ok (.aload_n 0, 1) := by decide +kernel
theorem dX1_pileUp_1 : decode cX1_pileUp 1 = .ok (.getfield 15, 3) := by decide +kernel
theorem dX1_pileUp_4 : decode cX1_pileUp 4 = .ok (.sipush 369, 3) := by decide +kernel
theorem dX1_pileUp_7 : decode cX1_pileUp 7 = .ok (.if_icmp .lt 4, 3) := by decide +kernel
theorem dX1_pileUp_10 : decode cX1_pileUp 10 = .ok (.return_, 1) := by decide +kernel
theorem dX1_pileUp_11 : decode cX1_pileUp 11 = .ok (.aload_n 0, 1) := by decide +kernel
theorem dX1_pileUp_12 : decode cX1_pileUp 12 = .ok (.getfield 15, 3) := by decide +kernel
theorem dX1_pileUp_15 : decode cX1_pileUp 15 = .ok (.iconst 1, 1) := by decide +kernel
theorem dX1_pileUp_16 : decode cX1_pileUp 16 = .ok (.iadd, 1) := by decide +kernel
theorem dX1_pileUp_17 : decode cX1_pileUp 17 = .ok (.bipush 17, 2) := by decide +kernel
theorem dX1_pileUp_19 : decode cX1_pileUp 19 = .ok (.imul, 1) := by decide +kernel
theorem dX1_pileUp_20 : decode cX1_pileUp 20 = .ok (.istore_n 3, 1) := by decide +kernel
theorem dX1_pileUp_21 : decode cX1_pileUp 21 = .ok (.aload_n 0, 1) := by decide +kernel
theorem dX1_pileUp_22 : decode cX1_pileUp 22 = .ok (.getfield 19, 3) := by decide +kernel
theorem dX1_pileUp_25 : decode cX1_pileUp 25 = .ok (.aload_n 0, 1) := by decide +kernel
theorem dX1_pileUp_26 : decode cX1_pileUp 26 = .ok (.getfield 15, 3) := by decide +kernel
theorem dX1_pileUp_29 : decode cX1_pileUp 29 = .ok (.bipush 17, 2) := by decide +kernel
theorem dX1_pileUp_31 : decode cX1_pileUp 31 = .ok (.imul, 1) := by decide +kernel
theorem dX1_pileUp_32 : decode cX1_pileUp 32 = .ok (.aload_n 0, 1) := by decide +kernel
theorem dX1_pileUp_33 : decode cX1_pileUp 33 = .ok (.getfield 19, 3) := by decide +kernel
theorem dX1_pileUp_36 : decode cX1_pileUp 36 = .ok (.iload_n 3, 1) := by decide +kernel
theorem dX1_pileUp_37 : decode cX1_pileUp 37 = .ok (.iload_n 2, 1) := by decide +kernel
theorem dX1_pileUp_38 : decode cX1_pileUp 38 = .ok (.iconst 1, 1) := by decide +kernel
theorem dX1_pileUp_39 : decode cX1_pileUp 39 = .ok (.iadd, 1) := by decide +kernel
theorem dX1_pileUp_40 : decode cX1_pileUp 40 = .ok (.invokestatic 108, 3) := by decide +kernel
theorem dX1_pileUp_43 : decode cX1_pileUp 43 = .ok (.aload_n 0, 1) := by decide +kernel
theorem dX1_pileUp_44 : decode cX1_pileUp 44 = .ok (.getfield 40, 3) := by decide +kernel
theorem dX1_pileUp_47 : decode cX1_pileUp 47 = .ok (.aload_n 0, 1) := by decide +kernel
theorem dX1_pileUp_48 : decode cX1_pileUp 48 = .ok (.getfield 19, 3) := by decide +kernel
theorem dX1_pileUp_51 : decode cX1_pileUp 51 = .ok (.iload_n 3, 1) := by decide +kernel
theorem dX1_pileUp_52 : decode cX1_pileUp 52 = .ok (.iload_n 1, 1) := by decide +kernel
theorem dX1_pileUp_53 : decode cX1_pileUp 53 = .ok (.iload_n 2, 1) := by decide +kernel
theorem dX1_pileUp_54 : decode cX1_pileUp 54 = .ok (.invokevirtual 114, 3) := by decide +kernel
theorem dX1_pileUp_57 : decode cX1_pileUp 57 = .ok (.aload_n 0, 1) := by decide +kernel
theorem dX1_pileUp_58 : decode cX1_pileUp 58 = .ok (.getfield 9, 3) := by decide +kernel
theorem dX1_pileUp_61 : decode cX1_pileUp 61 = .ok (.aload_n 0, 1) := by decide +kernel
theorem dX1_pileUp_62 : decode cX1_pileUp 62 = .ok (.getfield 15, 3) := by decide +kernel
theorem dX1_pileUp_65 : decode cX1_pileUp 65 = .ok (.iload_n 1, 1) := by decide +kernel
theorem dX1_pileUp_66 : decode cX1_pileUp 66 = .ok (.iastore, 1) := by decide +kernel
theorem dX1_pileUp_67 : decode cX1_pileUp 67 = .ok (.aload_n 0, 1) := by decide +kernel
theorem dX1_pileUp_68 : decode cX1_pileUp 68 = .ok (.dup, 1) := by decide +kernel
theorem dX1_pileUp_69 : decode cX1_pileUp 69 = .ok (.getfield 15, 3) := by decide +kernel
theorem dX1_pileUp_72 : decode cX1_pileUp 72 = .ok (.iconst 1, 1) := by decide +kernel
theorem dX1_pileUp_73 : decode cX1_pileUp 73 = .ok (.iadd, 1) := by decide +kernel
theorem dX1_pileUp_74 : decode cX1_pileUp 74 = .ok (.putfield 15, 3) := by decide +kernel
theorem dX1_pileUp_77 : decode cX1_pileUp 77 = .ok (.return_, 1) := by decide +kernel
theorem dX2_init_0 : decode cX2_init 0 = .ok (.aload_n 0, 1) := by decide +kernel
theorem dX2_init_1 : decode cX2_init 1 = .ok (.invokespecial 3, 3) := by decide +kernel
theorem dX2_init_4 : decode cX2_init 4 = .ok (.aload_n 0, 1) := by decide +kernel
theorem dX2_init_5 : decode cX2_init 5 = .ok (.sipush 256, 3) := by decide +kernel
theorem dX2_init_8 : decode cX2_init 8 = .ok (.newarray .long, 2) := by decide +kernel
theorem dX2_init_10 : decode cX2_init 10 = .ok (.putfield 9, 3) := by decide +kernel
theorem dX2_init_13 : decode cX2_init 13 = .ok (.aload_n 0, 1) := by decide +kernel
theorem dX2_init_14 : decode cX2_init 14 = .ok (.iconst 0, 1) := by decide +kernel
theorem dX2_init_15 : decode cX2_init 15 = .ok (.putfield 15, 3) := by decide +kernel
theorem dX2_init_18 : decode cX2_init 18 = .ok (.return_, 1) := by decide +kernel
theorem dX2_forgetAll_0 : decode cX2_forgetAll 0 = .ok (.aload_n 0, 1) := by decide +kernel
theorem dX2_forgetAll_1 : decode cX2_forgetAll 1 = .ok (.iconst 0, 1) := by decide +kernel
theorem dX2_forgetAll_2 : decode cX2_forgetAll 2 = .ok (.putfield 15, 3) := by decide +kernel
theorem dX2_forgetAll_5 : decode cX2_forgetAll 5 = .ok (.return_, 1) := by decide +kernel
theorem dX2_add_0 : decode cX2_add 0 = .ok (.aload_n 0, 1) := by decide +kernel
theorem dX2_add_1 : decode cX2_add 1 = .ok (.getfield 15, 3) := by decide +kernel
theorem dX2_add_4 : decode cX2_add 4 = .ok (.sipush 16384, 3) := by decide +kernel
theorem dX2_add_7 : decode cX2_add 7 = .ok (.if_icmp .lt 4, 3) := by decide +kernel
theorem dX2_add_10 : decode cX2_add 10 = .ok (.return_, 1) := by decide +kernel
theorem dX2_add_11 : decode cX2_add 11 = .ok (.aload_n 0, 1) := by decide +kernel
theorem dX2_add_12 : decode cX2_add 12 = .ok (.getfield 15, 3) := by decide +kernel
theorem dX2_add_15 : decode cX2_add 15 = .ok (.bipush 64, 2) := by decide +kernel
theorem dX2_add_17 : decode cX2_add 17 = .ok (.idiv, 1) := by decide +kernel
theorem dX2_add_18 : decode cX2_add 18 = .ok (.istore_n 2, 1) := by decide +kernel
theorem dX2_add_19 : decode cX2_add 19 = .ok (.lconst 1, 1) := by decide +kernel
theorem dX2_add_20 : decode cX2_add 20 = .ok (.aload_n 0, 1) := by decide +kernel
theorem dX2_add_21 : decode cX2_add 21 = .ok (.getfield 15, 3) := by decide +kernel
theorem dX2_add_24 : decode cX2_add 24 = .ok (.bipush 64, 2) := by decide +kernel
theorem dX2_add_26 : decode cX2_add 26 = .ok (.irem, 1) := by decide +kernel
theorem dX2_add_27 : decode cX2_add 27 = .ok (.lshl, 1) := by decide +kernel
theorem dX2_add_28 : decode cX2_add 28 = .ok (.lstore_n 3, 1) := by decide +kernel
theorem dX2_add_29 : decode cX2_add 29 = .ok (.aload_n 0, 1) := by decide +kernel
theorem dX2_add_30 : decode cX2_add 30 = .ok (.getfield 9, 3) := by decide +kernel
theorem dX2_add_33 : decode cX2_add 33 = .ok (.iload_n 2, 1) := by decide +kernel
theorem dX2_add_34 : decode cX2_add 34 = .ok (.iload_n 1, 1) := by decide +kernel
theorem dX2_add_35 : decode cX2_add 35 = .ok (.iconst 1, 1) := by decide +kernel
theorem dX2_add_36 : decode cX2_add 36 = .ok (.if_icmp .ne 14, 3) := by decide +kernel
theorem dX2_add_39 : decode cX2_add 39 = .ok (.aload_n 0, 1) := by decide +kernel
theorem dX2_add_40 : decode cX2_add 40 = .ok (.getfield 9, 3) := by decide +kernel
theorem dX2_add_43 : decode cX2_add 43 = .ok (.iload_n 2, 1) := by decide +kernel
theorem dX2_add_44 : decode cX2_add 44 = .ok (.laload, 1) := by decide +kernel
theorem dX2_add_45 : decode cX2_add 45 = .ok (.lload_n 3, 1) := by decide +kernel
theorem dX2_add_46 : decode cX2_add 46 = .ok (.lor, 1) := by decide +kernel
theorem dX2_add_47 : decode cX2_add 47 = .ok (.goto 15, 3) := by decide +kernel
theorem dX2_add_50 : decode cX2_add 50 = .ok (.aload_n 0, 1) := by decide +kernel
theorem dX2_add_51 : decode cX2_add 51 = .ok (.getfield 9, 3) := by decide +kernel
theorem dX2_add_54 : decode cX2_add 54 = .ok (.iload_n 2, 1) := by decide +kernel
theorem dX2_add_55 : decode cX2_add 55 = .ok (.laload, 1) := by decide +kernel
theorem dX2_add_56 : decode cX2_add 56 = .ok (.lload_n 3, 1) := by decide +kernel
theorem dX2_add_57 : decode cX2_add 57 = .ok (.ldc2_w 19, 3) := by decide +kernel
theorem dX2_add_60 : decode cX2_add 60 = .ok (.lxor, 1) := by decide +kernel
theorem dX2_add_61 : decode cX2_add 61 = .ok (.land, 1) := by decide +kernel
theorem dX2_add_62 : decode cX2_add 62 = .ok (.lastore, 1) := by decide +kernel
theorem dX2_add_63 : decode cX2_add 63 = .ok (.aload_n 0, 1) := by decide +kernel
theorem dX2_add_64 : decode cX2_add 64 = .ok (.dup, 1) := by decide +kernel
theorem dX2_add_65 : decode cX2_add 65 = .ok (.getfield 15, 3) := by decide +kernel
theorem dX2_add_68 : decode cX2_add 68 = .ok (.iconst 1, 1) := by decide +kernel
theorem dX2_add_69 : decode cX2_add 69 = .ok (.iadd, 1) := by decide +kernel
theorem dX2_add_70 : decode cX2_add 70 = .ok (.putfield 15, 3) := by decide +kernel
theorem dX2_add_73 : decode cX2_add 73 = .ok (.return_, 1) := by decide +kernel
theorem dX2_size_0 : decode cX2_size 0 = .ok (.aload_n 0, 1) := by decide +kernel
theorem dX2_size_1 : decode cX2_size 1 = .ok (.getfield 15, 3) := by decide +kernel
theorem dX2_size_4 : decode cX2_size 4 = .ok (.ireturn, 1) := by decide +kernel
theorem dX2_at_0 : decode cX2_at 0 = .ok (.aload_n 0, 1) := by decide +kernel
theorem dX2_at_1 : decode cX2_at 1 = .ok (.getfield 9, 3) := by decide +kernel
theorem dX2_at_4 : decode cX2_at 4 = .ok (.iload_n 1, 1) := by decide +kernel
theorem dX2_at_5 : decode cX2_at 5 = .ok (.bipush 64, 2) := by decide +kernel
theorem dX2_at_7 : decode cX2_at 7 = .ok (.idiv, 1) := by decide +kernel
theorem dX2_at_8 : decode cX2_at 8 = .ok (.laload, 1) := by decide +kernel
theorem dX2_at_9 : decode cX2_at 9 = .ok (.iload_n 1, 1) := by decide +kernel
theorem dX2_at_10 : decode cX2_at 10 = .ok (.bipush 64, 2) := by decide +kernel
theorem dX2_at_12 : decode cX2_at 12 = .ok (.irem, 1) := by decide +kernel
theorem dX2_at_13 : decode cX2_at 13 = .ok (.lushr, 1) := by decide +kernel
theorem dX2_at_14 : decode cX2_at 14 = .ok (.lconst 1, 1) := by decide +kernel
theorem dX2_at_15 : decode cX2_at 15 = .ok (.land, 1) := by decide +kernel
theorem dX2_at_16 : decode cX2_at 16 = .ok (.l2i, 1) := by decide +kernel
theorem dX2_at_17 : decode cX2_at 17 = .ok (.ireturn, 1) := by decide +kernel
theorem dX3_init_0 : decode cX3_init 0 = .ok (.aload_n 0, 1) := by decide +kernel
theorem dX3_init_1 : decode cX3_init 1 = .ok (.invokespecial 3, 3) := by decide +kernel
theorem dX3_init_4 : decode cX3_init 4 = .ok (.aload_n 0, 1) := by decide +kernel
theorem dX3_init_5 : decode cX3_init 5 = .ok (.bipush 48, 2) := by decide +kernel
theorem dX3_init_7 : decode cX3_init 7 = .ok (.bipush 17, 2) := by decide +kernel
theorem dX3_init_9 : decode cX3_init 9 = .ok (.multianewarray 9 2, 4) := by decide +kernel
theorem dX3_init_13 : decode cX3_init 13 = .ok (.putfield 11, 3) := by decide +kernel
theorem dX3_init_16 : decode cX3_init 16 = .ok (.aload_n 0, 1) := by decide +kernel
theorem dX3_init_17 : decode cX3_init 17 = .ok (.aload_n 1, 1) := by decide +kernel
theorem dX3_init_18 : decode cX3_init 18 = .ok (.putfield 16, 3) := by decide +kernel
theorem dX3_init_21 : decode cX3_init 21 = .ok (.aload_n 0, 1) := by decide +kernel
theorem dX3_init_22 : decode cX3_init 22 = .ok (.aload_n 2, 1) := by decide +kernel
theorem dX3_init_23 : decode cX3_init 23 = .ok (.putfield 20, 3) := by decide +kernel
theorem dX3_init_26 : decode cX3_init 26 = .ok (.return_, 1) := by decide +kernel
theorem dX3_words_0 : decode cX3_words 0 = .ok (.aload_n 0, 1) := by decide +kernel
theorem dX3_words_1 : decode cX3_words 1 = .ok (.getfield 11, 3) := by decide +kernel
theorem dX3_words_4 : decode cX3_words 4 = .ok (.iload_n 1, 1) := by decide +kernel
theorem dX3_words_5 : decode cX3_words 5 = .ok (.aaload, 1) := by decide +kernel
theorem dX3_words_6 : decode cX3_words 6 = .ok (.iload_n 2, 1) := by decide +kernel
theorem dX3_words_7 : decode cX3_words 7 = .ok (.laload, 1) := by decide +kernel
theorem dX3_words_8 : decode cX3_words 8 = .ok (.lreturn, 1) := by decide +kernel
theorem dX3_countTo_0 : decode cX3_countTo 0 = .ok (.iconst 0, 1) := by decide +kernel
theorem dX3_countTo_1 : decode cX3_countTo 1 = .ok (.istore_n 2, 1) := by decide +kernel
theorem dX3_countTo_2 : decode cX3_countTo 2 = .ok (.iload_n 2, 1) := by decide +kernel
theorem dX3_countTo_3 : decode cX3_countTo 3 = .ok (.iload_n 1, 1) := by decide +kernel
theorem dX3_countTo_4 : decode cX3_countTo 4 = .ok (.if_icmp .gt 14, 3) := by decide +kernel
theorem dX3_countTo_7 : decode cX3_countTo 7 = .ok (.aload_n 0, 1) := by decide +kernel
theorem dX3_countTo_8 : decode cX3_countTo 8 = .ok (.iload_n 2, 1) := by decide +kernel
theorem dX3_countTo_9 : decode cX3_countTo 9 = .ok (.invokevirtual 24, 3) := by decide +kernel
theorem dX3_countTo_12 : decode cX3_countTo 12 = .ok (.iinc 2 1, 3) := by decide +kernel
theorem dX3_countTo_15 : decode cX3_countTo 15 = .ok (.goto (-13), 3) := by decide +kernel
theorem dX3_countTo_18 : decode cX3_countTo 18 = .ok (.return_, 1) := by decide +kernel
theorem dX3_lengthen_0 : decode cX3_lengthen 0 = .ok (.iload 4, 2) := by decide +kernel
theorem dX3_lengthen_2 : decode cX3_lengthen 2 = .ok (.istore 5, 2) := by decide +kernel
theorem dX3_lengthen_4 : decode cX3_lengthen 4 = .ok (.iload 5, 2) := by decide +kernel
theorem dX3_lengthen_6 : decode cX3_lengthen 6 = .ok (.ifCond .lt 60, 3) := by decide +kernel
theorem dX3_lengthen_9 : decode cX3_lengthen 9 = .ok (.lconst 0, 1) := by decide +kernel
theorem dX3_lengthen_10 : decode cX3_lengthen 10 = .ok (.lstore 6, 2) := by decide +kernel
theorem dX3_lengthen_12 : decode cX3_lengthen 12 = .ok (.iconst 0, 1) := by decide +kernel
theorem dX3_lengthen_13 : decode cX3_lengthen 13 = .ok (.istore 8, 2) := by decide +kernel
theorem dX3_lengthen_15 : decode cX3_lengthen 15 = .ok (.iload 8, 2) := by decide +kernel
theorem dX3_lengthen_17 : decode cX3_lengthen 17 = .ok (.iload 5, 2) := by decide +kernel
theorem dX3_lengthen_19 : decode cX3_lengthen 19 = .ok (.if_icmp .gt 33, 3) := by decide +kernel
theorem dX3_lengthen_22 : decode cX3_lengthen 22 = .ok (.lload 6, 2) := by decide +kernel
theorem dX3_lengthen_24 : decode cX3_lengthen 24 = .ok (.aload_n 1, 1) := by decide +kernel
theorem dX3_lengthen_25 : decode cX3_lengthen 25 = .ok (.iload_n 2, 1) := by decide +kernel
theorem dX3_lengthen_26 : decode cX3_lengthen 26 = .ok (.iload 5, 2) := by decide +kernel
theorem dX3_lengthen_28 : decode cX3_lengthen 28 = .ok (.iadd, 1) := by decide +kernel
theorem dX3_lengthen_29 : decode cX3_lengthen 29 = .ok (.iload 8, 2) := by decide +kernel
theorem dX3_lengthen_31 : decode cX3_lengthen 31 = .ok (.isub, 1) := by decide +kernel
theorem dX3_lengthen_32 : decode cX3_lengthen 32 = .ok (.laload, 1) := by decide +kernel
theorem dX3_lengthen_33 : decode cX3_lengthen 33 = .ok (.aload_n 0, 1) := by decide +kernel
theorem dX3_lengthen_34 : decode cX3_lengthen 34 = .ok (.getfield 11, 3) := by decide +kernel
theorem dX3_lengthen_37 : decode cX3_lengthen 37 = .ok (.iload_n 3, 1) := by decide +kernel
theorem dX3_lengthen_38 : decode cX3_lengthen 38 = .ok (.aaload, 1) := by decide +kernel
theorem dX3_lengthen_39 : decode cX3_lengthen 39 = .ok (.iload 8, 2) := by decide +kernel
theorem dX3_lengthen_41 : decode cX3_lengthen 41 = .ok (.laload, 1) := by decide +kernel
theorem dX3_lengthen_42 : decode cX3_lengthen 42 = .ok (.lmul, 1) := by decide +kernel
theorem dX3_lengthen_43 : decode cX3_lengthen 43 = .ok (.ladd, 1) := by decide +kernel
theorem dX3_lengthen_44 : decode cX3_lengthen 44 = .ok (.lstore 6, 2) := by decide +kernel
theorem dX3_lengthen_46 : decode cX3_lengthen 46 = .ok (.iinc 8 1, 3) := by decide +kernel
theorem dX3_lengthen_49 : decode cX3_lengthen 49 = .ok (.goto (-34), 3) := by decide +kernel
theorem dX3_lengthen_52 : decode cX3_lengthen 52 = .ok (.aload_n 1, 1) := by decide +kernel
theorem dX3_lengthen_53 : decode cX3_lengthen 53 = .ok (.iload_n 2, 1) := by decide +kernel
theorem dX3_lengthen_54 : decode cX3_lengthen 54 = .ok (.iload 5, 2) := by decide +kernel
theorem dX3_lengthen_56 : decode cX3_lengthen 56 = .ok (.iadd, 1) := by decide +kernel
theorem dX3_lengthen_57 : decode cX3_lengthen 57 = .ok (.lload 6, 2) := by decide +kernel
theorem dX3_lengthen_59 : decode cX3_lengthen 59 = .ok (.lastore, 1) := by decide +kernel
theorem dX3_lengthen_60 : decode cX3_lengthen 60 = .ok (.iinc 5 (-1), 3) := by decide +kernel
theorem dX3_lengthen_63 : decode cX3_lengthen 63 = .ok (.goto (-59), 3) := by decide +kernel
theorem dX3_lengthen_66 : decode cX3_lengthen 66 = .ok (.return_, 1) := by decide +kernel
theorem dX3_countLength_0 : decode cX3_countLength 0 = .ok (.iconst 0, 1) := by decide +kernel
theorem dX3_countLength_1 : decode cX3_countLength 1 = .ok (.istore_n 2, 1) := by decide +kernel
theorem dX3_countLength_2 : decode cX3_countLength 2 = .ok (.iload_n 2, 1) := by decide +kernel
theorem dX3_countLength_3 : decode cX3_countLength 3 = .ok (.aload_n 0, 1) := by decide +kernel
theorem dX3_countLength_4 : decode cX3_countLength 4 = .ok (.getfield 20, 3) := by decide +kernel
theorem dX3_countLength_7 : decode cX3_countLength 7 = .ok (.invokevirtual 28, 3) := by decide +kernel
theorem dX3_countLength_10 : decode cX3_countLength 10 = .ok (.if_icmp .ge 25, 3) := by decide +kernel
theorem dX3_countLength_13 : decode cX3_countLength 13 = .ok (.aload_n 0, 1) := by decide +kernel
theorem dX3_countLength_14 : decode cX3_countLength 14 = .ok (.getfield 11, 3) := by decide +kernel
theorem dX3_countLength_17 : decode cX3_countLength 17 = .ok (.aload_n 0, 1) := by decide +kernel
theorem dX3_countLength_18 : decode cX3_countLength 18 = .ok (.getfield 20, 3) := by decide +kernel
theorem dX3_countLength_21 : decode cX3_countLength 21 = .ok (.iload_n 2, 1) := by decide +kernel
theorem dX3_countLength_22 : decode cX3_countLength 22 = .ok (.invokevirtual 34, 3) := by decide +kernel
theorem dX3_countLength_25 : decode cX3_countLength 25 = .ok (.aaload, 1) := by decide +kernel
theorem dX3_countLength_26 : decode cX3_countLength 26 = .ok (.iload_n 1, 1) := by decide +kernel
theorem dX3_countLength_27 : decode cX3_countLength 27 = .ok (.lconst 0, 1) := by decide +kernel
theorem dX3_countLength_28 : decode cX3_countLength 28 = .ok (.lastore, 1) := by decide +kernel
theorem dX3_countLength_29 : decode cX3_countLength 29 = .ok (.iinc 2 1, 3) := by decide +kernel
theorem dX3_countLength_32 : decode cX3_countLength 32 = .ok (.goto (-30), 3) := by decide +kernel
theorem dX3_countLength_35 : decode cX3_countLength 35 = .ok (.iconst 1, 1) := by decide +kernel
theorem dX3_countLength_36 : decode cX3_countLength 36 = .ok (.istore_n 2, 1) := by decide +kernel
theorem dX3_countLength_37 : decode cX3_countLength 37 = .ok (.iconst 0, 1) := by decide +kernel
theorem dX3_countLength_38 : decode cX3_countLength 38 = .ok (.istore_n 3, 1) := by decide +kernel
theorem dX3_countLength_39 : decode cX3_countLength 39 = .ok (.iload_n 2, 1) := by decide +kernel
theorem dX3_countLength_40 : decode cX3_countLength 40 = .ok (.ifCond .eq 94, 3) := by decide +kernel
theorem dX3_countLength_43 : decode cX3_countLength 43 = .ok (.iload_n 3, 1) := by decide +kernel
theorem dX3_countLength_44 : decode cX3_countLength 44 = .ok (.bipush 48, 2) := by decide +kernel
theorem dX3_countLength_46 : decode cX3_countLength 46 = .ok (.if_icmp .gt 88, 3) := by decide +kernel
theorem dX3_countLength_49 : decode cX3_countLength 49 = .ok (.iconst 0, 1) := by decide +kernel
theorem dX3_countLength_50 : decode cX3_countLength 50 = .ok (.istore_n 2, 1) := by decide +kernel
theorem dX3_countLength_51 : decode cX3_countLength 51 = .ok (.iconst 0, 1) := by decide +kernel
theorem dX3_countLength_52 : decode cX3_countLength 52 = .ok (.istore 4, 2) := by decide +kernel
theorem dX3_countLength_54 : decode cX3_countLength 54 = .ok (.iload 4, 2) := by decide +kernel
theorem dX3_countLength_56 : decode cX3_countLength 56 = .ok (.aload_n 0, 1) := by decide +kernel
theorem dX3_countLength_57 : decode cX3_countLength 57 = .ok (.getfield 20, 3) := by decide +kernel
theorem dX3_countLength_60 : decode cX3_countLength 60 = .ok (.invokevirtual 28, 3) := by decide +kernel
theorem dX3_countLength_63 : decode cX3_countLength 63 = .ok (.if_icmp .ge 65, 3) := by decide +kernel
theorem dX3_countLength_66 : decode cX3_countLength 66 = .ok (.aload_n 0, 1) := by decide +kernel
theorem dX3_countLength_67 : decode cX3_countLength 67 = .ok (.getfield 20, 3) := by decide +kernel
theorem dX3_countLength_70 : decode cX3_countLength 70 = .ok (.iload 4, 2) := by decide +kernel
theorem dX3_countLength_72 : decode cX3_countLength 72 = .ok (.invokevirtual 34, 3) := by decide +kernel
theorem dX3_countLength_75 : decode cX3_countLength 75 = .ok (.istore 5, 2) := by decide +kernel
theorem dX3_countLength_77 : decode cX3_countLength 77 = .ok (.aload_n 0, 1) := by decide +kernel
theorem dX3_countLength_78 : decode cX3_countLength 78 = .ok (.iload 5, 2) := by decide +kernel
theorem dX3_countLength_80 : decode cX3_countLength 80 = .ok (.iload_n 1, 1) := by decide +kernel
theorem dX3_countLength_81 : decode cX3_countLength 81 = .ok (.invokevirtual 38, 3) := by decide +kernel
theorem dX3_countLength_84 : decode cX3_countLength 84 = .ok (.lstore 6, 2) := by decide +kernel
theorem dX3_countLength_86 : decode cX3_countLength 86 = .ok (.iload_n 2, 1) := by decide +kernel
theorem dX3_countLength_87 : decode cX3_countLength 87 = .ok (.ifCond .ne 18, 3) := by decide +kernel
theorem dX3_countLength_90 : decode cX3_countLength 90 = .ok (.lload 6, 2) := by decide +kernel
theorem dX3_countLength_92 : decode cX3_countLength 92 = .ok (.aload_n 0, 1) := by decide +kernel
theorem dX3_countLength_93 : decode cX3_countLength 93 = .ok (.getfield 11, 3) := by decide +kernel
theorem dX3_countLength_96 : decode cX3_countLength 96 = .ok (.iload 5, 2) := by decide +kernel
theorem dX3_countLength_98 : decode cX3_countLength 98 = .ok (.aaload, 1) := by decide +kernel
theorem dX3_countLength_99 : decode cX3_countLength 99 = .ok (.iload_n 1, 1) := by decide +kernel
theorem dX3_countLength_100 : decode cX3_countLength 100 = .ok (.laload, 1) := by decide +kernel
theorem dX3_countLength_101 : decode cX3_countLength 101 = .ok (.lcmp, 1) := by decide +kernel
theorem dX3_countLength_102 : decode cX3_countLength 102 = .ok (.ifCond .eq 7, 3) := by decide +kernel
theorem dX3_countLength_105 : decode cX3_countLength 105 = .ok (.iconst 1, 1) := by decide +kernel
theorem dX3_countLength_106 : decode cX3_countLength 106 = .ok (.goto 4, 3) := by decide +kernel
theorem dX3_countLength_109 : decode cX3_countLength 109 = .ok (.iconst 0, 1) := by decide +kernel
theorem dX3_countLength_110 : decode cX3_countLength 110 = .ok (.istore_n 2, 1) := by decide +kernel
theorem dX3_countLength_111 : decode cX3_countLength 111 = .ok (.aload_n 0, 1) := by decide +kernel
theorem dX3_countLength_112 : decode cX3_countLength 112 = .ok (.getfield 11, 3) := by decide +kernel
theorem dX3_countLength_115 : decode cX3_countLength 115 = .ok (.iload 5, 2) := by decide +kernel
theorem dX3_countLength_117 : decode cX3_countLength 117 = .ok (.aaload, 1) := by decide +kernel
theorem dX3_countLength_118 : decode cX3_countLength 118 = .ok (.iload_n 1, 1) := by decide +kernel
theorem dX3_countLength_119 : decode cX3_countLength 119 = .ok (.lload 6, 2) := by decide +kernel
theorem dX3_countLength_121 : decode cX3_countLength 121 = .ok (.lastore, 1) := by decide +kernel
theorem dX3_countLength_122 : decode cX3_countLength 122 = .ok (.iinc 4 1, 3) := by decide +kernel
theorem dX3_countLength_125 : decode cX3_countLength 125 = .ok (.goto (-71), 3) := by decide +kernel
theorem dX3_countLength_128 : decode cX3_countLength 128 = .ok (.iinc 3 1, 3) := by decide +kernel
theorem dX3_countLength_131 : decode cX3_countLength 131 = .ok (.goto (-92), 3) := by decide +kernel
theorem dX3_countLength_134 : decode cX3_countLength 134 = .ok (.return_, 1) := by decide +kernel
theorem dX3_wordsByParts_0 : decode cX3_wordsByParts 0 = .ok (.aload_n 0, 1) := by decide +kernel
theorem dX3_wordsByParts_1 : decode cX3_wordsByParts 1 = .ok (.getfield 16, 3) := by decide +kernel
theorem dX3_wordsByParts_4 : decode cX3_wordsByParts 4 = .ok (.iload_n 1, 1) := by decide +kernel
theorem dX3_wordsByParts_5 : decode cX3_wordsByParts 5 = .ok (.invokevirtual 42, 3) := by decide +kernel
theorem dX3_wordsByParts_8 : decode cX3_wordsByParts 8 = .ok (.tableswitch 151 0 6 #[44, 151, 54, 65, 87, 119, 135], 44) := by decide +kernel
theorem dX3_wordsByParts_52 : decode cX3_wordsByParts 52 = .ok (.iload_n 2, 1) := by decide +kernel
theorem dX3_wordsByParts_53 : decode cX3_wordsByParts 53 = .ok (.ifCond .ne 7, 3) := by decide +kernel
theorem dX3_wordsByParts_56 : decode cX3_wordsByParts 56 = .ok (.lconst 1, 1) := by decide +kernel
theorem dX3_wordsByParts_57 : decode cX3_wordsByParts 57 = .ok (.goto 4, 3) := by decide +kernel
theorem dX3_wordsByParts_60 : decode cX3_wordsByParts 60 = .ok (.lconst 0, 1) := by decide +kernel
theorem dX3_wordsByParts_61 : decode cX3_wordsByParts 61 = .ok (.lreturn, 1) := by decide +kernel
theorem dX3_wordsByParts_62 : decode cX3_wordsByParts 62 = .ok (.iload_n 2, 1) := by decide +kernel
theorem dX3_wordsByParts_63 : decode cX3_wordsByParts 63 = .ok (.iconst 1, 1) := by decide +kernel
theorem dX3_wordsByParts_64 : decode cX3_wordsByParts 64 = .ok (.if_icmp .ne 7, 3) := by decide +kernel
theorem dX3_wordsByParts_67 : decode cX3_wordsByParts 67 = .ok (.lconst 1, 1) := by decide +kernel
theorem dX3_wordsByParts_68 : decode cX3_wordsByParts 68 = .ok (.goto 4, 3) := by decide +kernel
theorem dX3_wordsByParts_71 : decode cX3_wordsByParts 71 = .ok (.lconst 0, 1) := by decide +kernel
theorem dX3_wordsByParts_72 : decode cX3_wordsByParts 72 = .ok (.lreturn, 1) := by decide +kernel
theorem dX3_wordsByParts_73 : decode cX3_wordsByParts 73 = .ok (.aload_n 0, 1) := by decide +kernel
theorem dX3_wordsByParts_74 : decode cX3_wordsByParts 74 = .ok (.aload_n 0, 1) := by decide +kernel
theorem dX3_wordsByParts_75 : decode cX3_wordsByParts 75 = .ok (.getfield 16, 3) := by decide +kernel
theorem dX3_wordsByParts_78 : decode cX3_wordsByParts 78 = .ok (.iload_n 1, 1) := by decide +kernel
theorem dX3_wordsByParts_79 : decode cX3_wordsByParts 79 = .ok (.invokevirtual 47, 3) := by decide +kernel
theorem dX3_wordsByParts_82 : decode cX3_wordsByParts 82 = .ok (.aload_n 0, 1) := by decide +kernel
theorem dX3_wordsByParts_83 : decode cX3_wordsByParts 83 = .ok (.getfield 16, 3) := by decide +kernel
theorem dX3_wordsByParts_86 : decode cX3_wordsByParts 86 = .ok (.iload_n 1, 1) := by decide +kernel
theorem dX3_wordsByParts_87 : decode cX3_wordsByParts 87 = .ok (.invokevirtual 50, 3) := by decide +kernel
theorem dX3_wordsByParts_90 : decode cX3_wordsByParts 90 = .ok (.iload_n 2, 1) := by decide +kernel
theorem dX3_wordsByParts_91 : decode cX3_wordsByParts 91 = .ok (.invokevirtual 53, 3) := by decide +kernel
theorem dX3_wordsByParts_94 : decode cX3_wordsByParts 94 = .ok (.lreturn, 1) := by decide +kernel
theorem dX3_wordsByParts_95 : decode cX3_wordsByParts 95 = .ok (.aload_n 0, 1) := by decide +kernel
theorem dX3_wordsByParts_96 : decode cX3_wordsByParts 96 = .ok (.getfield 11, 3) := by decide +kernel
theorem dX3_wordsByParts_99 : decode cX3_wordsByParts 99 = .ok (.aload_n 0, 1) := by decide +kernel
theorem dX3_wordsByParts_100 : decode cX3_wordsByParts 100 = .ok (.getfield 16, 3) := by decide +kernel
theorem dX3_wordsByParts_103 : decode cX3_wordsByParts 103 = .ok (.iload_n 1, 1) := by decide +kernel
theorem dX3_wordsByParts_104 : decode cX3_wordsByParts 104 = .ok (.invokevirtual 47, 3) := by decide +kernel
theorem dX3_wordsByParts_107 : decode cX3_wordsByParts 107 = .ok (.aaload, 1) := by decide +kernel
theorem dX3_wordsByParts_108 : decode cX3_wordsByParts 108 = .ok (.iload_n 2, 1) := by decide +kernel
theorem dX3_wordsByParts_109 : decode cX3_wordsByParts 109 = .ok (.laload, 1) := by decide +kernel
theorem dX3_wordsByParts_110 : decode cX3_wordsByParts 110 = .ok (.aload_n 0, 1) := by decide +kernel
theorem dX3_wordsByParts_111 : decode cX3_wordsByParts 111 = .ok (.getfield 11, 3) := by decide +kernel
theorem dX3_wordsByParts_114 : decode cX3_wordsByParts 114 = .ok (.aload_n 0, 1) := by decide +kernel
theorem dX3_wordsByParts_115 : decode cX3_wordsByParts 115 = .ok (.getfield 16, 3) := by decide +kernel
theorem dX3_wordsByParts_118 : decode cX3_wordsByParts 118 = .ok (.iload_n 1, 1) := by decide +kernel
theorem dX3_wordsByParts_119 : decode cX3_wordsByParts 119 = .ok (.invokevirtual 50, 3) := by decide +kernel
theorem dX3_wordsByParts_122 : decode cX3_wordsByParts 122 = .ok (.aaload, 1) := by decide +kernel
theorem dX3_wordsByParts_123 : decode cX3_wordsByParts 123 = .ok (.iload_n 2, 1) := by decide +kernel
theorem dX3_wordsByParts_124 : decode cX3_wordsByParts 124 = .ok (.laload, 1) := by decide +kernel
theorem dX3_wordsByParts_125 : decode cX3_wordsByParts 125 = .ok (.ladd, 1) := by decide +kernel
theorem dX3_wordsByParts_126 : decode cX3_wordsByParts 126 = .ok (.lreturn, 1) := by decide +kernel
theorem dX3_wordsByParts_127 : decode cX3_wordsByParts 127 = .ok (.aload_n 0, 1) := by decide +kernel
theorem dX3_wordsByParts_128 : decode cX3_wordsByParts 128 = .ok (.getfield 11, 3) := by decide +kernel
theorem dX3_wordsByParts_131 : decode cX3_wordsByParts 131 = .ok (.aload_n 0, 1) := by decide +kernel
theorem dX3_wordsByParts_132 : decode cX3_wordsByParts 132 = .ok (.getfield 20, 3) := by decide +kernel
theorem dX3_wordsByParts_135 : decode cX3_wordsByParts 135 = .ok (.iload_n 1, 1) := by decide +kernel
theorem dX3_wordsByParts_136 : decode cX3_wordsByParts 136 = .ok (.invokevirtual 57, 3) := by decide +kernel
theorem dX3_wordsByParts_139 : decode cX3_wordsByParts 139 = .ok (.aaload, 1) := by decide +kernel
theorem dX3_wordsByParts_140 : decode cX3_wordsByParts 140 = .ok (.iload_n 2, 1) := by decide +kernel
theorem dX3_wordsByParts_141 : decode cX3_wordsByParts 141 = .ok (.laload, 1) := by decide +kernel
theorem dX3_wordsByParts_142 : decode cX3_wordsByParts 142 = .ok (.lreturn, 1) := by decide +kernel
theorem dX3_wordsByParts_143 : decode cX3_wordsByParts 143 = .ok (.aload_n 0, 1) := by decide +kernel
theorem dX3_wordsByParts_144 : decode cX3_wordsByParts 144 = .ok (.getfield 11, 3) := by decide +kernel
theorem dX3_wordsByParts_147 : decode cX3_wordsByParts 147 = .ok (.aload_n 0, 1) := by decide +kernel
theorem dX3_wordsByParts_148 : decode cX3_wordsByParts 148 = .ok (.getfield 16, 3) := by decide +kernel
theorem dX3_wordsByParts_151 : decode cX3_wordsByParts 151 = .ok (.iload_n 1, 1) := by decide +kernel
theorem dX3_wordsByParts_152 : decode cX3_wordsByParts 152 = .ok (.invokevirtual 47, 3) := by decide +kernel
theorem dX3_wordsByParts_155 : decode cX3_wordsByParts 155 = .ok (.aaload, 1) := by decide +kernel
theorem dX3_wordsByParts_156 : decode cX3_wordsByParts 156 = .ok (.iload_n 2, 1) := by decide +kernel
theorem dX3_wordsByParts_157 : decode cX3_wordsByParts 157 = .ok (.laload, 1) := by decide +kernel
theorem dX3_wordsByParts_158 : decode cX3_wordsByParts 158 = .ok (.lreturn, 1) := by decide +kernel
theorem dX3_wordsByParts_159 : decode cX3_wordsByParts 159 = .ok (.lconst 0, 1) := by decide +kernel
theorem dX3_wordsByParts_160 : decode cX3_wordsByParts 160 = .ok (.lreturn, 1) := by decide +kernel
theorem dX3_wordsOfPair_0 : decode cX3_wordsOfPair 0 = .ok (.lconst 0, 1) := by decide +kernel
theorem dX3_wordsOfPair_1 : decode cX3_wordsOfPair 1 = .ok (.lstore 4, 2) := by decide +kernel
theorem dX3_wordsOfPair_3 : decode cX3_wordsOfPair 3 = .ok (.iconst 0, 1) := by decide +kernel
theorem dX3_wordsOfPair_4 : decode cX3_wordsOfPair 4 = .ok (.istore 6, 2) := by decide +kernel
theorem dX3_wordsOfPair_6 : decode cX3_wordsOfPair 6 = .ok (.iload 6, 2) := by decide +kernel
theorem dX3_wordsOfPair_8 : decode cX3_wordsOfPair 8 = .ok (.iload_n 3, 1) := by decide +kernel
theorem dX3_wordsOfPair_9 : decode cX3_wordsOfPair 9 = .ok (.if_icmp .gt 35, 3) := by decide +kernel
theorem dX3_wordsOfPair_12 : decode cX3_wordsOfPair 12 = .ok (.lload 4, 2) := by decide +kernel
theorem dX3_wordsOfPair_14 : decode cX3_wordsOfPair 14 = .ok (.aload_n 0, 1) := by decide +kernel
theorem dX3_wordsOfPair_15 : decode cX3_wordsOfPair 15 = .ok (.getfield 11, 3) := by decide +kernel
theorem dX3_wordsOfPair_18 : decode cX3_wordsOfPair 18 = .ok (.iload_n 1, 1) := by decide +kernel
theorem dX3_wordsOfPair_19 : decode cX3_wordsOfPair 19 = .ok (.aaload, 1) := by decide +kernel
theorem dX3_wordsOfPair_20 : decode cX3_wordsOfPair 20 = .ok (.iload 6, 2) := by decide +kernel
theorem dX3_wordsOfPair_22 : decode cX3_wordsOfPair 22 = .ok (.laload, 1) := by decide +kernel
theorem dX3_wordsOfPair_23 : decode cX3_wordsOfPair 23 = .ok (.aload_n 0, 1) := by decide +kernel
theorem dX3_wordsOfPair_24 : decode cX3_wordsOfPair 24 = .ok (.getfield 11, 3) := by decide +kernel
theorem dX3_wordsOfPair_27 : decode cX3_wordsOfPair 27 = .ok (.iload_n 2, 1) := by decide +kernel
theorem dX3_wordsOfPair_28 : decode cX3_wordsOfPair 28 = .ok (.aaload, 1) := by decide +kernel
theorem dX3_wordsOfPair_29 : decode cX3_wordsOfPair 29 = .ok (.iload_n 3, 1) := by decide +kernel
theorem dX3_wordsOfPair_30 : decode cX3_wordsOfPair 30 = .ok (.iload 6, 2) := by decide +kernel
theorem dX3_wordsOfPair_32 : decode cX3_wordsOfPair 32 = .ok (.isub, 1) := by decide +kernel
theorem dX3_wordsOfPair_33 : decode cX3_wordsOfPair 33 = .ok (.laload, 1) := by decide +kernel
theorem dX3_wordsOfPair_34 : decode cX3_wordsOfPair 34 = .ok (.lmul, 1) := by decide +kernel
theorem dX3_wordsOfPair_35 : decode cX3_wordsOfPair 35 = .ok (.ladd, 1) := by decide +kernel
theorem dX3_wordsOfPair_36 : decode cX3_wordsOfPair 36 = .ok (.lstore 4, 2) := by decide +kernel
theorem dX3_wordsOfPair_38 : decode cX3_wordsOfPair 38 = .ok (.iinc 6 1, 3) := by decide +kernel
theorem dX3_wordsOfPair_41 : decode cX3_wordsOfPair 41 = .ok (.goto (-35), 3) := by decide +kernel
theorem dX3_wordsOfPair_44 : decode cX3_wordsOfPair 44 = .ok (.lload 4, 2) := by decide +kernel
theorem dX3_wordsOfPair_46 : decode cX3_wordsOfPair 46 = .ok (.lreturn, 1) := by decide +kernel
theorem dX4_init_0 : decode cX4_init 0 = .ok (.aload_n 0, 1) := by decide +kernel
theorem dX4_init_1 : decode cX4_init 1 = .ok (.invokespecial 3, 3) := by decide +kernel
theorem dX4_init_4 : decode cX4_init 4 = .ok (.aload_n 0, 1) := by decide +kernel
theorem dX4_init_5 : decode cX4_init 5 = .ok (.bipush 48, 2) := by decide +kernel
theorem dX4_init_7 : decode cX4_init 7 = .ok (.newarray .int, 2) := by decide +kernel
theorem dX4_init_9 : decode cX4_init 9 = .ok (.putfield 9, 3) := by decide +kernel
theorem dX4_init_12 : decode cX4_init 12 = .ok (.aload_n 0, 1) := by decide +kernel
theorem dX4_init_13 : decode cX4_init 13 = .ok (.bipush 48, 2) := by decide +kernel
theorem dX4_init_15 : decode cX4_init 15 = .ok (.newarray .int, 2) := by decide +kernel
theorem dX4_init_17 : decode cX4_init 17 = .ok (.putfield 15, 3) := by decide +kernel
theorem dX4_init_20 : decode cX4_init 20 = .ok (.aload_n 0, 1) := by decide +kernel
theorem dX4_init_21 : decode cX4_init 21 = .ok (.bipush 48, 2) := by decide +kernel
theorem dX4_init_23 : decode cX4_init 23 = .ok (.newarray .int, 2) := by decide +kernel
theorem dX4_init_25 : decode cX4_init 25 = .ok (.putfield 18, 3) := by decide +kernel
theorem dX4_init_28 : decode cX4_init 28 = .ok (.aload_n 0, 1) := by decide +kernel
theorem dX4_init_29 : decode cX4_init 29 = .ok (.bipush 48, 2) := by decide +kernel
theorem dX4_init_31 : decode cX4_init 31 = .ok (.newarray .int, 2) := by decide +kernel
theorem dX4_init_33 : decode cX4_init 33 = .ok (.putfield 21, 3) := by decide +kernel
theorem dX4_init_36 : decode cX4_init 36 = .ok (.aload_n 0, 1) := by decide +kernel
theorem dX4_init_37 : decode cX4_init 37 = .ok (.bipush 48, 2) := by decide +kernel
theorem dX4_init_39 : decode cX4_init 39 = .ok (.newarray .int, 2) := by decide +kernel
theorem dX4_init_41 : decode cX4_init 41 = .ok (.putfield 24, 3) := by decide +kernel
theorem dX4_init_44 : decode cX4_init 44 = .ok (.aload_n 0, 1) := by decide +kernel
theorem dX4_init_45 : decode cX4_init 45 = .ok (.bipush 48, 2) := by decide +kernel
theorem dX4_init_47 : decode cX4_init 47 = .ok (.newarray .int, 2) := by decide +kernel
theorem dX4_init_49 : decode cX4_init 49 = .ok (.putfield 27, 3) := by decide +kernel
theorem dX4_init_52 : decode cX4_init 52 = .ok (.aload_n 0, 1) := by decide +kernel
theorem dX4_init_53 : decode cX4_init 53 = .ok (.iconst 0, 1) := by decide +kernel
theorem dX4_init_54 : decode cX4_init 54 = .ok (.putfield 30, 3) := by decide +kernel
theorem dX4_init_57 : decode cX4_init 57 = .ok (.return_, 1) := by decide +kernel
theorem dX4_add_0 : decode cX4_add 0 = .ok (.aload_n 0, 1) := by decide +kernel
theorem dX4_add_1 : decode cX4_add 1 = .ok (.getfield 30, 3) := by decide +kernel
theorem dX4_add_4 : decode cX4_add 4 = .ok (.istore 5, 2) := by decide +kernel
theorem dX4_add_6 : decode cX4_add 6 = .ok (.aload_n 0, 1) := by decide +kernel
theorem dX4_add_7 : decode cX4_add 7 = .ok (.dup, 1) := by decide +kernel
theorem dX4_add_8 : decode cX4_add 8 = .ok (.getfield 30, 3) := by decide +kernel
theorem dX4_add_11 : decode cX4_add 11 = .ok (.iconst 1, 1) := by decide +kernel
theorem dX4_add_12 : decode cX4_add 12 = .ok (.iadd, 1) := by decide +kernel
theorem dX4_add_13 : decode cX4_add 13 = .ok (.putfield 30, 3) := by decide +kernel
theorem dX4_add_16 : decode cX4_add 16 = .ok (.aload_n 0, 1) := by decide +kernel
theorem dX4_add_17 : decode cX4_add 17 = .ok (.getfield 9, 3) := by decide +kernel
theorem dX4_add_20 : decode cX4_add 20 = .ok (.iload 5, 2) := by decide +kernel
theorem dX4_add_22 : decode cX4_add 22 = .ok (.iload_n 1, 1) := by decide +kernel
theorem dX4_add_23 : decode cX4_add 23 = .ok (.iastore, 1) := by decide +kernel
theorem dX4_add_24 : decode cX4_add 24 = .ok (.aload_n 0, 1) := by decide +kernel
theorem dX4_add_25 : decode cX4_add 25 = .ok (.getfield 15, 3) := by decide +kernel
theorem dX4_add_28 : decode cX4_add 28 = .ok (.iload 5, 2) := by decide +kernel
theorem dX4_add_30 : decode cX4_add 30 = .ok (.iload_n 2, 1) := by decide +kernel
theorem dX4_add_31 : decode cX4_add 31 = .ok (.iastore, 1) := by decide +kernel
theorem dX4_add_32 : decode cX4_add 32 = .ok (.aload_n 0, 1) := by decide +kernel
theorem dX4_add_33 : decode cX4_add 33 = .ok (.getfield 18, 3) := by decide +kernel
theorem dX4_add_36 : decode cX4_add 36 = .ok (.iload 5, 2) := by decide +kernel
theorem dX4_add_38 : decode cX4_add 38 = .ok (.iload_n 3, 1) := by decide +kernel
theorem dX4_add_39 : decode cX4_add 39 = .ok (.iastore, 1) := by decide +kernel
theorem dX4_add_40 : decode cX4_add 40 = .ok (.aload_n 0, 1) := by decide +kernel
theorem dX4_add_41 : decode cX4_add 41 = .ok (.getfield 21, 3) := by decide +kernel
theorem dX4_add_44 : decode cX4_add 44 = .ok (.iload 5, 2) := by decide +kernel
theorem dX4_add_46 : decode cX4_add 46 = .ok (.iload 4, 2) := by decide +kernel
theorem dX4_add_48 : decode cX4_add 48 = .ok (.iastore, 1) := by decide +kernel
theorem dX4_add_49 : decode cX4_add 49 = .ok (.aload_n 0, 1) := by decide +kernel
theorem dX4_add_50 : decode cX4_add 50 = .ok (.getfield 24, 3) := by decide +kernel
theorem dX4_add_53 : decode cX4_add 53 = .ok (.iload 5, 2) := by decide +kernel
theorem dX4_add_55 : decode cX4_add 55 = .ok (.iconst (-1), 1) := by decide +kernel
theorem dX4_add_56 : decode cX4_add 56 = .ok (.iastore, 1) := by decide +kernel
theorem dX4_add_57 : decode cX4_add 57 = .ok (.aload_n 0, 1) := by decide +kernel
theorem dX4_add_58 : decode cX4_add 58 = .ok (.getfield 27, 3) := by decide +kernel
theorem dX4_add_61 : decode cX4_add 61 = .ok (.iload 5, 2) := by decide +kernel
theorem dX4_add_63 : decode cX4_add 63 = .ok (.aload_n 0, 1) := by decide +kernel
theorem dX4_add_64 : decode cX4_add 64 = .ok (.iload_n 3, 1) := by decide +kernel
theorem dX4_add_65 : decode cX4_add 65 = .ok (.invokevirtual 34, 3) := by decide +kernel
theorem dX4_add_68 : decode cX4_add 68 = .ok (.aload_n 0, 1) := by decide +kernel
theorem dX4_add_69 : decode cX4_add 69 = .ok (.iload 4, 2) := by decide +kernel
theorem dX4_add_71 : decode cX4_add 71 = .ok (.invokevirtual 34, 3) := by decide +kernel
theorem dX4_add_74 : decode cX4_add 74 = .ok (.invokestatic 38, 3) := by decide +kernel
theorem dX4_add_77 : decode cX4_add 77 = .ok (.iload_n 1, 1) := by decide +kernel
theorem dX4_add_78 : decode cX4_add 78 = .ok (.bipush 6, 2) := by decide +kernel
theorem dX4_add_80 : decode cX4_add 80 = .ok (.if_icmp .ne 7, 3) := by decide +kernel
theorem dX4_add_83 : decode cX4_add 83 = .ok (.iconst 1, 1) := by decide +kernel
theorem dX4_add_84 : decode cX4_add 84 = .ok (.goto 4, 3) := by decide +kernel
theorem dX4_add_87 : decode cX4_add 87 = .ok (.iconst 0, 1) := by decide +kernel
theorem dX4_add_88 : decode cX4_add 88 = .ok (.iadd, 1) := by decide +kernel
theorem dX4_add_89 : decode cX4_add 89 = .ok (.iastore, 1) := by decide +kernel
theorem dX4_add_90 : decode cX4_add 90 = .ok (.aload_n 0, 1) := by decide +kernel
theorem dX4_add_91 : decode cX4_add 91 = .ok (.iload_n 3, 1) := by decide +kernel
theorem dX4_add_92 : decode cX4_add 92 = .ok (.iload 5, 2) := by decide +kernel
theorem dX4_add_94 : decode cX4_add 94 = .ok (.invokevirtual 44, 3) := by decide +kernel
theorem dX4_add_97 : decode cX4_add 97 = .ok (.aload_n 0, 1) := by decide +kernel
theorem dX4_add_98 : decode cX4_add 98 = .ok (.iload 4, 2) := by decide +kernel
theorem dX4_add_100 : decode cX4_add 100 = .ok (.iload 5, 2) := by decide +kernel
theorem dX4_add_102 : decode cX4_add 102 = .ok (.invokevirtual 44, 3) := by decide +kernel
theorem dX4_add_105 : decode cX4_add 105 = .ok (.iload 5, 2) := by decide +kernel
theorem dX4_add_107 : decode cX4_add 107 = .ok (.ireturn, 1) := by decide +kernel
theorem dX4_makePart_0 : decode cX4_makePart 0 = .ok (.iload_n 1, 1) := by decide +kernel
theorem dX4_makePart_1 : decode cX4_makePart 1 = .ok (.iconst (-1), 1) := by decide +kernel
theorem dX4_makePart_2 : decode cX4_makePart 2 = .ok (.if_icmp .eq 10, 3) := by decide +kernel
theorem dX4_makePart_5 : decode cX4_makePart 5 = .ok (.aload_n 0, 1) := by decide +kernel
theorem dX4_makePart_6 : decode cX4_makePart 6 = .ok (.getfield 24, 3) := by decide +kernel
theorem dX4_makePart_9 : decode cX4_makePart 9 = .ok (.iload_n 1, 1) := by decide +kernel
theorem dX4_makePart_10 : decode cX4_makePart 10 = .ok (.iload_n 2, 1) := by decide +kernel
theorem dX4_makePart_11 : decode cX4_makePart 11 = .ok (.iastore, 1) := by decide +kernel
theorem dX4_makePart_12 : decode cX4_makePart 12 = .ok (.return_, 1) := by decide +kernel
theorem dX4_forgetAll_0 : decode cX4_forgetAll 0 = .ok (.aload_n 0, 1) := by decide +kernel
theorem dX4_forgetAll_1 : decode cX4_forgetAll 1 = .ok (.iconst 0, 1) := by decide +kernel
theorem dX4_forgetAll_2 : decode cX4_forgetAll 2 = .ok (.putfield 30, 3) := by decide +kernel
theorem dX4_forgetAll_5 : decode cX4_forgetAll 5 = .ok (.return_, 1) := by decide +kernel
theorem dX4_size_0 : decode cX4_size 0 = .ok (.aload_n 0, 1) := by decide +kernel
theorem dX4_size_1 : decode cX4_size 1 = .ok (.getfield 30, 3) := by decide +kernel
theorem dX4_size_4 : decode cX4_size 4 = .ok (.ireturn, 1) := by decide +kernel
theorem dX4_has_0 : decode cX4_has 0 = .ok (.iload_n 1, 1) := by decide +kernel
theorem dX4_has_1 : decode cX4_has 1 = .ok (.ifCond .lt 15, 3) := by decide +kernel
theorem dX4_has_4 : decode cX4_has 4 = .ok (.iload_n 1, 1) := by decide +kernel
theorem dX4_has_5 : decode cX4_has 5 = .ok (.aload_n 0, 1) := by decide +kernel
theorem dX4_has_6 : decode cX4_has 6 = .ok (.getfield 30, 3) := by decide +kernel
theorem dX4_has_9 : decode cX4_has 9 = .ok (.if_icmp .ge 7, 3) := by decide +kernel
theorem dX4_has_12 : decode cX4_has 12 = .ok (.iconst 1, 1) := by decide +kernel
theorem dX4_has_13 : decode cX4_has 13 = .ok (.goto 4, 3) := by decide +kernel
theorem dX4_has_16 : decode cX4_has 16 = .ok (.iconst 0, 1) := by decide +kernel
theorem dX4_has_17 : decode cX4_has 17 = .ok (.ireturn, 1) := by decide +kernel
theorem dX4_isFull_0 : decode cX4_isFull 0 = .ok (.aload_n 0, 1) := by decide +kernel
theorem dX4_isFull_1 : decode cX4_isFull 1 = .ok (.getfield 30, 3) := by decide +kernel
theorem dX4_isFull_4 : decode cX4_isFull 4 = .ok (.bipush 48, 2) := by decide +kernel
theorem dX4_isFull_6 : decode cX4_isFull 6 = .ok (.if_icmp .lt 7, 3) := by decide +kernel
theorem dX4_isFull_9 : decode cX4_isFull 9 = .ok (.iconst 1, 1) := by decide +kernel
theorem dX4_isFull_10 : decode cX4_isFull 10 = .ok (.goto 4, 3) := by decide +kernel
theorem dX4_isFull_13 : decode cX4_isFull 13 = .ok (.iconst 0, 1) := by decide +kernel
theorem dX4_isFull_14 : decode cX4_isFull 14 = .ok (.ireturn, 1) := by decide +kernel
theorem dX4_isPart_0 : decode cX4_isPart 0 = .ok (.aload_n 0, 1) := by decide +kernel
theorem dX4_isPart_1 : decode cX4_isPart 1 = .ok (.getfield 24, 3) := by decide +kernel
theorem dX4_isPart_4 : decode cX4_isPart 4 = .ok (.iload_n 1, 1) := by decide +kernel
theorem dX4_isPart_5 : decode cX4_isPart 5 = .ok (.iaload, 1) := by decide +kernel
theorem dX4_isPart_6 : decode cX4_isPart 6 = .ok (.iconst (-1), 1) := by decide +kernel
theorem dX4_isPart_7 : decode cX4_isPart 7 = .ok (.if_icmp .eq 7, 3) := by decide +kernel
theorem dX4_isPart_10 : decode cX4_isPart 10 = .ok (.iconst 1, 1) := by decide +kernel
theorem dX4_isPart_11 : decode cX4_isPart 11 = .ok (.goto 4, 3) := by decide +kernel
theorem dX4_isPart_14 : decode cX4_isPart 14 = .ok (.iconst 0, 1) := by decide +kernel
theorem dX4_isPart_15 : decode cX4_isPart 15 = .ok (.ireturn, 1) := by decide +kernel
theorem dX4_knotsIn_0 : decode cX4_knotsIn 0 = .ok (.iload_n 1, 1) := by decide +kernel
theorem dX4_knotsIn_1 : decode cX4_knotsIn 1 = .ok (.iconst (-1), 1) := by decide +kernel
theorem dX4_knotsIn_2 : decode cX4_knotsIn 2 = .ok (.if_icmp .ne 7, 3) := by decide +kernel
theorem dX4_knotsIn_5 : decode cX4_knotsIn 5 = .ok (.iconst 0, 1) := by decide +kernel
theorem dX4_knotsIn_6 : decode cX4_knotsIn 6 = .ok (.goto 9, 3) := by decide +kernel
theorem dX4_knotsIn_9 : decode cX4_knotsIn 9 = .ok (.aload_n 0, 1) := by decide +kernel
theorem dX4_knotsIn_10 : decode cX4_knotsIn 10 = .ok (.getfield 27, 3) := by decide +kernel
theorem dX4_knotsIn_13 : decode cX4_knotsIn 13 = .ok (.iload_n 1, 1) := by decide +kernel
theorem dX4_knotsIn_14 : decode cX4_knotsIn 14 = .ok (.iaload, 1) := by decide +kernel
theorem dX4_knotsIn_15 : decode cX4_knotsIn 15 = .ok (.ireturn, 1) := by decide +kernel
theorem dX4_kind_0 : decode cX4_kind 0 = .ok (.aload_n 0, 1) := by decide +kernel
theorem dX4_kind_1 : decode cX4_kind 1 = .ok (.getfield 9, 3) := by decide +kernel
theorem dX4_kind_4 : decode cX4_kind 4 = .ok (.iload_n 1, 1) := by decide +kernel
theorem dX4_kind_5 : decode cX4_kind 5 = .ok (.iaload, 1) := by decide +kernel
theorem dX4_kind_6 : decode cX4_kind 6 = .ok (.ireturn, 1) := by decide +kernel
theorem dX4_value_0 : decode cX4_value 0 = .ok (.aload_n 0, 1) := by decide +kernel
theorem dX4_value_1 : decode cX4_value 1 = .ok (.getfield 15, 3) := by decide +kernel
theorem dX4_value_4 : decode cX4_value 4 = .ok (.iload_n 1, 1) := by decide +kernel
theorem dX4_value_5 : decode cX4_value 5 = .ok (.iaload, 1) := by decide +kernel
theorem dX4_value_6 : decode cX4_value 6 = .ok (.ireturn, 1) := by decide +kernel
theorem dX4_left_0 : decode cX4_left 0 = .ok (.aload_n 0, 1) := by decide +kernel
theorem dX4_left_1 : decode cX4_left 1 = .ok (.getfield 18, 3) := by decide +kernel
theorem dX4_left_4 : decode cX4_left 4 = .ok (.iload_n 1, 1) := by decide +kernel
theorem dX4_left_5 : decode cX4_left 5 = .ok (.iaload, 1) := by decide +kernel
theorem dX4_left_6 : decode cX4_left 6 = .ok (.ireturn, 1) := by decide +kernel
theorem dX4_right_0 : decode cX4_right 0 = .ok (.aload_n 0, 1) := by decide +kernel
theorem dX4_right_1 : decode cX4_right 1 = .ok (.getfield 21, 3) := by decide +kernel
theorem dX4_right_4 : decode cX4_right 4 = .ok (.iload_n 1, 1) := by decide +kernel
theorem dX4_right_5 : decode cX4_right 5 = .ok (.iaload, 1) := by decide +kernel
theorem dX4_right_6 : decode cX4_right 6 = .ok (.ireturn, 1) := by decide +kernel
theorem dX4_whole_0 : decode cX4_whole 0 = .ok (.aload_n 0, 1) := by decide +kernel
theorem dX4_whole_1 : decode cX4_whole 1 = .ok (.getfield 24, 3) := by decide +kernel
theorem dX4_whole_4 : decode cX4_whole 4 = .ok (.iload_n 1, 1) := by decide +kernel
theorem dX4_whole_5 : decode cX4_whole 5 = .ok (.iaload, 1) := by decide +kernel
theorem dX4_whole_6 : decode cX4_whole 6 = .ok (.ireturn, 1) := by decide +kernel
theorem dX5_init_0 : decode cX5_init 0 = .ok (.aload_n 0, 1) := by decide +kernel
theorem dX5_init_1 : decode cX5_init 1 = .ok (.invokespecial 3, 3) := by decide +kernel
theorem dX5_init_4 : decode cX5_init 4 = .ok (.aload_n 0, 1) := by decide +kernel
theorem dX5_init_5 : decode cX5_init 5 = .ok (.bipush 48, 2) := by decide +kernel
theorem dX5_init_7 : decode cX5_init 7 = .ok (.newarray .int, 2) := by decide +kernel
theorem dX5_init_9 : decode cX5_init 9 = .ok (.putfield 9, 3) := by decide +kernel
theorem dX5_init_12 : decode cX5_init 12 = .ok (.aload_n 0, 1) := by decide +kernel
theorem dX5_init_13 : decode cX5_init 13 = .ok (.bipush 48, 2) := by decide +kernel
theorem dX5_init_15 : decode cX5_init 15 = .ok (.newarray .int, 2) := by decide +kernel
theorem dX5_init_17 : decode cX5_init 17 = .ok (.putfield 15, 3) := by decide +kernel
theorem dX5_init_20 : decode cX5_init 20 = .ok (.aload_n 0, 1) := by decide +kernel
theorem dX5_init_21 : decode cX5_init 21 = .ok (.bipush 48, 2) := by decide +kernel
theorem dX5_init_23 : decode cX5_init 23 = .ok (.newarray .int, 2) := by decide +kernel
theorem dX5_init_25 : decode cX5_init 25 = .ok (.putfield 18, 3) := by decide +kernel
theorem dX5_init_28 : decode cX5_init 28 = .ok (.aload_n 0, 1) := by decide +kernel
theorem dX5_init_29 : decode cX5_init 29 = .ok (.bipush 48, 2) := by decide +kernel
theorem dX5_init_31 : decode cX5_init 31 = .ok (.newarray .boolean, 2) := by decide +kernel
theorem dX5_init_33 : decode cX5_init 33 = .ok (.putfield 21, 3) := by decide +kernel
theorem dX5_init_36 : decode cX5_init 36 = .ok (.aload_n 0, 1) := by decide +kernel
theorem dX5_init_37 : decode cX5_init 37 = .ok (.bipush 48, 2) := by decide +kernel
theorem dX5_init_39 : decode cX5_init 39 = .ok (.newarray .boolean, 2) := by decide +kernel
theorem dX5_init_41 : decode cX5_init 41 = .ok (.putfield 25, 3) := by decide +kernel
theorem dX5_init_44 : decode cX5_init 44 = .ok (.aload_n 0, 1) := by decide +kernel
theorem dX5_init_45 : decode cX5_init 45 = .ok (.bipush 48, 2) := by decide +kernel
theorem dX5_init_47 : decode cX5_init 47 = .ok (.newarray .int, 2) := by decide +kernel
theorem dX5_init_49 : decode cX5_init 49 = .ok (.putfield 28, 3) := by decide +kernel
theorem dX5_init_52 : decode cX5_init 52 = .ok (.aload_n 0, 1) := by decide +kernel
theorem dX5_init_53 : decode cX5_init 53 = .ok (.bipush 48, 2) := by decide +kernel
theorem dX5_init_55 : decode cX5_init 55 = .ok (.newarray .int, 2) := by decide +kernel
theorem dX5_init_57 : decode cX5_init 57 = .ok (.putfield 31, 3) := by decide +kernel
theorem dX5_init_60 : decode cX5_init 60 = .ok (.aload_n 0, 1) := by decide +kernel
theorem dX5_init_61 : decode cX5_init 61 = .ok (.bipush 48, 2) := by decide +kernel
theorem dX5_init_63 : decode cX5_init 63 = .ok (.putfield 34, 3) := by decide +kernel
theorem dX5_init_66 : decode cX5_init 66 = .ok (.aload_n 0, 1) := by decide +kernel
theorem dX5_init_67 : decode cX5_init 67 = .ok (.aload_n 1, 1) := by decide +kernel
theorem dX5_init_68 : decode cX5_init 68 = .ok (.putfield 38, 3) := by decide +kernel
theorem dX5_init_71 : decode cX5_init 71 = .ok (.return_, 1) := by decide +kernel
theorem dX5_study_0 : decode cX5_study 0 = .ok (.aload_n 0, 1) := by decide +kernel
theorem dX5_study_1 : decode cX5_study 1 = .ok (.iload_n 1, 1) := by decide +kernel
theorem dX5_study_2 : decode cX5_study 2 = .ok (.invokevirtual 42, 3) := by decide +kernel
theorem dX5_study_5 : decode cX5_study 5 = .ok (.aload_n 0, 1) := by decide +kernel
theorem dX5_study_6 : decode cX5_study 6 = .ok (.getfield 34, 3) := by decide +kernel
theorem dX5_study_9 : decode cX5_study 9 = .ok (.istore_n 2, 1) := by decide +kernel
theorem dX5_study_10 : decode cX5_study 10 = .ok (.iload_n 2, 1) := by decide +kernel
theorem dX5_study_11 : decode cX5_study 11 = .ok (.bipush 48, 2) := by decide +kernel
theorem dX5_study_13 : decode cX5_study 13 = .ok (.if_icmp .ge 20, 3) := by decide +kernel
theorem dX5_study_16 : decode cX5_study 16 = .ok (.aload_n 0, 1) := by decide +kernel
theorem dX5_study_17 : decode cX5_study 17 = .ok (.aload_n 0, 1) := by decide +kernel
theorem dX5_study_18 : decode cX5_study 18 = .ok (.getfield 9, 3) := by decide +kernel
theorem dX5_study_21 : decode cX5_study 21 = .ok (.iload_n 2, 1) := by decide +kernel
theorem dX5_study_22 : decode cX5_study 22 = .ok (.iaload, 1) := by decide +kernel
theorem dX5_study_23 : decode cX5_study 23 = .ok (.iload_n 1, 1) := by decide +kernel
theorem dX5_study_24 : decode cX5_study 24 = .ok (.invokevirtual 46, 3) := by decide +kernel
theorem dX5_study_27 : decode cX5_study 27 = .ok (.iinc 2 1, 3) := by decide +kernel
theorem dX5_study_30 : decode cX5_study 30 = .ok (.goto (-20), 3) := by decide +kernel
theorem dX5_study_33 : decode cX5_study 33 = .ok (.aload_n 0, 1) := by decide +kernel
theorem dX5_study_34 : decode cX5_study 34 = .ok (.invokevirtual 50, 3) := by decide +kernel
theorem dX5_study_37 : decode cX5_study 37 = .ok (.return_, 1) := by decide +kernel
theorem dX5_size_0 : decode cX5_size 0 = .ok (.bipush 48, 2) := by decide +kernel
theorem dX5_size_2 : decode cX5_size 2 = .ok (.aload_n 0, 1) := by decide +kernel
theorem dX5_size_3 : decode cX5_size 3 = .ok (.getfield 34, 3) := by decide +kernel
theorem dX5_size_6 : decode cX5_size 6 = .ok (.isub, 1) := by decide +kernel
theorem dX5_size_7 : decode cX5_size 7 = .ok (.ireturn, 1) := by decide +kernel
theorem dX5_inOrder_0 : decode cX5_inOrder 0 = .ok (.aload_n 0, 1) := by decide +kernel
theorem dX5_inOrder_1 : decode cX5_inOrder 1 = .ok (.getfield 9, 3) := by decide +kernel
theorem dX5_inOrder_4 : decode cX5_inOrder 4 = .ok (.aload_n 0, 1) := by decide +kernel
theorem dX5_inOrder_5 : decode cX5_inOrder 5 = .ok (.getfield 34, 3) := by decide +kernel
theorem dX5_inOrder_8 : decode cX5_inOrder 8 = .ok (.iload_n 1, 1) := by decide +kernel
theorem dX5_inOrder_9 : decode cX5_inOrder 9 = .ok (.iadd, 1) := by decide +kernel
theorem dX5_inOrder_10 : decode cX5_inOrder 10 = .ok (.iaload, 1) := by decide +kernel
theorem dX5_inOrder_11 : decode cX5_inOrder 11 = .ok (.ireturn, 1) := by decide +kernel
theorem dX5_isNullable_0 : decode cX5_isNullable 0 = .ok (.aload_n 0, 1) := by decide +kernel
theorem dX5_isNullable_1 : decode cX5_isNullable 1 = .ok (.getfield 25, 3) := by decide +kernel
theorem dX5_isNullable_4 : decode cX5_isNullable 4 = .ok (.iload_n 1, 1) := by decide +kernel
theorem dX5_isNullable_5 : decode cX5_isNullable 5 = .ok (.baload, 1) := by decide +kernel
theorem dX5_isNullable_6 : decode cX5_isNullable 6 = .ok (.ireturn, 1) := by decide +kernel
theorem dX5_firstOf_0 : decode cX5_firstOf 0 = .ok (.aload_n 0, 1) := by decide +kernel
theorem dX5_firstOf_1 : decode cX5_firstOf 1 = .ok (.getfield 28, 3) := by decide +kernel
theorem dX5_firstOf_4 : decode cX5_firstOf 4 = .ok (.iload_n 1, 1) := by decide +kernel
theorem dX5_firstOf_5 : decode cX5_firstOf 5 = .ok (.iaload, 1) := by decide +kernel
theorem dX5_firstOf_6 : decode cX5_firstOf 6 = .ok (.ireturn, 1) := by decide +kernel
theorem dX5_afterOf_0 : decode cX5_afterOf 0 = .ok (.aload_n 0, 1) := by decide +kernel
theorem dX5_afterOf_1 : decode cX5_afterOf 1 = .ok (.getfield 31, 3) := by decide +kernel
theorem dX5_afterOf_4 : decode cX5_afterOf 4 = .ok (.iload_n 1, 1) := by decide +kernel
theorem dX5_afterOf_5 : decode cX5_afterOf 5 = .ok (.iaload, 1) := by decide +kernel
theorem dX5_afterOf_6 : decode cX5_afterOf 6 = .ok (.ireturn, 1) := by decide +kernel
theorem dX5_binder_0 : decode cX5_binder 0 = .ok (.aload_n 0, 1) := by decide +kernel
theorem dX5_binder_1 : decode cX5_binder 1 = .ok (.getfield 18, 3) := by decide +kernel
theorem dX5_binder_4 : decode cX5_binder 4 = .ok (.iload_n 1, 1) := by decide +kernel
theorem dX5_binder_5 : decode cX5_binder 5 = .ok (.iaload, 1) := by decide +kernel
theorem dX5_binder_6 : decode cX5_binder 6 = .ok (.ireturn, 1) := by decide +kernel
theorem dX5_side_0 : decode cX5_side 0 = .ok (.aload_n 0, 1) := by decide +kernel
theorem dX5_side_1 : decode cX5_side 1 = .ok (.getfield 38, 3) := by decide +kernel
theorem dX5_side_4 : decode cX5_side 4 = .ok (.iload_n 1, 1) := by decide +kernel
theorem dX5_side_5 : decode cX5_side 5 = .ok (.invokevirtual 53, 3) := by decide +kernel
theorem dX5_side_8 : decode cX5_side 8 = .ok (.istore_n 3, 1) := by decide +kernel
theorem dX5_side_9 : decode cX5_side 9 = .ok (.aload_n 0, 1) := by decide +kernel
theorem dX5_side_10 : decode cX5_side 10 = .ok (.getfield 38, 3) := by decide +kernel
theorem dX5_side_13 : decode cX5_side 13 = .ok (.iload_n 1, 1) := by decide +kernel
theorem dX5_side_14 : decode cX5_side 14 = .ok (.invokevirtual 59, 3) := by decide +kernel
theorem dX5_side_17 : decode cX5_side 17 = .ok (.istore 4, 2) := by decide +kernel
theorem dX5_side_19 : decode cX5_side 19 = .ok (.aload_n 0, 1) := by decide +kernel
theorem dX5_side_20 : decode cX5_side 20 = .ok (.getfield 28, 3) := by decide +kernel
theorem dX5_side_23 : decode cX5_side 23 = .ok (.iload_n 3, 1) := by decide +kernel
theorem dX5_side_24 : decode cX5_side 24 = .ok (.iaload, 1) := by decide +kernel
theorem dX5_side_25 : decode cX5_side 25 = .ok (.iload_n 2, 1) := by decide +kernel
theorem dX5_side_26 : decode cX5_side 26 = .ok (.iand, 1) := by decide +kernel
theorem dX5_side_27 : decode cX5_side 27 = .ok (.ifCond .eq 5, 3) := by decide +kernel
theorem dX5_side_30 : decode cX5_side 30 = .ok (.iconst 0, 1) := by decide +kernel
theorem dX5_side_31 : decode cX5_side 31 = .ok (.ireturn, 1) := by decide +kernel
theorem dX5_side_32 : decode cX5_side 32 = .ok (.aload_n 0, 1) := by decide +kernel
theorem dX5_side_33 : decode cX5_side 33 = .ok (.getfield 28, 3) := by decide +kernel
theorem dX5_side_36 : decode cX5_side 36 = .ok (.iload 4, 2) := by decide +kernel
theorem dX5_side_38 : decode cX5_side 38 = .ok (.iaload, 1) := by decide +kernel
theorem dX5_side_39 : decode cX5_side 39 = .ok (.iload_n 2, 1) := by decide +kernel
theorem dX5_side_40 : decode cX5_side 40 = .ok (.iand, 1) := by decide +kernel
theorem dX5_side_41 : decode cX5_side 41 = .ok (.ifCond .eq 5, 3) := by decide +kernel
theorem dX5_side_44 : decode cX5_side 44 = .ok (.iconst 1, 1) := by decide +kernel
theorem dX5_side_45 : decode cX5_side 45 = .ok (.ireturn, 1) := by decide +kernel
theorem dX5_side_46 : decode cX5_side 46 = .ok (.aload_n 0, 1) := by decide +kernel
theorem dX5_side_47 : decode cX5_side 47 = .ok (.getfield 25, 3) := by decide +kernel
theorem dX5_side_50 : decode cX5_side 50 = .ok (.iload_n 3, 1) := by decide +kernel
theorem dX5_side_51 : decode cX5_side 51 = .ok (.baload, 1) := by decide +kernel
theorem dX5_side_52 : decode cX5_side 52 = .ok (.ifCond .eq 5, 3) := by decide +kernel
theorem dX5_side_55 : decode cX5_side 55 = .ok (.iconst 0, 1) := by decide +kernel
theorem dX5_side_56 : decode cX5_side 56 = .ok (.ireturn, 1) := by decide +kernel
theorem dX5_side_57 : decode cX5_side 57 = .ok (.aload_n 0, 1) := by decide +kernel
theorem dX5_side_58 : decode cX5_side 58 = .ok (.getfield 25, 3) := by decide +kernel
theorem dX5_side_61 : decode cX5_side 61 = .ok (.iload 4, 2) := by decide +kernel
theorem dX5_side_63 : decode cX5_side 63 = .ok (.baload, 1) := by decide +kernel
theorem dX5_side_64 : decode cX5_side 64 = .ok (.ifCond .eq 7, 3) := by decide +kernel
theorem dX5_side_67 : decode cX5_side 67 = .ok (.iconst 1, 1) := by decide +kernel
theorem dX5_side_68 : decode cX5_side 68 = .ok (.goto 4, 3) := by decide +kernel
theorem dX5_side_71 : decode cX5_side 71 = .ok (.iconst (-1), 1) := by decide +kernel
theorem dX5_side_72 : decode cX5_side 72 = .ok (.ireturn, 1) := by decide +kernel
theorem dX5_firstFault_0 : decode cX5_firstFault 0 = .ok (.aload_n 0, 1) := by decide +kernel
theorem dX5_firstFault_1 : decode cX5_firstFault 1 = .ok (.getfield 34, 3) := by decide +kernel
theorem dX5_firstFault_4 : decode cX5_firstFault 4 = .ok (.istore_n 1, 1) := by decide +kernel
theorem dX5_firstFault_5 : decode cX5_firstFault 5 = .ok (.iload_n 1, 1) := by decide +kernel
theorem dX5_firstFault_6 : decode cX5_firstFault 6 = .ok (.bipush 48, 2) := by decide +kernel
theorem dX5_firstFault_8 : decode cX5_firstFault 8 = .ok (.if_icmp .ge 36, 3) := by decide +kernel
theorem dX5_firstFault_11 : decode cX5_firstFault 11 = .ok (.aload_n 0, 1) := by decide +kernel
theorem dX5_firstFault_12 : decode cX5_firstFault 12 = .ok (.aload_n 0, 1) := by decide +kernel
theorem dX5_firstFault_13 : decode cX5_firstFault 13 = .ok (.getfield 9, 3) := by decide +kernel
theorem dX5_firstFault_16 : decode cX5_firstFault 16 = .ok (.iload_n 1, 1) := by decide +kernel
theorem dX5_firstFault_17 : decode cX5_firstFault 17 = .ok (.iaload, 1) := by decide +kernel
theorem dX5_firstFault_18 : decode cX5_firstFault 18 = .ok (.invokevirtual 62, 3) := by decide +kernel
theorem dX5_firstFault_21 : decode cX5_firstFault 21 = .ok (.istore_n 2, 1) := by decide +kernel
theorem dX5_firstFault_22 : decode cX5_firstFault 22 = .ok (.iload_n 2, 1) := by decide +kernel
theorem dX5_firstFault_23 : decode cX5_firstFault 23 = .ok (.ifCond .eq 15, 3) := by decide +kernel
theorem dX5_firstFault_26 : decode cX5_firstFault 26 = .ok (.iload_n 2, 1) := by decide +kernel
theorem dX5_firstFault_27 : decode cX5_firstFault 27 = .ok (.bipush 8, 2) := by decide +kernel
theorem dX5_firstFault_29 : decode cX5_firstFault 29 = .ok (.aload_n 0, 1) := by decide +kernel
theorem dX5_firstFault_30 : decode cX5_firstFault 30 = .ok (.getfield 9, 3) := by decide +kernel
theorem dX5_firstFault_33 : decode cX5_firstFault 33 = .ok (.iload_n 1, 1) := by decide +kernel
theorem dX5_firstFault_34 : decode cX5_firstFault 34 = .ok (.iaload, 1) := by decide +kernel
theorem dX5_firstFault_35 : decode cX5_firstFault 35 = .ok (.imul, 1) := by decide +kernel
theorem dX5_firstFault_36 : decode cX5_firstFault 36 = .ok (.iadd, 1) := by decide +kernel
theorem dX5_firstFault_37 : decode cX5_firstFault 37 = .ok (.ireturn, 1) := by decide +kernel
theorem dX5_firstFault_38 : decode cX5_firstFault 38 = .ok (.iinc 1 1, 3) := by decide +kernel
theorem dX5_firstFault_41 : decode cX5_firstFault 41 = .ok (.goto (-36), 3) := by decide +kernel
theorem dX5_firstFault_44 : decode cX5_firstFault 44 = .ok (.iconst 0, 1) := by decide +kernel
theorem dX5_firstFault_45 : decode cX5_firstFault 45 = .ok (.ireturn, 1) := by decide +kernel
theorem dX5_lineUp_0 : decode cX5_lineUp 0 = .ok (.aload_n 0, 1) := by decide +kernel
theorem dX5_lineUp_1 : decode cX5_lineUp 1 = .ok (.bipush 48, 2) := by decide +kernel
theorem dX5_lineUp_3 : decode cX5_lineUp 3 = .ok (.putfield 34, 3) := by decide +kernel
theorem dX5_lineUp_6 : decode cX5_lineUp 6 = .ok (.iconst 1, 1) := by decide +kernel
theorem dX5_lineUp_7 : decode cX5_lineUp 7 = .ok (.istore_n 2, 1) := by decide +kernel
theorem dX5_lineUp_8 : decode cX5_lineUp 8 = .ok (.aload_n 0, 1) := by decide +kernel
theorem dX5_lineUp_9 : decode cX5_lineUp 9 = .ok (.getfield 15, 3) := by decide +kernel
theorem dX5_lineUp_12 : decode cX5_lineUp 12 = .ok (.iconst 0, 1) := by decide +kernel
theorem dX5_lineUp_13 : decode cX5_lineUp 13 = .ok (.iload_n 1, 1) := by decide +kernel
theorem dX5_lineUp_14 : decode cX5_lineUp 14 = .ok (.iastore, 1) := by decide +kernel
theorem dX5_lineUp_15 : decode cX5_lineUp 15 = .ok (.iload_n 2, 1) := by decide +kernel
theorem dX5_lineUp_16 : decode cX5_lineUp 16 = .ok (.ifCond .le 101, 3) := by decide +kernel
theorem dX5_lineUp_19 : decode cX5_lineUp 19 = .ok (.aload_n 0, 1) := by decide +kernel
theorem dX5_lineUp_20 : decode cX5_lineUp 20 = .ok (.getfield 34, 3) := by decide +kernel
theorem dX5_lineUp_23 : decode cX5_lineUp 23 = .ok (.ifCond .le 94, 3) := by decide +kernel
theorem dX5_lineUp_26 : decode cX5_lineUp 26 = .ok (.iinc 2 (-1), 3) := by decide +kernel
theorem dX5_lineUp_29 : decode cX5_lineUp 29 = .ok (.aload_n 0, 1) := by decide +kernel
theorem dX5_lineUp_30 : decode cX5_lineUp 30 = .ok (.getfield 15, 3) := by decide +kernel
theorem dX5_lineUp_33 : decode cX5_lineUp 33 = .ok (.iload_n 2, 1) := by decide +kernel
theorem dX5_lineUp_34 : decode cX5_lineUp 34 = .ok (.iaload, 1) := by decide +kernel
theorem dX5_lineUp_35 : decode cX5_lineUp 35 = .ok (.istore_n 3, 1) := by decide +kernel
theorem dX5_lineUp_36 : decode cX5_lineUp 36 = .ok (.aload_n 0, 1) := by decide +kernel
theorem dX5_lineUp_37 : decode cX5_lineUp 37 = .ok (.dup, 1) := by decide +kernel
theorem dX5_lineUp_38 : decode cX5_lineUp 38 = .ok (.getfield 34, 3) := by decide +kernel
theorem dX5_lineUp_41 : decode cX5_lineUp 41 = .ok (.iconst 1, 1) := by decide +kernel
theorem dX5_lineUp_42 : decode cX5_lineUp 42 = .ok (.isub, 1) := by decide +kernel
theorem dX5_lineUp_43 : decode cX5_lineUp 43 = .ok (.putfield 34, 3) := by decide +kernel
theorem dX5_lineUp_46 : decode cX5_lineUp 46 = .ok (.aload_n 0, 1) := by decide +kernel
theorem dX5_lineUp_47 : decode cX5_lineUp 47 = .ok (.getfield 9, 3) := by decide +kernel
theorem dX5_lineUp_50 : decode cX5_lineUp 50 = .ok (.aload_n 0, 1) := by decide +kernel
theorem dX5_lineUp_51 : decode cX5_lineUp 51 = .ok (.getfield 34, 3) := by decide +kernel
theorem dX5_lineUp_54 : decode cX5_lineUp 54 = .ok (.iload_n 3, 1) := by decide +kernel
theorem dX5_lineUp_55 : decode cX5_lineUp 55 = .ok (.iastore, 1) := by decide +kernel
theorem dX5_lineUp_56 : decode cX5_lineUp 56 = .ok (.aload_n 0, 1) := by decide +kernel
theorem dX5_lineUp_57 : decode cX5_lineUp 57 = .ok (.getfield 38, 3) := by decide +kernel
theorem dX5_lineUp_60 : decode cX5_lineUp 60 = .ok (.iload_n 3, 1) := by decide +kernel
theorem dX5_lineUp_61 : decode cX5_lineUp 61 = .ok (.invokevirtual 53, 3) := by decide +kernel
theorem dX5_lineUp_64 : decode cX5_lineUp 64 = .ok (.iconst (-1), 1) := by decide +kernel
theorem dX5_lineUp_65 : decode cX5_lineUp 65 = .ok (.if_icmp .eq 20, 3) := by decide +kernel
theorem dX5_lineUp_68 : decode cX5_lineUp 68 = .ok (.aload_n 0, 1) := by decide +kernel
theorem dX5_lineUp_69 : decode cX5_lineUp 69 = .ok (.getfield 15, 3) := by decide +kernel
theorem dX5_lineUp_72 : decode cX5_lineUp 72 = .ok (.iload_n 2, 1) := by decide +kernel
theorem dX5_lineUp_73 : decode cX5_lineUp 73 = .ok (.aload_n 0, 1) := by decide +kernel
theorem dX5_lineUp_74 : decode cX5_lineUp 74 = .ok (.getfield 38, 3) := by decide +kernel
theorem dX5_lineUp_77 : decode cX5_lineUp 77 = .ok (.iload_n 3, 1) := by decide +kernel
theorem dX5_lineUp_78 : decode cX5_lineUp 78 = .ok (.invokevirtual 53, 3) := by decide +kernel
theorem dX5_lineUp_81 : decode cX5_lineUp 81 = .ok (.iastore, 1) := by decide +kernel
theorem dX5_lineUp_82 : decode cX5_lineUp 82 = .ok (.iinc 2 1, 3) := by decide +kernel
theorem dX5_lineUp_85 : decode cX5_lineUp 85 = .ok (.aload_n 0, 1) := by decide +kernel
theorem dX5_lineUp_86 : decode cX5_lineUp 86 = .ok (.getfield 38, 3) := by decide +kernel
theorem dX5_lineUp_89 : decode cX5_lineUp 89 = .ok (.iload_n 3, 1) := by decide +kernel
theorem dX5_lineUp_90 : decode cX5_lineUp 90 = .ok (.invokevirtual 59, 3) := by decide +kernel
theorem dX5_lineUp_93 : decode cX5_lineUp 93 = .ok (.iconst (-1), 1) := by decide +kernel
theorem dX5_lineUp_94 : decode cX5_lineUp 94 = .ok (.if_icmp .eq 20, 3) := by decide +kernel
theorem dX5_lineUp_97 : decode cX5_lineUp 97 = .ok (.aload_n 0, 1) := by decide +kernel
theorem dX5_lineUp_98 : decode cX5_lineUp 98 = .ok (.getfield 15, 3) := by decide +kernel
theorem dX5_lineUp_101 : decode cX5_lineUp 101 = .ok (.iload_n 2, 1) := by decide +kernel
theorem dX5_lineUp_102 : decode cX5_lineUp 102 = .ok (.aload_n 0, 1) := by decide +kernel
theorem dX5_lineUp_103 : decode cX5_lineUp 103 = .ok (.getfield 38, 3) := by decide +kernel
theorem dX5_lineUp_106 : decode cX5_lineUp 106 = .ok (.iload_n 3, 1) := by decide +kernel
theorem dX5_lineUp_107 : decode cX5_lineUp 107 = .ok (.invokevirtual 59, 3) := by decide +kernel
theorem dX5_lineUp_110 : decode cX5_lineUp 110 = .ok (.iastore, 1) := by decide +kernel
theorem dX5_lineUp_111 : decode cX5_lineUp 111 = .ok (.iinc 2 1, 3) := by decide +kernel
theorem dX5_lineUp_114 : decode cX5_lineUp 114 = .ok (.goto (-99), 3) := by decide +kernel
theorem dX5_lineUp_117 : decode cX5_lineUp 117 = .ok (.return_, 1) := by decide +kernel
theorem dX5_bind_0 : decode cX5_bind 0 = .ok (.aload_n 0, 1) := by decide +kernel
theorem dX5_bind_1 : decode cX5_bind 1 = .ok (.getfield 18, 3) := by decide +kernel
theorem dX5_bind_4 : decode cX5_bind 4 = .ok (.iload_n 1, 1) := by decide +kernel
theorem dX5_bind_5 : decode cX5_bind 5 = .ok (.iconst (-1), 1) := by decide +kernel
theorem dX5_bind_6 : decode cX5_bind 6 = .ok (.iastore, 1) := by decide +kernel
theorem dX5_bind_7 : decode cX5_bind 7 = .ok (.aload_n 0, 1) := by decide +kernel
theorem dX5_bind_8 : decode cX5_bind 8 = .ok (.getfield 21, 3) := by decide +kernel
theorem dX5_bind_11 : decode cX5_bind 11 = .ok (.iload_n 1, 1) := by decide +kernel
theorem dX5_bind_12 : decode cX5_bind 12 = .ok (.iconst 0, 1) := by decide +kernel
theorem dX5_bind_13 : decode cX5_bind 13 = .ok (.bastore, 1) := by decide +kernel
theorem dX5_bind_14 : decode cX5_bind 14 = .ok (.aload_n 0, 1) := by decide +kernel
theorem dX5_bind_15 : decode cX5_bind 15 = .ok (.getfield 38, 3) := by decide +kernel
theorem dX5_bind_18 : decode cX5_bind 18 = .ok (.iload_n 1, 1) := by decide +kernel
theorem dX5_bind_19 : decode cX5_bind 19 = .ok (.invokevirtual 65, 3) := by decide +kernel
theorem dX5_bind_22 : decode cX5_bind 22 = .ok (.iconst 5, 1) := by decide +kernel
theorem dX5_bind_23 : decode cX5_bind 23 = .ok (.if_icmp .eq 4, 3) := by decide +kernel
theorem dX5_bind_26 : decode cX5_bind 26 = .ok (.return_, 1) := by decide +kernel
theorem dX5_bind_27 : decode cX5_bind 27 = .ok (.iload_n 1, 1) := by decide +kernel
theorem dX5_bind_28 : decode cX5_bind 28 = .ok (.istore_n 3, 1) := by decide +kernel
theorem dX5_bind_29 : decode cX5_bind 29 = .ok (.iconst 0, 1) := by decide +kernel
theorem dX5_bind_30 : decode cX5_bind 30 = .ok (.istore 4, 2) := by decide +kernel
theorem dX5_bind_32 : decode cX5_bind 32 = .ok (.iload 4, 2) := by decide +kernel
theorem dX5_bind_34 : decode cX5_bind 34 = .ok (.bipush 48, 2) := by decide +kernel
theorem dX5_bind_36 : decode cX5_bind 36 = .ok (.if_icmp .ge 112, 3) := by decide +kernel
theorem dX5_bind_39 : decode cX5_bind 39 = .ok (.iload_n 3, 1) := by decide +kernel
theorem dX5_bind_40 : decode cX5_bind 40 = .ok (.iload_n 2, 1) := by decide +kernel
theorem dX5_bind_41 : decode cX5_bind 41 = .ok (.if_icmp .eq 107, 3) := by decide +kernel
theorem dX5_bind_44 : decode cX5_bind 44 = .ok (.aload_n 0, 1) := by decide +kernel
theorem dX5_bind_45 : decode cX5_bind 45 = .ok (.getfield 18, 3) := by decide +kernel
theorem dX5_bind_48 : decode cX5_bind 48 = .ok (.iload_n 1, 1) := by decide +kernel
theorem dX5_bind_49 : decode cX5_bind 49 = .ok (.iaload, 1) := by decide +kernel
theorem dX5_bind_50 : decode cX5_bind 50 = .ok (.iconst (-1), 1) := by decide +kernel
theorem dX5_bind_51 : decode cX5_bind 51 = .ok (.if_icmp .ne 97, 3) := by decide +kernel
theorem dX5_bind_54 : decode cX5_bind 54 = .ok (.aload_n 0, 1) := by decide +kernel
theorem dX5_bind_55 : decode cX5_bind 55 = .ok (.getfield 38, 3) := by decide +kernel
theorem dX5_bind_58 : decode cX5_bind 58 = .ok (.iload_n 3, 1) := by decide +kernel
theorem dX5_bind_59 : decode cX5_bind 59 = .ok (.invokevirtual 68, 3) := by decide +kernel
theorem dX5_bind_62 : decode cX5_bind 62 = .ok (.istore 5, 2) := by decide +kernel
theorem dX5_bind_64 : decode cX5_bind 64 = .ok (.aload_n 0, 1) := by decide +kernel
theorem dX5_bind_65 : decode cX5_bind 65 = .ok (.getfield 38, 3) := by decide +kernel
theorem dX5_bind_68 : decode cX5_bind 68 = .ok (.iload 5, 2) := by decide +kernel
theorem dX5_bind_70 : decode cX5_bind 70 = .ok (.invokevirtual 65, 3) := by decide +kernel
theorem dX5_bind_73 : decode cX5_bind 73 = .ok (.iconst 3, 1) := by decide +kernel
theorem dX5_bind_74 : decode cX5_bind 74 = .ok (.if_icmp .ne 23, 3) := by decide +kernel
theorem dX5_bind_77 : decode cX5_bind 77 = .ok (.aload_n 0, 1) := by decide +kernel
theorem dX5_bind_78 : decode cX5_bind 78 = .ok (.getfield 38, 3) := by decide +kernel
theorem dX5_bind_81 : decode cX5_bind 81 = .ok (.iload 5, 2) := by decide +kernel
theorem dX5_bind_83 : decode cX5_bind 83 = .ok (.invokevirtual 59, 3) := by decide +kernel
theorem dX5_bind_86 : decode cX5_bind 86 = .ok (.iload_n 3, 1) := by decide +kernel
theorem dX5_bind_87 : decode cX5_bind 87 = .ok (.if_icmp .ne 10, 3) := by decide +kernel
theorem dX5_bind_90 : decode cX5_bind 90 = .ok (.aload_n 0, 1) := by decide +kernel
theorem dX5_bind_91 : decode cX5_bind 91 = .ok (.getfield 21, 3) := by decide +kernel
theorem dX5_bind_94 : decode cX5_bind 94 = .ok (.iload_n 1, 1) := by decide +kernel
theorem dX5_bind_95 : decode cX5_bind 95 = .ok (.iconst 1, 1) := by decide +kernel
theorem dX5_bind_96 : decode cX5_bind 96 = .ok (.bastore, 1) := by decide +kernel
theorem dX5_bind_97 : decode cX5_bind 97 = .ok (.aload_n 0, 1) := by decide +kernel
theorem dX5_bind_98 : decode cX5_bind 98 = .ok (.getfield 38, 3) := by decide +kernel
theorem dX5_bind_101 : decode cX5_bind 101 = .ok (.iload 5, 2) := by decide +kernel
theorem dX5_bind_103 : decode cX5_bind 103 = .ok (.invokevirtual 65, 3) := by decide +kernel
theorem dX5_bind_106 : decode cX5_bind 106 = .ok (.bipush 6, 2) := by decide +kernel
theorem dX5_bind_108 : decode cX5_bind 108 = .ok (.if_icmp .ne 31, 3) := by decide +kernel
theorem dX5_bind_111 : decode cX5_bind 111 = .ok (.aload_n 0, 1) := by decide +kernel
theorem dX5_bind_112 : decode cX5_bind 112 = .ok (.getfield 38, 3) := by decide +kernel
theorem dX5_bind_115 : decode cX5_bind 115 = .ok (.iload 5, 2) := by decide +kernel
theorem dX5_bind_117 : decode cX5_bind 117 = .ok (.invokevirtual 71, 3) := by decide +kernel
theorem dX5_bind_120 : decode cX5_bind 120 = .ok (.aload_n 0, 1) := by decide +kernel
theorem dX5_bind_121 : decode cX5_bind 121 = .ok (.getfield 38, 3) := by decide +kernel
theorem dX5_bind_124 : decode cX5_bind 124 = .ok (.iload_n 1, 1) := by decide +kernel
theorem dX5_bind_125 : decode cX5_bind 125 = .ok (.invokevirtual 71, 3) := by decide +kernel
theorem dX5_bind_128 : decode cX5_bind 128 = .ok (.if_icmp .ne 11, 3) := by decide +kernel
theorem dX5_bind_131 : decode cX5_bind 131 = .ok (.aload_n 0, 1) := by decide +kernel
theorem dX5_bind_132 : decode cX5_bind 132 = .ok (.getfield 18, 3) := by decide +kernel
theorem dX5_bind_135 : decode cX5_bind 135 = .ok (.iload_n 1, 1) := by decide +kernel
theorem dX5_bind_136 : decode cX5_bind 136 = .ok (.iload 5, 2) := by decide +kernel
theorem dX5_bind_138 : decode cX5_bind 138 = .ok (.iastore, 1) := by decide +kernel
theorem dX5_bind_139 : decode cX5_bind 139 = .ok (.iload 5, 2) := by decide +kernel
theorem dX5_bind_141 : decode cX5_bind 141 = .ok (.istore_n 3, 1) := by decide +kernel
theorem dX5_bind_142 : decode cX5_bind 142 = .ok (.iinc 4 1, 3) := by decide +kernel
theorem dX5_bind_145 : decode cX5_bind 145 = .ok (.goto (-113), 3) := by decide +kernel
theorem dX5_bind_148 : decode cX5_bind 148 = .ok (.return_, 1) := by decide +kernel
theorem dX5_inferTypes_0 : decode cX5_inferTypes 0 = .ok (.aload_n 0, 1) := by decide +kernel
theorem dX5_inferTypes_1 : decode cX5_inferTypes 1 = .ok (.getfield 34, 3) := by decide +kernel
theorem dX5_inferTypes_4 : decode cX5_inferTypes 4 = .ok (.istore_n 1, 1) := by decide +kernel
theorem dX5_inferTypes_5 : decode cX5_inferTypes 5 = .ok (.iload_n 1, 1) := by decide +kernel
theorem dX5_inferTypes_6 : decode cX5_inferTypes 6 = .ok (.bipush 48, 2) := by decide +kernel
theorem dX5_inferTypes_8 : decode cX5_inferTypes 8 = .ok (.if_icmp .ge 37, 3) := by decide +kernel
theorem dX5_inferTypes_11 : decode cX5_inferTypes 11 = .ok (.aload_n 0, 1) := by decide +kernel
theorem dX5_inferTypes_12 : decode cX5_inferTypes 12 = .ok (.getfield 9, 3) := by decide +kernel
theorem dX5_inferTypes_15 : decode cX5_inferTypes 15 = .ok (.iload_n 1, 1) := by decide +kernel
theorem dX5_inferTypes_16 : decode cX5_inferTypes 16 = .ok (.iaload, 1) := by decide +kernel
theorem dX5_inferTypes_17 : decode cX5_inferTypes 17 = .ok (.istore_n 2, 1) := by decide +kernel
theorem dX5_inferTypes_18 : decode cX5_inferTypes 18 = .ok (.aload_n 0, 1) := by decide +kernel
theorem dX5_inferTypes_19 : decode cX5_inferTypes 19 = .ok (.getfield 25, 3) := by decide +kernel
theorem dX5_inferTypes_22 : decode cX5_inferTypes 22 = .ok (.iload_n 2, 1) := by decide +kernel
theorem dX5_inferTypes_23 : decode cX5_inferTypes 23 = .ok (.iconst 0, 1) := by decide +kernel
theorem dX5_inferTypes_24 : decode cX5_inferTypes 24 = .ok (.bastore, 1) := by decide +kernel
theorem dX5_inferTypes_25 : decode cX5_inferTypes 25 = .ok (.aload_n 0, 1) := by decide +kernel
theorem dX5_inferTypes_26 : decode cX5_inferTypes 26 = .ok (.getfield 28, 3) := by decide +kernel
theorem dX5_inferTypes_29 : decode cX5_inferTypes 29 = .ok (.iload_n 2, 1) := by decide +kernel
theorem dX5_inferTypes_30 : decode cX5_inferTypes 30 = .ok (.iconst 0, 1) := by decide +kernel
theorem dX5_inferTypes_31 : decode cX5_inferTypes 31 = .ok (.iastore, 1) := by decide +kernel
theorem dX5_inferTypes_32 : decode cX5_inferTypes 32 = .ok (.aload_n 0, 1) := by decide +kernel
theorem dX5_inferTypes_33 : decode cX5_inferTypes 33 = .ok (.getfield 31, 3) := by decide +kernel
theorem dX5_inferTypes_36 : decode cX5_inferTypes 36 = .ok (.iload_n 2, 1) := by decide +kernel
theorem dX5_inferTypes_37 : decode cX5_inferTypes 37 = .ok (.iconst 0, 1) := by decide +kernel
theorem dX5_inferTypes_38 : decode cX5_inferTypes 38 = .ok (.iastore, 1) := by decide +kernel
theorem dX5_inferTypes_39 : decode cX5_inferTypes 39 = .ok (.iinc 1 1, 3) := by decide +kernel
theorem dX5_inferTypes_42 : decode cX5_inferTypes 42 = .ok (.goto (-37), 3) := by decide +kernel
theorem dX5_inferTypes_45 : decode cX5_inferTypes 45 = .ok (.iconst 1, 1) := by decide +kernel
theorem dX5_inferTypes_46 : decode cX5_inferTypes 46 = .ok (.istore_n 1, 1) := by decide +kernel
theorem dX5_inferTypes_47 : decode cX5_inferTypes 47 = .ok (.iconst 0, 1) := by decide +kernel
theorem dX5_inferTypes_48 : decode cX5_inferTypes 48 = .ok (.istore_n 2, 1) := by decide +kernel
theorem dX5_inferTypes_49 : decode cX5_inferTypes 49 = .ok (.iload_n 1, 1) := by decide +kernel
theorem dX5_inferTypes_50 : decode cX5_inferTypes 50 = .ok (.ifCond .eq 50, 3) := by decide +kernel
theorem dX5_inferTypes_53 : decode cX5_inferTypes 53 = .ok (.iload_n 2, 1) := by decide +kernel
theorem dX5_inferTypes_54 : decode cX5_inferTypes 54 = .ok (.sipush 817, 3) := by decide +kernel
theorem dX5_inferTypes_57 : decode cX5_inferTypes 57 = .ok (.if_icmp .ge 43, 3) := by decide +kernel
theorem dX5_inferTypes_60 : decode cX5_inferTypes 60 = .ok (.iconst 0, 1) := by decide +kernel
theorem dX5_inferTypes_61 : decode cX5_inferTypes 61 = .ok (.istore_n 1, 1) := by decide +kernel
theorem dX5_inferTypes_62 : decode cX5_inferTypes 62 = .ok (.aload_n 0, 1) := by decide +kernel
theorem dX5_inferTypes_63 : decode cX5_inferTypes 63 = .ok (.getfield 34, 3) := by decide +kernel
theorem dX5_inferTypes_66 : decode cX5_inferTypes 66 = .ok (.istore_n 3, 1) := by decide +kernel
theorem dX5_inferTypes_67 : decode cX5_inferTypes 67 = .ok (.iload_n 3, 1) := by decide +kernel
theorem dX5_inferTypes_68 : decode cX5_inferTypes 68 = .ok (.bipush 48, 2) := by decide +kernel
theorem dX5_inferTypes_70 : decode cX5_inferTypes 70 = .ok (.if_icmp .ge 24, 3) := by decide +kernel
theorem dX5_inferTypes_73 : decode cX5_inferTypes 73 = .ok (.aload_n 0, 1) := by decide +kernel
theorem dX5_inferTypes_74 : decode cX5_inferTypes 74 = .ok (.aload_n 0, 1) := by decide +kernel
theorem dX5_inferTypes_75 : decode cX5_inferTypes 75 = .ok (.getfield 9, 3) := by decide +kernel
theorem dX5_inferTypes_78 : decode cX5_inferTypes 78 = .ok (.iload_n 3, 1) := by decide +kernel
theorem dX5_inferTypes_79 : decode cX5_inferTypes 79 = .ok (.iaload, 1) := by decide +kernel
theorem dX5_inferTypes_80 : decode cX5_inferTypes 80 = .ok (.invokevirtual 74, 3) := by decide +kernel
theorem dX5_inferTypes_83 : decode cX5_inferTypes 83 = .ok (.ifCond .eq 5, 3) := by decide +kernel
theorem dX5_inferTypes_86 : decode cX5_inferTypes 86 = .ok (.iconst 1, 1) := by decide +kernel
theorem dX5_inferTypes_87 : decode cX5_inferTypes 87 = .ok (.istore_n 1, 1) := by decide +kernel
theorem dX5_inferTypes_88 : decode cX5_inferTypes 88 = .ok (.iinc 3 1, 3) := by decide +kernel
theorem dX5_inferTypes_91 : decode cX5_inferTypes 91 = .ok (.goto (-24), 3) := by decide +kernel
theorem dX5_inferTypes_94 : decode cX5_inferTypes 94 = .ok (.iinc 2 1, 3) := by decide +kernel
theorem dX5_inferTypes_97 : decode cX5_inferTypes 97 = .ok (.goto (-48), 3) := by decide +kernel
theorem dX5_inferTypes_100 : decode cX5_inferTypes 100 = .ok (.return_, 1) := by decide +kernel
theorem dX5_widen_0 : decode cX5_widen 0 = .ok (.aload_n 0, 1) := by decide +kernel
theorem dX5_widen_1 : decode cX5_widen 1 = .ok (.getfield 38, 3) := by decide +kernel
theorem dX5_widen_4 : decode cX5_widen 4 = .ok (.iload_n 1, 1) := by decide +kernel
theorem dX5_widen_5 : decode cX5_widen 5 = .ok (.invokevirtual 65, 3) := by decide +kernel
theorem dX5_widen_8 : decode cX5_widen 8 = .ok (.tableswitch 159 0 6 #[44, 159, 53, 71, 93, 133, 145], 44) := by decide +kernel
theorem dX5_widen_52 : decode cX5_widen 52 = .ok (.aload_n 0, 1) := by decide +kernel
theorem dX5_widen_53 : decode cX5_widen 53 = .ok (.iload_n 1, 1) := by decide +kernel
theorem dX5_widen_54 : decode cX5_widen 54 = .ok (.iconst 1, 1) := by decide +kernel
theorem dX5_widen_55 : decode cX5_widen 55 = .ok (.iconst 0, 1) := by decide +kernel
theorem dX5_widen_56 : decode cX5_widen 56 = .ok (.iconst 0, 1) := by decide +kernel
theorem dX5_widen_57 : decode cX5_widen 57 = .ok (.invokevirtual 78, 3) := by decide +kernel
theorem dX5_widen_60 : decode cX5_widen 60 = .ok (.ireturn, 1) := by decide +kernel
theorem dX5_widen_61 : decode cX5_widen 61 = .ok (.aload_n 0, 1) := by decide +kernel
theorem dX5_widen_62 : decode cX5_widen 62 = .ok (.iload_n 1, 1) := by decide +kernel
theorem dX5_widen_63 : decode cX5_widen 63 = .ok (.iconst 0, 1) := by decide +kernel
theorem dX5_widen_64 : decode cX5_widen 64 = .ok (.iconst 1, 1) := by decide +kernel
theorem dX5_widen_65 : decode cX5_widen 65 = .ok (.aload_n 0, 1) := by decide +kernel
theorem dX5_widen_66 : decode cX5_widen 66 = .ok (.getfield 38, 3) := by decide +kernel
theorem dX5_widen_69 : decode cX5_widen 69 = .ok (.iload_n 1, 1) := by decide +kernel
theorem dX5_widen_70 : decode cX5_widen 70 = .ok (.invokevirtual 71, 3) := by decide +kernel
theorem dX5_widen_73 : decode cX5_widen 73 = .ok (.ishl, 1) := by decide +kernel
theorem dX5_widen_74 : decode cX5_widen 74 = .ok (.iconst 0, 1) := by decide +kernel
theorem dX5_widen_75 : decode cX5_widen 75 = .ok (.invokevirtual 78, 3) := by decide +kernel
theorem dX5_widen_78 : decode cX5_widen 78 = .ok (.ireturn, 1) := by decide +kernel
theorem dX5_widen_79 : decode cX5_widen 79 = .ok (.aload_n 0, 1) := by decide +kernel
theorem dX5_widen_80 : decode cX5_widen 80 = .ok (.iload_n 1, 1) := by decide +kernel
theorem dX5_widen_81 : decode cX5_widen 81 = .ok (.aload_n 0, 1) := by decide +kernel
theorem dX5_widen_82 : decode cX5_widen 82 = .ok (.getfield 38, 3) := by decide +kernel
theorem dX5_widen_85 : decode cX5_widen 85 = .ok (.iload_n 1, 1) := by decide +kernel
theorem dX5_widen_86 : decode cX5_widen 86 = .ok (.invokevirtual 53, 3) := by decide +kernel
theorem dX5_widen_89 : decode cX5_widen 89 = .ok (.aload_n 0, 1) := by decide +kernel
theorem dX5_widen_90 : decode cX5_widen 90 = .ok (.getfield 38, 3) := by decide +kernel
theorem dX5_widen_93 : decode cX5_widen 93 = .ok (.iload_n 1, 1) := by decide +kernel
theorem dX5_widen_94 : decode cX5_widen 94 = .ok (.invokevirtual 59, 3) := by decide +kernel
theorem dX5_widen_97 : decode cX5_widen 97 = .ok (.invokevirtual 82, 3) := by decide +kernel
theorem dX5_widen_100 : decode cX5_widen 100 = .ok (.ireturn, 1) := by decide +kernel
theorem dX5_widen_101 : decode cX5_widen 101 = .ok (.aload_n 0, 1) := by decide +kernel
theorem dX5_widen_102 : decode cX5_widen 102 = .ok (.iload_n 1, 1) := by decide +kernel
theorem dX5_widen_103 : decode cX5_widen 103 = .ok (.aload_n 0, 1) := by decide +kernel
theorem dX5_widen_104 : decode cX5_widen 104 = .ok (.getfield 38, 3) := by decide +kernel
theorem dX5_widen_107 : decode cX5_widen 107 = .ok (.iload_n 1, 1) := by decide +kernel
theorem dX5_widen_108 : decode cX5_widen 108 = .ok (.invokevirtual 53, 3) := by decide +kernel
theorem dX5_widen_111 : decode cX5_widen 111 = .ok (.invokevirtual 86, 3) := by decide +kernel
theorem dX5_widen_114 : decode cX5_widen 114 = .ok (.istore_n 2, 1) := by decide +kernel
theorem dX5_widen_115 : decode cX5_widen 115 = .ok (.aload_n 0, 1) := by decide +kernel
theorem dX5_widen_116 : decode cX5_widen 116 = .ok (.iload_n 1, 1) := by decide +kernel
theorem dX5_widen_117 : decode cX5_widen 117 = .ok (.aload_n 0, 1) := by decide +kernel
theorem dX5_widen_118 : decode cX5_widen 118 = .ok (.getfield 38, 3) := by decide +kernel
theorem dX5_widen_121 : decode cX5_widen 121 = .ok (.iload_n 1, 1) := by decide +kernel
theorem dX5_widen_122 : decode cX5_widen 122 = .ok (.invokevirtual 59, 3) := by decide +kernel
theorem dX5_widen_125 : decode cX5_widen 125 = .ok (.invokevirtual 86, 3) := by decide +kernel
theorem dX5_widen_128 : decode cX5_widen 128 = .ok (.ifCond .ne 7, 3) := by decide +kernel
theorem dX5_widen_131 : decode cX5_widen 131 = .ok (.iload_n 2, 1) := by decide +kernel
theorem dX5_widen_132 : decode cX5_widen 132 = .ok (.ifCond .eq 7, 3) := by decide +kernel
theorem dX5_widen_135 : decode cX5_widen 135 = .ok (.iconst 1, 1) := by decide +kernel
theorem dX5_widen_136 : decode cX5_widen 136 = .ok (.goto 4, 3) := by decide +kernel
theorem dX5_widen_139 : decode cX5_widen 139 = .ok (.iconst 0, 1) := by decide +kernel
theorem dX5_widen_140 : decode cX5_widen 140 = .ok (.ireturn, 1) := by decide +kernel
theorem dX5_widen_141 : decode cX5_widen 141 = .ok (.aload_n 0, 1) := by decide +kernel
theorem dX5_widen_142 : decode cX5_widen 142 = .ok (.iload_n 1, 1) := by decide +kernel
theorem dX5_widen_143 : decode cX5_widen 143 = .ok (.aload_n 0, 1) := by decide +kernel
theorem dX5_widen_144 : decode cX5_widen 144 = .ok (.getfield 18, 3) := by decide +kernel
theorem dX5_widen_147 : decode cX5_widen 147 = .ok (.iload_n 1, 1) := by decide +kernel
theorem dX5_widen_148 : decode cX5_widen 148 = .ok (.iaload, 1) := by decide +kernel
theorem dX5_widen_149 : decode cX5_widen 149 = .ok (.invokevirtual 86, 3) := by decide +kernel
theorem dX5_widen_152 : decode cX5_widen 152 = .ok (.ireturn, 1) := by decide +kernel
theorem dX5_widen_153 : decode cX5_widen 153 = .ok (.aload_n 0, 1) := by decide +kernel
theorem dX5_widen_154 : decode cX5_widen 154 = .ok (.iload_n 1, 1) := by decide +kernel
theorem dX5_widen_155 : decode cX5_widen 155 = .ok (.aload_n 0, 1) := by decide +kernel
theorem dX5_widen_156 : decode cX5_widen 156 = .ok (.getfield 38, 3) := by decide +kernel
theorem dX5_widen_159 : decode cX5_widen 159 = .ok (.iload_n 1, 1) := by decide +kernel
theorem dX5_widen_160 : decode cX5_widen 160 = .ok (.invokevirtual 53, 3) := by decide +kernel
theorem dX5_widen_163 : decode cX5_widen 163 = .ok (.invokevirtual 86, 3) := by decide +kernel
theorem dX5_widen_166 : decode cX5_widen 166 = .ok (.ireturn, 1) := by decide +kernel
theorem dX5_widen_167 : decode cX5_widen 167 = .ok (.iconst 0, 1) := by decide +kernel
theorem dX5_widen_168 : decode cX5_widen 168 = .ok (.ireturn, 1) := by decide +kernel
theorem dX5_widenPair_0 : decode cX5_widenPair 0 = .ok (.aload_n 0, 1) := by decide +kernel
theorem dX5_widenPair_1 : decode cX5_widenPair 1 = .ok (.getfield 28, 3) := by decide +kernel
theorem dX5_widenPair_4 : decode cX5_widenPair 4 = .ok (.iload_n 2, 1) := by decide +kernel
theorem dX5_widenPair_5 : decode cX5_widenPair 5 = .ok (.iaload, 1) := by decide +kernel
theorem dX5_widenPair_6 : decode cX5_widenPair 6 = .ok (.aload_n 0, 1) := by decide +kernel
theorem dX5_widenPair_7 : decode cX5_widenPair 7 = .ok (.getfield 25, 3) := by decide +kernel
theorem dX5_widenPair_10 : decode cX5_widenPair 10 = .ok (.iload_n 2, 1) := by decide +kernel
theorem dX5_widenPair_11 : decode cX5_widenPair 11 = .ok (.baload, 1) := by decide +kernel
theorem dX5_widenPair_12 : decode cX5_widenPair 12 = .ok (.ifCond .eq 12, 3) := by decide +kernel
theorem dX5_widenPair_15 : decode cX5_widenPair 15 = .ok (.aload_n 0, 1) := by decide +kernel
theorem dX5_widenPair_16 : decode cX5_widenPair 16 = .ok (.getfield 28, 3) := by decide +kernel
theorem dX5_widenPair_19 : decode cX5_widenPair 19 = .ok (.iload_n 3, 1) := by decide +kernel
theorem dX5_widenPair_20 : decode cX5_widenPair 20 = .ok (.iaload, 1) := by decide +kernel
theorem dX5_widenPair_21 : decode cX5_widenPair 21 = .ok (.goto 4, 3) := by decide +kernel
theorem dX5_widenPair_24 : decode cX5_widenPair 24 = .ok (.iconst 0, 1) := by decide +kernel
theorem dX5_widenPair_25 : decode cX5_widenPair 25 = .ok (.ior, 1) := by decide +kernel
theorem dX5_widenPair_26 : decode cX5_widenPair 26 = .ok (.istore 4, 2) := by decide +kernel
theorem dX5_widenPair_28 : decode cX5_widenPair 28 = .ok (.aload_n 0, 1) := by decide +kernel
theorem dX5_widenPair_29 : decode cX5_widenPair 29 = .ok (.getfield 31, 3) := by decide +kernel
theorem dX5_widenPair_32 : decode cX5_widenPair 32 = .ok (.iload_n 3, 1) := by decide +kernel
theorem dX5_widenPair_33 : decode cX5_widenPair 33 = .ok (.iaload, 1) := by decide +kernel
theorem dX5_widenPair_34 : decode cX5_widenPair 34 = .ok (.aload_n 0, 1) := by decide +kernel
theorem dX5_widenPair_35 : decode cX5_widenPair 35 = .ok (.getfield 25, 3) := by decide +kernel
theorem dX5_widenPair_38 : decode cX5_widenPair 38 = .ok (.iload_n 3, 1) := by decide +kernel
theorem dX5_widenPair_39 : decode cX5_widenPair 39 = .ok (.baload, 1) := by decide +kernel
theorem dX5_widenPair_40 : decode cX5_widenPair 40 = .ok (.ifCond .eq 19, 3) := by decide +kernel
theorem dX5_widenPair_43 : decode cX5_widenPair 43 = .ok (.aload_n 0, 1) := by decide +kernel
theorem dX5_widenPair_44 : decode cX5_widenPair 44 = .ok (.getfield 28, 3) := by decide +kernel
theorem dX5_widenPair_47 : decode cX5_widenPair 47 = .ok (.iload_n 3, 1) := by decide +kernel
theorem dX5_widenPair_48 : decode cX5_widenPair 48 = .ok (.iaload, 1) := by decide +kernel
theorem dX5_widenPair_49 : decode cX5_widenPair 49 = .ok (.aload_n 0, 1) := by decide +kernel
theorem dX5_widenPair_50 : decode cX5_widenPair 50 = .ok (.getfield 31, 3) := by decide +kernel
theorem dX5_widenPair_53 : decode cX5_widenPair 53 = .ok (.iload_n 2, 1) := by decide +kernel
theorem dX5_widenPair_54 : decode cX5_widenPair 54 = .ok (.iaload, 1) := by decide +kernel
theorem dX5_widenPair_55 : decode cX5_widenPair 55 = .ok (.ior, 1) := by decide +kernel
theorem dX5_widenPair_56 : decode cX5_widenPair 56 = .ok (.goto 4, 3) := by decide +kernel
theorem dX5_widenPair_59 : decode cX5_widenPair 59 = .ok (.iconst 0, 1) := by decide +kernel
theorem dX5_widenPair_60 : decode cX5_widenPair 60 = .ok (.ior, 1) := by decide +kernel
theorem dX5_widenPair_61 : decode cX5_widenPair 61 = .ok (.istore 5, 2) := by decide +kernel
theorem dX5_widenPair_63 : decode cX5_widenPair 63 = .ok (.aload_n 0, 1) := by decide +kernel
theorem dX5_widenPair_64 : decode cX5_widenPair 64 = .ok (.iload_n 1, 1) := by decide +kernel
theorem dX5_widenPair_65 : decode cX5_widenPair 65 = .ok (.aload_n 0, 1) := by decide +kernel
theorem dX5_widenPair_66 : decode cX5_widenPair 66 = .ok (.getfield 25, 3) := by decide +kernel
theorem dX5_widenPair_69 : decode cX5_widenPair 69 = .ok (.iload_n 2, 1) := by decide +kernel
theorem dX5_widenPair_70 : decode cX5_widenPair 70 = .ok (.baload, 1) := by decide +kernel
theorem dX5_widenPair_71 : decode cX5_widenPair 71 = .ok (.ifCond .eq 16, 3) := by decide +kernel
theorem dX5_widenPair_74 : decode cX5_widenPair 74 = .ok (.aload_n 0, 1) := by decide +kernel
theorem dX5_widenPair_75 : decode cX5_widenPair 75 = .ok (.getfield 25, 3) := by decide +kernel
theorem dX5_widenPair_78 : decode cX5_widenPair 78 = .ok (.iload_n 3, 1) := by decide +kernel
theorem dX5_widenPair_79 : decode cX5_widenPair 79 = .ok (.baload, 1) := by decide +kernel
theorem dX5_widenPair_80 : decode cX5_widenPair 80 = .ok (.ifCond .eq 7, 3) := by decide +kernel
theorem dX5_widenPair_83 : decode cX5_widenPair 83 = .ok (.iconst 1, 1) := by decide +kernel
theorem dX5_widenPair_84 : decode cX5_widenPair 84 = .ok (.goto 4, 3) := by decide +kernel
theorem dX5_widenPair_87 : decode cX5_widenPair 87 = .ok (.iconst 0, 1) := by decide +kernel
theorem dX5_widenPair_88 : decode cX5_widenPair 88 = .ok (.iload 4, 2) := by decide +kernel
theorem dX5_widenPair_90 : decode cX5_widenPair 90 = .ok (.iload 5, 2) := by decide +kernel
theorem dX5_widenPair_92 : decode cX5_widenPair 92 = .ok (.invokevirtual 78, 3) := by decide +kernel
theorem dX5_widenPair_95 : decode cX5_widenPair 95 = .ok (.ireturn, 1) := by decide +kernel
theorem dX5_addTypeOf_0 : decode cX5_addTypeOf 0 = .ok (.iload_n 2, 1) := by decide +kernel
theorem dX5_addTypeOf_1 : decode cX5_addTypeOf 1 = .ok (.iconst (-1), 1) := by decide +kernel
theorem dX5_addTypeOf_2 : decode cX5_addTypeOf 2 = .ok (.if_icmp .eq 33, 3) := by decide +kernel
theorem dX5_addTypeOf_5 : decode cX5_addTypeOf 5 = .ok (.aload_n 0, 1) := by decide +kernel
theorem dX5_addTypeOf_6 : decode cX5_addTypeOf 6 = .ok (.iload_n 1, 1) := by decide +kernel
theorem dX5_addTypeOf_7 : decode cX5_addTypeOf 7 = .ok (.aload_n 0, 1) := by decide +kernel
theorem dX5_addTypeOf_8 : decode cX5_addTypeOf 8 = .ok (.getfield 25, 3) := by decide +kernel
theorem dX5_addTypeOf_11 : decode cX5_addTypeOf 11 = .ok (.iload_n 2, 1) := by decide +kernel
theorem dX5_addTypeOf_12 : decode cX5_addTypeOf 12 = .ok (.baload, 1) := by decide +kernel
theorem dX5_addTypeOf_13 : decode cX5_addTypeOf 13 = .ok (.aload_n 0, 1) := by decide +kernel
theorem dX5_addTypeOf_14 : decode cX5_addTypeOf 14 = .ok (.getfield 28, 3) := by decide +kernel
theorem dX5_addTypeOf_17 : decode cX5_addTypeOf 17 = .ok (.iload_n 2, 1) := by decide +kernel
theorem dX5_addTypeOf_18 : decode cX5_addTypeOf 18 = .ok (.iaload, 1) := by decide +kernel
theorem dX5_addTypeOf_19 : decode cX5_addTypeOf 19 = .ok (.aload_n 0, 1) := by decide +kernel
theorem dX5_addTypeOf_20 : decode cX5_addTypeOf 20 = .ok (.getfield 31, 3) := by decide +kernel
theorem dX5_addTypeOf_23 : decode cX5_addTypeOf 23 = .ok (.iload_n 2, 1) := by decide +kernel
theorem dX5_addTypeOf_24 : decode cX5_addTypeOf 24 = .ok (.iaload, 1) := by decide +kernel
theorem dX5_addTypeOf_25 : decode cX5_addTypeOf 25 = .ok (.invokevirtual 78, 3) := by decide +kernel
theorem dX5_addTypeOf_28 : decode cX5_addTypeOf 28 = .ok (.ifCond .eq 7, 3) := by decide +kernel
theorem dX5_addTypeOf_31 : decode cX5_addTypeOf 31 = .ok (.iconst 1, 1) := by decide +kernel
theorem dX5_addTypeOf_32 : decode cX5_addTypeOf 32 = .ok (.goto 4, 3) := by decide +kernel
theorem dX5_addTypeOf_35 : decode cX5_addTypeOf 35 = .ok (.iconst 0, 1) := by decide +kernel
theorem dX5_addTypeOf_36 : decode cX5_addTypeOf 36 = .ok (.ireturn, 1) := by decide +kernel
theorem dX5_addToType_0 : decode cX5_addToType 0 = .ok (.iload_n 2, 1) := by decide +kernel
theorem dX5_addToType_1 : decode cX5_addToType 1 = .ok (.ifCond .eq 12, 3) := by decide +kernel
theorem dX5_addToType_4 : decode cX5_addToType 4 = .ok (.aload_n 0, 1) := by decide +kernel
theorem dX5_addToType_5 : decode cX5_addToType 5 = .ok (.getfield 25, 3) := by decide +kernel
theorem dX5_addToType_8 : decode cX5_addToType 8 = .ok (.iload_n 1, 1) := by decide +kernel
theorem dX5_addToType_9 : decode cX5_addToType 9 = .ok (.baload, 1) := by decide +kernel
theorem dX5_addToType_10 : decode cX5_addToType 10 = .ok (.ifCond .eq 30, 3) := by decide +kernel
theorem dX5_addToType_13 : decode cX5_addToType 13 = .ok (.iload_n 3, 1) := by decide +kernel
theorem dX5_addToType_14 : decode cX5_addToType 14 = .ok (.aload_n 0, 1) := by decide +kernel
theorem dX5_addToType_15 : decode cX5_addToType 15 = .ok (.getfield 28, 3) := by decide +kernel
theorem dX5_addToType_18 : decode cX5_addToType 18 = .ok (.iload_n 1, 1) := by decide +kernel
theorem dX5_addToType_19 : decode cX5_addToType 19 = .ok (.iaload, 1) := by decide +kernel
theorem dX5_addToType_20 : decode cX5_addToType 20 = .ok (.iconst (-1), 1) := by decide +kernel
theorem dX5_addToType_21 : decode cX5_addToType 21 = .ok (.ixor, 1) := by decide +kernel
theorem dX5_addToType_22 : decode cX5_addToType 22 = .ok (.iand, 1) := by decide +kernel
end
section
theorem dX5_addToType_23 : decode cX5_addToType 23 = .ok (.ifCond .ne 17, 3) := by decide +kernel
theorem dX5_addToType_26 : decode cX5_addToType 26 = .ok (.iload 4, 2) := by decide +kernel
theorem dX5_addToType_28 : decode cX5_addToType 28 = .ok (.aload_n 0, 1) := by decide +kernel
theorem dX5_addToType_29 : decode cX5_addToType 29 = .ok (.getfield 31, 3) := by decide +kernel
theorem dX5_addToType_32 : decode cX5_addToType 32 = .ok (.iload_n 1, 1) := by decide +kernel
theorem dX5_addToType_33 : decode cX5_addToType 33 = .ok (.iaload, 1) := by decide +kernel
theorem dX5_addToType_34 : decode cX5_addToType 34 = .ok (.iconst (-1), 1) := by decide +kernel
theorem dX5_addToType_35 : decode cX5_addToType 35 = .ok (.ixor, 1) := by decide +kernel
theorem dX5_addToType_36 : decode cX5_addToType 36 = .ok (.iand, 1) := by decide +kernel
theorem dX5_addToType_37 : decode cX5_addToType 37 = .ok (.ifCond .eq 7, 3) := by decide +kernel
theorem dX5_addToType_40 : decode cX5_addToType 40 = .ok (.iconst 1, 1) := by decide +kernel
theorem dX5_addToType_41 : decode cX5_addToType 41 = .ok (.goto 4, 3) := by decide +kernel
theorem dX5_addToType_44 : decode cX5_addToType 44 = .ok (.iconst 0, 1) := by decide +kernel
theorem dX5_addToType_45 : decode cX5_addToType 45 = .ok (.istore 5, 2) := by decide +kernel
theorem dX5_addToType_47 : decode cX5_addToType 47 = .ok (.aload_n 0, 1) := by decide +kernel
theorem dX5_addToType_48 : decode cX5_addToType 48 = .ok (.getfield 25, 3) := by decide +kernel
theorem dX5_addToType_51 : decode cX5_addToType 51 = .ok (.iload_n 1, 1) := by decide +kernel
theorem dX5_addToType_52 : decode cX5_addToType 52 = .ok (.aload_n 0, 1) := by decide +kernel
theorem dX5_addToType_53 : decode cX5_addToType 53 = .ok (.getfield 25, 3) := by decide +kernel
theorem dX5_addToType_56 : decode cX5_addToType 56 = .ok (.iload_n 1, 1) := by decide +kernel
theorem dX5_addToType_57 : decode cX5_addToType 57 = .ok (.baload, 1) := by decide +kernel
theorem dX5_addToType_58 : decode cX5_addToType 58 = .ok (.ifCond .ne 7, 3) := by decide +kernel
theorem dX5_addToType_61 : decode cX5_addToType 61 = .ok (.iload_n 2, 1) := by decide +kernel
theorem dX5_addToType_62 : decode cX5_addToType 62 = .ok (.ifCond .eq 7, 3) := by decide +kernel
theorem dX5_addToType_65 : decode cX5_addToType 65 = .ok (.iconst 1, 1) := by decide +kernel
theorem dX5_addToType_66 : decode cX5_addToType 66 = .ok (.goto 4, 3) := by decide +kernel
theorem dX5_addToType_69 : decode cX5_addToType 69 = .ok (.iconst 0, 1) := by decide +kernel
theorem dX5_addToType_70 : decode cX5_addToType 70 = .ok (.bastore, 1) := by decide +kernel
theorem dX5_addToType_71 : decode cX5_addToType 71 = .ok (.aload_n 0, 1) := by decide +kernel
theorem dX5_addToType_72 : decode cX5_addToType 72 = .ok (.getfield 28, 3) := by decide +kernel
theorem dX5_addToType_75 : decode cX5_addToType 75 = .ok (.iload_n 1, 1) := by decide +kernel
theorem dX5_addToType_76 : decode cX5_addToType 76 = .ok (.dup2, 1) := by decide +kernel
theorem dX5_addToType_77 : decode cX5_addToType 77 = .ok (.iaload, 1) := by decide +kernel
theorem dX5_addToType_78 : decode cX5_addToType 78 = .ok (.iload_n 3, 1) := by decide +kernel
theorem dX5_addToType_79 : decode cX5_addToType 79 = .ok (.ior, 1) := by decide +kernel
theorem dX5_addToType_80 : decode cX5_addToType 80 = .ok (.iastore, 1) := by decide +kernel
theorem dX5_addToType_81 : decode cX5_addToType 81 = .ok (.aload_n 0, 1) := by decide +kernel
theorem dX5_addToType_82 : decode cX5_addToType 82 = .ok (.getfield 31, 3) := by decide +kernel
theorem dX5_addToType_85 : decode cX5_addToType 85 = .ok (.iload_n 1, 1) := by decide +kernel
theorem dX5_addToType_86 : decode cX5_addToType 86 = .ok (.dup2, 1) := by decide +kernel
theorem dX5_addToType_87 : decode cX5_addToType 87 = .ok (.iaload, 1) := by decide +kernel
theorem dX5_addToType_88 : decode cX5_addToType 88 = .ok (.iload 4, 2) := by decide +kernel
theorem dX5_addToType_90 : decode cX5_addToType 90 = .ok (.ior, 1) := by decide +kernel
theorem dX5_addToType_91 : decode cX5_addToType 91 = .ok (.iastore, 1) := by decide +kernel
theorem dX5_addToType_92 : decode cX5_addToType 92 = .ok (.iload 5, 2) := by decide +kernel
theorem dX5_addToType_94 : decode cX5_addToType 94 = .ok (.ireturn, 1) := by decide +kernel
theorem dX5_faultAt_0 : decode cX5_faultAt 0 = .ok (.aload_n 0, 1) := by decide +kernel
theorem dX5_faultAt_1 : decode cX5_faultAt 1 = .ok (.getfield 38, 3) := by decide +kernel
theorem dX5_faultAt_4 : decode cX5_faultAt 4 = .ok (.iload_n 1, 1) := by decide +kernel
theorem dX5_faultAt_5 : decode cX5_faultAt 5 = .ok (.invokevirtual 65, 3) := by decide +kernel
theorem dX5_faultAt_8 : decode cX5_faultAt 8 = .ok (.tableswitch 113 3 5 #[55, 84, 28], 28) := by decide +kernel
theorem dX5_faultAt_36 : decode cX5_faultAt 36 = .ok (.aload_n 0, 1) := by decide +kernel
theorem dX5_faultAt_37 : decode cX5_faultAt 37 = .ok (.getfield 18, 3) := by decide +kernel
theorem dX5_faultAt_40 : decode cX5_faultAt 40 = .ok (.iload_n 1, 1) := by decide +kernel
theorem dX5_faultAt_41 : decode cX5_faultAt 41 = .ok (.iaload, 1) := by decide +kernel
theorem dX5_faultAt_42 : decode cX5_faultAt 42 = .ok (.iconst (-1), 1) := by decide +kernel
theorem dX5_faultAt_43 : decode cX5_faultAt 43 = .ok (.if_icmp .ne 5, 3) := by decide +kernel
theorem dX5_faultAt_46 : decode cX5_faultAt 46 = .ok (.iconst 1, 1) := by decide +kernel
theorem dX5_faultAt_47 : decode cX5_faultAt 47 = .ok (.ireturn, 1) := by decide +kernel
theorem dX5_faultAt_48 : decode cX5_faultAt 48 = .ok (.aload_n 0, 1) := by decide +kernel
theorem dX5_faultAt_49 : decode cX5_faultAt 49 = .ok (.getfield 21, 3) := by decide +kernel
theorem dX5_faultAt_52 : decode cX5_faultAt 52 = .ok (.iload_n 1, 1) := by decide +kernel
theorem dX5_faultAt_53 : decode cX5_faultAt 53 = .ok (.baload, 1) := by decide +kernel
theorem dX5_faultAt_54 : decode cX5_faultAt 54 = .ok (.ifCond .eq 7, 3) := by decide +kernel
theorem dX5_faultAt_57 : decode cX5_faultAt 57 = .ok (.iconst 0, 1) := by decide +kernel
theorem dX5_faultAt_58 : decode cX5_faultAt 58 = .ok (.goto 4, 3) := by decide +kernel
theorem dX5_faultAt_61 : decode cX5_faultAt 61 = .ok (.iconst 2, 1) := by decide +kernel
theorem dX5_faultAt_62 : decode cX5_faultAt 62 = .ok (.ireturn, 1) := by decide +kernel
theorem dX5_faultAt_63 : decode cX5_faultAt 63 = .ok (.aload_n 0, 1) := by decide +kernel
theorem dX5_faultAt_64 : decode cX5_faultAt 64 = .ok (.aload_n 0, 1) := by decide +kernel
theorem dX5_faultAt_65 : decode cX5_faultAt 65 = .ok (.getfield 38, 3) := by decide +kernel
theorem dX5_faultAt_68 : decode cX5_faultAt 68 = .ok (.iload_n 1, 1) := by decide +kernel
theorem dX5_faultAt_69 : decode cX5_faultAt 69 = .ok (.invokevirtual 53, 3) := by decide +kernel
theorem dX5_faultAt_72 : decode cX5_faultAt 72 = .ok (.aload_n 0, 1) := by decide +kernel
theorem dX5_faultAt_73 : decode cX5_faultAt 73 = .ok (.getfield 38, 3) := by decide +kernel
theorem dX5_faultAt_76 : decode cX5_faultAt 76 = .ok (.iload_n 1, 1) := by decide +kernel
theorem dX5_faultAt_77 : decode cX5_faultAt 77 = .ok (.invokevirtual 59, 3) := by decide +kernel
theorem dX5_faultAt_80 : decode cX5_faultAt 80 = .ok (.invokevirtual 90, 3) := by decide +kernel
theorem dX5_faultAt_83 : decode cX5_faultAt 83 = .ok (.ifCond .eq 7, 3) := by decide +kernel
theorem dX5_faultAt_86 : decode cX5_faultAt 86 = .ok (.iconst 3, 1) := by decide +kernel
theorem dX5_faultAt_87 : decode cX5_faultAt 87 = .ok (.goto 4, 3) := by decide +kernel
theorem dX5_faultAt_90 : decode cX5_faultAt 90 = .ok (.iconst 0, 1) := by decide +kernel
theorem dX5_faultAt_91 : decode cX5_faultAt 91 = .ok (.ireturn, 1) := by decide +kernel
theorem dX5_faultAt_92 : decode cX5_faultAt 92 = .ok (.aload_n 0, 1) := by decide +kernel
theorem dX5_faultAt_93 : decode cX5_faultAt 93 = .ok (.aload_n 0, 1) := by decide +kernel
theorem dX5_faultAt_94 : decode cX5_faultAt 94 = .ok (.getfield 38, 3) := by decide +kernel
theorem dX5_faultAt_97 : decode cX5_faultAt 97 = .ok (.iload_n 1, 1) := by decide +kernel
theorem dX5_faultAt_98 : decode cX5_faultAt 98 = .ok (.invokevirtual 53, 3) := by decide +kernel
theorem dX5_faultAt_101 : decode cX5_faultAt 101 = .ok (.aload_n 0, 1) := by decide +kernel
theorem dX5_faultAt_102 : decode cX5_faultAt 102 = .ok (.getfield 38, 3) := by decide +kernel
theorem dX5_faultAt_105 : decode cX5_faultAt 105 = .ok (.iload_n 1, 1) := by decide +kernel
theorem dX5_faultAt_106 : decode cX5_faultAt 106 = .ok (.invokevirtual 59, 3) := by decide +kernel
theorem dX5_faultAt_109 : decode cX5_faultAt 109 = .ok (.invokevirtual 93, 3) := by decide +kernel
theorem dX5_faultAt_112 : decode cX5_faultAt 112 = .ok (.ifCond .eq 7, 3) := by decide +kernel
theorem dX5_faultAt_115 : decode cX5_faultAt 115 = .ok (.iconst 4, 1) := by decide +kernel
theorem dX5_faultAt_116 : decode cX5_faultAt 116 = .ok (.goto 4, 3) := by decide +kernel
theorem dX5_faultAt_119 : decode cX5_faultAt 119 = .ok (.iconst 0, 1) := by decide +kernel
theorem dX5_faultAt_120 : decode cX5_faultAt 120 = .ok (.ireturn, 1) := by decide +kernel
theorem dX5_faultAt_121 : decode cX5_faultAt 121 = .ok (.iconst 0, 1) := by decide +kernel
theorem dX5_faultAt_122 : decode cX5_faultAt 122 = .ok (.ireturn, 1) := by decide +kernel
theorem dX5_isLoose_0 : decode cX5_isLoose 0 = .ok (.aload_n 0, 1) := by decide +kernel
theorem dX5_isLoose_1 : decode cX5_isLoose 1 = .ok (.getfield 25, 3) := by decide +kernel
theorem dX5_isLoose_4 : decode cX5_isLoose 4 = .ok (.iload_n 1, 1) := by decide +kernel
theorem dX5_isLoose_5 : decode cX5_isLoose 5 = .ok (.baload, 1) := by decide +kernel
theorem dX5_isLoose_6 : decode cX5_isLoose 6 = .ok (.ifCond .ne 19, 3) := by decide +kernel
theorem dX5_isLoose_9 : decode cX5_isLoose 9 = .ok (.aload_n 0, 1) := by decide +kernel
theorem dX5_isLoose_10 : decode cX5_isLoose 10 = .ok (.getfield 31, 3) := by decide +kernel
theorem dX5_isLoose_13 : decode cX5_isLoose 13 = .ok (.iload_n 1, 1) := by decide +kernel
theorem dX5_isLoose_14 : decode cX5_isLoose 14 = .ok (.iaload, 1) := by decide +kernel
theorem dX5_isLoose_15 : decode cX5_isLoose 15 = .ok (.aload_n 0, 1) := by decide +kernel
theorem dX5_isLoose_16 : decode cX5_isLoose 16 = .ok (.getfield 28, 3) := by decide +kernel
theorem dX5_isLoose_19 : decode cX5_isLoose 19 = .ok (.iload_n 2, 1) := by decide +kernel
theorem dX5_isLoose_20 : decode cX5_isLoose 20 = .ok (.iaload, 1) := by decide +kernel
theorem dX5_isLoose_21 : decode cX5_isLoose 21 = .ok (.iand, 1) := by decide +kernel
theorem dX5_isLoose_22 : decode cX5_isLoose 22 = .ok (.ifCond .eq 7, 3) := by decide +kernel
theorem dX5_isLoose_25 : decode cX5_isLoose 25 = .ok (.iconst 1, 1) := by decide +kernel
theorem dX5_isLoose_26 : decode cX5_isLoose 26 = .ok (.goto 4, 3) := by decide +kernel
theorem dX5_isLoose_29 : decode cX5_isLoose 29 = .ok (.iconst 0, 1) := by decide +kernel
theorem dX5_isLoose_30 : decode cX5_isLoose 30 = .ok (.ireturn, 1) := by decide +kernel
theorem dX5_isDouble_0 : decode cX5_isDouble 0 = .ok (.aload_n 0, 1) := by decide +kernel
theorem dX5_isDouble_1 : decode cX5_isDouble 1 = .ok (.getfield 25, 3) := by decide +kernel
theorem dX5_isDouble_4 : decode cX5_isDouble 4 = .ok (.iload_n 1, 1) := by decide +kernel
theorem dX5_isDouble_5 : decode cX5_isDouble 5 = .ok (.baload, 1) := by decide +kernel
theorem dX5_isDouble_6 : decode cX5_isDouble 6 = .ok (.ifCond .eq 12, 3) := by decide +kernel
theorem dX5_isDouble_9 : decode cX5_isDouble 9 = .ok (.aload_n 0, 1) := by decide +kernel
theorem dX5_isDouble_10 : decode cX5_isDouble 10 = .ok (.getfield 25, 3) := by decide +kernel
theorem dX5_isDouble_13 : decode cX5_isDouble 13 = .ok (.iload_n 2, 1) := by decide +kernel
theorem dX5_isDouble_14 : decode cX5_isDouble 14 = .ok (.baload, 1) := by decide +kernel
theorem dX5_isDouble_15 : decode cX5_isDouble 15 = .ok (.ifCond .ne 19, 3) := by decide +kernel
theorem dX5_isDouble_18 : decode cX5_isDouble 18 = .ok (.aload_n 0, 1) := by decide +kernel
theorem dX5_isDouble_19 : decode cX5_isDouble 19 = .ok (.getfield 28, 3) := by decide +kernel
theorem dX5_isDouble_22 : decode cX5_isDouble 22 = .ok (.iload_n 1, 1) := by decide +kernel
theorem dX5_isDouble_23 : decode cX5_isDouble 23 = .ok (.iaload, 1) := by decide +kernel
theorem dX5_isDouble_24 : decode cX5_isDouble 24 = .ok (.aload_n 0, 1) := by decide +kernel
theorem dX5_isDouble_25 : decode cX5_isDouble 25 = .ok (.getfield 28, 3) := by decide +kernel
theorem dX5_isDouble_28 : decode cX5_isDouble 28 = .ok (.iload_n 2, 1) := by decide +kernel
theorem dX5_isDouble_29 : decode cX5_isDouble 29 = .ok (.iaload, 1) := by decide +kernel
theorem dX5_isDouble_30 : decode cX5_isDouble 30 = .ok (.iand, 1) := by decide +kernel
theorem dX5_isDouble_31 : decode cX5_isDouble 31 = .ok (.ifCond .eq 7, 3) := by decide +kernel
theorem dX5_isDouble_34 : decode cX5_isDouble 34 = .ok (.iconst 1, 1) := by decide +kernel
theorem dX5_isDouble_35 : decode cX5_isDouble 35 = .ok (.goto 4, 3) := by decide +kernel
theorem dX5_isDouble_38 : decode cX5_isDouble 38 = .ok (.iconst 0, 1) := by decide +kernel
theorem dX5_isDouble_39 : decode cX5_isDouble 39 = .ok (.ireturn, 1) := by decide +kernel
theorem dX6_init_0 : decode cX6_init 0 = .ok (.aload_n 0, 1) := by decide +kernel
theorem dX6_init_1 : decode cX6_init 1 = .ok (.invokespecial 3, 3) := by decide +kernel
theorem dX6_init_4 : decode cX6_init 4 = .ok (.aload_n 0, 1) := by decide +kernel
theorem dX6_init_5 : decode cX6_init 5 = .ok (.bipush 40, 2) := by decide +kernel
theorem dX6_init_7 : decode cX6_init 7 = .ok (.newarray .int, 2) := by decide +kernel
theorem dX6_init_9 : decode cX6_init 9 = .ok (.putfield 9, 3) := by decide +kernel
theorem dX6_init_12 : decode cX6_init 12 = .ok (.aload_n 0, 1) := by decide +kernel
theorem dX6_init_13 : decode cX6_init 13 = .ok (.iconst 0, 1) := by decide +kernel
theorem dX6_init_14 : decode cX6_init 14 = .ok (.putfield 15, 3) := by decide +kernel
theorem dX6_init_17 : decode cX6_init 17 = .ok (.return_, 1) := by decide +kernel
theorem dX6_add_0 : decode cX6_add 0 = .ok (.aload_n 0, 1) := by decide +kernel
theorem dX6_add_1 : decode cX6_add 1 = .ok (.getfield 9, 3) := by decide +kernel
theorem dX6_add_4 : decode cX6_add 4 = .ok (.aload_n 0, 1) := by decide +kernel
theorem dX6_add_5 : decode cX6_add 5 = .ok (.getfield 15, 3) := by decide +kernel
theorem dX6_add_8 : decode cX6_add 8 = .ok (.iload_n 1, 1) := by decide +kernel
theorem dX6_add_9 : decode cX6_add 9 = .ok (.iastore, 1) := by decide +kernel
theorem dX6_add_10 : decode cX6_add 10 = .ok (.aload_n 0, 1) := by decide +kernel
theorem dX6_add_11 : decode cX6_add 11 = .ok (.dup, 1) := by decide +kernel
theorem dX6_add_12 : decode cX6_add 12 = .ok (.getfield 15, 3) := by decide +kernel
theorem dX6_add_15 : decode cX6_add 15 = .ok (.iconst 1, 1) := by decide +kernel
theorem dX6_add_16 : decode cX6_add 16 = .ok (.iadd, 1) := by decide +kernel
theorem dX6_add_17 : decode cX6_add 17 = .ok (.putfield 15, 3) := by decide +kernel
theorem dX6_add_20 : decode cX6_add 20 = .ok (.return_, 1) := by decide +kernel
theorem dX6_keep_0 : decode cX6_keep 0 = .ok (.aload_n 0, 1) := by decide +kernel
theorem dX6_keep_1 : decode cX6_keep 1 = .ok (.iload_n 1, 1) := by decide +kernel
theorem dX6_keep_2 : decode cX6_keep 2 = .ok (.putfield 15, 3) := by decide +kernel
theorem dX6_keep_5 : decode cX6_keep 5 = .ok (.return_, 1) := by decide +kernel
theorem dX6_size_0 : decode cX6_size 0 = .ok (.aload_n 0, 1) := by decide +kernel
theorem dX6_size_1 : decode cX6_size 1 = .ok (.getfield 15, 3) := by decide +kernel
theorem dX6_size_4 : decode cX6_size 4 = .ok (.ireturn, 1) := by decide +kernel
theorem dX6_isFull_0 : decode cX6_isFull 0 = .ok (.aload_n 0, 1) := by decide +kernel
theorem dX6_isFull_1 : decode cX6_isFull 1 = .ok (.getfield 15, 3) := by decide +kernel
theorem dX6_isFull_4 : decode cX6_isFull 4 = .ok (.bipush 40, 2) := by decide +kernel
theorem dX6_isFull_6 : decode cX6_isFull 6 = .ok (.if_icmp .lt 7, 3) := by decide +kernel
theorem dX6_isFull_9 : decode cX6_isFull 9 = .ok (.iconst 1, 1) := by decide +kernel
theorem dX6_isFull_10 : decode cX6_isFull 10 = .ok (.goto 4, 3) := by decide +kernel
theorem dX6_isFull_13 : decode cX6_isFull 13 = .ok (.iconst 0, 1) := by decide +kernel
theorem dX6_isFull_14 : decode cX6_isFull 14 = .ok (.ireturn, 1) := by decide +kernel
theorem dX6_at_0 : decode cX6_at 0 = .ok (.aload_n 0, 1) := by decide +kernel
theorem dX6_at_1 : decode cX6_at 1 = .ok (.getfield 9, 3) := by decide +kernel
theorem dX6_at_4 : decode cX6_at 4 = .ok (.iload_n 1, 1) := by decide +kernel
theorem dX6_at_5 : decode cX6_at 5 = .ok (.iaload, 1) := by decide +kernel
theorem dX6_at_6 : decode cX6_at 6 = .ok (.ireturn, 1) := by decide +kernel
theorem dX7_init_0 : decode cX7_init 0 = .ok (.aload_n 0, 1) := by decide +kernel
theorem dX7_init_1 : decode cX7_init 1 = .ok (.invokespecial 3, 3) := by decide +kernel
theorem dX7_init_4 : decode cX7_init 4 = .ok (.aload_n 0, 1) := by decide +kernel
theorem dX7_init_5 : decode cX7_init 5 = .ok (.new 9, 3) := by decide +kernel
theorem dX7_init_8 : decode cX7_init 8 = .ok (.dup, 1) := by decide +kernel
theorem dX7_init_9 : decode cX7_init 9 = .ok (.invokespecial 11, 3) := by decide +kernel
theorem dX7_init_12 : decode cX7_init 12 = .ok (.putfield 12, 3) := by decide +kernel
theorem dX7_init_15 : decode cX7_init 15 = .ok (.aload_n 0, 1) := by decide +kernel
theorem dX7_init_16 : decode cX7_init 16 = .ok (.new 16, 3) := by decide +kernel
theorem dX7_init_19 : decode cX7_init 19 = .ok (.dup, 1) := by decide +kernel
theorem dX7_init_20 : decode cX7_init 20 = .ok (.aload_n 0, 1) := by decide +kernel
theorem dX7_init_21 : decode cX7_init 21 = .ok (.getfield 12, 3) := by decide +kernel
theorem dX7_init_24 : decode cX7_init 24 = .ok (.invokespecial 18, 3) := by decide +kernel
theorem dX7_init_27 : decode cX7_init 27 = .ok (.putfield 21, 3) := by decide +kernel
theorem dX7_init_30 : decode cX7_init 30 = .ok (.aload_n 0, 1) := by decide +kernel
theorem dX7_init_31 : decode cX7_init 31 = .ok (.new 25, 3) := by decide +kernel
theorem dX7_init_34 : decode cX7_init 34 = .ok (.dup, 1) := by decide +kernel
theorem dX7_init_35 : decode cX7_init 35 = .ok (.invokespecial 27, 3) := by decide +kernel
theorem dX7_init_38 : decode cX7_init 38 = .ok (.putfield 28, 3) := by decide +kernel
theorem dX7_init_41 : decode cX7_init 41 = .ok (.aload_n 0, 1) := by decide +kernel
theorem dX7_init_42 : decode cX7_init 42 = .ok (.new 32, 3) := by decide +kernel
theorem dX7_init_45 : decode cX7_init 45 = .ok (.dup, 1) := by decide +kernel
theorem dX7_init_46 : decode cX7_init 46 = .ok (.aload_n 0, 1) := by decide +kernel
theorem dX7_init_47 : decode cX7_init 47 = .ok (.getfield 12, 3) := by decide +kernel
theorem dX7_init_50 : decode cX7_init 50 = .ok (.aload_n 0, 1) := by decide +kernel
theorem dX7_init_51 : decode cX7_init 51 = .ok (.getfield 21, 3) := by decide +kernel
theorem dX7_init_54 : decode cX7_init 54 = .ok (.invokespecial 34, 3) := by decide +kernel
theorem dX7_init_57 : decode cX7_init 57 = .ok (.putfield 37, 3) := by decide +kernel
theorem dX7_init_60 : decode cX7_init 60 = .ok (.aload_n 0, 1) := by decide +kernel
theorem dX7_init_61 : decode cX7_init 61 = .ok (.new 41, 3) := by decide +kernel
theorem dX7_init_64 : decode cX7_init 64 = .ok (.dup, 1) := by decide +kernel
theorem dX7_init_65 : decode cX7_init 65 = .ok (.aload_n 0, 1) := by decide +kernel
theorem dX7_init_66 : decode cX7_init 66 = .ok (.getfield 12, 3) := by decide +kernel
theorem dX7_init_69 : decode cX7_init 69 = .ok (.aload_n 0, 1) := by decide +kernel
theorem dX7_init_70 : decode cX7_init 70 = .ok (.getfield 21, 3) := by decide +kernel
theorem dX7_init_73 : decode cX7_init 73 = .ok (.invokespecial 43, 3) := by decide +kernel
theorem dX7_init_76 : decode cX7_init 76 = .ok (.putfield 44, 3) := by decide +kernel
theorem dX7_init_79 : decode cX7_init 79 = .ok (.aload_n 0, 1) := by decide +kernel
theorem dX7_init_80 : decode cX7_init 80 = .ok (.new 48, 3) := by decide +kernel
theorem dX7_init_83 : decode cX7_init 83 = .ok (.dup, 1) := by decide +kernel
theorem dX7_init_84 : decode cX7_init 84 = .ok (.aload_n 0, 1) := by decide +kernel
theorem dX7_init_85 : decode cX7_init 85 = .ok (.getfield 12, 3) := by decide +kernel
theorem dX7_init_88 : decode cX7_init 88 = .ok (.aload_n 0, 1) := by decide +kernel
theorem dX7_init_89 : decode cX7_init 89 = .ok (.getfield 21, 3) := by decide +kernel
theorem dX7_init_92 : decode cX7_init 92 = .ok (.aload_n 0, 1) := by decide +kernel
theorem dX7_init_93 : decode cX7_init 93 = .ok (.getfield 44, 3) := by decide +kernel
theorem dX7_init_96 : decode cX7_init 96 = .ok (.invokespecial 50, 3) := by decide +kernel
theorem dX7_init_99 : decode cX7_init 99 = .ok (.putfield 53, 3) := by decide +kernel
theorem dX7_init_102 : decode cX7_init 102 = .ok (.aload_n 0, 1) := by decide +kernel
theorem dX7_init_103 : decode cX7_init 103 = .ok (.iconst (-1), 1) := by decide +kernel
theorem dX7_init_104 : decode cX7_init 104 = .ok (.putfield 57, 3) := by decide +kernel
theorem dX7_init_107 : decode cX7_init 107 = .ok (.return_, 1) := by decide +kernel
theorem dX7_leaf_0 : decode cX7_leaf 0 = .ok (.iload_n 1, 1) := by decide +kernel
theorem dX7_leaf_1 : decode cX7_leaf 1 = .ok (.bipush (-2), 2) := by decide +kernel
theorem dX7_leaf_3 : decode cX7_leaf 3 = .ok (.if_icmp .lt 9, 3) := by decide +kernel
theorem dX7_leaf_6 : decode cX7_leaf 6 = .ok (.iload_n 1, 1) := by decide +kernel
theorem dX7_leaf_7 : decode cX7_leaf 7 = .ok (.bipush 8, 2) := by decide +kernel
theorem dX7_leaf_9 : decode cX7_leaf 9 = .ok (.if_icmp .lt 11, 3) := by decide +kernel
theorem dX7_leaf_12 : decode cX7_leaf 12 = .ok (.new 61, 3) := by decide +kernel
theorem dX7_leaf_15 : decode cX7_leaf 15 = .ok (.dup, 1) := by decide +kernel
theorem dX7_leaf_16 : decode cX7_leaf 16 = .ok (.invokespecial 63, 3) := by decide +kernel
theorem dX7_leaf_19 : decode cX7_leaf 19 = .ok (.athrow, 1) := by decide +kernel
theorem dX7_leaf_20 : decode cX7_leaf 20 = .ok (.aload_n 0, 1) := by decide +kernel
theorem dX7_leaf_21 : decode cX7_leaf 21 = .ok (.invokevirtual 64, 3) := by decide +kernel
theorem dX7_leaf_24 : decode cX7_leaf 24 = .ok (.iload_n 1, 1) := by decide +kernel
theorem dX7_leaf_25 : decode cX7_leaf 25 = .ok (.iconst (-1), 1) := by decide +kernel
theorem dX7_leaf_26 : decode cX7_leaf 26 = .ok (.if_icmp .ne 15, 3) := by decide +kernel
theorem dX7_leaf_29 : decode cX7_leaf 29 = .ok (.aload_n 0, 1) := by decide +kernel
theorem dX7_leaf_30 : decode cX7_leaf 30 = .ok (.getfield 12, 3) := by decide +kernel
theorem dX7_leaf_33 : decode cX7_leaf 33 = .ok (.iconst 0, 1) := by decide +kernel
theorem dX7_leaf_34 : decode cX7_leaf 34 = .ok (.iconst 0, 1) := by decide +kernel
theorem dX7_leaf_35 : decode cX7_leaf 35 = .ok (.iconst (-1), 1) := by decide +kernel
theorem dX7_leaf_36 : decode cX7_leaf 36 = .ok (.iconst (-1), 1) := by decide +kernel
theorem dX7_leaf_37 : decode cX7_leaf 37 = .ok (.invokevirtual 67, 3) := by decide +kernel
theorem dX7_leaf_40 : decode cX7_leaf 40 = .ok (.ireturn, 1) := by decide +kernel
theorem dX7_leaf_41 : decode cX7_leaf 41 = .ok (.iload_n 1, 1) := by decide +kernel
theorem dX7_leaf_42 : decode cX7_leaf 42 = .ok (.bipush (-2), 2) := by decide +kernel
theorem dX7_leaf_44 : decode cX7_leaf 44 = .ok (.if_icmp .ne 15, 3) := by decide +kernel
theorem dX7_leaf_47 : decode cX7_leaf 47 = .ok (.aload_n 0, 1) := by decide +kernel
theorem dX7_leaf_48 : decode cX7_leaf 48 = .ok (.getfield 12, 3) := by decide +kernel
theorem dX7_leaf_51 : decode cX7_leaf 51 = .ok (.iconst 1, 1) := by decide +kernel
theorem dX7_leaf_52 : decode cX7_leaf 52 = .ok (.iconst 0, 1) := by decide +kernel
theorem dX7_leaf_53 : decode cX7_leaf 53 = .ok (.iconst (-1), 1) := by decide +kernel
theorem dX7_leaf_54 : decode cX7_leaf 54 = .ok (.iconst (-1), 1) := by decide +kernel
theorem dX7_leaf_55 : decode cX7_leaf 55 = .ok (.invokevirtual 67, 3) := by decide +kernel
theorem dX7_leaf_58 : decode cX7_leaf 58 = .ok (.ireturn, 1) := by decide +kernel
theorem dX7_leaf_59 : decode cX7_leaf 59 = .ok (.aload_n 0, 1) := by decide +kernel
theorem dX7_leaf_60 : decode cX7_leaf 60 = .ok (.getfield 12, 3) := by decide +kernel
theorem dX7_leaf_63 : decode cX7_leaf 63 = .ok (.iconst 2, 1) := by decide +kernel
theorem dX7_leaf_64 : decode cX7_leaf 64 = .ok (.iload_n 1, 1) := by decide +kernel
theorem dX7_leaf_65 : decode cX7_leaf 65 = .ok (.iconst (-1), 1) := by decide +kernel
theorem dX7_leaf_66 : decode cX7_leaf 66 = .ok (.iconst (-1), 1) := by decide +kernel
theorem dX7_leaf_67 : decode cX7_leaf 67 = .ok (.invokevirtual 67, 3) := by decide +kernel
theorem dX7_leaf_70 : decode cX7_leaf 70 = .ok (.ireturn, 1) := by decide +kernel
theorem dX7_variable_0 : decode cX7_variable 0 = .ok (.aload_n 0, 1) := by decide +kernel
theorem dX7_variable_1 : decode cX7_variable 1 = .ok (.iload_n 1, 1) := by decide +kernel
theorem dX7_variable_2 : decode cX7_variable 2 = .ok (.invokevirtual 71, 3) := by decide +kernel
theorem dX7_variable_5 : decode cX7_variable 5 = .ok (.aload_n 0, 1) := by decide +kernel
theorem dX7_variable_6 : decode cX7_variable 6 = .ok (.invokevirtual 64, 3) := by decide +kernel
theorem dX7_variable_9 : decode cX7_variable 9 = .ok (.aload_n 0, 1) := by decide +kernel
theorem dX7_variable_10 : decode cX7_variable 10 = .ok (.getfield 12, 3) := by decide +kernel
theorem dX7_variable_13 : decode cX7_variable 13 = .ok (.iconst 5, 1) := by decide +kernel
theorem dX7_variable_14 : decode cX7_variable 14 = .ok (.iload_n 1, 1) := by decide +kernel
theorem dX7_variable_15 : decode cX7_variable 15 = .ok (.iconst (-1), 1) := by decide +kernel
theorem dX7_variable_16 : decode cX7_variable 16 = .ok (.iconst (-1), 1) := by decide +kernel
theorem dX7_variable_17 : decode cX7_variable 17 = .ok (.invokevirtual 67, 3) := by decide +kernel
theorem dX7_variable_20 : decode cX7_variable 20 = .ok (.ireturn, 1) := by decide +kernel
theorem dX7_join_0 : decode cX7_join 0 = .ok (.aload_n 0, 1) := by decide +kernel
theorem dX7_join_1 : decode cX7_join 1 = .ok (.iload_n 1, 1) := by decide +kernel
theorem dX7_join_2 : decode cX7_join 2 = .ok (.invokevirtual 75, 3) := by decide +kernel
theorem dX7_join_5 : decode cX7_join 5 = .ok (.aload_n 0, 1) := by decide +kernel
theorem dX7_join_6 : decode cX7_join 6 = .ok (.iload_n 2, 1) := by decide +kernel
theorem dX7_join_7 : decode cX7_join 7 = .ok (.invokevirtual 75, 3) := by decide +kernel
theorem dX7_join_10 : decode cX7_join 10 = .ok (.iload_n 1, 1) := by decide +kernel
theorem dX7_join_11 : decode cX7_join 11 = .ok (.iload_n 2, 1) := by decide +kernel
theorem dX7_join_12 : decode cX7_join 12 = .ok (.if_icmp .eq 25, 3) := by decide +kernel
theorem dX7_join_15 : decode cX7_join 15 = .ok (.aload_n 0, 1) := by decide +kernel
theorem dX7_join_16 : decode cX7_join 16 = .ok (.getfield 12, 3) := by decide +kernel
theorem dX7_join_19 : decode cX7_join 19 = .ok (.iload_n 1, 1) := by decide +kernel
theorem dX7_join_20 : decode cX7_join 20 = .ok (.invokevirtual 78, 3) := by decide +kernel
theorem dX7_join_23 : decode cX7_join 23 = .ok (.ifCond .ne 14, 3) := by decide +kernel
theorem dX7_join_26 : decode cX7_join 26 = .ok (.aload_n 0, 1) := by decide +kernel
theorem dX7_join_27 : decode cX7_join 27 = .ok (.getfield 12, 3) := by decide +kernel
theorem dX7_join_30 : decode cX7_join 30 = .ok (.iload_n 2, 1) := by decide +kernel
theorem dX7_join_31 : decode cX7_join 31 = .ok (.invokevirtual 78, 3) := by decide +kernel
theorem dX7_join_34 : decode cX7_join 34 = .ok (.ifCond .eq 11, 3) := by decide +kernel
theorem dX7_join_37 : decode cX7_join 37 = .ok (.new 82, 3) := by decide +kernel
theorem dX7_join_40 : decode cX7_join 40 = .ok (.dup, 1) := by decide +kernel
theorem dX7_join_41 : decode cX7_join 41 = .ok (.invokespecial 84, 3) := by decide +kernel
theorem dX7_join_44 : decode cX7_join 44 = .ok (.athrow, 1) := by decide +kernel
theorem dX7_join_45 : decode cX7_join 45 = .ok (.aload_n 0, 1) := by decide +kernel
theorem dX7_join_46 : decode cX7_join 46 = .ok (.invokevirtual 64, 3) := by decide +kernel
theorem dX7_join_49 : decode cX7_join 49 = .ok (.aload_n 0, 1) := by decide +kernel
theorem dX7_join_50 : decode cX7_join 50 = .ok (.getfield 12, 3) := by decide +kernel
theorem dX7_join_53 : decode cX7_join 53 = .ok (.iload_n 3, 1) := by decide +kernel
theorem dX7_join_54 : decode cX7_join 54 = .ok (.ifCond .eq 7, 3) := by decide +kernel
theorem dX7_join_57 : decode cX7_join 57 = .ok (.iconst 4, 1) := by decide +kernel
theorem dX7_join_58 : decode cX7_join 58 = .ok (.goto 4, 3) := by decide +kernel
theorem dX7_join_61 : decode cX7_join 61 = .ok (.iconst 3, 1) := by decide +kernel
theorem dX7_join_62 : decode cX7_join 62 = .ok (.iconst 0, 1) := by decide +kernel
theorem dX7_join_63 : decode cX7_join 63 = .ok (.iload_n 1, 1) := by decide +kernel
theorem dX7_join_64 : decode cX7_join 64 = .ok (.iload_n 2, 1) := by decide +kernel
theorem dX7_join_65 : decode cX7_join 65 = .ok (.invokevirtual 67, 3) := by decide +kernel
theorem dX7_join_68 : decode cX7_join 68 = .ok (.ireturn, 1) := by decide +kernel
theorem dX7_knot_0 : decode cX7_knot 0 = .ok (.aload_n 0, 1) := by decide +kernel
theorem dX7_knot_1 : decode cX7_knot 1 = .ok (.iload_n 2, 1) := by decide +kernel
theorem dX7_knot_2 : decode cX7_knot 2 = .ok (.invokevirtual 75, 3) := by decide +kernel
theorem dX7_knot_5 : decode cX7_knot 5 = .ok (.aload_n 0, 1) := by decide +kernel
theorem dX7_knot_6 : decode cX7_knot 6 = .ok (.getfield 12, 3) := by decide +kernel
theorem dX7_knot_9 : decode cX7_knot 9 = .ok (.iload_n 2, 1) := by decide +kernel
theorem dX7_knot_10 : decode cX7_knot 10 = .ok (.invokevirtual 78, 3) := by decide +kernel
theorem dX7_knot_13 : decode cX7_knot 13 = .ok (.ifCond .eq 11, 3) := by decide +kernel
theorem dX7_knot_16 : decode cX7_knot 16 = .ok (.new 82, 3) := by decide +kernel
theorem dX7_knot_19 : decode cX7_knot 19 = .ok (.dup, 1) := by decide +kernel
theorem dX7_knot_20 : decode cX7_knot 20 = .ok (.invokespecial 84, 3) := by decide +kernel
theorem dX7_knot_23 : decode cX7_knot 23 = .ok (.athrow, 1) := by decide +kernel
theorem dX7_knot_24 : decode cX7_knot 24 = .ok (.aload_n 0, 1) := by decide +kernel
theorem dX7_knot_25 : decode cX7_knot 25 = .ok (.iload_n 1, 1) := by decide +kernel
theorem dX7_knot_26 : decode cX7_knot 26 = .ok (.invokevirtual 71, 3) := by decide +kernel
theorem dX7_knot_29 : decode cX7_knot 29 = .ok (.aload_n 0, 1) := by decide +kernel
theorem dX7_knot_30 : decode cX7_knot 30 = .ok (.invokevirtual 64, 3) := by decide +kernel
theorem dX7_knot_33 : decode cX7_knot 33 = .ok (.aload_n 0, 1) := by decide +kernel
theorem dX7_knot_34 : decode cX7_knot 34 = .ok (.getfield 12, 3) := by decide +kernel
theorem dX7_knot_37 : decode cX7_knot 37 = .ok (.iload_n 2, 1) := by decide +kernel
theorem dX7_knot_38 : decode cX7_knot 38 = .ok (.invokevirtual 85, 3) := by decide +kernel
theorem dX7_knot_41 : decode cX7_knot 41 = .ok (.iconst 3, 1) := by decide +kernel
theorem dX7_knot_42 : decode cX7_knot 42 = .ok (.if_icmp .lt 11, 3) := by decide +kernel
theorem dX7_knot_45 : decode cX7_knot 45 = .ok (.new 89, 3) := by decide +kernel
theorem dX7_knot_48 : decode cX7_knot 48 = .ok (.dup, 1) := by decide +kernel
theorem dX7_knot_49 : decode cX7_knot 49 = .ok (.invokespecial 91, 3) := by decide +kernel
theorem dX7_knot_52 : decode cX7_knot 52 = .ok (.athrow, 1) := by decide +kernel
theorem dX7_knot_53 : decode cX7_knot 53 = .ok (.aload_n 0, 1) := by decide +kernel
theorem dX7_knot_54 : decode cX7_knot 54 = .ok (.getfield 12, 3) := by decide +kernel
theorem dX7_knot_57 : decode cX7_knot 57 = .ok (.bipush 6, 2) := by decide +kernel
theorem dX7_knot_59 : decode cX7_knot 59 = .ok (.iload_n 1, 1) := by decide +kernel
theorem dX7_knot_60 : decode cX7_knot 60 = .ok (.iload_n 2, 1) := by decide +kernel
theorem dX7_knot_61 : decode cX7_knot 61 = .ok (.iconst (-1), 1) := by decide +kernel
theorem dX7_knot_62 : decode cX7_knot 62 = .ok (.invokevirtual 67, 3) := by decide +kernel
theorem dX7_knot_65 : decode cX7_knot 65 = .ok (.ireturn, 1) := by decide +kernel
theorem dX7_clear_0 : decode cX7_clear 0 = .ok (.aload_n 0, 1) := by decide +kernel
theorem dX7_clear_1 : decode cX7_clear 1 = .ok (.getfield 12, 3) := by decide +kernel
theorem dX7_clear_4 : decode cX7_clear 4 = .ok (.invokevirtual 92, 3) := by decide +kernel
theorem dX7_clear_7 : decode cX7_clear 7 = .ok (.return_, 1) := by decide +kernel
theorem dX7_terms_0 : decode cX7_terms 0 = .ok (.aload_n 0, 1) := by decide +kernel
theorem dX7_terms_1 : decode cX7_terms 1 = .ok (.getfield 12, 3) := by decide +kernel
theorem dX7_terms_4 : decode cX7_terms 4 = .ok (.invokevirtual 95, 3) := by decide +kernel
theorem dX7_terms_7 : decode cX7_terms 7 = .ok (.ireturn, 1) := by decide +kernel
theorem dX7_fault_0 : decode cX7_fault 0 = .ok (.aload_n 0, 1) := by decide +kernel
theorem dX7_fault_1 : decode cX7_fault 1 = .ok (.iload_n 1, 1) := by decide +kernel
theorem dX7_fault_2 : decode cX7_fault 2 = .ok (.invokevirtual 75, 3) := by decide +kernel
theorem dX7_fault_5 : decode cX7_fault 5 = .ok (.aload_n 0, 1) := by decide +kernel
theorem dX7_fault_6 : decode cX7_fault 6 = .ok (.getfield 21, 3) := by decide +kernel
theorem dX7_fault_9 : decode cX7_fault 9 = .ok (.iload_n 1, 1) := by decide +kernel
theorem dX7_fault_10 : decode cX7_fault 10 = .ok (.invokevirtual 99, 3) := by decide +kernel
theorem dX7_fault_13 : decode cX7_fault 13 = .ok (.aload_n 0, 1) := by decide +kernel
theorem dX7_fault_14 : decode cX7_fault 14 = .ok (.getfield 21, 3) := by decide +kernel
theorem dX7_fault_17 : decode cX7_fault 17 = .ok (.invokevirtual 102, 3) := by decide +kernel
theorem dX7_fault_20 : decode cX7_fault 20 = .ok (.ireturn, 1) := by decide +kernel
theorem dX7_type_0 : decode cX7_type 0 = .ok (.aload_n 0, 1) := by decide +kernel
theorem dX7_type_1 : decode cX7_type 1 = .ok (.iload_n 1, 1) := by decide +kernel
theorem dX7_type_2 : decode cX7_type 2 = .ok (.invokevirtual 75, 3) := by decide +kernel
theorem dX7_type_5 : decode cX7_type 5 = .ok (.iload_n 2, 1) := by decide +kernel
theorem dX7_type_6 : decode cX7_type 6 = .ok (.ifCond .lt 8, 3) := by decide +kernel
theorem dX7_type_9 : decode cX7_type 9 = .ok (.iload_n 2, 1) := by decide +kernel
theorem dX7_type_10 : decode cX7_type 10 = .ok (.iconst 2, 1) := by decide +kernel
theorem dX7_type_11 : decode cX7_type 11 = .ok (.if_icmp .le 11, 3) := by decide +kernel
theorem dX7_type_14 : decode cX7_type 14 = .ok (.new 105, 3) := by decide +kernel
theorem dX7_type_17 : decode cX7_type 17 = .ok (.dup, 1) := by decide +kernel
theorem dX7_type_18 : decode cX7_type 18 = .ok (.invokespecial 107, 3) := by decide +kernel
theorem dX7_type_21 : decode cX7_type 21 = .ok (.athrow, 1) := by decide +kernel
theorem dX7_type_22 : decode cX7_type 22 = .ok (.aload_n 0, 1) := by decide +kernel
theorem dX7_type_23 : decode cX7_type 23 = .ok (.iload_n 1, 1) := by decide +kernel
theorem dX7_type_24 : decode cX7_type 24 = .ok (.invokevirtual 108, 3) := by decide +kernel
theorem dX7_type_27 : decode cX7_type 27 = .ok (.iload_n 2, 1) := by decide +kernel
theorem dX7_type_28 : decode cX7_type 28 = .ok (.ifCond .ne 20, 3) := by decide +kernel
theorem dX7_type_31 : decode cX7_type 31 = .ok (.aload_n 0, 1) := by decide +kernel
theorem dX7_type_32 : decode cX7_type 32 = .ok (.getfield 21, 3) := by decide +kernel
theorem dX7_type_35 : decode cX7_type 35 = .ok (.iload_n 1, 1) := by decide +kernel
theorem dX7_type_36 : decode cX7_type 36 = .ok (.invokevirtual 111, 3) := by decide +kernel
theorem dX7_type_39 : decode cX7_type 39 = .ok (.ifCond .eq 7, 3) := by decide +kernel
theorem dX7_type_42 : decode cX7_type 42 = .ok (.iconst 1, 1) := by decide +kernel
theorem dX7_type_43 : decode cX7_type 43 = .ok (.goto 4, 3) := by decide +kernel
theorem dX7_type_46 : decode cX7_type 46 = .ok (.iconst 0, 1) := by decide +kernel
theorem dX7_type_47 : decode cX7_type 47 = .ok (.ireturn, 1) := by decide +kernel
theorem dX7_type_48 : decode cX7_type 48 = .ok (.iload_n 2, 1) := by decide +kernel
theorem dX7_type_49 : decode cX7_type 49 = .ok (.iconst 1, 1) := by decide +kernel
theorem dX7_type_50 : decode cX7_type 50 = .ok (.if_icmp .ne 14, 3) := by decide +kernel
theorem dX7_type_53 : decode cX7_type 53 = .ok (.aload_n 0, 1) := by decide +kernel
theorem dX7_type_54 : decode cX7_type 54 = .ok (.getfield 21, 3) := by decide +kernel
theorem dX7_type_57 : decode cX7_type 57 = .ok (.iload_n 1, 1) := by decide +kernel
theorem dX7_type_58 : decode cX7_type 58 = .ok (.invokevirtual 114, 3) := by decide +kernel
theorem dX7_type_61 : decode cX7_type 61 = .ok (.goto 11, 3) := by decide +kernel
theorem dX7_type_64 : decode cX7_type 64 = .ok (.aload_n 0, 1) := by decide +kernel
theorem dX7_type_65 : decode cX7_type 65 = .ok (.getfield 21, 3) := by decide +kernel
theorem dX7_type_68 : decode cX7_type 68 = .ok (.iload_n 1, 1) := by decide +kernel
theorem dX7_type_69 : decode cX7_type 69 = .ok (.invokevirtual 117, 3) := by decide +kernel
theorem dX7_type_72 : decode cX7_type 72 = .ok (.ireturn, 1) := by decide +kernel
theorem dX7_put_0 : decode cX7_put 0 = .ok (.iload_n 1, 1) := by decide +kernel
theorem dX7_put_1 : decode cX7_put 1 = .ok (.ifCond .lt 19, 3) := by decide +kernel
theorem dX7_put_4 : decode cX7_put 4 = .ok (.iload_n 1, 1) := by decide +kernel
theorem dX7_put_5 : decode cX7_put 5 = .ok (.bipush 8, 2) := by decide +kernel
theorem dX7_put_7 : decode cX7_put 7 = .ok (.if_icmp .ge 13, 3) := by decide +kernel
theorem dX7_put_10 : decode cX7_put 10 = .ok (.aload_n 0, 1) := by decide +kernel
theorem dX7_put_11 : decode cX7_put 11 = .ok (.getfield 28, 3) := by decide +kernel
theorem dX7_put_14 : decode cX7_put 14 = .ok (.invokevirtual 120, 3) := by decide +kernel
theorem dX7_put_17 : decode cX7_put 17 = .ok (.ifCond .eq 5, 3) := by decide +kernel
theorem dX7_put_20 : decode cX7_put 20 = .ok (.iconst 0, 1) := by decide +kernel
theorem dX7_put_21 : decode cX7_put 21 = .ok (.ireturn, 1) := by decide +kernel
theorem dX7_put_22 : decode cX7_put 22 = .ok (.aload_n 0, 1) := by decide +kernel
theorem dX7_put_23 : decode cX7_put 23 = .ok (.getfield 28, 3) := by decide +kernel
theorem dX7_put_26 : decode cX7_put 26 = .ok (.iload_n 1, 1) := by decide +kernel
theorem dX7_put_27 : decode cX7_put 27 = .ok (.invokevirtual 124, 3) := by decide +kernel
theorem dX7_put_30 : decode cX7_put 30 = .ok (.iconst 1, 1) := by decide +kernel
theorem dX7_put_31 : decode cX7_put 31 = .ok (.ireturn, 1) := by decide +kernel
theorem dX7_cut_0 : decode cX7_cut 0 = .ok (.iload_n 1, 1) := by decide +kernel
theorem dX7_cut_1 : decode cX7_cut 1 = .ok (.ifCond .lt 14, 3) := by decide +kernel
theorem dX7_cut_4 : decode cX7_cut 4 = .ok (.iload_n 1, 1) := by decide +kernel
theorem dX7_cut_5 : decode cX7_cut 5 = .ok (.aload_n 0, 1) := by decide +kernel
theorem dX7_cut_6 : decode cX7_cut 6 = .ok (.getfield 28, 3) := by decide +kernel
theorem dX7_cut_9 : decode cX7_cut 9 = .ok (.invokevirtual 126, 3) := by decide +kernel
theorem dX7_cut_12 : decode cX7_cut 12 = .ok (.if_icmp .le 5, 3) := by decide +kernel
theorem dX7_cut_15 : decode cX7_cut 15 = .ok (.iconst 0, 1) := by decide +kernel
theorem dX7_cut_16 : decode cX7_cut 16 = .ok (.ireturn, 1) := by decide +kernel
theorem dX7_cut_17 : decode cX7_cut 17 = .ok (.aload_n 0, 1) := by decide +kernel
theorem dX7_cut_18 : decode cX7_cut 18 = .ok (.getfield 28, 3) := by decide +kernel
theorem dX7_cut_21 : decode cX7_cut 21 = .ok (.iload_n 1, 1) := by decide +kernel
theorem dX7_cut_22 : decode cX7_cut 22 = .ok (.invokevirtual 127, 3) := by decide +kernel
theorem dX7_cut_25 : decode cX7_cut 25 = .ok (.iconst 1, 1) := by decide +kernel
theorem dX7_cut_26 : decode cX7_cut 26 = .ok (.ireturn, 1) := by decide +kernel
theorem dX7_length_0 : decode cX7_length 0 = .ok (.aload_n 0, 1) := by decide +kernel
theorem dX7_length_1 : decode cX7_length 1 = .ok (.getfield 28, 3) := by decide +kernel
theorem dX7_length_4 : decode cX7_length 4 = .ok (.invokevirtual 126, 3) := by decide +kernel
theorem dX7_length_7 : decode cX7_length 7 = .ok (.ireturn, 1) := by decide +kernel
theorem dX7_letter_0 : decode cX7_letter 0 = .ok (.iload_n 1, 1) := by decide +kernel
theorem dX7_letter_1 : decode cX7_letter 1 = .ok (.ifCond .lt 14, 3) := by decide +kernel
theorem dX7_letter_4 : decode cX7_letter 4 = .ok (.iload_n 1, 1) := by decide +kernel
theorem dX7_letter_5 : decode cX7_letter 5 = .ok (.aload_n 0, 1) := by decide +kernel
theorem dX7_letter_6 : decode cX7_letter 6 = .ok (.getfield 28, 3) := by decide +kernel
theorem dX7_letter_9 : decode cX7_letter 9 = .ok (.invokevirtual 126, 3) := by decide +kernel
theorem dX7_letter_12 : decode cX7_letter 12 = .ok (.if_icmp .lt 11, 3) := by decide +kernel
theorem dX7_letter_15 : decode cX7_letter 15 = .ok (.new 105, 3) := by decide +kernel
theorem dX7_letter_18 : decode cX7_letter 18 = .ok (.dup, 1) := by decide +kernel
theorem dX7_letter_19 : decode cX7_letter 19 = .ok (.invokespecial 107, 3) := by decide +kernel
theorem dX7_letter_22 : decode cX7_letter 22 = .ok (.athrow, 1) := by decide +kernel
theorem dX7_letter_23 : decode cX7_letter 23 = .ok (.aload_n 0, 1) := by decide +kernel
theorem dX7_letter_24 : decode cX7_letter 24 = .ok (.getfield 28, 3) := by decide +kernel
theorem dX7_letter_27 : decode cX7_letter 27 = .ok (.iload_n 1, 1) := by decide +kernel
theorem dX7_letter_28 : decode cX7_letter 28 = .ok (.invokevirtual 130, 3) := by decide +kernel
theorem dX7_letter_31 : decode cX7_letter 31 = .ok (.ireturn, 1) := by decide +kernel
theorem dX7_read_0 : decode cX7_read 0 = .ok (.aload_n 0, 1) := by decide +kernel
theorem dX7_read_1 : decode cX7_read 1 = .ok (.iload_n 1, 1) := by decide +kernel
theorem dX7_read_2 : decode cX7_read 2 = .ok (.invokevirtual 75, 3) := by decide +kernel
theorem dX7_read_5 : decode cX7_read 5 = .ok (.aload_n 0, 1) := by decide +kernel
theorem dX7_read_6 : decode cX7_read 6 = .ok (.iload_n 1, 1) := by decide +kernel
theorem dX7_read_7 : decode cX7_read 7 = .ok (.invokevirtual 108, 3) := by decide +kernel
theorem dX7_read_10 : decode cX7_read 10 = .ok (.aload_n 0, 1) := by decide +kernel
theorem dX7_read_11 : decode cX7_read 11 = .ok (.getfield 37, 3) := by decide +kernel
theorem dX7_read_14 : decode cX7_read 14 = .ok (.iload_n 1, 1) := by decide +kernel
theorem dX7_read_15 : decode cX7_read 15 = .ok (.aload_n 0, 1) := by decide +kernel
theorem dX7_read_16 : decode cX7_read 16 = .ok (.getfield 28, 3) := by decide +kernel
theorem dX7_read_19 : decode cX7_read 19 = .ok (.invokevirtual 133, 3) := by decide +kernel
theorem dX7_read_22 : decode cX7_read 22 = .ok (.ifCond .ne 22, 3) := by decide +kernel
theorem dX7_read_25 : decode cX7_read 25 = .ok (.aload_n 0, 1) := by decide +kernel
theorem dX7_read_26 : decode cX7_read 26 = .ok (.aload_n 0, 1) := by decide +kernel
theorem dX7_read_27 : decode cX7_read 27 = .ok (.getfield 37, 3) := by decide +kernel
theorem dX7_read_30 : decode cX7_read 30 = .ok (.invokevirtual 137, 3) := by decide +kernel
theorem dX7_read_33 : decode cX7_read 33 = .ok (.putfield 57, 3) := by decide +kernel
theorem dX7_read_36 : decode cX7_read 36 = .ok (.new 61, 3) := by decide +kernel
theorem dX7_read_39 : decode cX7_read 39 = .ok (.dup, 1) := by decide +kernel
theorem dX7_read_40 : decode cX7_read 40 = .ok (.invokespecial 63, 3) := by decide +kernel
theorem dX7_read_43 : decode cX7_read 43 = .ok (.athrow, 1) := by decide +kernel
theorem dX7_read_44 : decode cX7_read 44 = .ok (.aload_n 0, 1) := by decide +kernel
theorem dX7_read_45 : decode cX7_read 45 = .ok (.iconst (-1), 1) := by decide +kernel
theorem dX7_read_46 : decode cX7_read 46 = .ok (.putfield 57, 3) := by decide +kernel
theorem dX7_read_49 : decode cX7_read 49 = .ok (.aload_n 0, 1) := by decide +kernel
theorem dX7_read_50 : decode cX7_read 50 = .ok (.getfield 37, 3) := by decide +kernel
theorem dX7_read_53 : decode cX7_read 53 = .ok (.invokevirtual 140, 3) := by decide +kernel
theorem dX7_read_56 : decode cX7_read 56 = .ok (.aload_n 0, 1) := by decide +kernel
theorem dX7_read_57 : decode cX7_read 57 = .ok (.getfield 37, 3) := by decide +kernel
theorem dX7_read_60 : decode cX7_read 60 = .ok (.invokevirtual 143, 3) := by decide +kernel
theorem dX7_read_63 : decode cX7_read 63 = .ok (.ireturn, 1) := by decide +kernel
theorem dX7_stopped_0 : decode cX7_stopped 0 = .ok (.aload_n 0, 1) := by decide +kernel
theorem dX7_stopped_1 : decode cX7_stopped 1 = .ok (.getfield 57, 3) := by decide +kernel
theorem dX7_stopped_4 : decode cX7_stopped 4 = .ok (.ireturn, 1) := by decide +kernel
theorem dX7_trace_0 : decode cX7_trace 0 = .ok (.aload_n 0, 1) := by decide +kernel
theorem dX7_trace_1 : decode cX7_trace 1 = .ok (.getfield 37, 3) := by decide +kernel
theorem dX7_trace_4 : decode cX7_trace 4 = .ok (.invokevirtual 146, 3) := by decide +kernel
theorem dX7_trace_7 : decode cX7_trace 7 = .ok (.invokevirtual 150, 3) := by decide +kernel
theorem dX7_trace_10 : decode cX7_trace 10 = .ok (.ireturn, 1) := by decide +kernel
theorem dX7_step_0 : decode cX7_step 0 = .ok (.iload_n 1, 1) := by decide +kernel
theorem dX7_step_1 : decode cX7_step 1 = .ok (.ifCond .lt 17, 3) := by decide +kernel
theorem dX7_step_4 : decode cX7_step 4 = .ok (.iload_n 1, 1) := by decide +kernel
theorem dX7_step_5 : decode cX7_step 5 = .ok (.aload_n 0, 1) := by decide +kernel
theorem dX7_step_6 : decode cX7_step 6 = .ok (.getfield 37, 3) := by decide +kernel
theorem dX7_step_9 : decode cX7_step 9 = .ok (.invokevirtual 146, 3) := by decide +kernel
theorem dX7_step_12 : decode cX7_step 12 = .ok (.invokevirtual 150, 3) := by decide +kernel
theorem dX7_step_15 : decode cX7_step 15 = .ok (.if_icmp .lt 11, 3) := by decide +kernel
theorem dX7_step_18 : decode cX7_step 18 = .ok (.new 105, 3) := by decide +kernel
theorem dX7_step_21 : decode cX7_step 21 = .ok (.dup, 1) := by decide +kernel
theorem dX7_step_22 : decode cX7_step 22 = .ok (.invokespecial 107, 3) := by decide +kernel
theorem dX7_step_25 : decode cX7_step 25 = .ok (.athrow, 1) := by decide +kernel
theorem dX7_step_26 : decode cX7_step 26 = .ok (.aload_n 0, 1) := by decide +kernel
theorem dX7_step_27 : decode cX7_step 27 = .ok (.getfield 37, 3) := by decide +kernel
theorem dX7_step_30 : decode cX7_step 30 = .ok (.invokevirtual 146, 3) := by decide +kernel
theorem dX7_step_33 : decode cX7_step 33 = .ok (.iload_n 1, 1) := by decide +kernel
theorem dX7_step_34 : decode cX7_step 34 = .ok (.invokevirtual 153, 3) := by decide +kernel
theorem dX7_step_37 : decode cX7_step 37 = .ok (.ireturn, 1) := by decide +kernel
theorem dX7_count_0 : decode cX7_count 0 = .ok (.aload_n 0, 1) := by decide +kernel
theorem dX7_count_1 : decode cX7_count 1 = .ok (.iload_n 1, 1) := by decide +kernel
theorem dX7_count_2 : decode cX7_count 2 = .ok (.iload_n 2, 1) := by decide +kernel
theorem dX7_count_3 : decode cX7_count 3 = .ok (.invokevirtual 154, 3) := by decide +kernel
theorem dX7_count_6 : decode cX7_count 6 = .ok (.aload_n 0, 1) := by decide +kernel
theorem dX7_count_7 : decode cX7_count 7 = .ok (.getfield 44, 3) := by decide +kernel
theorem dX7_count_10 : decode cX7_count 10 = .ok (.iload_n 1, 1) := by decide +kernel
theorem dX7_count_11 : decode cX7_count 11 = .ok (.iload_n 2, 1) := by decide +kernel
theorem dX7_count_12 : decode cX7_count 12 = .ok (.invokevirtual 158, 3) := by decide +kernel
theorem dX7_count_15 : decode cX7_count 15 = .ok (.lreturn, 1) := by decide +kernel
theorem dX7_find_0 : decode cX7_find 0 = .ok (.aload_n 0, 1) := by decide +kernel
theorem dX7_find_1 : decode cX7_find 1 = .ok (.iload_n 1, 1) := by decide +kernel
theorem dX7_find_2 : decode cX7_find 2 = .ok (.iload_n 2, 1) := by decide +kernel
theorem dX7_find_3 : decode cX7_find 3 = .ok (.invokevirtual 154, 3) := by decide +kernel
theorem dX7_find_6 : decode cX7_find 6 = .ok (.lload_n 3, 1) := by decide +kernel
theorem dX7_find_7 : decode cX7_find 7 = .ok (.lconst 0, 1) := by decide +kernel
theorem dX7_find_8 : decode cX7_find 8 = .ok (.lcmp, 1) := by decide +kernel
theorem dX7_find_9 : decode cX7_find 9 = .ok (.ifCond .lt 17, 3) := by decide +kernel
theorem dX7_find_12 : decode cX7_find 12 = .ok (.lload_n 3, 1) := by decide +kernel
theorem dX7_find_13 : decode cX7_find 13 = .ok (.aload_n 0, 1) := by decide +kernel
theorem dX7_find_14 : decode cX7_find 14 = .ok (.getfield 44, 3) := by decide +kernel
theorem dX7_find_17 : decode cX7_find 17 = .ok (.iload_n 1, 1) := by decide +kernel
theorem dX7_find_18 : decode cX7_find 18 = .ok (.iload_n 2, 1) := by decide +kernel
theorem dX7_find_19 : decode cX7_find 19 = .ok (.invokevirtual 158, 3) := by decide +kernel
theorem dX7_find_22 : decode cX7_find 22 = .ok (.lcmp, 1) := by decide +kernel
theorem dX7_find_23 : decode cX7_find 23 = .ok (.ifCond .lt 11, 3) := by decide +kernel
theorem dX7_find_26 : decode cX7_find 26 = .ok (.new 162, 3) := by decide +kernel
theorem dX7_find_29 : decode cX7_find 29 = .ok (.dup, 1) := by decide +kernel
theorem dX7_find_30 : decode cX7_find 30 = .ok (.invokespecial 164, 3) := by decide +kernel
theorem dX7_find_33 : decode cX7_find 33 = .ok (.athrow, 1) := by decide +kernel
theorem dX7_find_34 : decode cX7_find 34 = .ok (.aload_n 0, 1) := by decide +kernel
theorem dX7_find_35 : decode cX7_find 35 = .ok (.getfield 53, 3) := by decide +kernel
theorem dX7_find_38 : decode cX7_find 38 = .ok (.iload_n 1, 1) := by decide +kernel
theorem dX7_find_39 : decode cX7_find 39 = .ok (.iload_n 2, 1) := by decide +kernel
theorem dX7_find_40 : decode cX7_find 40 = .ok (.lload_n 3, 1) := by decide +kernel
theorem dX7_find_41 : decode cX7_find 41 = .ok (.aload_n 0, 1) := by decide +kernel
theorem dX7_find_42 : decode cX7_find 42 = .ok (.getfield 28, 3) := by decide +kernel
theorem dX7_find_45 : decode cX7_find 45 = .ok (.invokevirtual 165, 3) := by decide +kernel
theorem dX7_find_48 : decode cX7_find 48 = .ok (.return_, 1) := by decide +kernel
theorem dX7_countTo_0 : decode cX7_countTo 0 = .ok (.aload_n 0, 1) := by decide +kernel
theorem dX7_countTo_1 : decode cX7_countTo 1 = .ok (.iload_n 1, 1) := by decide +kernel
theorem dX7_countTo_2 : decode cX7_countTo 2 = .ok (.invokevirtual 75, 3) := by decide +kernel
theorem dX7_countTo_5 : decode cX7_countTo 5 = .ok (.aload_n 0, 1) := by decide +kernel
theorem dX7_countTo_6 : decode cX7_countTo 6 = .ok (.iload_n 1, 1) := by decide +kernel
theorem dX7_countTo_7 : decode cX7_countTo 7 = .ok (.invokevirtual 108, 3) := by decide +kernel
theorem dX7_countTo_10 : decode cX7_countTo 10 = .ok (.iload_n 2, 1) := by decide +kernel
theorem dX7_countTo_11 : decode cX7_countTo 11 = .ok (.ifCond .lt 9, 3) := by decide +kernel
theorem dX7_countTo_14 : decode cX7_countTo 14 = .ok (.iload_n 2, 1) := by decide +kernel
theorem dX7_countTo_15 : decode cX7_countTo 15 = .ok (.bipush 16, 2) := by decide +kernel
theorem dX7_countTo_17 : decode cX7_countTo 17 = .ok (.if_icmp .le 11, 3) := by decide +kernel
theorem dX7_countTo_20 : decode cX7_countTo 20 = .ok (.new 61, 3) := by decide +kernel
theorem dX7_countTo_23 : decode cX7_countTo 23 = .ok (.dup, 1) := by decide +kernel
theorem dX7_countTo_24 : decode cX7_countTo 24 = .ok (.invokespecial 63, 3) := by decide +kernel
theorem dX7_countTo_27 : decode cX7_countTo 27 = .ok (.athrow, 1) := by decide +kernel
theorem dX7_countTo_28 : decode cX7_countTo 28 = .ok (.aload_n 0, 1) := by decide +kernel
theorem dX7_countTo_29 : decode cX7_countTo 29 = .ok (.getfield 44, 3) := by decide +kernel
theorem dX7_countTo_32 : decode cX7_countTo 32 = .ok (.iload_n 2, 1) := by decide +kernel
theorem dX7_countTo_33 : decode cX7_countTo 33 = .ok (.invokevirtual 169, 3) := by decide +kernel
theorem dX7_countTo_36 : decode cX7_countTo 36 = .ok (.return_, 1) := by decide +kernel
theorem dX7_needTerm_0 : decode cX7_needTerm 0 = .ok (.aload_n 0, 1) := by decide +kernel
theorem dX7_needTerm_1 : decode cX7_needTerm 1 = .ok (.getfield 12, 3) := by decide +kernel
theorem dX7_needTerm_4 : decode cX7_needTerm 4 = .ok (.iload_n 1, 1) := by decide +kernel
theorem dX7_needTerm_5 : decode cX7_needTerm 5 = .ok (.invokevirtual 171, 3) := by decide +kernel
theorem dX7_needTerm_8 : decode cX7_needTerm 8 = .ok (.ifCond .ne 11, 3) := by decide +kernel
theorem dX7_needTerm_11 : decode cX7_needTerm 11 = .ok (.new 105, 3) := by decide +kernel
theorem dX7_needTerm_14 : decode cX7_needTerm 14 = .ok (.dup, 1) := by decide +kernel
theorem dX7_needTerm_15 : decode cX7_needTerm 15 = .ok (.invokespecial 107, 3) := by decide +kernel
theorem dX7_needTerm_18 : decode cX7_needTerm 18 = .ok (.athrow, 1) := by decide +kernel
theorem dX7_needTerm_19 : decode cX7_needTerm 19 = .ok (.return_, 1) := by decide +kernel
theorem dX7_needTyped_0 : decode cX7_needTyped 0 = .ok (.aload_n 0, 1) := by decide +kernel
theorem dX7_needTyped_1 : decode cX7_needTyped 1 = .ok (.getfield 21, 3) := by decide +kernel
theorem dX7_needTyped_4 : decode cX7_needTyped 4 = .ok (.iload_n 1, 1) := by decide +kernel
theorem dX7_needTyped_5 : decode cX7_needTyped 5 = .ok (.invokevirtual 99, 3) := by decide +kernel
theorem dX7_needTyped_8 : decode cX7_needTyped 8 = .ok (.aload_n 0, 1) := by decide +kernel
theorem dX7_needTyped_9 : decode cX7_needTyped 9 = .ok (.getfield 21, 3) := by decide +kernel
theorem dX7_needTyped_12 : decode cX7_needTyped 12 = .ok (.invokevirtual 102, 3) := by decide +kernel
theorem dX7_needTyped_15 : decode cX7_needTyped 15 = .ok (.ifCond .eq 11, 3) := by decide +kernel
theorem dX7_needTyped_18 : decode cX7_needTyped 18 = .ok (.new 82, 3) := by decide +kernel
theorem dX7_needTyped_21 : decode cX7_needTyped 21 = .ok (.dup, 1) := by decide +kernel
theorem dX7_needTyped_22 : decode cX7_needTyped 22 = .ok (.invokespecial 84, 3) := by decide +kernel
theorem dX7_needTyped_25 : decode cX7_needTyped 25 = .ok (.athrow, 1) := by decide +kernel
theorem dX7_needTyped_26 : decode cX7_needTyped 26 = .ok (.return_, 1) := by decide +kernel
theorem dX7_needVariable_0 : decode cX7_needVariable 0 = .ok (.iload_n 1, 1) := by decide +kernel
theorem dX7_needVariable_1 : decode cX7_needVariable 1 = .ok (.ifCond .lt 8, 3) := by decide +kernel
theorem dX7_needVariable_4 : decode cX7_needVariable 4 = .ok (.iload_n 1, 1) := by decide +kernel
theorem dX7_needVariable_5 : decode cX7_needVariable 5 = .ok (.iconst 4, 1) := by decide +kernel
theorem dX7_needVariable_6 : decode cX7_needVariable 6 = .ok (.if_icmp .lt 11, 3) := by decide +kernel
theorem dX7_needVariable_9 : decode cX7_needVariable 9 = .ok (.new 61, 3) := by decide +kernel
theorem dX7_needVariable_12 : decode cX7_needVariable 12 = .ok (.dup, 1) := by decide +kernel
theorem dX7_needVariable_13 : decode cX7_needVariable 13 = .ok (.invokespecial 63, 3) := by decide +kernel
theorem dX7_needVariable_16 : decode cX7_needVariable 16 = .ok (.athrow, 1) := by decide +kernel
theorem dX7_needVariable_17 : decode cX7_needVariable 17 = .ok (.return_, 1) := by decide +kernel
theorem dX7_needRoom_0 : decode cX7_needRoom 0 = .ok (.aload_n 0, 1) := by decide +kernel
theorem dX7_needRoom_1 : decode cX7_needRoom 1 = .ok (.getfield 12, 3) := by decide +kernel
theorem dX7_needRoom_4 : decode cX7_needRoom 4 = .ok (.invokevirtual 174, 3) := by decide +kernel
theorem dX7_needRoom_7 : decode cX7_needRoom 7 = .ok (.ifCond .eq 11, 3) := by decide +kernel
theorem dX7_needRoom_10 : decode cX7_needRoom 10 = .ok (.new 89, 3) := by decide +kernel
theorem dX7_needRoom_13 : decode cX7_needRoom 13 = .ok (.dup, 1) := by decide +kernel
theorem dX7_needRoom_14 : decode cX7_needRoom 14 = .ok (.invokespecial 91, 3) := by decide +kernel
theorem dX7_needRoom_17 : decode cX7_needRoom 17 = .ok (.athrow, 1) := by decide +kernel
theorem dX7_needRoom_18 : decode cX7_needRoom 18 = .ok (.return_, 1) := by decide +kernel
theorem dX8_init_0 : decode cX8_init 0 = .ok (.aload_n 0, 1) := by decide +kernel
theorem dX8_init_1 : decode cX8_init 1 = .ok (.invokespecial 1, 3) := by decide +kernel
theorem dX8_init_4 : decode cX8_init 4 = .ok (.aload_n 0, 1) := by decide +kernel
theorem dX8_init_5 : decode cX8_init 5 = .ok (.bipush 48, 2) := by decide +kernel
theorem dX8_init_7 : decode cX8_init 7 = .ok (.newarray .int, 2) := by decide +kernel
theorem dX8_init_9 : decode cX8_init 9 = .ok (.putfield 7, 3) := by decide +kernel
theorem dX8_init_12 : decode cX8_init 12 = .ok (.aload_n 0, 1) := by decide +kernel
theorem dX8_init_13 : decode cX8_init 13 = .ok (.bipush 48, 2) := by decide +kernel
theorem dX8_init_15 : decode cX8_init 15 = .ok (.newarray .int, 2) := by decide +kernel
theorem dX8_init_17 : decode cX8_init 17 = .ok (.putfield 13, 3) := by decide +kernel
theorem dX8_init_20 : decode cX8_init 20 = .ok (.aload_n 0, 1) := by decide +kernel
theorem dX8_init_21 : decode cX8_init 21 = .ok (.bipush 48, 2) := by decide +kernel
theorem dX8_init_23 : decode cX8_init 23 = .ok (.newarray .int, 2) := by decide +kernel
theorem dX8_init_25 : decode cX8_init 25 = .ok (.putfield 16, 3) := by decide +kernel
theorem dX8_init_28 : decode cX8_init 28 = .ok (.aload_n 0, 1) := by decide +kernel
theorem dX8_init_29 : decode cX8_init 29 = .ok (.bipush 48, 2) := by decide +kernel
theorem dX8_init_31 : decode cX8_init 31 = .ok (.newarray .int, 2) := by decide +kernel
theorem dX8_init_33 : decode cX8_init 33 = .ok (.putfield 19, 3) := by decide +kernel
theorem dX8_init_36 : decode cX8_init 36 = .ok (.aload_n 0, 1) := by decide +kernel
theorem dX8_init_37 : decode cX8_init 37 = .ok (.bipush 48, 2) := by decide +kernel
theorem dX8_init_39 : decode cX8_init 39 = .ok (.newarray .int, 2) := by decide +kernel
theorem dX8_init_41 : decode cX8_init 41 = .ok (.putfield 22, 3) := by decide +kernel
theorem dX8_init_44 : decode cX8_init 44 = .ok (.aload_n 0, 1) := by decide +kernel
theorem dX8_init_45 : decode cX8_init 45 = .ok (.bipush 48, 2) := by decide +kernel
theorem dX8_init_47 : decode cX8_init 47 = .ok (.newarray .int, 2) := by decide +kernel
theorem dX8_init_49 : decode cX8_init 49 = .ok (.putfield 25, 3) := by decide +kernel
theorem dX8_init_52 : decode cX8_init 52 = .ok (.aload_n 0, 1) := by decide +kernel
theorem dX8_init_53 : decode cX8_init 53 = .ok (.bipush 48, 2) := by decide +kernel
theorem dX8_init_55 : decode cX8_init 55 = .ok (.newarray .boolean, 2) := by decide +kernel
theorem dX8_init_57 : decode cX8_init 57 = .ok (.putfield 28, 3) := by decide +kernel
theorem dX8_init_60 : decode cX8_init 60 = .ok (.aload_n 0, 1) := by decide +kernel
theorem dX8_init_61 : decode cX8_init 61 = .ok (.bipush 48, 2) := by decide +kernel
theorem dX8_init_63 : decode cX8_init 63 = .ok (.newarray .int, 2) := by decide +kernel
theorem dX8_init_65 : decode cX8_init 65 = .ok (.putfield 32, 3) := by decide +kernel
theorem dX8_init_68 : decode cX8_init 68 = .ok (.aload_n 0, 1) := by decide +kernel
theorem dX8_init_69 : decode cX8_init 69 = .ok (.bipush 48, 2) := by decide +kernel
theorem dX8_init_71 : decode cX8_init 71 = .ok (.newarray .int, 2) := by decide +kernel
theorem dX8_init_73 : decode cX8_init 73 = .ok (.putfield 35, 3) := by decide +kernel
theorem dX8_init_76 : decode cX8_init 76 = .ok (.aload_n 0, 1) := by decide +kernel
theorem dX8_init_77 : decode cX8_init 77 = .ok (.bipush 48, 2) := by decide +kernel
theorem dX8_init_79 : decode cX8_init 79 = .ok (.newarray .boolean, 2) := by decide +kernel
theorem dX8_init_81 : decode cX8_init 81 = .ok (.putfield 38, 3) := by decide +kernel
theorem dX8_init_84 : decode cX8_init 84 = .ok (.aload_n 0, 1) := by decide +kernel
theorem dX8_init_85 : decode cX8_init 85 = .ok (.bipush 48, 2) := by decide +kernel
theorem dX8_init_87 : decode cX8_init 87 = .ok (.newarray .int, 2) := by decide +kernel
theorem dX8_init_89 : decode cX8_init 89 = .ok (.putfield 41, 3) := by decide +kernel
theorem dX8_init_92 : decode cX8_init 92 = .ok (.aload_n 0, 1) := by decide +kernel
theorem dX8_init_93 : decode cX8_init 93 = .ok (.bipush 40, 2) := by decide +kernel
theorem dX8_init_95 : decode cX8_init 95 = .ok (.newarray .int, 2) := by decide +kernel
theorem dX8_init_97 : decode cX8_init 97 = .ok (.putfield 44, 3) := by decide +kernel
theorem dX8_init_100 : decode cX8_init 100 = .ok (.aload_n 0, 1) := by decide +kernel
theorem dX8_init_101 : decode cX8_init 101 = .ok (.iconst (-1), 1) := by decide +kernel
theorem dX8_init_102 : decode cX8_init 102 = .ok (.putfield 47, 3) := by decide +kernel
theorem dX8_init_105 : decode cX8_init 105 = .ok (.aload_n 0, 1) := by decide +kernel
theorem dX8_init_106 : decode cX8_init 106 = .ok (.sipush 2100, 3) := by decide +kernel
theorem dX8_init_109 : decode cX8_init 109 = .ok (.newarray .int, 2) := by decide +kernel
theorem dX8_init_111 : decode cX8_init 111 = .ok (.putfield 51, 3) := by decide +kernel
theorem dX8_init_114 : decode cX8_init 114 = .ok (.aload_n 0, 1) := by decide +kernel
theorem dX8_init_115 : decode cX8_init 115 = .ok (.sipush 2100, 3) := by decide +kernel
theorem dX8_init_118 : decode cX8_init 118 = .ok (.newarray .int, 2) := by decide +kernel
theorem dX8_init_120 : decode cX8_init 120 = .ok (.putfield 54, 3) := by decide +kernel
theorem dX8_init_123 : decode cX8_init 123 = .ok (.aload_n 0, 1) := by decide +kernel
theorem dX8_init_124 : decode cX8_init 124 = .ok (.sipush 2100, 3) := by decide +kernel
theorem dX8_init_127 : decode cX8_init 127 = .ok (.newarray .int, 2) := by decide +kernel
theorem dX8_init_129 : decode cX8_init 129 = .ok (.putfield 57, 3) := by decide +kernel
theorem dX8_init_132 : decode cX8_init 132 = .ok (.aload_n 0, 1) := by decide +kernel
theorem dX8_init_133 : decode cX8_init 133 = .ok (.sipush 2100, 3) := by decide +kernel
theorem dX8_init_136 : decode cX8_init 136 = .ok (.newarray .int, 2) := by decide +kernel
theorem dX8_init_138 : decode cX8_init 138 = .ok (.putfield 60, 3) := by decide +kernel
theorem dX8_init_141 : decode cX8_init 141 = .ok (.aload_n 0, 1) := by decide +kernel
theorem dX8_init_142 : decode cX8_init 142 = .ok (.sipush 816, 3) := by decide +kernel
theorem dX8_init_145 : decode cX8_init 145 = .ok (.newarray .long, 2) := by decide +kernel
theorem dX8_init_147 : decode cX8_init 147 = .ok (.putfield 63, 3) := by decide +kernel
theorem dX8_init_150 : decode cX8_init 150 = .ok (.aload_n 0, 1) := by decide +kernel
theorem dX8_init_151 : decode cX8_init 151 = .ok (.bipush 17, 2) := by decide +kernel
theorem dX8_init_153 : decode cX8_init 153 = .ok (.newarray .long, 2) := by decide +kernel
theorem dX8_init_155 : decode cX8_init 155 = .ok (.putfield 67, 3) := by decide +kernel
theorem dX8_init_158 : decode cX8_init 158 = .ok (.aload_n 0, 1) := by decide +kernel
theorem dX8_init_159 : decode cX8_init 159 = .ok (.bipush 17, 2) := by decide +kernel
theorem dX8_init_161 : decode cX8_init 161 = .ok (.newarray .long, 2) := by decide +kernel
theorem dX8_init_163 : decode cX8_init 163 = .ok (.putfield 70, 3) := by decide +kernel
theorem dX8_init_166 : decode cX8_init 166 = .ok (.return_, 1) := by decide +kernel
theorem dX8_thrown_0 : decode cX8_thrown 0 = .ok (.aload_n 0, 1) := by decide +kernel
theorem dX8_thrown_1 : decode cX8_thrown 1 = .ok (.getfield 73, 3) := by decide +kernel
theorem dX8_thrown_4 : decode cX8_thrown 4 = .ok (.ireturn, 1) := by decide +kernel
theorem dX8_fail_0 : decode cX8_fail 0 = .ok (.aload_n 0, 1) := by decide +kernel
theorem dX8_fail_1 : decode cX8_fail 1 = .ok (.iload_n 1, 1) := by decide +kernel
theorem dX8_fail_2 : decode cX8_fail 2 = .ok (.putfield 73, 3) := by decide +kernel
theorem dX8_fail_5 : decode cX8_fail 5 = .ok (.iconst 0, 1) := by decide +kernel
theorem dX8_fail_6 : decode cX8_fail 6 = .ok (.ireturn, 1) := by decide +kernel
theorem dX8_isTerm_0 : decode cX8_isTerm 0 = .ok (.iload_n 1, 1) := by decide +kernel
theorem dX8_isTerm_1 : decode cX8_isTerm 1 = .ok (.ifCond .lt 15, 3) := by decide +kernel
theorem dX8_isTerm_4 : decode cX8_isTerm 4 = .ok (.iload_n 1, 1) := by decide +kernel
theorem dX8_isTerm_5 : decode cX8_isTerm 5 = .ok (.aload_n 0, 1) := by decide +kernel
theorem dX8_isTerm_6 : decode cX8_isTerm 6 = .ok (.getfield 76, 3) := by decide +kernel
theorem dX8_isTerm_9 : decode cX8_isTerm 9 = .ok (.if_icmp .ge 7, 3) := by decide +kernel
theorem dX8_isTerm_12 : decode cX8_isTerm 12 = .ok (.iconst 1, 1) := by decide +kernel
theorem dX8_isTerm_13 : decode cX8_isTerm 13 = .ok (.goto 4, 3) := by decide +kernel
theorem dX8_isTerm_16 : decode cX8_isTerm 16 = .ok (.iconst 0, 1) := by decide +kernel
theorem dX8_isTerm_17 : decode cX8_isTerm 17 = .ok (.ireturn, 1) := by decide +kernel
theorem dX8_isPart_0 : decode cX8_isPart 0 = .ok (.aload_n 0, 1) := by decide +kernel
theorem dX8_isPart_1 : decode cX8_isPart 1 = .ok (.getfield 22, 3) := by decide +kernel
theorem dX8_isPart_4 : decode cX8_isPart 4 = .ok (.iload_n 1, 1) := by decide +kernel
theorem dX8_isPart_5 : decode cX8_isPart 5 = .ok (.iaload, 1) := by decide +kernel
theorem dX8_isPart_6 : decode cX8_isPart 6 = .ok (.ifCond .lt 7, 3) := by decide +kernel
theorem dX8_isPart_9 : decode cX8_isPart 9 = .ok (.iconst 1, 1) := by decide +kernel
theorem dX8_isPart_10 : decode cX8_isPart 10 = .ok (.goto 4, 3) := by decide +kernel
theorem dX8_isPart_13 : decode cX8_isPart 13 = .ok (.iconst 0, 1) := by decide +kernel
theorem dX8_isPart_14 : decode cX8_isPart 14 = .ok (.ireturn, 1) := by decide +kernel
theorem dX8_add_0 : decode cX8_add 0 = .ok (.aload_n 0, 1) := by decide +kernel
theorem dX8_add_1 : decode cX8_add 1 = .ok (.getfield 7, 3) := by decide +kernel
theorem dX8_add_4 : decode cX8_add 4 = .ok (.aload_n 0, 1) := by decide +kernel
theorem dX8_add_5 : decode cX8_add 5 = .ok (.getfield 76, 3) := by decide +kernel
theorem dX8_add_8 : decode cX8_add 8 = .ok (.iload_n 1, 1) := by decide +kernel
theorem dX8_add_9 : decode cX8_add 9 = .ok (.iastore, 1) := by decide +kernel
theorem dX8_add_10 : decode cX8_add 10 = .ok (.aload_n 0, 1) := by decide +kernel
theorem dX8_add_11 : decode cX8_add 11 = .ok (.getfield 13, 3) := by decide +kernel
theorem dX8_add_14 : decode cX8_add 14 = .ok (.aload_n 0, 1) := by decide +kernel
theorem dX8_add_15 : decode cX8_add 15 = .ok (.getfield 76, 3) := by decide +kernel
theorem dX8_add_18 : decode cX8_add 18 = .ok (.iload_n 2, 1) := by decide +kernel
theorem dX8_add_19 : decode cX8_add 19 = .ok (.iastore, 1) := by decide +kernel
theorem dX8_add_20 : decode cX8_add 20 = .ok (.aload_n 0, 1) := by decide +kernel
theorem dX8_add_21 : decode cX8_add 21 = .ok (.getfield 16, 3) := by decide +kernel
theorem dX8_add_24 : decode cX8_add 24 = .ok (.aload_n 0, 1) := by decide +kernel
theorem dX8_add_25 : decode cX8_add 25 = .ok (.getfield 76, 3) := by decide +kernel
theorem dX8_add_28 : decode cX8_add 28 = .ok (.iload_n 3, 1) := by decide +kernel
theorem dX8_add_29 : decode cX8_add 29 = .ok (.iastore, 1) := by decide +kernel
theorem dX8_add_30 : decode cX8_add 30 = .ok (.aload_n 0, 1) := by decide +kernel
theorem dX8_add_31 : decode cX8_add 31 = .ok (.getfield 19, 3) := by decide +kernel
theorem dX8_add_34 : decode cX8_add 34 = .ok (.aload_n 0, 1) := by decide +kernel
theorem dX8_add_35 : decode cX8_add 35 = .ok (.getfield 76, 3) := by decide +kernel
theorem dX8_add_38 : decode cX8_add 38 = .ok (.iload 4, 2) := by decide +kernel
theorem dX8_add_40 : decode cX8_add 40 = .ok (.iastore, 1) := by decide +kernel
theorem dX8_add_41 : decode cX8_add 41 = .ok (.aload_n 0, 1) := by decide +kernel
theorem dX8_add_42 : decode cX8_add 42 = .ok (.getfield 22, 3) := by decide +kernel
theorem dX8_add_45 : decode cX8_add 45 = .ok (.aload_n 0, 1) := by decide +kernel
theorem dX8_add_46 : decode cX8_add 46 = .ok (.getfield 76, 3) := by decide +kernel
theorem dX8_add_49 : decode cX8_add 49 = .ok (.iconst (-1), 1) := by decide +kernel
theorem dX8_add_50 : decode cX8_add 50 = .ok (.iastore, 1) := by decide +kernel
theorem dX8_add_51 : decode cX8_add 51 = .ok (.iload_n 3, 1) := by decide +kernel
theorem dX8_add_52 : decode cX8_add 52 = .ok (.ifCond .ge 7, 3) := by decide +kernel
theorem dX8_add_55 : decode cX8_add 55 = .ok (.iconst 0, 1) := by decide +kernel
theorem dX8_add_56 : decode cX8_add 56 = .ok (.goto 9, 3) := by decide +kernel
theorem dX8_add_59 : decode cX8_add 59 = .ok (.aload_n 0, 1) := by decide +kernel
theorem dX8_add_60 : decode cX8_add 60 = .ok (.getfield 25, 3) := by decide +kernel
theorem dX8_add_63 : decode cX8_add 63 = .ok (.iload_n 3, 1) := by decide +kernel
theorem dX8_add_64 : decode cX8_add 64 = .ok (.iaload, 1) := by decide +kernel
theorem dX8_add_65 : decode cX8_add 65 = .ok (.istore 5, 2) := by decide +kernel
theorem dX8_add_67 : decode cX8_add 67 = .ok (.iload 4, 2) := by decide +kernel
theorem dX8_add_69 : decode cX8_add 69 = .ok (.ifCond .lt 25, 3) := by decide +kernel
theorem dX8_add_72 : decode cX8_add 72 = .ok (.aload_n 0, 1) := by decide +kernel
theorem dX8_add_73 : decode cX8_add 73 = .ok (.getfield 25, 3) := by decide +kernel
theorem dX8_add_76 : decode cX8_add 76 = .ok (.iload 4, 2) := by decide +kernel
theorem dX8_add_78 : decode cX8_add 78 = .ok (.iaload, 1) := by decide +kernel
theorem dX8_add_79 : decode cX8_add 79 = .ok (.iload 5, 2) := by decide +kernel
theorem dX8_add_81 : decode cX8_add 81 = .ok (.if_icmp .le 13, 3) := by decide +kernel
theorem dX8_add_84 : decode cX8_add 84 = .ok (.aload_n 0, 1) := by decide +kernel
theorem dX8_add_85 : decode cX8_add 85 = .ok (.getfield 25, 3) := by decide +kernel
theorem dX8_add_88 : decode cX8_add 88 = .ok (.iload 4, 2) := by decide +kernel
theorem dX8_add_90 : decode cX8_add 90 = .ok (.iaload, 1) := by decide +kernel
theorem dX8_add_91 : decode cX8_add 91 = .ok (.goto 5, 3) := by decide +kernel
theorem dX8_add_94 : decode cX8_add 94 = .ok (.iload 5, 2) := by decide +kernel
theorem dX8_add_96 : decode cX8_add 96 = .ok (.istore 5, 2) := by decide +kernel
theorem dX8_add_98 : decode cX8_add 98 = .ok (.aload_n 0, 1) := by decide +kernel
theorem dX8_add_99 : decode cX8_add 99 = .ok (.getfield 25, 3) := by decide +kernel
theorem dX8_add_102 : decode cX8_add 102 = .ok (.aload_n 0, 1) := by decide +kernel
theorem dX8_add_103 : decode cX8_add 103 = .ok (.getfield 76, 3) := by decide +kernel
theorem dX8_add_106 : decode cX8_add 106 = .ok (.iload_n 1, 1) := by decide +kernel
theorem dX8_add_107 : decode cX8_add 107 = .ok (.bipush 6, 2) := by decide +kernel
theorem dX8_add_109 : decode cX8_add 109 = .ok (.if_icmp .ne 10, 3) := by decide +kernel
theorem dX8_add_112 : decode cX8_add 112 = .ok (.iload 5, 2) := by decide +kernel
theorem dX8_add_114 : decode cX8_add 114 = .ok (.iconst 1, 1) := by decide +kernel
theorem dX8_add_115 : decode cX8_add 115 = .ok (.iadd, 1) := by decide +kernel
theorem dX8_add_116 : decode cX8_add 116 = .ok (.goto 5, 3) := by decide +kernel
theorem dX8_add_119 : decode cX8_add 119 = .ok (.iload 5, 2) := by decide +kernel
theorem dX8_add_121 : decode cX8_add 121 = .ok (.iastore, 1) := by decide +kernel
theorem dX8_add_122 : decode cX8_add 122 = .ok (.iload_n 3, 1) := by decide +kernel
theorem dX8_add_123 : decode cX8_add 123 = .ok (.ifCond .lt 13, 3) := by decide +kernel
theorem dX8_add_126 : decode cX8_add 126 = .ok (.aload_n 0, 1) := by decide +kernel
theorem dX8_add_127 : decode cX8_add 127 = .ok (.getfield 22, 3) := by decide +kernel
theorem dX8_add_130 : decode cX8_add 130 = .ok (.iload_n 3, 1) := by decide +kernel
theorem dX8_add_131 : decode cX8_add 131 = .ok (.aload_n 0, 1) := by decide +kernel
theorem dX8_add_132 : decode cX8_add 132 = .ok (.getfield 76, 3) := by decide +kernel
theorem dX8_add_135 : decode cX8_add 135 = .ok (.iastore, 1) := by decide +kernel
theorem dX8_add_136 : decode cX8_add 136 = .ok (.iload 4, 2) := by decide +kernel
theorem dX8_add_138 : decode cX8_add 138 = .ok (.ifCond .lt 14, 3) := by decide +kernel
theorem dX8_add_141 : decode cX8_add 141 = .ok (.aload_n 0, 1) := by decide +kernel
theorem dX8_add_142 : decode cX8_add 142 = .ok (.getfield 22, 3) := by decide +kernel
theorem dX8_add_145 : decode cX8_add 145 = .ok (.iload 4, 2) := by decide +kernel
theorem dX8_add_147 : decode cX8_add 147 = .ok (.aload_n 0, 1) := by decide +kernel
theorem dX8_add_148 : decode cX8_add 148 = .ok (.getfield 76, 3) := by decide +kernel
theorem dX8_add_151 : decode cX8_add 151 = .ok (.iastore, 1) := by decide +kernel
theorem dX8_add_152 : decode cX8_add 152 = .ok (.aload_n 0, 1) := by decide +kernel
theorem dX8_add_153 : decode cX8_add 153 = .ok (.dup, 1) := by decide +kernel
theorem dX8_add_154 : decode cX8_add 154 = .ok (.getfield 76, 3) := by decide +kernel
theorem dX8_add_157 : decode cX8_add 157 = .ok (.iconst 1, 1) := by decide +kernel
theorem dX8_add_158 : decode cX8_add 158 = .ok (.iadd, 1) := by decide +kernel
theorem dX8_add_159 : decode cX8_add 159 = .ok (.putfield 76, 3) := by decide +kernel
theorem dX8_add_162 : decode cX8_add 162 = .ok (.aload_n 0, 1) := by decide +kernel
theorem dX8_add_163 : decode cX8_add 163 = .ok (.getfield 76, 3) := by decide +kernel
theorem dX8_add_166 : decode cX8_add 166 = .ok (.iconst 1, 1) := by decide +kernel
theorem dX8_add_167 : decode cX8_add 167 = .ok (.isub, 1) := by decide +kernel
theorem dX8_add_168 : decode cX8_add 168 = .ok (.ireturn, 1) := by decide +kernel
theorem dX8_leaf_0 : decode cX8_leaf 0 = .ok (.aload_n 0, 1) := by decide +kernel
theorem dX8_leaf_1 : decode cX8_leaf 1 = .ok (.iload_n 1, 1) := by decide +kernel
theorem dX8_leaf_2 : decode cX8_leaf 2 = .ok (.bipush (-2), 2) := by decide +kernel
theorem dX8_leaf_4 : decode cX8_leaf 4 = .ok (.if_icmp .lt 9, 3) := by decide +kernel
theorem dX8_leaf_7 : decode cX8_leaf 7 = .ok (.iload_n 1, 1) := by decide +kernel
theorem dX8_leaf_8 : decode cX8_leaf 8 = .ok (.bipush 7, 2) := by decide +kernel
theorem dX8_leaf_10 : decode cX8_leaf 10 = .ok (.if_icmp .le 7, 3) := by decide +kernel
theorem dX8_leaf_13 : decode cX8_leaf 13 = .ok (.iconst 1, 1) := by decide +kernel
theorem dX8_leaf_14 : decode cX8_leaf 14 = .ok (.goto 17, 3) := by decide +kernel
theorem dX8_leaf_17 : decode cX8_leaf 17 = .ok (.aload_n 0, 1) := by decide +kernel
theorem dX8_leaf_18 : decode cX8_leaf 18 = .ok (.getfield 76, 3) := by decide +kernel
theorem dX8_leaf_21 : decode cX8_leaf 21 = .ok (.bipush 48, 2) := by decide +kernel
theorem dX8_leaf_23 : decode cX8_leaf 23 = .ok (.if_icmp .ne 7, 3) := by decide +kernel
theorem dX8_leaf_26 : decode cX8_leaf 26 = .ok (.iconst 2, 1) := by decide +kernel
theorem dX8_leaf_27 : decode cX8_leaf 27 = .ok (.goto 4, 3) := by decide +kernel
theorem dX8_leaf_30 : decode cX8_leaf 30 = .ok (.iconst 0, 1) := by decide +kernel
theorem dX8_leaf_31 : decode cX8_leaf 31 = .ok (.putfield 73, 3) := by decide +kernel
theorem dX8_leaf_34 : decode cX8_leaf 34 = .ok (.aload_n 0, 1) := by decide +kernel
theorem dX8_leaf_35 : decode cX8_leaf 35 = .ok (.getfield 73, 3) := by decide +kernel
theorem dX8_leaf_38 : decode cX8_leaf 38 = .ok (.ifCond .le 5, 3) := by decide +kernel
theorem dX8_leaf_41 : decode cX8_leaf 41 = .ok (.iconst 0, 1) := by decide +kernel
theorem dX8_leaf_42 : decode cX8_leaf 42 = .ok (.ireturn, 1) := by decide +kernel
theorem dX8_leaf_43 : decode cX8_leaf 43 = .ok (.aload_n 0, 1) := by decide +kernel
theorem dX8_leaf_44 : decode cX8_leaf 44 = .ok (.iload_n 1, 1) := by decide +kernel
theorem dX8_leaf_45 : decode cX8_leaf 45 = .ok (.iconst (-1), 1) := by decide +kernel
theorem dX8_leaf_46 : decode cX8_leaf 46 = .ok (.if_icmp .ne 7, 3) := by decide +kernel
theorem dX8_leaf_49 : decode cX8_leaf 49 = .ok (.iconst 0, 1) := by decide +kernel
theorem dX8_leaf_50 : decode cX8_leaf 50 = .ok (.goto 14, 3) := by decide +kernel
theorem dX8_leaf_53 : decode cX8_leaf 53 = .ok (.iload_n 1, 1) := by decide +kernel
theorem dX8_leaf_54 : decode cX8_leaf 54 = .ok (.bipush (-2), 2) := by decide +kernel
theorem dX8_leaf_56 : decode cX8_leaf 56 = .ok (.if_icmp .ne 7, 3) := by decide +kernel
theorem dX8_leaf_59 : decode cX8_leaf 59 = .ok (.iconst 1, 1) := by decide +kernel
theorem dX8_leaf_60 : decode cX8_leaf 60 = .ok (.goto 4, 3) := by decide +kernel
theorem dX8_leaf_63 : decode cX8_leaf 63 = .ok (.iconst 2, 1) := by decide +kernel
theorem dX8_leaf_64 : decode cX8_leaf 64 = .ok (.iload_n 1, 1) := by decide +kernel
theorem dX8_leaf_65 : decode cX8_leaf 65 = .ok (.iconst (-1), 1) := by decide +kernel
theorem dX8_leaf_66 : decode cX8_leaf 66 = .ok (.iconst (-1), 1) := by decide +kernel
theorem dX8_leaf_67 : decode cX8_leaf 67 = .ok (.invokevirtual 79, 3) := by decide +kernel
theorem dX8_leaf_70 : decode cX8_leaf 70 = .ok (.ireturn, 1) := by decide +kernel
theorem dX8_variable_0 : decode cX8_variable 0 = .ok (.aload_n 0, 1) := by decide +kernel
theorem dX8_variable_1 : decode cX8_variable 1 = .ok (.iload_n 1, 1) := by decide +kernel
theorem dX8_variable_2 : decode cX8_variable 2 = .ok (.ifCond .lt 8, 3) := by decide +kernel
theorem dX8_variable_5 : decode cX8_variable 5 = .ok (.iload_n 1, 1) := by decide +kernel
theorem dX8_variable_6 : decode cX8_variable 6 = .ok (.iconst 3, 1) := by decide +kernel
theorem dX8_variable_7 : decode cX8_variable 7 = .ok (.if_icmp .le 7, 3) := by decide +kernel
theorem dX8_variable_10 : decode cX8_variable 10 = .ok (.iconst 1, 1) := by decide +kernel
theorem dX8_variable_11 : decode cX8_variable 11 = .ok (.goto 17, 3) := by decide +kernel
theorem dX8_variable_14 : decode cX8_variable 14 = .ok (.aload_n 0, 1) := by decide +kernel
theorem dX8_variable_15 : decode cX8_variable 15 = .ok (.getfield 76, 3) := by decide +kernel
theorem dX8_variable_18 : decode cX8_variable 18 = .ok (.bipush 48, 2) := by decide +kernel
theorem dX8_variable_20 : decode cX8_variable 20 = .ok (.if_icmp .ne 7, 3) := by decide +kernel
theorem dX8_variable_23 : decode cX8_variable 23 = .ok (.iconst 2, 1) := by decide +kernel
theorem dX8_variable_24 : decode cX8_variable 24 = .ok (.goto 4, 3) := by decide +kernel
theorem dX8_variable_27 : decode cX8_variable 27 = .ok (.iconst 0, 1) := by decide +kernel
theorem dX8_variable_28 : decode cX8_variable 28 = .ok (.putfield 73, 3) := by decide +kernel
theorem dX8_variable_31 : decode cX8_variable 31 = .ok (.aload_n 0, 1) := by decide +kernel
theorem dX8_variable_32 : decode cX8_variable 32 = .ok (.getfield 73, 3) := by decide +kernel
theorem dX8_variable_35 : decode cX8_variable 35 = .ok (.ifCond .le 7, 3) := by decide +kernel
theorem dX8_variable_38 : decode cX8_variable 38 = .ok (.iconst 0, 1) := by decide +kernel
theorem dX8_variable_39 : decode cX8_variable 39 = .ok (.goto 11, 3) := by decide +kernel
theorem dX8_variable_42 : decode cX8_variable 42 = .ok (.aload_n 0, 1) := by decide +kernel
theorem dX8_variable_43 : decode cX8_variable 43 = .ok (.iconst 5, 1) := by decide +kernel
theorem dX8_variable_44 : decode cX8_variable 44 = .ok (.iload_n 1, 1) := by decide +kernel
theorem dX8_variable_45 : decode cX8_variable 45 = .ok (.iconst (-1), 1) := by decide +kernel
theorem dX8_variable_46 : decode cX8_variable 46 = .ok (.iconst (-1), 1) := by decide +kernel
theorem dX8_variable_47 : decode cX8_variable 47 = .ok (.invokevirtual 79, 3) := by decide +kernel
theorem dX8_variable_50 : decode cX8_variable 50 = .ok (.ireturn, 1) := by decide +kernel
theorem dX8_join_0 : decode cX8_join 0 = .ok (.aload_n 0, 1) := by decide +kernel
theorem dX8_join_1 : decode cX8_join 1 = .ok (.aload_n 0, 1) := by decide +kernel
theorem dX8_join_2 : decode cX8_join 2 = .ok (.iload_n 1, 1) := by decide +kernel
theorem dX8_join_3 : decode cX8_join 3 = .ok (.invokevirtual 83, 3) := by decide +kernel
theorem dX8_join_6 : decode cX8_join 6 = .ok (.ifCond .eq 11, 3) := by decide +kernel
theorem dX8_join_9 : decode cX8_join 9 = .ok (.aload_n 0, 1) := by decide +kernel
theorem dX8_join_10 : decode cX8_join 10 = .ok (.iload_n 2, 1) := by decide +kernel
theorem dX8_join_11 : decode cX8_join 11 = .ok (.invokevirtual 83, 3) := by decide +kernel
theorem dX8_join_14 : decode cX8_join 14 = .ok (.ifCond .ne 7, 3) := by decide +kernel
theorem dX8_join_17 : decode cX8_join 17 = .ok (.iconst 1, 1) := by decide +kernel
theorem dX8_join_18 : decode cX8_join 18 = .ok (.goto 42, 3) := by decide +kernel
theorem dX8_join_21 : decode cX8_join 21 = .ok (.aload_n 0, 1) := by decide +kernel
theorem dX8_join_22 : decode cX8_join 22 = .ok (.iload_n 1, 1) := by decide +kernel
theorem dX8_join_23 : decode cX8_join 23 = .ok (.invokevirtual 87, 3) := by decide +kernel
theorem dX8_join_26 : decode cX8_join 26 = .ok (.ifCond .ne 16, 3) := by decide +kernel
theorem dX8_join_29 : decode cX8_join 29 = .ok (.aload_n 0, 1) := by decide +kernel
theorem dX8_join_30 : decode cX8_join 30 = .ok (.iload_n 2, 1) := by decide +kernel
theorem dX8_join_31 : decode cX8_join 31 = .ok (.invokevirtual 87, 3) := by decide +kernel
theorem dX8_join_34 : decode cX8_join 34 = .ok (.ifCond .ne 8, 3) := by decide +kernel
theorem dX8_join_37 : decode cX8_join 37 = .ok (.iload_n 1, 1) := by decide +kernel
theorem dX8_join_38 : decode cX8_join 38 = .ok (.iload_n 2, 1) := by decide +kernel
theorem dX8_join_39 : decode cX8_join 39 = .ok (.if_icmp .ne 7, 3) := by decide +kernel
theorem dX8_join_42 : decode cX8_join 42 = .ok (.iconst 2, 1) := by decide +kernel
theorem dX8_join_43 : decode cX8_join 43 = .ok (.goto 17, 3) := by decide +kernel
theorem dX8_join_46 : decode cX8_join 46 = .ok (.aload_n 0, 1) := by decide +kernel
theorem dX8_join_47 : decode cX8_join 47 = .ok (.getfield 76, 3) := by decide +kernel
theorem dX8_join_50 : decode cX8_join 50 = .ok (.bipush 48, 2) := by decide +kernel
theorem dX8_join_52 : decode cX8_join 52 = .ok (.if_icmp .ne 7, 3) := by decide +kernel
theorem dX8_join_55 : decode cX8_join 55 = .ok (.iconst 3, 1) := by decide +kernel
theorem dX8_join_56 : decode cX8_join 56 = .ok (.goto 4, 3) := by decide +kernel
theorem dX8_join_59 : decode cX8_join 59 = .ok (.iconst 0, 1) := by decide +kernel
theorem dX8_join_60 : decode cX8_join 60 = .ok (.putfield 73, 3) := by decide +kernel
theorem dX8_join_63 : decode cX8_join 63 = .ok (.aload_n 0, 1) := by decide +kernel
theorem dX8_join_64 : decode cX8_join 64 = .ok (.getfield 73, 3) := by decide +kernel
theorem dX8_join_67 : decode cX8_join 67 = .ok (.ifCond .le 7, 3) := by decide +kernel
theorem dX8_join_70 : decode cX8_join 70 = .ok (.iconst 0, 1) := by decide +kernel
theorem dX8_join_71 : decode cX8_join 71 = .ok (.goto 19, 3) := by decide +kernel
theorem dX8_join_74 : decode cX8_join 74 = .ok (.aload_n 0, 1) := by decide +kernel
theorem dX8_join_75 : decode cX8_join 75 = .ok (.iload_n 3, 1) := by decide +kernel
theorem dX8_join_76 : decode cX8_join 76 = .ok (.ifCond .eq 7, 3) := by decide +kernel
theorem dX8_join_79 : decode cX8_join 79 = .ok (.iconst 4, 1) := by decide +kernel
theorem dX8_join_80 : decode cX8_join 80 = .ok (.goto 4, 3) := by decide +kernel
theorem dX8_join_83 : decode cX8_join 83 = .ok (.iconst 3, 1) := by decide +kernel
theorem dX8_join_84 : decode cX8_join 84 = .ok (.iconst 0, 1) := by decide +kernel
theorem dX8_join_85 : decode cX8_join 85 = .ok (.iload_n 1, 1) := by decide +kernel
theorem dX8_join_86 : decode cX8_join 86 = .ok (.iload_n 2, 1) := by decide +kernel
theorem dX8_join_87 : decode cX8_join 87 = .ok (.invokevirtual 79, 3) := by decide +kernel
theorem dX8_join_90 : decode cX8_join 90 = .ok (.ireturn, 1) := by decide +kernel
theorem dX8_knot_0 : decode cX8_knot 0 = .ok (.aload_n 0, 1) := by decide +kernel
theorem dX8_knot_1 : decode cX8_knot 1 = .ok (.aload_n 0, 1) := by decide +kernel
theorem dX8_knot_2 : decode cX8_knot 2 = .ok (.iload_n 2, 1) := by decide +kernel
theorem dX8_knot_3 : decode cX8_knot 3 = .ok (.invokevirtual 83, 3) := by decide +kernel
theorem dX8_knot_6 : decode cX8_knot 6 = .ok (.ifCond .ne 7, 3) := by decide +kernel
theorem dX8_knot_9 : decode cX8_knot 9 = .ok (.iconst 1, 1) := by decide +kernel
theorem dX8_knot_10 : decode cX8_knot 10 = .ok (.goto 52, 3) := by decide +kernel
theorem dX8_knot_13 : decode cX8_knot 13 = .ok (.aload_n 0, 1) := by decide +kernel
theorem dX8_knot_14 : decode cX8_knot 14 = .ok (.iload_n 2, 1) := by decide +kernel
theorem dX8_knot_15 : decode cX8_knot 15 = .ok (.invokevirtual 87, 3) := by decide +kernel
theorem dX8_knot_18 : decode cX8_knot 18 = .ok (.ifCond .eq 7, 3) := by decide +kernel
theorem dX8_knot_21 : decode cX8_knot 21 = .ok (.iconst 2, 1) := by decide +kernel
theorem dX8_knot_22 : decode cX8_knot 22 = .ok (.goto 40, 3) := by decide +kernel
theorem dX8_knot_25 : decode cX8_knot 25 = .ok (.iload_n 1, 1) := by decide +kernel
theorem dX8_knot_26 : decode cX8_knot 26 = .ok (.ifCond .lt 8, 3) := by decide +kernel
theorem dX8_knot_29 : decode cX8_knot 29 = .ok (.iload_n 1, 1) := by decide +kernel
theorem dX8_knot_30 : decode cX8_knot 30 = .ok (.iconst 3, 1) := by decide +kernel
theorem dX8_knot_31 : decode cX8_knot 31 = .ok (.if_icmp .le 7, 3) := by decide +kernel
theorem dX8_knot_34 : decode cX8_knot 34 = .ok (.iconst 3, 1) := by decide +kernel
theorem dX8_knot_35 : decode cX8_knot 35 = .ok (.goto 27, 3) := by decide +kernel
theorem dX8_knot_38 : decode cX8_knot 38 = .ok (.aload_n 0, 1) := by decide +kernel
theorem dX8_knot_39 : decode cX8_knot 39 = .ok (.getfield 76, 3) := by decide +kernel
theorem dX8_knot_42 : decode cX8_knot 42 = .ok (.bipush 48, 2) := by decide +kernel
theorem dX8_knot_44 : decode cX8_knot 44 = .ok (.if_icmp .eq 13, 3) := by decide +kernel
theorem dX8_knot_47 : decode cX8_knot 47 = .ok (.aload_n 0, 1) := by decide +kernel
theorem dX8_knot_48 : decode cX8_knot 48 = .ok (.getfield 25, 3) := by decide +kernel
theorem dX8_knot_51 : decode cX8_knot 51 = .ok (.iload_n 2, 1) := by decide +kernel
theorem dX8_knot_52 : decode cX8_knot 52 = .ok (.iaload, 1) := by decide +kernel
theorem dX8_knot_53 : decode cX8_knot 53 = .ok (.iconst 3, 1) := by decide +kernel
theorem dX8_knot_54 : decode cX8_knot 54 = .ok (.if_icmp .ne 7, 3) := by decide +kernel
theorem dX8_knot_57 : decode cX8_knot 57 = .ok (.iconst 4, 1) := by decide +kernel
theorem dX8_knot_58 : decode cX8_knot 58 = .ok (.goto 4, 3) := by decide +kernel
theorem dX8_knot_61 : decode cX8_knot 61 = .ok (.iconst 0, 1) := by decide +kernel
theorem dX8_knot_62 : decode cX8_knot 62 = .ok (.putfield 73, 3) := by decide +kernel
theorem dX8_knot_65 : decode cX8_knot 65 = .ok (.aload_n 0, 1) := by decide +kernel
theorem dX8_knot_66 : decode cX8_knot 66 = .ok (.getfield 73, 3) := by decide +kernel
theorem dX8_knot_69 : decode cX8_knot 69 = .ok (.ifCond .le 7, 3) := by decide +kernel
theorem dX8_knot_72 : decode cX8_knot 72 = .ok (.iconst 0, 1) := by decide +kernel
theorem dX8_knot_73 : decode cX8_knot 73 = .ok (.goto 12, 3) := by decide +kernel
theorem dX8_knot_76 : decode cX8_knot 76 = .ok (.aload_n 0, 1) := by decide +kernel
theorem dX8_knot_77 : decode cX8_knot 77 = .ok (.bipush 6, 2) := by decide +kernel
theorem dX8_knot_79 : decode cX8_knot 79 = .ok (.iload_n 1, 1) := by decide +kernel
theorem dX8_knot_80 : decode cX8_knot 80 = .ok (.iload_n 2, 1) := by decide +kernel
theorem dX8_knot_81 : decode cX8_knot 81 = .ok (.iconst (-1), 1) := by decide +kernel
theorem dX8_knot_82 : decode cX8_knot 82 = .ok (.invokevirtual 79, 3) := by decide +kernel
theorem dX8_knot_85 : decode cX8_knot 85 = .ok (.ireturn, 1) := by decide +kernel
theorem dX8_clear_0 : decode cX8_clear 0 = .ok (.aload_n 0, 1) := by decide +kernel
theorem dX8_clear_1 : decode cX8_clear 1 = .ok (.iconst 0, 1) := by decide +kernel
theorem dX8_clear_2 : decode cX8_clear 2 = .ok (.putfield 73, 3) := by decide +kernel
theorem dX8_clear_5 : decode cX8_clear 5 = .ok (.aload_n 0, 1) := by decide +kernel
theorem dX8_clear_6 : decode cX8_clear 6 = .ok (.iconst 0, 1) := by decide +kernel
theorem dX8_clear_7 : decode cX8_clear 7 = .ok (.putfield 76, 3) := by decide +kernel
theorem dX8_clear_10 : decode cX8_clear 10 = .ok (.return_, 1) := by decide +kernel
theorem dX8_terms_0 : decode cX8_terms 0 = .ok (.aload_n 0, 1) := by decide +kernel
theorem dX8_terms_1 : decode cX8_terms 1 = .ok (.iconst 0, 1) := by decide +kernel
theorem dX8_terms_2 : decode cX8_terms 2 = .ok (.putfield 73, 3) := by decide +kernel
theorem dX8_terms_5 : decode cX8_terms 5 = .ok (.aload_n 0, 1) := by decide +kernel
theorem dX8_terms_6 : decode cX8_terms 6 = .ok (.getfield 76, 3) := by decide +kernel
theorem dX8_terms_9 : decode cX8_terms 9 = .ok (.ireturn, 1) := by decide +kernel
theorem dX8_gather_0 : decode cX8_gather 0 = .ok (.iconst 0, 1) := by decide +kernel
theorem dX8_gather_1 : decode cX8_gather 1 = .ok (.istore_n 2, 1) := by decide +kernel
theorem dX8_gather_2 : decode cX8_gather 2 = .ok (.iload_n 2, 1) := by decide +kernel
theorem dX8_gather_3 : decode cX8_gather 3 = .ok (.aload_n 0, 1) := by decide +kernel
theorem dX8_gather_4 : decode cX8_gather 4 = .ok (.getfield 76, 3) := by decide +kernel
theorem dX8_gather_7 : decode cX8_gather 7 = .ok (.if_icmp .ge 131, 3) := by decide +kernel
theorem dX8_gather_10 : decode cX8_gather 10 = .ok (.iload_n 2, 1) := by decide +kernel
theorem dX8_gather_11 : decode cX8_gather 11 = .ok (.istore_n 3, 1) := by decide +kernel
theorem dX8_gather_12 : decode cX8_gather 12 = .ok (.aload_n 0, 1) := by decide +kernel
theorem dX8_gather_13 : decode cX8_gather 13 = .ok (.getfield 41, 3) := by decide +kernel
theorem dX8_gather_16 : decode cX8_gather 16 = .ok (.iload_n 2, 1) := by decide +kernel
theorem dX8_gather_17 : decode cX8_gather 17 = .ok (.iconst (-1), 1) := by decide +kernel
theorem dX8_gather_18 : decode cX8_gather 18 = .ok (.iastore, 1) := by decide +kernel
theorem dX8_gather_19 : decode cX8_gather 19 = .ok (.iload_n 3, 1) := by decide +kernel
theorem dX8_gather_20 : decode cX8_gather 20 = .ok (.iload_n 1, 1) := by decide +kernel
theorem dX8_gather_21 : decode cX8_gather 21 = .ok (.if_icmp .eq 74, 3) := by decide +kernel
theorem dX8_gather_24 : decode cX8_gather 24 = .ok (.aload_n 0, 1) := by decide +kernel
theorem dX8_gather_25 : decode cX8_gather 25 = .ok (.getfield 22, 3) := by decide +kernel
theorem dX8_gather_28 : decode cX8_gather 28 = .ok (.iload_n 3, 1) := by decide +kernel
theorem dX8_gather_29 : decode cX8_gather 29 = .ok (.iaload, 1) := by decide +kernel
theorem dX8_gather_30 : decode cX8_gather 30 = .ok (.ifCond .lt 65, 3) := by decide +kernel
theorem dX8_gather_33 : decode cX8_gather 33 = .ok (.aload_n 0, 1) := by decide +kernel
theorem dX8_gather_34 : decode cX8_gather 34 = .ok (.getfield 22, 3) := by decide +kernel
theorem dX8_gather_37 : decode cX8_gather 37 = .ok (.iload_n 3, 1) := by decide +kernel
theorem dX8_gather_38 : decode cX8_gather 38 = .ok (.iaload, 1) := by decide +kernel
theorem dX8_gather_39 : decode cX8_gather 39 = .ok (.istore_n 3, 1) := by decide +kernel
theorem dX8_gather_40 : decode cX8_gather 40 = .ok (.aload_n 0, 1) := by decide +kernel
theorem dX8_gather_41 : decode cX8_gather 41 = .ok (.getfield 7, 3) := by decide +kernel
theorem dX8_gather_44 : decode cX8_gather 44 = .ok (.iload_n 2, 1) := by decide +kernel
theorem dX8_gather_45 : decode cX8_gather 45 = .ok (.iaload, 1) := by decide +kernel
theorem dX8_gather_46 : decode cX8_gather 46 = .ok (.iconst 5, 1) := by decide +kernel
theorem dX8_gather_47 : decode cX8_gather 47 = .ok (.if_icmp .ne (-28), 3) := by decide +kernel
theorem dX8_gather_50 : decode cX8_gather 50 = .ok (.aload_n 0, 1) := by decide +kernel
theorem dX8_gather_51 : decode cX8_gather 51 = .ok (.getfield 41, 3) := by decide +kernel
theorem dX8_gather_54 : decode cX8_gather 54 = .ok (.iload_n 2, 1) := by decide +kernel
theorem dX8_gather_55 : decode cX8_gather 55 = .ok (.iaload, 1) := by decide +kernel
theorem dX8_gather_56 : decode cX8_gather 56 = .ok (.ifCond .ge (-37), 3) := by decide +kernel
theorem dX8_gather_59 : decode cX8_gather 59 = .ok (.aload_n 0, 1) := by decide +kernel
theorem dX8_gather_60 : decode cX8_gather 60 = .ok (.getfield 7, 3) := by decide +kernel
theorem dX8_gather_63 : decode cX8_gather 63 = .ok (.iload_n 3, 1) := by decide +kernel
theorem dX8_gather_64 : decode cX8_gather 64 = .ok (.iaload, 1) := by decide +kernel
theorem dX8_gather_65 : decode cX8_gather 65 = .ok (.bipush 6, 2) := by decide +kernel
theorem dX8_gather_67 : decode cX8_gather 67 = .ok (.if_icmp .ne (-48), 3) := by decide +kernel
theorem dX8_gather_70 : decode cX8_gather 70 = .ok (.aload_n 0, 1) := by decide +kernel
theorem dX8_gather_71 : decode cX8_gather 71 = .ok (.getfield 13, 3) := by decide +kernel
theorem dX8_gather_74 : decode cX8_gather 74 = .ok (.iload_n 3, 1) := by decide +kernel
theorem dX8_gather_75 : decode cX8_gather 75 = .ok (.iaload, 1) := by decide +kernel
theorem dX8_gather_76 : decode cX8_gather 76 = .ok (.aload_n 0, 1) := by decide +kernel
theorem dX8_gather_77 : decode cX8_gather 77 = .ok (.getfield 13, 3) := by decide +kernel
theorem dX8_gather_80 : decode cX8_gather 80 = .ok (.iload_n 2, 1) := by decide +kernel
theorem dX8_gather_81 : decode cX8_gather 81 = .ok (.iaload, 1) := by decide +kernel
theorem dX8_gather_82 : decode cX8_gather 82 = .ok (.if_icmp .ne (-63), 3) := by decide +kernel
theorem dX8_gather_85 : decode cX8_gather 85 = .ok (.aload_n 0, 1) := by decide +kernel
theorem dX8_gather_86 : decode cX8_gather 86 = .ok (.getfield 41, 3) := by decide +kernel
theorem dX8_gather_89 : decode cX8_gather 89 = .ok (.iload_n 2, 1) := by decide +kernel
theorem dX8_gather_90 : decode cX8_gather 90 = .ok (.iload_n 3, 1) := by decide +kernel
theorem dX8_gather_91 : decode cX8_gather 91 = .ok (.iastore, 1) := by decide +kernel
theorem dX8_gather_92 : decode cX8_gather 92 = .ok (.goto (-73), 3) := by decide +kernel
theorem dX8_gather_95 : decode cX8_gather 95 = .ok (.aload_n 0, 1) := by decide +kernel
theorem dX8_gather_96 : decode cX8_gather 96 = .ok (.getfield 38, 3) := by decide +kernel
theorem dX8_gather_99 : decode cX8_gather 99 = .ok (.iload_n 2, 1) := by decide +kernel
theorem dX8_gather_100 : decode cX8_gather 100 = .ok (.iload_n 3, 1) := by decide +kernel
theorem dX8_gather_101 : decode cX8_gather 101 = .ok (.iload_n 1, 1) := by decide +kernel
theorem dX8_gather_102 : decode cX8_gather 102 = .ok (.if_icmp .ne 7, 3) := by decide +kernel
theorem dX8_gather_105 : decode cX8_gather 105 = .ok (.iconst 1, 1) := by decide +kernel
theorem dX8_gather_106 : decode cX8_gather 106 = .ok (.goto 4, 3) := by decide +kernel
theorem dX8_gather_109 : decode cX8_gather 109 = .ok (.iconst 0, 1) := by decide +kernel
theorem dX8_gather_110 : decode cX8_gather 110 = .ok (.bastore, 1) := by decide +kernel
theorem dX8_gather_111 : decode cX8_gather 111 = .ok (.aload_n 0, 1) := by decide +kernel
theorem dX8_gather_112 : decode cX8_gather 112 = .ok (.getfield 28, 3) := by decide +kernel
theorem dX8_gather_115 : decode cX8_gather 115 = .ok (.iload_n 2, 1) := by decide +kernel
theorem dX8_gather_116 : decode cX8_gather 116 = .ok (.iconst 0, 1) := by decide +kernel
theorem dX8_gather_117 : decode cX8_gather 117 = .ok (.bastore, 1) := by decide +kernel
theorem dX8_gather_118 : decode cX8_gather 118 = .ok (.aload_n 0, 1) := by decide +kernel
theorem dX8_gather_119 : decode cX8_gather 119 = .ok (.getfield 32, 3) := by decide +kernel
theorem dX8_gather_122 : decode cX8_gather 122 = .ok (.iload_n 2, 1) := by decide +kernel
theorem dX8_gather_123 : decode cX8_gather 123 = .ok (.iconst 0, 1) := by decide +kernel
theorem dX8_gather_124 : decode cX8_gather 124 = .ok (.iastore, 1) := by decide +kernel
theorem dX8_gather_125 : decode cX8_gather 125 = .ok (.aload_n 0, 1) := by decide +kernel
theorem dX8_gather_126 : decode cX8_gather 126 = .ok (.getfield 35, 3) := by decide +kernel
theorem dX8_gather_129 : decode cX8_gather 129 = .ok (.iload_n 2, 1) := by decide +kernel
theorem dX8_gather_130 : decode cX8_gather 130 = .ok (.iconst 0, 1) := by decide +kernel
theorem dX8_gather_131 : decode cX8_gather 131 = .ok (.iastore, 1) := by decide +kernel
theorem dX8_gather_132 : decode cX8_gather 132 = .ok (.iinc 2 1, 3) := by decide +kernel
theorem dX8_gather_135 : decode cX8_gather 135 = .ok (.goto (-133), 3) := by decide +kernel
theorem dX8_gather_138 : decode cX8_gather 138 = .ok (.return_, 1) := by decide +kernel
theorem dX8_grow_0 : decode cX8_grow 0 = .ok (.aload_n 0, 1) := by decide +kernel
theorem dX8_grow_1 : decode cX8_grow 1 = .ok (.getfield 7, 3) := by decide +kernel
theorem dX8_grow_4 : decode cX8_grow 4 = .ok (.iload_n 1, 1) := by decide +kernel
theorem dX8_grow_5 : decode cX8_grow 5 = .ok (.iaload, 1) := by decide +kernel
theorem dX8_grow_6 : decode cX8_grow 6 = .ok (.ifCond .ne 7, 3) := by decide +kernel
theorem dX8_grow_9 : decode cX8_grow 9 = .ok (.iconst 1, 1) := by decide +kernel
theorem dX8_grow_10 : decode cX8_grow 10 = .ok (.goto 4, 3) := by decide +kernel
theorem dX8_grow_13 : decode cX8_grow 13 = .ok (.iconst 0, 1) := by decide +kernel
theorem dX8_grow_14 : decode cX8_grow 14 = .ok (.istore_n 2, 1) := by decide +kernel
theorem dX8_grow_15 : decode cX8_grow 15 = .ok (.aload_n 0, 1) := by decide +kernel
theorem dX8_grow_16 : decode cX8_grow 16 = .ok (.getfield 7, 3) := by decide +kernel
theorem dX8_grow_19 : decode cX8_grow 19 = .ok (.iload_n 1, 1) := by decide +kernel
theorem dX8_grow_20 : decode cX8_grow 20 = .ok (.iaload, 1) := by decide +kernel
theorem dX8_grow_21 : decode cX8_grow 21 = .ok (.iconst 2, 1) := by decide +kernel
theorem dX8_grow_22 : decode cX8_grow 22 = .ok (.if_icmp .ne 14, 3) := by decide +kernel
theorem dX8_grow_25 : decode cX8_grow 25 = .ok (.iconst 1, 1) := by decide +kernel
theorem dX8_grow_26 : decode cX8_grow 26 = .ok (.aload_n 0, 1) := by decide +kernel
theorem dX8_grow_27 : decode cX8_grow 27 = .ok (.getfield 13, 3) := by decide +kernel
theorem dX8_grow_30 : decode cX8_grow 30 = .ok (.iload_n 1, 1) := by decide +kernel
theorem dX8_grow_31 : decode cX8_grow 31 = .ok (.iaload, 1) := by decide +kernel
theorem dX8_grow_32 : decode cX8_grow 32 = .ok (.ishl, 1) := by decide +kernel
theorem dX8_grow_33 : decode cX8_grow 33 = .ok (.goto 4, 3) := by decide +kernel
theorem dX8_grow_36 : decode cX8_grow 36 = .ok (.iconst 0, 1) := by decide +kernel
theorem dX8_grow_37 : decode cX8_grow 37 = .ok (.istore_n 3, 1) := by decide +kernel
theorem dX8_grow_38 : decode cX8_grow 38 = .ok (.iconst 0, 1) := by decide +kernel
theorem dX8_grow_39 : decode cX8_grow 39 = .ok (.istore 4, 2) := by decide +kernel
theorem dX8_grow_41 : decode cX8_grow 41 = .ok (.aload_n 0, 1) := by decide +kernel
theorem dX8_grow_42 : decode cX8_grow 42 = .ok (.getfield 16, 3) := by decide +kernel
theorem dX8_grow_45 : decode cX8_grow 45 = .ok (.iload_n 1, 1) := by decide +kernel
theorem dX8_grow_46 : decode cX8_grow 46 = .ok (.iaload, 1) := by decide +kernel
theorem dX8_grow_47 : decode cX8_grow 47 = .ok (.istore 5, 2) := by decide +kernel
theorem dX8_grow_49 : decode cX8_grow 49 = .ok (.aload_n 0, 1) := by decide +kernel
theorem dX8_grow_50 : decode cX8_grow 50 = .ok (.getfield 19, 3) := by decide +kernel
theorem dX8_grow_53 : decode cX8_grow 53 = .ok (.iload_n 1, 1) := by decide +kernel
theorem dX8_grow_54 : decode cX8_grow 54 = .ok (.iaload, 1) := by decide +kernel
theorem dX8_grow_55 : decode cX8_grow 55 = .ok (.istore 6, 2) := by decide +kernel
theorem dX8_grow_57 : decode cX8_grow 57 = .ok (.aload_n 0, 1) := by decide +kernel
theorem dX8_grow_58 : decode cX8_grow 58 = .ok (.getfield 7, 3) := by decide +kernel
theorem dX8_grow_61 : decode cX8_grow 61 = .ok (.iload_n 1, 1) := by decide +kernel
theorem dX8_grow_62 : decode cX8_grow 62 = .ok (.iaload, 1) := by decide +kernel
theorem dX8_grow_63 : decode cX8_grow 63 = .ok (.iconst 3, 1) := by decide +kernel
theorem dX8_grow_64 : decode cX8_grow 64 = .ok (.if_icmp .ne 101, 3) := by decide +kernel
theorem dX8_grow_67 : decode cX8_grow 67 = .ok (.aload_n 0, 1) := by decide +kernel
theorem dX8_grow_68 : decode cX8_grow 68 = .ok (.getfield 28, 3) := by decide +kernel
theorem dX8_grow_71 : decode cX8_grow 71 = .ok (.iload 5, 2) := by decide +kernel
theorem dX8_grow_73 : decode cX8_grow 73 = .ok (.baload, 1) := by decide +kernel
theorem dX8_grow_74 : decode cX8_grow 74 = .ok (.ifCond .eq 17, 3) := by decide +kernel
theorem dX8_grow_77 : decode cX8_grow 77 = .ok (.aload_n 0, 1) := by decide +kernel
theorem dX8_grow_78 : decode cX8_grow 78 = .ok (.getfield 28, 3) := by decide +kernel
theorem dX8_grow_81 : decode cX8_grow 81 = .ok (.iload 6, 2) := by decide +kernel
theorem dX8_grow_83 : decode cX8_grow 83 = .ok (.baload, 1) := by decide +kernel
theorem dX8_grow_84 : decode cX8_grow 84 = .ok (.ifCond .eq 7, 3) := by decide +kernel
theorem dX8_grow_87 : decode cX8_grow 87 = .ok (.iconst 1, 1) := by decide +kernel
theorem dX8_grow_88 : decode cX8_grow 88 = .ok (.goto 4, 3) := by decide +kernel
theorem dX8_grow_91 : decode cX8_grow 91 = .ok (.iconst 0, 1) := by decide +kernel
theorem dX8_grow_92 : decode cX8_grow 92 = .ok (.istore_n 2, 1) := by decide +kernel
theorem dX8_grow_93 : decode cX8_grow 93 = .ok (.aload_n 0, 1) := by decide +kernel
theorem dX8_grow_94 : decode cX8_grow 94 = .ok (.getfield 32, 3) := by decide +kernel
theorem dX8_grow_97 : decode cX8_grow 97 = .ok (.iload 5, 2) := by decide +kernel
theorem dX8_grow_99 : decode cX8_grow 99 = .ok (.iaload, 1) := by decide +kernel
theorem dX8_grow_100 : decode cX8_grow 100 = .ok (.aload_n 0, 1) := by decide +kernel
theorem dX8_grow_101 : decode cX8_grow 101 = .ok (.getfield 28, 3) := by decide +kernel
theorem dX8_grow_104 : decode cX8_grow 104 = .ok (.iload 5, 2) := by decide +kernel
theorem dX8_grow_106 : decode cX8_grow 106 = .ok (.baload, 1) := by decide +kernel
theorem dX8_grow_107 : decode cX8_grow 107 = .ok (.ifCond .eq 13, 3) := by decide +kernel
theorem dX8_grow_110 : decode cX8_grow 110 = .ok (.aload_n 0, 1) := by decide +kernel
theorem dX8_grow_111 : decode cX8_grow 111 = .ok (.getfield 32, 3) := by decide +kernel
theorem dX8_grow_114 : decode cX8_grow 114 = .ok (.iload 6, 2) := by decide +kernel
theorem dX8_grow_116 : decode cX8_grow 116 = .ok (.iaload, 1) := by decide +kernel
theorem dX8_grow_117 : decode cX8_grow 117 = .ok (.goto 4, 3) := by decide +kernel
theorem dX8_grow_120 : decode cX8_grow 120 = .ok (.iconst 0, 1) := by decide +kernel
theorem dX8_grow_121 : decode cX8_grow 121 = .ok (.ior, 1) := by decide +kernel
theorem dX8_grow_122 : decode cX8_grow 122 = .ok (.istore_n 3, 1) := by decide +kernel
theorem dX8_grow_123 : decode cX8_grow 123 = .ok (.aload_n 0, 1) := by decide +kernel
theorem dX8_grow_124 : decode cX8_grow 124 = .ok (.getfield 35, 3) := by decide +kernel
theorem dX8_grow_127 : decode cX8_grow 127 = .ok (.iload 6, 2) := by decide +kernel
theorem dX8_grow_129 : decode cX8_grow 129 = .ok (.iaload, 1) := by decide +kernel
theorem dX8_grow_130 : decode cX8_grow 130 = .ok (.aload_n 0, 1) := by decide +kernel
theorem dX8_grow_131 : decode cX8_grow 131 = .ok (.getfield 28, 3) := by decide +kernel
theorem dX8_grow_134 : decode cX8_grow 134 = .ok (.iload 6, 2) := by decide +kernel
theorem dX8_grow_136 : decode cX8_grow 136 = .ok (.baload, 1) := by decide +kernel
theorem dX8_grow_137 : decode cX8_grow 137 = .ok (.ifCond .eq 21, 3) := by decide +kernel
theorem dX8_grow_140 : decode cX8_grow 140 = .ok (.aload_n 0, 1) := by decide +kernel
theorem dX8_grow_141 : decode cX8_grow 141 = .ok (.getfield 32, 3) := by decide +kernel
theorem dX8_grow_144 : decode cX8_grow 144 = .ok (.iload 6, 2) := by decide +kernel
theorem dX8_grow_146 : decode cX8_grow 146 = .ok (.iaload, 1) := by decide +kernel
theorem dX8_grow_147 : decode cX8_grow 147 = .ok (.aload_n 0, 1) := by decide +kernel
theorem dX8_grow_148 : decode cX8_grow 148 = .ok (.getfield 35, 3) := by decide +kernel
theorem dX8_grow_151 : decode cX8_grow 151 = .ok (.iload 5, 2) := by decide +kernel
theorem dX8_grow_153 : decode cX8_grow 153 = .ok (.iaload, 1) := by decide +kernel
theorem dX8_grow_154 : decode cX8_grow 154 = .ok (.ior, 1) := by decide +kernel
theorem dX8_grow_155 : decode cX8_grow 155 = .ok (.goto 4, 3) := by decide +kernel
theorem dX8_grow_158 : decode cX8_grow 158 = .ok (.iconst 0, 1) := by decide +kernel
theorem dX8_grow_159 : decode cX8_grow 159 = .ok (.ior, 1) := by decide +kernel
theorem dX8_grow_160 : decode cX8_grow 160 = .ok (.istore 4, 2) := by decide +kernel
theorem dX8_grow_162 : decode cX8_grow 162 = .ok (.goto 154, 3) := by decide +kernel
theorem dX8_grow_165 : decode cX8_grow 165 = .ok (.aload_n 0, 1) := by decide +kernel
theorem dX8_grow_166 : decode cX8_grow 166 = .ok (.getfield 7, 3) := by decide +kernel
theorem dX8_grow_169 : decode cX8_grow 169 = .ok (.iload_n 1, 1) := by decide +kernel
theorem dX8_grow_170 : decode cX8_grow 170 = .ok (.iaload, 1) := by decide +kernel
theorem dX8_grow_171 : decode cX8_grow 171 = .ok (.iconst 4, 1) := by decide +kernel
theorem dX8_grow_172 : decode cX8_grow 172 = .ok (.if_icmp .ne 65, 3) := by decide +kernel
theorem dX8_grow_175 : decode cX8_grow 175 = .ok (.aload_n 0, 1) := by decide +kernel
theorem dX8_grow_176 : decode cX8_grow 176 = .ok (.getfield 28, 3) := by decide +kernel
theorem dX8_grow_179 : decode cX8_grow 179 = .ok (.iload 5, 2) := by decide +kernel
theorem dX8_grow_181 : decode cX8_grow 181 = .ok (.baload, 1) := by decide +kernel
theorem dX8_grow_182 : decode cX8_grow 182 = .ok (.ifCond .ne 13, 3) := by decide +kernel
theorem dX8_grow_185 : decode cX8_grow 185 = .ok (.aload_n 0, 1) := by decide +kernel
theorem dX8_grow_186 : decode cX8_grow 186 = .ok (.getfield 28, 3) := by decide +kernel
theorem dX8_grow_189 : decode cX8_grow 189 = .ok (.iload 6, 2) := by decide +kernel
theorem dX8_grow_191 : decode cX8_grow 191 = .ok (.baload, 1) := by decide +kernel
theorem dX8_grow_192 : decode cX8_grow 192 = .ok (.ifCond .eq 7, 3) := by decide +kernel
theorem dX8_grow_195 : decode cX8_grow 195 = .ok (.iconst 1, 1) := by decide +kernel
theorem dX8_grow_196 : decode cX8_grow 196 = .ok (.goto 4, 3) := by decide +kernel
theorem dX8_grow_199 : decode cX8_grow 199 = .ok (.iconst 0, 1) := by decide +kernel
theorem dX8_grow_200 : decode cX8_grow 200 = .ok (.istore_n 2, 1) := by decide +kernel
theorem dX8_grow_201 : decode cX8_grow 201 = .ok (.aload_n 0, 1) := by decide +kernel
theorem dX8_grow_202 : decode cX8_grow 202 = .ok (.getfield 32, 3) := by decide +kernel
theorem dX8_grow_205 : decode cX8_grow 205 = .ok (.iload 5, 2) := by decide +kernel
theorem dX8_grow_207 : decode cX8_grow 207 = .ok (.iaload, 1) := by decide +kernel
theorem dX8_grow_208 : decode cX8_grow 208 = .ok (.aload_n 0, 1) := by decide +kernel
theorem dX8_grow_209 : decode cX8_grow 209 = .ok (.getfield 32, 3) := by decide +kernel
theorem dX8_grow_212 : decode cX8_grow 212 = .ok (.iload 6, 2) := by decide +kernel
theorem dX8_grow_214 : decode cX8_grow 214 = .ok (.iaload, 1) := by decide +kernel
theorem dX8_grow_215 : decode cX8_grow 215 = .ok (.ior, 1) := by decide +kernel
theorem dX8_grow_216 : decode cX8_grow 216 = .ok (.istore_n 3, 1) := by decide +kernel
theorem dX8_grow_217 : decode cX8_grow 217 = .ok (.aload_n 0, 1) := by decide +kernel
theorem dX8_grow_218 : decode cX8_grow 218 = .ok (.getfield 35, 3) := by decide +kernel
theorem dX8_grow_221 : decode cX8_grow 221 = .ok (.iload 5, 2) := by decide +kernel
theorem dX8_grow_223 : decode cX8_grow 223 = .ok (.iaload, 1) := by decide +kernel
theorem dX8_grow_224 : decode cX8_grow 224 = .ok (.aload_n 0, 1) := by decide +kernel
theorem dX8_grow_225 : decode cX8_grow 225 = .ok (.getfield 35, 3) := by decide +kernel
theorem dX8_grow_228 : decode cX8_grow 228 = .ok (.iload 6, 2) := by decide +kernel
theorem dX8_grow_230 : decode cX8_grow 230 = .ok (.iaload, 1) := by decide +kernel
theorem dX8_grow_231 : decode cX8_grow 231 = .ok (.ior, 1) := by decide +kernel
theorem dX8_grow_232 : decode cX8_grow 232 = .ok (.istore 4, 2) := by decide +kernel
theorem dX8_grow_234 : decode cX8_grow 234 = .ok (.goto 82, 3) := by decide +kernel
theorem dX8_grow_237 : decode cX8_grow 237 = .ok (.aload_n 0, 1) := by decide +kernel
theorem dX8_grow_238 : decode cX8_grow 238 = .ok (.getfield 7, 3) := by decide +kernel
theorem dX8_grow_241 : decode cX8_grow 241 = .ok (.iload_n 1, 1) := by decide +kernel
theorem dX8_grow_242 : decode cX8_grow 242 = .ok (.iaload, 1) := by decide +kernel
theorem dX8_grow_243 : decode cX8_grow 243 = .ok (.bipush 6, 2) := by decide +kernel
theorem dX8_grow_245 : decode cX8_grow 245 = .ok (.if_icmp .eq 22, 3) := by decide +kernel
theorem dX8_grow_248 : decode cX8_grow 248 = .ok (.aload_n 0, 1) := by decide +kernel
theorem dX8_grow_249 : decode cX8_grow 249 = .ok (.getfield 7, 3) := by decide +kernel
theorem dX8_grow_252 : decode cX8_grow 252 = .ok (.iload_n 1, 1) := by decide +kernel
theorem dX8_grow_253 : decode cX8_grow 253 = .ok (.iaload, 1) := by decide +kernel
theorem dX8_grow_254 : decode cX8_grow 254 = .ok (.iconst 5, 1) := by decide +kernel
theorem dX8_grow_255 : decode cX8_grow 255 = .ok (.if_icmp .ne 61, 3) := by decide +kernel
theorem dX8_grow_258 : decode cX8_grow 258 = .ok (.aload_n 0, 1) := by decide +kernel
theorem dX8_grow_259 : decode cX8_grow 259 = .ok (.getfield 41, 3) := by decide +kernel
theorem dX8_grow_262 : decode cX8_grow 262 = .ok (.iload_n 1, 1) := by decide +kernel
theorem dX8_grow_263 : decode cX8_grow 263 = .ok (.iaload, 1) := by decide +kernel
theorem dX8_grow_264 : decode cX8_grow 264 = .ok (.ifCond .lt 52, 3) := by decide +kernel
theorem dX8_grow_267 : decode cX8_grow 267 = .ok (.aload_n 0, 1) := by decide +kernel
theorem dX8_grow_268 : decode cX8_grow 268 = .ok (.getfield 7, 3) := by decide +kernel
theorem dX8_grow_271 : decode cX8_grow 271 = .ok (.iload_n 1, 1) := by decide +kernel
theorem dX8_grow_272 : decode cX8_grow 272 = .ok (.iaload, 1) := by decide +kernel
theorem dX8_grow_273 : decode cX8_grow 273 = .ok (.bipush 6, 2) := by decide +kernel
theorem dX8_grow_275 : decode cX8_grow 275 = .ok (.if_icmp .ne 8, 3) := by decide +kernel
theorem dX8_grow_278 : decode cX8_grow 278 = .ok (.iload 5, 2) := by decide +kernel
theorem dX8_grow_280 : decode cX8_grow 280 = .ok (.goto 9, 3) := by decide +kernel
theorem dX8_grow_283 : decode cX8_grow 283 = .ok (.aload_n 0, 1) := by decide +kernel
theorem dX8_grow_284 : decode cX8_grow 284 = .ok (.getfield 41, 3) := by decide +kernel
theorem dX8_grow_287 : decode cX8_grow 287 = .ok (.iload_n 1, 1) := by decide +kernel
theorem dX8_grow_288 : decode cX8_grow 288 = .ok (.iaload, 1) := by decide +kernel
theorem dX8_grow_289 : decode cX8_grow 289 = .ok (.istore 7, 2) := by decide +kernel
theorem dX8_grow_291 : decode cX8_grow 291 = .ok (.aload_n 0, 1) := by decide +kernel
theorem dX8_grow_292 : decode cX8_grow 292 = .ok (.getfield 28, 3) := by decide +kernel
theorem dX8_grow_295 : decode cX8_grow 295 = .ok (.iload 7, 2) := by decide +kernel
theorem dX8_grow_297 : decode cX8_grow 297 = .ok (.baload, 1) := by decide +kernel
theorem dX8_grow_298 : decode cX8_grow 298 = .ok (.istore_n 2, 1) := by decide +kernel
theorem dX8_grow_299 : decode cX8_grow 299 = .ok (.aload_n 0, 1) := by decide +kernel
theorem dX8_grow_300 : decode cX8_grow 300 = .ok (.getfield 32, 3) := by decide +kernel
theorem dX8_grow_303 : decode cX8_grow 303 = .ok (.iload 7, 2) := by decide +kernel
theorem dX8_grow_305 : decode cX8_grow 305 = .ok (.iaload, 1) := by decide +kernel
theorem dX8_grow_306 : decode cX8_grow 306 = .ok (.istore_n 3, 1) := by decide +kernel
theorem dX8_grow_307 : decode cX8_grow 307 = .ok (.aload_n 0, 1) := by decide +kernel
theorem dX8_grow_308 : decode cX8_grow 308 = .ok (.getfield 35, 3) := by decide +kernel
theorem dX8_grow_311 : decode cX8_grow 311 = .ok (.iload 7, 2) := by decide +kernel
theorem dX8_grow_313 : decode cX8_grow 313 = .ok (.iaload, 1) := by decide +kernel
theorem dX8_grow_314 : decode cX8_grow 314 = .ok (.istore 4, 2) := by decide +kernel
theorem dX8_grow_316 : decode cX8_grow 316 = .ok (.iload_n 2, 1) := by decide +kernel
theorem dX8_grow_317 : decode cX8_grow 317 = .ok (.aload_n 0, 1) := by decide +kernel
theorem dX8_grow_318 : decode cX8_grow 318 = .ok (.getfield 28, 3) := by decide +kernel
theorem dX8_grow_321 : decode cX8_grow 321 = .ok (.iload_n 1, 1) := by decide +kernel
theorem dX8_grow_322 : decode cX8_grow 322 = .ok (.baload, 1) := by decide +kernel
theorem dX8_grow_323 : decode cX8_grow 323 = .ok (.if_icmp .ne 24, 3) := by decide +kernel
theorem dX8_grow_326 : decode cX8_grow 326 = .ok (.iload_n 3, 1) := by decide +kernel
theorem dX8_grow_327 : decode cX8_grow 327 = .ok (.aload_n 0, 1) := by decide +kernel
theorem dX8_grow_328 : decode cX8_grow 328 = .ok (.getfield 32, 3) := by decide +kernel
theorem dX8_grow_331 : decode cX8_grow 331 = .ok (.iload_n 1, 1) := by decide +kernel
theorem dX8_grow_332 : decode cX8_grow 332 = .ok (.iaload, 1) := by decide +kernel
theorem dX8_grow_333 : decode cX8_grow 333 = .ok (.if_icmp .ne 14, 3) := by decide +kernel
theorem dX8_grow_336 : decode cX8_grow 336 = .ok (.iload 4, 2) := by decide +kernel
theorem dX8_grow_338 : decode cX8_grow 338 = .ok (.aload_n 0, 1) := by decide +kernel
theorem dX8_grow_339 : decode cX8_grow 339 = .ok (.getfield 35, 3) := by decide +kernel
theorem dX8_grow_342 : decode cX8_grow 342 = .ok (.iload_n 1, 1) := by decide +kernel
theorem dX8_grow_343 : decode cX8_grow 343 = .ok (.iaload, 1) := by decide +kernel
theorem dX8_grow_344 : decode cX8_grow 344 = .ok (.if_icmp .eq 7, 3) := by decide +kernel
theorem dX8_grow_347 : decode cX8_grow 347 = .ok (.iconst 1, 1) := by decide +kernel
theorem dX8_grow_348 : decode cX8_grow 348 = .ok (.goto 4, 3) := by decide +kernel
theorem dX8_grow_351 : decode cX8_grow 351 = .ok (.iconst 0, 1) := by decide +kernel
theorem dX8_grow_352 : decode cX8_grow 352 = .ok (.istore 7, 2) := by decide +kernel
theorem dX8_grow_354 : decode cX8_grow 354 = .ok (.aload_n 0, 1) := by decide +kernel
theorem dX8_grow_355 : decode cX8_grow 355 = .ok (.getfield 28, 3) := by decide +kernel
theorem dX8_grow_358 : decode cX8_grow 358 = .ok (.iload_n 1, 1) := by decide +kernel
theorem dX8_grow_359 : decode cX8_grow 359 = .ok (.iload_n 2, 1) := by decide +kernel
theorem dX8_grow_360 : decode cX8_grow 360 = .ok (.bastore, 1) := by decide +kernel
theorem dX8_grow_361 : decode cX8_grow 361 = .ok (.aload_n 0, 1) := by decide +kernel
theorem dX8_grow_362 : decode cX8_grow 362 = .ok (.getfield 32, 3) := by decide +kernel
theorem dX8_grow_365 : decode cX8_grow 365 = .ok (.iload_n 1, 1) := by decide +kernel
theorem dX8_grow_366 : decode cX8_grow 366 = .ok (.iload_n 3, 1) := by decide +kernel
theorem dX8_grow_367 : decode cX8_grow 367 = .ok (.iastore, 1) := by decide +kernel
theorem dX8_grow_368 : decode cX8_grow 368 = .ok (.aload_n 0, 1) := by decide +kernel
theorem dX8_grow_369 : decode cX8_grow 369 = .ok (.getfield 35, 3) := by decide +kernel
theorem dX8_grow_372 : decode cX8_grow 372 = .ok (.iload_n 1, 1) := by decide +kernel
theorem dX8_grow_373 : decode cX8_grow 373 = .ok (.iload 4, 2) := by decide +kernel
theorem dX8_grow_375 : decode cX8_grow 375 = .ok (.iastore, 1) := by decide +kernel
theorem dX8_grow_376 : decode cX8_grow 376 = .ok (.iload 7, 2) := by decide +kernel
theorem dX8_grow_378 : decode cX8_grow 378 = .ok (.ireturn, 1) := by decide +kernel
theorem dX8_typeAll_0 : decode cX8_typeAll 0 = .ok (.aload_n 0, 1) := by decide +kernel
theorem dX8_typeAll_1 : decode cX8_typeAll 1 = .ok (.iload_n 1, 1) := by decide +kernel
theorem dX8_typeAll_2 : decode cX8_typeAll 2 = .ok (.invokevirtual 90, 3) := by decide +kernel
theorem dX8_typeAll_5 : decode cX8_typeAll 5 = .ok (.iconst 1, 1) := by decide +kernel
theorem dX8_typeAll_6 : decode cX8_typeAll 6 = .ok (.istore_n 2, 1) := by decide +kernel
theorem dX8_typeAll_7 : decode cX8_typeAll 7 = .ok (.iload_n 2, 1) := by decide +kernel
theorem dX8_typeAll_8 : decode cX8_typeAll 8 = .ok (.ifCond .eq 51, 3) := by decide +kernel
theorem dX8_typeAll_11 : decode cX8_typeAll 11 = .ok (.iconst 0, 1) := by decide +kernel
theorem dX8_typeAll_12 : decode cX8_typeAll 12 = .ok (.istore_n 2, 1) := by decide +kernel
theorem dX8_typeAll_13 : decode cX8_typeAll 13 = .ok (.iconst 0, 1) := by decide +kernel
theorem dX8_typeAll_14 : decode cX8_typeAll 14 = .ok (.istore_n 3, 1) := by decide +kernel
theorem dX8_typeAll_15 : decode cX8_typeAll 15 = .ok (.iload_n 3, 1) := by decide +kernel
theorem dX8_typeAll_16 : decode cX8_typeAll 16 = .ok (.aload_n 0, 1) := by decide +kernel
theorem dX8_typeAll_17 : decode cX8_typeAll 17 = .ok (.getfield 76, 3) := by decide +kernel
theorem dX8_typeAll_20 : decode cX8_typeAll 20 = .ok (.if_icmp .ge 36, 3) := by decide +kernel
theorem dX8_typeAll_23 : decode cX8_typeAll 23 = .ok (.aload_n 0, 1) := by decide +kernel
theorem dX8_typeAll_24 : decode cX8_typeAll 24 = .ok (.getfield 38, 3) := by decide +kernel
theorem dX8_typeAll_27 : decode cX8_typeAll 27 = .ok (.iload_n 3, 1) := by decide +kernel
theorem dX8_typeAll_28 : decode cX8_typeAll 28 = .ok (.baload, 1) := by decide +kernel
theorem dX8_typeAll_29 : decode cX8_typeAll 29 = .ok (.ifCond .eq 11, 3) := by decide +kernel
theorem dX8_typeAll_32 : decode cX8_typeAll 32 = .ok (.aload_n 0, 1) := by decide +kernel
theorem dX8_typeAll_33 : decode cX8_typeAll 33 = .ok (.iload_n 3, 1) := by decide +kernel
theorem dX8_typeAll_34 : decode cX8_typeAll 34 = .ok (.invokevirtual 94, 3) := by decide +kernel
theorem dX8_typeAll_37 : decode cX8_typeAll 37 = .ok (.ifCond .ne 7, 3) := by decide +kernel
theorem dX8_typeAll_40 : decode cX8_typeAll 40 = .ok (.iload_n 2, 1) := by decide +kernel
theorem dX8_typeAll_41 : decode cX8_typeAll 41 = .ok (.ifCond .eq 7, 3) := by decide +kernel
theorem dX8_typeAll_44 : decode cX8_typeAll 44 = .ok (.iconst 1, 1) := by decide +kernel
theorem dX8_typeAll_45 : decode cX8_typeAll 45 = .ok (.goto 4, 3) := by decide +kernel
theorem dX8_typeAll_48 : decode cX8_typeAll 48 = .ok (.iconst 0, 1) := by decide +kernel
theorem dX8_typeAll_49 : decode cX8_typeAll 49 = .ok (.istore_n 2, 1) := by decide +kernel
theorem dX8_typeAll_50 : decode cX8_typeAll 50 = .ok (.iinc 3 1, 3) := by decide +kernel
theorem dX8_typeAll_53 : decode cX8_typeAll 53 = .ok (.goto (-38), 3) := by decide +kernel
theorem dX8_typeAll_56 : decode cX8_typeAll 56 = .ok (.goto (-49), 3) := by decide +kernel
theorem dX8_typeAll_59 : decode cX8_typeAll 59 = .ok (.return_, 1) := by decide +kernel
theorem dX8_isGuarded_0 : decode cX8_isGuarded 0 = .ok (.iconst 0, 1) := by decide +kernel
theorem dX8_isGuarded_1 : decode cX8_isGuarded 1 = .ok (.istore_n 2, 1) := by decide +kernel
theorem dX8_isGuarded_2 : decode cX8_isGuarded 2 = .ok (.iload_n 1, 1) := by decide +kernel
theorem dX8_isGuarded_3 : decode cX8_isGuarded 3 = .ok (.istore_n 3, 1) := by decide +kernel
theorem dX8_isGuarded_4 : decode cX8_isGuarded 4 = .ok (.iload_n 3, 1) := by decide +kernel
theorem dX8_isGuarded_5 : decode cX8_isGuarded 5 = .ok (.aload_n 0, 1) := by decide +kernel
theorem dX8_isGuarded_6 : decode cX8_isGuarded 6 = .ok (.getfield 41, 3) := by decide +kernel
theorem dX8_isGuarded_9 : decode cX8_isGuarded 9 = .ok (.iload_n 1, 1) := by decide +kernel
theorem dX8_isGuarded_10 : decode cX8_isGuarded 10 = .ok (.iaload, 1) := by decide +kernel
theorem dX8_isGuarded_11 : decode cX8_isGuarded 11 = .ok (.if_icmp .eq 49, 3) := by decide +kernel
theorem dX8_isGuarded_14 : decode cX8_isGuarded 14 = .ok (.aload_n 0, 1) := by decide +kernel
theorem dX8_isGuarded_15 : decode cX8_isGuarded 15 = .ok (.getfield 22, 3) := by decide +kernel
theorem dX8_isGuarded_18 : decode cX8_isGuarded 18 = .ok (.iload_n 3, 1) := by decide +kernel
theorem dX8_isGuarded_19 : decode cX8_isGuarded 19 = .ok (.iaload, 1) := by decide +kernel
theorem dX8_isGuarded_20 : decode cX8_isGuarded 20 = .ok (.istore 4, 2) := by decide +kernel
theorem dX8_isGuarded_22 : decode cX8_isGuarded 22 = .ok (.iload_n 2, 1) := by decide +kernel
theorem dX8_isGuarded_23 : decode cX8_isGuarded 23 = .ok (.ifCond .ne 25, 3) := by decide +kernel
theorem dX8_isGuarded_26 : decode cX8_isGuarded 26 = .ok (.aload_n 0, 1) := by decide +kernel
theorem dX8_isGuarded_27 : decode cX8_isGuarded 27 = .ok (.getfield 7, 3) := by decide +kernel
theorem dX8_isGuarded_30 : decode cX8_isGuarded 30 = .ok (.iload 4, 2) := by decide +kernel
theorem dX8_isGuarded_32 : decode cX8_isGuarded 32 = .ok (.iaload, 1) := by decide +kernel
theorem dX8_isGuarded_33 : decode cX8_isGuarded 33 = .ok (.iconst 3, 1) := by decide +kernel
theorem dX8_isGuarded_34 : decode cX8_isGuarded 34 = .ok (.if_icmp .ne 18, 3) := by decide +kernel
theorem dX8_isGuarded_37 : decode cX8_isGuarded 37 = .ok (.aload_n 0, 1) := by decide +kernel
theorem dX8_isGuarded_38 : decode cX8_isGuarded 38 = .ok (.getfield 19, 3) := by decide +kernel
theorem dX8_isGuarded_41 : decode cX8_isGuarded 41 = .ok (.iload 4, 2) := by decide +kernel
theorem dX8_isGuarded_43 : decode cX8_isGuarded 43 = .ok (.iaload, 1) := by decide +kernel
theorem dX8_isGuarded_44 : decode cX8_isGuarded 44 = .ok (.iload_n 3, 1) := by decide +kernel
theorem dX8_isGuarded_45 : decode cX8_isGuarded 45 = .ok (.if_icmp .ne 7, 3) := by decide +kernel
theorem dX8_isGuarded_48 : decode cX8_isGuarded 48 = .ok (.iconst 1, 1) := by decide +kernel
theorem dX8_isGuarded_49 : decode cX8_isGuarded 49 = .ok (.goto 4, 3) := by decide +kernel
theorem dX8_isGuarded_52 : decode cX8_isGuarded 52 = .ok (.iconst 0, 1) := by decide +kernel
theorem dX8_isGuarded_53 : decode cX8_isGuarded 53 = .ok (.istore_n 2, 1) := by decide +kernel
theorem dX8_isGuarded_54 : decode cX8_isGuarded 54 = .ok (.iload 4, 2) := by decide +kernel
theorem dX8_isGuarded_56 : decode cX8_isGuarded 56 = .ok (.istore_n 3, 1) := by decide +kernel
theorem dX8_isGuarded_57 : decode cX8_isGuarded 57 = .ok (.goto (-53), 3) := by decide +kernel
theorem dX8_isGuarded_60 : decode cX8_isGuarded 60 = .ok (.iload_n 2, 1) := by decide +kernel
theorem dX8_isGuarded_61 : decode cX8_isGuarded 61 = .ok (.ireturn, 1) := by decide +kernel
theorem dX8_faultAt_0 : decode cX8_faultAt 0 = .ok (.aload_n 0, 1) := by decide +kernel
theorem dX8_faultAt_1 : decode cX8_faultAt 1 = .ok (.getfield 16, 3) := by decide +kernel
theorem dX8_faultAt_4 : decode cX8_faultAt 4 = .ok (.iload_n 1, 1) := by decide +kernel
theorem dX8_faultAt_5 : decode cX8_faultAt 5 = .ok (.iaload, 1) := by decide +kernel
theorem dX8_faultAt_6 : decode cX8_faultAt 6 = .ok (.istore_n 2, 1) := by decide +kernel
theorem dX8_faultAt_7 : decode cX8_faultAt 7 = .ok (.aload_n 0, 1) := by decide +kernel
theorem dX8_faultAt_8 : decode cX8_faultAt 8 = .ok (.getfield 19, 3) := by decide +kernel
theorem dX8_faultAt_11 : decode cX8_faultAt 11 = .ok (.iload_n 1, 1) := by decide +kernel
theorem dX8_faultAt_12 : decode cX8_faultAt 12 = .ok (.iaload, 1) := by decide +kernel
theorem dX8_faultAt_13 : decode cX8_faultAt 13 = .ok (.istore_n 3, 1) := by decide +kernel
theorem dX8_faultAt_14 : decode cX8_faultAt 14 = .ok (.aload_n 0, 1) := by decide +kernel
theorem dX8_faultAt_15 : decode cX8_faultAt 15 = .ok (.getfield 7, 3) := by decide +kernel
theorem dX8_faultAt_18 : decode cX8_faultAt 18 = .ok (.iload_n 1, 1) := by decide +kernel
theorem dX8_faultAt_19 : decode cX8_faultAt 19 = .ok (.iaload, 1) := by decide +kernel
theorem dX8_faultAt_20 : decode cX8_faultAt 20 = .ok (.tableswitch 126 3 5 #[55, 86, 28], 28) := by decide +kernel
theorem dX8_faultAt_48 : decode cX8_faultAt 48 = .ok (.aload_n 0, 1) := by decide +kernel
theorem dX8_faultAt_49 : decode cX8_faultAt 49 = .ok (.getfield 41, 3) := by decide +kernel
theorem dX8_faultAt_52 : decode cX8_faultAt 52 = .ok (.iload_n 1, 1) := by decide +kernel
theorem dX8_faultAt_53 : decode cX8_faultAt 53 = .ok (.iaload, 1) := by decide +kernel
theorem dX8_faultAt_54 : decode cX8_faultAt 54 = .ok (.ifCond .ge 7, 3) := by decide +kernel
theorem dX8_faultAt_57 : decode cX8_faultAt 57 = .ok (.iconst 1, 1) := by decide +kernel
theorem dX8_faultAt_58 : decode cX8_faultAt 58 = .ok (.goto 16, 3) := by decide +kernel
theorem dX8_faultAt_61 : decode cX8_faultAt 61 = .ok (.aload_n 0, 1) := by decide +kernel
theorem dX8_faultAt_62 : decode cX8_faultAt 62 = .ok (.iload_n 1, 1) := by decide +kernel
theorem dX8_faultAt_63 : decode cX8_faultAt 63 = .ok (.invokevirtual 97, 3) := by decide +kernel
theorem dX8_faultAt_66 : decode cX8_faultAt 66 = .ok (.ifCond .eq 7, 3) := by decide +kernel
theorem dX8_faultAt_69 : decode cX8_faultAt 69 = .ok (.iconst 0, 1) := by decide +kernel
theorem dX8_faultAt_70 : decode cX8_faultAt 70 = .ok (.goto 4, 3) := by decide +kernel
theorem dX8_faultAt_73 : decode cX8_faultAt 73 = .ok (.iconst 2, 1) := by decide +kernel
theorem dX8_faultAt_74 : decode cX8_faultAt 74 = .ok (.ireturn, 1) := by decide +kernel
theorem dX8_faultAt_75 : decode cX8_faultAt 75 = .ok (.aload_n 0, 1) := by decide +kernel
theorem dX8_faultAt_76 : decode cX8_faultAt 76 = .ok (.getfield 28, 3) := by decide +kernel
theorem dX8_faultAt_79 : decode cX8_faultAt 79 = .ok (.iload_n 2, 1) := by decide +kernel
theorem dX8_faultAt_80 : decode cX8_faultAt 80 = .ok (.baload, 1) := by decide +kernel
theorem dX8_faultAt_81 : decode cX8_faultAt 81 = .ok (.ifCond .ne 19, 3) := by decide +kernel
theorem dX8_faultAt_84 : decode cX8_faultAt 84 = .ok (.aload_n 0, 1) := by decide +kernel
theorem dX8_faultAt_85 : decode cX8_faultAt 85 = .ok (.getfield 35, 3) := by decide +kernel
theorem dX8_faultAt_88 : decode cX8_faultAt 88 = .ok (.iload_n 2, 1) := by decide +kernel
theorem dX8_faultAt_89 : decode cX8_faultAt 89 = .ok (.iaload, 1) := by decide +kernel
theorem dX8_faultAt_90 : decode cX8_faultAt 90 = .ok (.aload_n 0, 1) := by decide +kernel
theorem dX8_faultAt_91 : decode cX8_faultAt 91 = .ok (.getfield 32, 3) := by decide +kernel
theorem dX8_faultAt_94 : decode cX8_faultAt 94 = .ok (.iload_n 3, 1) := by decide +kernel
theorem dX8_faultAt_95 : decode cX8_faultAt 95 = .ok (.iaload, 1) := by decide +kernel
theorem dX8_faultAt_96 : decode cX8_faultAt 96 = .ok (.iand, 1) := by decide +kernel
theorem dX8_faultAt_97 : decode cX8_faultAt 97 = .ok (.ifCond .eq 7, 3) := by decide +kernel
theorem dX8_faultAt_100 : decode cX8_faultAt 100 = .ok (.iconst 3, 1) := by decide +kernel
theorem dX8_faultAt_101 : decode cX8_faultAt 101 = .ok (.goto 4, 3) := by decide +kernel
theorem dX8_faultAt_104 : decode cX8_faultAt 104 = .ok (.iconst 0, 1) := by decide +kernel
theorem dX8_faultAt_105 : decode cX8_faultAt 105 = .ok (.ireturn, 1) := by decide +kernel
theorem dX8_faultAt_106 : decode cX8_faultAt 106 = .ok (.aload_n 0, 1) := by decide +kernel
theorem dX8_faultAt_107 : decode cX8_faultAt 107 = .ok (.getfield 28, 3) := by decide +kernel
theorem dX8_faultAt_110 : decode cX8_faultAt 110 = .ok (.iload_n 2, 1) := by decide +kernel
theorem dX8_faultAt_111 : decode cX8_faultAt 111 = .ok (.baload, 1) := by decide +kernel
theorem dX8_faultAt_112 : decode cX8_faultAt 112 = .ok (.ifCond .eq 12, 3) := by decide +kernel
theorem dX8_faultAt_115 : decode cX8_faultAt 115 = .ok (.aload_n 0, 1) := by decide +kernel
theorem dX8_faultAt_116 : decode cX8_faultAt 116 = .ok (.getfield 28, 3) := by decide +kernel
theorem dX8_faultAt_119 : decode cX8_faultAt 119 = .ok (.iload_n 3, 1) := by decide +kernel
theorem dX8_faultAt_120 : decode cX8_faultAt 120 = .ok (.baload, 1) := by decide +kernel
theorem dX8_faultAt_121 : decode cX8_faultAt 121 = .ok (.ifCond .ne 19, 3) := by decide +kernel
theorem dX8_faultAt_124 : decode cX8_faultAt 124 = .ok (.aload_n 0, 1) := by decide +kernel
theorem dX8_faultAt_125 : decode cX8_faultAt 125 = .ok (.getfield 32, 3) := by decide +kernel
theorem dX8_faultAt_128 : decode cX8_faultAt 128 = .ok (.iload_n 2, 1) := by decide +kernel
theorem dX8_faultAt_129 : decode cX8_faultAt 129 = .ok (.iaload, 1) := by decide +kernel
theorem dX8_faultAt_130 : decode cX8_faultAt 130 = .ok (.aload_n 0, 1) := by decide +kernel
theorem dX8_faultAt_131 : decode cX8_faultAt 131 = .ok (.getfield 32, 3) := by decide +kernel
theorem dX8_faultAt_134 : decode cX8_faultAt 134 = .ok (.iload_n 3, 1) := by decide +kernel
theorem dX8_faultAt_135 : decode cX8_faultAt 135 = .ok (.iaload, 1) := by decide +kernel
theorem dX8_faultAt_136 : decode cX8_faultAt 136 = .ok (.iand, 1) := by decide +kernel
theorem dX8_faultAt_137 : decode cX8_faultAt 137 = .ok (.ifCond .eq 7, 3) := by decide +kernel
theorem dX8_faultAt_140 : decode cX8_faultAt 140 = .ok (.iconst 4, 1) := by decide +kernel
theorem dX8_faultAt_141 : decode cX8_faultAt 141 = .ok (.goto 4, 3) := by decide +kernel
theorem dX8_faultAt_144 : decode cX8_faultAt 144 = .ok (.iconst 0, 1) := by decide +kernel
theorem dX8_faultAt_145 : decode cX8_faultAt 145 = .ok (.ireturn, 1) := by decide +kernel
theorem dX8_faultAt_146 : decode cX8_faultAt 146 = .ok (.iconst 0, 1) := by decide +kernel
theorem dX8_faultAt_147 : decode cX8_faultAt 147 = .ok (.ireturn, 1) := by decide +kernel
theorem dX8_leftmost_0 : decode cX8_leftmost 0 = .ok (.iload_n 1, 1) := by decide +kernel
theorem dX8_leftmost_1 : decode cX8_leftmost 1 = .ok (.istore_n 2, 1) := by decide +kernel
theorem dX8_leftmost_2 : decode cX8_leftmost 2 = .ok (.aload_n 0, 1) := by decide +kernel
theorem dX8_leftmost_3 : decode cX8_leftmost 3 = .ok (.getfield 16, 3) := by decide +kernel
theorem dX8_leftmost_6 : decode cX8_leftmost 6 = .ok (.iload_n 2, 1) := by decide +kernel
theorem dX8_leftmost_7 : decode cX8_leftmost 7 = .ok (.iaload, 1) := by decide +kernel
theorem dX8_leftmost_8 : decode cX8_leftmost 8 = .ok (.ifCond .lt 13, 3) := by decide +kernel
theorem dX8_leftmost_11 : decode cX8_leftmost 11 = .ok (.aload_n 0, 1) := by decide +kernel
theorem dX8_leftmost_12 : decode cX8_leftmost 12 = .ok (.getfield 16, 3) := by decide +kernel
theorem dX8_leftmost_15 : decode cX8_leftmost 15 = .ok (.iload_n 2, 1) := by decide +kernel
theorem dX8_leftmost_16 : decode cX8_leftmost 16 = .ok (.iaload, 1) := by decide +kernel
theorem dX8_leftmost_17 : decode cX8_leftmost 17 = .ok (.istore_n 2, 1) := by decide +kernel
theorem dX8_leftmost_18 : decode cX8_leftmost 18 = .ok (.goto (-16), 3) := by decide +kernel
theorem dX8_leftmost_21 : decode cX8_leftmost 21 = .ok (.iload_n 2, 1) := by decide +kernel
theorem dX8_leftmost_22 : decode cX8_leftmost 22 = .ok (.ireturn, 1) := by decide +kernel
theorem dX8_faultOf_0 : decode cX8_faultOf 0 = .ok (.aload_n 0, 1) := by decide +kernel
theorem dX8_faultOf_1 : decode cX8_faultOf 1 = .ok (.iload_n 1, 1) := by decide +kernel
theorem dX8_faultOf_2 : decode cX8_faultOf 2 = .ok (.invokevirtual 100, 3) := by decide +kernel
theorem dX8_faultOf_5 : decode cX8_faultOf 5 = .ok (.aload_n 0, 1) := by decide +kernel
theorem dX8_faultOf_6 : decode cX8_faultOf 6 = .ok (.iload_n 1, 1) := by decide +kernel
theorem dX8_faultOf_7 : decode cX8_faultOf 7 = .ok (.invokevirtual 103, 3) := by decide +kernel
theorem dX8_faultOf_10 : decode cX8_faultOf 10 = .ok (.istore_n 2, 1) := by decide +kernel
theorem dX8_faultOf_11 : decode cX8_faultOf 11 = .ok (.aload_n 0, 1) := by decide +kernel
theorem dX8_faultOf_12 : decode cX8_faultOf 12 = .ok (.iload_n 2, 1) := by decide +kernel
theorem dX8_faultOf_13 : decode cX8_faultOf 13 = .ok (.invokevirtual 107, 3) := by decide +kernel
theorem dX8_faultOf_16 : decode cX8_faultOf 16 = .ok (.ifCond .le 14, 3) := by decide +kernel
theorem dX8_faultOf_19 : decode cX8_faultOf 19 = .ok (.bipush 8, 2) := by decide +kernel
theorem dX8_faultOf_21 : decode cX8_faultOf 21 = .ok (.iload_n 2, 1) := by decide +kernel
theorem dX8_faultOf_22 : decode cX8_faultOf 22 = .ok (.imul, 1) := by decide +kernel
theorem dX8_faultOf_23 : decode cX8_faultOf 23 = .ok (.aload_n 0, 1) := by decide +kernel
theorem dX8_faultOf_24 : decode cX8_faultOf 24 = .ok (.iload_n 2, 1) := by decide +kernel
theorem dX8_faultOf_25 : decode cX8_faultOf 25 = .ok (.invokevirtual 107, 3) := by decide +kernel
theorem dX8_faultOf_28 : decode cX8_faultOf 28 = .ok (.iadd, 1) := by decide +kernel
theorem dX8_faultOf_29 : decode cX8_faultOf 29 = .ok (.ireturn, 1) := by decide +kernel
theorem dX8_faultOf_30 : decode cX8_faultOf 30 = .ok (.iload_n 2, 1) := by decide +kernel
theorem dX8_faultOf_31 : decode cX8_faultOf 31 = .ok (.iload_n 1, 1) := by decide +kernel
theorem dX8_faultOf_32 : decode cX8_faultOf 32 = .ok (.if_icmp .ne 5, 3) := by decide +kernel
theorem dX8_faultOf_35 : decode cX8_faultOf 35 = .ok (.iconst 0, 1) := by decide +kernel
theorem dX8_faultOf_36 : decode cX8_faultOf 36 = .ok (.ireturn, 1) := by decide +kernel
theorem dX8_faultOf_37 : decode cX8_faultOf 37 = .ok (.aload_n 0, 1) := by decide +kernel
theorem dX8_faultOf_38 : decode cX8_faultOf 38 = .ok (.getfield 22, 3) := by decide +kernel
theorem dX8_faultOf_41 : decode cX8_faultOf 41 = .ok (.iload_n 2, 1) := by decide +kernel
theorem dX8_faultOf_42 : decode cX8_faultOf 42 = .ok (.iaload, 1) := by decide +kernel
theorem dX8_faultOf_43 : decode cX8_faultOf 43 = .ok (.istore_n 3, 1) := by decide +kernel
theorem dX8_faultOf_44 : decode cX8_faultOf 44 = .ok (.aload_n 0, 1) := by decide +kernel
theorem dX8_faultOf_45 : decode cX8_faultOf 45 = .ok (.getfield 19, 3) := by decide +kernel
theorem dX8_faultOf_48 : decode cX8_faultOf 48 = .ok (.iload_n 3, 1) := by decide +kernel
theorem dX8_faultOf_49 : decode cX8_faultOf 49 = .ok (.iaload, 1) := by decide +kernel
theorem dX8_faultOf_50 : decode cX8_faultOf 50 = .ok (.ifCond .lt 26, 3) := by decide +kernel
theorem dX8_faultOf_53 : decode cX8_faultOf 53 = .ok (.aload_n 0, 1) := by decide +kernel
theorem dX8_faultOf_54 : decode cX8_faultOf 54 = .ok (.getfield 19, 3) := by decide +kernel
theorem dX8_faultOf_57 : decode cX8_faultOf 57 = .ok (.iload_n 3, 1) := by decide +kernel
theorem dX8_faultOf_58 : decode cX8_faultOf 58 = .ok (.iaload, 1) := by decide +kernel
theorem dX8_faultOf_59 : decode cX8_faultOf 59 = .ok (.iload_n 2, 1) := by decide +kernel
theorem dX8_faultOf_60 : decode cX8_faultOf 60 = .ok (.if_icmp .eq 16, 3) := by decide +kernel
theorem dX8_faultOf_63 : decode cX8_faultOf 63 = .ok (.aload_n 0, 1) := by decide +kernel
theorem dX8_faultOf_64 : decode cX8_faultOf 64 = .ok (.aload_n 0, 1) := by decide +kernel
theorem dX8_faultOf_65 : decode cX8_faultOf 65 = .ok (.getfield 19, 3) := by decide +kernel
theorem dX8_faultOf_68 : decode cX8_faultOf 68 = .ok (.iload_n 3, 1) := by decide +kernel
theorem dX8_faultOf_69 : decode cX8_faultOf 69 = .ok (.iaload, 1) := by decide +kernel
theorem dX8_faultOf_70 : decode cX8_faultOf 70 = .ok (.invokevirtual 103, 3) := by decide +kernel
theorem dX8_faultOf_73 : decode cX8_faultOf 73 = .ok (.goto 4, 3) := by decide +kernel
theorem dX8_faultOf_76 : decode cX8_faultOf 76 = .ok (.iload_n 3, 1) := by decide +kernel
theorem dX8_faultOf_77 : decode cX8_faultOf 77 = .ok (.istore_n 2, 1) := by decide +kernel
theorem dX8_faultOf_78 : decode cX8_faultOf 78 = .ok (.goto (-67), 3) := by decide +kernel
theorem dX8_fault_0 : decode cX8_fault 0 = .ok (.aload_n 0, 1) := by decide +kernel
theorem dX8_fault_1 : decode cX8_fault 1 = .ok (.aload_n 0, 1) := by decide +kernel
theorem dX8_fault_2 : decode cX8_fault 2 = .ok (.iload_n 1, 1) := by decide +kernel
theorem dX8_fault_3 : decode cX8_fault 3 = .ok (.invokevirtual 83, 3) := by decide +kernel
theorem dX8_fault_6 : decode cX8_fault 6 = .ok (.ifCond .eq 7, 3) := by decide +kernel
theorem dX8_fault_9 : decode cX8_fault 9 = .ok (.iconst 0, 1) := by decide +kernel
theorem dX8_fault_10 : decode cX8_fault 10 = .ok (.goto 4, 3) := by decide +kernel
theorem dX8_fault_13 : decode cX8_fault 13 = .ok (.iconst 1, 1) := by decide +kernel
theorem dX8_fault_14 : decode cX8_fault 14 = .ok (.putfield 73, 3) := by decide +kernel
theorem dX8_fault_17 : decode cX8_fault 17 = .ok (.aload_n 0, 1) := by decide +kernel
theorem dX8_fault_18 : decode cX8_fault 18 = .ok (.getfield 73, 3) := by decide +kernel
theorem dX8_fault_21 : decode cX8_fault 21 = .ok (.ifCond .le 7, 3) := by decide +kernel
theorem dX8_fault_24 : decode cX8_fault 24 = .ok (.iconst 0, 1) := by decide +kernel
theorem dX8_fault_25 : decode cX8_fault 25 = .ok (.goto 8, 3) := by decide +kernel
theorem dX8_fault_28 : decode cX8_fault 28 = .ok (.aload_n 0, 1) := by decide +kernel
theorem dX8_fault_29 : decode cX8_fault 29 = .ok (.iload_n 1, 1) := by decide +kernel
theorem dX8_fault_30 : decode cX8_fault 30 = .ok (.invokevirtual 110, 3) := by decide +kernel
theorem dX8_fault_33 : decode cX8_fault 33 = .ok (.ireturn, 1) := by decide +kernel
theorem dX8_type_0 : decode cX8_type 0 = .ok (.aload_n 0, 1) := by decide +kernel
theorem dX8_type_1 : decode cX8_type 1 = .ok (.aload_n 0, 1) := by decide +kernel
theorem dX8_type_2 : decode cX8_type 2 = .ok (.iload_n 1, 1) := by decide +kernel
theorem dX8_type_3 : decode cX8_type 3 = .ok (.invokevirtual 83, 3) := by decide +kernel
theorem dX8_type_6 : decode cX8_type 6 = .ok (.ifCond .eq 12, 3) := by decide +kernel
theorem dX8_type_9 : decode cX8_type 9 = .ok (.iload_n 2, 1) := by decide +kernel
theorem dX8_type_10 : decode cX8_type 10 = .ok (.ifCond .lt 8, 3) := by decide +kernel
theorem dX8_type_13 : decode cX8_type 13 = .ok (.iload_n 2, 1) := by decide +kernel
theorem dX8_type_14 : decode cX8_type 14 = .ok (.iconst 2, 1) := by decide +kernel
theorem dX8_type_15 : decode cX8_type 15 = .ok (.if_icmp .le 7, 3) := by decide +kernel
theorem dX8_type_18 : decode cX8_type 18 = .ok (.iconst 1, 1) := by decide +kernel
theorem dX8_type_19 : decode cX8_type 19 = .ok (.goto 16, 3) := by decide +kernel
theorem dX8_type_22 : decode cX8_type 22 = .ok (.aload_n 0, 1) := by decide +kernel
theorem dX8_type_23 : decode cX8_type 23 = .ok (.iload_n 1, 1) := by decide +kernel
theorem dX8_type_24 : decode cX8_type 24 = .ok (.invokevirtual 110, 3) := by decide +kernel
theorem dX8_type_27 : decode cX8_type 27 = .ok (.ifCond .eq 7, 3) := by decide +kernel
theorem dX8_type_30 : decode cX8_type 30 = .ok (.iconst 2, 1) := by decide +kernel
theorem dX8_type_31 : decode cX8_type 31 = .ok (.goto 4, 3) := by decide +kernel
theorem dX8_type_34 : decode cX8_type 34 = .ok (.iconst 0, 1) := by decide +kernel
theorem dX8_type_35 : decode cX8_type 35 = .ok (.putfield 73, 3) := by decide +kernel
theorem dX8_type_38 : decode cX8_type 38 = .ok (.aload_n 0, 1) := by decide +kernel
theorem dX8_type_39 : decode cX8_type 39 = .ok (.getfield 73, 3) := by decide +kernel
theorem dX8_type_42 : decode cX8_type 42 = .ok (.ifCond .le 5, 3) := by decide +kernel
theorem dX8_type_45 : decode cX8_type 45 = .ok (.iconst 0, 1) := by decide +kernel
theorem dX8_type_46 : decode cX8_type 46 = .ok (.ireturn, 1) := by decide +kernel
theorem dX8_type_47 : decode cX8_type 47 = .ok (.iload_n 2, 1) := by decide +kernel
theorem dX8_type_48 : decode cX8_type 48 = .ok (.iconst 1, 1) := by decide +kernel
theorem dX8_type_49 : decode cX8_type 49 = .ok (.if_icmp .ne 12, 3) := by decide +kernel
theorem dX8_type_52 : decode cX8_type 52 = .ok (.aload_n 0, 1) := by decide +kernel
theorem dX8_type_53 : decode cX8_type 53 = .ok (.getfield 32, 3) := by decide +kernel
theorem dX8_type_56 : decode cX8_type 56 = .ok (.iload_n 1, 1) := by decide +kernel
theorem dX8_type_57 : decode cX8_type 57 = .ok (.iaload, 1) := by decide +kernel
theorem dX8_type_58 : decode cX8_type 58 = .ok (.goto 31, 3) := by decide +kernel
theorem dX8_type_61 : decode cX8_type 61 = .ok (.iload_n 2, 1) := by decide +kernel
theorem dX8_type_62 : decode cX8_type 62 = .ok (.iconst 2, 1) := by decide +kernel
theorem dX8_type_63 : decode cX8_type 63 = .ok (.if_icmp .ne 12, 3) := by decide +kernel
theorem dX8_type_66 : decode cX8_type 66 = .ok (.aload_n 0, 1) := by decide +kernel
theorem dX8_type_67 : decode cX8_type 67 = .ok (.getfield 35, 3) := by decide +kernel
theorem dX8_type_70 : decode cX8_type 70 = .ok (.iload_n 1, 1) := by decide +kernel
theorem dX8_type_71 : decode cX8_type 71 = .ok (.iaload, 1) := by decide +kernel
theorem dX8_type_72 : decode cX8_type 72 = .ok (.goto 17, 3) := by decide +kernel
theorem dX8_type_75 : decode cX8_type 75 = .ok (.aload_n 0, 1) := by decide +kernel
theorem dX8_type_76 : decode cX8_type 76 = .ok (.getfield 28, 3) := by decide +kernel
theorem dX8_type_79 : decode cX8_type 79 = .ok (.iload_n 1, 1) := by decide +kernel
theorem dX8_type_80 : decode cX8_type 80 = .ok (.baload, 1) := by decide +kernel
theorem dX8_type_81 : decode cX8_type 81 = .ok (.ifCond .eq 7, 3) := by decide +kernel
theorem dX8_type_84 : decode cX8_type 84 = .ok (.iconst 1, 1) := by decide +kernel
theorem dX8_type_85 : decode cX8_type 85 = .ok (.goto 4, 3) := by decide +kernel
theorem dX8_type_88 : decode cX8_type 88 = .ok (.iconst 0, 1) := by decide +kernel
theorem dX8_type_89 : decode cX8_type 89 = .ok (.ireturn, 1) := by decide +kernel
theorem dX8_put_0 : decode cX8_put 0 = .ok (.aload_n 0, 1) := by decide +kernel
theorem dX8_put_1 : decode cX8_put 1 = .ok (.iconst 0, 1) := by decide +kernel
theorem dX8_put_2 : decode cX8_put 2 = .ok (.putfield 73, 3) := by decide +kernel
theorem dX8_put_5 : decode cX8_put 5 = .ok (.iload_n 1, 1) := by decide +kernel
theorem dX8_put_6 : decode cX8_put 6 = .ok (.ifCond .lt 18, 3) := by decide +kernel
theorem dX8_put_9 : decode cX8_put 9 = .ok (.iload_n 1, 1) := by decide +kernel
theorem dX8_put_10 : decode cX8_put 10 = .ok (.bipush 7, 2) := by decide +kernel
theorem dX8_put_12 : decode cX8_put 12 = .ok (.if_icmp .gt 12, 3) := by decide +kernel
theorem dX8_put_15 : decode cX8_put 15 = .ok (.aload_n 0, 1) := by decide +kernel
theorem dX8_put_16 : decode cX8_put 16 = .ok (.getfield 113, 3) := by decide +kernel
theorem dX8_put_19 : decode cX8_put 19 = .ok (.bipush 40, 2) := by decide +kernel
theorem dX8_put_21 : decode cX8_put 21 = .ok (.if_icmp .ne 5, 3) := by decide +kernel
theorem dX8_put_24 : decode cX8_put 24 = .ok (.iconst 0, 1) := by decide +kernel
theorem dX8_put_25 : decode cX8_put 25 = .ok (.ireturn, 1) := by decide +kernel
theorem dX8_put_26 : decode cX8_put 26 = .ok (.aload_n 0, 1) := by decide +kernel
theorem dX8_put_27 : decode cX8_put 27 = .ok (.getfield 44, 3) := by decide +kernel
theorem dX8_put_30 : decode cX8_put 30 = .ok (.aload_n 0, 1) := by decide +kernel
theorem dX8_put_31 : decode cX8_put 31 = .ok (.getfield 113, 3) := by decide +kernel
theorem dX8_put_34 : decode cX8_put 34 = .ok (.iload_n 1, 1) := by decide +kernel
theorem dX8_put_35 : decode cX8_put 35 = .ok (.iastore, 1) := by decide +kernel
theorem dX8_put_36 : decode cX8_put 36 = .ok (.aload_n 0, 1) := by decide +kernel
theorem dX8_put_37 : decode cX8_put 37 = .ok (.dup, 1) := by decide +kernel
theorem dX8_put_38 : decode cX8_put 38 = .ok (.getfield 113, 3) := by decide +kernel
theorem dX8_put_41 : decode cX8_put 41 = .ok (.iconst 1, 1) := by decide +kernel
theorem dX8_put_42 : decode cX8_put 42 = .ok (.iadd, 1) := by decide +kernel
theorem dX8_put_43 : decode cX8_put 43 = .ok (.putfield 113, 3) := by decide +kernel
end
section
theorem dX8_put_46 : decode cX8_put 46 = .ok (.iconst 1, 1) := by decide +kernel
theorem dX8_put_47 : decode cX8_put 47 = .ok (.ireturn, 1) := by decide +kernel
theorem dX8_cut_0 : decode cX8_cut 0 = .ok (.aload_n 0, 1) := by decide +kernel
theorem dX8_cut_1 : decode cX8_cut 1 = .ok (.iconst 0, 1) := by decide +kernel
theorem dX8_cut_2 : decode cX8_cut 2 = .ok (.putfield 73, 3) := by decide +kernel
theorem dX8_cut_5 : decode cX8_cut 5 = .ok (.iload_n 1, 1) := by decide +kernel
theorem dX8_cut_6 : decode cX8_cut 6 = .ok (.ifCond .lt 11, 3) := by decide +kernel
theorem dX8_cut_9 : decode cX8_cut 9 = .ok (.iload_n 1, 1) := by decide +kernel
theorem dX8_cut_10 : decode cX8_cut 10 = .ok (.aload_n 0, 1) := by decide +kernel
theorem dX8_cut_11 : decode cX8_cut 11 = .ok (.getfield 113, 3) := by decide +kernel
theorem dX8_cut_14 : decode cX8_cut 14 = .ok (.if_icmp .le 5, 3) := by decide +kernel
theorem dX8_cut_17 : decode cX8_cut 17 = .ok (.iconst 0, 1) := by decide +kernel
theorem dX8_cut_18 : decode cX8_cut 18 = .ok (.ireturn, 1) := by decide +kernel
theorem dX8_cut_19 : decode cX8_cut 19 = .ok (.aload_n 0, 1) := by decide +kernel
theorem dX8_cut_20 : decode cX8_cut 20 = .ok (.iload_n 1, 1) := by decide +kernel
theorem dX8_cut_21 : decode cX8_cut 21 = .ok (.putfield 113, 3) := by decide +kernel
theorem dX8_cut_24 : decode cX8_cut 24 = .ok (.iconst 1, 1) := by decide +kernel
theorem dX8_cut_25 : decode cX8_cut 25 = .ok (.ireturn, 1) := by decide +kernel
theorem dX8_length_0 : decode cX8_length 0 = .ok (.aload_n 0, 1) := by decide +kernel
theorem dX8_length_1 : decode cX8_length 1 = .ok (.iconst 0, 1) := by decide +kernel
theorem dX8_length_2 : decode cX8_length 2 = .ok (.putfield 73, 3) := by decide +kernel
theorem dX8_length_5 : decode cX8_length 5 = .ok (.aload_n 0, 1) := by decide +kernel
theorem dX8_length_6 : decode cX8_length 6 = .ok (.getfield 113, 3) := by decide +kernel
theorem dX8_length_9 : decode cX8_length 9 = .ok (.ireturn, 1) := by decide +kernel
theorem dX8_letter_0 : decode cX8_letter 0 = .ok (.aload_n 0, 1) := by decide +kernel
theorem dX8_letter_1 : decode cX8_letter 1 = .ok (.iload_n 1, 1) := by decide +kernel
theorem dX8_letter_2 : decode cX8_letter 2 = .ok (.ifCond .lt 11, 3) := by decide +kernel
theorem dX8_letter_5 : decode cX8_letter 5 = .ok (.iload_n 1, 1) := by decide +kernel
theorem dX8_letter_6 : decode cX8_letter 6 = .ok (.aload_n 0, 1) := by decide +kernel
theorem dX8_letter_7 : decode cX8_letter 7 = .ok (.getfield 113, 3) := by decide +kernel
theorem dX8_letter_10 : decode cX8_letter 10 = .ok (.if_icmp .lt 7, 3) := by decide +kernel
theorem dX8_letter_13 : decode cX8_letter 13 = .ok (.iconst 1, 1) := by decide +kernel
theorem dX8_letter_14 : decode cX8_letter 14 = .ok (.goto 4, 3) := by decide +kernel
theorem dX8_letter_17 : decode cX8_letter 17 = .ok (.iconst 0, 1) := by decide +kernel
theorem dX8_letter_18 : decode cX8_letter 18 = .ok (.putfield 73, 3) := by decide +kernel
theorem dX8_letter_21 : decode cX8_letter 21 = .ok (.aload_n 0, 1) := by decide +kernel
theorem dX8_letter_22 : decode cX8_letter 22 = .ok (.getfield 73, 3) := by decide +kernel
theorem dX8_letter_25 : decode cX8_letter 25 = .ok (.ifCond .le 7, 3) := by decide +kernel
theorem dX8_letter_28 : decode cX8_letter 28 = .ok (.iconst 0, 1) := by decide +kernel
theorem dX8_letter_29 : decode cX8_letter 29 = .ok (.goto 9, 3) := by decide +kernel
theorem dX8_letter_32 : decode cX8_letter 32 = .ok (.aload_n 0, 1) := by decide +kernel
theorem dX8_letter_33 : decode cX8_letter 33 = .ok (.getfield 44, 3) := by decide +kernel
theorem dX8_letter_36 : decode cX8_letter 36 = .ok (.iload_n 1, 1) := by decide +kernel
theorem dX8_letter_37 : decode cX8_letter 37 = .ok (.iaload, 1) := by decide +kernel
theorem dX8_letter_38 : decode cX8_letter 38 = .ok (.ireturn, 1) := by decide +kernel
theorem dX8_go_0 : decode cX8_go 0 = .ok (.aload_n 0, 1) := by decide +kernel
theorem dX8_go_1 : decode cX8_go 1 = .ok (.getfield 116, 3) := by decide +kernel
theorem dX8_go_4 : decode cX8_go 4 = .ok (.ifCond .le 279, 3) := by decide +kernel
theorem dX8_go_7 : decode cX8_go 7 = .ok (.aload_n 0, 1) := by decide +kernel
theorem dX8_go_8 : decode cX8_go 8 = .ok (.dup, 1) := by decide +kernel
theorem dX8_go_9 : decode cX8_go 9 = .ok (.getfield 116, 3) := by decide +kernel
theorem dX8_go_12 : decode cX8_go 12 = .ok (.iconst 1, 1) := by decide +kernel
theorem dX8_go_13 : decode cX8_go 13 = .ok (.isub, 1) := by decide +kernel
theorem dX8_go_14 : decode cX8_go 14 = .ok (.putfield 116, 3) := by decide +kernel
theorem dX8_go_17 : decode cX8_go 17 = .ok (.aload_n 0, 1) := by decide +kernel
theorem dX8_go_18 : decode cX8_go 18 = .ok (.getfield 57, 3) := by decide +kernel
theorem dX8_go_21 : decode cX8_go 21 = .ok (.aload_n 0, 1) := by decide +kernel
theorem dX8_go_22 : decode cX8_go 22 = .ok (.getfield 116, 3) := by decide +kernel
theorem dX8_go_25 : decode cX8_go 25 = .ok (.iaload, 1) := by decide +kernel
theorem dX8_go_26 : decode cX8_go 26 = .ok (.istore_n 2, 1) := by decide +kernel
theorem dX8_go_27 : decode cX8_go 27 = .ok (.aload_n 0, 1) := by decide +kernel
theorem dX8_go_28 : decode cX8_go 28 = .ok (.dup, 1) := by decide +kernel
theorem dX8_go_29 : decode cX8_go 29 = .ok (.getfield 119, 3) := by decide +kernel
theorem dX8_go_32 : decode cX8_go 32 = .ok (.iconst 1, 1) := by decide +kernel
theorem dX8_go_33 : decode cX8_go 33 = .ok (.iadd, 1) := by decide +kernel
theorem dX8_go_34 : decode cX8_go 34 = .ok (.putfield 119, 3) := by decide +kernel
theorem dX8_go_37 : decode cX8_go 37 = .ok (.aload_n 0, 1) := by decide +kernel
theorem dX8_go_38 : decode cX8_go 38 = .ok (.getfield 7, 3) := by decide +kernel
theorem dX8_go_41 : decode cX8_go 41 = .ok (.iload_n 2, 1) := by decide +kernel
theorem dX8_go_42 : decode cX8_go 42 = .ok (.iaload, 1) := by decide +kernel
theorem dX8_go_43 : decode cX8_go 43 = .ok (.iconst 1, 1) := by decide +kernel
theorem dX8_go_44 : decode cX8_go 44 = .ok (.if_icmp .ne 5, 3) := by decide +kernel
theorem dX8_go_47 : decode cX8_go 47 = .ok (.iconst (-1), 1) := by decide +kernel
theorem dX8_go_48 : decode cX8_go 48 = .ok (.ireturn, 1) := by decide +kernel
theorem dX8_go_49 : decode cX8_go 49 = .ok (.aload_n 0, 1) := by decide +kernel
theorem dX8_go_50 : decode cX8_go 50 = .ok (.getfield 7, 3) := by decide +kernel
theorem dX8_go_53 : decode cX8_go 53 = .ok (.iload_n 2, 1) := by decide +kernel
theorem dX8_go_54 : decode cX8_go 54 = .ok (.iaload, 1) := by decide +kernel
theorem dX8_go_55 : decode cX8_go 55 = .ok (.iconst 2, 1) := by decide +kernel
theorem dX8_go_56 : decode cX8_go 56 = .ok (.if_icmp .ne 19, 3) := by decide +kernel
theorem dX8_go_59 : decode cX8_go 59 = .ok (.iload_n 1, 1) := by decide +kernel
theorem dX8_go_60 : decode cX8_go 60 = .ok (.aload_n 0, 1) := by decide +kernel
theorem dX8_go_61 : decode cX8_go 61 = .ok (.getfield 13, 3) := by decide +kernel
theorem dX8_go_64 : decode cX8_go 64 = .ok (.iload_n 2, 1) := by decide +kernel
theorem dX8_go_65 : decode cX8_go 65 = .ok (.iaload, 1) := by decide +kernel
theorem dX8_go_66 : decode cX8_go 66 = .ok (.if_icmp .ne 7, 3) := by decide +kernel
theorem dX8_go_69 : decode cX8_go 69 = .ok (.iconst 1, 1) := by decide +kernel
theorem dX8_go_70 : decode cX8_go 70 = .ok (.goto 4, 3) := by decide +kernel
theorem dX8_go_73 : decode cX8_go 73 = .ok (.iconst (-1), 1) := by decide +kernel
theorem dX8_go_74 : decode cX8_go 74 = .ok (.ireturn, 1) := by decide +kernel
theorem dX8_go_75 : decode cX8_go 75 = .ok (.aload_n 0, 1) := by decide +kernel
theorem dX8_go_76 : decode cX8_go 76 = .ok (.getfield 7, 3) := by decide +kernel
theorem dX8_go_79 : decode cX8_go 79 = .ok (.iload_n 2, 1) := by decide +kernel
theorem dX8_go_80 : decode cX8_go 80 = .ok (.iaload, 1) := by decide +kernel
theorem dX8_go_81 : decode cX8_go 81 = .ok (.iconst 3, 1) := by decide +kernel
theorem dX8_go_82 : decode cX8_go 82 = .ok (.if_icmp .ne 48, 3) := by decide +kernel
theorem dX8_go_85 : decode cX8_go 85 = .ok (.aload_n 0, 1) := by decide +kernel
theorem dX8_go_86 : decode cX8_go 86 = .ok (.getfield 57, 3) := by decide +kernel
theorem dX8_go_89 : decode cX8_go 89 = .ok (.aload_n 0, 1) := by decide +kernel
theorem dX8_go_90 : decode cX8_go 90 = .ok (.getfield 116, 3) := by decide +kernel
theorem dX8_go_93 : decode cX8_go 93 = .ok (.aload_n 0, 1) := by decide +kernel
theorem dX8_go_94 : decode cX8_go 94 = .ok (.getfield 19, 3) := by decide +kernel
theorem dX8_go_97 : decode cX8_go 97 = .ok (.iload_n 2, 1) := by decide +kernel
theorem dX8_go_98 : decode cX8_go 98 = .ok (.iaload, 1) := by decide +kernel
theorem dX8_go_99 : decode cX8_go 99 = .ok (.iastore, 1) := by decide +kernel
theorem dX8_go_100 : decode cX8_go 100 = .ok (.aload_n 0, 1) := by decide +kernel
theorem dX8_go_101 : decode cX8_go 101 = .ok (.getfield 57, 3) := by decide +kernel
theorem dX8_go_104 : decode cX8_go 104 = .ok (.aload_n 0, 1) := by decide +kernel
theorem dX8_go_105 : decode cX8_go 105 = .ok (.getfield 116, 3) := by decide +kernel
theorem dX8_go_108 : decode cX8_go 108 = .ok (.iconst 1, 1) := by decide +kernel
theorem dX8_go_109 : decode cX8_go 109 = .ok (.iadd, 1) := by decide +kernel
theorem dX8_go_110 : decode cX8_go 110 = .ok (.aload_n 0, 1) := by decide +kernel
theorem dX8_go_111 : decode cX8_go 111 = .ok (.getfield 16, 3) := by decide +kernel
theorem dX8_go_114 : decode cX8_go 114 = .ok (.iload_n 2, 1) := by decide +kernel
theorem dX8_go_115 : decode cX8_go 115 = .ok (.iaload, 1) := by decide +kernel
theorem dX8_go_116 : decode cX8_go 116 = .ok (.iastore, 1) := by decide +kernel
theorem dX8_go_117 : decode cX8_go 117 = .ok (.aload_n 0, 1) := by decide +kernel
theorem dX8_go_118 : decode cX8_go 118 = .ok (.aload_n 0, 1) := by decide +kernel
theorem dX8_go_119 : decode cX8_go 119 = .ok (.getfield 116, 3) := by decide +kernel
theorem dX8_go_122 : decode cX8_go 122 = .ok (.iconst 2, 1) := by decide +kernel
theorem dX8_go_123 : decode cX8_go 123 = .ok (.iadd, 1) := by decide +kernel
theorem dX8_go_124 : decode cX8_go 124 = .ok (.putfield 116, 3) := by decide +kernel
theorem dX8_go_127 : decode cX8_go 127 = .ok (.goto 153, 3) := by decide +kernel
theorem dX8_go_130 : decode cX8_go 130 = .ok (.aload_n 0, 1) := by decide +kernel
theorem dX8_go_131 : decode cX8_go 131 = .ok (.getfield 7, 3) := by decide +kernel
theorem dX8_go_134 : decode cX8_go 134 = .ok (.iload_n 2, 1) := by decide +kernel
theorem dX8_go_135 : decode cX8_go 135 = .ok (.iaload, 1) := by decide +kernel
theorem dX8_go_136 : decode cX8_go 136 = .ok (.bipush 6, 2) := by decide +kernel
theorem dX8_go_138 : decode cX8_go 138 = .ok (.if_icmp .eq 13, 3) := by decide +kernel
theorem dX8_go_141 : decode cX8_go 141 = .ok (.aload_n 0, 1) := by decide +kernel
theorem dX8_go_142 : decode cX8_go 142 = .ok (.getfield 7, 3) := by decide +kernel
theorem dX8_go_145 : decode cX8_go 145 = .ok (.iload_n 2, 1) := by decide +kernel
theorem dX8_go_146 : decode cX8_go 146 = .ok (.iaload, 1) := by decide +kernel
theorem dX8_go_147 : decode cX8_go 147 = .ok (.iconst 5, 1) := by decide +kernel
theorem dX8_go_148 : decode cX8_go 148 = .ok (.if_icmp .ne 51, 3) := by decide +kernel
theorem dX8_go_151 : decode cX8_go 151 = .ok (.aload_n 0, 1) := by decide +kernel
theorem dX8_go_152 : decode cX8_go 152 = .ok (.getfield 57, 3) := by decide +kernel
theorem dX8_go_155 : decode cX8_go 155 = .ok (.aload_n 0, 1) := by decide +kernel
theorem dX8_go_156 : decode cX8_go 156 = .ok (.getfield 116, 3) := by decide +kernel
theorem dX8_go_159 : decode cX8_go 159 = .ok (.aload_n 0, 1) := by decide +kernel
theorem dX8_go_160 : decode cX8_go 160 = .ok (.getfield 7, 3) := by decide +kernel
theorem dX8_go_163 : decode cX8_go 163 = .ok (.iload_n 2, 1) := by decide +kernel
theorem dX8_go_164 : decode cX8_go 164 = .ok (.iaload, 1) := by decide +kernel
theorem dX8_go_165 : decode cX8_go 165 = .ok (.bipush 6, 2) := by decide +kernel
theorem dX8_go_167 : decode cX8_go 167 = .ok (.if_icmp .ne 12, 3) := by decide +kernel
theorem dX8_go_170 : decode cX8_go 170 = .ok (.aload_n 0, 1) := by decide +kernel
theorem dX8_go_171 : decode cX8_go 171 = .ok (.getfield 16, 3) := by decide +kernel
theorem dX8_go_174 : decode cX8_go 174 = .ok (.iload_n 2, 1) := by decide +kernel
theorem dX8_go_175 : decode cX8_go 175 = .ok (.iaload, 1) := by decide +kernel
theorem dX8_go_176 : decode cX8_go 176 = .ok (.goto 9, 3) := by decide +kernel
theorem dX8_go_179 : decode cX8_go 179 = .ok (.aload_n 0, 1) := by decide +kernel
theorem dX8_go_180 : decode cX8_go 180 = .ok (.getfield 41, 3) := by decide +kernel
theorem dX8_go_183 : decode cX8_go 183 = .ok (.iload_n 2, 1) := by decide +kernel
theorem dX8_go_184 : decode cX8_go 184 = .ok (.iaload, 1) := by decide +kernel
theorem dX8_go_185 : decode cX8_go 185 = .ok (.iastore, 1) := by decide +kernel
theorem dX8_go_186 : decode cX8_go 186 = .ok (.aload_n 0, 1) := by decide +kernel
theorem dX8_go_187 : decode cX8_go 187 = .ok (.dup, 1) := by decide +kernel
theorem dX8_go_188 : decode cX8_go 188 = .ok (.getfield 116, 3) := by decide +kernel
theorem dX8_go_191 : decode cX8_go 191 = .ok (.iconst 1, 1) := by decide +kernel
theorem dX8_go_192 : decode cX8_go 192 = .ok (.iadd, 1) := by decide +kernel
theorem dX8_go_193 : decode cX8_go 193 = .ok (.putfield 116, 3) := by decide +kernel
theorem dX8_go_196 : decode cX8_go 196 = .ok (.goto 84, 3) := by decide +kernel
theorem dX8_go_199 : decode cX8_go 199 = .ok (.aload_n 0, 1) := by decide +kernel
theorem dX8_go_200 : decode cX8_go 200 = .ok (.getfield 7, 3) := by decide +kernel
theorem dX8_go_203 : decode cX8_go 203 = .ok (.iload_n 2, 1) := by decide +kernel
theorem dX8_go_204 : decode cX8_go 204 = .ok (.iaload, 1) := by decide +kernel
theorem dX8_go_205 : decode cX8_go 205 = .ok (.iconst 4, 1) := by decide +kernel
theorem dX8_go_206 : decode cX8_go 206 = .ok (.if_icmp .ne 74, 3) := by decide +kernel
theorem dX8_go_209 : decode cX8_go 209 = .ok (.aload_n 0, 1) := by decide +kernel
theorem dX8_go_210 : decode cX8_go 210 = .ok (.iload_n 2, 1) := by decide +kernel
theorem dX8_go_211 : decode cX8_go 211 = .ok (.iload_n 1, 1) := by decide +kernel
theorem dX8_go_212 : decode cX8_go 212 = .ok (.invokevirtual 122, 3) := by decide +kernel
theorem dX8_go_215 : decode cX8_go 215 = .ok (.istore_n 3, 1) := by decide +kernel
theorem dX8_go_216 : decode cX8_go 216 = .ok (.iload_n 3, 1) := by decide +kernel
theorem dX8_go_217 : decode cX8_go 217 = .ok (.ifCond .ge 5, 3) := by decide +kernel
theorem dX8_go_220 : decode cX8_go 220 = .ok (.iconst (-1), 1) := by decide +kernel
theorem dX8_go_221 : decode cX8_go 221 = .ok (.ireturn, 1) := by decide +kernel
theorem dX8_go_222 : decode cX8_go 222 = .ok (.aload_n 0, 1) := by decide +kernel
theorem dX8_go_223 : decode cX8_go 223 = .ok (.getfield 54, 3) := by decide +kernel
theorem dX8_go_226 : decode cX8_go 226 = .ok (.aload_n 0, 1) := by decide +kernel
theorem dX8_go_227 : decode cX8_go 227 = .ok (.getfield 126, 3) := by decide +kernel
theorem dX8_go_230 : decode cX8_go 230 = .ok (.iload_n 3, 1) := by decide +kernel
theorem dX8_go_231 : decode cX8_go 231 = .ok (.iastore, 1) := by decide +kernel
theorem dX8_go_232 : decode cX8_go 232 = .ok (.aload_n 0, 1) := by decide +kernel
theorem dX8_go_233 : decode cX8_go 233 = .ok (.dup, 1) := by decide +kernel
theorem dX8_go_234 : decode cX8_go 234 = .ok (.getfield 126, 3) := by decide +kernel
theorem dX8_go_237 : decode cX8_go 237 = .ok (.iconst 1, 1) := by decide +kernel
theorem dX8_go_238 : decode cX8_go 238 = .ok (.iadd, 1) := by decide +kernel
theorem dX8_go_239 : decode cX8_go 239 = .ok (.putfield 126, 3) := by decide +kernel
theorem dX8_go_242 : decode cX8_go 242 = .ok (.aload_n 0, 1) := by decide +kernel
theorem dX8_go_243 : decode cX8_go 243 = .ok (.getfield 57, 3) := by decide +kernel
theorem dX8_go_246 : decode cX8_go 246 = .ok (.aload_n 0, 1) := by decide +kernel
theorem dX8_go_247 : decode cX8_go 247 = .ok (.getfield 116, 3) := by decide +kernel
theorem dX8_go_250 : decode cX8_go 250 = .ok (.iload_n 3, 1) := by decide +kernel
theorem dX8_go_251 : decode cX8_go 251 = .ok (.ifCond .ne 12, 3) := by decide +kernel
theorem dX8_go_254 : decode cX8_go 254 = .ok (.aload_n 0, 1) := by decide +kernel
theorem dX8_go_255 : decode cX8_go 255 = .ok (.getfield 16, 3) := by decide +kernel
theorem dX8_go_258 : decode cX8_go 258 = .ok (.iload_n 2, 1) := by decide +kernel
theorem dX8_go_259 : decode cX8_go 259 = .ok (.iaload, 1) := by decide +kernel
theorem dX8_go_260 : decode cX8_go 260 = .ok (.goto 9, 3) := by decide +kernel
theorem dX8_go_263 : decode cX8_go 263 = .ok (.aload_n 0, 1) := by decide +kernel
theorem dX8_go_264 : decode cX8_go 264 = .ok (.getfield 19, 3) := by decide +kernel
theorem dX8_go_267 : decode cX8_go 267 = .ok (.iload_n 2, 1) := by decide +kernel
theorem dX8_go_268 : decode cX8_go 268 = .ok (.iaload, 1) := by decide +kernel
theorem dX8_go_269 : decode cX8_go 269 = .ok (.iastore, 1) := by decide +kernel
theorem dX8_go_270 : decode cX8_go 270 = .ok (.aload_n 0, 1) := by decide +kernel
theorem dX8_go_271 : decode cX8_go 271 = .ok (.dup, 1) := by decide +kernel
theorem dX8_go_272 : decode cX8_go 272 = .ok (.getfield 116, 3) := by decide +kernel
theorem dX8_go_275 : decode cX8_go 275 = .ok (.iconst 1, 1) := by decide +kernel
theorem dX8_go_276 : decode cX8_go 276 = .ok (.iadd, 1) := by decide +kernel
theorem dX8_go_277 : decode cX8_go 277 = .ok (.putfield 116, 3) := by decide +kernel
theorem dX8_go_280 : decode cX8_go 280 = .ok (.goto (-280), 3) := by decide +kernel
theorem dX8_go_283 : decode cX8_go 283 = .ok (.iconst 0, 1) := by decide +kernel
theorem dX8_go_284 : decode cX8_go 284 = .ok (.ireturn, 1) := by decide +kernel
theorem dX8_choice_0 : decode cX8_choice 0 = .ok (.aload_n 0, 1) := by decide +kernel
theorem dX8_choice_1 : decode cX8_choice 1 = .ok (.getfield 16, 3) := by decide +kernel
theorem dX8_choice_4 : decode cX8_choice 4 = .ok (.iload_n 1, 1) := by decide +kernel
theorem dX8_choice_5 : decode cX8_choice 5 = .ok (.iaload, 1) := by decide +kernel
theorem dX8_choice_6 : decode cX8_choice 6 = .ok (.istore_n 3, 1) := by decide +kernel
theorem dX8_choice_7 : decode cX8_choice 7 = .ok (.aload_n 0, 1) := by decide +kernel
theorem dX8_choice_8 : decode cX8_choice 8 = .ok (.getfield 19, 3) := by decide +kernel
theorem dX8_choice_11 : decode cX8_choice 11 = .ok (.iload_n 1, 1) := by decide +kernel
theorem dX8_choice_12 : decode cX8_choice 12 = .ok (.iaload, 1) := by decide +kernel
theorem dX8_choice_13 : decode cX8_choice 13 = .ok (.istore 4, 2) := by decide +kernel
theorem dX8_choice_15 : decode cX8_choice 15 = .ok (.iload_n 2, 1) := by decide +kernel
theorem dX8_choice_16 : decode cX8_choice 16 = .ok (.ifCond .lt 19, 3) := by decide +kernel
theorem dX8_choice_19 : decode cX8_choice 19 = .ok (.aload_n 0, 1) := by decide +kernel
theorem dX8_choice_20 : decode cX8_choice 20 = .ok (.getfield 32, 3) := by decide +kernel
theorem dX8_choice_23 : decode cX8_choice 23 = .ok (.iload_n 3, 1) := by decide +kernel
theorem dX8_choice_24 : decode cX8_choice 24 = .ok (.iaload, 1) := by decide +kernel
theorem dX8_choice_25 : decode cX8_choice 25 = .ok (.iload_n 2, 1) := by decide +kernel
theorem dX8_choice_26 : decode cX8_choice 26 = .ok (.ishr, 1) := by decide +kernel
theorem dX8_choice_27 : decode cX8_choice 27 = .ok (.iconst 1, 1) := by decide +kernel
theorem dX8_choice_28 : decode cX8_choice 28 = .ok (.iand, 1) := by decide +kernel
theorem dX8_choice_29 : decode cX8_choice 29 = .ok (.iconst 1, 1) := by decide +kernel
theorem dX8_choice_30 : decode cX8_choice 30 = .ok (.if_icmp .ne 5, 3) := by decide +kernel
theorem dX8_choice_33 : decode cX8_choice 33 = .ok (.iconst 0, 1) := by decide +kernel
theorem dX8_choice_34 : decode cX8_choice 34 = .ok (.ireturn, 1) := by decide +kernel
theorem dX8_choice_35 : decode cX8_choice 35 = .ok (.iload_n 2, 1) := by decide +kernel
theorem dX8_choice_36 : decode cX8_choice 36 = .ok (.ifCond .lt 20, 3) := by decide +kernel
theorem dX8_choice_39 : decode cX8_choice 39 = .ok (.aload_n 0, 1) := by decide +kernel
theorem dX8_choice_40 : decode cX8_choice 40 = .ok (.getfield 32, 3) := by decide +kernel
theorem dX8_choice_43 : decode cX8_choice 43 = .ok (.iload 4, 2) := by decide +kernel
theorem dX8_choice_45 : decode cX8_choice 45 = .ok (.iaload, 1) := by decide +kernel
theorem dX8_choice_46 : decode cX8_choice 46 = .ok (.iload_n 2, 1) := by decide +kernel
theorem dX8_choice_47 : decode cX8_choice 47 = .ok (.ishr, 1) := by decide +kernel
theorem dX8_choice_48 : decode cX8_choice 48 = .ok (.iconst 1, 1) := by decide +kernel
theorem dX8_choice_49 : decode cX8_choice 49 = .ok (.iand, 1) := by decide +kernel
theorem dX8_choice_50 : decode cX8_choice 50 = .ok (.iconst 1, 1) := by decide +kernel
theorem dX8_choice_51 : decode cX8_choice 51 = .ok (.if_icmp .ne 5, 3) := by decide +kernel
theorem dX8_choice_54 : decode cX8_choice 54 = .ok (.iconst 1, 1) := by decide +kernel
theorem dX8_choice_55 : decode cX8_choice 55 = .ok (.ireturn, 1) := by decide +kernel
theorem dX8_choice_56 : decode cX8_choice 56 = .ok (.aload_n 0, 1) := by decide +kernel
theorem dX8_choice_57 : decode cX8_choice 57 = .ok (.getfield 28, 3) := by decide +kernel
theorem dX8_choice_60 : decode cX8_choice 60 = .ok (.iload_n 3, 1) := by decide +kernel
theorem dX8_choice_61 : decode cX8_choice 61 = .ok (.baload, 1) := by decide +kernel
theorem dX8_choice_62 : decode cX8_choice 62 = .ok (.ifCond .eq 7, 3) := by decide +kernel
theorem dX8_choice_65 : decode cX8_choice 65 = .ok (.iconst 0, 1) := by decide +kernel
theorem dX8_choice_66 : decode cX8_choice 66 = .ok (.goto 18, 3) := by decide +kernel
theorem dX8_choice_69 : decode cX8_choice 69 = .ok (.aload_n 0, 1) := by decide +kernel
theorem dX8_choice_70 : decode cX8_choice 70 = .ok (.getfield 28, 3) := by decide +kernel
theorem dX8_choice_73 : decode cX8_choice 73 = .ok (.iload 4, 2) := by decide +kernel
theorem dX8_choice_75 : decode cX8_choice 75 = .ok (.baload, 1) := by decide +kernel
theorem dX8_choice_76 : decode cX8_choice 76 = .ok (.ifCond .eq 7, 3) := by decide +kernel
theorem dX8_choice_79 : decode cX8_choice 79 = .ok (.iconst 1, 1) := by decide +kernel
theorem dX8_choice_80 : decode cX8_choice 80 = .ok (.goto 4, 3) := by decide +kernel
theorem dX8_choice_83 : decode cX8_choice 83 = .ok (.iconst (-1), 1) := by decide +kernel
theorem dX8_choice_84 : decode cX8_choice 84 = .ok (.ireturn, 1) := by decide +kernel
theorem dX8_beginAt_0 : decode cX8_beginAt 0 = .ok (.aload_n 0, 1) := by decide +kernel
theorem dX8_beginAt_1 : decode cX8_beginAt 1 = .ok (.getfield 57, 3) := by decide +kernel
theorem dX8_beginAt_4 : decode cX8_beginAt 4 = .ok (.iconst 0, 1) := by decide +kernel
theorem dX8_beginAt_5 : decode cX8_beginAt 5 = .ok (.iload_n 1, 1) := by decide +kernel
theorem dX8_beginAt_6 : decode cX8_beginAt 6 = .ok (.iastore, 1) := by decide +kernel
theorem dX8_beginAt_7 : decode cX8_beginAt 7 = .ok (.aload_n 0, 1) := by decide +kernel
theorem dX8_beginAt_8 : decode cX8_beginAt 8 = .ok (.iconst 1, 1) := by decide +kernel
theorem dX8_beginAt_9 : decode cX8_beginAt 9 = .ok (.putfield 116, 3) := by decide +kernel
theorem dX8_beginAt_12 : decode cX8_beginAt 12 = .ok (.aload_n 0, 1) := by decide +kernel
theorem dX8_beginAt_13 : decode cX8_beginAt 13 = .ok (.iconst 0, 1) := by decide +kernel
theorem dX8_beginAt_14 : decode cX8_beginAt 14 = .ok (.putfield 119, 3) := by decide +kernel
theorem dX8_beginAt_17 : decode cX8_beginAt 17 = .ok (.aload_n 0, 1) := by decide +kernel
theorem dX8_beginAt_18 : decode cX8_beginAt 18 = .ok (.iconst 0, 1) := by decide +kernel
theorem dX8_beginAt_19 : decode cX8_beginAt 19 = .ok (.putfield 126, 3) := by decide +kernel
theorem dX8_beginAt_22 : decode cX8_beginAt 22 = .ok (.return_, 1) := by decide +kernel
theorem dX8_read_0 : decode cX8_read 0 = .ok (.aload_n 0, 1) := by decide +kernel
theorem dX8_read_1 : decode cX8_read 1 = .ok (.aload_n 0, 1) := by decide +kernel
theorem dX8_read_2 : decode cX8_read 2 = .ok (.iload_n 1, 1) := by decide +kernel
theorem dX8_read_3 : decode cX8_read 3 = .ok (.invokevirtual 83, 3) := by decide +kernel
theorem dX8_read_6 : decode cX8_read 6 = .ok (.ifCond .ne 7, 3) := by decide +kernel
theorem dX8_read_9 : decode cX8_read 9 = .ok (.iconst 1, 1) := by decide +kernel
theorem dX8_read_10 : decode cX8_read 10 = .ok (.goto 16, 3) := by decide +kernel
theorem dX8_read_13 : decode cX8_read 13 = .ok (.aload_n 0, 1) := by decide +kernel
theorem dX8_read_14 : decode cX8_read 14 = .ok (.iload_n 1, 1) := by decide +kernel
theorem dX8_read_15 : decode cX8_read 15 = .ok (.invokevirtual 110, 3) := by decide +kernel
theorem dX8_read_18 : decode cX8_read 18 = .ok (.ifCond .eq 7, 3) := by decide +kernel
theorem dX8_read_21 : decode cX8_read 21 = .ok (.iconst 2, 1) := by decide +kernel
theorem dX8_read_22 : decode cX8_read 22 = .ok (.goto 4, 3) := by decide +kernel
theorem dX8_read_25 : decode cX8_read 25 = .ok (.iconst 0, 1) := by decide +kernel
theorem dX8_read_26 : decode cX8_read 26 = .ok (.putfield 73, 3) := by decide +kernel
theorem dX8_read_29 : decode cX8_read 29 = .ok (.aload_n 0, 1) := by decide +kernel
theorem dX8_read_30 : decode cX8_read 30 = .ok (.getfield 73, 3) := by decide +kernel
theorem dX8_read_33 : decode cX8_read 33 = .ok (.ifCond .le 5, 3) := by decide +kernel
theorem dX8_read_36 : decode cX8_read 36 = .ok (.iconst 0, 1) := by decide +kernel
theorem dX8_read_37 : decode cX8_read 37 = .ok (.ireturn, 1) := by decide +kernel
theorem dX8_read_38 : decode cX8_read 38 = .ok (.aload_n 0, 1) := by decide +kernel
theorem dX8_read_39 : decode cX8_read 39 = .ok (.iload_n 1, 1) := by decide +kernel
theorem dX8_read_40 : decode cX8_read 40 = .ok (.invokevirtual 129, 3) := by decide +kernel
theorem dX8_read_43 : decode cX8_read 43 = .ok (.iconst 0, 1) := by decide +kernel
theorem dX8_read_44 : decode cX8_read 44 = .ok (.istore_n 2, 1) := by decide +kernel
theorem dX8_read_45 : decode cX8_read 45 = .ok (.iconst 1, 1) := by decide +kernel
theorem dX8_read_46 : decode cX8_read 46 = .ok (.istore_n 3, 1) := by decide +kernel
theorem dX8_read_47 : decode cX8_read 47 = .ok (.iload_n 3, 1) := by decide +kernel
theorem dX8_read_48 : decode cX8_read 48 = .ok (.iconst 1, 1) := by decide +kernel
theorem dX8_read_49 : decode cX8_read 49 = .ok (.if_icmp .ne 42, 3) := by decide +kernel
theorem dX8_read_52 : decode cX8_read 52 = .ok (.aload_n 0, 1) := by decide +kernel
theorem dX8_read_53 : decode cX8_read 53 = .ok (.iload_n 2, 1) := by decide +kernel
theorem dX8_read_54 : decode cX8_read 54 = .ok (.aload_n 0, 1) := by decide +kernel
theorem dX8_read_55 : decode cX8_read 55 = .ok (.getfield 113, 3) := by decide +kernel
theorem dX8_read_58 : decode cX8_read 58 = .ok (.if_icmp .ge 12, 3) := by decide +kernel
theorem dX8_read_61 : decode cX8_read 61 = .ok (.aload_n 0, 1) := by decide +kernel
theorem dX8_read_62 : decode cX8_read 62 = .ok (.getfield 44, 3) := by decide +kernel
theorem dX8_read_65 : decode cX8_read 65 = .ok (.iload_n 2, 1) := by decide +kernel
theorem dX8_read_66 : decode cX8_read 66 = .ok (.iaload, 1) := by decide +kernel
theorem dX8_read_67 : decode cX8_read 67 = .ok (.goto 4, 3) := by decide +kernel
theorem dX8_read_70 : decode cX8_read 70 = .ok (.iconst (-1), 1) := by decide +kernel
theorem dX8_read_71 : decode cX8_read 71 = .ok (.invokevirtual 132, 3) := by decide +kernel
theorem dX8_read_74 : decode cX8_read 74 = .ok (.istore_n 3, 1) := by decide +kernel
theorem dX8_read_75 : decode cX8_read 75 = .ok (.iload_n 3, 1) := by decide +kernel
theorem dX8_read_76 : decode cX8_read 76 = .ok (.iconst 1, 1) := by decide +kernel
theorem dX8_read_77 : decode cX8_read 77 = .ok (.if_icmp .ne 9, 3) := by decide +kernel
theorem dX8_read_80 : decode cX8_read 80 = .ok (.iload_n 2, 1) := by decide +kernel
theorem dX8_read_81 : decode cX8_read 81 = .ok (.iconst 1, 1) := by decide +kernel
theorem dX8_read_82 : decode cX8_read 82 = .ok (.iadd, 1) := by decide +kernel
theorem dX8_read_83 : decode cX8_read 83 = .ok (.goto 4, 3) := by decide +kernel
theorem dX8_read_86 : decode cX8_read 86 = .ok (.iload_n 2, 1) := by decide +kernel
theorem dX8_read_87 : decode cX8_read 87 = .ok (.istore_n 2, 1) := by decide +kernel
theorem dX8_read_88 : decode cX8_read 88 = .ok (.goto (-41), 3) := by decide +kernel
theorem dX8_read_91 : decode cX8_read 91 = .ok (.iload_n 3, 1) := by decide +kernel
theorem dX8_read_92 : decode cX8_read 92 = .ok (.ifCond .lt 11, 3) := by decide +kernel
theorem dX8_read_95 : decode cX8_read 95 = .ok (.iload_n 2, 1) := by decide +kernel
theorem dX8_read_96 : decode cX8_read 96 = .ok (.aload_n 0, 1) := by decide +kernel
theorem dX8_read_97 : decode cX8_read 97 = .ok (.getfield 113, 3) := by decide +kernel
theorem dX8_read_100 : decode cX8_read 100 = .ok (.if_icmp .ge 14, 3) := by decide +kernel
theorem dX8_read_103 : decode cX8_read 103 = .ok (.aload_n 0, 1) := by decide +kernel
theorem dX8_read_104 : decode cX8_read 104 = .ok (.iload_n 2, 1) := by decide +kernel
theorem dX8_read_105 : decode cX8_read 105 = .ok (.putfield 47, 3) := by decide +kernel
theorem dX8_read_108 : decode cX8_read 108 = .ok (.aload_n 0, 1) := by decide +kernel
theorem dX8_read_109 : decode cX8_read 109 = .ok (.iconst 3, 1) := by decide +kernel
theorem dX8_read_110 : decode cX8_read 110 = .ok (.invokevirtual 135, 3) := by decide +kernel
theorem dX8_read_113 : decode cX8_read 113 = .ok (.ireturn, 1) := by decide +kernel
theorem dX8_read_114 : decode cX8_read 114 = .ok (.aload_n 0, 1) := by decide +kernel
theorem dX8_read_115 : decode cX8_read 115 = .ok (.iconst (-1), 1) := by decide +kernel
theorem dX8_read_116 : decode cX8_read 116 = .ok (.putfield 47, 3) := by decide +kernel
theorem dX8_read_119 : decode cX8_read 119 = .ok (.aload_n 0, 1) := by decide +kernel
theorem dX8_read_120 : decode cX8_read 120 = .ok (.aload_n 0, 1) := by decide +kernel
theorem dX8_read_121 : decode cX8_read 121 = .ok (.getfield 126, 3) := by decide +kernel
theorem dX8_read_124 : decode cX8_read 124 = .ok (.putfield 138, 3) := by decide +kernel
theorem dX8_read_127 : decode cX8_read 127 = .ok (.iconst 0, 1) := by decide +kernel
theorem dX8_read_128 : decode cX8_read 128 = .ok (.istore 4, 2) := by decide +kernel
theorem dX8_read_130 : decode cX8_read 130 = .ok (.iload 4, 2) := by decide +kernel
theorem dX8_read_132 : decode cX8_read 132 = .ok (.aload_n 0, 1) := by decide +kernel
theorem dX8_read_133 : decode cX8_read 133 = .ok (.getfield 126, 3) := by decide +kernel
theorem dX8_read_136 : decode cX8_read 136 = .ok (.if_icmp .ge 23, 3) := by decide +kernel
theorem dX8_read_139 : decode cX8_read 139 = .ok (.aload_n 0, 1) := by decide +kernel
theorem dX8_read_140 : decode cX8_read 140 = .ok (.getfield 51, 3) := by decide +kernel
theorem dX8_read_143 : decode cX8_read 143 = .ok (.iload 4, 2) := by decide +kernel
theorem dX8_read_145 : decode cX8_read 145 = .ok (.aload_n 0, 1) := by decide +kernel
theorem dX8_read_146 : decode cX8_read 146 = .ok (.getfield 54, 3) := by decide +kernel
theorem dX8_read_149 : decode cX8_read 149 = .ok (.iload 4, 2) := by decide +kernel
theorem dX8_read_151 : decode cX8_read 151 = .ok (.iaload, 1) := by decide +kernel
theorem dX8_read_152 : decode cX8_read 152 = .ok (.iastore, 1) := by decide +kernel
theorem dX8_read_153 : decode cX8_read 153 = .ok (.iinc 4 1, 3) := by decide +kernel
theorem dX8_read_156 : decode cX8_read 156 = .ok (.goto (-26), 3) := by decide +kernel
theorem dX8_read_159 : decode cX8_read 159 = .ok (.aload_n 0, 1) := by decide +kernel
theorem dX8_read_160 : decode cX8_read 160 = .ok (.getfield 119, 3) := by decide +kernel
theorem dX8_read_163 : decode cX8_read 163 = .ok (.ireturn, 1) := by decide +kernel
theorem dX8_stopped_0 : decode cX8_stopped 0 = .ok (.aload_n 0, 1) := by decide +kernel
theorem dX8_stopped_1 : decode cX8_stopped 1 = .ok (.iconst 0, 1) := by decide +kernel
theorem dX8_stopped_2 : decode cX8_stopped 2 = .ok (.putfield 73, 3) := by decide +kernel
theorem dX8_stopped_5 : decode cX8_stopped 5 = .ok (.aload_n 0, 1) := by decide +kernel
theorem dX8_stopped_6 : decode cX8_stopped 6 = .ok (.getfield 47, 3) := by decide +kernel
theorem dX8_stopped_9 : decode cX8_stopped 9 = .ok (.ireturn, 1) := by decide +kernel
theorem dX8_trace_0 : decode cX8_trace 0 = .ok (.aload_n 0, 1) := by decide +kernel
theorem dX8_trace_1 : decode cX8_trace 1 = .ok (.iconst 0, 1) := by decide +kernel
theorem dX8_trace_2 : decode cX8_trace 2 = .ok (.putfield 73, 3) := by decide +kernel
theorem dX8_trace_5 : decode cX8_trace 5 = .ok (.aload_n 0, 1) := by decide +kernel
theorem dX8_trace_6 : decode cX8_trace 6 = .ok (.getfield 138, 3) := by decide +kernel
theorem dX8_trace_9 : decode cX8_trace 9 = .ok (.ireturn, 1) := by decide +kernel
theorem dX8_step_0 : decode cX8_step 0 = .ok (.aload_n 0, 1) := by decide +kernel
theorem dX8_step_1 : decode cX8_step 1 = .ok (.iload_n 1, 1) := by decide +kernel
theorem dX8_step_2 : decode cX8_step 2 = .ok (.ifCond .lt 11, 3) := by decide +kernel
theorem dX8_step_5 : decode cX8_step 5 = .ok (.iload_n 1, 1) := by decide +kernel
theorem dX8_step_6 : decode cX8_step 6 = .ok (.aload_n 0, 1) := by decide +kernel
theorem dX8_step_7 : decode cX8_step 7 = .ok (.getfield 138, 3) := by decide +kernel
theorem dX8_step_10 : decode cX8_step 10 = .ok (.if_icmp .lt 7, 3) := by decide +kernel
theorem dX8_step_13 : decode cX8_step 13 = .ok (.iconst 1, 1) := by decide +kernel
theorem dX8_step_14 : decode cX8_step 14 = .ok (.goto 4, 3) := by decide +kernel
theorem dX8_step_17 : decode cX8_step 17 = .ok (.iconst 0, 1) := by decide +kernel
theorem dX8_step_18 : decode cX8_step 18 = .ok (.putfield 73, 3) := by decide +kernel
theorem dX8_step_21 : decode cX8_step 21 = .ok (.aload_n 0, 1) := by decide +kernel
theorem dX8_step_22 : decode cX8_step 22 = .ok (.getfield 73, 3) := by decide +kernel
theorem dX8_step_25 : decode cX8_step 25 = .ok (.ifCond .le 7, 3) := by decide +kernel
theorem dX8_step_28 : decode cX8_step 28 = .ok (.iconst 0, 1) := by decide +kernel
theorem dX8_step_29 : decode cX8_step 29 = .ok (.goto 9, 3) := by decide +kernel
theorem dX8_step_32 : decode cX8_step 32 = .ok (.aload_n 0, 1) := by decide +kernel
theorem dX8_step_33 : decode cX8_step 33 = .ok (.getfield 51, 3) := by decide +kernel
theorem dX8_step_36 : decode cX8_step 36 = .ok (.iload_n 1, 1) := by decide +kernel
theorem dX8_step_37 : decode cX8_step 37 = .ok (.iaload, 1) := by decide +kernel
theorem dX8_step_38 : decode cX8_step 38 = .ok (.ireturn, 1) := by decide +kernel
theorem dX8_countAt_0 : decode cX8_countAt 0 = .ok (.bipush 17, 2) := by decide +kernel
theorem dX8_countAt_2 : decode cX8_countAt 2 = .ok (.aload_n 0, 1) := by decide +kernel
theorem dX8_countAt_3 : decode cX8_countAt 3 = .ok (.getfield 16, 3) := by decide +kernel
theorem dX8_countAt_6 : decode cX8_countAt 6 = .ok (.iload_n 1, 1) := by decide +kernel
theorem dX8_countAt_7 : decode cX8_countAt 7 = .ok (.iaload, 1) := by decide +kernel
theorem dX8_countAt_8 : decode cX8_countAt 8 = .ok (.imul, 1) := by decide +kernel
theorem dX8_countAt_9 : decode cX8_countAt 9 = .ok (.istore_n 3, 1) := by decide +kernel
theorem dX8_countAt_10 : decode cX8_countAt 10 = .ok (.bipush 17, 2) := by decide +kernel
theorem dX8_countAt_12 : decode cX8_countAt 12 = .ok (.aload_n 0, 1) := by decide +kernel
theorem dX8_countAt_13 : decode cX8_countAt 13 = .ok (.getfield 19, 3) := by decide +kernel
theorem dX8_countAt_16 : decode cX8_countAt 16 = .ok (.iload_n 1, 1) := by decide +kernel
theorem dX8_countAt_17 : decode cX8_countAt 17 = .ok (.iaload, 1) := by decide +kernel
theorem dX8_countAt_18 : decode cX8_countAt 18 = .ok (.imul, 1) := by decide +kernel
theorem dX8_countAt_19 : decode cX8_countAt 19 = .ok (.istore 4, 2) := by decide +kernel
theorem dX8_countAt_21 : decode cX8_countAt 21 = .ok (.lconst 0, 1) := by decide +kernel
theorem dX8_countAt_22 : decode cX8_countAt 22 = .ok (.lstore 5, 2) := by decide +kernel
theorem dX8_countAt_24 : decode cX8_countAt 24 = .ok (.aload_n 0, 1) := by decide +kernel
theorem dX8_countAt_25 : decode cX8_countAt 25 = .ok (.getfield 7, 3) := by decide +kernel
theorem dX8_countAt_28 : decode cX8_countAt 28 = .ok (.iload_n 1, 1) := by decide +kernel
theorem dX8_countAt_29 : decode cX8_countAt 29 = .ok (.iaload, 1) := by decide +kernel
theorem dX8_countAt_30 : decode cX8_countAt 30 = .ok (.tableswitch 136 0 6 #[42, 136, 52, 91, 63, 136, 82], 42) := by decide +kernel
theorem dX8_countAt_72 : decode cX8_countAt 72 = .ok (.iload_n 2, 1) := by decide +kernel
theorem dX8_countAt_73 : decode cX8_countAt 73 = .ok (.ifCond .ne 7, 3) := by decide +kernel
theorem dX8_countAt_76 : decode cX8_countAt 76 = .ok (.lconst 1, 1) := by decide +kernel
theorem dX8_countAt_77 : decode cX8_countAt 77 = .ok (.goto 4, 3) := by decide +kernel
theorem dX8_countAt_80 : decode cX8_countAt 80 = .ok (.lconst 0, 1) := by decide +kernel
theorem dX8_countAt_81 : decode cX8_countAt 81 = .ok (.lreturn, 1) := by decide +kernel
theorem dX8_countAt_82 : decode cX8_countAt 82 = .ok (.iload_n 2, 1) := by decide +kernel
theorem dX8_countAt_83 : decode cX8_countAt 83 = .ok (.iconst 1, 1) := by decide +kernel
theorem dX8_countAt_84 : decode cX8_countAt 84 = .ok (.if_icmp .ne 7, 3) := by decide +kernel
theorem dX8_countAt_87 : decode cX8_countAt 87 = .ok (.lconst 1, 1) := by decide +kernel
theorem dX8_countAt_88 : decode cX8_countAt 88 = .ok (.goto 4, 3) := by decide +kernel
theorem dX8_countAt_91 : decode cX8_countAt 91 = .ok (.lconst 0, 1) := by decide +kernel
theorem dX8_countAt_92 : decode cX8_countAt 92 = .ok (.lreturn, 1) := by decide +kernel
theorem dX8_countAt_93 : decode cX8_countAt 93 = .ok (.aload_n 0, 1) := by decide +kernel
theorem dX8_countAt_94 : decode cX8_countAt 94 = .ok (.getfield 63, 3) := by decide +kernel
theorem dX8_countAt_97 : decode cX8_countAt 97 = .ok (.iload_n 3, 1) := by decide +kernel
theorem dX8_countAt_98 : decode cX8_countAt 98 = .ok (.iload_n 2, 1) := by decide +kernel
theorem dX8_countAt_99 : decode cX8_countAt 99 = .ok (.iadd, 1) := by decide +kernel
theorem dX8_countAt_100 : decode cX8_countAt 100 = .ok (.laload, 1) := by decide +kernel
theorem dX8_countAt_101 : decode cX8_countAt 101 = .ok (.aload_n 0, 1) := by decide +kernel
theorem dX8_countAt_102 : decode cX8_countAt 102 = .ok (.getfield 63, 3) := by decide +kernel
theorem dX8_countAt_105 : decode cX8_countAt 105 = .ok (.iload 4, 2) := by decide +kernel
theorem dX8_countAt_107 : decode cX8_countAt 107 = .ok (.iload_n 2, 1) := by decide +kernel
theorem dX8_countAt_108 : decode cX8_countAt 108 = .ok (.iadd, 1) := by decide +kernel
theorem dX8_countAt_109 : decode cX8_countAt 109 = .ok (.laload, 1) := by decide +kernel
theorem dX8_countAt_110 : decode cX8_countAt 110 = .ok (.ladd, 1) := by decide +kernel
theorem dX8_countAt_111 : decode cX8_countAt 111 = .ok (.lreturn, 1) := by decide +kernel
theorem dX8_countAt_112 : decode cX8_countAt 112 = .ok (.aload_n 0, 1) := by decide +kernel
theorem dX8_countAt_113 : decode cX8_countAt 113 = .ok (.getfield 63, 3) := by decide +kernel
theorem dX8_countAt_116 : decode cX8_countAt 116 = .ok (.iload_n 3, 1) := by decide +kernel
theorem dX8_countAt_117 : decode cX8_countAt 117 = .ok (.iload_n 2, 1) := by decide +kernel
theorem dX8_countAt_118 : decode cX8_countAt 118 = .ok (.iadd, 1) := by decide +kernel
theorem dX8_countAt_119 : decode cX8_countAt 119 = .ok (.laload, 1) := by decide +kernel
theorem dX8_countAt_120 : decode cX8_countAt 120 = .ok (.lreturn, 1) := by decide +kernel
theorem dX8_countAt_121 : decode cX8_countAt 121 = .ok (.iconst 1, 1) := by decide +kernel
theorem dX8_countAt_122 : decode cX8_countAt 122 = .ok (.istore 7, 2) := by decide +kernel
theorem dX8_countAt_124 : decode cX8_countAt 124 = .ok (.iload 7, 2) := by decide +kernel
theorem dX8_countAt_126 : decode cX8_countAt 126 = .ok (.iload_n 2, 1) := by decide +kernel
theorem dX8_countAt_127 : decode cX8_countAt 127 = .ok (.if_icmp .gt 36, 3) := by decide +kernel
theorem dX8_countAt_130 : decode cX8_countAt 130 = .ok (.lload 5, 2) := by decide +kernel
theorem dX8_countAt_132 : decode cX8_countAt 132 = .ok (.aload_n 0, 1) := by decide +kernel
theorem dX8_countAt_133 : decode cX8_countAt 133 = .ok (.getfield 63, 3) := by decide +kernel
theorem dX8_countAt_136 : decode cX8_countAt 136 = .ok (.iload_n 3, 1) := by decide +kernel
theorem dX8_countAt_137 : decode cX8_countAt 137 = .ok (.iload 7, 2) := by decide +kernel
theorem dX8_countAt_139 : decode cX8_countAt 139 = .ok (.iadd, 1) := by decide +kernel
theorem dX8_countAt_140 : decode cX8_countAt 140 = .ok (.laload, 1) := by decide +kernel
theorem dX8_countAt_141 : decode cX8_countAt 141 = .ok (.aload_n 0, 1) := by decide +kernel
theorem dX8_countAt_142 : decode cX8_countAt 142 = .ok (.getfield 63, 3) := by decide +kernel
theorem dX8_countAt_145 : decode cX8_countAt 145 = .ok (.iload 4, 2) := by decide +kernel
theorem dX8_countAt_147 : decode cX8_countAt 147 = .ok (.iload_n 2, 1) := by decide +kernel
theorem dX8_countAt_148 : decode cX8_countAt 148 = .ok (.iadd, 1) := by decide +kernel
theorem dX8_countAt_149 : decode cX8_countAt 149 = .ok (.iload 7, 2) := by decide +kernel
theorem dX8_countAt_151 : decode cX8_countAt 151 = .ok (.isub, 1) := by decide +kernel
theorem dX8_countAt_152 : decode cX8_countAt 152 = .ok (.laload, 1) := by decide +kernel
theorem dX8_countAt_153 : decode cX8_countAt 153 = .ok (.lmul, 1) := by decide +kernel
theorem dX8_countAt_154 : decode cX8_countAt 154 = .ok (.ladd, 1) := by decide +kernel
theorem dX8_countAt_155 : decode cX8_countAt 155 = .ok (.lstore 5, 2) := by decide +kernel
theorem dX8_countAt_157 : decode cX8_countAt 157 = .ok (.iinc 7 1, 3) := by decide +kernel
theorem dX8_countAt_160 : decode cX8_countAt 160 = .ok (.goto (-36), 3) := by decide +kernel
theorem dX8_countAt_163 : decode cX8_countAt 163 = .ok (.lload 5, 2) := by decide +kernel
theorem dX8_countAt_165 : decode cX8_countAt 165 = .ok (.lreturn, 1) := by decide +kernel
theorem dX8_countAt_166 : decode cX8_countAt 166 = .ok (.lconst 0, 1) := by decide +kernel
theorem dX8_countAt_167 : decode cX8_countAt 167 = .ok (.lreturn, 1) := by decide +kernel
theorem dX8_countAll_0 : decode cX8_countAll 0 = .ok (.iconst 0, 1) := by decide +kernel
theorem dX8_countAll_1 : decode cX8_countAll 1 = .ok (.istore_n 2, 1) := by decide +kernel
theorem dX8_countAll_2 : decode cX8_countAll 2 = .ok (.iload_n 2, 1) := by decide +kernel
theorem dX8_countAll_3 : decode cX8_countAll 3 = .ok (.iload_n 1, 1) := by decide +kernel
theorem dX8_countAll_4 : decode cX8_countAll 4 = .ok (.if_icmp .gt 162, 3) := by decide +kernel
theorem dX8_countAll_7 : decode cX8_countAll 7 = .ok (.iconst 0, 1) := by decide +kernel
theorem dX8_countAll_8 : decode cX8_countAll 8 = .ok (.istore_n 3, 1) := by decide +kernel
theorem dX8_countAll_9 : decode cX8_countAll 9 = .ok (.iload_n 3, 1) := by decide +kernel
theorem dX8_countAll_10 : decode cX8_countAll 10 = .ok (.aload_n 0, 1) := by decide +kernel
theorem dX8_countAll_11 : decode cX8_countAll 11 = .ok (.getfield 76, 3) := by decide +kernel
theorem dX8_countAll_14 : decode cX8_countAll 14 = .ok (.if_icmp .ge 21, 3) := by decide +kernel
theorem dX8_countAll_17 : decode cX8_countAll 17 = .ok (.aload_n 0, 1) := by decide +kernel
theorem dX8_countAll_18 : decode cX8_countAll 18 = .ok (.getfield 63, 3) := by decide +kernel
theorem dX8_countAll_21 : decode cX8_countAll 21 = .ok (.bipush 17, 2) := by decide +kernel
theorem dX8_countAll_23 : decode cX8_countAll 23 = .ok (.iload_n 3, 1) := by decide +kernel
theorem dX8_countAll_24 : decode cX8_countAll 24 = .ok (.imul, 1) := by decide +kernel
theorem dX8_countAll_25 : decode cX8_countAll 25 = .ok (.iload_n 2, 1) := by decide +kernel
theorem dX8_countAll_26 : decode cX8_countAll 26 = .ok (.iadd, 1) := by decide +kernel
theorem dX8_countAll_27 : decode cX8_countAll 27 = .ok (.lconst 0, 1) := by decide +kernel
theorem dX8_countAll_28 : decode cX8_countAll 28 = .ok (.lastore, 1) := by decide +kernel
theorem dX8_countAll_29 : decode cX8_countAll 29 = .ok (.iinc 3 1, 3) := by decide +kernel
theorem dX8_countAll_32 : decode cX8_countAll 32 = .ok (.goto (-23), 3) := by decide +kernel
theorem dX8_countAll_35 : decode cX8_countAll 35 = .ok (.iconst 1, 1) := by decide +kernel
theorem dX8_countAll_36 : decode cX8_countAll 36 = .ok (.istore_n 3, 1) := by decide +kernel
theorem dX8_countAll_37 : decode cX8_countAll 37 = .ok (.iload_n 3, 1) := by decide +kernel
theorem dX8_countAll_38 : decode cX8_countAll 38 = .ok (.ifCond .eq 122, 3) := by decide +kernel
theorem dX8_countAll_41 : decode cX8_countAll 41 = .ok (.iconst 0, 1) := by decide +kernel
theorem dX8_countAll_42 : decode cX8_countAll 42 = .ok (.istore_n 3, 1) := by decide +kernel
theorem dX8_countAll_43 : decode cX8_countAll 43 = .ok (.iconst 0, 1) := by decide +kernel
theorem dX8_countAll_44 : decode cX8_countAll 44 = .ok (.istore 4, 2) := by decide +kernel
theorem dX8_countAll_46 : decode cX8_countAll 46 = .ok (.iload 4, 2) := by decide +kernel
theorem dX8_countAll_48 : decode cX8_countAll 48 = .ok (.aload_n 0, 1) := by decide +kernel
theorem dX8_countAll_49 : decode cX8_countAll 49 = .ok (.getfield 76, 3) := by decide +kernel
theorem dX8_countAll_52 : decode cX8_countAll 52 = .ok (.if_icmp .ge 105, 3) := by decide +kernel
theorem dX8_countAll_55 : decode cX8_countAll 55 = .ok (.aload_n 0, 1) := by decide +kernel
theorem dX8_countAll_56 : decode cX8_countAll 56 = .ok (.getfield 38, 3) := by decide +kernel
theorem dX8_countAll_59 : decode cX8_countAll 59 = .ok (.iload 4, 2) := by decide +kernel
theorem dX8_countAll_61 : decode cX8_countAll 61 = .ok (.baload, 1) := by decide +kernel
theorem dX8_countAll_62 : decode cX8_countAll 62 = .ok (.ifCond .ne 7, 3) := by decide +kernel
theorem dX8_countAll_65 : decode cX8_countAll 65 = .ok (.lconst 0, 1) := by decide +kernel
theorem dX8_countAll_66 : decode cX8_countAll 66 = .ok (.goto 41, 3) := by decide +kernel
theorem dX8_countAll_69 : decode cX8_countAll 69 = .ok (.aload_n 0, 1) := by decide +kernel
theorem dX8_countAll_70 : decode cX8_countAll 70 = .ok (.getfield 7, 3) := by decide +kernel
theorem dX8_countAll_73 : decode cX8_countAll 73 = .ok (.iload 4, 2) := by decide +kernel
theorem dX8_countAll_75 : decode cX8_countAll 75 = .ok (.iaload, 1) := by decide +kernel
theorem dX8_countAll_76 : decode cX8_countAll 76 = .ok (.iconst 5, 1) := by decide +kernel
theorem dX8_countAll_77 : decode cX8_countAll 77 = .ok (.if_icmp .ne 23, 3) := by decide +kernel
theorem dX8_countAll_80 : decode cX8_countAll 80 = .ok (.aload_n 0, 1) := by decide +kernel
theorem dX8_countAll_81 : decode cX8_countAll 81 = .ok (.getfield 63, 3) := by decide +kernel
theorem dX8_countAll_84 : decode cX8_countAll 84 = .ok (.bipush 17, 2) := by decide +kernel
theorem dX8_countAll_86 : decode cX8_countAll 86 = .ok (.aload_n 0, 1) := by decide +kernel
theorem dX8_countAll_87 : decode cX8_countAll 87 = .ok (.getfield 41, 3) := by decide +kernel
theorem dX8_countAll_90 : decode cX8_countAll 90 = .ok (.iload 4, 2) := by decide +kernel
theorem dX8_countAll_92 : decode cX8_countAll 92 = .ok (.iaload, 1) := by decide +kernel
theorem dX8_countAll_93 : decode cX8_countAll 93 = .ok (.imul, 1) := by decide +kernel
theorem dX8_countAll_94 : decode cX8_countAll 94 = .ok (.iload_n 2, 1) := by decide +kernel
theorem dX8_countAll_95 : decode cX8_countAll 95 = .ok (.iadd, 1) := by decide +kernel
theorem dX8_countAll_96 : decode cX8_countAll 96 = .ok (.laload, 1) := by decide +kernel
theorem dX8_countAll_97 : decode cX8_countAll 97 = .ok (.goto 10, 3) := by decide +kernel
theorem dX8_countAll_100 : decode cX8_countAll 100 = .ok (.aload_n 0, 1) := by decide +kernel
theorem dX8_countAll_101 : decode cX8_countAll 101 = .ok (.iload 4, 2) := by decide +kernel
theorem dX8_countAll_103 : decode cX8_countAll 103 = .ok (.iload_n 2, 1) := by decide +kernel
theorem dX8_countAll_104 : decode cX8_countAll 104 = .ok (.invokevirtual 141, 3) := by decide +kernel
theorem dX8_countAll_107 : decode cX8_countAll 107 = .ok (.lstore 5, 2) := by decide +kernel
theorem dX8_countAll_109 : decode cX8_countAll 109 = .ok (.iload_n 3, 1) := by decide +kernel
theorem dX8_countAll_110 : decode cX8_countAll 110 = .ok (.ifCond .ne 21, 3) := by decide +kernel
theorem dX8_countAll_113 : decode cX8_countAll 113 = .ok (.lload 5, 2) := by decide +kernel
theorem dX8_countAll_115 : decode cX8_countAll 115 = .ok (.aload_n 0, 1) := by decide +kernel
theorem dX8_countAll_116 : decode cX8_countAll 116 = .ok (.getfield 63, 3) := by decide +kernel
theorem dX8_countAll_119 : decode cX8_countAll 119 = .ok (.bipush 17, 2) := by decide +kernel
theorem dX8_countAll_121 : decode cX8_countAll 121 = .ok (.iload 4, 2) := by decide +kernel
theorem dX8_countAll_123 : decode cX8_countAll 123 = .ok (.imul, 1) := by decide +kernel
theorem dX8_countAll_124 : decode cX8_countAll 124 = .ok (.iload_n 2, 1) := by decide +kernel
theorem dX8_countAll_125 : decode cX8_countAll 125 = .ok (.iadd, 1) := by decide +kernel
theorem dX8_countAll_126 : decode cX8_countAll 126 = .ok (.laload, 1) := by decide +kernel
theorem dX8_countAll_127 : decode cX8_countAll 127 = .ok (.lcmp, 1) := by decide +kernel
theorem dX8_countAll_128 : decode cX8_countAll 128 = .ok (.ifCond .eq 7, 3) := by decide +kernel
theorem dX8_countAll_131 : decode cX8_countAll 131 = .ok (.iconst 1, 1) := by decide +kernel
theorem dX8_countAll_132 : decode cX8_countAll 132 = .ok (.goto 4, 3) := by decide +kernel
theorem dX8_countAll_135 : decode cX8_countAll 135 = .ok (.iconst 0, 1) := by decide +kernel
theorem dX8_countAll_136 : decode cX8_countAll 136 = .ok (.istore_n 3, 1) := by decide +kernel
theorem dX8_countAll_137 : decode cX8_countAll 137 = .ok (.aload_n 0, 1) := by decide +kernel
theorem dX8_countAll_138 : decode cX8_countAll 138 = .ok (.getfield 63, 3) := by decide +kernel
theorem dX8_countAll_141 : decode cX8_countAll 141 = .ok (.bipush 17, 2) := by decide +kernel
theorem dX8_countAll_143 : decode cX8_countAll 143 = .ok (.iload 4, 2) := by decide +kernel
theorem dX8_countAll_145 : decode cX8_countAll 145 = .ok (.imul, 1) := by decide +kernel
theorem dX8_countAll_146 : decode cX8_countAll 146 = .ok (.iload_n 2, 1) := by decide +kernel
theorem dX8_countAll_147 : decode cX8_countAll 147 = .ok (.iadd, 1) := by decide +kernel
theorem dX8_countAll_148 : decode cX8_countAll 148 = .ok (.lload 5, 2) := by decide +kernel
theorem dX8_countAll_150 : decode cX8_countAll 150 = .ok (.lastore, 1) := by decide +kernel
theorem dX8_countAll_151 : decode cX8_countAll 151 = .ok (.iinc 4 1, 3) := by decide +kernel
theorem dX8_countAll_154 : decode cX8_countAll 154 = .ok (.goto (-108), 3) := by decide +kernel
theorem dX8_countAll_157 : decode cX8_countAll 157 = .ok (.goto (-120), 3) := by decide +kernel
theorem dX8_countAll_160 : decode cX8_countAll 160 = .ok (.iinc 2 1, 3) := by decide +kernel
theorem dX8_countAll_163 : decode cX8_countAll 163 = .ok (.goto (-161), 3) := by decide +kernel
theorem dX8_countAll_166 : decode cX8_countAll 166 = .ok (.return_, 1) := by decide +kernel
theorem dX8_wrongCount_0 : decode cX8_wrongCount 0 = .ok (.aload_n 0, 1) := by decide +kernel
theorem dX8_wrongCount_1 : decode cX8_wrongCount 1 = .ok (.iload_n 1, 1) := by decide +kernel
theorem dX8_wrongCount_2 : decode cX8_wrongCount 2 = .ok (.invokevirtual 83, 3) := by decide +kernel
theorem dX8_wrongCount_5 : decode cX8_wrongCount 5 = .ok (.ifCond .ne 7, 3) := by decide +kernel
theorem dX8_wrongCount_8 : decode cX8_wrongCount 8 = .ok (.iconst 1, 1) := by decide +kernel
theorem dX8_wrongCount_9 : decode cX8_wrongCount 9 = .ok (.goto 30, 3) := by decide +kernel
theorem dX8_wrongCount_12 : decode cX8_wrongCount 12 = .ok (.aload_n 0, 1) := by decide +kernel
theorem dX8_wrongCount_13 : decode cX8_wrongCount 13 = .ok (.iload_n 1, 1) := by decide +kernel
theorem dX8_wrongCount_14 : decode cX8_wrongCount 14 = .ok (.invokevirtual 110, 3) := by decide +kernel
theorem dX8_wrongCount_17 : decode cX8_wrongCount 17 = .ok (.ifCond .eq 7, 3) := by decide +kernel
theorem dX8_wrongCount_20 : decode cX8_wrongCount 20 = .ok (.iconst 2, 1) := by decide +kernel
theorem dX8_wrongCount_21 : decode cX8_wrongCount 21 = .ok (.goto 18, 3) := by decide +kernel
theorem dX8_wrongCount_24 : decode cX8_wrongCount 24 = .ok (.iload_n 2, 1) := by decide +kernel
theorem dX8_wrongCount_25 : decode cX8_wrongCount 25 = .ok (.ifCond .lt 9, 3) := by decide +kernel
theorem dX8_wrongCount_28 : decode cX8_wrongCount 28 = .ok (.iload_n 2, 1) := by decide +kernel
theorem dX8_wrongCount_29 : decode cX8_wrongCount 29 = .ok (.bipush 16, 2) := by decide +kernel
theorem dX8_wrongCount_31 : decode cX8_wrongCount 31 = .ok (.if_icmp .le 7, 3) := by decide +kernel
theorem dX8_wrongCount_34 : decode cX8_wrongCount 34 = .ok (.iconst 3, 1) := by decide +kernel
theorem dX8_wrongCount_35 : decode cX8_wrongCount 35 = .ok (.goto 4, 3) := by decide +kernel
theorem dX8_wrongCount_38 : decode cX8_wrongCount 38 = .ok (.iconst 0, 1) := by decide +kernel
theorem dX8_wrongCount_39 : decode cX8_wrongCount 39 = .ok (.ireturn, 1) := by decide +kernel
theorem dX8_count_0 : decode cX8_count 0 = .ok (.aload_n 0, 1) := by decide +kernel
theorem dX8_count_1 : decode cX8_count 1 = .ok (.aload_n 0, 1) := by decide +kernel
theorem dX8_count_2 : decode cX8_count 2 = .ok (.iload_n 1, 1) := by decide +kernel
theorem dX8_count_3 : decode cX8_count 3 = .ok (.iload_n 2, 1) := by decide +kernel
theorem dX8_count_4 : decode cX8_count 4 = .ok (.invokevirtual 145, 3) := by decide +kernel
theorem dX8_count_7 : decode cX8_count 7 = .ok (.putfield 73, 3) := by decide +kernel
theorem dX8_count_10 : decode cX8_count 10 = .ok (.aload_n 0, 1) := by decide +kernel
theorem dX8_count_11 : decode cX8_count 11 = .ok (.getfield 73, 3) := by decide +kernel
theorem dX8_count_14 : decode cX8_count 14 = .ok (.ifCond .le 5, 3) := by decide +kernel
theorem dX8_count_17 : decode cX8_count 17 = .ok (.lconst 0, 1) := by decide +kernel
theorem dX8_count_18 : decode cX8_count 18 = .ok (.lreturn, 1) := by decide +kernel
theorem dX8_count_19 : decode cX8_count 19 = .ok (.aload_n 0, 1) := by decide +kernel
theorem dX8_count_20 : decode cX8_count 20 = .ok (.iload_n 2, 1) := by decide +kernel
theorem dX8_count_21 : decode cX8_count 21 = .ok (.invokevirtual 148, 3) := by decide +kernel
theorem dX8_count_24 : decode cX8_count 24 = .ok (.aload_n 0, 1) := by decide +kernel
theorem dX8_count_25 : decode cX8_count 25 = .ok (.getfield 63, 3) := by decide +kernel
theorem dX8_count_28 : decode cX8_count 28 = .ok (.bipush 17, 2) := by decide +kernel
theorem dX8_count_30 : decode cX8_count 30 = .ok (.iload_n 1, 1) := by decide +kernel
theorem dX8_count_31 : decode cX8_count 31 = .ok (.imul, 1) := by decide +kernel
theorem dX8_count_32 : decode cX8_count 32 = .ok (.iload_n 2, 1) := by decide +kernel
theorem dX8_count_33 : decode cX8_count 33 = .ok (.iadd, 1) := by decide +kernel
theorem dX8_count_34 : decode cX8_count 34 = .ok (.laload, 1) := by decide +kernel
theorem dX8_count_35 : decode cX8_count 35 = .ok (.lreturn, 1) := by decide +kernel
theorem dX8_countOpen_0 : decode cX8_countOpen 0 = .ok (.iconst 0, 1) := by decide +kernel
theorem dX8_countOpen_1 : decode cX8_countOpen 1 = .ok (.istore_n 2, 1) := by decide +kernel
theorem dX8_countOpen_2 : decode cX8_countOpen 2 = .ok (.iload_n 2, 1) := by decide +kernel
theorem dX8_countOpen_3 : decode cX8_countOpen 3 = .ok (.iload_n 1, 1) := by decide +kernel
theorem dX8_countOpen_4 : decode cX8_countOpen 4 = .ok (.if_icmp .gt 24, 3) := by decide +kernel
theorem dX8_countOpen_7 : decode cX8_countOpen 7 = .ok (.aload_n 0, 1) := by decide +kernel
theorem dX8_countOpen_8 : decode cX8_countOpen 8 = .ok (.getfield 67, 3) := by decide +kernel
theorem dX8_countOpen_11 : decode cX8_countOpen 11 = .ok (.iload_n 2, 1) := by decide +kernel
theorem dX8_countOpen_12 : decode cX8_countOpen 12 = .ok (.iload_n 2, 1) := by decide +kernel
theorem dX8_countOpen_13 : decode cX8_countOpen 13 = .ok (.ifCond .ne 7, 3) := by decide +kernel
theorem dX8_countOpen_16 : decode cX8_countOpen 16 = .ok (.lconst 1, 1) := by decide +kernel
theorem dX8_countOpen_17 : decode cX8_countOpen 17 = .ok (.goto 4, 3) := by decide +kernel
theorem dX8_countOpen_20 : decode cX8_countOpen 20 = .ok (.lconst 0, 1) := by decide +kernel
theorem dX8_countOpen_21 : decode cX8_countOpen 21 = .ok (.lastore, 1) := by decide +kernel
theorem dX8_countOpen_22 : decode cX8_countOpen 22 = .ok (.iinc 2 1, 3) := by decide +kernel
theorem dX8_countOpen_25 : decode cX8_countOpen 25 = .ok (.goto (-23), 3) := by decide +kernel
theorem dX8_countOpen_28 : decode cX8_countOpen 28 = .ok (.iconst 0, 1) := by decide +kernel
theorem dX8_countOpen_29 : decode cX8_countOpen 29 = .ok (.istore_n 2, 1) := by decide +kernel
theorem dX8_countOpen_30 : decode cX8_countOpen 30 = .ok (.iload_n 2, 1) := by decide +kernel
theorem dX8_countOpen_31 : decode cX8_countOpen 31 = .ok (.aload_n 0, 1) := by decide +kernel
theorem dX8_countOpen_32 : decode cX8_countOpen 32 = .ok (.getfield 116, 3) := by decide +kernel
theorem dX8_countOpen_35 : decode cX8_countOpen 35 = .ok (.if_icmp .ge 109, 3) := by decide +kernel
theorem dX8_countOpen_38 : decode cX8_countOpen 38 = .ok (.iconst 0, 1) := by decide +kernel
theorem dX8_countOpen_39 : decode cX8_countOpen 39 = .ok (.istore_n 3, 1) := by decide +kernel
theorem dX8_countOpen_40 : decode cX8_countOpen 40 = .ok (.iload_n 3, 1) := by decide +kernel
theorem dX8_countOpen_41 : decode cX8_countOpen 41 = .ok (.iload_n 1, 1) := by decide +kernel
theorem dX8_countOpen_42 : decode cX8_countOpen 42 = .ok (.if_icmp .gt 71, 3) := by decide +kernel
theorem dX8_countOpen_45 : decode cX8_countOpen 45 = .ok (.aload_n 0, 1) := by decide +kernel
theorem dX8_countOpen_46 : decode cX8_countOpen 46 = .ok (.getfield 70, 3) := by decide +kernel
theorem dX8_countOpen_49 : decode cX8_countOpen 49 = .ok (.iload_n 3, 1) := by decide +kernel
theorem dX8_countOpen_50 : decode cX8_countOpen 50 = .ok (.lconst 0, 1) := by decide +kernel
theorem dX8_countOpen_51 : decode cX8_countOpen 51 = .ok (.lastore, 1) := by decide +kernel
theorem dX8_countOpen_52 : decode cX8_countOpen 52 = .ok (.iconst 0, 1) := by decide +kernel
theorem dX8_countOpen_53 : decode cX8_countOpen 53 = .ok (.istore 4, 2) := by decide +kernel
theorem dX8_countOpen_55 : decode cX8_countOpen 55 = .ok (.iload 4, 2) := by decide +kernel
theorem dX8_countOpen_57 : decode cX8_countOpen 57 = .ok (.iload_n 3, 1) := by decide +kernel
theorem dX8_countOpen_58 : decode cX8_countOpen 58 = .ok (.if_icmp .gt 49, 3) := by decide +kernel
theorem dX8_countOpen_61 : decode cX8_countOpen 61 = .ok (.aload_n 0, 1) := by decide +kernel
theorem dX8_countOpen_62 : decode cX8_countOpen 62 = .ok (.getfield 70, 3) := by decide +kernel
theorem dX8_countOpen_65 : decode cX8_countOpen 65 = .ok (.iload_n 3, 1) := by decide +kernel
theorem dX8_countOpen_66 : decode cX8_countOpen 66 = .ok (.aload_n 0, 1) := by decide +kernel
theorem dX8_countOpen_67 : decode cX8_countOpen 67 = .ok (.getfield 70, 3) := by decide +kernel
theorem dX8_countOpen_70 : decode cX8_countOpen 70 = .ok (.iload_n 3, 1) := by decide +kernel
theorem dX8_countOpen_71 : decode cX8_countOpen 71 = .ok (.laload, 1) := by decide +kernel
theorem dX8_countOpen_72 : decode cX8_countOpen 72 = .ok (.aload_n 0, 1) := by decide +kernel
theorem dX8_countOpen_73 : decode cX8_countOpen 73 = .ok (.getfield 67, 3) := by decide +kernel
theorem dX8_countOpen_76 : decode cX8_countOpen 76 = .ok (.iload 4, 2) := by decide +kernel
theorem dX8_countOpen_78 : decode cX8_countOpen 78 = .ok (.laload, 1) := by decide +kernel
theorem dX8_countOpen_79 : decode cX8_countOpen 79 = .ok (.aload_n 0, 1) := by decide +kernel
theorem dX8_countOpen_80 : decode cX8_countOpen 80 = .ok (.getfield 63, 3) := by decide +kernel
theorem dX8_countOpen_83 : decode cX8_countOpen 83 = .ok (.bipush 17, 2) := by decide +kernel
theorem dX8_countOpen_85 : decode cX8_countOpen 85 = .ok (.aload_n 0, 1) := by decide +kernel
theorem dX8_countOpen_86 : decode cX8_countOpen 86 = .ok (.getfield 57, 3) := by decide +kernel
theorem dX8_countOpen_89 : decode cX8_countOpen 89 = .ok (.iload_n 2, 1) := by decide +kernel
theorem dX8_countOpen_90 : decode cX8_countOpen 90 = .ok (.iaload, 1) := by decide +kernel
theorem dX8_countOpen_91 : decode cX8_countOpen 91 = .ok (.imul, 1) := by decide +kernel
theorem dX8_countOpen_92 : decode cX8_countOpen 92 = .ok (.iload_n 3, 1) := by decide +kernel
theorem dX8_countOpen_93 : decode cX8_countOpen 93 = .ok (.iadd, 1) := by decide +kernel
theorem dX8_countOpen_94 : decode cX8_countOpen 94 = .ok (.iload 4, 2) := by decide +kernel
theorem dX8_countOpen_96 : decode cX8_countOpen 96 = .ok (.isub, 1) := by decide +kernel
theorem dX8_countOpen_97 : decode cX8_countOpen 97 = .ok (.laload, 1) := by decide +kernel
theorem dX8_countOpen_98 : decode cX8_countOpen 98 = .ok (.lmul, 1) := by decide +kernel
theorem dX8_countOpen_99 : decode cX8_countOpen 99 = .ok (.ladd, 1) := by decide +kernel
theorem dX8_countOpen_100 : decode cX8_countOpen 100 = .ok (.lastore, 1) := by decide +kernel
theorem dX8_countOpen_101 : decode cX8_countOpen 101 = .ok (.iinc 4 1, 3) := by decide +kernel
theorem dX8_countOpen_104 : decode cX8_countOpen 104 = .ok (.goto (-49), 3) := by decide +kernel
theorem dX8_countOpen_107 : decode cX8_countOpen 107 = .ok (.iinc 3 1, 3) := by decide +kernel
theorem dX8_countOpen_110 : decode cX8_countOpen 110 = .ok (.goto (-70), 3) := by decide +kernel
theorem dX8_countOpen_113 : decode cX8_countOpen 113 = .ok (.iconst 0, 1) := by decide +kernel
theorem dX8_countOpen_114 : decode cX8_countOpen 114 = .ok (.istore_n 3, 1) := by decide +kernel
theorem dX8_countOpen_115 : decode cX8_countOpen 115 = .ok (.iload_n 3, 1) := by decide +kernel
theorem dX8_countOpen_116 : decode cX8_countOpen 116 = .ok (.iload_n 1, 1) := by decide +kernel
theorem dX8_countOpen_117 : decode cX8_countOpen 117 = .ok (.if_icmp .gt 21, 3) := by decide +kernel
theorem dX8_countOpen_120 : decode cX8_countOpen 120 = .ok (.aload_n 0, 1) := by decide +kernel
theorem dX8_countOpen_121 : decode cX8_countOpen 121 = .ok (.getfield 67, 3) := by decide +kernel
theorem dX8_countOpen_124 : decode cX8_countOpen 124 = .ok (.iload_n 3, 1) := by decide +kernel
theorem dX8_countOpen_125 : decode cX8_countOpen 125 = .ok (.aload_n 0, 1) := by decide +kernel
theorem dX8_countOpen_126 : decode cX8_countOpen 126 = .ok (.getfield 70, 3) := by decide +kernel
theorem dX8_countOpen_129 : decode cX8_countOpen 129 = .ok (.iload_n 3, 1) := by decide +kernel
theorem dX8_countOpen_130 : decode cX8_countOpen 130 = .ok (.laload, 1) := by decide +kernel
theorem dX8_countOpen_131 : decode cX8_countOpen 131 = .ok (.lastore, 1) := by decide +kernel
theorem dX8_countOpen_132 : decode cX8_countOpen 132 = .ok (.iinc 3 1, 3) := by decide +kernel
theorem dX8_countOpen_135 : decode cX8_countOpen 135 = .ok (.goto (-20), 3) := by decide +kernel
theorem dX8_countOpen_138 : decode cX8_countOpen 138 = .ok (.iinc 2 1, 3) := by decide +kernel
theorem dX8_countOpen_141 : decode cX8_countOpen 141 = .ok (.goto (-111), 3) := by decide +kernel
theorem dX8_countOpen_144 : decode cX8_countOpen 144 = .ok (.aload_n 0, 1) := by decide +kernel
theorem dX8_countOpen_145 : decode cX8_countOpen 145 = .ok (.getfield 67, 3) := by decide +kernel
theorem dX8_countOpen_148 : decode cX8_countOpen 148 = .ok (.iload_n 1, 1) := by decide +kernel
theorem dX8_countOpen_149 : decode cX8_countOpen 149 = .ok (.laload, 1) := by decide +kernel
theorem dX8_countOpen_150 : decode cX8_countOpen 150 = .ok (.lreturn, 1) := by decide +kernel
theorem dX8_keep_0 : decode cX8_keep 0 = .ok (.aload_n 0, 1) := by decide +kernel
theorem dX8_keep_1 : decode cX8_keep 1 = .ok (.aload_n 0, 1) := by decide +kernel
theorem dX8_keep_2 : decode cX8_keep 2 = .ok (.getfield 116, 3) := by decide +kernel
theorem dX8_keep_5 : decode cX8_keep 5 = .ok (.putfield 151, 3) := by decide +kernel
theorem dX8_keep_8 : decode cX8_keep 8 = .ok (.iconst 0, 1) := by decide +kernel
theorem dX8_keep_9 : decode cX8_keep 9 = .ok (.istore_n 1, 1) := by decide +kernel
theorem dX8_keep_10 : decode cX8_keep 10 = .ok (.iload_n 1, 1) := by decide +kernel
theorem dX8_keep_11 : decode cX8_keep 11 = .ok (.aload_n 0, 1) := by decide +kernel
theorem dX8_keep_12 : decode cX8_keep 12 = .ok (.getfield 116, 3) := by decide +kernel
theorem dX8_keep_15 : decode cX8_keep 15 = .ok (.if_icmp .ge 21, 3) := by decide +kernel
theorem dX8_keep_18 : decode cX8_keep 18 = .ok (.aload_n 0, 1) := by decide +kernel
theorem dX8_keep_19 : decode cX8_keep 19 = .ok (.getfield 60, 3) := by decide +kernel
theorem dX8_keep_22 : decode cX8_keep 22 = .ok (.iload_n 1, 1) := by decide +kernel
theorem dX8_keep_23 : decode cX8_keep 23 = .ok (.aload_n 0, 1) := by decide +kernel
theorem dX8_keep_24 : decode cX8_keep 24 = .ok (.getfield 57, 3) := by decide +kernel
theorem dX8_keep_27 : decode cX8_keep 27 = .ok (.iload_n 1, 1) := by decide +kernel
theorem dX8_keep_28 : decode cX8_keep 28 = .ok (.iaload, 1) := by decide +kernel
theorem dX8_keep_29 : decode cX8_keep 29 = .ok (.iastore, 1) := by decide +kernel
theorem dX8_keep_30 : decode cX8_keep 30 = .ok (.iinc 1 1, 3) := by decide +kernel
theorem dX8_keep_33 : decode cX8_keep 33 = .ok (.goto (-23), 3) := by decide +kernel
theorem dX8_keep_36 : decode cX8_keep 36 = .ok (.return_, 1) := by decide +kernel
theorem dX8_back_0 : decode cX8_back 0 = .ok (.aload_n 0, 1) := by decide +kernel
theorem dX8_back_1 : decode cX8_back 1 = .ok (.iconst 0, 1) := by decide +kernel
theorem dX8_back_2 : decode cX8_back 2 = .ok (.putfield 126, 3) := by decide +kernel
theorem dX8_back_5 : decode cX8_back 5 = .ok (.aload_n 0, 1) := by decide +kernel
theorem dX8_back_6 : decode cX8_back 6 = .ok (.aload_n 0, 1) := by decide +kernel
theorem dX8_back_7 : decode cX8_back 7 = .ok (.getfield 151, 3) := by decide +kernel
theorem dX8_back_10 : decode cX8_back 10 = .ok (.putfield 116, 3) := by decide +kernel
theorem dX8_back_13 : decode cX8_back 13 = .ok (.iconst 0, 1) := by decide +kernel
theorem dX8_back_14 : decode cX8_back 14 = .ok (.istore_n 1, 1) := by decide +kernel
theorem dX8_back_15 : decode cX8_back 15 = .ok (.iload_n 1, 1) := by decide +kernel
theorem dX8_back_16 : decode cX8_back 16 = .ok (.aload_n 0, 1) := by decide +kernel
theorem dX8_back_17 : decode cX8_back 17 = .ok (.getfield 151, 3) := by decide +kernel
theorem dX8_back_20 : decode cX8_back 20 = .ok (.if_icmp .ge 21, 3) := by decide +kernel
theorem dX8_back_23 : decode cX8_back 23 = .ok (.aload_n 0, 1) := by decide +kernel
theorem dX8_back_24 : decode cX8_back 24 = .ok (.getfield 57, 3) := by decide +kernel
theorem dX8_back_27 : decode cX8_back 27 = .ok (.iload_n 1, 1) := by decide +kernel
theorem dX8_back_28 : decode cX8_back 28 = .ok (.aload_n 0, 1) := by decide +kernel
theorem dX8_back_29 : decode cX8_back 29 = .ok (.getfield 60, 3) := by decide +kernel
theorem dX8_back_32 : decode cX8_back 32 = .ok (.iload_n 1, 1) := by decide +kernel
theorem dX8_back_33 : decode cX8_back 33 = .ok (.iaload, 1) := by decide +kernel
theorem dX8_back_34 : decode cX8_back 34 = .ok (.iastore, 1) := by decide +kernel
theorem dX8_back_35 : decode cX8_back 35 = .ok (.iinc 1 1, 3) := by decide +kernel
theorem dX8_back_38 : decode cX8_back 38 = .ok (.goto (-23), 3) := by decide +kernel
theorem dX8_back_41 : decode cX8_back 41 = .ok (.return_, 1) := by decide +kernel
theorem dX8_find_0 : decode cX8_find 0 = .ok (.aload_n 0, 1) := by decide +kernel
theorem dX8_find_1 : decode cX8_find 1 = .ok (.aload_n 0, 1) := by decide +kernel
theorem dX8_find_2 : decode cX8_find 2 = .ok (.iload_n 1, 1) := by decide +kernel
theorem dX8_find_3 : decode cX8_find 3 = .ok (.iload_n 2, 1) := by decide +kernel
theorem dX8_find_4 : decode cX8_find 4 = .ok (.invokevirtual 145, 3) := by decide +kernel
theorem dX8_find_7 : decode cX8_find 7 = .ok (.putfield 73, 3) := by decide +kernel
theorem dX8_find_10 : decode cX8_find 10 = .ok (.aload_n 0, 1) := by decide +kernel
theorem dX8_find_11 : decode cX8_find 11 = .ok (.getfield 73, 3) := by decide +kernel
theorem dX8_find_14 : decode cX8_find 14 = .ok (.ifCond .le 4, 3) := by decide +kernel
theorem dX8_find_17 : decode cX8_find 17 = .ok (.return_, 1) := by decide +kernel
theorem dX8_find_18 : decode cX8_find 18 = .ok (.aload_n 0, 1) := by decide +kernel
theorem dX8_find_19 : decode cX8_find 19 = .ok (.iload_n 2, 1) := by decide +kernel
theorem dX8_find_20 : decode cX8_find 20 = .ok (.invokevirtual 148, 3) := by decide +kernel
theorem dX8_find_23 : decode cX8_find 23 = .ok (.lload_n 3, 1) := by decide +kernel
theorem dX8_find_24 : decode cX8_find 24 = .ok (.lconst 0, 1) := by decide +kernel
theorem dX8_find_25 : decode cX8_find 25 = .ok (.lcmp, 1) := by decide +kernel
theorem dX8_find_26 : decode cX8_find 26 = .ok (.ifCond .lt 19, 3) := by decide +kernel
theorem dX8_find_29 : decode cX8_find 29 = .ok (.lload_n 3, 1) := by decide +kernel
theorem dX8_find_30 : decode cX8_find 30 = .ok (.aload_n 0, 1) := by decide +kernel
theorem dX8_find_31 : decode cX8_find 31 = .ok (.getfield 63, 3) := by decide +kernel
theorem dX8_find_34 : decode cX8_find 34 = .ok (.bipush 17, 2) := by decide +kernel
theorem dX8_find_36 : decode cX8_find 36 = .ok (.iload_n 1, 1) := by decide +kernel
theorem dX8_find_37 : decode cX8_find 37 = .ok (.imul, 1) := by decide +kernel
theorem dX8_find_38 : decode cX8_find 38 = .ok (.iload_n 2, 1) := by decide +kernel
theorem dX8_find_39 : decode cX8_find 39 = .ok (.iadd, 1) := by decide +kernel
theorem dX8_find_40 : decode cX8_find 40 = .ok (.laload, 1) := by decide +kernel
theorem dX8_find_41 : decode cX8_find 41 = .ok (.lcmp, 1) := by decide +kernel
theorem dX8_find_42 : decode cX8_find 42 = .ok (.ifCond .lt 9, 3) := by decide +kernel
theorem dX8_find_45 : decode cX8_find 45 = .ok (.aload_n 0, 1) := by decide +kernel
theorem dX8_find_46 : decode cX8_find 46 = .ok (.iconst 4, 1) := by decide +kernel
theorem dX8_find_47 : decode cX8_find 47 = .ok (.putfield 73, 3) := by decide +kernel
theorem dX8_find_50 : decode cX8_find 50 = .ok (.return_, 1) := by decide +kernel
theorem dX8_find_51 : decode cX8_find 51 = .ok (.lload_n 3, 1) := by decide +kernel
theorem dX8_find_52 : decode cX8_find 52 = .ok (.lstore 5, 2) := by decide +kernel
theorem dX8_find_54 : decode cX8_find 54 = .ok (.aload_n 0, 1) := by decide +kernel
theorem dX8_find_55 : decode cX8_find 55 = .ok (.iload_n 1, 1) := by decide +kernel
theorem dX8_find_56 : decode cX8_find 56 = .ok (.invokevirtual 129, 3) := by decide +kernel
theorem dX8_find_59 : decode cX8_find 59 = .ok (.iconst 0, 1) := by decide +kernel
theorem dX8_find_60 : decode cX8_find 60 = .ok (.istore 7, 2) := by decide +kernel
theorem dX8_find_62 : decode cX8_find 62 = .ok (.iload 7, 2) := by decide +kernel
theorem dX8_find_64 : decode cX8_find 64 = .ok (.iload_n 2, 1) := by decide +kernel
theorem dX8_find_65 : decode cX8_find 65 = .ok (.if_icmp .ge 101, 3) := by decide +kernel
theorem dX8_find_68 : decode cX8_find 68 = .ok (.aload_n 0, 1) := by decide +kernel
theorem dX8_find_69 : decode cX8_find 69 = .ok (.invokevirtual 154, 3) := by decide +kernel
theorem dX8_find_72 : decode cX8_find 72 = .ok (.iconst 0, 1) := by decide +kernel
theorem dX8_find_73 : decode cX8_find 73 = .ok (.istore 8, 2) := by decide +kernel
theorem dX8_find_75 : decode cX8_find 75 = .ok (.iconst 0, 1) := by decide +kernel
theorem dX8_find_76 : decode cX8_find 76 = .ok (.istore 9, 2) := by decide +kernel
theorem dX8_find_78 : decode cX8_find 78 = .ok (.iload 9, 2) := by decide +kernel
theorem dX8_find_80 : decode cX8_find 80 = .ok (.ifCond .ne 66, 3) := by decide +kernel
theorem dX8_find_83 : decode cX8_find 83 = .ok (.aload_n 0, 1) := by decide +kernel
theorem dX8_find_84 : decode cX8_find 84 = .ok (.iload 8, 2) := by decide +kernel
theorem dX8_find_86 : decode cX8_find 86 = .ok (.invokevirtual 132, 3) := by decide +kernel
theorem dX8_find_89 : decode cX8_find 89 = .ok (.iconst 1, 1) := by decide +kernel
theorem dX8_find_90 : decode cX8_find 90 = .ok (.if_icmp .ne 16, 3) := by decide +kernel
theorem dX8_find_93 : decode cX8_find 93 = .ok (.aload_n 0, 1) := by decide +kernel
theorem dX8_find_94 : decode cX8_find 94 = .ok (.iload_n 2, 1) := by decide +kernel
theorem dX8_find_95 : decode cX8_find 95 = .ok (.iload 7, 2) := by decide +kernel
theorem dX8_find_97 : decode cX8_find 97 = .ok (.isub, 1) := by decide +kernel
theorem dX8_find_98 : decode cX8_find 98 = .ok (.iconst 1, 1) := by decide +kernel
theorem dX8_find_99 : decode cX8_find 99 = .ok (.isub, 1) := by decide +kernel
theorem dX8_find_100 : decode cX8_find 100 = .ok (.invokevirtual 157, 3) := by decide +kernel
theorem dX8_find_103 : decode cX8_find 103 = .ok (.goto 4, 3) := by decide +kernel
theorem dX8_find_106 : decode cX8_find 106 = .ok (.lconst 0, 1) := by decide +kernel
theorem dX8_find_107 : decode cX8_find 107 = .ok (.lstore 10, 2) := by decide +kernel
theorem dX8_find_109 : decode cX8_find 109 = .ok (.lload 5, 2) := by decide +kernel
theorem dX8_find_111 : decode cX8_find 111 = .ok (.lload 10, 2) := by decide +kernel
theorem dX8_find_113 : decode cX8_find 113 = .ok (.lcmp, 1) := by decide +kernel
theorem dX8_find_114 : decode cX8_find 114 = .ok (.ifCond .ge 7, 3) := by decide +kernel
theorem dX8_find_117 : decode cX8_find 117 = .ok (.iconst 1, 1) := by decide +kernel
theorem dX8_find_118 : decode cX8_find 118 = .ok (.goto 4, 3) := by decide +kernel
theorem dX8_find_121 : decode cX8_find 121 = .ok (.iconst 0, 1) := by decide +kernel
theorem dX8_find_122 : decode cX8_find 122 = .ok (.istore 9, 2) := by decide +kernel
theorem dX8_find_124 : decode cX8_find 124 = .ok (.iload 9, 2) := by decide +kernel
theorem dX8_find_126 : decode cX8_find 126 = .ok (.ifCond .ne 17, 3) := by decide +kernel
theorem dX8_find_129 : decode cX8_find 129 = .ok (.lload 5, 2) := by decide +kernel
theorem dX8_find_131 : decode cX8_find 131 = .ok (.lload 10, 2) := by decide +kernel
theorem dX8_find_133 : decode cX8_find 133 = .ok (.lsub, 1) := by decide +kernel
theorem dX8_find_134 : decode cX8_find 134 = .ok (.lstore 5, 2) := by decide +kernel
theorem dX8_find_136 : decode cX8_find 136 = .ok (.aload_n 0, 1) := by decide +kernel
theorem dX8_find_137 : decode cX8_find 137 = .ok (.invokevirtual 161, 3) := by decide +kernel
theorem dX8_find_140 : decode cX8_find 140 = .ok (.iinc 8 1, 3) := by decide +kernel
theorem dX8_find_143 : decode cX8_find 143 = .ok (.goto (-65), 3) := by decide +kernel
theorem dX8_find_146 : decode cX8_find 146 = .ok (.aload_n 0, 1) := by decide +kernel
theorem dX8_find_147 : decode cX8_find 147 = .ok (.getfield 44, 3) := by decide +kernel
theorem dX8_find_150 : decode cX8_find 150 = .ok (.iload 7, 2) := by decide +kernel
theorem dX8_find_152 : decode cX8_find 152 = .ok (.iload 8, 2) := by decide +kernel
theorem dX8_find_154 : decode cX8_find 154 = .ok (.iastore, 1) := by decide +kernel
theorem dX8_find_155 : decode cX8_find 155 = .ok (.aload_n 0, 1) := by decide +kernel
theorem dX8_find_156 : decode cX8_find 156 = .ok (.iconst 0, 1) := by decide +kernel
theorem dX8_find_157 : decode cX8_find 157 = .ok (.putfield 126, 3) := by decide +kernel
theorem dX8_find_160 : decode cX8_find 160 = .ok (.iinc 7 1, 3) := by decide +kernel
theorem dX8_find_163 : decode cX8_find 163 = .ok (.goto (-101), 3) := by decide +kernel
theorem dX8_find_166 : decode cX8_find 166 = .ok (.aload_n 0, 1) := by decide +kernel
theorem dX8_find_167 : decode cX8_find 167 = .ok (.iload_n 2, 1) := by decide +kernel
theorem dX8_find_168 : decode cX8_find 168 = .ok (.putfield 113, 3) := by decide +kernel
theorem dX8_find_171 : decode cX8_find 171 = .ok (.return_, 1) := by decide +kernel
theorem dL_leaf_0 : decode cL_leaf 0 = .ok (.aload_n 2, 1) := by decide +kernel
theorem dL_leaf_1 : decode cL_leaf 1 = .ok (.iconst 0, 1) := by decide +kernel
theorem dL_leaf_2 : decode cL_leaf 2 = .ok (.aload_n 0, 1) := by decide +kernel
theorem dL_leaf_3 : decode cL_leaf 3 = .ok (.iload_n 1, 1) := by decide +kernel
theorem dL_leaf_4 : decode cL_leaf 4 = .ok (.invokevirtual 7, 3) := by decide +kernel
theorem dL_leaf_7 : decode cL_leaf 7 = .ok (.i2l, 1) := by decide +kernel
theorem dL_leaf_8 : decode cL_leaf 8 = .ok (.lastore, 1) := by decide +kernel
theorem dL_leaf_9 : decode cL_leaf 9 = .ok (.goto 9, 3) := by decide +kernel
theorem dL_leaf_12 : decode cL_leaf 12 = .ok (.astore_n 3, 1) := by decide +kernel
theorem dL_leaf_13 : decode cL_leaf 13 = .ok (.iconst 1, 1) := by decide +kernel
theorem dL_leaf_14 : decode cL_leaf 14 = .ok (.ireturn, 1) := by decide +kernel
theorem dL_leaf_15 : decode cL_leaf 15 = .ok (.astore_n 3, 1) := by decide +kernel
theorem dL_leaf_16 : decode cL_leaf 16 = .ok (.iconst 2, 1) := by decide +kernel
theorem dL_leaf_17 : decode cL_leaf 17 = .ok (.ireturn, 1) := by decide +kernel
theorem dL_leaf_18 : decode cL_leaf 18 = .ok (.iconst 0, 1) := by decide +kernel
theorem dL_leaf_19 : decode cL_leaf 19 = .ok (.ireturn, 1) := by decide +kernel
theorem dL_variable_0 : decode cL_variable 0 = .ok (.aload_n 2, 1) := by decide +kernel
theorem dL_variable_1 : decode cL_variable 1 = .ok (.iconst 0, 1) := by decide +kernel
theorem dL_variable_2 : decode cL_variable 2 = .ok (.aload_n 0, 1) := by decide +kernel
theorem dL_variable_3 : decode cL_variable 3 = .ok (.iload_n 1, 1) := by decide +kernel
theorem dL_variable_4 : decode cL_variable 4 = .ok (.invokevirtual 17, 3) := by decide +kernel
theorem dL_variable_7 : decode cL_variable 7 = .ok (.i2l, 1) := by decide +kernel
theorem dL_variable_8 : decode cL_variable 8 = .ok (.lastore, 1) := by decide +kernel
theorem dL_variable_9 : decode cL_variable 9 = .ok (.goto 9, 3) := by decide +kernel
theorem dL_variable_12 : decode cL_variable 12 = .ok (.astore_n 3, 1) := by decide +kernel
theorem dL_variable_13 : decode cL_variable 13 = .ok (.iconst 1, 1) := by decide +kernel
theorem dL_variable_14 : decode cL_variable 14 = .ok (.ireturn, 1) := by decide +kernel
theorem dL_variable_15 : decode cL_variable 15 = .ok (.astore_n 3, 1) := by decide +kernel
theorem dL_variable_16 : decode cL_variable 16 = .ok (.iconst 2, 1) := by decide +kernel
theorem dL_variable_17 : decode cL_variable 17 = .ok (.ireturn, 1) := by decide +kernel
theorem dL_variable_18 : decode cL_variable 18 = .ok (.iconst 0, 1) := by decide +kernel
theorem dL_variable_19 : decode cL_variable 19 = .ok (.ireturn, 1) := by decide +kernel
theorem dL_join_0 : decode cL_join 0 = .ok (.aload 4, 2) := by decide +kernel
theorem dL_join_2 : decode cL_join 2 = .ok (.iconst 0, 1) := by decide +kernel
theorem dL_join_3 : decode cL_join 3 = .ok (.aload_n 0, 1) := by decide +kernel
theorem dL_join_4 : decode cL_join 4 = .ok (.iload_n 1, 1) := by decide +kernel
theorem dL_join_5 : decode cL_join 5 = .ok (.iload_n 2, 1) := by decide +kernel
theorem dL_join_6 : decode cL_join 6 = .ok (.iload_n 3, 1) := by decide +kernel
theorem dL_join_7 : decode cL_join 7 = .ok (.invokevirtual 20, 3) := by decide +kernel
theorem dL_join_10 : decode cL_join 10 = .ok (.i2l, 1) := by decide +kernel
theorem dL_join_11 : decode cL_join 11 = .ok (.lastore, 1) := by decide +kernel
theorem dL_join_12 : decode cL_join 12 = .ok (.goto 15, 3) := by decide +kernel
theorem dL_join_15 : decode cL_join 15 = .ok (.astore 5, 2) := by decide +kernel
theorem dL_join_17 : decode cL_join 17 = .ok (.iconst 1, 1) := by decide +kernel
theorem dL_join_18 : decode cL_join 18 = .ok (.ireturn, 1) := by decide +kernel
theorem dL_join_19 : decode cL_join 19 = .ok (.astore 5, 2) := by decide +kernel
theorem dL_join_21 : decode cL_join 21 = .ok (.iconst 2, 1) := by decide +kernel
theorem dL_join_22 : decode cL_join 22 = .ok (.ireturn, 1) := by decide +kernel
theorem dL_join_23 : decode cL_join 23 = .ok (.astore 5, 2) := by decide +kernel
theorem dL_join_25 : decode cL_join 25 = .ok (.iconst 3, 1) := by decide +kernel
theorem dL_join_26 : decode cL_join 26 = .ok (.ireturn, 1) := by decide +kernel
theorem dL_join_27 : decode cL_join 27 = .ok (.iconst 0, 1) := by decide +kernel
theorem dL_join_28 : decode cL_join 28 = .ok (.ireturn, 1) := by decide +kernel
theorem dL_knot_0 : decode cL_knot 0 = .ok (.aload_n 3, 1) := by decide +kernel
theorem dL_knot_1 : decode cL_knot 1 = .ok (.iconst 0, 1) := by decide +kernel
theorem dL_knot_2 : decode cL_knot 2 = .ok (.aload_n 0, 1) := by decide +kernel
theorem dL_knot_3 : decode cL_knot 3 = .ok (.iload_n 1, 1) := by decide +kernel
theorem dL_knot_4 : decode cL_knot 4 = .ok (.iload_n 2, 1) := by decide +kernel
theorem dL_knot_5 : decode cL_knot 5 = .ok (.invokevirtual 28, 3) := by decide +kernel
theorem dL_knot_8 : decode cL_knot 8 = .ok (.i2l, 1) := by decide +kernel
theorem dL_knot_9 : decode cL_knot 9 = .ok (.lastore, 1) := by decide +kernel
theorem dL_knot_10 : decode cL_knot 10 = .ok (.goto 19, 3) := by decide +kernel
theorem dL_knot_13 : decode cL_knot 13 = .ok (.astore 4, 2) := by decide +kernel
theorem dL_knot_15 : decode cL_knot 15 = .ok (.iconst 1, 1) := by decide +kernel
theorem dL_knot_16 : decode cL_knot 16 = .ok (.ireturn, 1) := by decide +kernel
theorem dL_knot_17 : decode cL_knot 17 = .ok (.astore 4, 2) := by decide +kernel
theorem dL_knot_19 : decode cL_knot 19 = .ok (.iconst 2, 1) := by decide +kernel
theorem dL_knot_20 : decode cL_knot 20 = .ok (.ireturn, 1) := by decide +kernel
theorem dL_knot_21 : decode cL_knot 21 = .ok (.astore 4, 2) := by decide +kernel
theorem dL_knot_23 : decode cL_knot 23 = .ok (.iconst 3, 1) := by decide +kernel
theorem dL_knot_24 : decode cL_knot 24 = .ok (.ireturn, 1) := by decide +kernel
theorem dL_knot_25 : decode cL_knot 25 = .ok (.astore 4, 2) := by decide +kernel
theorem dL_knot_27 : decode cL_knot 27 = .ok (.iconst 4, 1) := by decide +kernel
theorem dL_knot_28 : decode cL_knot 28 = .ok (.ireturn, 1) := by decide +kernel
theorem dL_knot_29 : decode cL_knot 29 = .ok (.iconst 0, 1) := by decide +kernel
theorem dL_knot_30 : decode cL_knot 30 = .ok (.ireturn, 1) := by decide +kernel
theorem dL_fault_0 : decode cL_fault 0 = .ok (.aload_n 2, 1) := by decide +kernel
theorem dL_fault_1 : decode cL_fault 1 = .ok (.iconst 0, 1) := by decide +kernel
theorem dL_fault_2 : decode cL_fault 2 = .ok (.aload_n 0, 1) := by decide +kernel
theorem dL_fault_3 : decode cL_fault 3 = .ok (.iload_n 1, 1) := by decide +kernel
theorem dL_fault_4 : decode cL_fault 4 = .ok (.invokevirtual 32, 3) := by decide +kernel
theorem dL_fault_7 : decode cL_fault 7 = .ok (.i2l, 1) := by decide +kernel
theorem dL_fault_8 : decode cL_fault 8 = .ok (.lastore, 1) := by decide +kernel
theorem dL_fault_9 : decode cL_fault 9 = .ok (.goto 6, 3) := by decide +kernel
theorem dL_fault_12 : decode cL_fault 12 = .ok (.astore_n 3, 1) := by decide +kernel
theorem dL_fault_13 : decode cL_fault 13 = .ok (.iconst 1, 1) := by decide +kernel
theorem dL_fault_14 : decode cL_fault 14 = .ok (.ireturn, 1) := by decide +kernel
theorem dL_fault_15 : decode cL_fault 15 = .ok (.iconst 0, 1) := by decide +kernel
theorem dL_fault_16 : decode cL_fault 16 = .ok (.ireturn, 1) := by decide +kernel
theorem dL_type_0 : decode cL_type 0 = .ok (.aload_n 3, 1) := by decide +kernel
theorem dL_type_1 : decode cL_type 1 = .ok (.iconst 0, 1) := by decide +kernel
theorem dL_type_2 : decode cL_type 2 = .ok (.aload_n 0, 1) := by decide +kernel
theorem dL_type_3 : decode cL_type 3 = .ok (.iload_n 1, 1) := by decide +kernel
theorem dL_type_4 : decode cL_type 4 = .ok (.iload_n 2, 1) := by decide +kernel
theorem dL_type_5 : decode cL_type 5 = .ok (.invokevirtual 35, 3) := by decide +kernel
theorem dL_type_8 : decode cL_type 8 = .ok (.i2l, 1) := by decide +kernel
theorem dL_type_9 : decode cL_type 9 = .ok (.lastore, 1) := by decide +kernel
theorem dL_type_10 : decode cL_type 10 = .ok (.goto 11, 3) := by decide +kernel
theorem dL_type_13 : decode cL_type 13 = .ok (.astore 4, 2) := by decide +kernel
theorem dL_type_15 : decode cL_type 15 = .ok (.iconst 1, 1) := by decide +kernel
theorem dL_type_16 : decode cL_type 16 = .ok (.ireturn, 1) := by decide +kernel
theorem dL_type_17 : decode cL_type 17 = .ok (.astore 4, 2) := by decide +kernel
theorem dL_type_19 : decode cL_type 19 = .ok (.iconst 2, 1) := by decide +kernel
theorem dL_type_20 : decode cL_type 20 = .ok (.ireturn, 1) := by decide +kernel
theorem dL_type_21 : decode cL_type 21 = .ok (.iconst 0, 1) := by decide +kernel
theorem dL_type_22 : decode cL_type 22 = .ok (.ireturn, 1) := by decide +kernel
theorem dL_letter_0 : decode cL_letter 0 = .ok (.aload_n 2, 1) := by decide +kernel
theorem dL_letter_1 : decode cL_letter 1 = .ok (.iconst 0, 1) := by decide +kernel
theorem dL_letter_2 : decode cL_letter 2 = .ok (.aload_n 0, 1) := by decide +kernel
theorem dL_letter_3 : decode cL_letter 3 = .ok (.iload_n 1, 1) := by decide +kernel
theorem dL_letter_4 : decode cL_letter 4 = .ok (.invokevirtual 38, 3) := by decide +kernel
theorem dL_letter_7 : decode cL_letter 7 = .ok (.i2l, 1) := by decide +kernel
theorem dL_letter_8 : decode cL_letter 8 = .ok (.lastore, 1) := by decide +kernel
theorem dL_letter_9 : decode cL_letter 9 = .ok (.goto 6, 3) := by decide +kernel
theorem dL_letter_12 : decode cL_letter 12 = .ok (.astore_n 3, 1) := by decide +kernel
theorem dL_letter_13 : decode cL_letter 13 = .ok (.iconst 1, 1) := by decide +kernel
theorem dL_letter_14 : decode cL_letter 14 = .ok (.ireturn, 1) := by decide +kernel
theorem dL_letter_15 : decode cL_letter 15 = .ok (.iconst 0, 1) := by decide +kernel
theorem dL_letter_16 : decode cL_letter 16 = .ok (.ireturn, 1) := by decide +kernel
theorem dL_read_0 : decode cL_read 0 = .ok (.aload_n 2, 1) := by decide +kernel
theorem dL_read_1 : decode cL_read 1 = .ok (.iconst 0, 1) := by decide +kernel
theorem dL_read_2 : decode cL_read 2 = .ok (.aload_n 0, 1) := by decide +kernel
theorem dL_read_3 : decode cL_read 3 = .ok (.iload_n 1, 1) := by decide +kernel
theorem dL_read_4 : decode cL_read 4 = .ok (.invokevirtual 41, 3) := by decide +kernel
theorem dL_read_7 : decode cL_read 7 = .ok (.i2l, 1) := by decide +kernel
theorem dL_read_8 : decode cL_read 8 = .ok (.lastore, 1) := by decide +kernel
theorem dL_read_9 : decode cL_read 9 = .ok (.goto 12, 3) := by decide +kernel
theorem dL_read_12 : decode cL_read 12 = .ok (.astore_n 3, 1) := by decide +kernel
theorem dL_read_13 : decode cL_read 13 = .ok (.iconst 1, 1) := by decide +kernel
theorem dL_read_14 : decode cL_read 14 = .ok (.ireturn, 1) := by decide +kernel
theorem dL_read_15 : decode cL_read 15 = .ok (.astore_n 3, 1) := by decide +kernel
theorem dL_read_16 : decode cL_read 16 = .ok (.iconst 2, 1) := by decide +kernel
theorem dL_read_17 : decode cL_read 17 = .ok (.ireturn, 1) := by decide +kernel
theorem dL_read_18 : decode cL_read 18 = .ok (.astore_n 3, 1) := by decide +kernel
theorem dL_read_19 : decode cL_read 19 = .ok (.iconst 3, 1) := by decide +kernel
theorem dL_read_20 : decode cL_read 20 = .ok (.ireturn, 1) := by decide +kernel
theorem dL_read_21 : decode cL_read 21 = .ok (.iconst 0, 1) := by decide +kernel
theorem dL_read_22 : decode cL_read 22 = .ok (.ireturn, 1) := by decide +kernel
theorem dL_step_0 : decode cL_step 0 = .ok (.aload_n 2, 1) := by decide +kernel
theorem dL_step_1 : decode cL_step 1 = .ok (.iconst 0, 1) := by decide +kernel
theorem dL_step_2 : decode cL_step 2 = .ok (.aload_n 0, 1) := by decide +kernel
theorem dL_step_3 : decode cL_step 3 = .ok (.iload_n 1, 1) := by decide +kernel
theorem dL_step_4 : decode cL_step 4 = .ok (.invokevirtual 44, 3) := by decide +kernel
theorem dL_step_7 : decode cL_step 7 = .ok (.i2l, 1) := by decide +kernel
theorem dL_step_8 : decode cL_step 8 = .ok (.lastore, 1) := by decide +kernel
theorem dL_step_9 : decode cL_step 9 = .ok (.goto 6, 3) := by decide +kernel
theorem dL_step_12 : decode cL_step 12 = .ok (.astore_n 3, 1) := by decide +kernel
theorem dL_step_13 : decode cL_step 13 = .ok (.iconst 1, 1) := by decide +kernel
theorem dL_step_14 : decode cL_step 14 = .ok (.ireturn, 1) := by decide +kernel
theorem dL_step_15 : decode cL_step 15 = .ok (.iconst 0, 1) := by decide +kernel
theorem dL_step_16 : decode cL_step 16 = .ok (.ireturn, 1) := by decide +kernel
theorem dL_count_0 : decode cL_count 0 = .ok (.aload_n 3, 1) := by decide +kernel
theorem dL_count_1 : decode cL_count 1 = .ok (.iconst 0, 1) := by decide +kernel
theorem dL_count_2 : decode cL_count 2 = .ok (.aload_n 0, 1) := by decide +kernel
theorem dL_count_3 : decode cL_count 3 = .ok (.iload_n 1, 1) := by decide +kernel
theorem dL_count_4 : decode cL_count 4 = .ok (.iload_n 2, 1) := by decide +kernel
theorem dL_count_5 : decode cL_count 5 = .ok (.invokevirtual 47, 3) := by decide +kernel
theorem dL_count_8 : decode cL_count 8 = .ok (.lastore, 1) := by decide +kernel
theorem dL_count_9 : decode cL_count 9 = .ok (.goto 15, 3) := by decide +kernel
theorem dL_count_12 : decode cL_count 12 = .ok (.astore 4, 2) := by decide +kernel
theorem dL_count_14 : decode cL_count 14 = .ok (.iconst 1, 1) := by decide +kernel
theorem dL_count_15 : decode cL_count 15 = .ok (.ireturn, 1) := by decide +kernel
theorem dL_count_16 : decode cL_count 16 = .ok (.astore 4, 2) := by decide +kernel
theorem dL_count_18 : decode cL_count 18 = .ok (.iconst 2, 1) := by decide +kernel
theorem dL_count_19 : decode cL_count 19 = .ok (.ireturn, 1) := by decide +kernel
theorem dL_count_20 : decode cL_count 20 = .ok (.astore 4, 2) := by decide +kernel
theorem dL_count_22 : decode cL_count 22 = .ok (.iconst 3, 1) := by decide +kernel
theorem dL_count_23 : decode cL_count 23 = .ok (.ireturn, 1) := by decide +kernel
theorem dL_count_24 : decode cL_count 24 = .ok (.iconst 0, 1) := by decide +kernel
theorem dL_count_25 : decode cL_count 25 = .ok (.ireturn, 1) := by decide +kernel
theorem dL_find_0 : decode cL_find 0 = .ok (.aload_n 0, 1) := by decide +kernel
theorem dL_find_1 : decode cL_find 1 = .ok (.iload_n 1, 1) := by decide +kernel
theorem dL_find_2 : decode cL_find 2 = .ok (.iload_n 2, 1) := by decide +kernel
theorem dL_find_3 : decode cL_find 3 = .ok (.lload_n 3, 1) := by decide +kernel
theorem dL_find_4 : decode cL_find 4 = .ok (.invokevirtual 51, 3) := by decide +kernel
theorem dL_find_7 : decode cL_find 7 = .ok (.goto 19, 3) := by decide +kernel
theorem dL_find_10 : decode cL_find 10 = .ok (.astore 5, 2) := by decide +kernel
theorem dL_find_12 : decode cL_find 12 = .ok (.iconst 1, 1) := by decide +kernel
theorem dL_find_13 : decode cL_find 13 = .ok (.ireturn, 1) := by decide +kernel
theorem dL_find_14 : decode cL_find 14 = .ok (.astore 5, 2) := by decide +kernel
theorem dL_find_16 : decode cL_find 16 = .ok (.iconst 2, 1) := by decide +kernel
theorem dL_find_17 : decode cL_find 17 = .ok (.ireturn, 1) := by decide +kernel
theorem dL_find_18 : decode cL_find 18 = .ok (.astore 5, 2) := by decide +kernel
theorem dL_find_20 : decode cL_find 20 = .ok (.iconst 3, 1) := by decide +kernel
theorem dL_find_21 : decode cL_find 21 = .ok (.ireturn, 1) := by decide +kernel
theorem dL_find_22 : decode cL_find 22 = .ok (.astore 5, 2) := by decide +kernel
theorem dL_find_24 : decode cL_find 24 = .ok (.iconst 4, 1) := by decide +kernel
theorem dL_find_25 : decode cL_find 25 = .ok (.ireturn, 1) := by decide +kernel
theorem dL_find_26 : decode cL_find 26 = .ok (.iconst 0, 1) := by decide +kernel
theorem dL_find_27 : decode cL_find 27 = .ok (.ireturn, 1) := by decide +kernel
theorem dL_law_0 : decode cL_law 0 = .ok (.new 8, 3) := by decide +kernel
theorem dL_law_3 : decode cL_law 3 = .ok (.dup, 1) := by decide +kernel
theorem dL_law_4 : decode cL_law 4 = .ok (.invokespecial 57, 3) := by decide +kernel
theorem dL_law_7 : decode cL_law 7 = .ok (.astore_n 1, 1) := by decide +kernel
theorem dL_law_8 : decode cL_law 8 = .ok (.new 58, 3) := by decide +kernel
theorem dL_law_11 : decode cL_law 11 = .ok (.dup, 1) := by decide +kernel
theorem dL_law_12 : decode cL_law 12 = .ok (.invokespecial 60, 3) := by decide +kernel
theorem dL_law_15 : decode cL_law 15 = .ok (.astore_n 2, 1) := by decide +kernel
theorem dL_law_16 : decode cL_law 16 = .ok (.iconst 1, 1) := by decide +kernel
theorem dL_law_17 : decode cL_law 17 = .ok (.newarray .long, 2) := by decide +kernel
theorem dL_law_19 : decode cL_law 19 = .ok (.astore_n 3, 1) := by decide +kernel
theorem dL_law_20 : decode cL_law 20 = .ok (.iconst 0, 1) := by decide +kernel
theorem dL_law_21 : decode cL_law 21 = .ok (.istore 4, 2) := by decide +kernel
theorem dL_law_23 : decode cL_law 23 = .ok (.iload 4, 2) := by decide +kernel
theorem dL_law_25 : decode cL_law 25 = .ok (.aload_n 0, 1) := by decide +kernel
theorem dL_law_26 : decode cL_law 26 = .ok (.arraylength, 1) := by decide +kernel
theorem dL_law_27 : decode cL_law 27 = .ok (.iconst 5, 1) := by decide +kernel
theorem dL_law_28 : decode cL_law 28 = .ok (.isub, 1) := by decide +kernel
theorem dL_law_29 : decode cL_law 29 = .ok (.if_icmp .gt 941, 3) := by decide +kernel
theorem dL_law_32 : decode cL_law 32 = .ok (.aload_n 0, 1) := by decide +kernel
theorem dL_law_33 : decode cL_law 33 = .ok (.iload 4, 2) := by decide +kernel
theorem dL_law_35 : decode cL_law 35 = .ok (.iaload, 1) := by decide +kernel
theorem dL_law_36 : decode cL_law 36 = .ok (.bipush 31, 2) := by decide +kernel
theorem dL_law_38 : decode cL_law 38 = .ok (.iand, 1) := by decide +kernel
theorem dL_law_39 : decode cL_law 39 = .ok (.tableswitch 925 0 17 #[85, 141, 197, 293, 361, 372, 385, 441, 509, 534, 559, 572, 628, 684, 697, 710, 766, 833], 85) := by decide +kernel
theorem dL_law_124 : decode cL_law 124 = .ok (.aload_n 1, 1) := by decide +kernel
theorem dL_law_125 : decode cL_law 125 = .ok (.aload_n 0, 1) := by decide +kernel
theorem dL_law_126 : decode cL_law 126 = .ok (.iload 4, 2) := by decide +kernel
theorem dL_law_128 : decode cL_law 128 = .ok (.iconst 1, 1) := by decide +kernel
theorem dL_law_129 : decode cL_law 129 = .ok (.iadd, 1) := by decide +kernel
theorem dL_law_130 : decode cL_law 130 = .ok (.iaload, 1) := by decide +kernel
theorem dL_law_131 : decode cL_law 131 = .ok (.aload_n 3, 1) := by decide +kernel
theorem dL_law_132 : decode cL_law 132 = .ok (.invokestatic 61, 3) := by decide +kernel
theorem dL_law_135 : decode cL_law 135 = .ok (.istore 5, 2) := by decide +kernel
theorem dL_law_137 : decode cL_law 137 = .ok (.aload_n 2, 1) := by decide +kernel
theorem dL_law_138 : decode cL_law 138 = .ok (.aload_n 0, 1) := by decide +kernel
theorem dL_law_139 : decode cL_law 139 = .ok (.iload 4, 2) := by decide +kernel
theorem dL_law_141 : decode cL_law 141 = .ok (.iconst 1, 1) := by decide +kernel
theorem dL_law_142 : decode cL_law 142 = .ok (.iadd, 1) := by decide +kernel
theorem dL_law_143 : decode cL_law 143 = .ok (.iaload, 1) := by decide +kernel
theorem dL_law_144 : decode cL_law 144 = .ok (.invokevirtual 66, 3) := by decide +kernel
theorem dL_law_147 : decode cL_law 147 = .ok (.istore 6, 2) := by decide +kernel
theorem dL_law_149 : decode cL_law 149 = .ok (.aload_n 2, 1) := by decide +kernel
theorem dL_law_150 : decode cL_law 150 = .ok (.invokevirtual 67, 3) := by decide +kernel
theorem dL_law_153 : decode cL_law 153 = .ok (.iload 5, 2) := by decide +kernel
theorem dL_law_155 : decode cL_law 155 = .ok (.if_icmp .eq 5, 3) := by decide +kernel
theorem dL_law_158 : decode cL_law 158 = .ok (.iconst 0, 1) := by decide +kernel
theorem dL_law_159 : decode cL_law 159 = .ok (.ireturn, 1) := by decide +kernel
theorem dL_law_160 : decode cL_law 160 = .ok (.iload 5, 2) := by decide +kernel
theorem dL_law_162 : decode cL_law 162 = .ok (.ifCond .ne 15, 3) := by decide +kernel
theorem dL_law_165 : decode cL_law 165 = .ok (.aload_n 3, 1) := by decide +kernel
theorem dL_law_166 : decode cL_law 166 = .ok (.iconst 0, 1) := by decide +kernel
theorem dL_law_167 : decode cL_law 167 = .ok (.laload, 1) := by decide +kernel
theorem dL_law_168 : decode cL_law 168 = .ok (.iload 6, 2) := by decide +kernel
theorem dL_law_170 : decode cL_law 170 = .ok (.i2l, 1) := by decide +kernel
theorem dL_law_171 : decode cL_law 171 = .ok (.lcmp, 1) := by decide +kernel
theorem dL_law_172 : decode cL_law 172 = .ok (.ifCond .eq 5, 3) := by decide +kernel
theorem dL_law_175 : decode cL_law 175 = .ok (.iconst 0, 1) := by decide +kernel
theorem dL_law_176 : decode cL_law 176 = .ok (.ireturn, 1) := by decide +kernel
theorem dL_law_177 : decode cL_law 177 = .ok (.goto 787, 3) := by decide +kernel
theorem dL_law_180 : decode cL_law 180 = .ok (.aload_n 1, 1) := by decide +kernel
theorem dL_law_181 : decode cL_law 181 = .ok (.aload_n 0, 1) := by decide +kernel
theorem dL_law_182 : decode cL_law 182 = .ok (.iload 4, 2) := by decide +kernel
theorem dL_law_184 : decode cL_law 184 = .ok (.iconst 1, 1) := by decide +kernel
theorem dL_law_185 : decode cL_law 185 = .ok (.iadd, 1) := by decide +kernel
theorem dL_law_186 : decode cL_law 186 = .ok (.iaload, 1) := by decide +kernel
theorem dL_law_187 : decode cL_law 187 = .ok (.aload_n 3, 1) := by decide +kernel
theorem dL_law_188 : decode cL_law 188 = .ok (.invokestatic 71, 3) := by decide +kernel
theorem dL_law_191 : decode cL_law 191 = .ok (.istore 5, 2) := by decide +kernel
theorem dL_law_193 : decode cL_law 193 = .ok (.aload_n 2, 1) := by decide +kernel
theorem dL_law_194 : decode cL_law 194 = .ok (.aload_n 0, 1) := by decide +kernel
theorem dL_law_195 : decode cL_law 195 = .ok (.iload 4, 2) := by decide +kernel
theorem dL_law_197 : decode cL_law 197 = .ok (.iconst 1, 1) := by decide +kernel
theorem dL_law_198 : decode cL_law 198 = .ok (.iadd, 1) := by decide +kernel
theorem dL_law_199 : decode cL_law 199 = .ok (.iaload, 1) := by decide +kernel
theorem dL_law_200 : decode cL_law 200 = .ok (.invokevirtual 73, 3) := by decide +kernel
theorem dL_law_203 : decode cL_law 203 = .ok (.istore 6, 2) := by decide +kernel
theorem dL_law_205 : decode cL_law 205 = .ok (.aload_n 2, 1) := by decide +kernel
theorem dL_law_206 : decode cL_law 206 = .ok (.invokevirtual 67, 3) := by decide +kernel
theorem dL_law_209 : decode cL_law 209 = .ok (.iload 5, 2) := by decide +kernel
theorem dL_law_211 : decode cL_law 211 = .ok (.if_icmp .eq 5, 3) := by decide +kernel
theorem dL_law_214 : decode cL_law 214 = .ok (.iconst 0, 1) := by decide +kernel
theorem dL_law_215 : decode cL_law 215 = .ok (.ireturn, 1) := by decide +kernel
theorem dL_law_216 : decode cL_law 216 = .ok (.iload 5, 2) := by decide +kernel
theorem dL_law_218 : decode cL_law 218 = .ok (.ifCond .ne 15, 3) := by decide +kernel
theorem dL_law_221 : decode cL_law 221 = .ok (.aload_n 3, 1) := by decide +kernel
theorem dL_law_222 : decode cL_law 222 = .ok (.iconst 0, 1) := by decide +kernel
theorem dL_law_223 : decode cL_law 223 = .ok (.laload, 1) := by decide +kernel
theorem dL_law_224 : decode cL_law 224 = .ok (.iload 6, 2) := by decide +kernel
theorem dL_law_226 : decode cL_law 226 = .ok (.i2l, 1) := by decide +kernel
theorem dL_law_227 : decode cL_law 227 = .ok (.lcmp, 1) := by decide +kernel
theorem dL_law_228 : decode cL_law 228 = .ok (.ifCond .eq 5, 3) := by decide +kernel
theorem dL_law_231 : decode cL_law 231 = .ok (.iconst 0, 1) := by decide +kernel
theorem dL_law_232 : decode cL_law 232 = .ok (.ireturn, 1) := by decide +kernel
theorem dL_law_233 : decode cL_law 233 = .ok (.goto 731, 3) := by decide +kernel
theorem dL_law_236 : decode cL_law 236 = .ok (.aload_n 1, 1) := by decide +kernel
theorem dL_law_237 : decode cL_law 237 = .ok (.aload_n 0, 1) := by decide +kernel
theorem dL_law_238 : decode cL_law 238 = .ok (.iload 4, 2) := by decide +kernel
theorem dL_law_240 : decode cL_law 240 = .ok (.iconst 1, 1) := by decide +kernel
theorem dL_law_241 : decode cL_law 241 = .ok (.iadd, 1) := by decide +kernel
theorem dL_law_242 : decode cL_law 242 = .ok (.iaload, 1) := by decide +kernel
theorem dL_law_243 : decode cL_law 243 = .ok (.aload_n 0, 1) := by decide +kernel
theorem dL_law_244 : decode cL_law 244 = .ok (.iload 4, 2) := by decide +kernel
theorem dL_law_246 : decode cL_law 246 = .ok (.iconst 2, 1) := by decide +kernel
theorem dL_law_247 : decode cL_law 247 = .ok (.iadd, 1) := by decide +kernel
theorem dL_law_248 : decode cL_law 248 = .ok (.iaload, 1) := by decide +kernel
theorem dL_law_249 : decode cL_law 249 = .ok (.aload_n 0, 1) := by decide +kernel
theorem dL_law_250 : decode cL_law 250 = .ok (.iload 4, 2) := by decide +kernel
theorem dL_law_252 : decode cL_law 252 = .ok (.iconst 3, 1) := by decide +kernel
theorem dL_law_253 : decode cL_law 253 = .ok (.iadd, 1) := by decide +kernel
theorem dL_law_254 : decode cL_law 254 = .ok (.iaload, 1) := by decide +kernel
theorem dL_law_255 : decode cL_law 255 = .ok (.ifCond .eq 7, 3) := by decide +kernel
theorem dL_law_258 : decode cL_law 258 = .ok (.iconst 1, 1) := by decide +kernel
theorem dL_law_259 : decode cL_law 259 = .ok (.goto 4, 3) := by decide +kernel
theorem dL_law_262 : decode cL_law 262 = .ok (.iconst 0, 1) := by decide +kernel
theorem dL_law_263 : decode cL_law 263 = .ok (.aload_n 3, 1) := by decide +kernel
theorem dL_law_264 : decode cL_law 264 = .ok (.invokestatic 74, 3) := by decide +kernel
theorem dL_law_267 : decode cL_law 267 = .ok (.istore 5, 2) := by decide +kernel
theorem dL_law_269 : decode cL_law 269 = .ok (.aload_n 2, 1) := by decide +kernel
theorem dL_law_270 : decode cL_law 270 = .ok (.aload_n 0, 1) := by decide +kernel
theorem dL_law_271 : decode cL_law 271 = .ok (.iload 4, 2) := by decide +kernel
theorem dL_law_273 : decode cL_law 273 = .ok (.iconst 1, 1) := by decide +kernel
theorem dL_law_274 : decode cL_law 274 = .ok (.iadd, 1) := by decide +kernel
theorem dL_law_275 : decode cL_law 275 = .ok (.iaload, 1) := by decide +kernel
theorem dL_law_276 : decode cL_law 276 = .ok (.aload_n 0, 1) := by decide +kernel
theorem dL_law_277 : decode cL_law 277 = .ok (.iload 4, 2) := by decide +kernel
theorem dL_law_279 : decode cL_law 279 = .ok (.iconst 2, 1) := by decide +kernel
theorem dL_law_280 : decode cL_law 280 = .ok (.iadd, 1) := by decide +kernel
theorem dL_law_281 : decode cL_law 281 = .ok (.iaload, 1) := by decide +kernel
theorem dL_law_282 : decode cL_law 282 = .ok (.aload_n 0, 1) := by decide +kernel
theorem dL_law_283 : decode cL_law 283 = .ok (.iload 4, 2) := by decide +kernel
theorem dL_law_285 : decode cL_law 285 = .ok (.iconst 3, 1) := by decide +kernel
theorem dL_law_286 : decode cL_law 286 = .ok (.iadd, 1) := by decide +kernel
theorem dL_law_287 : decode cL_law 287 = .ok (.iaload, 1) := by decide +kernel
theorem dL_law_288 : decode cL_law 288 = .ok (.ifCond .eq 7, 3) := by decide +kernel
theorem dL_law_291 : decode cL_law 291 = .ok (.iconst 1, 1) := by decide +kernel
theorem dL_law_292 : decode cL_law 292 = .ok (.goto 4, 3) := by decide +kernel
theorem dL_law_295 : decode cL_law 295 = .ok (.iconst 0, 1) := by decide +kernel
theorem dL_law_296 : decode cL_law 296 = .ok (.invokevirtual 77, 3) := by decide +kernel
theorem dL_law_299 : decode cL_law 299 = .ok (.istore 6, 2) := by decide +kernel
theorem dL_law_301 : decode cL_law 301 = .ok (.aload_n 2, 1) := by decide +kernel
theorem dL_law_302 : decode cL_law 302 = .ok (.invokevirtual 67, 3) := by decide +kernel
theorem dL_law_305 : decode cL_law 305 = .ok (.iload 5, 2) := by decide +kernel
theorem dL_law_307 : decode cL_law 307 = .ok (.if_icmp .eq 5, 3) := by decide +kernel
theorem dL_law_310 : decode cL_law 310 = .ok (.iconst 0, 1) := by decide +kernel
theorem dL_law_311 : decode cL_law 311 = .ok (.ireturn, 1) := by decide +kernel
theorem dL_law_312 : decode cL_law 312 = .ok (.iload 5, 2) := by decide +kernel
theorem dL_law_314 : decode cL_law 314 = .ok (.ifCond .ne 15, 3) := by decide +kernel
theorem dL_law_317 : decode cL_law 317 = .ok (.aload_n 3, 1) := by decide +kernel
theorem dL_law_318 : decode cL_law 318 = .ok (.iconst 0, 1) := by decide +kernel
theorem dL_law_319 : decode cL_law 319 = .ok (.laload, 1) := by decide +kernel
theorem dL_law_320 : decode cL_law 320 = .ok (.iload 6, 2) := by decide +kernel
theorem dL_law_322 : decode cL_law 322 = .ok (.i2l, 1) := by decide +kernel
theorem dL_law_323 : decode cL_law 323 = .ok (.lcmp, 1) := by decide +kernel
theorem dL_law_324 : decode cL_law 324 = .ok (.ifCond .eq 5, 3) := by decide +kernel
theorem dL_law_327 : decode cL_law 327 = .ok (.iconst 0, 1) := by decide +kernel
theorem dL_law_328 : decode cL_law 328 = .ok (.ireturn, 1) := by decide +kernel
theorem dL_law_329 : decode cL_law 329 = .ok (.goto 635, 3) := by decide +kernel
theorem dL_law_332 : decode cL_law 332 = .ok (.aload_n 1, 1) := by decide +kernel
theorem dL_law_333 : decode cL_law 333 = .ok (.aload_n 0, 1) := by decide +kernel
theorem dL_law_334 : decode cL_law 334 = .ok (.iload 4, 2) := by decide +kernel
theorem dL_law_336 : decode cL_law 336 = .ok (.iconst 1, 1) := by decide +kernel
theorem dL_law_337 : decode cL_law 337 = .ok (.iadd, 1) := by decide +kernel
theorem dL_law_338 : decode cL_law 338 = .ok (.iaload, 1) := by decide +kernel
theorem dL_law_339 : decode cL_law 339 = .ok (.aload_n 0, 1) := by decide +kernel
theorem dL_law_340 : decode cL_law 340 = .ok (.iload 4, 2) := by decide +kernel
theorem dL_law_342 : decode cL_law 342 = .ok (.iconst 2, 1) := by decide +kernel
theorem dL_law_343 : decode cL_law 343 = .ok (.iadd, 1) := by decide +kernel
theorem dL_law_344 : decode cL_law 344 = .ok (.iaload, 1) := by decide +kernel
theorem dL_law_345 : decode cL_law 345 = .ok (.aload_n 3, 1) := by decide +kernel
theorem dL_law_346 : decode cL_law 346 = .ok (.invokestatic 78, 3) := by decide +kernel
theorem dL_law_349 : decode cL_law 349 = .ok (.istore 5, 2) := by decide +kernel
theorem dL_law_351 : decode cL_law 351 = .ok (.aload_n 2, 1) := by decide +kernel
theorem dL_law_352 : decode cL_law 352 = .ok (.aload_n 0, 1) := by decide +kernel
theorem dL_law_353 : decode cL_law 353 = .ok (.iload 4, 2) := by decide +kernel
theorem dL_law_355 : decode cL_law 355 = .ok (.iconst 1, 1) := by decide +kernel
theorem dL_law_356 : decode cL_law 356 = .ok (.iadd, 1) := by decide +kernel
theorem dL_law_357 : decode cL_law 357 = .ok (.iaload, 1) := by decide +kernel
theorem dL_law_358 : decode cL_law 358 = .ok (.aload_n 0, 1) := by decide +kernel
theorem dL_law_359 : decode cL_law 359 = .ok (.iload 4, 2) := by decide +kernel
theorem dL_law_361 : decode cL_law 361 = .ok (.iconst 2, 1) := by decide +kernel
theorem dL_law_362 : decode cL_law 362 = .ok (.iadd, 1) := by decide +kernel
theorem dL_law_363 : decode cL_law 363 = .ok (.iaload, 1) := by decide +kernel
theorem dL_law_364 : decode cL_law 364 = .ok (.invokevirtual 81, 3) := by decide +kernel
theorem dL_law_367 : decode cL_law 367 = .ok (.istore 6, 2) := by decide +kernel
theorem dL_law_369 : decode cL_law 369 = .ok (.aload_n 2, 1) := by decide +kernel
theorem dL_law_370 : decode cL_law 370 = .ok (.invokevirtual 67, 3) := by decide +kernel
theorem dL_law_373 : decode cL_law 373 = .ok (.iload 5, 2) := by decide +kernel
theorem dL_law_375 : decode cL_law 375 = .ok (.if_icmp .eq 5, 3) := by decide +kernel
theorem dL_law_378 : decode cL_law 378 = .ok (.iconst 0, 1) := by decide +kernel
theorem dL_law_379 : decode cL_law 379 = .ok (.ireturn, 1) := by decide +kernel
theorem dL_law_380 : decode cL_law 380 = .ok (.iload 5, 2) := by decide +kernel
theorem dL_law_382 : decode cL_law 382 = .ok (.ifCond .ne 15, 3) := by decide +kernel
theorem dL_law_385 : decode cL_law 385 = .ok (.aload_n 3, 1) := by decide +kernel
theorem dL_law_386 : decode cL_law 386 = .ok (.iconst 0, 1) := by decide +kernel
theorem dL_law_387 : decode cL_law 387 = .ok (.laload, 1) := by decide +kernel
theorem dL_law_388 : decode cL_law 388 = .ok (.iload 6, 2) := by decide +kernel
theorem dL_law_390 : decode cL_law 390 = .ok (.i2l, 1) := by decide +kernel
theorem dL_law_391 : decode cL_law 391 = .ok (.lcmp, 1) := by decide +kernel
theorem dL_law_392 : decode cL_law 392 = .ok (.ifCond .eq 5, 3) := by decide +kernel
theorem dL_law_395 : decode cL_law 395 = .ok (.iconst 0, 1) := by decide +kernel
theorem dL_law_396 : decode cL_law 396 = .ok (.ireturn, 1) := by decide +kernel
theorem dL_law_397 : decode cL_law 397 = .ok (.goto 567, 3) := by decide +kernel
theorem dL_law_400 : decode cL_law 400 = .ok (.aload_n 1, 1) := by decide +kernel
theorem dL_law_401 : decode cL_law 401 = .ok (.invokevirtual 82, 3) := by decide +kernel
theorem dL_law_404 : decode cL_law 404 = .ok (.aload_n 2, 1) := by decide +kernel
theorem dL_law_405 : decode cL_law 405 = .ok (.invokevirtual 85, 3) := by decide +kernel
theorem dL_law_408 : decode cL_law 408 = .ok (.goto 556, 3) := by decide +kernel
theorem dL_law_411 : decode cL_law 411 = .ok (.aload_n 1, 1) := by decide +kernel
theorem dL_law_412 : decode cL_law 412 = .ok (.invokevirtual 86, 3) := by decide +kernel
theorem dL_law_415 : decode cL_law 415 = .ok (.aload_n 2, 1) := by decide +kernel
theorem dL_law_416 : decode cL_law 416 = .ok (.invokevirtual 89, 3) := by decide +kernel
theorem dL_law_419 : decode cL_law 419 = .ok (.if_icmp .eq 545, 3) := by decide +kernel
theorem dL_law_422 : decode cL_law 422 = .ok (.iconst 0, 1) := by decide +kernel
theorem dL_law_423 : decode cL_law 423 = .ok (.ireturn, 1) := by decide +kernel
theorem dL_law_424 : decode cL_law 424 = .ok (.aload_n 1, 1) := by decide +kernel
theorem dL_law_425 : decode cL_law 425 = .ok (.aload_n 0, 1) := by decide +kernel
theorem dL_law_426 : decode cL_law 426 = .ok (.iload 4, 2) := by decide +kernel
theorem dL_law_428 : decode cL_law 428 = .ok (.iconst 1, 1) := by decide +kernel
theorem dL_law_429 : decode cL_law 429 = .ok (.iadd, 1) := by decide +kernel
theorem dL_law_430 : decode cL_law 430 = .ok (.iaload, 1) := by decide +kernel
theorem dL_law_431 : decode cL_law 431 = .ok (.aload_n 3, 1) := by decide +kernel
theorem dL_law_432 : decode cL_law 432 = .ok (.invokestatic 90, 3) := by decide +kernel
theorem dL_law_435 : decode cL_law 435 = .ok (.istore 5, 2) := by decide +kernel
theorem dL_law_437 : decode cL_law 437 = .ok (.aload_n 2, 1) := by decide +kernel
theorem dL_law_438 : decode cL_law 438 = .ok (.aload_n 0, 1) := by decide +kernel
theorem dL_law_439 : decode cL_law 439 = .ok (.iload 4, 2) := by decide +kernel
theorem dL_law_441 : decode cL_law 441 = .ok (.iconst 1, 1) := by decide +kernel
theorem dL_law_442 : decode cL_law 442 = .ok (.iadd, 1) := by decide +kernel
theorem dL_law_443 : decode cL_law 443 = .ok (.iaload, 1) := by decide +kernel
theorem dL_law_444 : decode cL_law 444 = .ok (.invokevirtual 92, 3) := by decide +kernel
theorem dL_law_447 : decode cL_law 447 = .ok (.istore 6, 2) := by decide +kernel
theorem dL_law_449 : decode cL_law 449 = .ok (.aload_n 2, 1) := by decide +kernel
theorem dL_law_450 : decode cL_law 450 = .ok (.invokevirtual 67, 3) := by decide +kernel
theorem dL_law_453 : decode cL_law 453 = .ok (.iload 5, 2) := by decide +kernel
theorem dL_law_455 : decode cL_law 455 = .ok (.if_icmp .eq 5, 3) := by decide +kernel
theorem dL_law_458 : decode cL_law 458 = .ok (.iconst 0, 1) := by decide +kernel
theorem dL_law_459 : decode cL_law 459 = .ok (.ireturn, 1) := by decide +kernel
theorem dL_law_460 : decode cL_law 460 = .ok (.iload 5, 2) := by decide +kernel
theorem dL_law_462 : decode cL_law 462 = .ok (.ifCond .ne 15, 3) := by decide +kernel
theorem dL_law_465 : decode cL_law 465 = .ok (.aload_n 3, 1) := by decide +kernel
theorem dL_law_466 : decode cL_law 466 = .ok (.iconst 0, 1) := by decide +kernel
theorem dL_law_467 : decode cL_law 467 = .ok (.laload, 1) := by decide +kernel
theorem dL_law_468 : decode cL_law 468 = .ok (.iload 6, 2) := by decide +kernel
theorem dL_law_470 : decode cL_law 470 = .ok (.i2l, 1) := by decide +kernel
theorem dL_law_471 : decode cL_law 471 = .ok (.lcmp, 1) := by decide +kernel
theorem dL_law_472 : decode cL_law 472 = .ok (.ifCond .eq 5, 3) := by decide +kernel
theorem dL_law_475 : decode cL_law 475 = .ok (.iconst 0, 1) := by decide +kernel
theorem dL_law_476 : decode cL_law 476 = .ok (.ireturn, 1) := by decide +kernel
theorem dL_law_477 : decode cL_law 477 = .ok (.goto 487, 3) := by decide +kernel
theorem dL_law_480 : decode cL_law 480 = .ok (.aload_n 1, 1) := by decide +kernel
theorem dL_law_481 : decode cL_law 481 = .ok (.aload_n 0, 1) := by decide +kernel
theorem dL_law_482 : decode cL_law 482 = .ok (.iload 4, 2) := by decide +kernel
theorem dL_law_484 : decode cL_law 484 = .ok (.iconst 1, 1) := by decide +kernel
theorem dL_law_485 : decode cL_law 485 = .ok (.iadd, 1) := by decide +kernel
theorem dL_law_486 : decode cL_law 486 = .ok (.iaload, 1) := by decide +kernel
theorem dL_law_487 : decode cL_law 487 = .ok (.aload_n 0, 1) := by decide +kernel
theorem dL_law_488 : decode cL_law 488 = .ok (.iload 4, 2) := by decide +kernel
theorem dL_law_490 : decode cL_law 490 = .ok (.iconst 2, 1) := by decide +kernel
theorem dL_law_491 : decode cL_law 491 = .ok (.iadd, 1) := by decide +kernel
theorem dL_law_492 : decode cL_law 492 = .ok (.iaload, 1) := by decide +kernel
theorem dL_law_493 : decode cL_law 493 = .ok (.aload_n 3, 1) := by decide +kernel
theorem dL_law_494 : decode cL_law 494 = .ok (.invokestatic 93, 3) := by decide +kernel
theorem dL_law_497 : decode cL_law 497 = .ok (.istore 5, 2) := by decide +kernel
theorem dL_law_499 : decode cL_law 499 = .ok (.aload_n 2, 1) := by decide +kernel
theorem dL_law_500 : decode cL_law 500 = .ok (.aload_n 0, 1) := by decide +kernel
theorem dL_law_501 : decode cL_law 501 = .ok (.iload 4, 2) := by decide +kernel
theorem dL_law_503 : decode cL_law 503 = .ok (.iconst 1, 1) := by decide +kernel
theorem dL_law_504 : decode cL_law 504 = .ok (.iadd, 1) := by decide +kernel
theorem dL_law_505 : decode cL_law 505 = .ok (.iaload, 1) := by decide +kernel
theorem dL_law_506 : decode cL_law 506 = .ok (.aload_n 0, 1) := by decide +kernel
theorem dL_law_507 : decode cL_law 507 = .ok (.iload 4, 2) := by decide +kernel
theorem dL_law_509 : decode cL_law 509 = .ok (.iconst 2, 1) := by decide +kernel
theorem dL_law_510 : decode cL_law 510 = .ok (.iadd, 1) := by decide +kernel
theorem dL_law_511 : decode cL_law 511 = .ok (.iaload, 1) := by decide +kernel
theorem dL_law_512 : decode cL_law 512 = .ok (.invokevirtual 95, 3) := by decide +kernel
theorem dL_law_515 : decode cL_law 515 = .ok (.istore 6, 2) := by decide +kernel
theorem dL_law_517 : decode cL_law 517 = .ok (.aload_n 2, 1) := by decide +kernel
theorem dL_law_518 : decode cL_law 518 = .ok (.invokevirtual 67, 3) := by decide +kernel
theorem dL_law_521 : decode cL_law 521 = .ok (.iload 5, 2) := by decide +kernel
theorem dL_law_523 : decode cL_law 523 = .ok (.if_icmp .eq 5, 3) := by decide +kernel
theorem dL_law_526 : decode cL_law 526 = .ok (.iconst 0, 1) := by decide +kernel
theorem dL_law_527 : decode cL_law 527 = .ok (.ireturn, 1) := by decide +kernel
theorem dL_law_528 : decode cL_law 528 = .ok (.iload 5, 2) := by decide +kernel
theorem dL_law_530 : decode cL_law 530 = .ok (.ifCond .ne 15, 3) := by decide +kernel
theorem dL_law_533 : decode cL_law 533 = .ok (.aload_n 3, 1) := by decide +kernel
theorem dL_law_534 : decode cL_law 534 = .ok (.iconst 0, 1) := by decide +kernel
theorem dL_law_535 : decode cL_law 535 = .ok (.laload, 1) := by decide +kernel
theorem dL_law_536 : decode cL_law 536 = .ok (.iload 6, 2) := by decide +kernel
theorem dL_law_538 : decode cL_law 538 = .ok (.i2l, 1) := by decide +kernel
theorem dL_law_539 : decode cL_law 539 = .ok (.lcmp, 1) := by decide +kernel
theorem dL_law_540 : decode cL_law 540 = .ok (.ifCond .eq 5, 3) := by decide +kernel
theorem dL_law_543 : decode cL_law 543 = .ok (.iconst 0, 1) := by decide +kernel
theorem dL_law_544 : decode cL_law 544 = .ok (.ireturn, 1) := by decide +kernel
theorem dL_law_545 : decode cL_law 545 = .ok (.goto 419, 3) := by decide +kernel
theorem dL_law_548 : decode cL_law 548 = .ok (.aload_n 1, 1) := by decide +kernel
theorem dL_law_549 : decode cL_law 549 = .ok (.aload_n 0, 1) := by decide +kernel
theorem dL_law_550 : decode cL_law 550 = .ok (.iload 4, 2) := by decide +kernel
theorem dL_law_552 : decode cL_law 552 = .ok (.iconst 1, 1) := by decide +kernel
theorem dL_law_553 : decode cL_law 553 = .ok (.iadd, 1) := by decide +kernel
theorem dL_law_554 : decode cL_law 554 = .ok (.iaload, 1) := by decide +kernel
theorem dL_law_555 : decode cL_law 555 = .ok (.invokevirtual 96, 3) := by decide +kernel
theorem dL_law_558 : decode cL_law 558 = .ok (.aload_n 2, 1) := by decide +kernel
theorem dL_law_559 : decode cL_law 559 = .ok (.aload_n 0, 1) := by decide +kernel
theorem dL_law_560 : decode cL_law 560 = .ok (.iload 4, 2) := by decide +kernel
theorem dL_law_562 : decode cL_law 562 = .ok (.iconst 1, 1) := by decide +kernel
theorem dL_law_563 : decode cL_law 563 = .ok (.iadd, 1) := by decide +kernel
theorem dL_law_564 : decode cL_law 564 = .ok (.iaload, 1) := by decide +kernel
theorem dL_law_565 : decode cL_law 565 = .ok (.invokevirtual 100, 3) := by decide +kernel
theorem dL_law_568 : decode cL_law 568 = .ok (.if_icmp .eq 396, 3) := by decide +kernel
theorem dL_law_571 : decode cL_law 571 = .ok (.iconst 0, 1) := by decide +kernel
theorem dL_law_572 : decode cL_law 572 = .ok (.ireturn, 1) := by decide +kernel
theorem dL_law_573 : decode cL_law 573 = .ok (.aload_n 1, 1) := by decide +kernel
theorem dL_law_574 : decode cL_law 574 = .ok (.aload_n 0, 1) := by decide +kernel
theorem dL_law_575 : decode cL_law 575 = .ok (.iload 4, 2) := by decide +kernel
theorem dL_law_577 : decode cL_law 577 = .ok (.iconst 1, 1) := by decide +kernel
theorem dL_law_578 : decode cL_law 578 = .ok (.iadd, 1) := by decide +kernel
theorem dL_law_579 : decode cL_law 579 = .ok (.iaload, 1) := by decide +kernel
theorem dL_law_580 : decode cL_law 580 = .ok (.invokevirtual 101, 3) := by decide +kernel
theorem dL_law_583 : decode cL_law 583 = .ok (.aload_n 2, 1) := by decide +kernel
theorem dL_law_584 : decode cL_law 584 = .ok (.aload_n 0, 1) := by decide +kernel
theorem dL_law_585 : decode cL_law 585 = .ok (.iload 4, 2) := by decide +kernel
theorem dL_law_587 : decode cL_law 587 = .ok (.iconst 1, 1) := by decide +kernel
theorem dL_law_588 : decode cL_law 588 = .ok (.iadd, 1) := by decide +kernel
theorem dL_law_589 : decode cL_law 589 = .ok (.iaload, 1) := by decide +kernel
theorem dL_law_590 : decode cL_law 590 = .ok (.invokevirtual 104, 3) := by decide +kernel
theorem dL_law_593 : decode cL_law 593 = .ok (.if_icmp .eq 371, 3) := by decide +kernel
theorem dL_law_596 : decode cL_law 596 = .ok (.iconst 0, 1) := by decide +kernel
theorem dL_law_597 : decode cL_law 597 = .ok (.ireturn, 1) := by decide +kernel
theorem dL_law_598 : decode cL_law 598 = .ok (.aload_n 1, 1) := by decide +kernel
theorem dL_law_599 : decode cL_law 599 = .ok (.invokevirtual 105, 3) := by decide +kernel
theorem dL_law_602 : decode cL_law 602 = .ok (.aload_n 2, 1) := by decide +kernel
theorem dL_law_603 : decode cL_law 603 = .ok (.invokevirtual 108, 3) := by decide +kernel
theorem dL_law_606 : decode cL_law 606 = .ok (.if_icmp .eq 358, 3) := by decide +kernel
theorem dL_law_609 : decode cL_law 609 = .ok (.iconst 0, 1) := by decide +kernel
theorem dL_law_610 : decode cL_law 610 = .ok (.ireturn, 1) := by decide +kernel
theorem dL_law_611 : decode cL_law 611 = .ok (.aload_n 1, 1) := by decide +kernel
theorem dL_law_612 : decode cL_law 612 = .ok (.aload_n 0, 1) := by decide +kernel
theorem dL_law_613 : decode cL_law 613 = .ok (.iload 4, 2) := by decide +kernel
theorem dL_law_615 : decode cL_law 615 = .ok (.iconst 1, 1) := by decide +kernel
theorem dL_law_616 : decode cL_law 616 = .ok (.iadd, 1) := by decide +kernel
theorem dL_law_617 : decode cL_law 617 = .ok (.iaload, 1) := by decide +kernel
theorem dL_law_618 : decode cL_law 618 = .ok (.aload_n 3, 1) := by decide +kernel
theorem dL_law_619 : decode cL_law 619 = .ok (.invokestatic 109, 3) := by decide +kernel
theorem dL_law_622 : decode cL_law 622 = .ok (.istore 5, 2) := by decide +kernel
theorem dL_law_624 : decode cL_law 624 = .ok (.aload_n 2, 1) := by decide +kernel
theorem dL_law_625 : decode cL_law 625 = .ok (.aload_n 0, 1) := by decide +kernel
theorem dL_law_626 : decode cL_law 626 = .ok (.iload 4, 2) := by decide +kernel
theorem dL_law_628 : decode cL_law 628 = .ok (.iconst 1, 1) := by decide +kernel
theorem dL_law_629 : decode cL_law 629 = .ok (.iadd, 1) := by decide +kernel
theorem dL_law_630 : decode cL_law 630 = .ok (.iaload, 1) := by decide +kernel
theorem dL_law_631 : decode cL_law 631 = .ok (.invokevirtual 111, 3) := by decide +kernel
theorem dL_law_634 : decode cL_law 634 = .ok (.istore 6, 2) := by decide +kernel
theorem dL_law_636 : decode cL_law 636 = .ok (.aload_n 2, 1) := by decide +kernel
theorem dL_law_637 : decode cL_law 637 = .ok (.invokevirtual 67, 3) := by decide +kernel
theorem dL_law_640 : decode cL_law 640 = .ok (.iload 5, 2) := by decide +kernel
theorem dL_law_642 : decode cL_law 642 = .ok (.if_icmp .eq 5, 3) := by decide +kernel
theorem dL_law_645 : decode cL_law 645 = .ok (.iconst 0, 1) := by decide +kernel
theorem dL_law_646 : decode cL_law 646 = .ok (.ireturn, 1) := by decide +kernel
theorem dL_law_647 : decode cL_law 647 = .ok (.iload 5, 2) := by decide +kernel
theorem dL_law_649 : decode cL_law 649 = .ok (.ifCond .ne 15, 3) := by decide +kernel
theorem dL_law_652 : decode cL_law 652 = .ok (.aload_n 3, 1) := by decide +kernel
theorem dL_law_653 : decode cL_law 653 = .ok (.iconst 0, 1) := by decide +kernel
theorem dL_law_654 : decode cL_law 654 = .ok (.laload, 1) := by decide +kernel
theorem dL_law_655 : decode cL_law 655 = .ok (.iload 6, 2) := by decide +kernel
theorem dL_law_657 : decode cL_law 657 = .ok (.i2l, 1) := by decide +kernel
theorem dL_law_658 : decode cL_law 658 = .ok (.lcmp, 1) := by decide +kernel
theorem dL_law_659 : decode cL_law 659 = .ok (.ifCond .eq 5, 3) := by decide +kernel
theorem dL_law_662 : decode cL_law 662 = .ok (.iconst 0, 1) := by decide +kernel
theorem dL_law_663 : decode cL_law 663 = .ok (.ireturn, 1) := by decide +kernel
theorem dL_law_664 : decode cL_law 664 = .ok (.goto 300, 3) := by decide +kernel
theorem dL_law_667 : decode cL_law 667 = .ok (.aload_n 1, 1) := by decide +kernel
theorem dL_law_668 : decode cL_law 668 = .ok (.aload_n 0, 1) := by decide +kernel
theorem dL_law_669 : decode cL_law 669 = .ok (.iload 4, 2) := by decide +kernel
theorem dL_law_671 : decode cL_law 671 = .ok (.iconst 1, 1) := by decide +kernel
theorem dL_law_672 : decode cL_law 672 = .ok (.iadd, 1) := by decide +kernel
theorem dL_law_673 : decode cL_law 673 = .ok (.iaload, 1) := by decide +kernel
theorem dL_law_674 : decode cL_law 674 = .ok (.aload_n 3, 1) := by decide +kernel
theorem dL_law_675 : decode cL_law 675 = .ok (.invokestatic 112, 3) := by decide +kernel
theorem dL_law_678 : decode cL_law 678 = .ok (.istore 5, 2) := by decide +kernel
theorem dL_law_680 : decode cL_law 680 = .ok (.aload_n 2, 1) := by decide +kernel
theorem dL_law_681 : decode cL_law 681 = .ok (.aload_n 0, 1) := by decide +kernel
theorem dL_law_682 : decode cL_law 682 = .ok (.iload 4, 2) := by decide +kernel
theorem dL_law_684 : decode cL_law 684 = .ok (.iconst 1, 1) := by decide +kernel
theorem dL_law_685 : decode cL_law 685 = .ok (.iadd, 1) := by decide +kernel
theorem dL_law_686 : decode cL_law 686 = .ok (.iaload, 1) := by decide +kernel
theorem dL_law_687 : decode cL_law 687 = .ok (.invokevirtual 114, 3) := by decide +kernel
theorem dL_law_690 : decode cL_law 690 = .ok (.istore 6, 2) := by decide +kernel
theorem dL_law_692 : decode cL_law 692 = .ok (.aload_n 2, 1) := by decide +kernel
theorem dL_law_693 : decode cL_law 693 = .ok (.invokevirtual 67, 3) := by decide +kernel
theorem dL_law_696 : decode cL_law 696 = .ok (.iload 5, 2) := by decide +kernel
theorem dL_law_698 : decode cL_law 698 = .ok (.if_icmp .eq 5, 3) := by decide +kernel
theorem dL_law_701 : decode cL_law 701 = .ok (.iconst 0, 1) := by decide +kernel
theorem dL_law_702 : decode cL_law 702 = .ok (.ireturn, 1) := by decide +kernel
theorem dL_law_703 : decode cL_law 703 = .ok (.iload 5, 2) := by decide +kernel
theorem dL_law_705 : decode cL_law 705 = .ok (.ifCond .ne 15, 3) := by decide +kernel
theorem dL_law_708 : decode cL_law 708 = .ok (.aload_n 3, 1) := by decide +kernel
theorem dL_law_709 : decode cL_law 709 = .ok (.iconst 0, 1) := by decide +kernel
theorem dL_law_710 : decode cL_law 710 = .ok (.laload, 1) := by decide +kernel
theorem dL_law_711 : decode cL_law 711 = .ok (.iload 6, 2) := by decide +kernel
theorem dL_law_713 : decode cL_law 713 = .ok (.i2l, 1) := by decide +kernel
theorem dL_law_714 : decode cL_law 714 = .ok (.lcmp, 1) := by decide +kernel
theorem dL_law_715 : decode cL_law 715 = .ok (.ifCond .eq 5, 3) := by decide +kernel
theorem dL_law_718 : decode cL_law 718 = .ok (.iconst 0, 1) := by decide +kernel
theorem dL_law_719 : decode cL_law 719 = .ok (.ireturn, 1) := by decide +kernel
theorem dL_law_720 : decode cL_law 720 = .ok (.goto 244, 3) := by decide +kernel
theorem dL_law_723 : decode cL_law 723 = .ok (.aload_n 1, 1) := by decide +kernel
theorem dL_law_724 : decode cL_law 724 = .ok (.invokevirtual 115, 3) := by decide +kernel
theorem dL_law_727 : decode cL_law 727 = .ok (.aload_n 2, 1) := by decide +kernel
theorem dL_law_728 : decode cL_law 728 = .ok (.invokevirtual 118, 3) := by decide +kernel
theorem dL_law_731 : decode cL_law 731 = .ok (.if_icmp .eq 233, 3) := by decide +kernel
theorem dL_law_734 : decode cL_law 734 = .ok (.iconst 0, 1) := by decide +kernel
theorem dL_law_735 : decode cL_law 735 = .ok (.ireturn, 1) := by decide +kernel
theorem dL_law_736 : decode cL_law 736 = .ok (.aload_n 1, 1) := by decide +kernel
theorem dL_law_737 : decode cL_law 737 = .ok (.invokevirtual 119, 3) := by decide +kernel
theorem dL_law_740 : decode cL_law 740 = .ok (.aload_n 2, 1) := by decide +kernel
theorem dL_law_741 : decode cL_law 741 = .ok (.invokevirtual 122, 3) := by decide +kernel
theorem dL_law_744 : decode cL_law 744 = .ok (.if_icmp .eq 220, 3) := by decide +kernel
theorem dL_law_747 : decode cL_law 747 = .ok (.iconst 0, 1) := by decide +kernel
theorem dL_law_748 : decode cL_law 748 = .ok (.ireturn, 1) := by decide +kernel
theorem dL_law_749 : decode cL_law 749 = .ok (.aload_n 1, 1) := by decide +kernel
theorem dL_law_750 : decode cL_law 750 = .ok (.aload_n 0, 1) := by decide +kernel
theorem dL_law_751 : decode cL_law 751 = .ok (.iload 4, 2) := by decide +kernel
theorem dL_law_753 : decode cL_law 753 = .ok (.iconst 1, 1) := by decide +kernel
theorem dL_law_754 : decode cL_law 754 = .ok (.iadd, 1) := by decide +kernel
theorem dL_law_755 : decode cL_law 755 = .ok (.iaload, 1) := by decide +kernel
theorem dL_law_756 : decode cL_law 756 = .ok (.aload_n 3, 1) := by decide +kernel
theorem dL_law_757 : decode cL_law 757 = .ok (.invokestatic 123, 3) := by decide +kernel
theorem dL_law_760 : decode cL_law 760 = .ok (.istore 5, 2) := by decide +kernel
theorem dL_law_762 : decode cL_law 762 = .ok (.aload_n 2, 1) := by decide +kernel
theorem dL_law_763 : decode cL_law 763 = .ok (.aload_n 0, 1) := by decide +kernel
theorem dL_law_764 : decode cL_law 764 = .ok (.iload 4, 2) := by decide +kernel
theorem dL_law_766 : decode cL_law 766 = .ok (.iconst 1, 1) := by decide +kernel
theorem dL_law_767 : decode cL_law 767 = .ok (.iadd, 1) := by decide +kernel
theorem dL_law_768 : decode cL_law 768 = .ok (.iaload, 1) := by decide +kernel
theorem dL_law_769 : decode cL_law 769 = .ok (.invokevirtual 125, 3) := by decide +kernel
theorem dL_law_772 : decode cL_law 772 = .ok (.istore 6, 2) := by decide +kernel
theorem dL_law_774 : decode cL_law 774 = .ok (.aload_n 2, 1) := by decide +kernel
theorem dL_law_775 : decode cL_law 775 = .ok (.invokevirtual 67, 3) := by decide +kernel
theorem dL_law_778 : decode cL_law 778 = .ok (.iload 5, 2) := by decide +kernel
theorem dL_law_780 : decode cL_law 780 = .ok (.if_icmp .eq 5, 3) := by decide +kernel
theorem dL_law_783 : decode cL_law 783 = .ok (.iconst 0, 1) := by decide +kernel
theorem dL_law_784 : decode cL_law 784 = .ok (.ireturn, 1) := by decide +kernel
theorem dL_law_785 : decode cL_law 785 = .ok (.iload 5, 2) := by decide +kernel
theorem dL_law_787 : decode cL_law 787 = .ok (.ifCond .ne 15, 3) := by decide +kernel
theorem dL_law_790 : decode cL_law 790 = .ok (.aload_n 3, 1) := by decide +kernel
theorem dL_law_791 : decode cL_law 791 = .ok (.iconst 0, 1) := by decide +kernel
theorem dL_law_792 : decode cL_law 792 = .ok (.laload, 1) := by decide +kernel
theorem dL_law_793 : decode cL_law 793 = .ok (.iload 6, 2) := by decide +kernel
theorem dL_law_795 : decode cL_law 795 = .ok (.i2l, 1) := by decide +kernel
theorem dL_law_796 : decode cL_law 796 = .ok (.lcmp, 1) := by decide +kernel
theorem dL_law_797 : decode cL_law 797 = .ok (.ifCond .eq 5, 3) := by decide +kernel
theorem dL_law_800 : decode cL_law 800 = .ok (.iconst 0, 1) := by decide +kernel
theorem dL_law_801 : decode cL_law 801 = .ok (.ireturn, 1) := by decide +kernel
theorem dL_law_802 : decode cL_law 802 = .ok (.goto 162, 3) := by decide +kernel
theorem dL_law_805 : decode cL_law 805 = .ok (.aload_n 1, 1) := by decide +kernel
theorem dL_law_806 : decode cL_law 806 = .ok (.aload_n 0, 1) := by decide +kernel
theorem dL_law_807 : decode cL_law 807 = .ok (.iload 4, 2) := by decide +kernel
theorem dL_law_809 : decode cL_law 809 = .ok (.iconst 1, 1) := by decide +kernel
theorem dL_law_810 : decode cL_law 810 = .ok (.iadd, 1) := by decide +kernel
theorem dL_law_811 : decode cL_law 811 = .ok (.iaload, 1) := by decide +kernel
theorem dL_law_812 : decode cL_law 812 = .ok (.aload_n 0, 1) := by decide +kernel
theorem dL_law_813 : decode cL_law 813 = .ok (.iload 4, 2) := by decide +kernel
theorem dL_law_815 : decode cL_law 815 = .ok (.iconst 2, 1) := by decide +kernel
theorem dL_law_816 : decode cL_law 816 = .ok (.iadd, 1) := by decide +kernel
theorem dL_law_817 : decode cL_law 817 = .ok (.iaload, 1) := by decide +kernel
theorem dL_law_818 : decode cL_law 818 = .ok (.aload_n 3, 1) := by decide +kernel
theorem dL_law_819 : decode cL_law 819 = .ok (.invokestatic 126, 3) := by decide +kernel
theorem dL_law_822 : decode cL_law 822 = .ok (.istore 5, 2) := by decide +kernel
theorem dL_law_824 : decode cL_law 824 = .ok (.aload_n 2, 1) := by decide +kernel
theorem dL_law_825 : decode cL_law 825 = .ok (.aload_n 0, 1) := by decide +kernel
theorem dL_law_826 : decode cL_law 826 = .ok (.iload 4, 2) := by decide +kernel
theorem dL_law_828 : decode cL_law 828 = .ok (.iconst 1, 1) := by decide +kernel
theorem dL_law_829 : decode cL_law 829 = .ok (.iadd, 1) := by decide +kernel
theorem dL_law_830 : decode cL_law 830 = .ok (.iaload, 1) := by decide +kernel
theorem dL_law_831 : decode cL_law 831 = .ok (.aload_n 0, 1) := by decide +kernel
theorem dL_law_832 : decode cL_law 832 = .ok (.iload 4, 2) := by decide +kernel
theorem dL_law_834 : decode cL_law 834 = .ok (.iconst 2, 1) := by decide +kernel
theorem dL_law_835 : decode cL_law 835 = .ok (.iadd, 1) := by decide +kernel
theorem dL_law_836 : decode cL_law 836 = .ok (.iaload, 1) := by decide +kernel
theorem dL_law_837 : decode cL_law 837 = .ok (.invokevirtual 128, 3) := by decide +kernel
theorem dL_law_840 : decode cL_law 840 = .ok (.lstore 6, 2) := by decide +kernel
theorem dL_law_842 : decode cL_law 842 = .ok (.aload_n 2, 1) := by decide +kernel
theorem dL_law_843 : decode cL_law 843 = .ok (.invokevirtual 67, 3) := by decide +kernel
theorem dL_law_846 : decode cL_law 846 = .ok (.iload 5, 2) := by decide +kernel
theorem dL_law_848 : decode cL_law 848 = .ok (.if_icmp .eq 5, 3) := by decide +kernel
theorem dL_law_851 : decode cL_law 851 = .ok (.iconst 0, 1) := by decide +kernel
theorem dL_law_852 : decode cL_law 852 = .ok (.ireturn, 1) := by decide +kernel
theorem dL_law_853 : decode cL_law 853 = .ok (.iload 5, 2) := by decide +kernel
theorem dL_law_855 : decode cL_law 855 = .ok (.ifCond .ne 14, 3) := by decide +kernel
theorem dL_law_858 : decode cL_law 858 = .ok (.aload_n 3, 1) := by decide +kernel
theorem dL_law_859 : decode cL_law 859 = .ok (.iconst 0, 1) := by decide +kernel
theorem dL_law_860 : decode cL_law 860 = .ok (.laload, 1) := by decide +kernel
theorem dL_law_861 : decode cL_law 861 = .ok (.lload 6, 2) := by decide +kernel
theorem dL_law_863 : decode cL_law 863 = .ok (.lcmp, 1) := by decide +kernel
theorem dL_law_864 : decode cL_law 864 = .ok (.ifCond .eq 5, 3) := by decide +kernel
theorem dL_law_867 : decode cL_law 867 = .ok (.iconst 0, 1) := by decide +kernel
theorem dL_law_868 : decode cL_law 868 = .ok (.ireturn, 1) := by decide +kernel
theorem dL_law_869 : decode cL_law 869 = .ok (.goto 95, 3) := by decide +kernel
theorem dL_law_872 : decode cL_law 872 = .ok (.aload_n 1, 1) := by decide +kernel
theorem dL_law_873 : decode cL_law 873 = .ok (.aload_n 0, 1) := by decide +kernel
theorem dL_law_874 : decode cL_law 874 = .ok (.iload 4, 2) := by decide +kernel
theorem dL_law_876 : decode cL_law 876 = .ok (.iconst 1, 1) := by decide +kernel
theorem dL_law_877 : decode cL_law 877 = .ok (.iadd, 1) := by decide +kernel
theorem dL_law_878 : decode cL_law 878 = .ok (.iaload, 1) := by decide +kernel
theorem dL_law_879 : decode cL_law 879 = .ok (.aload_n 0, 1) := by decide +kernel
theorem dL_law_880 : decode cL_law 880 = .ok (.iload 4, 2) := by decide +kernel
theorem dL_law_882 : decode cL_law 882 = .ok (.iconst 2, 1) := by decide +kernel
theorem dL_law_883 : decode cL_law 883 = .ok (.iadd, 1) := by decide +kernel
theorem dL_law_884 : decode cL_law 884 = .ok (.iaload, 1) := by decide +kernel
theorem dL_law_885 : decode cL_law 885 = .ok (.aload_n 0, 1) := by decide +kernel
theorem dL_law_886 : decode cL_law 886 = .ok (.iload 4, 2) := by decide +kernel
theorem dL_law_888 : decode cL_law 888 = .ok (.iconst 3, 1) := by decide +kernel
theorem dL_law_889 : decode cL_law 889 = .ok (.iadd, 1) := by decide +kernel
theorem dL_law_890 : decode cL_law 890 = .ok (.iaload, 1) := by decide +kernel
theorem dL_law_891 : decode cL_law 891 = .ok (.i2l, 1) := by decide +kernel
theorem dL_law_892 : decode cL_law 892 = .ok (.bipush 32, 2) := by decide +kernel
theorem dL_law_894 : decode cL_law 894 = .ok (.lshl, 1) := by decide +kernel
theorem dL_law_895 : decode cL_law 895 = .ok (.aload_n 0, 1) := by decide +kernel
theorem dL_law_896 : decode cL_law 896 = .ok (.iload 4, 2) := by decide +kernel
theorem dL_law_898 : decode cL_law 898 = .ok (.iconst 4, 1) := by decide +kernel
theorem dL_law_899 : decode cL_law 899 = .ok (.iadd, 1) := by decide +kernel
theorem dL_law_900 : decode cL_law 900 = .ok (.iaload, 1) := by decide +kernel
theorem dL_law_901 : decode cL_law 901 = .ok (.i2l, 1) := by decide +kernel
theorem dL_law_902 : decode cL_law 902 = .ok (.ldc2_w 129, 3) := by decide +kernel
theorem dL_law_905 : decode cL_law 905 = .ok (.land, 1) := by decide +kernel
theorem dL_law_906 : decode cL_law 906 = .ok (.lor, 1) := by decide +kernel
theorem dL_law_907 : decode cL_law 907 = .ok (.invokestatic 131, 3) := by decide +kernel
theorem dL_law_910 : decode cL_law 910 = .ok (.istore 5, 2) := by decide +kernel
theorem dL_law_912 : decode cL_law 912 = .ok (.aload_n 2, 1) := by decide +kernel
theorem dL_law_913 : decode cL_law 913 = .ok (.aload_n 0, 1) := by decide +kernel
theorem dL_law_914 : decode cL_law 914 = .ok (.iload 4, 2) := by decide +kernel
theorem dL_law_916 : decode cL_law 916 = .ok (.iconst 1, 1) := by decide +kernel
theorem dL_law_917 : decode cL_law 917 = .ok (.iadd, 1) := by decide +kernel
theorem dL_law_918 : decode cL_law 918 = .ok (.iaload, 1) := by decide +kernel
theorem dL_law_919 : decode cL_law 919 = .ok (.aload_n 0, 1) := by decide +kernel
theorem dL_law_920 : decode cL_law 920 = .ok (.iload 4, 2) := by decide +kernel
theorem dL_law_922 : decode cL_law 922 = .ok (.iconst 2, 1) := by decide +kernel
theorem dL_law_923 : decode cL_law 923 = .ok (.iadd, 1) := by decide +kernel
theorem dL_law_924 : decode cL_law 924 = .ok (.iaload, 1) := by decide +kernel
theorem dL_law_925 : decode cL_law 925 = .ok (.aload_n 0, 1) := by decide +kernel
theorem dL_law_926 : decode cL_law 926 = .ok (.iload 4, 2) := by decide +kernel
theorem dL_law_928 : decode cL_law 928 = .ok (.iconst 3, 1) := by decide +kernel
theorem dL_law_929 : decode cL_law 929 = .ok (.iadd, 1) := by decide +kernel
theorem dL_law_930 : decode cL_law 930 = .ok (.iaload, 1) := by decide +kernel
theorem dL_law_931 : decode cL_law 931 = .ok (.i2l, 1) := by decide +kernel
theorem dL_law_932 : decode cL_law 932 = .ok (.bipush 32, 2) := by decide +kernel
theorem dL_law_934 : decode cL_law 934 = .ok (.lshl, 1) := by decide +kernel
theorem dL_law_935 : decode cL_law 935 = .ok (.aload_n 0, 1) := by decide +kernel
theorem dL_law_936 : decode cL_law 936 = .ok (.iload 4, 2) := by decide +kernel
theorem dL_law_938 : decode cL_law 938 = .ok (.iconst 4, 1) := by decide +kernel
theorem dL_law_939 : decode cL_law 939 = .ok (.iadd, 1) := by decide +kernel
theorem dL_law_940 : decode cL_law 940 = .ok (.iaload, 1) := by decide +kernel
theorem dL_law_941 : decode cL_law 941 = .ok (.i2l, 1) := by decide +kernel
theorem dL_law_942 : decode cL_law 942 = .ok (.ldc2_w 129, 3) := by decide +kernel
theorem dL_law_945 : decode cL_law 945 = .ok (.land, 1) := by decide +kernel
theorem dL_law_946 : decode cL_law 946 = .ok (.lor, 1) := by decide +kernel
theorem dL_law_947 : decode cL_law 947 = .ok (.invokevirtual 134, 3) := by decide +kernel
theorem dL_law_950 : decode cL_law 950 = .ok (.aload_n 2, 1) := by decide +kernel
theorem dL_law_951 : decode cL_law 951 = .ok (.invokevirtual 67, 3) := by decide +kernel
theorem dL_law_954 : decode cL_law 954 = .ok (.iload 5, 2) := by decide +kernel
theorem dL_law_956 : decode cL_law 956 = .ok (.if_icmp .eq 5, 3) := by decide +kernel
theorem dL_law_959 : decode cL_law 959 = .ok (.iconst 0, 1) := by decide +kernel
theorem dL_law_960 : decode cL_law 960 = .ok (.ireturn, 1) := by decide +kernel
theorem dL_law_961 : decode cL_law 961 = .ok (.goto 3, 3) := by decide +kernel
theorem dL_law_964 : decode cL_law 964 = .ok (.iinc 4 5, 3) := by decide +kernel
theorem dL_law_967 : decode cL_law 967 = .ok (.goto (-944), 3) := by decide +kernel
theorem dL_law_970 : decode cL_law 970 = .ok (.iconst 1, 1) := by decide +kernel
theorem dL_law_971 : decode cL_law 971 = .ok (.ireturn, 1) := by decide +kernel
end
