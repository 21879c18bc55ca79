-- ===== PART A: goes FIRST, ahead of the names: the tables' words, and 'selects' of the private methods out of them =====
/-- a private method of a class that the tables say can be made, by its rows of tables_1 -/
def lw_okq (q : MethodName × Nat) : Prop := (q.1.cls ≠ "java/lang/invoke/MethodHandle" ∧ q.1.cls ≠ "java/lang/invoke/VarHandle") ∧ Cond.instantiable q.1.cls q.2 ∈ tables_1 ∧ Cond.privateMethod q.1 ∈ tables_1 ∧ Cond.instanceMethod q.1 ∈ tables_1
theorem lw_p0 : lw_okq (⟨"MuleSeasons$Tape", "size", "()I"⟩, 2) := ⟨⟨by decide +kernel, by decide +kernel⟩, List.mem_of_getElem? (i := 32) (by decide +kernel), List.mem_of_getElem? (i := 305) (by decide +kernel), List.mem_of_getElem? (i := 306) (by decide +kernel)⟩
theorem lw_p1 : lw_okq (⟨"MuleSeasons$Tape", "addNumber", "(I)V"⟩, 2) := ⟨⟨by decide +kernel, by decide +kernel⟩, List.mem_of_getElem? (i := 32) (by decide +kernel), List.mem_of_getElem? (i := 309) (by decide +kernel), List.mem_of_getElem? (i := 310) (by decide +kernel)⟩
theorem lw_p2 : lw_okq (⟨"MuleSeasons$Tape", "cut", "(I)V"⟩, 2) := ⟨⟨by decide +kernel, by decide +kernel⟩, List.mem_of_getElem? (i := 32) (by decide +kernel), List.mem_of_getElem? (i := 320) (by decide +kernel), List.mem_of_getElem? (i := 321) (by decide +kernel)⟩
theorem lw_p3 : lw_okq (⟨"MuleSeasons$PlainReader", "readPlain", "()I"⟩, 3) := ⟨⟨by decide +kernel, by decide +kernel⟩, List.mem_of_getElem? (i := 46) (by decide +kernel), List.mem_of_getElem? (i := 328) (by decide +kernel), List.mem_of_getElem? (i := 329) (by decide +kernel)⟩
theorem lw_p4 : lw_okq (⟨"MuleSeasons$Cursor", "begin", "()V"⟩, 3) := ⟨⟨by decide +kernel, by decide +kernel⟩, List.mem_of_getElem? (i := 65) (by decide +kernel), List.mem_of_getElem? (i := 332) (by decide +kernel), List.mem_of_getElem? (i := 333) (by decide +kernel)⟩
theorem lw_p5 : lw_okq (⟨"MuleSeasons$Season", "clear", "()V"⟩, 2) := ⟨⟨by decide +kernel, by decide +kernel⟩, List.mem_of_getElem? (i := 52) (by decide +kernel), List.mem_of_getElem? (i := 336) (by decide +kernel), List.mem_of_getElem? (i := 337) (by decide +kernel)⟩
theorem lw_p6 : lw_okq (⟨"MuleSeasons$Season", "put", "(II)V"⟩, 2) := ⟨⟨by decide +kernel, by decide +kernel⟩, List.mem_of_getElem? (i := 52) (by decide +kernel), List.mem_of_getElem? (i := 340) (by decide +kernel), List.mem_of_getElem? (i := 341) (by decide +kernel)⟩
theorem lw_p7 : lw_okq (⟨"MuleSeasons$PlainReader", "putUsual", "(II)V"⟩, 3) := ⟨⟨by decide +kernel, by decide +kernel⟩, List.mem_of_getElem? (i := 46) (by decide +kernel), List.mem_of_getElem? (i := 345) (by decide +kernel), List.mem_of_getElem? (i := 346) (by decide +kernel)⟩
theorem lw_p8 : lw_okq (⟨"MuleSeasons$PlainReader", "readClause", "()V"⟩, 3) := ⟨⟨by decide +kernel, by decide +kernel⟩, List.mem_of_getElem? (i := 46) (by decide +kernel), List.mem_of_getElem? (i := 371) (by decide +kernel), List.mem_of_getElem? (i := 372) (by decide +kernel)⟩
theorem lw_p9 : lw_okq (⟨"MuleSeasons$Cursor", "lookFor", "(Ljava/lang/String;)I"⟩, 3) := ⟨⟨by decide +kernel, by decide +kernel⟩, List.mem_of_getElem? (i := 65) (by decide +kernel), List.mem_of_getElem? (i := 376) (by decide +kernel), List.mem_of_getElem? (i := 377) (by decide +kernel)⟩
theorem lw_p10 : lw_okq (⟨"MuleSeasons$Cursor", "look", "()I"⟩, 3) := ⟨⟨by decide +kernel, by decide +kernel⟩, List.mem_of_getElem? (i := 65) (by decide +kernel), List.mem_of_getElem? (i := 380) (by decide +kernel), List.mem_of_getElem? (i := 381) (by decide +kernel)⟩
theorem lw_p11 : lw_okq (⟨"MuleSeasons$Tape", "byteAt", "(I)I"⟩, 2) := ⟨⟨by decide +kernel, by decide +kernel⟩, List.mem_of_getElem? (i := 32) (by decide +kernel), List.mem_of_getElem? (i := 385) (by decide +kernel), List.mem_of_getElem? (i := 386) (by decide +kernel)⟩
theorem lw_p12 : lw_okq (⟨"MuleSeasons$PlainReader", "hasRoom", "(I)Z"⟩, 3) := ⟨⟨by decide +kernel, by decide +kernel⟩, List.mem_of_getElem? (i := 46) (by decide +kernel), List.mem_of_getElem? (i := 466) (by decide +kernel), List.mem_of_getElem? (i := 467) (by decide +kernel)⟩
theorem lw_p13 : lw_okq (⟨"MuleSeasons$Season", "get", "(I)I"⟩, 2) := ⟨⟨by decide +kernel, by decide +kernel⟩, List.mem_of_getElem? (i := 52) (by decide +kernel), List.mem_of_getElem? (i := 470) (by decide +kernel), List.mem_of_getElem? (i := 471) (by decide +kernel)⟩
theorem lw_p14 : lw_okq (⟨"MuleSeasons$Cursor", "fail", "()V"⟩, 3) := ⟨⟨by decide +kernel, by decide +kernel⟩, List.mem_of_getElem? (i := 65) (by decide +kernel), List.mem_of_getElem? (i := 475) (by decide +kernel), List.mem_of_getElem? (i := 476) (by decide +kernel)⟩
theorem lw_p15 : lw_okq (⟨"MuleSeasons$Cursor", "step", "()V"⟩, 3) := ⟨⟨by decide +kernel, by decide +kernel⟩, List.mem_of_getElem? (i := 65) (by decide +kernel), List.mem_of_getElem? (i := 479) (by decide +kernel), List.mem_of_getElem? (i := 480) (by decide +kernel)⟩
def lw_privs_1 : List (MethodName × Nat) := [(⟨"MuleSeasons$Tape", "size", "()I"⟩, 2), (⟨"MuleSeasons$Tape", "addNumber", "(I)V"⟩, 2), (⟨"MuleSeasons$Tape", "cut", "(I)V"⟩, 2), (⟨"MuleSeasons$PlainReader", "readPlain", "()I"⟩, 3), (⟨"MuleSeasons$Cursor", "begin", "()V"⟩, 3), (⟨"MuleSeasons$Season", "clear", "()V"⟩, 2), (⟨"MuleSeasons$Season", "put", "(II)V"⟩, 2), (⟨"MuleSeasons$PlainReader", "putUsual", "(II)V"⟩, 3), (⟨"MuleSeasons$PlainReader", "readClause", "()V"⟩, 3), (⟨"MuleSeasons$Cursor", "lookFor", "(Ljava/lang/String;)I"⟩, 3), (⟨"MuleSeasons$Cursor", "look", "()I"⟩, 3), (⟨"MuleSeasons$Tape", "byteAt", "(I)I"⟩, 2), (⟨"MuleSeasons$PlainReader", "hasRoom", "(I)Z"⟩, 3), (⟨"MuleSeasons$Season", "get", "(I)I"⟩, 2), (⟨"MuleSeasons$Cursor", "fail", "()V"⟩, 3), (⟨"MuleSeasons$Cursor", "step", "()V"⟩, 3)]
theorem lw_r1 : ∀ q ∈ lw_privs_1, lw_okq q := List.forall_mem_cons.mpr ⟨lw_p0, List.forall_mem_cons.mpr ⟨lw_p1, List.forall_mem_cons.mpr ⟨lw_p2, List.forall_mem_cons.mpr ⟨lw_p3, List.forall_mem_cons.mpr ⟨lw_p4, List.forall_mem_cons.mpr ⟨lw_p5, List.forall_mem_cons.mpr ⟨lw_p6, List.forall_mem_cons.mpr ⟨lw_p7, List.forall_mem_cons.mpr ⟨lw_p8, List.forall_mem_cons.mpr ⟨lw_p9, List.forall_mem_cons.mpr ⟨lw_p10, List.forall_mem_cons.mpr ⟨lw_p11, List.forall_mem_cons.mpr ⟨lw_p12, List.forall_mem_cons.mpr ⟨lw_p13, List.forall_mem_cons.mpr ⟨lw_p14, List.forall_mem_cons.mpr ⟨lw_p15, fun _ h => absurd h List.not_mem_nil⟩⟩⟩⟩⟩⟩⟩⟩⟩⟩⟩⟩⟩⟩⟩⟩
theorem lw_p16 : lw_okq (⟨"MuleSeasons$PlainReader", "beginClause", "(I)I"⟩, 3) := ⟨⟨by decide +kernel, by decide +kernel⟩, List.mem_of_getElem? (i := 46) (by decide +kernel), List.mem_of_getElem? (i := 483) (by decide +kernel), List.mem_of_getElem? (i := 484) (by decide +kernel)⟩
theorem lw_p17 : lw_okq (⟨"MuleSeasons$Season", "add", "(II)V"⟩, 2) := ⟨⟨by decide +kernel, by decide +kernel⟩, List.mem_of_getElem? (i := 52) (by decide +kernel), List.mem_of_getElem? (i := 487) (by decide +kernel), List.mem_of_getElem? (i := 488) (by decide +kernel)⟩
theorem lw_p18 : lw_okq (⟨"MuleSeasons$PlainReader", "readItems", "(II)V"⟩, 3) := ⟨⟨by decide +kernel, by decide +kernel⟩, List.mem_of_getElem? (i := 46) (by decide +kernel), List.mem_of_getElem? (i := 491) (by decide +kernel), List.mem_of_getElem? (i := 492) (by decide +kernel)⟩
theorem lw_p19 : lw_okq (⟨"MuleSeasons$Cursor", "failed", "()Z"⟩, 3) := ⟨⟨by decide +kernel, by decide +kernel⟩, List.mem_of_getElem? (i := 65) (by decide +kernel), List.mem_of_getElem? (i := 495) (by decide +kernel), List.mem_of_getElem? (i := 496) (by decide +kernel)⟩
theorem lw_p20 : lw_okq (⟨"MuleSeasons$Cursor", "number", "(III)I"⟩, 3) := ⟨⟨by decide +kernel, by decide +kernel⟩, List.mem_of_getElem? (i := 65) (by decide +kernel), List.mem_of_getElem? (i := 504) (by decide +kernel), List.mem_of_getElem? (i := 505) (by decide +kernel)⟩
theorem lw_p21 : lw_okq (⟨"MuleSeasons$Cursor", "onDigit", "()Z"⟩, 3) := ⟨⟨by decide +kernel, by decide +kernel⟩, List.mem_of_getElem? (i := 65) (by decide +kernel), List.mem_of_getElem? (i := 508) (by decide +kernel), List.mem_of_getElem? (i := 509) (by decide +kernel)⟩
theorem lw_p22 : lw_okq (⟨"MuleSeasons$LawReader", "readLaw", "()I"⟩, 3) := ⟨⟨by decide +kernel, by decide +kernel⟩, List.mem_of_getElem? (i := 94) (by decide +kernel), List.mem_of_getElem? (i := 513) (by decide +kernel), List.mem_of_getElem? (i := 514) (by decide +kernel)⟩
theorem lw_p23 : lw_okq (⟨"MuleSeasons$LawReader", "readClause", "()V"⟩, 3) := ⟨⟨by decide +kernel, by decide +kernel⟩, List.mem_of_getElem? (i := 94) (by decide +kernel), List.mem_of_getElem? (i := 518) (by decide +kernel), List.mem_of_getElem? (i := 519) (by decide +kernel)⟩
theorem lw_p24 : lw_okq (⟨"MuleSeasons$Cursor", "expect", "(I)V"⟩, 3) := ⟨⟨by decide +kernel, by decide +kernel⟩, List.mem_of_getElem? (i := 65) (by decide +kernel), List.mem_of_getElem? (i := 522) (by decide +kernel), List.mem_of_getElem? (i := 523) (by decide +kernel)⟩
theorem lw_p25 : lw_okq (⟨"MuleSeasons$LawReader", "readSum", "(I)V"⟩, 3) := ⟨⟨by decide +kernel, by decide +kernel⟩, List.mem_of_getElem? (i := 94) (by decide +kernel), List.mem_of_getElem? (i := 527) (by decide +kernel), List.mem_of_getElem? (i := 528) (by decide +kernel)⟩
theorem lw_p26 : lw_okq (⟨"MuleSeasons$LawReader", "readTerm", "(I)V"⟩, 3) := ⟨⟨by decide +kernel, by decide +kernel⟩, List.mem_of_getElem? (i := 94) (by decide +kernel), List.mem_of_getElem? (i := 531) (by decide +kernel), List.mem_of_getElem? (i := 532) (by decide +kernel)⟩
theorem lw_p27 : lw_okq (⟨"MuleSeasons$LawReader", "readAtom", "(I)V"⟩, 3) := ⟨⟨by decide +kernel, by decide +kernel⟩, List.mem_of_getElem? (i := 94) (by decide +kernel), List.mem_of_getElem? (i := 535) (by decide +kernel), List.mem_of_getElem? (i := 536) (by decide +kernel)⟩
theorem lw_p28 : lw_okq (⟨"MuleSeasons$LawReader", "write", "(II)V"⟩, 3) := ⟨⟨by decide +kernel, by decide +kernel⟩, List.mem_of_getElem? (i := 94) (by decide +kernel), List.mem_of_getElem? (i := 543) (by decide +kernel), List.mem_of_getElem? (i := 544) (by decide +kernel)⟩
theorem lw_p29 : lw_okq (⟨"MuleSeasons$LawReader", "readCondition", "(IZ)V"⟩, 3) := ⟨⟨by decide +kernel, by decide +kernel⟩, List.mem_of_getElem? (i := 94) (by decide +kernel), List.mem_of_getElem? (i := 553) (by decide +kernel), List.mem_of_getElem? (i := 554) (by decide +kernel)⟩
theorem lw_p30 : lw_okq (⟨"MuleSeasons$LawReader", "readTruth", "(IZ)V"⟩, 3) := ⟨⟨by decide +kernel, by decide +kernel⟩, List.mem_of_getElem? (i := 94) (by decide +kernel), List.mem_of_getElem? (i := 557) (by decide +kernel), List.mem_of_getElem? (i := 558) (by decide +kernel)⟩
theorem lw_p31 : lw_okq (⟨"MuleSeasons$LawReader", "readUnit", "(IZ)V"⟩, 3) := ⟨⟨by decide +kernel, by decide +kernel⟩, List.mem_of_getElem? (i := 94) (by decide +kernel), List.mem_of_getElem? (i := 561) (by decide +kernel), List.mem_of_getElem? (i := 562) (by decide +kernel)⟩
def lw_privs_2 : List (MethodName × Nat) := [(⟨"MuleSeasons$PlainReader", "beginClause", "(I)I"⟩, 3), (⟨"MuleSeasons$Season", "add", "(II)V"⟩, 2), (⟨"MuleSeasons$PlainReader", "readItems", "(II)V"⟩, 3), (⟨"MuleSeasons$Cursor", "failed", "()Z"⟩, 3), (⟨"MuleSeasons$Cursor", "number", "(III)I"⟩, 3), (⟨"MuleSeasons$Cursor", "onDigit", "()Z"⟩, 3), (⟨"MuleSeasons$LawReader", "readLaw", "()I"⟩, 3), (⟨"MuleSeasons$LawReader", "readClause", "()V"⟩, 3), (⟨"MuleSeasons$Cursor", "expect", "(I)V"⟩, 3), (⟨"MuleSeasons$LawReader", "readSum", "(I)V"⟩, 3), (⟨"MuleSeasons$LawReader", "readTerm", "(I)V"⟩, 3), (⟨"MuleSeasons$LawReader", "readAtom", "(I)V"⟩, 3), (⟨"MuleSeasons$LawReader", "write", "(II)V"⟩, 3), (⟨"MuleSeasons$LawReader", "readCondition", "(IZ)V"⟩, 3), (⟨"MuleSeasons$LawReader", "readTruth", "(IZ)V"⟩, 3), (⟨"MuleSeasons$LawReader", "readUnit", "(IZ)V"⟩, 3)]
theorem lw_r2 : ∀ q ∈ lw_privs_2, lw_okq q := List.forall_mem_cons.mpr ⟨lw_p16, List.forall_mem_cons.mpr ⟨lw_p17, List.forall_mem_cons.mpr ⟨lw_p18, List.forall_mem_cons.mpr ⟨lw_p19, List.forall_mem_cons.mpr ⟨lw_p20, List.forall_mem_cons.mpr ⟨lw_p21, List.forall_mem_cons.mpr ⟨lw_p22, List.forall_mem_cons.mpr ⟨lw_p23, List.forall_mem_cons.mpr ⟨lw_p24, List.forall_mem_cons.mpr ⟨lw_p25, List.forall_mem_cons.mpr ⟨lw_p26, List.forall_mem_cons.mpr ⟨lw_p27, List.forall_mem_cons.mpr ⟨lw_p28, List.forall_mem_cons.mpr ⟨lw_p29, List.forall_mem_cons.mpr ⟨lw_p30, List.forall_mem_cons.mpr ⟨lw_p31, fun _ h => absurd h List.not_mem_nil⟩⟩⟩⟩⟩⟩⟩⟩⟩⟩⟩⟩⟩⟩⟩⟩
theorem lw_p32 : lw_okq (⟨"MuleSeasons$LawReader", "readNested", "(II)V"⟩, 3) := ⟨⟨by decide +kernel, by decide +kernel⟩, List.mem_of_getElem? (i := 94) (by decide +kernel), List.mem_of_getElem? (i := 565) (by decide +kernel), List.mem_of_getElem? (i := 566) (by decide +kernel)⟩
theorem lw_p33 : lw_okq (⟨"MuleSeasons", "takePlain", "()I"⟩, 16) := ⟨⟨by decide +kernel, by decide +kernel⟩, List.mem_of_getElem? (i := 24) (by decide +kernel), List.mem_of_getElem? (i := 574) (by decide +kernel), List.mem_of_getElem? (i := 575) (by decide +kernel)⟩
theorem lw_p34 : lw_okq (⟨"MuleSeasons$Season", "become", "(LMuleSeasons$Season;)V"⟩, 2) := ⟨⟨by decide +kernel, by decide +kernel⟩, List.mem_of_getElem? (i := 52) (by decide +kernel), List.mem_of_getElem? (i := 578) (by decide +kernel), List.mem_of_getElem? (i := 579) (by decide +kernel)⟩
theorem lw_p35 : lw_okq (⟨"MuleSeasons$Acts", "forget", "()V"⟩, 3) := ⟨⟨by decide +kernel, by decide +kernel⟩, List.mem_of_getElem? (i := 146) (by decide +kernel), List.mem_of_getElem? (i := 583) (by decide +kernel), List.mem_of_getElem? (i := 584) (by decide +kernel)⟩
theorem lw_p36 : lw_okq (⟨"MuleSeasons$Witness", "forget", "()V"⟩, 10) := ⟨⟨by decide +kernel, by decide +kernel⟩, List.mem_of_getElem? (i := 199) (by decide +kernel), List.mem_of_getElem? (i := 587) (by decide +kernel), List.mem_of_getElem? (i := 588) (by decide +kernel)⟩
theorem lw_p37 : lw_okq (⟨"MuleSeasons", "takeLaw", "()I"⟩, 16) := ⟨⟨by decide +kernel, by decide +kernel⟩, List.mem_of_getElem? (i := 24) (by decide +kernel), List.mem_of_getElem? (i := 592) (by decide +kernel), List.mem_of_getElem? (i := 593) (by decide +kernel)⟩
theorem lw_p38 : lw_okq (⟨"MuleSeasons$Laws", "addLaw", "([II)I"⟩, 7) := ⟨⟨by decide +kernel, by decide +kernel⟩, List.mem_of_getElem? (i := 114) (by decide +kernel), List.mem_of_getElem? (i := 596) (by decide +kernel), List.mem_of_getElem? (i := 597) (by decide +kernel)⟩
theorem lw_p39 : lw_okq (⟨"MuleSeasons$Season", "hasMonth", "(I)Z"⟩, 2) := ⟨⟨by decide +kernel, by decide +kernel⟩, List.mem_of_getElem? (i := 52) (by decide +kernel), List.mem_of_getElem? (i := 610) (by decide +kernel), List.mem_of_getElem? (i := 611) (by decide +kernel)⟩
theorem lw_p40 : lw_okq (⟨"MuleSeasons$Season", "ofMonth", "(II)I"⟩, 2) := ⟨⟨by decide +kernel, by decide +kernel⟩, List.mem_of_getElem? (i := 52) (by decide +kernel), List.mem_of_getElem? (i := 614) (by decide +kernel), List.mem_of_getElem? (i := 615) (by decide +kernel)⟩
theorem lw_p41 : lw_okq (⟨"MuleSeasons$Laws", "pullFor", "(LMuleSeasons$Season;)I"⟩, 7) := ⟨⟨by decide +kernel, by decide +kernel⟩, List.mem_of_getElem? (i := 114) (by decide +kernel), List.mem_of_getElem? (i := 629) (by decide +kernel), List.mem_of_getElem? (i := 630) (by decide +kernel)⟩
theorem lw_p42 : lw_okq (⟨"MuleSeasons$Laws", "worth", "()I"⟩, 7) := ⟨⟨by decide +kernel, by decide +kernel⟩, List.mem_of_getElem? (i := 114) (by decide +kernel), List.mem_of_getElem? (i := 635) (by decide +kernel), List.mem_of_getElem? (i := 636) (by decide +kernel)⟩
theorem lw_p43 : lw_okq (⟨"MuleSeasons$Laws", "push", "(I)V"⟩, 7) := ⟨⟨by decide +kernel, by decide +kernel⟩, List.mem_of_getElem? (i := 114) (by decide +kernel), List.mem_of_getElem? (i := 640) (by decide +kernel), List.mem_of_getElem? (i := 641) (by decide +kernel)⟩
theorem lw_p44 : lw_okq (⟨"MuleSeasons$Laws", "pop", "()I"⟩, 7) := ⟨⟨by decide +kernel, by decide +kernel⟩, List.mem_of_getElem? (i := 114) (by decide +kernel), List.mem_of_getElem? (i := 644) (by decide +kernel), List.mem_of_getElem? (i := 645) (by decide +kernel)⟩
theorem lw_p45 : lw_okq (⟨"MuleSeasons$Season", "logged", "(II)I"⟩, 2) := ⟨⟨by decide +kernel, by decide +kernel⟩, List.mem_of_getElem? (i := 52) (by decide +kernel), List.mem_of_getElem? (i := 668) (by decide +kernel), List.mem_of_getElem? (i := 669) (by decide +kernel)⟩
theorem lw_p46 : lw_okq (⟨"MuleSeasons$Season", "daysOfYear", "()I"⟩, 2) := ⟨⟨by decide +kernel, by decide +kernel⟩, List.mem_of_getElem? (i := 52) (by decide +kernel), List.mem_of_getElem? (i := 676) (by decide +kernel), List.mem_of_getElem? (i := 677) (by decide +kernel)⟩
theorem lw_p47 : lw_okq (⟨"MuleSeasons$Season", "firstLevel", "(II)I"⟩, 2) := ⟨⟨by decide +kernel, by decide +kernel⟩, List.mem_of_getElem? (i := 52) (by decide +kernel), List.mem_of_getElem? (i := 685) (by decide +kernel), List.mem_of_getElem? (i := 686) (by decide +kernel)⟩
def lw_privs_3 : List (MethodName × Nat) := [(⟨"MuleSeasons$LawReader", "readNested", "(II)V"⟩, 3), (⟨"MuleSeasons", "takePlain", "()I"⟩, 16), (⟨"MuleSeasons$Season", "become", "(LMuleSeasons$Season;)V"⟩, 2), (⟨"MuleSeasons$Acts", "forget", "()V"⟩, 3), (⟨"MuleSeasons$Witness", "forget", "()V"⟩, 10), (⟨"MuleSeasons", "takeLaw", "()I"⟩, 16), (⟨"MuleSeasons$Laws", "addLaw", "([II)I"⟩, 7), (⟨"MuleSeasons$Season", "hasMonth", "(I)Z"⟩, 2), (⟨"MuleSeasons$Season", "ofMonth", "(II)I"⟩, 2), (⟨"MuleSeasons$Laws", "pullFor", "(LMuleSeasons$Season;)I"⟩, 7), (⟨"MuleSeasons$Laws", "worth", "()I"⟩, 7), (⟨"MuleSeasons$Laws", "push", "(I)V"⟩, 7), (⟨"MuleSeasons$Laws", "pop", "()I"⟩, 7), (⟨"MuleSeasons$Season", "logged", "(II)I"⟩, 2), (⟨"MuleSeasons$Season", "daysOfYear", "()I"⟩, 2), (⟨"MuleSeasons$Season", "firstLevel", "(II)I"⟩, 2)]
theorem lw_r3 : ∀ q ∈ lw_privs_3, lw_okq q := List.forall_mem_cons.mpr ⟨lw_p32, List.forall_mem_cons.mpr ⟨lw_p33, List.forall_mem_cons.mpr ⟨lw_p34, List.forall_mem_cons.mpr ⟨lw_p35, List.forall_mem_cons.mpr ⟨lw_p36, List.forall_mem_cons.mpr ⟨lw_p37, List.forall_mem_cons.mpr ⟨lw_p38, List.forall_mem_cons.mpr ⟨lw_p39, List.forall_mem_cons.mpr ⟨lw_p40, List.forall_mem_cons.mpr ⟨lw_p41, List.forall_mem_cons.mpr ⟨lw_p42, List.forall_mem_cons.mpr ⟨lw_p43, List.forall_mem_cons.mpr ⟨lw_p44, List.forall_mem_cons.mpr ⟨lw_p45, List.forall_mem_cons.mpr ⟨lw_p46, List.forall_mem_cons.mpr ⟨lw_p47, fun _ h => absurd h List.not_mem_nil⟩⟩⟩⟩⟩⟩⟩⟩⟩⟩⟩⟩⟩⟩⟩⟩
theorem lw_p48 : lw_okq (⟨"MuleSeasons$Season", "richest", "()I"⟩, 2) := ⟨⟨by decide +kernel, by decide +kernel⟩, List.mem_of_getElem? (i := 52) (by decide +kernel), List.mem_of_getElem? (i := 693) (by decide +kernel), List.mem_of_getElem? (i := 694) (by decide +kernel)⟩
theorem lw_p49 : lw_okq (⟨"MuleSeasons$Season", "driest", "()I"⟩, 2) := ⟨⟨by decide +kernel, by decide +kernel⟩, List.mem_of_getElem? (i := 52) (by decide +kernel), List.mem_of_getElem? (i := 697) (by decide +kernel), List.mem_of_getElem? (i := 698) (by decide +kernel)⟩
theorem lw_p50 : lw_okq (⟨"MuleSeasons$Season", "neediest", "()I"⟩, 2) := ⟨⟨by decide +kernel, by decide +kernel⟩, List.mem_of_getElem? (i := 52) (by decide +kernel), List.mem_of_getElem? (i := 701) (by decide +kernel), List.mem_of_getElem? (i := 702) (by decide +kernel)⟩
theorem lw_p51 : lw_okq (⟨"MuleSeasons$Season", "ofCrop", "(II)I"⟩, 2) := ⟨⟨by decide +kernel, by decide +kernel⟩, List.mem_of_getElem? (i := 52) (by decide +kernel), List.mem_of_getElem? (i := 705) (by decide +kernel), List.mem_of_getElem? (i := 706) (by decide +kernel)⟩
theorem lw_p52 : lw_okq (⟨"MuleSeasons$Season", "unripeValue", "()I"⟩, 2) := ⟨⟨by decide +kernel, by decide +kernel⟩, List.mem_of_getElem? (i := 52) (by decide +kernel), List.mem_of_getElem? (i := 717) (by decide +kernel), List.mem_of_getElem? (i := 718) (by decide +kernel)⟩
theorem lw_p53 : lw_okq (⟨"MuleSeasons$Season", "ripeBits", "()I"⟩, 2) := ⟨⟨by decide +kernel, by decide +kernel⟩, List.mem_of_getElem? (i := 52) (by decide +kernel), List.mem_of_getElem? (i := 725) (by decide +kernel), List.mem_of_getElem? (i := 726) (by decide +kernel)⟩
theorem lw_p54 : lw_okq (⟨"MuleSeasons", "refuse", "(I)I"⟩, 16) := ⟨⟨by decide +kernel, by decide +kernel⟩, List.mem_of_getElem? (i := 24) (by decide +kernel), List.mem_of_getElem? (i := 734) (by decide +kernel), List.mem_of_getElem? (i := 735) (by decide +kernel)⟩
theorem lw_p55 : lw_okq (⟨"MuleSeasons$Acts", "keep", "(LMuleSeasons$Season;)V"⟩, 3) := ⟨⟨by decide +kernel, by decide +kernel⟩, List.mem_of_getElem? (i := 146) (by decide +kernel), List.mem_of_getElem? (i := 739) (by decide +kernel), List.mem_of_getElem? (i := 740) (by decide +kernel)⟩
theorem lw_p56 : lw_okq (⟨"MuleSeasons$Season", "takeTurns", "(ILMuleSeasons$Laws;)V"⟩, 2) := ⟨⟨by decide +kernel, by decide +kernel⟩, List.mem_of_getElem? (i := 52) (by decide +kernel), List.mem_of_getElem? (i := 746) (by decide +kernel), List.mem_of_getElem? (i := 747) (by decide +kernel)⟩
theorem lw_p57 : lw_okq (⟨"MuleSeasons$Season", "takeDay", "()V"⟩, 2) := ⟨⟨by decide +kernel, by decide +kernel⟩, List.mem_of_getElem? (i := 52) (by decide +kernel), List.mem_of_getElem? (i := 751) (by decide +kernel), List.mem_of_getElem? (i := 752) (by decide +kernel)⟩
theorem lw_p58 : lw_okq (⟨"MuleSeasons$Season", "growCrops", "(I)I"⟩, 2) := ⟨⟨by decide +kernel, by decide +kernel⟩, List.mem_of_getElem? (i := 52) (by decide +kernel), List.mem_of_getElem? (i := 755) (by decide +kernel), List.mem_of_getElem? (i := 756) (by decide +kernel)⟩
theorem lw_p59 : lw_okq (⟨"MuleSeasons$Season", "eatHay", "()V"⟩, 2) := ⟨⟨by decide +kernel, by decide +kernel⟩, List.mem_of_getElem? (i := 52) (by decide +kernel), List.mem_of_getElem? (i := 760) (by decide +kernel), List.mem_of_getElem? (i := 761) (by decide +kernel)⟩
theorem lw_p60 : lw_okq (⟨"MuleSeasons$Season", "writeLog", "(II)V"⟩, 2) := ⟨⟨by decide +kernel, by decide +kernel⟩, List.mem_of_getElem? (i := 52) (by decide +kernel), List.mem_of_getElem? (i := 765) (by decide +kernel), List.mem_of_getElem? (i := 766) (by decide +kernel)⟩
theorem lw_p61 : lw_okq (⟨"MuleSeasons$Season", "greaseMonth", "(II)V"⟩, 2) := ⟨⟨by decide +kernel, by decide +kernel⟩, List.mem_of_getElem? (i := 52) (by decide +kernel), List.mem_of_getElem? (i := 778) (by decide +kernel), List.mem_of_getElem? (i := 779) (by decide +kernel)⟩
theorem lw_p62 : lw_okq (⟨"MuleSeasons$Season", "chipMonth", "(I)V"⟩, 2) := ⟨⟨by decide +kernel, by decide +kernel⟩, List.mem_of_getElem? (i := 52) (by decide +kernel), List.mem_of_getElem? (i := 786) (by decide +kernel), List.mem_of_getElem? (i := 787) (by decide +kernel)⟩
theorem lw_p63 : lw_okq (⟨"MuleSeasons$Season", "turnRound", "()V"⟩, 2) := ⟨⟨by decide +kernel, by decide +kernel⟩, List.mem_of_getElem? (i := 52) (by decide +kernel), List.mem_of_getElem? (i := 794) (by decide +kernel), List.mem_of_getElem? (i := 795) (by decide +kernel)⟩
def lw_privs_4 : List (MethodName × Nat) := [(⟨"MuleSeasons$Season", "richest", "()I"⟩, 2), (⟨"MuleSeasons$Season", "driest", "()I"⟩, 2), (⟨"MuleSeasons$Season", "neediest", "()I"⟩, 2), (⟨"MuleSeasons$Season", "ofCrop", "(II)I"⟩, 2), (⟨"MuleSeasons$Season", "unripeValue", "()I"⟩, 2), (⟨"MuleSeasons$Season", "ripeBits", "()I"⟩, 2), (⟨"MuleSeasons", "refuse", "(I)I"⟩, 16), (⟨"MuleSeasons$Acts", "keep", "(LMuleSeasons$Season;)V"⟩, 3), (⟨"MuleSeasons$Season", "takeTurns", "(ILMuleSeasons$Laws;)V"⟩, 2), (⟨"MuleSeasons$Season", "takeDay", "()V"⟩, 2), (⟨"MuleSeasons$Season", "growCrops", "(I)I"⟩, 2), (⟨"MuleSeasons$Season", "eatHay", "()V"⟩, 2), (⟨"MuleSeasons$Season", "writeLog", "(II)V"⟩, 2), (⟨"MuleSeasons$Season", "greaseMonth", "(II)V"⟩, 2), (⟨"MuleSeasons$Season", "chipMonth", "(I)V"⟩, 2), (⟨"MuleSeasons$Season", "turnRound", "()V"⟩, 2)]
theorem lw_r4 : ∀ q ∈ lw_privs_4, lw_okq q := List.forall_mem_cons.mpr ⟨lw_p48, List.forall_mem_cons.mpr ⟨lw_p49, List.forall_mem_cons.mpr ⟨lw_p50, List.forall_mem_cons.mpr ⟨lw_p51, List.forall_mem_cons.mpr ⟨lw_p52, List.forall_mem_cons.mpr ⟨lw_p53, List.forall_mem_cons.mpr ⟨lw_p54, List.forall_mem_cons.mpr ⟨lw_p55, List.forall_mem_cons.mpr ⟨lw_p56, List.forall_mem_cons.mpr ⟨lw_p57, List.forall_mem_cons.mpr ⟨lw_p58, List.forall_mem_cons.mpr ⟨lw_p59, List.forall_mem_cons.mpr ⟨lw_p60, List.forall_mem_cons.mpr ⟨lw_p61, List.forall_mem_cons.mpr ⟨lw_p62, List.forall_mem_cons.mpr ⟨lw_p63, fun _ h => absurd h List.not_mem_nil⟩⟩⟩⟩⟩⟩⟩⟩⟩⟩⟩⟩⟩⟩⟩⟩
theorem lw_p64 : lw_okq (⟨"MuleSeasons$Season", "hasCrop", "(I)Z"⟩, 2) := ⟨⟨by decide +kernel, by decide +kernel⟩, List.mem_of_getElem? (i := 52) (by decide +kernel), List.mem_of_getElem? (i := 807) (by decide +kernel), List.mem_of_getElem? (i := 808) (by decide +kernel)⟩
theorem lw_p65 : lw_okq (⟨"MuleSeasons$Season", "sowCrop", "(I)V"⟩, 2) := ⟨⟨by decide +kernel, by decide +kernel⟩, List.mem_of_getElem? (i := 52) (by decide +kernel), List.mem_of_getElem? (i := 812) (by decide +kernel), List.mem_of_getElem? (i := 813) (by decide +kernel)⟩
theorem lw_p66 : lw_okq (⟨"MuleSeasons$Draws", "begin", "(J)V"⟩, 1) := ⟨⟨by decide +kernel, by decide +kernel⟩, List.mem_of_getElem? (i := 239) (by decide +kernel), List.mem_of_getElem? (i := 824) (by decide +kernel), List.mem_of_getElem? (i := 825) (by decide +kernel)⟩
theorem lw_p67 : lw_okq (⟨"MuleSeasons", "strike", "()V"⟩, 16) := ⟨⟨by decide +kernel, by decide +kernel⟩, List.mem_of_getElem? (i := 24) (by decide +kernel), List.mem_of_getElem? (i := 828) (by decide +kernel), List.mem_of_getElem? (i := 829) (by decide +kernel)⟩
theorem lw_p68 : lw_okq (⟨"MuleSeasons$Draws", "below", "(I)I"⟩, 1) := ⟨⟨by decide +kernel, by decide +kernel⟩, List.mem_of_getElem? (i := 239) (by decide +kernel), List.mem_of_getElem? (i := 832) (by decide +kernel), List.mem_of_getElem? (i := 833) (by decide +kernel)⟩
theorem lw_p69 : lw_okq (⟨"MuleSeasons$Acts", "takeBack", "(LMuleSeasons$Season;)Z"⟩, 3) := ⟨⟨by decide +kernel, by decide +kernel⟩, List.mem_of_getElem? (i := 146) (by decide +kernel), List.mem_of_getElem? (i := 842) (by decide +kernel), List.mem_of_getElem? (i := 843) (by decide +kernel)⟩
theorem lw_p70 : lw_okq (⟨"MuleSeasons$Forecast", "placeBehind", "(IZI)I"⟩, 8) := ⟨⟨by decide +kernel, by decide +kernel⟩, List.mem_of_getElem? (i := 163) (by decide +kernel), List.mem_of_getElem? (i := 860) (by decide +kernel), List.mem_of_getElem? (i := 861) (by decide +kernel)⟩
theorem lw_p71 : lw_okq (⟨"MuleSeasons$Forecast", "turnsTo", "(I)I"⟩, 8) := ⟨⟨by decide +kernel, by decide +kernel⟩, List.mem_of_getElem? (i := 163) (by decide +kernel), List.mem_of_getElem? (i := 872) (by decide +kernel), List.mem_of_getElem? (i := 873) (by decide +kernel)⟩
theorem lw_p72 : lw_okq (⟨"MuleSeasons$Forecast", "turnsUntil", "(II)I"⟩, 8) := ⟨⟨by decide +kernel, by decide +kernel⟩, List.mem_of_getElem? (i := 163) (by decide +kernel), List.mem_of_getElem? (i := 876) (by decide +kernel), List.mem_of_getElem? (i := 877) (by decide +kernel)⟩
theorem lw_p73 : lw_okq (⟨"MuleSeasons$Forecast", "leastFeed", "(I)I"⟩, 8) := ⟨⟨by decide +kernel, by decide +kernel⟩, List.mem_of_getElem? (i := 163) (by decide +kernel), List.mem_of_getElem? (i := 884) (by decide +kernel), List.mem_of_getElem? (i := 885) (by decide +kernel)⟩
theorem lw_p74 : lw_okq (⟨"MuleSeasons$Forecast", "runWith", "(II)V"⟩, 8) := ⟨⟨by decide +kernel, by decide +kernel⟩, List.mem_of_getElem? (i := 163) (by decide +kernel), List.mem_of_getElem? (i := 888) (by decide +kernel), List.mem_of_getElem? (i := 889) (by decide +kernel)⟩
theorem lw_p75 : lw_okq (⟨"MuleSeasons$Season", "allRipe", "()Z"⟩, 2) := ⟨⟨by decide +kernel, by decide +kernel⟩, List.mem_of_getElem? (i := 52) (by decide +kernel), List.mem_of_getElem? (i := 893) (by decide +kernel), List.mem_of_getElem? (i := 894) (by decide +kernel)⟩
theorem lw_p76 : lw_okq (⟨"MuleSeasons$Forecast", "turnsToRipe", "(I)I"⟩, 8) := ⟨⟨by decide +kernel, by decide +kernel⟩, List.mem_of_getElem? (i := 163) (by decide +kernel), List.mem_of_getElem? (i := 902) (by decide +kernel), List.mem_of_getElem? (i := 903) (by decide +kernel)⟩
theorem lw_p77 : lw_okq (⟨"MuleSeasons$Forecast", "seekOil", "(II)V"⟩, 8) := ⟨⟨by decide +kernel, by decide +kernel⟩, List.mem_of_getElem? (i := 163) (by decide +kernel), List.mem_of_getElem? (i := 911) (by decide +kernel), List.mem_of_getElem? (i := 912) (by decide +kernel)⟩
theorem lw_p78 : lw_okq (⟨"MuleSeasons$Forecast", "tryOil", "(III)V"⟩, 8) := ⟨⟨by decide +kernel, by decide +kernel⟩, List.mem_of_getElem? (i := 163) (by decide +kernel), List.mem_of_getElem? (i := 915) (by decide +kernel), List.mem_of_getElem? (i := 916) (by decide +kernel)⟩
theorem lw_p79 : lw_okq (⟨"MuleSeasons", "canPlay", "(III)Z"⟩, 16) := ⟨⟨by decide +kernel, by decide +kernel⟩, List.mem_of_getElem? (i := 24) (by decide +kernel), List.mem_of_getElem? (i := 925) (by decide +kernel), List.mem_of_getElem? (i := 926) (by decide +kernel)⟩
def lw_privs_5 : List (MethodName × Nat) := [(⟨"MuleSeasons$Season", "hasCrop", "(I)Z"⟩, 2), (⟨"MuleSeasons$Season", "sowCrop", "(I)V"⟩, 2), (⟨"MuleSeasons$Draws", "begin", "(J)V"⟩, 1), (⟨"MuleSeasons", "strike", "()V"⟩, 16), (⟨"MuleSeasons$Draws", "below", "(I)I"⟩, 1), (⟨"MuleSeasons$Acts", "takeBack", "(LMuleSeasons$Season;)Z"⟩, 3), (⟨"MuleSeasons$Forecast", "placeBehind", "(IZI)I"⟩, 8), (⟨"MuleSeasons$Forecast", "turnsTo", "(I)I"⟩, 8), (⟨"MuleSeasons$Forecast", "turnsUntil", "(II)I"⟩, 8), (⟨"MuleSeasons$Forecast", "leastFeed", "(I)I"⟩, 8), (⟨"MuleSeasons$Forecast", "runWith", "(II)V"⟩, 8), (⟨"MuleSeasons$Season", "allRipe", "()Z"⟩, 2), (⟨"MuleSeasons$Forecast", "turnsToRipe", "(I)I"⟩, 8), (⟨"MuleSeasons$Forecast", "seekOil", "(II)V"⟩, 8), (⟨"MuleSeasons$Forecast", "tryOil", "(III)V"⟩, 8), (⟨"MuleSeasons", "canPlay", "(III)Z"⟩, 16)]
theorem lw_r5 : ∀ q ∈ lw_privs_5, lw_okq q := List.forall_mem_cons.mpr ⟨lw_p64, List.forall_mem_cons.mpr ⟨lw_p65, List.forall_mem_cons.mpr ⟨lw_p66, List.forall_mem_cons.mpr ⟨lw_p67, List.forall_mem_cons.mpr ⟨lw_p68, List.forall_mem_cons.mpr ⟨lw_p69, List.forall_mem_cons.mpr ⟨lw_p70, List.forall_mem_cons.mpr ⟨lw_p71, List.forall_mem_cons.mpr ⟨lw_p72, List.forall_mem_cons.mpr ⟨lw_p73, List.forall_mem_cons.mpr ⟨lw_p74, List.forall_mem_cons.mpr ⟨lw_p75, List.forall_mem_cons.mpr ⟨lw_p76, List.forall_mem_cons.mpr ⟨lw_p77, List.forall_mem_cons.mpr ⟨lw_p78, List.forall_mem_cons.mpr ⟨lw_p79, fun _ h => absurd h List.not_mem_nil⟩⟩⟩⟩⟩⟩⟩⟩⟩⟩⟩⟩⟩⟩⟩⟩
theorem lw_p80 : lw_okq (⟨"MuleSeasons$Forecast", "daysWith", "(III)I"⟩, 8) := ⟨⟨by decide +kernel, by decide +kernel⟩, List.mem_of_getElem? (i := 163) (by decide +kernel), List.mem_of_getElem? (i := 929) (by decide +kernel), List.mem_of_getElem? (i := 930) (by decide +kernel)⟩
theorem lw_p81 : lw_okq (⟨"MuleSeasons$Season", "came", "(I)I"⟩, 2) := ⟨⟨by decide +kernel, by decide +kernel⟩, List.mem_of_getElem? (i := 52) (by decide +kernel), List.mem_of_getElem? (i := 933) (by decide +kernel), List.mem_of_getElem? (i := 934) (by decide +kernel)⟩
theorem lw_p82 : lw_okq (⟨"MuleSeasons$Forecast", "restAt", "(IIII)I"⟩, 8) := ⟨⟨by decide +kernel, by decide +kernel⟩, List.mem_of_getElem? (i := 163) (by decide +kernel), List.mem_of_getElem? (i := 941) (by decide +kernel), List.mem_of_getElem? (i := 942) (by decide +kernel)⟩
theorem lw_p83 : lw_okq (⟨"MuleSeasons$Forecast", "isRest", "(II)Z"⟩, 8) := ⟨⟨by decide +kernel, by decide +kernel⟩, List.mem_of_getElem? (i := 163) (by decide +kernel), List.mem_of_getElem? (i := 946) (by decide +kernel), List.mem_of_getElem? (i := 947) (by decide +kernel)⟩
theorem lw_p84 : lw_okq (⟨"MuleSeasons$Forecast", "shareOf", "(III)I"⟩, 8) := ⟨⟨by decide +kernel, by decide +kernel⟩, List.mem_of_getElem? (i := 163) (by decide +kernel), List.mem_of_getElem? (i := 958) (by decide +kernel), List.mem_of_getElem? (i := 959) (by decide +kernel)⟩
theorem lw_p85 : lw_okq (⟨"MuleSeasons$Forecast", "rideTurns", "(II)I"⟩, 8) := ⟨⟨by decide +kernel, by decide +kernel⟩, List.mem_of_getElem? (i := 163) (by decide +kernel), List.mem_of_getElem? (i := 966) (by decide +kernel), List.mem_of_getElem? (i := 967) (by decide +kernel)⟩
theorem lw_p86 : lw_okq (⟨"MuleSeasons$Forecast", "neverBits", "(I)I"⟩, 8) := ⟨⟨by decide +kernel, by decide +kernel⟩, List.mem_of_getElem? (i := 163) (by decide +kernel), List.mem_of_getElem? (i := 974) (by decide +kernel), List.mem_of_getElem? (i := 975) (by decide +kernel)⟩
theorem lw_p87 : lw_okq (⟨"MuleSeasons$Forecast", "turnsToDeath", "()I"⟩, 8) := ⟨⟨by decide +kernel, by decide +kernel⟩, List.mem_of_getElem? (i := 163) (by decide +kernel), List.mem_of_getElem? (i := 982) (by decide +kernel), List.mem_of_getElem? (i := 983) (by decide +kernel)⟩
theorem lw_p88 : lw_okq (⟨"MuleSeasons$Forecast", "deadParts", "(II)J"⟩, 8) := ⟨⟨by decide +kernel, by decide +kernel⟩, List.mem_of_getElem? (i := 163) (by decide +kernel), List.mem_of_getElem? (i := 991) (by decide +kernel), List.mem_of_getElem? (i := 992) (by decide +kernel)⟩
theorem lw_p89 : lw_okq (⟨"MuleSeasons$Forecast", "setPart", "(IJ)V"⟩, 8) := ⟨⟨by decide +kernel, by decide +kernel⟩, List.mem_of_getElem? (i := 163) (by decide +kernel), List.mem_of_getElem? (i := 995) (by decide +kernel), List.mem_of_getElem? (i := 996) (by decide +kernel)⟩
theorem lw_p90 : lw_okq (⟨"MuleSeasons$Forecast", "partAt", "(I)J"⟩, 8) := ⟨⟨by decide +kernel, by decide +kernel⟩, List.mem_of_getElem? (i := 163) (by decide +kernel), List.mem_of_getElem? (i := 1000) (by decide +kernel), List.mem_of_getElem? (i := 1001) (by decide +kernel)⟩
theorem lw_p91 : lw_okq (⟨"MuleSeasons$Witness", "addSeen", "(IIZ)I"⟩, 10) := ⟨⟨by decide +kernel, by decide +kernel⟩, List.mem_of_getElem? (i := 199) (by decide +kernel), List.mem_of_getElem? (i := 1013) (by decide +kernel), List.mem_of_getElem? (i := 1014) (by decide +kernel)⟩
theorem lw_p92 : lw_okq (⟨"MuleSeasons$Witness", "tryAll", "(I)V"⟩, 10) := ⟨⟨by decide +kernel, by decide +kernel⟩, List.mem_of_getElem? (i := 199) (by decide +kernel), List.mem_of_getElem? (i := 1022) (by decide +kernel), List.mem_of_getElem? (i := 1023) (by decide +kernel)⟩
theorem lw_p93 : lw_okq (⟨"MuleSeasons$Witness", "walk", "(II)V"⟩, 10) := ⟨⟨by decide +kernel, by decide +kernel⟩, List.mem_of_getElem? (i := 199) (by decide +kernel), List.mem_of_getElem? (i := 1027) (by decide +kernel), List.mem_of_getElem? (i := 1028) (by decide +kernel)⟩
theorem lw_p94 : lw_okq (⟨"MuleSeasons$Witness", "fitsAll", "(I)Z"⟩, 10) := ⟨⟨by decide +kernel, by decide +kernel⟩, List.mem_of_getElem? (i := 199) (by decide +kernel), List.mem_of_getElem? (i := 1035) (by decide +kernel), List.mem_of_getElem? (i := 1036) (by decide +kernel)⟩
theorem lw_p95 : lw_okq (⟨"MuleSeasons$Witness", "pathAt", "(II)I"⟩, 10) := ⟨⟨by decide +kernel, by decide +kernel⟩, List.mem_of_getElem? (i := 199) (by decide +kernel), List.mem_of_getElem? (i := 1040) (by decide +kernel), List.mem_of_getElem? (i := 1041) (by decide +kernel)⟩
def lw_privs_6 : List (MethodName × Nat) := [(⟨"MuleSeasons$Forecast", "daysWith", "(III)I"⟩, 8), (⟨"MuleSeasons$Season", "came", "(I)I"⟩, 2), (⟨"MuleSeasons$Forecast", "restAt", "(IIII)I"⟩, 8), (⟨"MuleSeasons$Forecast", "isRest", "(II)Z"⟩, 8), (⟨"MuleSeasons$Forecast", "shareOf", "(III)I"⟩, 8), (⟨"MuleSeasons$Forecast", "rideTurns", "(II)I"⟩, 8), (⟨"MuleSeasons$Forecast", "neverBits", "(I)I"⟩, 8), (⟨"MuleSeasons$Forecast", "turnsToDeath", "()I"⟩, 8), (⟨"MuleSeasons$Forecast", "deadParts", "(II)J"⟩, 8), (⟨"MuleSeasons$Forecast", "setPart", "(IJ)V"⟩, 8), (⟨"MuleSeasons$Forecast", "partAt", "(I)J"⟩, 8), (⟨"MuleSeasons$Witness", "addSeen", "(IIZ)I"⟩, 10), (⟨"MuleSeasons$Witness", "tryAll", "(I)V"⟩, 10), (⟨"MuleSeasons$Witness", "walk", "(II)V"⟩, 10), (⟨"MuleSeasons$Witness", "fitsAll", "(I)Z"⟩, 10), (⟨"MuleSeasons$Witness", "pathAt", "(II)I"⟩, 10)]
theorem lw_r6 : ∀ q ∈ lw_privs_6, lw_okq q := List.forall_mem_cons.mpr ⟨lw_p80, List.forall_mem_cons.mpr ⟨lw_p81, List.forall_mem_cons.mpr ⟨lw_p82, List.forall_mem_cons.mpr ⟨lw_p83, List.forall_mem_cons.mpr ⟨lw_p84, List.forall_mem_cons.mpr ⟨lw_p85, List.forall_mem_cons.mpr ⟨lw_p86, List.forall_mem_cons.mpr ⟨lw_p87, List.forall_mem_cons.mpr ⟨lw_p88, List.forall_mem_cons.mpr ⟨lw_p89, List.forall_mem_cons.mpr ⟨lw_p90, List.forall_mem_cons.mpr ⟨lw_p91, List.forall_mem_cons.mpr ⟨lw_p92, List.forall_mem_cons.mpr ⟨lw_p93, List.forall_mem_cons.mpr ⟨lw_p94, List.forall_mem_cons.mpr ⟨lw_p95, fun _ h => absurd h List.not_mem_nil⟩⟩⟩⟩⟩⟩⟩⟩⟩⟩⟩⟩⟩⟩⟩⟩
theorem lw_p96 : lw_okq (⟨"MuleSeasons$Witness", "suspectAt", "(I)I"⟩, 10) := ⟨⟨by decide +kernel, by decide +kernel⟩, List.mem_of_getElem? (i := 199) (by decide +kernel), List.mem_of_getElem? (i := 1044) (by decide +kernel), List.mem_of_getElem? (i := 1045) (by decide +kernel)⟩
theorem lw_p97 : lw_okq (⟨"MuleSeasons$Witness", "whenToLook", "()I"⟩, 10) := ⟨⟨by decide +kernel, by decide +kernel⟩, List.mem_of_getElem? (i := 199) (by decide +kernel), List.mem_of_getElem? (i := 1052) (by decide +kernel), List.mem_of_getElem? (i := 1053) (by decide +kernel)⟩
theorem lw_p98 : lw_okq (⟨"MuleSeasons$Witness", "mostAlike", "(I)I"⟩, 10) := ⟨⟨by decide +kernel, by decide +kernel⟩, List.mem_of_getElem? (i := 199) (by decide +kernel), List.mem_of_getElem? (i := 1056) (by decide +kernel), List.mem_of_getElem? (i := 1057) (by decide +kernel)⟩
theorem lw_p99 : lw_okq (⟨"java/lang/Throwable", "fillInStackTrace", "(I)Ljava/lang/Throwable;"⟩, 6) := ⟨⟨by decide +kernel, by decide +kernel⟩, List.mem_of_getElem? (i := 1105) (by decide +kernel), List.mem_of_getElem? (i := 1103) (by decide +kernel), List.mem_of_getElem? (i := 1104) (by decide +kernel)⟩
theorem lw_p100 : lw_okq (⟨"MuleSeasonsModel", "readPlain", "()I"⟩, 51) := ⟨⟨by decide +kernel, by decide +kernel⟩, List.mem_of_getElem? (i := 1134) (by decide +kernel), List.mem_of_getElem? (i := 1314) (by decide +kernel), List.mem_of_getElem? (i := 1315) (by decide +kernel)⟩
theorem lw_p101 : lw_okq (⟨"MuleSeasonsModel", "look", "()I"⟩, 51) := ⟨⟨by decide +kernel, by decide +kernel⟩, List.mem_of_getElem? (i := 1134) (by decide +kernel), List.mem_of_getElem? (i := 1321) (by decide +kernel), List.mem_of_getElem? (i := 1322) (by decide +kernel)⟩
theorem lw_p102 : lw_okq (⟨"MuleSeasonsModel", "here", "()I"⟩, 51) := ⟨⟨by decide +kernel, by decide +kernel⟩, List.mem_of_getElem? (i := 1134) (by decide +kernel), List.mem_of_getElem? (i := 1325) (by decide +kernel), List.mem_of_getElem? (i := 1326) (by decide +kernel)⟩
theorem lw_p103 : lw_okq (⟨"MuleSeasonsModel", "items", "(I[III)V"⟩, 51) := ⟨⟨by decide +kernel, by decide +kernel⟩, List.mem_of_getElem? (i := 1134) (by decide +kernel), List.mem_of_getElem? (i := 1329) (by decide +kernel), List.mem_of_getElem? (i := 1330) (by decide +kernel)⟩
theorem lw_p104 : lw_okq (⟨"MuleSeasonsModel", "number", "(II)I"⟩, 51) := ⟨⟨by decide +kernel, by decide +kernel⟩, List.mem_of_getElem? (i := 1134) (by decide +kernel), List.mem_of_getElem? (i := 1345) (by decide +kernel), List.mem_of_getElem? (i := 1346) (by decide +kernel)⟩
theorem lw_p105 : lw_okq (⟨"MuleSeasonsModel", "bad", "()V"⟩, 51) := ⟨⟨by decide +kernel, by decide +kernel⟩, List.mem_of_getElem? (i := 1134) (by decide +kernel), List.mem_of_getElem? (i := 1352) (by decide +kernel), List.mem_of_getElem? (i := 1353) (by decide +kernel)⟩
theorem lw_p106 : lw_okq (⟨"MuleSeasonsModel", "readLaw", "(I)I"⟩, 51) := ⟨⟨by decide +kernel, by decide +kernel⟩, List.mem_of_getElem? (i := 1134) (by decide +kernel), List.mem_of_getElem? (i := 1359) (by decide +kernel), List.mem_of_getElem? (i := 1360) (by decide +kernel)⟩
theorem lw_p107 : lw_okq (⟨"MuleSeasonsModel", "open", "(I)V"⟩, 51) := ⟨⟨by decide +kernel, by decide +kernel⟩, List.mem_of_getElem? (i := 1134) (by decide +kernel), List.mem_of_getElem? (i := 1363) (by decide +kernel), List.mem_of_getElem? (i := 1364) (by decide +kernel)⟩
theorem lw_p108 : lw_okq (⟨"MuleSeasonsModel", "clause", "()V"⟩, 51) := ⟨⟨by decide +kernel, by decide +kernel⟩, List.mem_of_getElem? (i := 1134) (by decide +kernel), List.mem_of_getElem? (i := 1367) (by decide +kernel), List.mem_of_getElem? (i := 1368) (by decide +kernel)⟩
theorem lw_p109 : lw_okq (⟨"MuleSeasonsModel", "condition", "()V"⟩, 51) := ⟨⟨by decide +kernel, by decide +kernel⟩, List.mem_of_getElem? (i := 1134) (by decide +kernel), List.mem_of_getElem? (i := 1371) (by decide +kernel), List.mem_of_getElem? (i := 1372) (by decide +kernel)⟩
theorem lw_p110 : lw_okq (⟨"MuleSeasonsModel", "unit", "()V"⟩, 51) := ⟨⟨by decide +kernel, by decide +kernel⟩, List.mem_of_getElem? (i := 1134) (by decide +kernel), List.mem_of_getElem? (i := 1375) (by decide +kernel), List.mem_of_getElem? (i := 1376) (by decide +kernel)⟩
theorem lw_p111 : lw_okq (⟨"MuleSeasonsModel", "opens", "()V"⟩, 51) := ⟨⟨by decide +kernel, by decide +kernel⟩, List.mem_of_getElem? (i := 1134) (by decide +kernel), List.mem_of_getElem? (i := 1379) (by decide +kernel), List.mem_of_getElem? (i := 1380) (by decide +kernel)⟩
def lw_privs_7 : List (MethodName × Nat) := [(⟨"MuleSeasons$Witness", "suspectAt", "(I)I"⟩, 10), (⟨"MuleSeasons$Witness", "whenToLook", "()I"⟩, 10), (⟨"MuleSeasons$Witness", "mostAlike", "(I)I"⟩, 10), (⟨"java/lang/Throwable", "fillInStackTrace", "(I)Ljava/lang/Throwable;"⟩, 6), (⟨"MuleSeasonsModel", "readPlain", "()I"⟩, 51), (⟨"MuleSeasonsModel", "look", "()I"⟩, 51), (⟨"MuleSeasonsModel", "here", "()I"⟩, 51), (⟨"MuleSeasonsModel", "items", "(I[III)V"⟩, 51), (⟨"MuleSeasonsModel", "number", "(II)I"⟩, 51), (⟨"MuleSeasonsModel", "bad", "()V"⟩, 51), (⟨"MuleSeasonsModel", "readLaw", "(I)I"⟩, 51), (⟨"MuleSeasonsModel", "open", "(I)V"⟩, 51), (⟨"MuleSeasonsModel", "clause", "()V"⟩, 51), (⟨"MuleSeasonsModel", "condition", "()V"⟩, 51), (⟨"MuleSeasonsModel", "unit", "()V"⟩, 51), (⟨"MuleSeasonsModel", "opens", "()V"⟩, 51)]
theorem lw_r7 : ∀ q ∈ lw_privs_7, lw_okq q := List.forall_mem_cons.mpr ⟨lw_p96, List.forall_mem_cons.mpr ⟨lw_p97, List.forall_mem_cons.mpr ⟨lw_p98, List.forall_mem_cons.mpr ⟨lw_p99, List.forall_mem_cons.mpr ⟨lw_p100, List.forall_mem_cons.mpr ⟨lw_p101, List.forall_mem_cons.mpr ⟨lw_p102, List.forall_mem_cons.mpr ⟨lw_p103, List.forall_mem_cons.mpr ⟨lw_p104, List.forall_mem_cons.mpr ⟨lw_p105, List.forall_mem_cons.mpr ⟨lw_p106, List.forall_mem_cons.mpr ⟨lw_p107, List.forall_mem_cons.mpr ⟨lw_p108, List.forall_mem_cons.mpr ⟨lw_p109, List.forall_mem_cons.mpr ⟨lw_p110, List.forall_mem_cons.mpr ⟨lw_p111, fun _ h => absurd h List.not_mem_nil⟩⟩⟩⟩⟩⟩⟩⟩⟩⟩⟩⟩⟩⟩⟩⟩
theorem lw_p112 : lw_okq (⟨"MuleSeasonsModel", "put", "(II)V"⟩, 51) := ⟨⟨by decide +kernel, by decide +kernel⟩, List.mem_of_getElem? (i := 1134) (by decide +kernel), List.mem_of_getElem? (i := 1383) (by decide +kernel), List.mem_of_getElem? (i := 1384) (by decide +kernel)⟩
theorem lw_p113 : lw_okq (⟨"MuleSeasonsModel", "closes", "(I)V"⟩, 51) := ⟨⟨by decide +kernel, by decide +kernel⟩, List.mem_of_getElem? (i := 1134) (by decide +kernel), List.mem_of_getElem? (i := 1387) (by decide +kernel), List.mem_of_getElem? (i := 1388) (by decide +kernel)⟩
theorem lw_p114 : lw_okq (⟨"MuleSeasonsModel", "sum", "()V"⟩, 51) := ⟨⟨by decide +kernel, by decide +kernel⟩, List.mem_of_getElem? (i := 1134) (by decide +kernel), List.mem_of_getElem? (i := 1391) (by decide +kernel), List.mem_of_getElem? (i := 1392) (by decide +kernel)⟩
theorem lw_p115 : lw_okq (⟨"MuleSeasonsModel", "term", "()V"⟩, 51) := ⟨⟨by decide +kernel, by decide +kernel⟩, List.mem_of_getElem? (i := 1134) (by decide +kernel), List.mem_of_getElem? (i := 1395) (by decide +kernel), List.mem_of_getElem? (i := 1396) (by decide +kernel)⟩
theorem lw_p116 : lw_okq (⟨"MuleSeasonsModel", "atom", "()V"⟩, 51) := ⟨⟨by decide +kernel, by decide +kernel⟩, List.mem_of_getElem? (i := 1134) (by decide +kernel), List.mem_of_getElem? (i := 1399) (by decide +kernel), List.mem_of_getElem? (i := 1400) (by decide +kernel)⟩
theorem lw_p117 : lw_okq (⟨"MuleSeasonsModel", "plainNumber", "()I"⟩, 51) := ⟨⟨by decide +kernel, by decide +kernel⟩, List.mem_of_getElem? (i := 1134) (by decide +kernel), List.mem_of_getElem? (i := 1403) (by decide +kernel), List.mem_of_getElem? (i := 1404) (by decide +kernel)⟩
theorem lw_p118 : lw_okq (⟨"MuleSeasonsModel", "compare", "()V"⟩, 51) := ⟨⟨by decide +kernel, by decide +kernel⟩, List.mem_of_getElem? (i := 1134) (by decide +kernel), List.mem_of_getElem? (i := 1410) (by decide +kernel), List.mem_of_getElem? (i := 1411) (by decide +kernel)⟩
theorem lw_p119 : lw_okq (⟨"MuleSeasonsModel", "goOnAnd", "()V"⟩, 51) := ⟨⟨by decide +kernel, by decide +kernel⟩, List.mem_of_getElem? (i := 1134) (by decide +kernel), List.mem_of_getElem? (i := 1417) (by decide +kernel), List.mem_of_getElem? (i := 1418) (by decide +kernel)⟩
theorem lw_p120 : lw_okq (⟨"MuleSeasonsModel", "goOnOr", "()V"⟩, 51) := ⟨⟨by decide +kernel, by decide +kernel⟩, List.mem_of_getElem? (i := 1134) (by decide +kernel), List.mem_of_getElem? (i := 1421) (by decide +kernel), List.mem_of_getElem? (i := 1422) (by decide +kernel)⟩
theorem lw_p121 : lw_okq (⟨"MuleSeasonsModel", "atEnd", "()I"⟩, 51) := ⟨⟨by decide +kernel, by decide +kernel⟩, List.mem_of_getElem? (i := 1134) (by decide +kernel), List.mem_of_getElem? (i := 1425) (by decide +kernel), List.mem_of_getElem? (i := 1426) (by decide +kernel)⟩
theorem lw_p122 : lw_okq (⟨"MuleSeasonsModel", "takePlain", "()I"⟩, 51) := ⟨⟨by decide +kernel, by decide +kernel⟩, List.mem_of_getElem? (i := 1134) (by decide +kernel), List.mem_of_getElem? (i := 1433) (by decide +kernel), List.mem_of_getElem? (i := 1434) (by decide +kernel)⟩
theorem lw_p123 : lw_okq (⟨"MuleSeasonsModel", "begin", "()V"⟩, 51) := ⟨⟨by decide +kernel, by decide +kernel⟩, List.mem_of_getElem? (i := 1134) (by decide +kernel), List.mem_of_getElem? (i := 1437) (by decide +kernel), List.mem_of_getElem? (i := 1438) (by decide +kernel)⟩
theorem lw_p124 : lw_okq (⟨"MuleSeasonsModel", "of", "(II)I"⟩, 51) := ⟨⟨by decide +kernel, by decide +kernel⟩, List.mem_of_getElem? (i := 1134) (by decide +kernel), List.mem_of_getElem? (i := 1441) (by decide +kernel), List.mem_of_getElem? (i := 1442) (by decide +kernel)⟩
theorem lw_p125 : lw_okq (⟨"MuleSeasonsModel", "isMonth", "(I)Z"⟩, 51) := ⟨⟨by decide +kernel, by decide +kernel⟩, List.mem_of_getElem? (i := 1134) (by decide +kernel), List.mem_of_getElem? (i := 1453) (by decide +kernel), List.mem_of_getElem? (i := 1454) (by decide +kernel)⟩
theorem lw_p126 : lw_okq (⟨"MuleSeasonsModel", "isCrop", "(I)Z"⟩, 51) := ⟨⟨by decide +kernel, by decide +kernel⟩, List.mem_of_getElem? (i := 1134) (by decide +kernel), List.mem_of_getElem? (i := 1461) (by decide +kernel), List.mem_of_getElem? (i := 1462) (by decide +kernel)⟩
theorem lw_p127 : lw_okq (⟨"MuleSeasonsModel", "ofCrop", "(II)I"⟩, 51) := ⟨⟨by decide +kernel, by decide +kernel⟩, List.mem_of_getElem? (i := 1134) (by decide +kernel), List.mem_of_getElem? (i := 1465) (by decide +kernel), List.mem_of_getElem? (i := 1466) (by decide +kernel)⟩
def lw_privs_8 : List (MethodName × Nat) := [(⟨"MuleSeasonsModel", "put", "(II)V"⟩, 51), (⟨"MuleSeasonsModel", "closes", "(I)V"⟩, 51), (⟨"MuleSeasonsModel", "sum", "()V"⟩, 51), (⟨"MuleSeasonsModel", "term", "()V"⟩, 51), (⟨"MuleSeasonsModel", "atom", "()V"⟩, 51), (⟨"MuleSeasonsModel", "plainNumber", "()I"⟩, 51), (⟨"MuleSeasonsModel", "compare", "()V"⟩, 51), (⟨"MuleSeasonsModel", "goOnAnd", "()V"⟩, 51), (⟨"MuleSeasonsModel", "goOnOr", "()V"⟩, 51), (⟨"MuleSeasonsModel", "atEnd", "()I"⟩, 51), (⟨"MuleSeasonsModel", "takePlain", "()I"⟩, 51), (⟨"MuleSeasonsModel", "begin", "()V"⟩, 51), (⟨"MuleSeasonsModel", "of", "(II)I"⟩, 51), (⟨"MuleSeasonsModel", "isMonth", "(I)Z"⟩, 51), (⟨"MuleSeasonsModel", "isCrop", "(I)Z"⟩, 51), (⟨"MuleSeasonsModel", "ofCrop", "(II)I"⟩, 51)]
theorem lw_r8 : ∀ q ∈ lw_privs_8, lw_okq q := List.forall_mem_cons.mpr ⟨lw_p112, List.forall_mem_cons.mpr ⟨lw_p113, List.forall_mem_cons.mpr ⟨lw_p114, List.forall_mem_cons.mpr ⟨lw_p115, List.forall_mem_cons.mpr ⟨lw_p116, List.forall_mem_cons.mpr ⟨lw_p117, List.forall_mem_cons.mpr ⟨lw_p118, List.forall_mem_cons.mpr ⟨lw_p119, List.forall_mem_cons.mpr ⟨lw_p120, List.forall_mem_cons.mpr ⟨lw_p121, List.forall_mem_cons.mpr ⟨lw_p122, List.forall_mem_cons.mpr ⟨lw_p123, List.forall_mem_cons.mpr ⟨lw_p124, List.forall_mem_cons.mpr ⟨lw_p125, List.forall_mem_cons.mpr ⟨lw_p126, List.forall_mem_cons.mpr ⟨lw_p127, fun _ h => absurd h List.not_mem_nil⟩⟩⟩⟩⟩⟩⟩⟩⟩⟩⟩⟩⟩⟩⟩⟩
theorem lw_p128 : lw_okq (⟨"MuleSeasonsModel", "isRipe", "(I)Z"⟩, 51) := ⟨⟨by decide +kernel, by decide +kernel⟩, List.mem_of_getElem? (i := 1134) (by decide +kernel), List.mem_of_getElem? (i := 1469) (by decide +kernel), List.mem_of_getElem? (i := 1470) (by decide +kernel)⟩
theorem lw_p129 : lw_okq (⟨"MuleSeasonsModel", "pullNow", "()I"⟩, 51) := ⟨⟨by decide +kernel, by decide +kernel⟩, List.mem_of_getElem? (i := 1134) (by decide +kernel), List.mem_of_getElem? (i := 1481) (by decide +kernel), List.mem_of_getElem? (i := 1482) (by decide +kernel)⟩
theorem lw_p130 : lw_okq (⟨"MuleSeasonsModel", "worthOf", "(I)I"⟩, 51) := ⟨⟨by decide +kernel, by decide +kernel⟩, List.mem_of_getElem? (i := 1134) (by decide +kernel), List.mem_of_getElem? (i := 1485) (by decide +kernel), List.mem_of_getElem? (i := 1486) (by decide +kernel)⟩
theorem lw_p131 : lw_okq (⟨"MuleSeasonsModel", "workOut", "(III)I"⟩, 51) := ⟨⟨by decide +kernel, by decide +kernel⟩, List.mem_of_getElem? (i := 1134) (by decide +kernel), List.mem_of_getElem? (i := 1489) (by decide +kernel), List.mem_of_getElem? (i := 1490) (by decide +kernel)⟩
theorem lw_p132 : lw_okq (⟨"MuleSeasonsModel", "areTurns", "(I)Z"⟩, 51) := ⟨⟨by decide +kernel, by decide +kernel⟩, List.mem_of_getElem? (i := 1134) (by decide +kernel), List.mem_of_getElem? (i := 1513) (by decide +kernel), List.mem_of_getElem? (i := 1514) (by decide +kernel)⟩
theorem lw_p133 : lw_okq (⟨"MuleSeasonsModel", "isRefused", "(I)Z"⟩, 51) := ⟨⟨by decide +kernel, by decide +kernel⟩, List.mem_of_getElem? (i := 1134) (by decide +kernel), List.mem_of_getElem? (i := 1517) (by decide +kernel), List.mem_of_getElem? (i := 1518) (by decide +kernel)⟩
theorem lw_p134 : lw_okq (⟨"MuleSeasonsModel", "keep", "()V"⟩, 51) := ⟨⟨by decide +kernel, by decide +kernel⟩, List.mem_of_getElem? (i := 1134) (by decide +kernel), List.mem_of_getElem? (i := 1521) (by decide +kernel), List.mem_of_getElem? (i := 1522) (by decide +kernel)⟩
theorem lw_p135 : lw_okq (⟨"MuleSeasonsModel", "passTurn", "()V"⟩, 51) := ⟨⟨by decide +kernel, by decide +kernel⟩, List.mem_of_getElem? (i := 1134) (by decide +kernel), List.mem_of_getElem? (i := 1525) (by decide +kernel), List.mem_of_getElem? (i := 1526) (by decide +kernel)⟩
theorem lw_p136 : lw_okq (⟨"MuleSeasonsModel", "live", "()I"⟩, 51) := ⟨⟨by decide +kernel, by decide +kernel⟩, List.mem_of_getElem? (i := 1134) (by decide +kernel), List.mem_of_getElem? (i := 1529) (by decide +kernel), List.mem_of_getElem? (i := 1530) (by decide +kernel)⟩
theorem lw_p137 : lw_okq (⟨"MuleSeasonsModel", "dayOn", "()V"⟩, 51) := ⟨⟨by decide +kernel, by decide +kernel⟩, List.mem_of_getElem? (i := 1134) (by decide +kernel), List.mem_of_getElem? (i := 1533) (by decide +kernel), List.mem_of_getElem? (i := 1534) (by decide +kernel)⟩
theorem lw_p138 : lw_okq (⟨"MuleSeasonsModel", "grow", "(I)V"⟩, 51) := ⟨⟨by decide +kernel, by decide +kernel⟩, List.mem_of_getElem? (i := 1134) (by decide +kernel), List.mem_of_getElem? (i := 1537) (by decide +kernel), List.mem_of_getElem? (i := 1538) (by decide +kernel)⟩
theorem lw_p139 : lw_okq (⟨"MuleSeasonsModel", "chipNow", "(I)V"⟩, 51) := ⟨⟨by decide +kernel, by decide +kernel⟩, List.mem_of_getElem? (i := 1134) (by decide +kernel), List.mem_of_getElem? (i := 1553) (by decide +kernel), List.mem_of_getElem? (i := 1554) (by decide +kernel)⟩
theorem lw_p140 : lw_okq (⟨"MuleSeasonsModel", "drawTurn", "()V"⟩, 51) := ⟨⟨by decide +kernel, by decide +kernel⟩, List.mem_of_getElem? (i := 1134) (by decide +kernel), List.mem_of_getElem? (i := 1577) (by decide +kernel), List.mem_of_getElem? (i := 1578) (by decide +kernel)⟩
theorem lw_p141 : lw_okq (⟨"MuleSeasonsModel", "draw", "(I)I"⟩, 51) := ⟨⟨by decide +kernel, by decide +kernel⟩, List.mem_of_getElem? (i := 1134) (by decide +kernel), List.mem_of_getElem? (i := 1581) (by decide +kernel), List.mem_of_getElem? (i := 1582) (by decide +kernel)⟩
theorem lw_p142 : lw_okq (⟨"MuleSeasonsModel", "putAside", "()V"⟩, 51) := ⟨⟨by decide +kernel, by decide +kernel⟩, List.mem_of_getElem? (i := 1134) (by decide +kernel), List.mem_of_getElem? (i := 1603) (by decide +kernel), List.mem_of_getElem? (i := 1604) (by decide +kernel)⟩
theorem lw_p143 : lw_okq (⟨"MuleSeasonsModel", "liveMany", "(I)V"⟩, 51) := ⟨⟨by decide +kernel, by decide +kernel⟩, List.mem_of_getElem? (i := 1134) (by decide +kernel), List.mem_of_getElem? (i := 1607) (by decide +kernel), List.mem_of_getElem? (i := 1608) (by decide +kernel)⟩
def lw_privs_9 : List (MethodName × Nat) := [(⟨"MuleSeasonsModel", "isRipe", "(I)Z"⟩, 51), (⟨"MuleSeasonsModel", "pullNow", "()I"⟩, 51), (⟨"MuleSeasonsModel", "worthOf", "(I)I"⟩, 51), (⟨"MuleSeasonsModel", "workOut", "(III)I"⟩, 51), (⟨"MuleSeasonsModel", "areTurns", "(I)Z"⟩, 51), (⟨"MuleSeasonsModel", "isRefused", "(I)Z"⟩, 51), (⟨"MuleSeasonsModel", "keep", "()V"⟩, 51), (⟨"MuleSeasonsModel", "passTurn", "()V"⟩, 51), (⟨"MuleSeasonsModel", "live", "()I"⟩, 51), (⟨"MuleSeasonsModel", "dayOn", "()V"⟩, 51), (⟨"MuleSeasonsModel", "grow", "(I)V"⟩, 51), (⟨"MuleSeasonsModel", "chipNow", "(I)V"⟩, 51), (⟨"MuleSeasonsModel", "drawTurn", "()V"⟩, 51), (⟨"MuleSeasonsModel", "draw", "(I)I"⟩, 51), (⟨"MuleSeasonsModel", "putAside", "()V"⟩, 51), (⟨"MuleSeasonsModel", "liveMany", "(I)V"⟩, 51)]
theorem lw_r9 : ∀ q ∈ lw_privs_9, lw_okq q := List.forall_mem_cons.mpr ⟨lw_p128, List.forall_mem_cons.mpr ⟨lw_p129, List.forall_mem_cons.mpr ⟨lw_p130, List.forall_mem_cons.mpr ⟨lw_p131, List.forall_mem_cons.mpr ⟨lw_p132, List.forall_mem_cons.mpr ⟨lw_p133, List.forall_mem_cons.mpr ⟨lw_p134, List.forall_mem_cons.mpr ⟨lw_p135, List.forall_mem_cons.mpr ⟨lw_p136, List.forall_mem_cons.mpr ⟨lw_p137, List.forall_mem_cons.mpr ⟨lw_p138, List.forall_mem_cons.mpr ⟨lw_p139, List.forall_mem_cons.mpr ⟨lw_p140, List.forall_mem_cons.mpr ⟨lw_p141, List.forall_mem_cons.mpr ⟨lw_p142, List.forall_mem_cons.mpr ⟨lw_p143, fun _ h => absurd h List.not_mem_nil⟩⟩⟩⟩⟩⟩⟩⟩⟩⟩⟩⟩⟩⟩⟩⟩
theorem lw_p144 : lw_okq (⟨"MuleSeasonsModel", "takeBack", "()V"⟩, 51) := ⟨⟨by decide +kernel, by decide +kernel⟩, List.mem_of_getElem? (i := 1134) (by decide +kernel), List.mem_of_getElem? (i := 1611) (by decide +kernel), List.mem_of_getElem? (i := 1612) (by decide +kernel)⟩
theorem lw_p145 : lw_okq (⟨"MuleSeasonsModel", "tryOil", "(IIIII)V"⟩, 51) := ⟨⟨by decide +kernel, by decide +kernel⟩, List.mem_of_getElem? (i := 1134) (by decide +kernel), List.mem_of_getElem? (i := 1631) (by decide +kernel), List.mem_of_getElem? (i := 1632) (by decide +kernel)⟩
theorem lw_p146 : lw_okq (⟨"MuleSeasonsModel", "isGame", "(III)Z"⟩, 51) := ⟨⟨by decide +kernel, by decide +kernel⟩, List.mem_of_getElem? (i := 1134) (by decide +kernel), List.mem_of_getElem? (i := 1639) (by decide +kernel), List.mem_of_getElem? (i := 1640) (by decide +kernel)⟩
theorem lw_p147 : lw_okq (⟨"MuleSeasonsModel", "layDays", "(III)V"⟩, 51) := ⟨⟨by decide +kernel, by decide +kernel⟩, List.mem_of_getElem? (i := 1134) (by decide +kernel), List.mem_of_getElem? (i := 1644) (by decide +kernel), List.mem_of_getElem? (i := 1645) (by decide +kernel)⟩
theorem lw_p148 : lw_okq (⟨"MuleSeasonsModel", "isRest", "(II)Z"⟩, 51) := ⟨⟨by decide +kernel, by decide +kernel⟩, List.mem_of_getElem? (i := 1134) (by decide +kernel), List.mem_of_getElem? (i := 1652) (by decide +kernel), List.mem_of_getElem? (i := 1653) (by decide +kernel)⟩
theorem lw_p149 : lw_okq (⟨"MuleSeasonsModel", "layAhead", "(I)I"⟩, 51) := ⟨⟨by decide +kernel, by decide +kernel⟩, List.mem_of_getElem? (i := 1134) (by decide +kernel), List.mem_of_getElem? (i := 1660) (by decide +kernel), List.mem_of_getElem? (i := 1661) (by decide +kernel)⟩
theorem lw_p150 : lw_okq (⟨"MuleSeasonsModel", "isMore", "(I)Z"⟩, 51) := ⟨⟨by decide +kernel, by decide +kernel⟩, List.mem_of_getElem? (i := 1134) (by decide +kernel), List.mem_of_getElem? (i := 1688) (by decide +kernel), List.mem_of_getElem? (i := 1689) (by decide +kernel)⟩
theorem lw_p151 : lw_okq (⟨"MuleSeasonsModel", "layPaths", "(I)V"⟩, 51) := ⟨⟨by decide +kernel, by decide +kernel⟩, List.mem_of_getElem? (i := 1134) (by decide +kernel), List.mem_of_getElem? (i := 1692) (by decide +kernel), List.mem_of_getElem? (i := 1693) (by decide +kernel)⟩
theorem lw_p152 : lw_okq (⟨"MuleSeasonsModel", "isWho", "(I)Z"⟩, 51) := ⟨⟨by decide +kernel, by decide +kernel⟩, List.mem_of_getElem? (i := 1134) (by decide +kernel), List.mem_of_getElem? (i := 1696) (by decide +kernel), List.mem_of_getElem? (i := 1697) (by decide +kernel)⟩
theorem lw_p153 : lw_okq (⟨"MuleSeasonsModel", "isSo", "(I)Z"⟩, 51) := ⟨⟨by decide +kernel, by decide +kernel⟩, List.mem_of_getElem? (i := 1134) (by decide +kernel), List.mem_of_getElem? (i := 1700) (by decide +kernel), List.mem_of_getElem? (i := 1701) (by decide +kernel)⟩
theorem lw_p154 : lw_okq (⟨"MuleSeasonsModel", "mostTell", "(I)I"⟩, 51) := ⟨⟨by decide +kernel, by decide +kernel⟩, List.mem_of_getElem? (i := 1134) (by decide +kernel), List.mem_of_getElem? (i := 1709) (by decide +kernel), List.mem_of_getElem? (i := 1710) (by decide +kernel)⟩
theorem lw_p155 : lw_okq (⟨"MuleSeasonsModel", "isOdds", "(II)Z"⟩, 51) := ⟨⟨by decide +kernel, by decide +kernel⟩, List.mem_of_getElem? (i := 1134) (by decide +kernel), List.mem_of_getElem? (i := 1717) (by decide +kernel), List.mem_of_getElem? (i := 1718) (by decide +kernel)⟩
theorem lw_p156 : lw_okq (⟨"MuleSeasonsModel", "oddsOf", "(II)I"⟩, 51) := ⟨⟨by decide +kernel, by decide +kernel⟩, List.mem_of_getElem? (i := 1134) (by decide +kernel), List.mem_of_getElem? (i := 1721) (by decide +kernel), List.mem_of_getElem? (i := 1722) (by decide +kernel)⟩
theorem lw_p157 : lw_okq (⟨"MuleSeasonsModel", "lacks", "(I)I"⟩, 51) := ⟨⟨by decide +kernel, by decide +kernel⟩, List.mem_of_getElem? (i := 1134) (by decide +kernel), List.mem_of_getElem? (i := 1736) (by decide +kernel), List.mem_of_getElem? (i := 1737) (by decide +kernel)⟩
def lw_privs_10 : List (MethodName × Nat) := [(⟨"MuleSeasonsModel", "takeBack", "()V"⟩, 51), (⟨"MuleSeasonsModel", "tryOil", "(IIIII)V"⟩, 51), (⟨"MuleSeasonsModel", "isGame", "(III)Z"⟩, 51), (⟨"MuleSeasonsModel", "layDays", "(III)V"⟩, 51), (⟨"MuleSeasonsModel", "isRest", "(II)Z"⟩, 51), (⟨"MuleSeasonsModel", "layAhead", "(I)I"⟩, 51), (⟨"MuleSeasonsModel", "isMore", "(I)Z"⟩, 51), (⟨"MuleSeasonsModel", "layPaths", "(I)V"⟩, 51), (⟨"MuleSeasonsModel", "isWho", "(I)Z"⟩, 51), (⟨"MuleSeasonsModel", "isSo", "(I)Z"⟩, 51), (⟨"MuleSeasonsModel", "mostTell", "(I)I"⟩, 51), (⟨"MuleSeasonsModel", "isOdds", "(II)Z"⟩, 51), (⟨"MuleSeasonsModel", "oddsOf", "(II)I"⟩, 51), (⟨"MuleSeasonsModel", "lacks", "(I)I"⟩, 51)]
theorem lw_r10 : ∀ q ∈ lw_privs_10, lw_okq q := List.forall_mem_cons.mpr ⟨lw_p144, List.forall_mem_cons.mpr ⟨lw_p145, List.forall_mem_cons.mpr ⟨lw_p146, List.forall_mem_cons.mpr ⟨lw_p147, List.forall_mem_cons.mpr ⟨lw_p148, List.forall_mem_cons.mpr ⟨lw_p149, List.forall_mem_cons.mpr ⟨lw_p150, List.forall_mem_cons.mpr ⟨lw_p151, List.forall_mem_cons.mpr ⟨lw_p152, List.forall_mem_cons.mpr ⟨lw_p153, List.forall_mem_cons.mpr ⟨lw_p154, List.forall_mem_cons.mpr ⟨lw_p155, List.forall_mem_cons.mpr ⟨lw_p156, List.forall_mem_cons.mpr ⟨lw_p157, fun _ h => absurd h List.not_mem_nil⟩⟩⟩⟩⟩⟩⟩⟩⟩⟩⟩⟩⟩⟩
def lw_privs : List (MethodName × Nat) := lw_privs_1 ++ (lw_privs_2 ++ (lw_privs_3 ++ (lw_privs_4 ++ (lw_privs_5 ++ (lw_privs_6 ++ (lw_privs_7 ++ (lw_privs_8 ++ (lw_privs_9 ++ (lw_privs_10)))))))))
def lw_tbl : List Cond := k2_sels lw_privs ++ tables_1
theorem lw_privs_ok : ∀ q ∈ lw_privs, lw_okq q := by
  show ∀ q ∈ lw_privs_1 ++ (lw_privs_2 ++ (lw_privs_3 ++ (lw_privs_4 ++ (lw_privs_5 ++ (lw_privs_6 ++ (lw_privs_7 ++ (lw_privs_8 ++ (lw_privs_9 ++ (lw_privs_10))))))))), lw_okq q
  exact List.forall_mem_append.mpr ⟨lw_r1, List.forall_mem_append.mpr ⟨lw_r2, List.forall_mem_append.mpr ⟨lw_r3, List.forall_mem_append.mpr ⟨lw_r4, List.forall_mem_append.mpr ⟨lw_r5, List.forall_mem_append.mpr ⟨lw_r6, List.forall_mem_append.mpr ⟨lw_r7, List.forall_mem_append.mpr ⟨lw_r8, List.forall_mem_append.mpr ⟨lw_r9, lw_r10⟩⟩⟩⟩⟩⟩⟩⟩⟩
-- ===== end of PART A; then your names; then what follows =====
/-! ===== BEGIN printed: names, fields, word lists, decode rows ===== -/
def RX0 : String := "MuleSeasons$Acts"
def TX0 : u_T := fun k => match k with
  | 0 => ("MuleSeasons$Acts", "rows", "[I", true)
  | 1 => ("MuleSeasons$Acts", "many", "I", false)
  | _ => ("MuleSeasons$Acts", "next", "I", false)
def tyX0 : Nat → FieldType := fun k => match k with
  | 0 => .array .int
  | 1 => .int
  | _ => .int
abbrev wsX00 : List Cond := u_ws RX0 TX0 3
theorem nmX0 : ∀ a, a < 3 → ∀ b, b < 3 → a ≠ b → (TX0 a).2.1 ≠ (TX0 b).2.1 := by decide +kernel
theorem tyX0_ok : ∀ k, k < 3 → parseFieldDescriptor (TX0 k).2.2.1 = some (tyX0 k) := by decide +kernel
abbrev cX0_init : ByteArray := prog_2_method_1_code
def yX0_init : MethodName := ⟨RX0, "<init>", "()V"⟩
abbrev cX0_forget : ByteArray := prog_2_method_2_code
def yX0_forget : MethodName := ⟨RX0, "forget", "()V"⟩
abbrev cX0_keep : ByteArray := prog_2_method_3_code
def yX0_keep : MethodName := ⟨RX0, "keep", "(LMuleSeasons$Season;)V"⟩
abbrev cX0_takeBack : ByteArray := prog_2_method_4_code
def yX0_takeBack : MethodName := ⟨RX0, "takeBack", "(LMuleSeasons$Season;)Z"⟩
def RX1 : String := "MuleSeasons$Cursor"
def TX1 : u_T := fun k => match k with
  | 0 => ("MuleSeasons$Cursor", "tape", "LMuleSeasons$Tape;", true)
  | 1 => ("MuleSeasons$Cursor", "at", "I", false)
  | _ => ("MuleSeasons$Cursor", "fault", "I", false)
def tyX1 : Nat → FieldType := fun k => match k with
  | 0 => .object "MuleSeasons$Tape"
  | 1 => .int
  | _ => .int
abbrev wsX10 : List Cond := u_ws RX1 TX1 3
theorem nmX1 : ∀ a, a < 3 → ∀ b, b < 3 → a ≠ b → (TX1 a).2.1 ≠ (TX1 b).2.1 := by decide +kernel
theorem tyX1_ok : ∀ k, k < 3 → parseFieldDescriptor (TX1 k).2.2.1 = some (tyX1 k) := by decide +kernel
abbrev cX1_init : ByteArray := prog_3_method_1_code
def yX1_init : MethodName := ⟨RX1, "<init>", "(LMuleSeasons$Tape;)V"⟩
abbrev cX1_begin : ByteArray := prog_3_method_2_code
def yX1_begin : MethodName := ⟨RX1, "begin", "()V"⟩
abbrev cX1_failed : ByteArray := prog_3_method_3_code
def yX1_failed : MethodName := ⟨RX1, "failed", "()Z"⟩
abbrev cX1_fail : ByteArray := prog_3_method_4_code
def yX1_fail : MethodName := ⟨RX1, "fail", "()V"⟩
abbrev cX1_look : ByteArray := prog_3_method_5_code
def yX1_look : MethodName := ⟨RX1, "look", "()I"⟩
abbrev cX1_lookFor : ByteArray := prog_3_method_6_code
def yX1_lookFor : MethodName := ⟨RX1, "lookFor", "(Ljava/lang/String;)I"⟩
abbrev cX1_step : ByteArray := prog_3_method_7_code
def yX1_step : MethodName := ⟨RX1, "step", "()V"⟩
abbrev cX1_expect : ByteArray := prog_3_method_8_code
def yX1_expect : MethodName := ⟨RX1, "expect", "(I)V"⟩
abbrev cX1_onDigit : ByteArray := prog_3_method_9_code
def yX1_onDigit : MethodName := ⟨RX1, "onDigit", "()Z"⟩
abbrev cX1_number : ByteArray := prog_3_method_10_code
def yX1_number : MethodName := ⟨RX1, "number", "(III)I"⟩
def RX2 : String := "MuleSeasons$Draws"
def TX2 : u_T := fun k => match k with
  | _ => ("MuleSeasons$Draws", "x", "J", false)
def tyX2 : Nat → FieldType := fun k => match k with
  | _ => .long
abbrev wsX20 : List Cond := u_ws RX2 TX2 1
theorem nmX2 : ∀ a, a < 1 → ∀ b, b < 1 → a ≠ b → (TX2 a).2.1 ≠ (TX2 b).2.1 := by decide +kernel
theorem tyX2_ok : ∀ k, k < 1 → parseFieldDescriptor (TX2 k).2.2.1 = some (tyX2 k) := by decide +kernel
abbrev cX2_init : ByteArray := prog_4_method_1_code
def yX2_init : MethodName := ⟨RX2, "<init>", "()V"⟩
abbrev cX2_begin : ByteArray := prog_4_method_2_code
def yX2_begin : MethodName := ⟨RX2, "begin", "(J)V"⟩
abbrev cX2_below : ByteArray := prog_4_method_3_code
def yX2_below : MethodName := ⟨RX2, "below", "(I)I"⟩
def RX3 : String := "MuleSeasons$Forecast"
def TX3 : u_T := fun k => match k with
  | 0 => ("MuleSeasons$Forecast", "now", "LMuleSeasons$Season;", true)
  | 1 => ("MuleSeasons$Forecast", "laws", "LMuleSeasons$Laws;", true)
  | 2 => ("MuleSeasons$Forecast", "trial", "LMuleSeasons$Season;", true)
  | 3 => ("MuleSeasons$Forecast", "daysOfOne", "[I", true)
  | 4 => ("MuleSeasons$Forecast", "daysOfOther", "[I", true)
  | 5 => ("MuleSeasons$Forecast", "parts", "[J", true)
  | 6 => ("MuleSeasons$Forecast", "oilRow", "I", false)
  | _ => ("MuleSeasons$Forecast", "oilValue", "I", false)
def tyX3 : Nat → FieldType := fun k => match k with
  | 0 => .object "MuleSeasons$Season"
  | 1 => .object "MuleSeasons$Laws"
  | 2 => .object "MuleSeasons$Season"
  | 3 => .array .int
  | 4 => .array .int
  | 5 => .array .long
  | 6 => .int
  | _ => .int
abbrev wsX30 : List Cond := u_ws RX3 TX3 8
theorem nmX3 : ∀ a, a < 8 → ∀ b, b < 8 → a ≠ b → (TX3 a).2.1 ≠ (TX3 b).2.1 := by decide +kernel
theorem tyX3_ok : ∀ k, k < 8 → parseFieldDescriptor (TX3 k).2.2.1 = some (tyX3 k) := by decide +kernel
abbrev cX3_init : ByteArray := prog_5_method_1_code
def yX3_init : MethodName := ⟨RX3, "<init>", "(LMuleSeasons$Season;LMuleSeasons$Laws;)V"⟩
abbrev cX3_placeBehind : ByteArray := prog_5_method_2_code
def yX3_placeBehind : MethodName := ⟨RX3, "placeBehind", "(IZI)I"⟩
abbrev cX3_turnsTo : ByteArray := prog_5_method_3_code
def yX3_turnsTo : MethodName := ⟨RX3, "turnsTo", "(I)I"⟩
abbrev cX3_turnsUntil : ByteArray := prog_5_method_4_code
def yX3_turnsUntil : MethodName := ⟨RX3, "turnsUntil", "(II)I"⟩
abbrev cX3_rideTurns : ByteArray := prog_5_method_5_code
def yX3_rideTurns : MethodName := ⟨RX3, "rideTurns", "(II)I"⟩
abbrev cX3_turnsToRipe : ByteArray := prog_5_method_6_code
def yX3_turnsToRipe : MethodName := ⟨RX3, "turnsToRipe", "(I)I"⟩
abbrev cX3_turnsToDeath : ByteArray := prog_5_method_7_code
def yX3_turnsToDeath : MethodName := ⟨RX3, "turnsToDeath", "()I"⟩
abbrev cX3_runWith : ByteArray := prog_5_method_8_code
def yX3_runWith : MethodName := ⟨RX3, "runWith", "(II)V"⟩
abbrev cX3_leastFeed : ByteArray := prog_5_method_9_code
def yX3_leastFeed : MethodName := ⟨RX3, "leastFeed", "(I)I"⟩
abbrev cX3_seekOil : ByteArray := prog_5_method_10_code
def yX3_seekOil : MethodName := ⟨RX3, "seekOil", "(II)V"⟩
abbrev cX3_tryOil : ByteArray := prog_5_method_11_code
def yX3_tryOil : MethodName := ⟨RX3, "tryOil", "(III)V"⟩
abbrev cX3_daysWith : ByteArray := prog_5_method_12_code
def yX3_daysWith : MethodName := ⟨RX3, "daysWith", "(III)I"⟩
abbrev cX3_restAt : ByteArray := prog_5_method_13_code
def yX3_restAt : MethodName := ⟨RX3, "restAt", "(IIII)I"⟩
abbrev cX3_isRest : ByteArray := prog_5_method_14_code
def yX3_isRest : MethodName := ⟨RX3, "isRest", "(II)Z"⟩
abbrev cX3_gain : ByteArray := prog_5_method_15_code
def yX3_gain : MethodName := ⟨RX3, "gain", "([III)I"⟩
abbrev cX3_shareOf : ByteArray := prog_5_method_16_code
def yX3_shareOf : MethodName := ⟨RX3, "shareOf", "(III)I"⟩
abbrev cX3_neverBits : ByteArray := prog_5_method_17_code
def yX3_neverBits : MethodName := ⟨RX3, "neverBits", "(I)I"⟩
abbrev cX3_partAt : ByteArray := prog_5_method_18_code
def yX3_partAt : MethodName := ⟨RX3, "partAt", "(I)J"⟩
abbrev cX3_setPart : ByteArray := prog_5_method_19_code
def yX3_setPart : MethodName := ⟨RX3, "setPart", "(IJ)V"⟩
abbrev cX3_deadParts : ByteArray := prog_5_method_20_code
def yX3_deadParts : MethodName := ⟨RX3, "deadParts", "(II)J"⟩
def RX4 : String := "MuleSeasons$LawReader"
def TX4 : u_T := fun k => match k with
  | 0 => ("MuleSeasons$LawReader", "cursor", "LMuleSeasons$Cursor;", true)
  | 1 => ("MuleSeasons$LawReader", "code", "[I", true)
  | _ => ("MuleSeasons$LawReader", "size", "I", false)
def tyX4 : Nat → FieldType := fun k => match k with
  | 0 => .object "MuleSeasons$Cursor"
  | 1 => .array .int
  | _ => .int
abbrev wsX40 : List Cond := u_ws RX4 TX4 3
theorem nmX4 : ∀ a, a < 3 → ∀ b, b < 3 → a ≠ b → (TX4 a).2.1 ≠ (TX4 b).2.1 := by decide +kernel
theorem tyX4_ok : ∀ k, k < 3 → parseFieldDescriptor (TX4 k).2.2.1 = some (tyX4 k) := by decide +kernel
abbrev cX4_init : ByteArray := prog_6_method_1_code
def yX4_init : MethodName := ⟨RX4, "<init>", "(LMuleSeasons$Tape;)V"⟩
abbrev cX4_readLaw : ByteArray := prog_6_method_2_code
def yX4_readLaw : MethodName := ⟨RX4, "readLaw", "()I"⟩
abbrev cX4_write : ByteArray := prog_6_method_3_code
def yX4_write : MethodName := ⟨RX4, "write", "(II)V"⟩
abbrev cX4_readClause : ByteArray := prog_6_method_4_code
def yX4_readClause : MethodName := ⟨RX4, "readClause", "()V"⟩
abbrev cX4_isComparison : ByteArray := prog_6_method_5_code
def yX4_isComparison : MethodName := ⟨RX4, "isComparison", "(I)Z"⟩
abbrev cX4_readCondition : ByteArray := prog_6_method_6_code
def yX4_readCondition : MethodName := ⟨RX4, "readCondition", "(IZ)V"⟩
abbrev cX4_readTruth : ByteArray := prog_6_method_7_code
def yX4_readTruth : MethodName := ⟨RX4, "readTruth", "(IZ)V"⟩
abbrev cX4_readUnit : ByteArray := prog_6_method_8_code
def yX4_readUnit : MethodName := ⟨RX4, "readUnit", "(IZ)V"⟩
abbrev cX4_readNested : ByteArray := prog_6_method_9_code
def yX4_readNested : MethodName := ⟨RX4, "readNested", "(II)V"⟩
abbrev cX4_readSum : ByteArray := prog_6_method_10_code
def yX4_readSum : MethodName := ⟨RX4, "readSum", "(I)V"⟩
abbrev cX4_readTerm : ByteArray := prog_6_method_11_code
def yX4_readTerm : MethodName := ⟨RX4, "readTerm", "(I)V"⟩
abbrev cX4_readAtom : ByteArray := prog_6_method_12_code
def yX4_readAtom : MethodName := ⟨RX4, "readAtom", "(I)V"⟩
def RX5 : String := "MuleSeasons$Laws"
def TX5 : u_T := fun k => match k with
  | 0 => ("MuleSeasons$Laws", "code", "[I", true)
  | 1 => ("MuleSeasons$Laws", "sizes", "[I", true)
  | 2 => ("MuleSeasons$Laws", "values", "[I", true)
  | 3 => ("MuleSeasons$Laws", "stack", "[I", true)
  | 4 => ("MuleSeasons$Laws", "many", "I", false)
  | 5 => ("MuleSeasons$Laws", "holds", "I", false)
  | _ => ("MuleSeasons$Laws", "top", "I", false)
def tyX5 : Nat → FieldType := fun k => match k with
  | 0 => .array .int
  | 1 => .array .int
  | 2 => .array .int
  | 3 => .array .int
  | 4 => .int
  | 5 => .int
  | _ => .int
abbrev wsX50 : List Cond := u_ws RX5 TX5 7
theorem nmX5 : ∀ a, a < 7 → ∀ b, b < 7 → a ≠ b → (TX5 a).2.1 ≠ (TX5 b).2.1 := by decide +kernel
theorem tyX5_ok : ∀ k, k < 7 → parseFieldDescriptor (TX5 k).2.2.1 = some (tyX5 k) := by decide +kernel
abbrev cX5_init : ByteArray := prog_7_method_1_code
def yX5_init : MethodName := ⟨RX5, "<init>", "()V"⟩
abbrev cX5_addLaw : ByteArray := prog_7_method_2_code
def yX5_addLaw : MethodName := ⟨RX5, "addLaw", "([II)I"⟩
abbrev cX5_pullFor : ByteArray := prog_7_method_3_code
def yX5_pullFor : MethodName := ⟨RX5, "pullFor", "(LMuleSeasons$Season;)I"⟩
abbrev cX5_worth : ByteArray := prog_7_method_4_code
def yX5_worth : MethodName := ⟨RX5, "worth", "()I"⟩
abbrev cX5_push : ByteArray := prog_7_method_5_code
def yX5_push : MethodName := ⟨RX5, "push", "(I)V"⟩
abbrev cX5_pop : ByteArray := prog_7_method_6_code
def yX5_pop : MethodName := ⟨RX5, "pop", "()I"⟩
abbrev cX5_joined : ByteArray := prog_7_method_7_code
def yX5_joined : MethodName := ⟨RX5, "joined", "(III)J"⟩
abbrev cX5_held : ByteArray := prog_7_method_8_code
def yX5_held : MethodName := ⟨RX5, "held", "(J)I"⟩
def RX6 : String := "MuleSeasons$PlainReader"
def TX6 : u_T := fun k => match k with
  | 0 => ("MuleSeasons$PlainReader", "cursor", "LMuleSeasons$Cursor;", true)
  | 1 => ("MuleSeasons$PlainReader", "draft", "LMuleSeasons$Season;", true)
  | _ => ("MuleSeasons$PlainReader", "hasRules", "Z", false)
def tyX6 : Nat → FieldType := fun k => match k with
  | 0 => .object "MuleSeasons$Cursor"
  | 1 => .object "MuleSeasons$Season"
  | _ => .boolean
abbrev wsX60 : List Cond := u_ws RX6 TX6 3
theorem nmX6 : ∀ a, a < 3 → ∀ b, b < 3 → a ≠ b → (TX6 a).2.1 ≠ (TX6 b).2.1 := by decide +kernel
theorem tyX6_ok : ∀ k, k < 3 → parseFieldDescriptor (TX6 k).2.2.1 = some (tyX6 k) := by decide +kernel
abbrev cX6_init : ByteArray := prog_8_method_1_code
def yX6_init : MethodName := ⟨RX6, "<init>", "(LMuleSeasons$Tape;)V"⟩
abbrev cX6_readPlain : ByteArray := prog_8_method_2_code
def yX6_readPlain : MethodName := ⟨RX6, "readPlain", "()I"⟩
abbrev cX6_putUsual : ByteArray := prog_8_method_3_code
def yX6_putUsual : MethodName := ⟨RX6, "putUsual", "(II)V"⟩
abbrev cX6_lettersOf : ByteArray := prog_8_method_4_code
def yX6_lettersOf : MethodName := ⟨RX6, "lettersOf", "(I)Ljava/lang/String;"⟩
abbrev cX6_readClause : ByteArray := prog_8_method_5_code
def yX6_readClause : MethodName := ⟨RX6, "readClause", "()V"⟩
abbrev cX6_hasRoom : ByteArray := prog_8_method_6_code
def yX6_hasRoom : MethodName := ⟨RX6, "hasRoom", "(I)Z"⟩
abbrev cX6_beginClause : ByteArray := prog_8_method_7_code
def yX6_beginClause : MethodName := ⟨RX6, "beginClause", "(I)I"⟩
abbrev cX6_readItems : ByteArray := prog_8_method_8_code
def yX6_readItems : MethodName := ⟨RX6, "readItems", "(II)V"⟩
def RX7 : String := "MuleSeasons$Season"
def TX7 : u_T := fun k => match k with
  | 0 => ("MuleSeasons$Season", "row", "[I", true)
  | _ => ("MuleSeasons$Season", "cameOf", "[I", true)
def tyX7 : Nat → FieldType := fun k => match k with
  | 0 => .array .int
  | _ => .array .int
abbrev wsX70 : List Cond := u_ws RX7 TX7 2
theorem nmX7 : ∀ a, a < 2 → ∀ b, b < 2 → a ≠ b → (TX7 a).2.1 ≠ (TX7 b).2.1 := by decide +kernel
theorem tyX7_ok : ∀ k, k < 2 → parseFieldDescriptor (TX7 k).2.2.1 = some (tyX7 k) := by decide +kernel
abbrev cX7_init : ByteArray := prog_9_method_1_code
def yX7_init : MethodName := ⟨RX7, "<init>", "()V"⟩
abbrev cX7_get : ByteArray := prog_9_method_2_code
def yX7_get : MethodName := ⟨RX7, "get", "(I)I"⟩
abbrev cX7_put : ByteArray := prog_9_method_3_code
def yX7_put : MethodName := ⟨RX7, "put", "(II)V"⟩
abbrev cX7_add : ByteArray := prog_9_method_4_code
def yX7_add : MethodName := ⟨RX7, "add", "(II)V"⟩
abbrev cX7_clear : ByteArray := prog_9_method_5_code
def yX7_clear : MethodName := ⟨RX7, "clear", "()V"⟩
abbrev cX7_become : ByteArray := prog_9_method_6_code
def yX7_become : MethodName := ⟨RX7, "become", "(LMuleSeasons$Season;)V"⟩
abbrev cX7_hasMonth : ByteArray := prog_9_method_7_code
def yX7_hasMonth : MethodName := ⟨RX7, "hasMonth", "(I)Z"⟩
abbrev cX7_hasCrop : ByteArray := prog_9_method_8_code
def yX7_hasCrop : MethodName := ⟨RX7, "hasCrop", "(I)Z"⟩
abbrev cX7_placeOfMonth : ByteArray := prog_9_method_9_code
def yX7_placeOfMonth : MethodName := ⟨RX7, "placeOfMonth", "(II)I"⟩
abbrev cX7_placeOfCrop : ByteArray := prog_9_method_10_code
def yX7_placeOfCrop : MethodName := ⟨RX7, "placeOfCrop", "(II)I"⟩
abbrev cX7_ofMonth : ByteArray := prog_9_method_11_code
def yX7_ofMonth : MethodName := ⟨RX7, "ofMonth", "(II)I"⟩
abbrev cX7_ofCrop : ByteArray := prog_9_method_12_code
def yX7_ofCrop : MethodName := ⟨RX7, "ofCrop", "(II)I"⟩
abbrev cX7_greaseMonth : ByteArray := prog_9_method_13_code
def yX7_greaseMonth : MethodName := ⟨RX7, "greaseMonth", "(II)V"⟩
abbrev cX7_chipMonth : ByteArray := prog_9_method_14_code
def yX7_chipMonth : MethodName := ⟨RX7, "chipMonth", "(I)V"⟩
abbrev cX7_turnRound : ByteArray := prog_9_method_15_code
def yX7_turnRound : MethodName := ⟨RX7, "turnRound", "()V"⟩
abbrev cX7_sowCrop : ByteArray := prog_9_method_16_code
def yX7_sowCrop : MethodName := ⟨RX7, "sowCrop", "(I)V"⟩
abbrev cX7_takeTurns : ByteArray := prog_9_method_17_code
def yX7_takeTurns : MethodName := ⟨RX7, "takeTurns", "(ILMuleSeasons$Laws;)V"⟩
abbrev cX7_takeDay : ByteArray := prog_9_method_18_code
def yX7_takeDay : MethodName := ⟨RX7, "takeDay", "()V"⟩
abbrev cX7_growCrops : ByteArray := prog_9_method_19_code
def yX7_growCrops : MethodName := ⟨RX7, "growCrops", "(I)I"⟩
abbrev cX7_eatHay : ByteArray := prog_9_method_20_code
def yX7_eatHay : MethodName := ⟨RX7, "eatHay", "()V"⟩
abbrev cX7_writeLog : ByteArray := prog_9_method_21_code
def yX7_writeLog : MethodName := ⟨RX7, "writeLog", "(II)V"⟩
abbrev cX7_logged : ByteArray := prog_9_method_22_code
def yX7_logged : MethodName := ⟨RX7, "logged", "(II)I"⟩
abbrev cX7_came : ByteArray := prog_9_method_23_code
def yX7_came : MethodName := ⟨RX7, "came", "(I)I"⟩
abbrev cX7_daysOfYear : ByteArray := prog_9_method_24_code
def yX7_daysOfYear : MethodName := ⟨RX7, "daysOfYear", "()I"⟩
abbrev cX7_firstLevel : ByteArray := prog_9_method_25_code
def yX7_firstLevel : MethodName := ⟨RX7, "firstLevel", "(II)I"⟩
abbrev cX7_richest : ByteArray := prog_9_method_26_code
def yX7_richest : MethodName := ⟨RX7, "richest", "()I"⟩
abbrev cX7_driest : ByteArray := prog_9_method_27_code
def yX7_driest : MethodName := ⟨RX7, "driest", "()I"⟩
abbrev cX7_neediest : ByteArray := prog_9_method_28_code
def yX7_neediest : MethodName := ⟨RX7, "neediest", "()I"⟩
abbrev cX7_ripeBits : ByteArray := prog_9_method_29_code
def yX7_ripeBits : MethodName := ⟨RX7, "ripeBits", "()I"⟩
abbrev cX7_allRipe : ByteArray := prog_9_method_30_code
def yX7_allRipe : MethodName := ⟨RX7, "allRipe", "()Z"⟩
abbrev cX7_unripeValue : ByteArray := prog_9_method_31_code
def yX7_unripeValue : MethodName := ⟨RX7, "unripeValue", "()I"⟩
def RX8 : String := "MuleSeasons$Tape"
def TX8 : u_T := fun k => match k with
  | 0 => ("MuleSeasons$Tape", "bytes", "[I", true)
  | _ => ("MuleSeasons$Tape", "many", "I", false)
def tyX8 : Nat → FieldType := fun k => match k with
  | 0 => .array .int
  | _ => .int
abbrev wsX80 : List Cond := u_ws RX8 TX8 2
theorem nmX8 : ∀ a, a < 2 → ∀ b, b < 2 → a ≠ b → (TX8 a).2.1 ≠ (TX8 b).2.1 := by decide +kernel
theorem tyX8_ok : ∀ k, k < 2 → parseFieldDescriptor (TX8 k).2.2.1 = some (tyX8 k) := by decide +kernel
abbrev cX8_init : ByteArray := prog_10_method_1_code
def yX8_init : MethodName := ⟨RX8, "<init>", "()V"⟩
abbrev cX8_bytesIn : ByteArray := prog_10_method_2_code
def yX8_bytesIn : MethodName := ⟨RX8, "bytesIn", "(I)I"⟩
abbrev cX8_addNumber : ByteArray := prog_10_method_3_code
def yX8_addNumber : MethodName := ⟨RX8, "addNumber", "(I)V"⟩
abbrev cX8_size : ByteArray := prog_10_method_4_code
def yX8_size : MethodName := ⟨RX8, "size", "()I"⟩
abbrev cX8_byteAt : ByteArray := prog_10_method_5_code
def yX8_byteAt : MethodName := ⟨RX8, "byteAt", "(I)I"⟩
abbrev cX8_cut : ByteArray := prog_10_method_6_code
def yX8_cut : MethodName := ⟨RX8, "cut", "(I)V"⟩
def RX9 : String := "MuleSeasons$Witness"
def TX9 : u_T := fun k => match k with
  | 0 => ("MuleSeasons$Witness", "told", "LMuleSeasons$Season;", true)
  | 1 => ("MuleSeasons$Witness", "laws", "LMuleSeasons$Laws;", true)
  | 2 => ("MuleSeasons$Witness", "trial", "LMuleSeasons$Season;", true)
  | 3 => ("MuleSeasons$Witness", "when", "[I", true)
  | 4 => ("MuleSeasons$Witness", "where", "[I", true)
  | 5 => ("MuleSeasons$Witness", "isSo", "[I", true)
  | 6 => ("MuleSeasons$Witness", "paths", "[I", true)
  | 7 => ("MuleSeasons$Witness", "fits", "[I", true)
  | 8 => ("MuleSeasons$Witness", "tellers", "[I", true)
  | _ => ("MuleSeasons$Witness", "many", "I", false)
def tyX9 : Nat → FieldType := fun k => match k with
  | 0 => .object "MuleSeasons$Season"
  | 1 => .object "MuleSeasons$Laws"
  | 2 => .object "MuleSeasons$Season"
  | 3 => .array .int
  | 4 => .array .int
  | 5 => .array .int
  | 6 => .array .int
  | 7 => .array .int
  | 8 => .array .int
  | _ => .int
abbrev wsX90 : List Cond := u_ws RX9 TX9 10
theorem nmX9 : ∀ a, a < 10 → ∀ b, b < 10 → a ≠ b → (TX9 a).2.1 ≠ (TX9 b).2.1 := by decide +kernel
theorem tyX9_ok : ∀ k, k < 10 → parseFieldDescriptor (TX9 k).2.2.1 = some (tyX9 k) := by decide +kernel
abbrev cX9_init : ByteArray := prog_11_method_1_code
def yX9_init : MethodName := ⟨RX9, "<init>", "(LMuleSeasons$Season;LMuleSeasons$Laws;)V"⟩
abbrev cX9_forget : ByteArray := prog_11_method_2_code
def yX9_forget : MethodName := ⟨RX9, "forget", "()V"⟩
abbrev cX9_addSeen : ByteArray := prog_11_method_3_code
def yX9_addSeen : MethodName := ⟨RX9, "addSeen", "(IIZ)I"⟩
abbrev cX9_pathAt : ByteArray := prog_11_method_4_code
def yX9_pathAt : MethodName := ⟨RX9, "pathAt", "(II)I"⟩
abbrev cX9_walk : ByteArray := prog_11_method_5_code
def yX9_walk : MethodName := ⟨RX9, "walk", "(II)V"⟩
abbrev cX9_fitsAll : ByteArray := prog_11_method_6_code
def yX9_fitsAll : MethodName := ⟨RX9, "fitsAll", "(I)Z"⟩
abbrev cX9_tryAll : ByteArray := prog_11_method_7_code
def yX9_tryAll : MethodName := ⟨RX9, "tryAll", "(I)V"⟩
abbrev cX9_suspectAt : ByteArray := prog_11_method_8_code
def yX9_suspectAt : MethodName := ⟨RX9, "suspectAt", "(I)I"⟩
abbrev cX9_whenToLook : ByteArray := prog_11_method_9_code
def yX9_whenToLook : MethodName := ⟨RX9, "whenToLook", "()I"⟩
abbrev cX9_mostAlike : ByteArray := prog_11_method_10_code
def yX9_mostAlike : MethodName := ⟨RX9, "mostAlike", "(I)I"⟩
def RX10 : String := "MuleSeasons"
def TX10 : u_T := fun k => match k with
  | 0 => ("MuleSeasons", "tape", "LMuleSeasons$Tape;", true)
  | 1 => ("MuleSeasons", "plainReader", "LMuleSeasons$PlainReader;", true)
  | 2 => ("MuleSeasons", "lawReader", "LMuleSeasons$LawReader;", true)
  | 3 => ("MuleSeasons", "laws", "LMuleSeasons$Laws;", true)
  | 4 => ("MuleSeasons", "told", "LMuleSeasons$Season;", true)
  | 5 => ("MuleSeasons", "now", "LMuleSeasons$Season;", true)
  | 6 => ("MuleSeasons", "kept", "LMuleSeasons$Season;", true)
  | 7 => ("MuleSeasons", "acts", "LMuleSeasons$Acts;", true)
  | 8 => ("MuleSeasons", "forecast", "LMuleSeasons$Forecast;", true)
  | 9 => ("MuleSeasons", "witness", "LMuleSeasons$Witness;", true)
  | 10 => ("MuleSeasons", "draws", "LMuleSeasons$Draws;", true)
  | 11 => ("MuleSeasons", "refused", "[I", true)
  | 12 => ("MuleSeasons", "hasPlain", "Z", false)
  | 13 => ("MuleSeasons", "hasImage", "Z", false)
  | 14 => ("MuleSeasons", "hail", "I", false)
  | _ => ("MuleSeasons", "thieves", "I", false)
def tyX10 : Nat → FieldType := fun k => match k with
  | 0 => .object "MuleSeasons$Tape"
  | 1 => .object "MuleSeasons$PlainReader"
  | 2 => .object "MuleSeasons$LawReader"
  | 3 => .object "MuleSeasons$Laws"
  | 4 => .object "MuleSeasons$Season"
  | 5 => .object "MuleSeasons$Season"
  | 6 => .object "MuleSeasons$Season"
  | 7 => .object "MuleSeasons$Acts"
  | 8 => .object "MuleSeasons$Forecast"
  | 9 => .object "MuleSeasons$Witness"
  | 10 => .object "MuleSeasons$Draws"
  | 11 => .array .int
  | 12 => .boolean
  | 13 => .boolean
  | 14 => .int
  | _ => .int
abbrev wsX100 : List Cond := u_ws RX10 TX10 16
theorem nmX10 : ∀ a, a < 16 → ∀ b, b < 16 → a ≠ b → (TX10 a).2.1 ≠ (TX10 b).2.1 := by decide +kernel
theorem tyX10_ok : ∀ k, k < 16 → parseFieldDescriptor (TX10 k).2.2.1 = some (tyX10 k) := by decide +kernel
abbrev cX10_init : ByteArray := prog_1_method_1_code
def yX10_init : MethodName := ⟨RX10, "<init>", "()V"⟩
abbrev cX10_feed : ByteArray := prog_1_method_2_code
def yX10_feed : MethodName := ⟨RX10, "feed", "(IIIII)I"⟩
abbrev cX10_end : ByteArray := prog_1_method_3_code
def yX10_end : MethodName := ⟨RX10, "end", "(I)Z"⟩
abbrev cX10_fault : ByteArray := prog_1_method_4_code
def yX10_fault : MethodName := ⟨RX10, "fault", "(I)I"⟩
abbrev cX10_text : ByteArray := prog_1_method_5_code
def yX10_text : MethodName := ⟨RX10, "text", "(I)I"⟩
abbrev cX10_takePlain : ByteArray := prog_1_method_6_code
def yX10_takePlain : MethodName := ⟨RX10, "takePlain", "()I"⟩
abbrev cX10_takeLaw : ByteArray := prog_1_method_7_code
def yX10_takeLaw : MethodName := ⟨RX10, "takeLaw", "()I"⟩
abbrev cX10_rule : ByteArray := prog_1_method_8_code
def yX10_rule : MethodName := ⟨RX10, "rule", "(I)I"⟩
abbrev cX10_month : ByteArray := prog_1_method_9_code
def yX10_month : MethodName := ⟨RX10, "month", "(II)I"⟩
abbrev cX10_crop : ByteArray := prog_1_method_10_code
def yX10_crop : MethodName := ⟨RX10, "crop", "(II)I"⟩
abbrev cX10_law : ByteArray := prog_1_method_11_code
def yX10_law : MethodName := ⟨RX10, "law", "(I)Z"⟩
abbrev cX10_pull : ByteArray := prog_1_method_12_code
def yX10_pull : MethodName := ⟨RX10, "pull", "()I"⟩
abbrev cX10_status : ByteArray := prog_1_method_13_code
def yX10_status : MethodName := ⟨RX10, "status", "(I)I"⟩
abbrev cX10_log : ByteArray := prog_1_method_14_code
def yX10_log : MethodName := ⟨RX10, "log", "(II)I"⟩
abbrev cX10_year : ByteArray := prog_1_method_15_code
def yX10_year : MethodName := ⟨RX10, "year", "()I"⟩
abbrev cX10_level : ByteArray := prog_1_method_16_code
def yX10_level : MethodName := ⟨RX10, "level", "(II)I"⟩
abbrev cX10_most : ByteArray := prog_1_method_17_code
def yX10_most : MethodName := ⟨RX10, "most", "(I)I"⟩
abbrev cX10_worths : ByteArray := prog_1_method_18_code
def yX10_worths : MethodName := ⟨RX10, "worths", "()I"⟩
abbrev cX10_count : ByteArray := prog_1_method_19_code
def yX10_count : MethodName := ⟨RX10, "count", "(I)I"⟩
abbrev cX10_refuse : ByteArray := prog_1_method_20_code
def yX10_refuse : MethodName := ⟨RX10, "refuse", "(I)I"⟩
abbrev cX10_turn : ByteArray := prog_1_method_21_code
def yX10_turn : MethodName := ⟨RX10, "turn", "(I)I"⟩
abbrev cX10_hay : ByteArray := prog_1_method_22_code
def yX10_hay : MethodName := ⟨RX10, "hay", "(I)I"⟩
abbrev cX10_grease : ByteArray := prog_1_method_23_code
def yX10_grease : MethodName := ⟨RX10, "grease", "(I)I"⟩
abbrev cX10_chip : ByteArray := prog_1_method_24_code
def yX10_chip : MethodName := ⟨RX10, "chip", "(I)I"⟩
abbrev cX10_reverse : ByteArray := prog_1_method_25_code
def yX10_reverse : MethodName := ⟨RX10, "reverse", "()I"⟩
abbrev cX10_buy : ByteArray := prog_1_method_26_code
def yX10_buy : MethodName := ⟨RX10, "buy", "()I"⟩
abbrev cX10_sow : ByteArray := prog_1_method_27_code
def yX10_sow : MethodName := ⟨RX10, "sow", "(I)I"⟩
abbrev cX10_set : ByteArray := prog_1_method_28_code
def yX10_set : MethodName := ⟨RX10, "set", "(II)Z"⟩
abbrev cX10_decades : ByteArray := prog_1_method_29_code
def yX10_decades : MethodName := ⟨RX10, "decades", "(IJ)I"⟩
abbrev cX10_strike : ByteArray := prog_1_method_30_code
def yX10_strike : MethodName := ⟨RX10, "strike", "()V"⟩
abbrev cX10_undo : ByteArray := prog_1_method_31_code
def yX10_undo : MethodName := ⟨RX10, "undo", "()I"⟩
abbrev cX10_image : ByteArray := prog_1_method_32_code
def yX10_image : MethodName := ⟨RX10, "image", "()I"⟩
abbrev cX10_back : ByteArray := prog_1_method_33_code
def yX10_back : MethodName := ⟨RX10, "back", "()I"⟩
abbrev cX10_ahead : ByteArray := prog_1_method_34_code
def yX10_ahead : MethodName := ⟨RX10, "ahead", "(IZI)I"⟩
abbrev cX10_soonest : ByteArray := prog_1_method_35_code
def yX10_soonest : MethodName := ⟨RX10, "soonest", "(I)I"⟩
abbrev cX10_least : ByteArray := prog_1_method_36_code
def yX10_least : MethodName := ⟨RX10, "least", "(I)I"⟩
abbrev cX10_ripens : ByteArray := prog_1_method_37_code
def yX10_ripens : MethodName := ⟨RX10, "ripens", "(I)I"⟩
abbrev cX10_oil : ByteArray := prog_1_method_38_code
def yX10_oil : MethodName := ⟨RX10, "oil", "(III)I"⟩
abbrev cX10_canPlay : ByteArray := prog_1_method_39_code
def yX10_canPlay : MethodName := ⟨RX10, "canPlay", "(III)Z"⟩
abbrev cX10_game : ByteArray := prog_1_method_40_code
def yX10_game : MethodName := ⟨RX10, "game", "(IIIIII)I"⟩
abbrev cX10_rests : ByteArray := prog_1_method_41_code
def yX10_rests : MethodName := ⟨RX10, "rests", "(IIII)I"⟩
abbrev cX10_shares : ByteArray := prog_1_method_42_code
def yX10_shares : MethodName := ⟨RX10, "shares", "(III)I"⟩
abbrev cX10_ride : ByteArray := prog_1_method_43_code
def yX10_ride : MethodName := ⟨RX10, "ride", "(II)I"⟩
abbrev cX10_never : ByteArray := prog_1_method_44_code
def yX10_never : MethodName := ⟨RX10, "never", "(I)I"⟩
abbrev cX10_lasts : ByteArray := prog_1_method_45_code
def yX10_lasts : MethodName := ⟨RX10, "lasts", "()I"⟩
abbrev cX10_odds : ByteArray := prog_1_method_46_code
def yX10_odds : MethodName := ⟨RX10, "odds", "(II)I"⟩
abbrev cX10_price : ByteArray := prog_1_method_47_code
def yX10_price : MethodName := ⟨RX10, "price", "(III)I"⟩
abbrev cX10_seen : ByteArray := prog_1_method_48_code
def yX10_seen : MethodName := ⟨RX10, "seen", "(IIZ)I"⟩
abbrev cX10_who : ByteArray := prog_1_method_49_code
def yX10_who : MethodName := ⟨RX10, "who", "(II)I"⟩
abbrev cX10_best : ByteArray := prog_1_method_50_code
def yX10_best : MethodName := ⟨RX10, "best", "(I)I"⟩
abbrev cX10_cell : ByteArray := prog_1_method_51_code
def yX10_cell : MethodName := ⟨RX10, "cell", "([II)I"⟩
abbrev cX10_setCell : ByteArray := prog_1_method_52_code
def yX10_setCell : MethodName := ⟨RX10, "setCell", "([III)V"⟩
def RX11 : String := "MuleSeasonsModel"
def TX11 : u_T := fun k => match k with
  | 0 => ("MuleSeasonsModel", "thrown", "I", false)
  | 1 => ("MuleSeasonsModel", "tape", "[I", true)
  | 2 => ("MuleSeasonsModel", "size", "I", false)
  | 3 => ("MuleSeasonsModel", "at", "I", false)
  | 4 => ("MuleSeasonsModel", "wrong", "I", false)
  | 5 => ("MuleSeasonsModel", "deep", "I", false)
  | 6 => ("MuleSeasonsModel", "code", "[I", true)
  | 7 => ("MuleSeasonsModel", "value", "[I", true)
  | 8 => ("MuleSeasonsModel", "codes", "[I", true)
  | 9 => ("MuleSeasonsModel", "clauses", "[I", true)
  | 10 => ("MuleSeasonsModel", "testFrom", "[I", true)
  | 11 => ("MuleSeasonsModel", "sumFrom", "[I", true)
  | 12 => ("MuleSeasonsModel", "sumTo", "[I", true)
  | 13 => ("MuleSeasonsModel", "laws", "I", false)
  | 14 => ("MuleSeasonsModel", "text", "I", false)
  | 15 => ("MuleSeasonsModel", "letters", "[I", true)
  | 16 => ("MuleSeasonsModel", "stack", "[I", true)
  | 17 => ("MuleSeasonsModel", "readRule", "[I", true)
  | 18 => ("MuleSeasonsModel", "readMonth", "[I", true)
  | 19 => ("MuleSeasonsModel", "readCrop", "[I", true)
  | 20 => ("MuleSeasonsModel", "readMonths", "I", false)
  | 21 => ("MuleSeasonsModel", "readCrops", "I", false)
  | 22 => ("MuleSeasonsModel", "rule", "[I", true)
  | 23 => ("MuleSeasonsModel", "month", "[I", true)
  | 24 => ("MuleSeasonsModel", "crop", "[I", true)
  | 25 => ("MuleSeasonsModel", "months", "I", false)
  | 26 => ("MuleSeasonsModel", "crops", "I", false)
  | 27 => ("MuleSeasonsModel", "now", "[I", true)
  | 28 => ("MuleSeasonsModel", "refused", "[I", true)
  | 29 => ("MuleSeasonsModel", "holding", "I", false)
  | 30 => ("MuleSeasonsModel", "hail", "I", false)
  | 31 => ("MuleSeasonsModel", "thieves", "I", false)
  | 32 => ("MuleSeasonsModel", "daysOf", "[I", true)
  | 33 => ("MuleSeasonsModel", "ripened", "I", false)
  | 34 => ("MuleSeasonsModel", "kept", "[I", true)
  | 35 => ("MuleSeasonsModel", "acts", "I", false)
  | 36 => ("MuleSeasonsModel", "draws", "J", false)
  | 37 => ("MuleSeasonsModel", "aside", "[I", true)
  | 38 => ("MuleSeasonsModel", "oiled", "[I", true)
  | 39 => ("MuleSeasonsModel", "oilRow", "I", false)
  | 40 => ("MuleSeasonsModel", "oilMost", "I", false)
  | 41 => ("MuleSeasonsModel", "oneDays", "[I", true)
  | 42 => ("MuleSeasonsModel", "otherDays", "[I", true)
  | 43 => ("MuleSeasonsModel", "noteTurn", "[I", true)
  | 44 => ("MuleSeasonsModel", "noteMonth", "[I", true)
  | 45 => ("MuleSeasonsModel", "noteIs", "[Z", true)
  | 46 => ("MuleSeasonsModel", "noted", "I", false)
  | 47 => ("MuleSeasonsModel", "path", "[I", true)
  | 48 => ("MuleSeasonsModel", "partAt", "[J", true)
  | 49 => ("MuleSeasonsModel", "image", "[I", true)
  | _ => ("MuleSeasonsModel", "hasImage", "Z", false)
def tyX11 : Nat → FieldType := fun k => match k with
  | 0 => .int
  | 1 => .array .int
  | 2 => .int
  | 3 => .int
  | 4 => .int
  | 5 => .int
  | 6 => .array .int
  | 7 => .array .int
  | 8 => .array .int
  | 9 => .array .int
  | 10 => .array .int
  | 11 => .array .int
  | 12 => .array .int
  | 13 => .int
  | 14 => .int
  | 15 => .array .int
  | 16 => .array .int
  | 17 => .array .int
  | 18 => .array .int
  | 19 => .array .int
  | 20 => .int
  | 21 => .int
  | 22 => .array .int
  | 23 => .array .int
  | 24 => .array .int
  | 25 => .int
  | 26 => .int
  | 27 => .array .int
  | 28 => .array .int
  | 29 => .int
  | 30 => .int
  | 31 => .int
  | 32 => .array .int
  | 33 => .int
  | 34 => .array .int
  | 35 => .int
  | 36 => .long
  | 37 => .array .int
  | 38 => .array .int
  | 39 => .int
  | 40 => .int
  | 41 => .array .int
  | 42 => .array .int
  | 43 => .array .int
  | 44 => .array .int
  | 45 => .array .boolean
  | 46 => .int
  | 47 => .array .int
  | 48 => .array .long
  | 49 => .array .int
  | _ => .boolean
abbrev wsX110 : List Cond := u_ws RX11 TX11 51
theorem nmX11 : ∀ a, a < 51 → ∀ b, b < 51 → a ≠ b → (TX11 a).2.1 ≠ (TX11 b).2.1 := by decide +kernel
theorem tyX11_ok : ∀ k, k < 51 → parseFieldDescriptor (TX11 k).2.2.1 = some (tyX11 k) := by decide +kernel
abbrev cX11_in : ByteArray := prog_13_method_1_code
def yX11_in : MethodName := ⟨RX11, "in", "(III)Z"⟩
abbrev cX11_has : ByteArray := prog_13_method_2_code
def yX11_has : MethodName := ⟨RX11, "has", "(II)Z"⟩
abbrev cX11_init : ByteArray := prog_13_method_3_code
def yX11_init : MethodName := ⟨RX11, "<init>", "()V"⟩
abbrev cX11_thrown : ByteArray := prog_13_method_4_code
def yX11_thrown : MethodName := ⟨RX11, "thrown", "()I"⟩
abbrev cX11_byteOf : ByteArray := prog_13_method_5_code
def yX11_byteOf : MethodName := ⟨RX11, "byteOf", "(IIIIII)I"⟩
abbrev cX11_feed : ByteArray := prog_13_method_6_code
def yX11_feed : MethodName := ⟨RX11, "feed", "(IIIII)I"⟩
abbrev cX11_end : ByteArray := prog_13_method_7_code
def yX11_end : MethodName := ⟨RX11, "end", "(I)Z"⟩
abbrev cX11_here : ByteArray := prog_13_method_8_code
def yX11_here : MethodName := ⟨RX11, "here", "()I"⟩
abbrev cX11_look : ByteArray := prog_13_method_9_code
def yX11_look : MethodName := ⟨RX11, "look", "()I"⟩
abbrev cX11_bad : ByteArray := prog_13_method_10_code
def yX11_bad : MethodName := ⟨RX11, "bad", "()V"⟩
abbrev cX11_isDigit : ByteArray := prog_13_method_11_code
def yX11_isDigit : MethodName := ⟨RX11, "isDigit", "(I)Z"⟩
abbrev cX11_put : ByteArray := prog_13_method_12_code
def yX11_put : MethodName := ⟨RX11, "put", "(II)V"⟩
abbrev cX11_letterOf : ByteArray := prog_13_method_13_code
def yX11_letterOf : MethodName := ⟨RX11, "letterOf", "(I)I"⟩
abbrev cX11_opens : ByteArray := prog_13_method_14_code
def yX11_opens : MethodName := ⟨RX11, "opens", "()V"⟩
abbrev cX11_closes : ByteArray := prog_13_method_15_code
def yX11_closes : MethodName := ⟨RX11, "closes", "(I)V"⟩
abbrev cX11_plainNumber : ByteArray := prog_13_method_16_code
def yX11_plainNumber : MethodName := ⟨RX11, "plainNumber", "()I"⟩
abbrev cX11_atom : ByteArray := prog_13_method_17_code
def yX11_atom : MethodName := ⟨RX11, "atom", "()V"⟩
abbrev cX11_term : ByteArray := prog_13_method_18_code
def yX11_term : MethodName := ⟨RX11, "term", "()V"⟩
abbrev cX11_sum : ByteArray := prog_13_method_19_code
def yX11_sum : MethodName := ⟨RX11, "sum", "()V"⟩
abbrev cX11_isSign : ByteArray := prog_13_method_20_code
def yX11_isSign : MethodName := ⟨RX11, "isSign", "(I)Z"⟩
abbrev cX11_compare : ByteArray := prog_13_method_21_code
def yX11_compare : MethodName := ⟨RX11, "compare", "()V"⟩
abbrev cX11_unit : ByteArray := prog_13_method_22_code
def yX11_unit : MethodName := ⟨RX11, "unit", "()V"⟩
abbrev cX11_goOnAnd : ByteArray := prog_13_method_23_code
def yX11_goOnAnd : MethodName := ⟨RX11, "goOnAnd", "()V"⟩
abbrev cX11_goOnOr : ByteArray := prog_13_method_24_code
def yX11_goOnOr : MethodName := ⟨RX11, "goOnOr", "()V"⟩
abbrev cX11_condition : ByteArray := prog_13_method_25_code
def yX11_condition : MethodName := ⟨RX11, "condition", "()V"⟩
abbrev cX11_clause : ByteArray := prog_13_method_26_code
def yX11_clause : MethodName := ⟨RX11, "clause", "()V"⟩
abbrev cX11_open : ByteArray := prog_13_method_27_code
def yX11_open : MethodName := ⟨RX11, "open", "(I)V"⟩
abbrev cX11_atEnd : ByteArray := prog_13_method_28_code
def yX11_atEnd : MethodName := ⟨RX11, "atEnd", "()I"⟩
abbrev cX11_readLaw : ByteArray := prog_13_method_29_code
def yX11_readLaw : MethodName := ⟨RX11, "readLaw", "(I)I"⟩
abbrev cX11_bounded : ByteArray := prog_13_method_30_code
def yX11_bounded : MethodName := ⟨RX11, "bounded", "(J)I"⟩
abbrev cX11_worked : ByteArray := prog_13_method_31_code
def yX11_worked : MethodName := ⟨RX11, "worked", "(IJJ)I"⟩
abbrev cX11_workOut : ByteArray := prog_13_method_32_code
def yX11_workOut : MethodName := ⟨RX11, "workOut", "(III)I"⟩
abbrev cX11_worthOf : ByteArray := prog_13_method_33_code
def yX11_worthOf : MethodName := ⟨RX11, "worthOf", "(I)I"⟩
abbrev cX11_number : ByteArray := prog_13_method_34_code
def yX11_number : MethodName := ⟨RX11, "number", "(II)I"⟩
abbrev cX11_itemOf : ByteArray := prog_13_method_35_code
def yX11_itemOf : MethodName := ⟨RX11, "itemOf", "(II)I"⟩
abbrev cX11_lowest : ByteArray := prog_13_method_36_code
def yX11_lowest : MethodName := ⟨RX11, "lowest", "(II)I"⟩
abbrev cX11_highest : ByteArray := prog_13_method_37_code
def yX11_highest : MethodName := ⟨RX11, "highest", "(II)I"⟩
abbrev cX11_usual : ByteArray := prog_13_method_38_code
def yX11_usual : MethodName := ⟨RX11, "usual", "(II)I"⟩
abbrev cX11_items : ByteArray := prog_13_method_39_code
def yX11_items : MethodName := ⟨RX11, "items", "(I[III)V"⟩
abbrev cX11_readPlain : ByteArray := prog_13_method_40_code
def yX11_readPlain : MethodName := ⟨RX11, "readPlain", "()I"⟩
abbrev cX11_fault : ByteArray := prog_13_method_41_code
def yX11_fault : MethodName := ⟨RX11, "fault", "(I)I"⟩
abbrev cX11_begin : ByteArray := prog_13_method_42_code
def yX11_begin : MethodName := ⟨RX11, "begin", "()V"⟩
abbrev cX11_takePlain : ByteArray := prog_13_method_43_code
def yX11_takePlain : MethodName := ⟨RX11, "takePlain", "()I"⟩
abbrev cX11_text : ByteArray := prog_13_method_44_code
def yX11_text : MethodName := ⟨RX11, "text", "(I)I"⟩
abbrev cX11_of : ByteArray := prog_13_method_45_code
def yX11_of : MethodName := ⟨RX11, "of", "(II)I"⟩
abbrev cX11_ofCrop : ByteArray := prog_13_method_46_code
def yX11_ofCrop : MethodName := ⟨RX11, "ofCrop", "(II)I"⟩
abbrev cX11_isMonth : ByteArray := prog_13_method_47_code
def yX11_isMonth : MethodName := ⟨RX11, "isMonth", "(I)Z"⟩
abbrev cX11_isCrop : ByteArray := prog_13_method_48_code
def yX11_isCrop : MethodName := ⟨RX11, "isCrop", "(I)Z"⟩
abbrev cX11_isRipe : ByteArray := prog_13_method_49_code
def yX11_isRipe : MethodName := ⟨RX11, "isRipe", "(I)Z"⟩
abbrev cX11_pullNow : ByteArray := prog_13_method_50_code
def yX11_pullNow : MethodName := ⟨RX11, "pullNow", "()I"⟩
abbrev cX11_dayOn : ByteArray := prog_13_method_51_code
def yX11_dayOn : MethodName := ⟨RX11, "dayOn", "()V"⟩
abbrev cX11_grow : ByteArray := prog_13_method_52_code
def yX11_grow : MethodName := ⟨RX11, "grow", "(I)V"⟩
abbrev cX11_live : ByteArray := prog_13_method_53_code
def yX11_live : MethodName := ⟨RX11, "live", "()I"⟩
abbrev cX11_liveMany : ByteArray := prog_13_method_54_code
def yX11_liveMany : MethodName := ⟨RX11, "liveMany", "(I)V"⟩
abbrev cX11_passTurn : ByteArray := prog_13_method_55_code
def yX11_passTurn : MethodName := ⟨RX11, "passTurn", "()V"⟩
abbrev cX11_rule : ByteArray := prog_13_method_56_code
def yX11_rule : MethodName := ⟨RX11, "rule", "(I)I"⟩
abbrev cX11_month : ByteArray := prog_13_method_57_code
def yX11_month : MethodName := ⟨RX11, "month", "(II)I"⟩
abbrev cX11_crop : ByteArray := prog_13_method_58_code
def yX11_crop : MethodName := ⟨RX11, "crop", "(II)I"⟩
abbrev cX11_law : ByteArray := prog_13_method_59_code
def yX11_law : MethodName := ⟨RX11, "law", "(I)Z"⟩
abbrev cX11_pull : ByteArray := prog_13_method_60_code
def yX11_pull : MethodName := ⟨RX11, "pull", "()I"⟩
abbrev cX11_keep : ByteArray := prog_13_method_61_code
def yX11_keep : MethodName := ⟨RX11, "keep", "()V"⟩
abbrev cX11_isRefused : ByteArray := prog_13_method_62_code
def yX11_isRefused : MethodName := ⟨RX11, "isRefused", "(I)Z"⟩
abbrev cX11_areTurns : ByteArray := prog_13_method_63_code
def yX11_areTurns : MethodName := ⟨RX11, "areTurns", "(I)Z"⟩
abbrev cX11_turn : ByteArray := prog_13_method_64_code
def yX11_turn : MethodName := ⟨RX11, "turn", "(I)I"⟩
abbrev cX11_hay : ByteArray := prog_13_method_65_code
def yX11_hay : MethodName := ⟨RX11, "hay", "(I)I"⟩
abbrev cX11_grease : ByteArray := prog_13_method_66_code
def yX11_grease : MethodName := ⟨RX11, "grease", "(I)I"⟩
abbrev cX11_chipNow : ByteArray := prog_13_method_67_code
def yX11_chipNow : MethodName := ⟨RX11, "chipNow", "(I)V"⟩
abbrev cX11_chip : ByteArray := prog_13_method_68_code
def yX11_chip : MethodName := ⟨RX11, "chip", "(I)I"⟩
abbrev cX11_reverse : ByteArray := prog_13_method_69_code
def yX11_reverse : MethodName := ⟨RX11, "reverse", "()I"⟩
abbrev cX11_buy : ByteArray := prog_13_method_70_code
def yX11_buy : MethodName := ⟨RX11, "buy", "()I"⟩
abbrev cX11_sow : ByteArray := prog_13_method_71_code
def yX11_sow : MethodName := ⟨RX11, "sow", "(I)I"⟩
abbrev cX11_set : ByteArray := prog_13_method_72_code
def yX11_set : MethodName := ⟨RX11, "set", "(II)Z"⟩
abbrev cX11_draw : ByteArray := prog_13_method_73_code
def yX11_draw : MethodName := ⟨RX11, "draw", "(I)I"⟩
abbrev cX11_drawTurn : ByteArray := prog_13_method_74_code
def yX11_drawTurn : MethodName := ⟨RX11, "drawTurn", "()V"⟩
abbrev cX11_decades : ByteArray := prog_13_method_75_code
def yX11_decades : MethodName := ⟨RX11, "decades", "(IJ)I"⟩
abbrev cX11_status : ByteArray := prog_13_method_76_code
def yX11_status : MethodName := ⟨RX11, "status", "(I)I"⟩
abbrev cX11_undo : ByteArray := prog_13_method_77_code
def yX11_undo : MethodName := ⟨RX11, "undo", "()I"⟩
abbrev cX11_log : ByteArray := prog_13_method_78_code
def yX11_log : MethodName := ⟨RX11, "log", "(II)I"⟩
abbrev cX11_putAside : ByteArray := prog_13_method_79_code
def yX11_putAside : MethodName := ⟨RX11, "putAside", "()V"⟩
abbrev cX11_takeBack : ByteArray := prog_13_method_80_code
def yX11_takeBack : MethodName := ⟨RX11, "takeBack", "()V"⟩
abbrev cX11_ahead : ByteArray := prog_13_method_81_code
def yX11_ahead : MethodName := ⟨RX11, "ahead", "(IZI)I"⟩
abbrev cX11_soonest : ByteArray := prog_13_method_82_code
def yX11_soonest : MethodName := ⟨RX11, "soonest", "(I)I"⟩
abbrev cX11_least : ByteArray := prog_13_method_83_code
def yX11_least : MethodName := ⟨RX11, "least", "(I)I"⟩
abbrev cX11_ripens : ByteArray := prog_13_method_84_code
def yX11_ripens : MethodName := ⟨RX11, "ripens", "(I)I"⟩
abbrev cX11_tryOil : ByteArray := prog_13_method_85_code
def yX11_tryOil : MethodName := ⟨RX11, "tryOil", "(IIIII)V"⟩
abbrev cX11_oil : ByteArray := prog_13_method_86_code
def yX11_oil : MethodName := ⟨RX11, "oil", "(III)I"⟩
abbrev cX11_layDays : ByteArray := prog_13_method_87_code
def yX11_layDays : MethodName := ⟨RX11, "layDays", "(III)V"⟩
abbrev cX11_isGame : ByteArray := prog_13_method_88_code
def yX11_isGame : MethodName := ⟨RX11, "isGame", "(III)Z"⟩
abbrev cX11_game : ByteArray := prog_13_method_89_code
def yX11_game : MethodName := ⟨RX11, "game", "(IIIIII)I"⟩
abbrev cX11_isRest : ByteArray := prog_13_method_90_code
def yX11_isRest : MethodName := ⟨RX11, "isRest", "(II)Z"⟩
abbrev cX11_rests : ByteArray := prog_13_method_91_code
def yX11_rests : MethodName := ⟨RX11, "rests", "(IIII)I"⟩
abbrev cX11_layAhead : ByteArray := prog_13_method_92_code
def yX11_layAhead : MethodName := ⟨RX11, "layAhead", "(I)I"⟩
abbrev cX11_shares : ByteArray := prog_13_method_93_code
def yX11_shares : MethodName := ⟨RX11, "shares", "(III)I"⟩
abbrev cX11_never : ByteArray := prog_13_method_94_code
def yX11_never : MethodName := ⟨RX11, "never", "(I)I"⟩
abbrev cX11_ride : ByteArray := prog_13_method_95_code
def yX11_ride : MethodName := ⟨RX11, "ride", "(II)I"⟩
abbrev cX11_level : ByteArray := prog_13_method_96_code
def yX11_level : MethodName := ⟨RX11, "level", "(II)I"⟩
abbrev cX11_year : ByteArray := prog_13_method_97_code
def yX11_year : MethodName := ⟨RX11, "year", "()I"⟩
abbrev cX11_seen : ByteArray := prog_13_method_98_code
def yX11_seen : MethodName := ⟨RX11, "seen", "(IIZ)I"⟩
abbrev cX11_isWho : ByteArray := prog_13_method_99_code
def yX11_isWho : MethodName := ⟨RX11, "isWho", "(I)Z"⟩
abbrev cX11_layPaths : ByteArray := prog_13_method_100_code
def yX11_layPaths : MethodName := ⟨RX11, "layPaths", "(I)V"⟩
abbrev cX11_isSo : ByteArray := prog_13_method_101_code
def yX11_isSo : MethodName := ⟨RX11, "isSo", "(I)Z"⟩
abbrev cX11_isMore : ByteArray := prog_13_method_102_code
def yX11_isMore : MethodName := ⟨RX11, "isMore", "(I)Z"⟩
abbrev cX11_who : ByteArray := prog_13_method_103_code
def yX11_who : MethodName := ⟨RX11, "who", "(II)I"⟩
abbrev cX11_mostTell : ByteArray := prog_13_method_104_code
def yX11_mostTell : MethodName := ⟨RX11, "mostTell", "(I)I"⟩
abbrev cX11_best : ByteArray := prog_13_method_105_code
def yX11_best : MethodName := ⟨RX11, "best", "(I)I"⟩
abbrev cX11_oddsOf : ByteArray := prog_13_method_106_code
def yX11_oddsOf : MethodName := ⟨RX11, "oddsOf", "(II)I"⟩
abbrev cX11_isOdds : ByteArray := prog_13_method_107_code
def yX11_isOdds : MethodName := ⟨RX11, "isOdds", "(II)Z"⟩
abbrev cX11_odds : ByteArray := prog_13_method_108_code
def yX11_odds : MethodName := ⟨RX11, "odds", "(II)I"⟩
abbrev cX11_price : ByteArray := prog_13_method_109_code
def yX11_price : MethodName := ⟨RX11, "price", "(III)I"⟩
abbrev cX11_lacks : ByteArray := prog_13_method_110_code
def yX11_lacks : MethodName := ⟨RX11, "lacks", "(I)I"⟩
abbrev cX11_most : ByteArray := prog_13_method_111_code
def yX11_most : MethodName := ⟨RX11, "most", "(I)I"⟩
abbrev cX11_worths : ByteArray := prog_13_method_112_code
def yX11_worths : MethodName := ⟨RX11, "worths", "()I"⟩
abbrev cX11_lasts : ByteArray := prog_13_method_113_code
def yX11_lasts : MethodName := ⟨RX11, "lasts", "()I"⟩
abbrev cX11_image : ByteArray := prog_13_method_114_code
def yX11_image : MethodName := ⟨RX11, "image", "()I"⟩
abbrev cX11_back : ByteArray := prog_13_method_115_code
def yX11_back : MethodName := ⟨RX11, "back", "()I"⟩
abbrev cX11_count : ByteArray := prog_13_method_116_code
def yX11_count : MethodName := ⟨RX11, "count", "(I)I"⟩
def RJx145de : String := "java/io/Serializable"
def TJx145de : u_T := fun k => match k with
  | _ => ("", "", "", false)
def tyJx145de : Nat → FieldType := fun k => match k with
  | _ => .int
abbrev wsJx145de0 : List Cond := u_ws RJx145de TJx145de 0
theorem nmJx145de : ∀ a, a < 0 → ∀ b, b < 0 → a ≠ b → (TJx145de a).2.1 ≠ (TJx145de b).2.1 := by decide +kernel
theorem tyJx145de_ok : ∀ k, k < 0 → parseFieldDescriptor (TJx145de k).2.2.1 = some (tyJx145de k) := by decide +kernel
def RJx9f9b0 : String := "java/lang/CharSequence"
def TJx9f9b0 : u_T := fun k => match k with
  | _ => ("", "", "", false)
def tyJx9f9b0 : Nat → FieldType := fun k => match k with
  | _ => .int
abbrev wsJx9f9b00 : List Cond := u_ws RJx9f9b0 TJx9f9b0 0
theorem nmJx9f9b0 : ∀ a, a < 0 → ∀ b, b < 0 → a ≠ b → (TJx9f9b0 a).2.1 ≠ (TJx9f9b0 b).2.1 := by decide +kernel
theorem tyJx9f9b0_ok : ∀ k, k < 0 → parseFieldDescriptor (TJx9f9b0 k).2.2.1 = some (tyJx9f9b0 k) := by decide +kernel
def RJ11 : String := "java/lang/Character"
def TJ11 : u_T := fun k => match k with
  | _ => ("", "", "", false)
def tyJ11 : Nat → FieldType := fun k => match k with
  | _ => .int
abbrev wsJ110 : List Cond := u_ws RJ11 TJ11 0
theorem nmJ11 : ∀ a, a < 0 → ∀ b, b < 0 → a ≠ b → (TJ11 a).2.1 ≠ (TJ11 b).2.1 := by decide +kernel
theorem tyJ11_ok : ∀ k, k < 0 → parseFieldDescriptor (TJ11 k).2.2.1 = some (tyJ11 k) := by decide +kernel
abbrev cJ11_isValidCodePoint_9a6ad : ByteArray := prog_16_method_11_code
def yJ11_isValidCodePoint_9a6ad : MethodName := ⟨RJ11, "isValidCodePoint", "(I)Z"⟩
abbrev cJ11_highSurrogate_5068e : ByteArray := prog_16_method_28_code
def yJ11_highSurrogate_5068e : MethodName := ⟨RJ11, "highSurrogate", "(I)C"⟩
abbrev cJ11_lowSurrogate_5068e : ByteArray := prog_16_method_29_code
def yJ11_lowSurrogate_5068e : MethodName := ⟨RJ11, "lowSurrogate", "(I)C"⟩
def RJxb160c : String := "java/lang/Comparable"
def TJxb160c : u_T := fun k => match k with
  | _ => ("", "", "", false)
def tyJxb160c : Nat → FieldType := fun k => match k with
  | _ => .int
abbrev wsJxb160c0 : List Cond := u_ws RJxb160c TJxb160c 0
theorem nmJxb160c : ∀ a, a < 0 → ∀ b, b < 0 → a ≠ b → (TJxb160c a).2.1 ≠ (TJxb160c b).2.1 := by decide +kernel
theorem tyJxb160c_ok : ∀ k, k < 0 → parseFieldDescriptor (TJxb160c k).2.2.1 = some (tyJxb160c k) := by decide +kernel
def RJ9 : String := "java/lang/Math"
def TJ9 : u_T := fun k => match k with
  | _ => ("", "", "", false)
def tyJ9 : Nat → FieldType := fun k => match k with
  | _ => .int
abbrev wsJ90 : List Cond := u_ws RJ9 TJ9 0
theorem nmJ9 : ∀ a, a < 0 → ∀ b, b < 0 → a ≠ b → (TJ9 a).2.1 ≠ (TJ9 b).2.1 := by decide +kernel
theorem tyJ9_ok : ∀ k, k < 0 → parseFieldDescriptor (TJ9 k).2.2.1 = some (tyJ9 k) := by decide +kernel
abbrev cJ9_max_7cf53 : ByteArray := prog_19_method_65_code
def yJ9_max_7cf53 : MethodName := ⟨RJ9, "max", "(II)I"⟩
abbrev cJ9_max_f86c9 : ByteArray := prog_19_method_66_code
def yJ9_max_f86c9 : MethodName := ⟨RJ9, "max", "(JJ)J"⟩
abbrev cJ9_min_7cf53 : ByteArray := prog_19_method_69_code
def yJ9_min_7cf53 : MethodName := ⟨RJ9, "min", "(II)I"⟩
abbrev cJ9_min_f86c9 : ByteArray := prog_19_method_70_code
def yJ9_min_f86c9 : MethodName := ⟨RJ9, "min", "(JJ)J"⟩
def RJ0 : String := "java/lang/String"
def TJ0 : u_T := fun k => match k with
  | _ => ("", "", "", false)
def tyJ0 : Nat → FieldType := fun k => match k with
  | _ => .int
abbrev wsJ00 : List Cond := u_ws RJ0 TJ0 0
theorem nmJ0 : ∀ a, a < 0 → ∀ b, b < 0 → a ≠ b → (TJ0 a).2.1 ≠ (TJ0 b).2.1 := by decide +kernel
theorem tyJ0_ok : ∀ k, k < 0 → parseFieldDescriptor (TJ0 k).2.2.1 = some (tyJ0 k) := by decide +kernel
abbrev cJ0_length_8abf5 : ByteArray := prog_21_method_54_code
def yJ0_length_8abf5 : MethodName := ⟨RJ0, "length", "()I"⟩
abbrev cJ0_indexOf_0f7a4 : ByteArray := prog_21_method_79_code
def yJ0_indexOf_0f7a4 : MethodName := ⟨RJ0, "indexOf", "(I)I"⟩
abbrev cJ0_indexOf_7cf53 : ByteArray := prog_21_method_80_code
def yJ0_indexOf_7cf53 : MethodName := ⟨RJ0, "indexOf", "(II)I"⟩
abbrev cJ0_coder_7d493 : ByteArray := prog_21_method_152_code
def yJ0_coder_7d493 : MethodName := ⟨RJ0, "coder", "()B"⟩
abbrev cJ0_isLatin1_aae02 : ByteArray := prog_21_method_154_code
def yJ0_isLatin1_aae02 : MethodName := ⟨RJ0, "isLatin1", "()Z"⟩
abbrev cJ0_checkBoundsBeginEnd_23922 : ByteArray := prog_21_method_158_code
def yJ0_checkBoundsBeginEnd_23922 : MethodName := ⟨RJ0, "checkBoundsBeginEnd", "(III)V"⟩
def RJ1 : String := "java/lang/StringLatin1"
def TJ1 : u_T := fun k => match k with
  | _ => ("", "", "", false)
def tyJ1 : Nat → FieldType := fun k => match k with
  | _ => .int
abbrev wsJ10 : List Cond := u_ws RJ1 TJ1 0
theorem nmJ1 : ∀ a, a < 0 → ∀ b, b < 0 → a ≠ b → (TJ1 a).2.1 ≠ (TJ1 b).2.1 := by decide +kernel
theorem tyJ1_ok : ∀ k, k < 0 → parseFieldDescriptor (TJ1 k).2.2.1 = some (tyJ1 k) := by decide +kernel
abbrev cJ1_canEncode_9a6ad : ByteArray := prog_22_method_4_code
def yJ1_canEncode_9a6ad : MethodName := ⟨RJ1, "canEncode", "(I)Z"⟩
abbrev cJ1_indexOf_4cfef : ByteArray := prog_22_method_22_code
def yJ1_indexOf_4cfef : MethodName := ⟨RJ1, "indexOf", "([BIII)I"⟩
abbrev cJ1_indexOfChar_4cfef : ByteArray := prog_22_method_23_code
def yJ1_indexOfChar_4cfef : MethodName := ⟨RJ1, "indexOfChar", "([BIII)I"⟩
def RJ2 : String := "java/lang/StringUTF16"
def TJ2 : u_T := fun k => match k with
  | _ => ("", "", "", false)
def tyJ2 : Nat → FieldType := fun k => match k with
  | _ => .int
abbrev wsJ20 : List Cond := u_ws RJ2 TJ2 0
theorem nmJ2 : ∀ a, a < 0 → ∀ b, b < 0 → a ≠ b → (TJ2 a).2.1 ≠ (TJ2 b).2.1 := by decide +kernel
theorem tyJ2_ok : ∀ k, k < 0 → parseFieldDescriptor (TJ2 k).2.2.1 = some (tyJ2 k) := by decide +kernel
abbrev cJ2_getChar_3b067 : ByteArray := prog_23_method_5_code
def yJ2_getChar_3b067 : MethodName := ⟨RJ2, "getChar", "([BI)C"⟩
abbrev cJ2_length_9d52b : ByteArray := prog_23_method_6_code
def yJ2_length_9d52b : MethodName := ⟨RJ2, "length", "([B)I"⟩
abbrev cJ2_indexOf_4cfef : ByteArray := prog_23_method_40_code
def yJ2_indexOf_4cfef : MethodName := ⟨RJ2, "indexOf", "([BIII)I"⟩
abbrev cJ2_indexOfChar_4cfef : ByteArray := prog_23_method_47_code
def yJ2_indexOfChar_4cfef : MethodName := ⟨RJ2, "indexOfChar", "([BIII)I"⟩
abbrev cJ2_indexOfCharUnsafe_4cfef : ByteArray := prog_23_method_48_code
def yJ2_indexOfCharUnsafe_4cfef : MethodName := ⟨RJ2, "indexOfCharUnsafe", "([BIII)I"⟩
abbrev cJ2_indexOfSupplementary_4cfef : ByteArray := prog_23_method_49_code
def yJ2_indexOfSupplementary_4cfef : MethodName := ⟨RJ2, "indexOfSupplementary", "([BIII)I"⟩
abbrev cJ2_checkBoundsBeginEnd_d044e : ByteArray := prog_23_method_93_code
def yJ2_checkBoundsBeginEnd_d044e : MethodName := ⟨RJ2, "checkBoundsBeginEnd", "(II[B)V"⟩
def RJxfd54e : String := "java/lang/constant/Constable"
def TJxfd54e : u_T := fun k => match k with
  | _ => ("", "", "", false)
def tyJxfd54e : Nat → FieldType := fun k => match k with
  | _ => .int
abbrev wsJxfd54e0 : List Cond := u_ws RJxfd54e TJxfd54e 0
theorem nmJxfd54e : ∀ a, a < 0 → ∀ b, b < 0 → a ≠ b → (TJxfd54e a).2.1 ≠ (TJxfd54e b).2.1 := by decide +kernel
theorem tyJxfd54e_ok : ∀ k, k < 0 → parseFieldDescriptor (TJxfd54e k).2.2.1 = some (tyJxfd54e k) := by decide +kernel
def RJx3cf43 : String := "java/lang/constant/ConstantDesc"
def TJx3cf43 : u_T := fun k => match k with
  | _ => ("", "", "", false)
def tyJx3cf43 : Nat → FieldType := fun k => match k with
  | _ => .int
abbrev wsJx3cf430 : List Cond := u_ws RJx3cf43 TJx3cf43 0
theorem nmJx3cf43 : ∀ a, a < 0 → ∀ b, b < 0 → a ≠ b → (TJx3cf43 a).2.1 ≠ (TJx3cf43 b).2.1 := by decide +kernel
theorem tyJx3cf43_ok : ∀ k, k < 0 → parseFieldDescriptor (TJx3cf43 k).2.2.1 = some (tyJx3cf43 k) := by decide +kernel
def RJ3 : String := "jdk/internal/util/Preconditions"
def TJ3 : u_T := fun k => match k with
  | _ => ("", "", "", false)
def tyJ3 : Nat → FieldType := fun k => match k with
  | _ => .int
abbrev wsJ30 : List Cond := u_ws RJ3 TJ3 0
theorem nmJ3 : ∀ a, a < 0 → ∀ b, b < 0 → a ≠ b → (TJ3 a).2.1 ≠ (TJ3 b).2.1 := by decide +kernel
theorem tyJ3_ok : ∀ k, k < 0 → parseFieldDescriptor (TJ3 k).2.2.1 = some (tyJ3 k) := by decide +kernel
abbrev cJ3_checkFromToIndex_8c36e : ByteArray := prog_28_method_12_code
def yJ3_checkFromToIndex_8c36e : MethodName := ⟨RJ3, "checkFromToIndex", "(IIILjava/util/function/BiFunction;)I"⟩
def RL : String := "MuleSeasonsLaw"
abbrev cL_crop : ByteArray := method_3_code
def yL_crop : MethodName := ⟨RL, "crop", "(LMuleSeasons;II[J)I"⟩
abbrev cL_law : ByteArray := code
def yL_law : MethodName := ⟨RL, "law", "([I)Z"⟩
