section
/-- a private method of a class that the tables say can be made, by its rows of tables_1 -/
def lw_okq (q : MethodName × Nat) : Prop := (q.1.cls ≠ "java/lang/invoke/MethodHandle" ∧ q.1.cls ≠ "java/lang/invoke/VarHandle") ∧ Cond.instantiable q.1.cls q.2 ∈ tables_1 ∧ Cond.privateMethod q.1 ∈ tables_1 ∧ Cond.instanceMethod q.1 ∈ tables_1
theorem lw_p0 : lw_okq (⟨"KindNets$TextReader", "readNaming", "()V"⟩, 4) := ⟨⟨by decide +kernel, by decide +kernel⟩, List.mem_of_getElem? (i := 65) (by decide +kernel), List.mem_of_getElem? (i := 278) (by decide +kernel), List.mem_of_getElem? (i := 279) (by decide +kernel)⟩
theorem lw_p1 : lw_okq (⟨"KindNets$TextReader", "readKind", "(I)I"⟩, 4) := ⟨⟨by decide +kernel, by decide +kernel⟩, List.mem_of_getElem? (i := 65) (by decide +kernel), List.mem_of_getElem? (i := 290) (by decide +kernel), List.mem_of_getElem? (i := 291) (by decide +kernel)⟩
theorem lw_p2 : lw_okq (⟨"KindNets$TextReader", "readLetters", "(III)V"⟩, 4) := ⟨⟨by decide +kernel, by decide +kernel⟩, List.mem_of_getElem? (i := 65) (by decide +kernel), List.mem_of_getElem? (i := 304) (by decide +kernel), List.mem_of_getElem? (i := 305) (by decide +kernel)⟩
theorem lw_p3 : lw_okq (⟨"KindNets$TextReader", "readPart", "(III)V"⟩, 4) := ⟨⟨by decide +kernel, by decide +kernel⟩, List.mem_of_getElem? (i := 65) (by decide +kernel), List.mem_of_getElem? (i := 308) (by decide +kernel), List.mem_of_getElem? (i := 309) (by decide +kernel)⟩
theorem lw_p4 : lw_okq (⟨"KindNets$TextReader", "nodeOf", "(I)I"⟩, 4) := ⟨⟨by decide +kernel, by decide +kernel⟩, List.mem_of_getElem? (i := 65) (by decide +kernel), List.mem_of_getElem? (i := 329) (by decide +kernel), List.mem_of_getElem? (i := 330) (by decide +kernel)⟩
theorem lw_p5 : lw_okq (⟨"KindNets$Standing", "startPairs", "(I)V"⟩, 6) := ⟨⟨by decide +kernel, by decide +kernel⟩, List.mem_of_getElem? (i := 86) (by decide +kernel), List.mem_of_getElem? (i := 400) (by decide +kernel), List.mem_of_getElem? (i := 401) (by decide +kernel)⟩
theorem lw_p6 : lw_okq (⟨"KindNets$Standing", "fitByThemselves", "(II)Z"⟩, 6) := ⟨⟨by decide +kernel, by decide +kernel⟩, List.mem_of_getElem? (i := 86) (by decide +kernel), List.mem_of_getElem? (i := 404) (by decide +kernel), List.mem_of_getElem? (i := 405) (by decide +kernel)⟩
theorem lw_p7 : lw_okq (⟨"KindNets$Standing", "setSteps", "(III)V"⟩, 6) := ⟨⟨by decide +kernel, by decide +kernel⟩, List.mem_of_getElem? (i := 86) (by decide +kernel), List.mem_of_getElem? (i := 411) (by decide +kernel), List.mem_of_getElem? (i := 412) (by decide +kernel)⟩
theorem lw_p8 : lw_okq (⟨"KindNets$Standing", "shortenPairs", "(I)Z"⟩, 6) := ⟨⟨by decide +kernel, by decide +kernel⟩, List.mem_of_getElem? (i := 86) (by decide +kernel), List.mem_of_getElem? (i := 415) (by decide +kernel), List.mem_of_getElem? (i := 416) (by decide +kernel)⟩
theorem lw_p9 : lw_okq (⟨"KindNets$Standing", "stepsOf", "(II)I"⟩, 6) := ⟨⟨by decide +kernel, by decide +kernel⟩, List.mem_of_getElem? (i := 86) (by decide +kernel), List.mem_of_getElem? (i := 419) (by decide +kernel), List.mem_of_getElem? (i := 420) (by decide +kernel)⟩
theorem lw_p10 : lw_okq (⟨"KindNets$Standing", "stepsOfPair", "(I)I"⟩, 6) := ⟨⟨by decide +kernel, by decide +kernel⟩, List.mem_of_getElem? (i := 86) (by decide +kernel), List.mem_of_getElem? (i := 423) (by decide +kernel), List.mem_of_getElem? (i := 424) (by decide +kernel)⟩
theorem lw_p11 : lw_okq (⟨"KindNets$Standing", "fewestBehind", "(II)I"⟩, 6) := ⟨⟨by decide +kernel, by decide +kernel⟩, List.mem_of_getElem? (i := 86) (by decide +kernel), List.mem_of_getElem? (i := 427) (by decide +kernel), List.mem_of_getElem? (i := 428) (by decide +kernel)⟩
theorem lw_p12 : lw_okq (⟨"KindNets$Standing", "pairBehind", "(II)I"⟩, 6) := ⟨⟨by decide +kernel, by decide +kernel⟩, List.mem_of_getElem? (i := 86) (by decide +kernel), List.mem_of_getElem? (i := 431) (by decide +kernel), List.mem_of_getElem? (i := 432) (by decide +kernel)⟩
theorem lw_p13 : lw_okq (⟨"KindNets$Standing", "pairAfter", "(III)I"⟩, 6) := ⟨⟨by decide +kernel, by decide +kernel⟩, List.mem_of_getElem? (i := 86) (by decide +kernel), List.mem_of_getElem? (i := 457) (by decide +kernel), List.mem_of_getElem? (i := 458) (by decide +kernel)⟩
theorem lw_p14 : lw_okq (⟨"KindNets$Standing", "firstSlotDown", "(I)I"⟩, 6) := ⟨⟨by decide +kernel, by decide +kernel⟩, List.mem_of_getElem? (i := 86) (by decide +kernel), List.mem_of_getElem? (i := 461) (by decide +kernel), List.mem_of_getElem? (i := 462) (by decide +kernel)⟩
theorem lw_p15 : lw_okq (⟨"KindNets$Standing", "reachFrom", "(I)I"⟩, 6) := ⟨⟨by decide +kernel, by decide +kernel⟩, List.mem_of_getElem? (i := 86) (by decide +kernel), List.mem_of_getElem? (i := 492) (by decide +kernel), List.mem_of_getElem? (i := 493) (by decide +kernel)⟩
def lw_privs_1 : List (MethodName × Nat) := [(⟨"KindNets$TextReader", "readNaming", "()V"⟩, 4), (⟨"KindNets$TextReader", "readKind", "(I)I"⟩, 4), (⟨"KindNets$TextReader", "readLetters", "(III)V"⟩, 4), (⟨"KindNets$TextReader", "readPart", "(III)V"⟩, 4), (⟨"KindNets$TextReader", "nodeOf", "(I)I"⟩, 4), (⟨"KindNets$Standing", "startPairs", "(I)V"⟩, 6), (⟨"KindNets$Standing", "fitByThemselves", "(II)Z"⟩, 6), (⟨"KindNets$Standing", "setSteps", "(III)V"⟩, 6), (⟨"KindNets$Standing", "shortenPairs", "(I)Z"⟩, 6), (⟨"KindNets$Standing", "stepsOf", "(II)I"⟩, 6), (⟨"KindNets$Standing", "stepsOfPair", "(I)I"⟩, 6), (⟨"KindNets$Standing", "fewestBehind", "(II)I"⟩, 6), (⟨"KindNets$Standing", "pairBehind", "(II)I"⟩, 6), (⟨"KindNets$Standing", "pairAfter", "(III)I"⟩, 6), (⟨"KindNets$Standing", "firstSlotDown", "(I)I"⟩, 6), (⟨"KindNets$Standing", "reachFrom", "(I)I"⟩, 6)]
theorem lw_r1 : ∀ q ∈ lw_privs_1, lw_okq q := List.forall_mem_cons.mpr ⟨lw_p0, List.forall_mem_cons.mpr ⟨lw_p1, List.forall_mem_cons.mpr ⟨lw_p2, List.forall_mem_cons.mpr ⟨lw_p3, List.forall_mem_cons.mpr ⟨lw_p4, List.forall_mem_cons.mpr ⟨lw_p5, List.forall_mem_cons.mpr ⟨lw_p6, List.forall_mem_cons.mpr ⟨lw_p7, List.forall_mem_cons.mpr ⟨lw_p8, List.forall_mem_cons.mpr ⟨lw_p9, List.forall_mem_cons.mpr ⟨lw_p10, List.forall_mem_cons.mpr ⟨lw_p11, List.forall_mem_cons.mpr ⟨lw_p12, List.forall_mem_cons.mpr ⟨lw_p13, List.forall_mem_cons.mpr ⟨lw_p14, List.forall_mem_cons.mpr ⟨lw_p15, fun _ h => absurd h List.not_mem_nil⟩⟩⟩⟩⟩⟩⟩⟩⟩⟩⟩⟩⟩⟩⟩⟩
theorem lw_p16 : lw_okq (⟨"KindNets$Standing", "reachAlso", "(II)I"⟩, 6) := ⟨⟨by decide +kernel, by decide +kernel⟩, List.mem_of_getElem? (i := 86) (by decide +kernel), List.mem_of_getElem? (i := 496) (by decide +kernel), List.mem_of_getElem? (i := 497) (by decide +kernel)⟩
theorem lw_p17 : lw_okq (⟨"KindNets$Standing", "reachedAt", "(I)I"⟩, 6) := ⟨⟨by decide +kernel, by decide +kernel⟩, List.mem_of_getElem? (i := 86) (by decide +kernel), List.mem_of_getElem? (i := 500) (by decide +kernel), List.mem_of_getElem? (i := 501) (by decide +kernel)⟩
theorem lw_p18 : lw_okq (⟨"KindNets$Standing", "isAlikeEarlier", "(I)Z"⟩, 6) := ⟨⟨by decide +kernel, by decide +kernel⟩, List.mem_of_getElem? (i := 86) (by decide +kernel), List.mem_of_getElem? (i := 504) (by decide +kernel), List.mem_of_getElem? (i := 505) (by decide +kernel)⟩
theorem lw_p19 : lw_okq (⟨"KindNets$Joiner", "nodeFor", "(III)I"⟩, 10) := ⟨⟨by decide +kernel, by decide +kernel⟩, List.mem_of_getElem? (i := 111) (by decide +kernel), List.mem_of_getElem? (i := 519) (by decide +kernel), List.mem_of_getElem? (i := 520) (by decide +kernel)⟩
theorem lw_p20 : lw_okq (⟨"KindNets$Joiner", "madeFor", "(III)I"⟩, 10) := ⟨⟨by decide +kernel, by decide +kernel⟩, List.mem_of_getElem? (i := 111) (by decide +kernel), List.mem_of_getElem? (i := 524) (by decide +kernel), List.mem_of_getElem? (i := 525) (by decide +kernel)⟩
theorem lw_p21 : lw_okq (⟨"KindNets$Joiner", "begin", "(III)I"⟩, 10) := ⟨⟨by decide +kernel, by decide +kernel⟩, List.mem_of_getElem? (i := 111) (by decide +kernel), List.mem_of_getElem? (i := 531) (by decide +kernel), List.mem_of_getElem? (i := 532) (by decide +kernel)⟩
theorem lw_p22 : lw_okq (⟨"KindNets$Joiner", "goOn", "()V"⟩, 10) := ⟨⟨by decide +kernel, by decide +kernel⟩, List.mem_of_getElem? (i := 111) (by decide +kernel), List.mem_of_getElem? (i := 537) (by decide +kernel), List.mem_of_getElem? (i := 538) (by decide +kernel)⟩
theorem lw_p23 : lw_okq (⟨"KindNets$Joiner", "partFor", "(II)I"⟩, 10) := ⟨⟨by decide +kernel, by decide +kernel⟩, List.mem_of_getElem? (i := 111) (by decide +kernel), List.mem_of_getElem? (i := 541) (by decide +kernel), List.mem_of_getElem? (i := 542) (by decide +kernel)⟩
theorem lw_p24 : lw_okq (⟨"KindNets$ValueReader", "goesOn", "(II)Z"⟩, 10) := ⟨⟨by decide +kernel, by decide +kernel⟩, List.mem_of_getElem? (i := 148) (by decide +kernel), List.mem_of_getElem? (i := 570) (by decide +kernel), List.mem_of_getElem? (i := 571) (by decide +kernel)⟩
theorem lw_p25 : lw_okq (⟨"KindNets$ValueReader", "beginValue", "(II)Z"⟩, 10) := ⟨⟨by decide +kernel, by decide +kernel⟩, List.mem_of_getElem? (i := 148) (by decide +kernel), List.mem_of_getElem? (i := 574) (by decide +kernel), List.mem_of_getElem? (i := 575) (by decide +kernel)⟩
theorem lw_p26 : lw_okq (⟨"KindNets$ValueReader", "nodeHeldAgainst", "(II)I"⟩, 10) := ⟨⟨by decide +kernel, by decide +kernel⟩, List.mem_of_getElem? (i := 148) (by decide +kernel), List.mem_of_getElem? (i := 581) (by decide +kernel), List.mem_of_getElem? (i := 582) (by decide +kernel)⟩
theorem lw_p27 : lw_okq (⟨"KindNets$ValueReader", "noteMisfit", "(I)V"⟩, 10) := ⟨⟨by decide +kernel, by decide +kernel⟩, List.mem_of_getElem? (i := 148) (by decide +kernel), List.mem_of_getElem? (i := 586) (by decide +kernel), List.mem_of_getElem? (i := 587) (by decide +kernel)⟩
theorem lw_p28 : lw_okq (⟨"KindNets$ValueReader", "endValue", "()Z"⟩, 10) := ⟨⟨by decide +kernel, by decide +kernel⟩, List.mem_of_getElem? (i := 148) (by decide +kernel), List.mem_of_getElem? (i := 590) (by decide +kernel), List.mem_of_getElem? (i := 591) (by decide +kernel)⟩
theorem lw_p29 : lw_okq (⟨"KindNets$ValueReader", "isInnermostKnown", "()Z"⟩, 10) := ⟨⟨by decide +kernel, by decide +kernel⟩, List.mem_of_getElem? (i := 148) (by decide +kernel), List.mem_of_getElem? (i := 594) (by decide +kernel), List.mem_of_getElem? (i := 595) (by decide +kernel)⟩
theorem lw_p30 : lw_okq (⟨"KindNets$ValueReader", "openValue", "(II)Z"⟩, 10) := ⟨⟨by decide +kernel, by decide +kernel⟩, List.mem_of_getElem? (i := 148) (by decide +kernel), List.mem_of_getElem? (i := 598) (by decide +kernel), List.mem_of_getElem? (i := 599) (by decide +kernel)⟩
theorem lw_p31 : lw_okq (⟨"KindNets$ValueReader", "readItem", "(II)Z"⟩, 10) := ⟨⟨by decide +kernel, by decide +kernel⟩, List.mem_of_getElem? (i := 148) (by decide +kernel), List.mem_of_getElem? (i := 602) (by decide +kernel), List.mem_of_getElem? (i := 603) (by decide +kernel)⟩
def lw_privs_2 : List (MethodName × Nat) := [(⟨"KindNets$Standing", "reachAlso", "(II)I"⟩, 6), (⟨"KindNets$Standing", "reachedAt", "(I)I"⟩, 6), (⟨"KindNets$Standing", "isAlikeEarlier", "(I)Z"⟩, 6), (⟨"KindNets$Joiner", "nodeFor", "(III)I"⟩, 10), (⟨"KindNets$Joiner", "madeFor", "(III)I"⟩, 10), (⟨"KindNets$Joiner", "begin", "(III)I"⟩, 10), (⟨"KindNets$Joiner", "goOn", "()V"⟩, 10), (⟨"KindNets$Joiner", "partFor", "(II)I"⟩, 10), (⟨"KindNets$ValueReader", "goesOn", "(II)Z"⟩, 10), (⟨"KindNets$ValueReader", "beginValue", "(II)Z"⟩, 10), (⟨"KindNets$ValueReader", "nodeHeldAgainst", "(II)I"⟩, 10), (⟨"KindNets$ValueReader", "noteMisfit", "(I)V"⟩, 10), (⟨"KindNets$ValueReader", "endValue", "()Z"⟩, 10), (⟨"KindNets$ValueReader", "isInnermostKnown", "()Z"⟩, 10), (⟨"KindNets$ValueReader", "openValue", "(II)Z"⟩, 10), (⟨"KindNets$ValueReader", "readItem", "(II)Z"⟩, 10)]
theorem lw_r2 : ∀ q ∈ lw_privs_2, lw_okq q := List.forall_mem_cons.mpr ⟨lw_p16, List.forall_mem_cons.mpr ⟨lw_p17, List.forall_mem_cons.mpr ⟨lw_p18, List.forall_mem_cons.mpr ⟨lw_p19, List.forall_mem_cons.mpr ⟨lw_p20, List.forall_mem_cons.mpr ⟨lw_p21, List.forall_mem_cons.mpr ⟨lw_p22, List.forall_mem_cons.mpr ⟨lw_p23, List.forall_mem_cons.mpr ⟨lw_p24, List.forall_mem_cons.mpr ⟨lw_p25, List.forall_mem_cons.mpr ⟨lw_p26, List.forall_mem_cons.mpr ⟨lw_p27, List.forall_mem_cons.mpr ⟨lw_p28, List.forall_mem_cons.mpr ⟨lw_p29, List.forall_mem_cons.mpr ⟨lw_p30, List.forall_mem_cons.mpr ⟨lw_p31, fun _ h => absurd h List.not_mem_nil⟩⟩⟩⟩⟩⟩⟩⟩⟩⟩⟩⟩⟩⟩⟩⟩
theorem lw_p32 : lw_okq (⟨"KindNets$ValueReader", "closeValue", "()Z"⟩, 10) := ⟨⟨by decide +kernel, by decide +kernel⟩, List.mem_of_getElem? (i := 148) (by decide +kernel), List.mem_of_getElem? (i := 606) (by decide +kernel), List.mem_of_getElem? (i := 607) (by decide +kernel)⟩
theorem lw_p33 : lw_okq (⟨"KindNets$ValueReader", "dueAt", "(I)I"⟩, 10) := ⟨⟨by decide +kernel, by decide +kernel⟩, List.mem_of_getElem? (i := 148) (by decide +kernel), List.mem_of_getElem? (i := 610) (by decide +kernel), List.mem_of_getElem? (i := 611) (by decide +kernel)⟩
theorem lw_p34 : lw_okq (⟨"KindNets$ValueReader", "innermostNode", "()I"⟩, 10) := ⟨⟨by decide +kernel, by decide +kernel⟩, List.mem_of_getElem? (i := 148) (by decide +kernel), List.mem_of_getElem? (i := 614) (by decide +kernel), List.mem_of_getElem? (i := 615) (by decide +kernel)⟩
theorem lw_p35 : lw_okq (⟨"KindNets$ValueReader", "readField", "(II)Z"⟩, 10) := ⟨⟨by decide +kernel, by decide +kernel⟩, List.mem_of_getElem? (i := 148) (by decide +kernel), List.mem_of_getElem? (i := 619) (by decide +kernel), List.mem_of_getElem? (i := 620) (by decide +kernel)⟩
theorem lw_p36 : lw_okq (⟨"KindNets$ValueReader", "readCase", "(II)Z"⟩, 10) := ⟨⟨by decide +kernel, by decide +kernel⟩, List.mem_of_getElem? (i := 148) (by decide +kernel), List.mem_of_getElem? (i := 624) (by decide +kernel), List.mem_of_getElem? (i := 625) (by decide +kernel)⟩
theorem lw_p37 : lw_okq (⟨"KindNets$Counts", "catchUp", "()V"⟩, 4) := ⟨⟨by decide +kernel, by decide +kernel⟩, List.mem_of_getElem? (i := 185) (by decide +kernel), List.mem_of_getElem? (i := 652) (by decide +kernel), List.mem_of_getElem? (i := 653) (by decide +kernel)⟩
theorem lw_p38 : lw_okq (⟨"KindNets$Counts", "valuesBySmaller", "(II)J"⟩, 4) := ⟨⟨by decide +kernel, by decide +kernel⟩, List.mem_of_getElem? (i := 185) (by decide +kernel), List.mem_of_getElem? (i := 658) (by decide +kernel), List.mem_of_getElem? (i := 659) (by decide +kernel)⟩
theorem lw_p39 : lw_okq (⟨"KindNets$Counts", "recordsOf", "(II)J"⟩, 4) := ⟨⟨by decide +kernel, by decide +kernel⟩, List.mem_of_getElem? (i := 185) (by decide +kernel), List.mem_of_getElem? (i := 666) (by decide +kernel), List.mem_of_getElem? (i := 667) (by decide +kernel)⟩
theorem lw_p40 : lw_okq (⟨"KindNets$Counts", "addLetter", "(II)V"⟩, 4) := ⟨⟨by decide +kernel, by decide +kernel⟩, List.mem_of_getElem? (i := 185) (by decide +kernel), List.mem_of_getElem? (i := 674) (by decide +kernel), List.mem_of_getElem? (i := 675) (by decide +kernel)⟩
theorem lw_p41 : lw_okq (⟨"KindNets$Counts", "foundOf", "(II)J"⟩, 4) := ⟨⟨by decide +kernel, by decide +kernel⟩, List.mem_of_getElem? (i := 185) (by decide +kernel), List.mem_of_getElem? (i := 679) (by decide +kernel), List.mem_of_getElem? (i := 680) (by decide +kernel)⟩
theorem lw_p42 : lw_okq (⟨"KindNets$Counts", "choicesOf", "(II)J"⟩, 4) := ⟨⟨by decide +kernel, by decide +kernel⟩, List.mem_of_getElem? (i := 185) (by decide +kernel), List.mem_of_getElem? (i := 686) (by decide +kernel), List.mem_of_getElem? (i := 687) (by decide +kernel)⟩
theorem lw_p43 : lw_okq (⟨"KindNets$Counts", "listsOf", "(II)J"⟩, 4) := ⟨⟨by decide +kernel, by decide +kernel⟩, List.mem_of_getElem? (i := 185) (by decide +kernel), List.mem_of_getElem? (i := 690) (by decide +kernel), List.mem_of_getElem? (i := 691) (by decide +kernel)⟩
theorem lw_p44 : lw_okq (⟨"KindNets$Leasts", "catchUp", "()V"⟩, 3) := ⟨⟨by decide +kernel, by decide +kernel⟩, List.mem_of_getElem? (i := 205) (by decide +kernel), List.mem_of_getElem? (i := 702) (by decide +kernel), List.mem_of_getElem? (i := 703) (by decide +kernel)⟩
theorem lw_p45 : lw_okq (⟨"KindNets$Leasts", "lessen", "(I)Z"⟩, 3) := ⟨⟨by decide +kernel, by decide +kernel⟩, List.mem_of_getElem? (i := 205) (by decide +kernel), List.mem_of_getElem? (i := 708) (by decide +kernel), List.mem_of_getElem? (i := 709) (by decide +kernel)⟩
theorem lw_p46 : lw_okq (⟨"KindNets$Leasts", "sizeByParts", "(I)I"⟩, 3) := ⟨⟨by decide +kernel, by decide +kernel⟩, List.mem_of_getElem? (i := 205) (by decide +kernel), List.mem_of_getElem? (i := 712) (by decide +kernel), List.mem_of_getElem? (i := 713) (by decide +kernel)⟩
theorem lw_p47 : lw_okq (⟨"KindNets$Leasts", "sumOfParts", "(I)I"⟩, 3) := ⟨⟨by decide +kernel, by decide +kernel⟩, List.mem_of_getElem? (i := 205) (by decide +kernel), List.mem_of_getElem? (i := 717) (by decide +kernel), List.mem_of_getElem? (i := 718) (by decide +kernel)⟩
def lw_privs_3 : List (MethodName × Nat) := [(⟨"KindNets$ValueReader", "closeValue", "()Z"⟩, 10), (⟨"KindNets$ValueReader", "dueAt", "(I)I"⟩, 10), (⟨"KindNets$ValueReader", "innermostNode", "()I"⟩, 10), (⟨"KindNets$ValueReader", "readField", "(II)Z"⟩, 10), (⟨"KindNets$ValueReader", "readCase", "(II)Z"⟩, 10), (⟨"KindNets$Counts", "catchUp", "()V"⟩, 4), (⟨"KindNets$Counts", "valuesBySmaller", "(II)J"⟩, 4), (⟨"KindNets$Counts", "recordsOf", "(II)J"⟩, 4), (⟨"KindNets$Counts", "addLetter", "(II)V"⟩, 4), (⟨"KindNets$Counts", "foundOf", "(II)J"⟩, 4), (⟨"KindNets$Counts", "choicesOf", "(II)J"⟩, 4), (⟨"KindNets$Counts", "listsOf", "(II)J"⟩, 4), (⟨"KindNets$Leasts", "catchUp", "()V"⟩, 3), (⟨"KindNets$Leasts", "lessen", "(I)Z"⟩, 3), (⟨"KindNets$Leasts", "sizeByParts", "(I)I"⟩, 3), (⟨"KindNets$Leasts", "sumOfParts", "(I)I"⟩, 3)]
theorem lw_r3 : ∀ q ∈ lw_privs_3, lw_okq q := List.forall_mem_cons.mpr ⟨lw_p32, List.forall_mem_cons.mpr ⟨lw_p33, List.forall_mem_cons.mpr ⟨lw_p34, List.forall_mem_cons.mpr ⟨lw_p35, List.forall_mem_cons.mpr ⟨lw_p36, List.forall_mem_cons.mpr ⟨lw_p37, List.forall_mem_cons.mpr ⟨lw_p38, List.forall_mem_cons.mpr ⟨lw_p39, List.forall_mem_cons.mpr ⟨lw_p40, List.forall_mem_cons.mpr ⟨lw_p41, List.forall_mem_cons.mpr ⟨lw_p42, List.forall_mem_cons.mpr ⟨lw_p43, List.forall_mem_cons.mpr ⟨lw_p44, List.forall_mem_cons.mpr ⟨lw_p45, List.forall_mem_cons.mpr ⟨lw_p46, List.forall_mem_cons.mpr ⟨lw_p47, fun _ h => absurd h List.not_mem_nil⟩⟩⟩⟩⟩⟩⟩⟩⟩⟩⟩⟩⟩⟩⟩⟩
theorem lw_p48 : lw_okq (⟨"KindNets$Leasts", "foundOf", "(I)I"⟩, 3) := ⟨⟨by decide +kernel, by decide +kernel⟩, List.mem_of_getElem? (i := 205) (by decide +kernel), List.mem_of_getElem? (i := 722) (by decide +kernel), List.mem_of_getElem? (i := 723) (by decide +kernel)⟩
theorem lw_p49 : lw_okq (⟨"KindNets$Leasts", "leastOfParts", "(I)I"⟩, 3) := ⟨⟨by decide +kernel, by decide +kernel⟩, List.mem_of_getElem? (i := 205) (by decide +kernel), List.mem_of_getElem? (i := 726) (by decide +kernel), List.mem_of_getElem? (i := 727) (by decide +kernel)⟩
theorem lw_p50 : lw_okq (⟨"KindNetsModel", "faultOf", "()I"⟩, 34) := ⟨⟨by decide +kernel, by decide +kernel⟩, List.mem_of_getElem? (i := 747) (by decide +kernel), List.mem_of_getElem? (i := 872) (by decide +kernel), List.mem_of_getElem? (i := 873) (by decide +kernel)⟩
theorem lw_p51 : lw_okq (⟨"KindNetsModel", "come", "(I)V"⟩, 34) := ⟨⟨by decide +kernel, by decide +kernel⟩, List.mem_of_getElem? (i := 747) (by decide +kernel), List.mem_of_getElem? (i := 876) (by decide +kernel), List.mem_of_getElem? (i := 877) (by decide +kernel)⟩
theorem lw_p52 : lw_okq (⟨"KindNetsModel", "settle", "()I"⟩, 34) := ⟨⟨by decide +kernel, by decide +kernel⟩, List.mem_of_getElem? (i := 747) (by decide +kernel), List.mem_of_getElem? (i := 880) (by decide +kernel), List.mem_of_getElem? (i := 881) (by decide +kernel)⟩
theorem lw_p53 : lw_okq (⟨"KindNetsModel", "comesTo", "(I)I"⟩, 34) := ⟨⟨by decide +kernel, by decide +kernel⟩, List.mem_of_getElem? (i := 747) (by decide +kernel), List.mem_of_getElem? (i := 888) (by decide +kernel), List.mem_of_getElem? (i := 889) (by decide +kernel)⟩
theorem lw_p54 : lw_okq (⟨"KindNetsModel", "isNode", "(I)Z"⟩, 34) := ⟨⟨by decide +kernel, by decide +kernel⟩, List.mem_of_getElem? (i := 747) (by decide +kernel), List.mem_of_getElem? (i := 900) (by decide +kernel), List.mem_of_getElem? (i := 901) (by decide +kernel)⟩
theorem lw_p55 : lw_okq (⟨"KindNetsModel", "partsOf", "(I)I"⟩, 34) := ⟨⟨by decide +kernel, by decide +kernel⟩, List.mem_of_getElem? (i := 747) (by decide +kernel), List.mem_of_getElem? (i := 904) (by decide +kernel), List.mem_of_getElem? (i := 905) (by decide +kernel)⟩
theorem lw_p56 : lw_okq (⟨"KindNetsModel", "areNodes", "(II)Z"⟩, 34) := ⟨⟨by decide +kernel, by decide +kernel⟩, List.mem_of_getElem? (i := 747) (by decide +kernel), List.mem_of_getElem? (i := 912) (by decide +kernel), List.mem_of_getElem? (i := 913) (by decide +kernel)⟩
theorem lw_p57 : lw_okq (⟨"KindNetsModel", "lay", "()V"⟩, 34) := ⟨⟨by decide +kernel, by decide +kernel⟩, List.mem_of_getElem? (i := 747) (by decide +kernel), List.mem_of_getElem? (i := 916) (by decide +kernel), List.mem_of_getElem? (i := 917) (by decide +kernel)⟩
theorem lw_p58 : lw_okq (⟨"KindNetsModel", "fitsAlone", "(II)Z"⟩, 34) := ⟨⟨by decide +kernel, by decide +kernel⟩, List.mem_of_getElem? (i := 747) (by decide +kernel), List.mem_of_getElem? (i := 920) (by decide +kernel), List.mem_of_getElem? (i := 921) (by decide +kernel)⟩
theorem lw_p59 : lw_okq (⟨"KindNetsModel", "stepTo", "(III)I"⟩, 34) := ⟨⟨by decide +kernel, by decide +kernel⟩, List.mem_of_getElem? (i := 747) (by decide +kernel), List.mem_of_getElem? (i := 928) (by decide +kernel), List.mem_of_getElem? (i := 929) (by decide +kernel)⟩
theorem lw_p60 : lw_okq (⟨"KindNetsModel", "follow", "(III)I"⟩, 34) := ⟨⟨by decide +kernel, by decide +kernel⟩, List.mem_of_getElem? (i := 747) (by decide +kernel), List.mem_of_getElem? (i := 936) (by decide +kernel), List.mem_of_getElem? (i := 937) (by decide +kernel)⟩
theorem lw_p61 : lw_okq (⟨"KindNetsModel", "areAlike", "(II)Z"⟩, 34) := ⟨⟨by decide +kernel, by decide +kernel⟩, List.mem_of_getElem? (i := 747) (by decide +kernel), List.mem_of_getElem? (i := 948) (by decide +kernel), List.mem_of_getElem? (i := 949) (by decide +kernel)⟩
theorem lw_p62 : lw_okq (⟨"KindNetsModel", "waitFor", "(IIII)V"⟩, 34) := ⟨⟨by decide +kernel, by decide +kernel⟩, List.mem_of_getElem? (i := 747) (by decide +kernel), List.mem_of_getElem? (i := 960) (by decide +kernel), List.mem_of_getElem? (i := 961) (by decide +kernel)⟩
theorem lw_p63 : lw_okq (⟨"KindNetsModel", "plain", "(III)I"⟩, 34) := ⟨⟨by decide +kernel, by decide +kernel⟩, List.mem_of_getElem? (i := 747) (by decide +kernel), List.mem_of_getElem? (i := 964) (by decide +kernel), List.mem_of_getElem? (i := 965) (by decide +kernel)⟩
def lw_privs_4 : List (MethodName × Nat) := [(⟨"KindNets$Leasts", "foundOf", "(I)I"⟩, 3), (⟨"KindNets$Leasts", "leastOfParts", "(I)I"⟩, 3), (⟨"KindNetsModel", "faultOf", "()I"⟩, 34), (⟨"KindNetsModel", "come", "(I)V"⟩, 34), (⟨"KindNetsModel", "settle", "()I"⟩, 34), (⟨"KindNetsModel", "comesTo", "(I)I"⟩, 34), (⟨"KindNetsModel", "isNode", "(I)Z"⟩, 34), (⟨"KindNetsModel", "partsOf", "(I)I"⟩, 34), (⟨"KindNetsModel", "areNodes", "(II)Z"⟩, 34), (⟨"KindNetsModel", "lay", "()V"⟩, 34), (⟨"KindNetsModel", "fitsAlone", "(II)Z"⟩, 34), (⟨"KindNetsModel", "stepTo", "(III)I"⟩, 34), (⟨"KindNetsModel", "follow", "(III)I"⟩, 34), (⟨"KindNetsModel", "areAlike", "(II)Z"⟩, 34), (⟨"KindNetsModel", "waitFor", "(IIII)V"⟩, 34), (⟨"KindNetsModel", "plain", "(III)I"⟩, 34)]
theorem lw_r4 : ∀ q ∈ lw_privs_4, lw_okq q := List.forall_mem_cons.mpr ⟨lw_p48, List.forall_mem_cons.mpr ⟨lw_p49, List.forall_mem_cons.mpr ⟨lw_p50, List.forall_mem_cons.mpr ⟨lw_p51, List.forall_mem_cons.mpr ⟨lw_p52, List.forall_mem_cons.mpr ⟨lw_p53, List.forall_mem_cons.mpr ⟨lw_p54, List.forall_mem_cons.mpr ⟨lw_p55, List.forall_mem_cons.mpr ⟨lw_p56, List.forall_mem_cons.mpr ⟨lw_p57, List.forall_mem_cons.mpr ⟨lw_p58, List.forall_mem_cons.mpr ⟨lw_p59, List.forall_mem_cons.mpr ⟨lw_p60, List.forall_mem_cons.mpr ⟨lw_p61, List.forall_mem_cons.mpr ⟨lw_p62, List.forall_mem_cons.mpr ⟨lw_p63, fun _ h => absurd h List.not_mem_nil⟩⟩⟩⟩⟩⟩⟩⟩⟩⟩⟩⟩⟩⟩⟩⟩
theorem lw_p64 : lw_okq (⟨"KindNetsModel", "shape", "(IIII)V"⟩, 34) := ⟨⟨by decide +kernel, by decide +kernel⟩, List.mem_of_getElem? (i := 747) (by decide +kernel), List.mem_of_getElem? (i := 968) (by decide +kernel), List.mem_of_getElem? (i := 969) (by decide +kernel)⟩
theorem lw_p65 : lw_okq (⟨"KindNetsModel", "slipOf", "()I"⟩, 34) := ⟨⟨by decide +kernel, by decide +kernel⟩, List.mem_of_getElem? (i := 747) (by decide +kernel), List.mem_of_getElem? (i := 976) (by decide +kernel), List.mem_of_getElem? (i := 977) (by decide +kernel)⟩
theorem lw_p66 : lw_okq (⟨"KindNetsModel", "inner", "(I)I"⟩, 34) := ⟨⟨by decide +kernel, by decide +kernel⟩, List.mem_of_getElem? (i := 747) (by decide +kernel), List.mem_of_getElem? (i := 988) (by decide +kernel), List.mem_of_getElem? (i := 989) (by decide +kernel)⟩
theorem lw_p67 : lw_okq (⟨"KindNetsModel", "begin", "(II)V"⟩, 34) := ⟨⟨by decide +kernel, by decide +kernel⟩, List.mem_of_getElem? (i := 747) (by decide +kernel), List.mem_of_getElem? (i := 992) (by decide +kernel), List.mem_of_getElem? (i := 993) (by decide +kernel)⟩
theorem lw_p68 : lw_okq (⟨"KindNetsModel", "recordCount", "(II)J"⟩, 34) := ⟨⟨by decide +kernel, by decide +kernel⟩, List.mem_of_getElem? (i := 747) (by decide +kernel), List.mem_of_getElem? (i := 1003) (by decide +kernel), List.mem_of_getElem? (i := 1004) (by decide +kernel)⟩
theorem lw_p69 : lw_okq (⟨"KindNetsModel", "choiceCount", "(II)J"⟩, 34) := ⟨⟨by decide +kernel, by decide +kernel⟩, List.mem_of_getElem? (i := 747) (by decide +kernel), List.mem_of_getElem? (i := 1011) (by decide +kernel), List.mem_of_getElem? (i := 1012) (by decide +kernel)⟩
theorem lw_p70 : lw_okq (⟨"KindNetsModel", "listCount", "(II)J"⟩, 34) := ⟨⟨by decide +kernel, by decide +kernel⟩, List.mem_of_getElem? (i := 747) (by decide +kernel), List.mem_of_getElem? (i := 1015) (by decide +kernel), List.mem_of_getElem? (i := 1016) (by decide +kernel)⟩
theorem lw_p71 : lw_okq (⟨"KindNetsModel", "layLeast", "()V"⟩, 34) := ⟨⟨by decide +kernel, by decide +kernel⟩, List.mem_of_getElem? (i := 747) (by decide +kernel), List.mem_of_getElem? (i := 1023) (by decide +kernel), List.mem_of_getElem? (i := 1024) (by decide +kernel)⟩
def lw_privs_5 : List (MethodName × Nat) := [(⟨"KindNetsModel", "shape", "(IIII)V"⟩, 34), (⟨"KindNetsModel", "slipOf", "()I"⟩, 34), (⟨"KindNetsModel", "inner", "(I)I"⟩, 34), (⟨"KindNetsModel", "begin", "(II)V"⟩, 34), (⟨"KindNetsModel", "recordCount", "(II)J"⟩, 34), (⟨"KindNetsModel", "choiceCount", "(II)J"⟩, 34), (⟨"KindNetsModel", "listCount", "(II)J"⟩, 34), (⟨"KindNetsModel", "layLeast", "()V"⟩, 34)]
theorem lw_r5 : ∀ q ∈ lw_privs_5, lw_okq q := List.forall_mem_cons.mpr ⟨lw_p64, List.forall_mem_cons.mpr ⟨lw_p65, List.forall_mem_cons.mpr ⟨lw_p66, List.forall_mem_cons.mpr ⟨lw_p67, List.forall_mem_cons.mpr ⟨lw_p68, List.forall_mem_cons.mpr ⟨lw_p69, List.forall_mem_cons.mpr ⟨lw_p70, List.forall_mem_cons.mpr ⟨lw_p71, fun _ h => absurd h List.not_mem_nil⟩⟩⟩⟩⟩⟩⟩⟩
def lw_privs : List (MethodName × Nat) := lw_privs_1 ++ (lw_privs_2 ++ (lw_privs_3 ++ (lw_privs_4 ++ (lw_privs_5))))
def lw_tbl : List Cond := k2_sels lw_privs ++ tables_1
theorem lw_privs_ok : ∀ q ∈ lw_privs, lw_okq q := by
  show ∀ q ∈ lw_privs_1 ++ (lw_privs_2 ++ (lw_privs_3 ++ (lw_privs_4 ++ (lw_privs_5)))), lw_okq q
  exact List.forall_mem_append.mpr ⟨lw_r1, List.forall_mem_append.mpr ⟨lw_r2, List.forall_mem_append.mpr ⟨lw_r3, List.forall_mem_append.mpr ⟨lw_r4, lw_r5⟩⟩⟩⟩
def RX0 : String := "KindNets$Counts"
def TX0 : u_T := fun k => match k with
  | 0 => ("KindNets$Counts", "net", "LKindNets$Net;", true)
  | 1 => ("KindNets$Counts", "found", "[J", true)
  | 2 => ("KindNets$Counts", "ways", "[J", true)
  | _ => ("KindNets$Counts", "known", "I", false)
def tyX0 : Nat → FieldType := fun k => match k with
  | 0 => .object "KindNets$Net"
  | 1 => .array .long
  | 2 => .array .long
  | _ => .int
abbrev wsX00 : List Cond := u_ws RX0 TX0 4
theorem nmX0 : ∀ a, a < 4 → ∀ b, b < 4 → a ≠ b → (TX0 a).2.1 ≠ (TX0 b).2.1 := by decide +kernel
theorem tyX0_ok : ∀ k, k < 4 → parseFieldDescriptor (TX0 k).2.2.1 = some (tyX0 k) := by decide +kernel
abbrev cX0_init : ByteArray := prog_2_method_1_code
def yX0_init : MethodName := ⟨RX0, "<init>", "(LKindNets$Net;)V"⟩
abbrev cX0_forget : ByteArray := prog_2_method_2_code
def yX0_forget : MethodName := ⟨RX0, "forget", "()V"⟩
abbrev cX0_valuesOf : ByteArray := prog_2_method_3_code
def yX0_valuesOf : MethodName := ⟨RX0, "valuesOf", "(II)I"⟩
abbrev cX0_catchUp : ByteArray := prog_2_method_4_code
def yX0_catchUp : MethodName := ⟨RX0, "catchUp", "()V"⟩
abbrev cX0_foundOf : ByteArray := prog_2_method_5_code
def yX0_foundOf : MethodName := ⟨RX0, "foundOf", "(II)J"⟩
abbrev cX0_valuesBySmaller : ByteArray := prog_2_method_6_code
def yX0_valuesBySmaller : MethodName := ⟨RX0, "valuesBySmaller", "(II)J"⟩
abbrev cX0_recordsOf : ByteArray := prog_2_method_7_code
def yX0_recordsOf : MethodName := ⟨RX0, "recordsOf", "(II)J"⟩
abbrev cX0_addLetter : ByteArray := prog_2_method_8_code
def yX0_addLetter : MethodName := ⟨RX0, "addLetter", "(II)V"⟩
abbrev cX0_choicesOf : ByteArray := prog_2_method_9_code
def yX0_choicesOf : MethodName := ⟨RX0, "choicesOf", "(II)J"⟩
abbrev cX0_listsOf : ByteArray := prog_2_method_10_code
def yX0_listsOf : MethodName := ⟨RX0, "listsOf", "(II)J"⟩
def RX1 : String := "KindNets$Joiner"
def TX1 : u_T := fun k => match k with
  | 0 => ("KindNets$Joiner", "net", "LKindNets$Net;", true)
  | 1 => ("KindNets$Joiner", "standing", "LKindNets$Standing;", true)
  | 2 => ("KindNets$Joiner", "firsts", "[I", true)
  | 3 => ("KindNets$Joiner", "seconds", "[I", true)
  | 4 => ("KindNets$Joiner", "whats", "[I", true)
  | 5 => ("KindNets$Joiner", "nextSlots", "[I", true)
  | 6 => ("KindNets$Joiner", "open", "[I", true)
  | 7 => ("KindNets$Joiner", "opened", "I", false)
  | 8 => ("KindNets$Joiner", "before", "I", false)
  | _ => ("KindNets$Joiner", "full", "Z", false)
def tyX1 : Nat → FieldType := fun k => match k with
  | 0 => .object "KindNets$Net"
  | 1 => .object "KindNets$Standing"
  | 2 => .array .int
  | 3 => .array .int
  | 4 => .array .int
  | 5 => .array .int
  | 6 => .array .int
  | 7 => .int
  | 8 => .int
  | _ => .boolean
abbrev wsX10 : List Cond := u_ws RX1 TX1 10
theorem nmX1 : ∀ a, a < 10 → ∀ b, b < 10 → a ≠ b → (TX1 a).2.1 ≠ (TX1 b).2.1 := by decide +kernel
theorem tyX1_ok : ∀ k, k < 10 → parseFieldDescriptor (TX1 k).2.2.1 = some (tyX1 k) := by decide +kernel
abbrev cX1_init : ByteArray := prog_3_method_1_code
def yX1_init : MethodName := ⟨RX1, "<init>", "(LKindNets$Net;LKindNets$Standing;)V"⟩
abbrev cX1_joined : ByteArray := prog_3_method_2_code
def yX1_joined : MethodName := ⟨RX1, "joined", "(III)I"⟩
abbrev cX1_goOn : ByteArray := prog_3_method_3_code
def yX1_goOn : MethodName := ⟨RX1, "goOn", "()V"⟩
abbrev cX1_partFor : ByteArray := prog_3_method_4_code
def yX1_partFor : MethodName := ⟨RX1, "partFor", "(II)I"⟩
abbrev cX1_nodeFor : ByteArray := prog_3_method_5_code
def yX1_nodeFor : MethodName := ⟨RX1, "nodeFor", "(III)I"⟩
abbrev cX1_madeFor : ByteArray := prog_3_method_6_code
def yX1_madeFor : MethodName := ⟨RX1, "madeFor", "(III)I"⟩
abbrev cX1_begin : ByteArray := prog_3_method_7_code
def yX1_begin : MethodName := ⟨RX1, "begin", "(III)I"⟩
abbrev cX1_turn : ByteArray := prog_3_method_8_code
def yX1_turn : MethodName := ⟨RX1, "turn", "(I)I"⟩
abbrev cX1_hasParts : ByteArray := prog_3_method_9_code
def yX1_hasParts : MethodName := ⟨RX1, "hasParts", "(I)Z"⟩
abbrev cX1_keepsAll : ByteArray := prog_3_method_10_code
def yX1_keepsAll : MethodName := ⟨RX1, "keepsAll", "(II)Z"⟩
def RX2 : String := "KindNets$Leasts"
def TX2 : u_T := fun k => match k with
  | 0 => ("KindNets$Leasts", "net", "LKindNets$Net;", true)
  | 1 => ("KindNets$Leasts", "found", "[I", true)
  | _ => ("KindNets$Leasts", "known", "I", false)
def tyX2 : Nat → FieldType := fun k => match k with
  | 0 => .object "KindNets$Net"
  | 1 => .array .int
  | _ => .int
abbrev wsX20 : List Cond := u_ws RX2 TX2 3
theorem nmX2 : ∀ a, a < 3 → ∀ b, b < 3 → a ≠ b → (TX2 a).2.1 ≠ (TX2 b).2.1 := by decide +kernel
theorem tyX2_ok : ∀ k, k < 3 → parseFieldDescriptor (TX2 k).2.2.1 = some (tyX2 k) := by decide +kernel
abbrev cX2_init : ByteArray := prog_4_method_1_code
def yX2_init : MethodName := ⟨RX2, "<init>", "(LKindNets$Net;)V"⟩
abbrev cX2_forget : ByteArray := prog_4_method_2_code
def yX2_forget : MethodName := ⟨RX2, "forget", "()V"⟩
abbrev cX2_leastOf : ByteArray := prog_4_method_3_code
def yX2_leastOf : MethodName := ⟨RX2, "leastOf", "(I)I"⟩
abbrev cX2_emptyNodes : ByteArray := prog_4_method_4_code
def yX2_emptyNodes : MethodName := ⟨RX2, "emptyNodes", "()I"⟩
abbrev cX2_catchUp : ByteArray := prog_4_method_5_code
def yX2_catchUp : MethodName := ⟨RX2, "catchUp", "()V"⟩
abbrev cX2_lessen : ByteArray := prog_4_method_6_code
def yX2_lessen : MethodName := ⟨RX2, "lessen", "(I)Z"⟩
abbrev cX2_sizeByParts : ByteArray := prog_4_method_7_code
def yX2_sizeByParts : MethodName := ⟨RX2, "sizeByParts", "(I)I"⟩
abbrev cX2_sumOfParts : ByteArray := prog_4_method_8_code
def yX2_sumOfParts : MethodName := ⟨RX2, "sumOfParts", "(I)I"⟩
abbrev cX2_leastOfParts : ByteArray := prog_4_method_9_code
def yX2_leastOfParts : MethodName := ⟨RX2, "leastOfParts", "(I)I"⟩
abbrev cX2_foundOf : ByteArray := prog_4_method_10_code
def yX2_foundOf : MethodName := ⟨RX2, "foundOf", "(I)I"⟩
def RX3 : String := "KindNets$Net"
def TX3 : u_T := fun k => match k with
  | 0 => ("KindNets$Net", "room", "I", true)
  | 1 => ("KindNets$Net", "signs", "[I", true)
  | 2 => ("KindNets$Net", "slots", "[I", true)
  | 3 => ("KindNets$Net", "parts", "[I", true)
  | 4 => ("KindNets$Net", "names", "[I", true)
  | _ => ("KindNets$Net", "made", "I", false)
def tyX3 : Nat → FieldType := fun k => match k with
  | 0 => .int
  | 1 => .array .int
  | 2 => .array .int
  | 3 => .array .int
  | 4 => .array .int
  | _ => .int
abbrev wsX30 : List Cond := u_ws RX3 TX3 6
theorem nmX3 : ∀ a, a < 6 → ∀ b, b < 6 → a ≠ b → (TX3 a).2.1 ≠ (TX3 b).2.1 := by decide +kernel
theorem tyX3_ok : ∀ k, k < 6 → parseFieldDescriptor (TX3 k).2.2.1 = some (tyX3 k) := by decide +kernel
abbrev cX3_init : ByteArray := prog_5_method_1_code
def yX3_init : MethodName := ⟨RX3, "<init>", "(I)V"⟩
abbrev cX3_clear : ByteArray := prog_5_method_2_code
def yX3_clear : MethodName := ⟨RX3, "clear", "()V"⟩
abbrev cX3_nodes : ByteArray := prog_5_method_3_code
def yX3_nodes : MethodName := ⟨RX3, "nodes", "()I"⟩
abbrev cX3_has : ByteArray := prog_5_method_4_code
def yX3_has : MethodName := ⟨RX3, "has", "(I)Z"⟩
abbrev cX3_addNode : ByteArray := prog_5_method_5_code
def yX3_addNode : MethodName := ⟨RX3, "addNode", "(I)I"⟩
abbrev cX3_dropFrom : ByteArray := prog_5_method_6_code
def yX3_dropFrom : MethodName := ⟨RX3, "dropFrom", "(I)V"⟩
abbrev cX3_setPart : ByteArray := prog_5_method_7_code
def yX3_setPart : MethodName := ⟨RX3, "setPart", "(III)V"⟩
abbrev cX3_signOf : ByteArray := prog_5_method_8_code
def yX3_signOf : MethodName := ⟨RX3, "signOf", "(I)I"⟩
abbrev cX3_slotsOf : ByteArray := prog_5_method_9_code
def yX3_slotsOf : MethodName := ⟨RX3, "slotsOf", "(I)I"⟩
abbrev cX3_partAt : ByteArray := prog_5_method_10_code
def yX3_partAt : MethodName := ⟨RX3, "partAt", "(II)I"⟩
abbrev cX3_setName : ByteArray := prog_5_method_11_code
def yX3_setName : MethodName := ⟨RX3, "setName", "(II)V"⟩
abbrev cX3_nameAt : ByteArray := prog_5_method_12_code
def yX3_nameAt : MethodName := ⟨RX3, "nameAt", "(I)I"⟩
abbrev cX3_namesTold : ByteArray := prog_5_method_13_code
def yX3_namesTold : MethodName := ⟨RX3, "namesTold", "()I"⟩
def RX4 : String := "KindNets$Pad"
def TX4 : u_T := fun k => match k with
  | 0 => ("KindNets$Pad", "signs", "[I", true)
  | _ => ("KindNets$Pad", "laid", "I", false)
def tyX4 : Nat → FieldType := fun k => match k with
  | 0 => .array .int
  | _ => .int
abbrev wsX40 : List Cond := u_ws RX4 TX4 2
theorem nmX4 : ∀ a, a < 2 → ∀ b, b < 2 → a ≠ b → (TX4 a).2.1 ≠ (TX4 b).2.1 := by decide +kernel
theorem tyX4_ok : ∀ k, k < 2 → parseFieldDescriptor (TX4 k).2.2.1 = some (tyX4 k) := by decide +kernel
abbrev cX4_init : ByteArray := prog_6_method_1_code
def yX4_init : MethodName := ⟨RX4, "<init>", "()V"⟩
abbrev cX4_lay : ByteArray := prog_6_method_2_code
def yX4_lay : MethodName := ⟨RX4, "lay", "(I)Z"⟩
abbrev cX4_clear : ByteArray := prog_6_method_3_code
def yX4_clear : MethodName := ⟨RX4, "clear", "()V"⟩
abbrev cX4_length : ByteArray := prog_6_method_4_code
def yX4_length : MethodName := ⟨RX4, "length", "()I"⟩
abbrev cX4_signAt : ByteArray := prog_6_method_5_code
def yX4_signAt : MethodName := ⟨RX4, "signAt", "(I)I"⟩
def RX5 : String := "KindNets$Standing"
def TX5 : u_T := fun k => match k with
  | 0 => ("KindNets$Standing", "net", "LKindNets$Net;", true)
  | 1 => ("KindNets$Standing", "steps", "[I", true)
  | 2 => ("KindNets$Standing", "reached", "[I", true)
  | 3 => ("KindNets$Standing", "reachedBy", "[I", true)
  | 4 => ("KindNets$Standing", "reachings", "I", false)
  | _ => ("KindNets$Standing", "known", "I", false)
def tyX5 : Nat → FieldType := fun k => match k with
  | 0 => .object "KindNets$Net"
  | 1 => .array .int
  | 2 => .array .int
  | 3 => .array .int
  | 4 => .int
  | _ => .int
abbrev wsX50 : List Cond := u_ws RX5 TX5 6
theorem nmX5 : ∀ a, a < 6 → ∀ b, b < 6 → a ≠ b → (TX5 a).2.1 ≠ (TX5 b).2.1 := by decide +kernel
theorem tyX5_ok : ∀ k, k < 6 → parseFieldDescriptor (TX5 k).2.2.1 = some (tyX5 k) := by decide +kernel
abbrev cX5_init : ByteArray := prog_7_method_1_code
def yX5_init : MethodName := ⟨RX5, "<init>", "(LKindNets$Net;)V"⟩
abbrev cX5_forget : ByteArray := prog_7_method_2_code
def yX5_forget : MethodName := ⟨RX5, "forget", "()V"⟩
abbrev cX5_catchUp : ByteArray := prog_7_method_3_code
def yX5_catchUp : MethodName := ⟨RX5, "catchUp", "()V"⟩
abbrev cX5_mayStand : ByteArray := prog_7_method_4_code
def yX5_mayStand : MethodName := ⟨RX5, "mayStand", "(II)Z"⟩
abbrev cX5_areAlike : ByteArray := prog_7_method_5_code
def yX5_areAlike : MethodName := ⟨RX5, "areAlike", "(II)Z"⟩
abbrev cX5_stepsDown : ByteArray := prog_7_method_6_code
def yX5_stepsDown : MethodName := ⟨RX5, "stepsDown", "(II)I"⟩
abbrev cX5_stepDown : ByteArray := prog_7_method_7_code
def yX5_stepDown : MethodName := ⟨RX5, "stepDown", "(III)I"⟩
abbrev cX5_endOfWay : ByteArray := prog_7_method_8_code
def yX5_endOfWay : MethodName := ⟨RX5, "endOfWay", "(II)I"⟩
abbrev cX5_unlikeWithin : ByteArray := prog_7_method_9_code
def yX5_unlikeWithin : MethodName := ⟨RX5, "unlikeWithin", "(I)I"⟩
abbrev cX5_pairsThatMay : ByteArray := prog_7_method_10_code
def yX5_pairsThatMay : MethodName := ⟨RX5, "pairsThatMay", "()I"⟩
abbrev cX5_pairAfter : ByteArray := prog_7_method_11_code
def yX5_pairAfter : MethodName := ⟨RX5, "pairAfter", "(III)I"⟩
abbrev cX5_isAlikeEarlier : ByteArray := prog_7_method_12_code
def yX5_isAlikeEarlier : MethodName := ⟨RX5, "isAlikeEarlier", "(I)Z"⟩
abbrev cX5_reachedAt : ByteArray := prog_7_method_13_code
def yX5_reachedAt : MethodName := ⟨RX5, "reachedAt", "(I)I"⟩
abbrev cX5_reachFrom : ByteArray := prog_7_method_14_code
def yX5_reachFrom : MethodName := ⟨RX5, "reachFrom", "(I)I"⟩
abbrev cX5_reachAlso : ByteArray := prog_7_method_15_code
def yX5_reachAlso : MethodName := ⟨RX5, "reachAlso", "(II)I"⟩
abbrev cX5_startPairs : ByteArray := prog_7_method_16_code
def yX5_startPairs : MethodName := ⟨RX5, "startPairs", "(I)V"⟩
abbrev cX5_shortenPairs : ByteArray := prog_7_method_17_code
def yX5_shortenPairs : MethodName := ⟨RX5, "shortenPairs", "(I)Z"⟩
abbrev cX5_fewestBehind : ByteArray := prog_7_method_18_code
def yX5_fewestBehind : MethodName := ⟨RX5, "fewestBehind", "(II)I"⟩
abbrev cX5_fitByThemselves : ByteArray := prog_7_method_19_code
def yX5_fitByThemselves : MethodName := ⟨RX5, "fitByThemselves", "(II)Z"⟩
abbrev cX5_firstSlotDown : ByteArray := prog_7_method_20_code
def yX5_firstSlotDown : MethodName := ⟨RX5, "firstSlotDown", "(I)I"⟩
abbrev cX5_pairBehind : ByteArray := prog_7_method_21_code
def yX5_pairBehind : MethodName := ⟨RX5, "pairBehind", "(II)I"⟩
abbrev cX5_stepThrough : ByteArray := prog_7_method_22_code
def yX5_stepThrough : MethodName := ⟨RX5, "stepThrough", "(II)I"⟩
abbrev cX5_stepsOfPair : ByteArray := prog_7_method_23_code
def yX5_stepsOfPair : MethodName := ⟨RX5, "stepsOfPair", "(I)I"⟩
abbrev cX5_stepsOf : ByteArray := prog_7_method_24_code
def yX5_stepsOf : MethodName := ⟨RX5, "stepsOf", "(II)I"⟩
abbrev cX5_setSteps : ByteArray := prog_7_method_25_code
def yX5_setSteps : MethodName := ⟨RX5, "setSteps", "(III)V"⟩
def RX6 : String := "KindNets$TextReader"
def TX6 : u_T := fun k => match k with
  | 0 => ("KindNets$TextReader", "pad", "LKindNets$Pad;", true)
  | 1 => ("KindNets$TextReader", "draft", "LKindNets$Net;", true)
  | 2 => ("KindNets$TextReader", "place", "I", false)
  | _ => ("KindNets$TextReader", "stuck", "Z", false)
def tyX6 : Nat → FieldType := fun k => match k with
  | 0 => .object "KindNets$Pad"
  | 1 => .object "KindNets$Net"
  | 2 => .int
  | _ => .boolean
abbrev wsX60 : List Cond := u_ws RX6 TX6 4
theorem nmX6 : ∀ a, a < 4 → ∀ b, b < 4 → a ≠ b → (TX6 a).2.1 ≠ (TX6 b).2.1 := by decide +kernel
theorem tyX6_ok : ∀ k, k < 4 → parseFieldDescriptor (TX6 k).2.2.1 = some (tyX6 k) := by decide +kernel
abbrev cX6_init : ByteArray := prog_8_method_1_code
def yX6_init : MethodName := ⟨RX6, "<init>", "(LKindNets$Pad;)V"⟩
abbrev cX6_read : ByteArray := prog_8_method_2_code
def yX6_read : MethodName := ⟨RX6, "read", "()I"⟩
abbrev cX6_nodesRead : ByteArray := prog_8_method_3_code
def yX6_nodesRead : MethodName := ⟨RX6, "nodesRead", "()I"⟩
abbrev cX6_allNamesComeToNodes : ByteArray := prog_8_method_4_code
def yX6_allNamesComeToNodes : MethodName := ⟨RX6, "allNamesComeToNodes", "()Z"⟩
abbrev cX6_copyInto : ByteArray := prog_8_method_5_code
def yX6_copyInto : MethodName := ⟨RX6, "copyInto", "(LKindNets$Net;)V"⟩
abbrev cX6_nodeOf : ByteArray := prog_8_method_6_code
def yX6_nodeOf : MethodName := ⟨RX6, "nodeOf", "(I)I"⟩
abbrev cX6_readNaming : ByteArray := prog_8_method_7_code
def yX6_readNaming : MethodName := ⟨RX6, "readNaming", "()V"⟩
abbrev cX6_readKind : ByteArray := prog_8_method_8_code
def yX6_readKind : MethodName := ⟨RX6, "readKind", "(I)I"⟩
abbrev cX6_readLetters : ByteArray := prog_8_method_9_code
def yX6_readLetters : MethodName := ⟨RX6, "readLetters", "(III)V"⟩
abbrev cX6_readPart : ByteArray := prog_8_method_10_code
def yX6_readPart : MethodName := ⟨RX6, "readPart", "(III)V"⟩
abbrev cX6_isKindSign : ByteArray := prog_8_method_11_code
def yX6_isKindSign : MethodName := ⟨RX6, "isKindSign", "(I)Z"⟩
abbrev cX6_needsParts : ByteArray := prog_8_method_12_code
def yX6_needsParts : MethodName := ⟨RX6, "needsParts", "(I)Z"⟩
def RX7 : String := "KindNets$ValueReader"
def TX7 : u_T := fun k => match k with
  | 0 => ("KindNets$ValueReader", "pad", "LKindNets$Pad;", true)
  | 1 => ("KindNets$ValueReader", "net", "LKindNets$Net;", true)
  | 2 => ("KindNets$ValueReader", "openSigns", "[I", true)
  | 3 => ("KindNets$ValueReader", "openNodes", "[I", true)
  | 4 => ("KindNets$ValueReader", "openLetters", "[I", true)
  | 5 => ("KindNets$ValueReader", "opened", "I", false)
  | 6 => ("KindNets$ValueReader", "waits", "I", false)
  | 7 => ("KindNets$ValueReader", "due", "I", false)
  | 8 => ("KindNets$ValueReader", "begun", "I", false)
  | _ => ("KindNets$ValueReader", "misfit", "I", false)
def tyX7 : Nat → FieldType := fun k => match k with
  | 0 => .object "KindNets$Pad"
  | 1 => .object "KindNets$Net"
  | 2 => .array .int
  | 3 => .array .int
  | 4 => .array .int
  | 5 => .int
  | 6 => .int
  | 7 => .int
  | 8 => .int
  | _ => .int
abbrev wsX70 : List Cond := u_ws RX7 TX7 10
theorem nmX7 : ∀ a, a < 10 → ∀ b, b < 10 → a ≠ b → (TX7 a).2.1 ≠ (TX7 b).2.1 := by decide +kernel
theorem tyX7_ok : ∀ k, k < 10 → parseFieldDescriptor (TX7 k).2.2.1 = some (tyX7 k) := by decide +kernel
abbrev cX7_init : ByteArray := prog_9_method_1_code
def yX7_init : MethodName := ⟨RX7, "<init>", "(LKindNets$Pad;LKindNets$Net;)V"⟩
abbrev cX7_read : ByteArray := prog_9_method_2_code
def yX7_read : MethodName := ⟨RX7, "read", "(I)I"⟩
abbrev cX7_valuesRead : ByteArray := prog_9_method_3_code
def yX7_valuesRead : MethodName := ⟨RX7, "valuesRead", "()I"⟩
abbrev cX7_misfitPlace : ByteArray := prog_9_method_4_code
def yX7_misfitPlace : MethodName := ⟨RX7, "misfitPlace", "()I"⟩
abbrev cX7_goesOn : ByteArray := prog_9_method_5_code
def yX7_goesOn : MethodName := ⟨RX7, "goesOn", "(II)Z"⟩
abbrev cX7_beginValue : ByteArray := prog_9_method_6_code
def yX7_beginValue : MethodName := ⟨RX7, "beginValue", "(II)Z"⟩
abbrev cX7_kindBegunBy : ByteArray := prog_9_method_7_code
def yX7_kindBegunBy : MethodName := ⟨RX7, "kindBegunBy", "(I)I"⟩
abbrev cX7_nodeHeldAgainst : ByteArray := prog_9_method_8_code
def yX7_nodeHeldAgainst : MethodName := ⟨RX7, "nodeHeldAgainst", "(II)I"⟩
abbrev cX7_noteMisfit : ByteArray := prog_9_method_9_code
def yX7_noteMisfit : MethodName := ⟨RX7, "noteMisfit", "(I)V"⟩
abbrev cX7_openValue : ByteArray := prog_9_method_10_code
def yX7_openValue : MethodName := ⟨RX7, "openValue", "(II)Z"⟩
abbrev cX7_closeValue : ByteArray := prog_9_method_11_code
def yX7_closeValue : MethodName := ⟨RX7, "closeValue", "()Z"⟩
abbrev cX7_endValue : ByteArray := prog_9_method_12_code
def yX7_endValue : MethodName := ⟨RX7, "endValue", "()Z"⟩
abbrev cX7_isInnermostKnown : ByteArray := prog_9_method_13_code
def yX7_isInnermostKnown : MethodName := ⟨RX7, "isInnermostKnown", "()Z"⟩
abbrev cX7_readItem : ByteArray := prog_9_method_14_code
def yX7_readItem : MethodName := ⟨RX7, "readItem", "(II)Z"⟩
abbrev cX7_readField : ByteArray := prog_9_method_15_code
def yX7_readField : MethodName := ⟨RX7, "readField", "(II)Z"⟩
abbrev cX7_readCase : ByteArray := prog_9_method_16_code
def yX7_readCase : MethodName := ⟨RX7, "readCase", "(II)Z"⟩
abbrev cX7_innermostNode : ByteArray := prog_9_method_17_code
def yX7_innermostNode : MethodName := ⟨RX7, "innermostNode", "()I"⟩
abbrev cX7_dueAt : ByteArray := prog_9_method_18_code
def yX7_dueAt : MethodName := ⟨RX7, "dueAt", "(I)I"⟩
def RX8 : String := "KindNets"
def TX8 : u_T := fun k => match k with
  | 0 => ("KindNets", "pad", "LKindNets$Pad;", true)
  | 1 => ("KindNets", "net", "LKindNets$Net;", true)
  | 2 => ("KindNets", "texts", "LKindNets$TextReader;", true)
  | 3 => ("KindNets", "standing", "LKindNets$Standing;", true)
  | 4 => ("KindNets", "joiner", "LKindNets$Joiner;", true)
  | 5 => ("KindNets", "values", "LKindNets$ValueReader;", true)
  | 6 => ("KindNets", "counts", "LKindNets$Counts;", true)
  | _ => ("KindNets", "leasts", "LKindNets$Leasts;", true)
def tyX8 : Nat → FieldType := fun k => match k with
  | 0 => .object "KindNets$Pad"
  | 1 => .object "KindNets$Net"
  | 2 => .object "KindNets$TextReader"
  | 3 => .object "KindNets$Standing"
  | 4 => .object "KindNets$Joiner"
  | 5 => .object "KindNets$ValueReader"
  | 6 => .object "KindNets$Counts"
  | _ => .object "KindNets$Leasts"
abbrev wsX80 : List Cond := u_ws RX8 TX8 8
theorem nmX8 : ∀ a, a < 8 → ∀ b, b < 8 → a ≠ b → (TX8 a).2.1 ≠ (TX8 b).2.1 := by decide +kernel
theorem tyX8_ok : ∀ k, k < 8 → parseFieldDescriptor (TX8 k).2.2.1 = some (tyX8 k) := by decide +kernel
abbrev cX8_init : ByteArray := prog_1_method_1_code
def yX8_init : MethodName := ⟨RX8, "<init>", "()V"⟩
abbrev cX8_say : ByteArray := prog_1_method_2_code
def yX8_say : MethodName := ⟨RX8, "say", "(I)I"⟩
abbrev cX8_wipe : ByteArray := prog_1_method_3_code
def yX8_wipe : MethodName := ⟨RX8, "wipe", "()I"⟩
abbrev cX8_fault : ByteArray := prog_1_method_4_code
def yX8_fault : MethodName := ⟨RX8, "fault", "()I"⟩
abbrev cX8_take : ByteArray := prog_1_method_5_code
def yX8_take : MethodName := ⟨RX8, "take", "()I"⟩
abbrev cX8_name : ByteArray := prog_1_method_6_code
def yX8_name : MethodName := ⟨RX8, "name", "(I)I"⟩
abbrev cX8_node : ByteArray := prog_1_method_7_code
def yX8_node : MethodName := ⟨RX8, "node", "(II)I"⟩
abbrev cX8_may : ByteArray := prog_1_method_8_code
def yX8_may : MethodName := ⟨RX8, "may", "(II)I"⟩
abbrev cX8_way : ByteArray := prog_1_method_9_code
def yX8_way : MethodName := ⟨RX8, "way", "(III)I"⟩
abbrev cX8_end : ByteArray := prog_1_method_10_code
def yX8_end : MethodName := ⟨RX8, "end", "(II)I"⟩
abbrev cX8_alike : ByteArray := prog_1_method_11_code
def yX8_alike : MethodName := ⟨RX8, "alike", "(II)I"⟩
abbrev cX8_pieces : ByteArray := prog_1_method_12_code
def yX8_pieces : MethodName := ⟨RX8, "pieces", "(I)I"⟩
abbrev cX8_join : ByteArray := prog_1_method_13_code
def yX8_join : MethodName := ⟨RX8, "join", "(III)I"⟩
abbrev cX8_slip : ByteArray := prog_1_method_14_code
def yX8_slip : MethodName := ⟨RX8, "slip", "()I"⟩
abbrev cX8_fits : ByteArray := prog_1_method_15_code
def yX8_fits : MethodName := ⟨RX8, "fits", "(I)I"⟩
abbrev cX8_size : ByteArray := prog_1_method_16_code
def yX8_size : MethodName := ⟨RX8, "size", "()I"⟩
abbrev cX8_count : ByteArray := prog_1_method_17_code
def yX8_count : MethodName := ⟨RX8, "count", "(II)I"⟩
abbrev cX8_least : ByteArray := prog_1_method_18_code
def yX8_least : MethodName := ⟨RX8, "least", "(I)I"⟩
abbrev cX8_told : ByteArray := prog_1_method_19_code
def yX8_told : MethodName := ⟨RX8, "told", "(I)I"⟩
def RX9 : String := "KindNetsModel"
def TX9 : u_T := fun k => match k with
  | 0 => ("KindNetsModel", "signs", "I", false)
  | 1 => ("KindNetsModel", "pad", "[I", true)
  | 2 => ("KindNetsModel", "nodes", "I", false)
  | 3 => ("KindNetsModel", "sign", "[I", true)
  | 4 => ("KindNetsModel", "part", "[I", true)
  | 5 => ("KindNetsModel", "named", "[I", true)
  | 6 => ("KindNetsModel", "read", "I", false)
  | 7 => ("KindNetsModel", "readSign", "[I", true)
  | 8 => ("KindNetsModel", "readPart", "[I", true)
  | 9 => ("KindNetsModel", "readName", "[I", true)
  | 10 => ("KindNetsModel", "deep", "I", false)
  | 11 => ("KindNetsModel", "open", "[I", true)
  | 12 => ("KindNetsModel", "need", "[I", true)
  | 13 => ("KindNetsModel", "last", "[I", true)
  | 14 => ("KindNetsModel", "owner", "I", false)
  | 15 => ("KindNetsModel", "isLaid", "Z", false)
  | 16 => ("KindNetsModel", "may", "[Z", true)
  | 17 => ("KindNetsModel", "down", "[I", true)
  | 18 => ("KindNetsModel", "endPair", "I", false)
  | 19 => ("KindNetsModel", "held", "[Z", true)
  | 20 => ("KindNetsModel", "made", "[I", true)
  | 21 => ("KindNetsModel", "waits", "I", false)
  | 22 => ("KindNetsModel", "waitFor", "[I", true)
  | 23 => ("KindNetsModel", "waitAt", "[I", true)
  | 24 => ("KindNetsModel", "values", "I", false)
  | 25 => ("KindNetsModel", "pile", "[I", true)
  | 26 => ("KindNetsModel", "pileLast", "[I", true)
  | 27 => ("KindNetsModel", "piled", "I", false)
  | 28 => ("KindNetsModel", "must", "[I", true)
  | 29 => ("KindNetsModel", "letters", "[I", true)
  | 30 => ("KindNetsModel", "count", "[J", true)
  | 31 => ("KindNetsModel", "row", "[J", true)
  | 32 => ("KindNetsModel", "other", "[J", true)
  | _ => ("KindNetsModel", "leastOf", "[I", true)
def tyX9 : Nat → FieldType := fun k => match k with
  | 0 => .int
  | 1 => .array .int
  | 2 => .int
  | 3 => .array .int
  | 4 => .array .int
  | 5 => .array .int
  | 6 => .int
  | 7 => .array .int
  | 8 => .array .int
  | 9 => .array .int
  | 10 => .int
  | 11 => .array .int
  | 12 => .array .int
  | 13 => .array .int
  | 14 => .int
  | 15 => .boolean
  | 16 => .array .boolean
  | 17 => .array .int
  | 18 => .int
  | 19 => .array .boolean
  | 20 => .array .int
  | 21 => .int
  | 22 => .array .int
  | 23 => .array .int
  | 24 => .int
  | 25 => .array .int
  | 26 => .array .int
  | 27 => .int
  | 28 => .array .int
  | 29 => .array .int
  | 30 => .array .long
  | 31 => .array .long
  | 32 => .array .long
  | _ => .array .int
abbrev wsX90 : List Cond := u_ws RX9 TX9 34
theorem nmX9 : ∀ a, a < 34 → ∀ b, b < 34 → a ≠ b → (TX9 a).2.1 ≠ (TX9 b).2.1 := by decide +kernel
theorem tyX9_ok : ∀ k, k < 34 → parseFieldDescriptor (TX9 k).2.2.1 = some (tyX9 k) := by decide +kernel
abbrev cX9_init : ByteArray := prog_11_method_1_code
def yX9_init : MethodName := ⟨RX9, "<init>", "()V"⟩
abbrev cX9_in : ByteArray := prog_11_method_2_code
def yX9_in : MethodName := ⟨RX9, "in", "(III)Z"⟩
abbrev cX9_say : ByteArray := prog_11_method_3_code
def yX9_say : MethodName := ⟨RX9, "say", "(I)I"⟩
abbrev cX9_wipe : ByteArray := prog_11_method_4_code
def yX9_wipe : MethodName := ⟨RX9, "wipe", "()I"⟩
abbrev cX9_come : ByteArray := prog_11_method_5_code
def yX9_come : MethodName := ⟨RX9, "come", "(I)V"⟩
abbrev cX9_settle : ByteArray := prog_11_method_6_code
def yX9_settle : MethodName := ⟨RX9, "settle", "()I"⟩
abbrev cX9_faultOf : ByteArray := prog_11_method_7_code
def yX9_faultOf : MethodName := ⟨RX9, "faultOf", "()I"⟩
abbrev cX9_fault : ByteArray := prog_11_method_8_code
def yX9_fault : MethodName := ⟨RX9, "fault", "()I"⟩
abbrev cX9_comesTo : ByteArray := prog_11_method_9_code
def yX9_comesTo : MethodName := ⟨RX9, "comesTo", "(I)I"⟩
abbrev cX9_take : ByteArray := prog_11_method_10_code
def yX9_take : MethodName := ⟨RX9, "take", "()I"⟩
abbrev cX9_name : ByteArray := prog_11_method_11_code
def yX9_name : MethodName := ⟨RX9, "name", "(I)I"⟩
abbrev cX9_isNode : ByteArray := prog_11_method_12_code
def yX9_isNode : MethodName := ⟨RX9, "isNode", "(I)Z"⟩
abbrev cX9_partsOf : ByteArray := prog_11_method_13_code
def yX9_partsOf : MethodName := ⟨RX9, "partsOf", "(I)I"⟩
abbrev cX9_node : ByteArray := prog_11_method_14_code
def yX9_node : MethodName := ⟨RX9, "node", "(II)I"⟩
abbrev cX9_isBoth : ByteArray := prog_11_method_15_code
def yX9_isBoth : MethodName := ⟨RX9, "isBoth", "(I)Z"⟩
abbrev cX9_fitsAlone : ByteArray := prog_11_method_16_code
def yX9_fitsAlone : MethodName := ⟨RX9, "fitsAlone", "(II)Z"⟩
abbrev cX9_stepTo : ByteArray := prog_11_method_17_code
def yX9_stepTo : MethodName := ⟨RX9, "stepTo", "(III)I"⟩
abbrev cX9_lay : ByteArray := prog_11_method_18_code
def yX9_lay : MethodName := ⟨RX9, "lay", "()V"⟩
abbrev cX9_areNodes : ByteArray := prog_11_method_19_code
def yX9_areNodes : MethodName := ⟨RX9, "areNodes", "(II)Z"⟩
abbrev cX9_may : ByteArray := prog_11_method_20_code
def yX9_may : MethodName := ⟨RX9, "may", "(II)I"⟩
abbrev cX9_follow : ByteArray := prog_11_method_21_code
def yX9_follow : MethodName := ⟨RX9, "follow", "(III)I"⟩
abbrev cX9_way : ByteArray := prog_11_method_22_code
def yX9_way : MethodName := ⟨RX9, "way", "(III)I"⟩
abbrev cX9_end : ByteArray := prog_11_method_23_code
def yX9_end : MethodName := ⟨RX9, "end", "(II)I"⟩
abbrev cX9_areAlike : ByteArray := prog_11_method_24_code
def yX9_areAlike : MethodName := ⟨RX9, "areAlike", "(II)Z"⟩
abbrev cX9_alike : ByteArray := prog_11_method_25_code
def yX9_alike : MethodName := ⟨RX9, "alike", "(II)I"⟩
abbrev cX9_pieces : ByteArray := prog_11_method_26_code
def yX9_pieces : MethodName := ⟨RX9, "pieces", "(I)I"⟩
abbrev cX9_plain : ByteArray := prog_11_method_27_code
def yX9_plain : MethodName := ⟨RX9, "plain", "(III)I"⟩
abbrev cX9_waitFor : ByteArray := prog_11_method_28_code
def yX9_waitFor : MethodName := ⟨RX9, "waitFor", "(IIII)V"⟩
abbrev cX9_shape : ByteArray := prog_11_method_29_code
def yX9_shape : MethodName := ⟨RX9, "shape", "(IIII)V"⟩
abbrev cX9_join : ByteArray := prog_11_method_30_code
def yX9_join : MethodName := ⟨RX9, "join", "(III)I"⟩
abbrev cX9_slipOf : ByteArray := prog_11_method_31_code
def yX9_slipOf : MethodName := ⟨RX9, "slipOf", "()I"⟩
abbrev cX9_slip : ByteArray := prog_11_method_32_code
def yX9_slip : MethodName := ⟨RX9, "slip", "()I"⟩
abbrev cX9_size : ByteArray := prog_11_method_33_code
def yX9_size : MethodName := ⟨RX9, "size", "()I"⟩
abbrev cX9_inner : ByteArray := prog_11_method_34_code
def yX9_inner : MethodName := ⟨RX9, "inner", "(I)I"⟩
abbrev cX9_fits : ByteArray := prog_11_method_35_code
def yX9_fits : MethodName := ⟨RX9, "fits", "(I)I"⟩
abbrev cX9_begin : ByteArray := prog_11_method_36_code
def yX9_begin : MethodName := ⟨RX9, "begin", "(II)V"⟩
abbrev cX9_held : ByteArray := prog_11_method_37_code
def yX9_held : MethodName := ⟨RX9, "held", "(J)J"⟩
abbrev cX9_recordCount : ByteArray := prog_11_method_38_code
def yX9_recordCount : MethodName := ⟨RX9, "recordCount", "(II)J"⟩
abbrev cX9_listCount : ByteArray := prog_11_method_39_code
def yX9_listCount : MethodName := ⟨RX9, "listCount", "(II)J"⟩
abbrev cX9_choiceCount : ByteArray := prog_11_method_40_code
def yX9_choiceCount : MethodName := ⟨RX9, "choiceCount", "(II)J"⟩
abbrev cX9_count : ByteArray := prog_11_method_41_code
def yX9_count : MethodName := ⟨RX9, "count", "(II)I"⟩
abbrev cX9_layLeast : ByteArray := prog_11_method_42_code
def yX9_layLeast : MethodName := ⟨RX9, "layLeast", "()V"⟩
abbrev cX9_least : ByteArray := prog_11_method_43_code
def yX9_least : MethodName := ⟨RX9, "least", "(I)I"⟩
abbrev cX9_told : ByteArray := prog_11_method_44_code
def yX9_told : MethodName := ⟨RX9, "told", "(I)I"⟩
def RJ6 : String := "java/lang/Integer"
def TJ6 : u_T := fun k => match k with
  | _ => ("", "", "", false)
def tyJ6 : Nat → FieldType := fun k => match k with
  | _ => .int
abbrev cJ6_bitCount_0f7a4 : ByteArray := prog_12_method_49_code
def yJ6_bitCount_0f7a4 : MethodName := ⟨RJ6, "bitCount", "(I)I"⟩
def RJ9 : String := "java/lang/Math"
def TJ9 : u_T := fun k => match k with
  | _ => ("", "", "", false)
def tyJ9 : Nat → FieldType := fun k => match k with
  | _ => .int
abbrev cJ9_max_7cf53 : ByteArray := prog_13_method_65_code
def yJ9_max_7cf53 : MethodName := ⟨RJ9, "max", "(II)I"⟩
abbrev cJ9_min_7cf53 : ByteArray := prog_13_method_69_code
def yJ9_min_7cf53 : MethodName := ⟨RJ9, "min", "(II)I"⟩
abbrev cJ9_min_f86c9 : ByteArray := prog_13_method_70_code
def yJ9_min_f86c9 : MethodName := ⟨RJ9, "min", "(JJ)J"⟩
def RJ7 : String := "java/util/Arrays"
def TJ7 : u_T := fun k => match k with
  | _ => ("", "", "", false)
def tyJ7 : Nat → FieldType := fun k => match k with
  | _ => .int
abbrev cJ7_fill_d0a16 : ByteArray := prog_14_method_101_code
def yJ7_fill_d0a16 : MethodName := ⟨RJ7, "fill", "([JJ)V"⟩
abbrev cJ7_fill_53178 : ByteArray := prog_14_method_103_code
def yJ7_fill_53178 : MethodName := ⟨RJ7, "fill", "([II)V"⟩
abbrev vwCl : List vw_C := [(RX0, TX0, 4), (RX1, TX1, 10), (RX2, TX2, 3), (RX3, TX3, 6), (RX4, TX4, 2), (RX5, TX5, 6), (RX6, TX6, 4), (RX7, TX7, 10), (RX8, TX8, 8), (RX9, TX9, 34)]
def lw_good : List Cond := lw_tbl.filter goodWord
theorem q_mem {x : Cond} (i : Nat) (h : lw_tbl[i]? = some x) (hg : goodWord x = true) : x ∈ lw_good := List.mem_filter.mpr ⟨List.mem_of_getElem? h, hg⟩
theorem q_good {ws : List Cond} (h : ∀ w ∈ ws, w ∈ lw_good) : GoodIn lw_good ws := fun w hw => ⟨h w hw, good_of_word (List.mem_filter.mp (h w hw)).2⟩
end
section
/-! the memory of the system, as numbers: int cells and long cells by object and place -/
abbrev QM : Type := (Nat → Nat → Int32) × (Nat → Nat → Int64)
def u_i (M : QM) (o k : Nat) (v : Int32) : QM := (fun a b => if a = o ∧ b = k then v else M.1 a b, M.2)
def u_l (M : QM) (o k : Nat) (v : Int64) : QM := (M.1, fun a b => if a = o ∧ b = k then v else M.2 a b)
/-- what an object is: an array (0 int, 1 long, 2 boolean) of a length, or an object of a class with its fields: another object, or an int -/
abbrev QS : Type := (Nat × Nat) ⊕ (Nat × List (Option Nat))
/-- where it lies: the classes' numbers, the addresses, the classes of int, long, boolean arrays -/
abbrev QW : Type := va_G × (Nat → Nat) × ClassId × ClassId × ClassId
def q_fv (w : QW) (M : QM) (o k : Nat) (f : Option Nat) : Value := match f with
  | none => .int (M.1 o k)
  | some r => .ref (w.2.1 r)
def q_cell (w : QW) (M : QM) (o : Nat) (h : QS) : va_E := match h with
  | .inl (0, n) => .inl (w.2.2.1, n, .inl (M.1 o))
  | .inl (1, n) => .inl (w.2.2.2.1, n, .inr (.inl (M.2 o)))
  | .inl (_ + 2, n) => .inl (w.2.2.2.2, n, .inl (M.1 o))
  | .inr (ci, fs) => .inr (ci, fs.mapIdx (q_fv w M o))
def q_wl (w : QW) (SH : List QS) (M : QM) : va_W := SH.mapIdx (fun o h => (w.2.1 o, q_cell w M o h))
def q_ty (w : QW) : List (ClassId × FieldType) := [(w.2.2.1, .int), (w.2.2.2.1, .long), (w.2.2.2.2, .boolean)]
def q_inj (w : QW) (SH : List QS) : Prop := ∀ i j, i < SH.length → j < SH.length → w.2.1 i = w.2.1 j → i = j
def q_A (w : QW) (SH : List QS) : Nat → Prop := fun q => ∃ o, o < SH.length ∧ q = w.2.1 o
theorem q_at {w : QW} {SH : List QS} {M : QM} {o : Nat} {x : QS} (h : SH[o]? = some x) : (q_wl w SH M)[o]? = some (w.2.1 o, q_cell w M o x) := by
  simp [q_wl, List.getElem?_mapIdx, h]
theorem q_of {w : QW} {SH : List QS} {M : QM} {o : Nat} {q : Nat × va_E} (h : (q_wl w SH M)[o]? = some q) : o < SH.length ∧ q.1 = w.2.1 o := by
  rw [q_wl, List.getElem?_mapIdx] at h
  cases hx : SH[o]? with
  | none => rw [hx] at h; cases h
  | some x =>
    rw [hx] at h
    have h1 := Option.some.inj h
    exact ⟨(List.getElem?_eq_some_iff.mp hx).1, by rw [← h1]⟩
theorem q_D {w : QW} {SH : List QS} {M : QM} (hi : q_inj w SH) : va_D (q_A w SH) (q_wl w SH M) := by
  refine ⟨fun i j p q hp hq hpq => ?_, fun k q hq => ?_⟩
  · obtain ⟨h1, h2⟩ := q_of hp
    obtain ⟨h3, h4⟩ := q_of hq
    exact hi i j h1 h3 (by rw [← h2, ← h4]; exact hpq)
  · obtain ⟨h1, h2⟩ := q_of hq
    exact ⟨k, h1, h2⟩
theorem q_set {w : QW} {SH : List QS} {M M' : QM} {o : Nat} {x : QS} {e : va_E} (hx : SH[o]? = some x) (he : q_cell w M' o x = e) (hne : ∀ (j : Nat) (h : QS), j ≠ o → q_cell w M' j h = q_cell w M j h) :
    (q_wl w SH M).set o (w.2.1 o, e) = q_wl w SH M' := by
  apply List.ext_getElem?
  intro j
  rw [List.getElem?_set]
  by_cases hj : o = j
  · subst hj
    have hlt : o < (q_wl w SH M).length := by
      simp only [q_wl, List.length_mapIdx]
      exact (List.getElem?_eq_some_iff.mp hx).1
    rw [if_pos rfl, if_pos hlt, q_at hx, he]
  · rw [if_neg hj]
    simp only [q_wl, List.getElem?_mapIdx]
    cases hq : SH[j]? with
    | none => rfl
    | some y => simp [hne j y (fun e => hj e.symm)]
theorem q_ne_i {w : QW} {M : QM} {o k : Nat} {v : Int32} (j : Nat) (h : QS) (hj : j ≠ o) : q_cell w (u_i M o k v) j h = q_cell w M j h := by
  have hf : (u_i M o k v).1 j = M.1 j := by funext b; simp [u_i, hj]
  rcases h with ⟨t, n⟩ | ⟨ci, fs⟩
  · rcases t with _ | _ | t <;> simp [q_cell, hf] <;> rfl
  · simp only [q_cell]
    congr 2
    have : q_fv w (u_i M o k v) j = q_fv w M j := by
      funext b f
      cases f <;> simp [q_fv, hf]
    rw [this]
theorem q_ne_l {w : QW} {M : QM} {o k : Nat} {v : Int64} (j : Nat) (h : QS) (hj : j ≠ o) : q_cell w (u_l M o k v) j h = q_cell w M j h := by
  have hf : (u_l M o k v).2 j = M.2 j := by funext b; simp [u_l, hj]
  rcases h with ⟨t, n⟩ | ⟨ci, fs⟩
  · rcases t with _ | _ | t <;> simp [q_cell, hf] <;> rfl
  · rfl
/-! the context of a walk: machine, launch, room, the method, the world, what the method must answer and leave -/
abbrev QC : Type := Program × Launch × Env × Room × State × MethodId × Array Value × List Frame × Method × Code × QW × List QS × Option Value × QM
def q_SH : QC → List QS := fun C => C.2.2.2.2.2.2.2.2.2.2.2.1
def q_r : QC → Option Value := fun C => C.2.2.2.2.2.2.2.2.2.2.2.2.1
def q_M : QC → QM := fun C => C.2.2.2.2.2.2.2.2.2.2.2.2.2
def q_cv (w : QW) (v : Value) : Value := match v with
  | .ref o => .ref (w.2.1 o)
  | v => v
def q_rm (d : Nat) : Room := { frames := d, cells := 0, slots := 0, locals := 40 * d }
def Qx (w : QW) (SH : List QS) (r : Option Value) (M : QM) : Array Value → State → Outcome → State → Prop := fun _ st oc t =>
  (oc = .returned r ∧ va_P w.1 vwCl (q_wl w SH M) t.heap ∧ va_K w.1 vwCl (q_ty w) t) ∧ va_F (q_A w SH) st t
def q_Pc (w : QW) (SH : List QS) (av : List Value) (M : QM) : Array Value → State → Prop := va_Pc (av.map (q_cv w)) (fun U => va_P w.1 vwCl (q_wl w SH M) U.heap ∧ va_K w.1 vwCl (q_ty w) U)
/-- a method's contract: with these arguments, in this memory, it answers r and leaves M' -/
def Cn (y : MethodName) (cc : ByteArray) (maxL : Nat) (ret : Option FieldType) (d : Nat) (SH : List QS) (av : List Value) (M : QM) (r : Option Value) (M' : QM) : Prop :=
  ∀ (l : Launch) (w : QW), q_inj w SH → Met l y (.code y cc maxL ret :: lw_good) (q_rm d) (q_Pc w SH av M) (Qx w SH r M') 0 0 (q_A w SH)
def q_L (w : QW) (L : List (Nat × Value)) : List (Nat × Value) := L.map (fun q => (q.1, q_cv w q.2))
def WX : QC → Nat → Nat → List (Nat × Value) → List Value → QM → Prop := fun (p, l, e, R, s, m, args, below, meth, c, w, SH, r, Mf) nL pc L st M =>
  ∀ (ls : Array Slot) (H : Heap) (locs : List Loc), lv_has ls nL (q_L w L) → va_P w.1 vwCl (q_wl w SH M) H → va_S (q_A w SH) s.heap H locs →
    W p l e R s m args below meth c H locs 0 0 (MQ below (Qx w SH r Mf) args s 0 0 (q_A w SH)) (F0 m pc ls (st.map (q_cv w)))
def OKX : QC → String → ByteArray → Nat → Nat → Option FieldType → Prop := fun (p, l, e, R, s, m, args, below, meth, c, w, SH, r, Mf) own cc nL d ret =>
  p.tables.exec = Jvm.exec ∧ c.code = cc ∧ c.maxLocals = nL ∧ s.vm.findClass own = some m.cls ∧ (∀ x ∈ lw_good, x.before args s = true) ∧ va_K w.1 vwCl (q_ty w) s ∧ q_inj w SH ∧ meth.locks = false ∧ meth.sig.returnType = ret ∧ R = q_rm d
theorem q_cat (w : QW) (v : Value) : (q_cv w v).category = v.category := by cases v <;> rfl
theorem q_args (w : QW) (av : List Value) : ∀ i, lv_args i (av.map (q_cv w)) = q_L w (lv_args i av) := by
  induction av with
  | nil => intro i; rfl
  | cons v t ih =>
    intro i
    show (i, q_cv w v) :: lv_args (if (q_cv w v).category = 2 then i + 2 else i + 1) (t.map (q_cv w)) = (i, q_cv w v) :: q_L w (lv_args (if v.category = 2 then i + 2 else i + 1) t)
    rw [q_cat, ih]
theorem q_len (w : QW) (av : List Value) : (lg_sl (av.map (q_cv w))).length = (lg_sl av).length := by
  induction av with
  | nil => rfl
  | cons v t ih =>
    simp only [lg_sl, List.map_cons, List.flatMap_cons, List.length_append] at ih ⊢
    rw [ih, q_cat]
    by_cases h : v.category = 2 <;> simp [h]
/-- a method's contract out of a walk of its body -/
theorem q_enter {y : MethodName} {cc : ByteArray} {maxL : Nat} {ret : Option FieldType} {d : Nat} {SH : List QS} {av : List Value} {M : QM} {r : Option Value} {M' : QM} (hy : plainName y.cls = true) (hn : (lg_sl av).length ≤ maxL) {L : List (Nat × Value)} (hL : lv_args 0 av = L)
    (h : ∀ C : QC, OKX C y.cls cc maxL d ret → q_SH C = SH → q_r C = r → q_M C = M' → WX C maxL 0 L [] M) : Cn y cc maxL ret d SH av M r M' := by
  intro l w hi
  refine Met.ofW (cc := cc) (maxL := maxL) (ret := ret) hy rfl ?_
  intro p e s m args below meth c s₁ B hml hv
  obtain ⟨rfl, hP, hK⟩ := hv
  have hts := atoms_spec (ws := .code y cc maxL ret :: lw_good) B.pre
  have hw := h (p, l, e, q_rm d, s, m, (av.map (q_cv w)).toArray, below, meth, c, w, SH, r, M')
    ⟨B.exec, B.bytes, hml, findClass_of_methodNamed B.named, fun x hx => hts x (List.mem_cons_of_mem _ hx), hK, hi, B.notSynchronized, B.returns, rfl⟩ rfl rfl rfl
  rw [lg_entry_eq]
  have hl := lv_entry (av.map (q_cv w)) (n := maxL) (by rw [q_len]; exact hn)
  rw [q_args, hL] at hl
  exact hw _ s.heap [] hl hP va_S.rf
theorem q_lat {w : QW} {ls : Array Slot} {nL : Nat} {L : List (Nat × Value)} (h : lv_has ls nL (q_L w L)) (k : Nat) {i : Nat} {v : Value} (hk : L[k]? = some (i, v)) : ls[i]? = some (.val (q_cv w v)) :=
  lv_at h k (by simp [q_L, List.getElem?_map, hk])
theorem q_fl1 (w : QW) (L : List (Nat × Value)) (i : Nat) : (q_L w L).filter (fun q => !(q.1 == i) && !(q.1 + 1 == i && q.2.category == 2)) = q_L w (L.filter (fun q => !(q.1 == i) && !(q.1 + 1 == i && q.2.category == 2))) := by
  unfold q_L
  rw [List.filter_map]
  congr 1
  congr 1
  funext q
  simp [q_cat]
theorem q_fl2 (w : QW) (L : List (Nat × Value)) (i : Nat) : (q_L w L).filter (fun q => !(q.1 == i) && (!(q.1 == i + 1) && !(q.1 + 1 == i && q.2.category == 2))) = q_L w (L.filter (fun q => !(q.1 == i) && (!(q.1 == i + 1) && !(q.1 + 1 == i && q.2.category == 2)))) := by
  unfold q_L
  rw [List.filter_map]
  congr 1
  congr 1
  funext q
  simp [q_cat]
end
section
theorem x_iconst {C : QC} {own : String} {cc : ByteArray} {nL d : Nat} {ret : Option FieldType} (hc : OKX C own cc nL d ret) {pc : Nat} {L : List (Nat × Value)} {st : List Value} {M : QM} {n : Int} {v : Int32} (hd : decode cc pc = .ok (.iconst n, 1)) (hv : Int32.ofInt n = v) (k : WX C nL (pc + 1) L (.int v :: st) M) : WX C nL pc L (st) M := by
  obtain ⟨p, l, e, R, s, m, args, below, meth, c, w, SH, r, Mf⟩ := C
  intro ls H locs hl hP hS
  exact lv_iconst hc.1 hc.2.1 hd hv (k ls H locs hl hP hS)

theorem x_bipush {C : QC} {own : String} {cc : ByteArray} {nL d : Nat} {ret : Option FieldType} (hc : OKX C own cc nL d ret) {pc : Nat} {L : List (Nat × Value)} {st : List Value} {M : QM} {n : Int} {v : Int32} (hd : decode cc pc = .ok (.bipush n, 2)) (hv : (Int8.ofInt n).toInt32 = v) (k : WX C nL (pc + 2) L (.int v :: st) M) : WX C nL pc L (st) M := by
  obtain ⟨p, l, e, R, s, m, args, below, meth, c, w, SH, r, Mf⟩ := C
  intro ls H locs hl hP hS
  exact lv_bipush hc.1 hc.2.1 hd hv (k ls H locs hl hP hS)

theorem x_sipush {C : QC} {own : String} {cc : ByteArray} {nL d : Nat} {ret : Option FieldType} (hc : OKX C own cc nL d ret) {pc : Nat} {L : List (Nat × Value)} {st : List Value} {M : QM} {n : Int} {v : Int32} (hd : decode cc pc = .ok (.sipush n, 3)) (hv : (Int16.ofInt n).toInt32 = v) (k : WX C nL (pc + 3) L (.int v :: st) M) : WX C nL pc L (st) M := by
  obtain ⟨p, l, e, R, s, m, args, below, meth, c, w, SH, r, Mf⟩ := C
  intro ls H locs hl hP hS
  exact lv_sipush hc.1 hc.2.1 hd hv (k ls H locs hl hP hS)

theorem x_lconst {C : QC} {own : String} {cc : ByteArray} {nL d : Nat} {ret : Option FieldType} (hc : OKX C own cc nL d ret) {pc : Nat} {L : List (Nat × Value)} {st : List Value} {M : QM} {n : Fin 2} {v : Int64} (hd : decode cc pc = .ok (.lconst n, 1)) (hv : Int64.ofNat (n : Nat) = v) (k : WX C nL (pc + 1) L (.long v :: st) M) : WX C nL pc L (st) M := by
  obtain ⟨p, l, e, R, s, m, args, below, meth, c, w, SH, r, Mf⟩ := C
  intro ls H locs hl hP hS
  exact lv_lconst hc.1 hc.2.1 hd hv (k ls H locs hl hP hS)

theorem x_ldc {C : QC} {own : String} {cc : ByteArray} {nL d : Nat} {ret : Option FieldType} (hc : OKX C own cc nL d ret) {pc : Nat} {L : List (Nat × Value)} {st : List Value} {M : QM} {n : Nat} {v : Int32} (hd : decode cc pc = .ok (.ldc n, 2)) (hv : Cond.constant own n v ∈ lw_good) (k : WX C nL (pc + 2) L (.int v :: st) M) : WX C nL pc L (st) M := by
  obtain ⟨p, l, e, R, s, m, args, below, meth, c, w, SH, r, Mf⟩ := C
  intro ls H locs hl hP hS
  exact lv_ldc hc.1 hc.2.1 hc.2.2.2.1 (hc.2.2.2.2.1 _ hv) hd (k ls H locs hl hP hS)

theorem x_ldc2 {C : QC} {own : String} {cc : ByteArray} {nL d : Nat} {ret : Option FieldType} (hc : OKX C own cc nL d ret) {pc : Nat} {L : List (Nat × Value)} {st : List Value} {M : QM} {n : Nat} {v : Int64} (hd : decode cc pc = .ok (.ldc2_w n, 3)) (hv : Cond.constantLong own n v ∈ lw_good) (k : WX C nL (pc + 3) L (.long v :: st) M) : WX C nL pc L (st) M := by
  obtain ⟨p, l, e, R, s, m, args, below, meth, c, w, SH, r, Mf⟩ := C
  intro ls H locs hl hP hS
  exact lv_ldc2 hc.1 hc.2.1 hc.2.2.2.1 (hc.2.2.2.2.1 _ hv) hd (k ls H locs hl hP hS)

theorem x_iload_n {C : QC} {own : String} {cc : ByteArray} {nL d : Nat} {ret : Option FieldType} (hc : OKX C own cc nL d ret) {pc : Nat} {L : List (Nat × Value)} {st : List Value} {M : QM} {j : Fin 4} {i : Nat} {x : Int32} (hd : decode cc pc = .ok (.iload_n j, 1)) (hi : (j : Nat) = i) (q : Nat) (hk : L[q]? = some (i, .int x)) (k : WX C nL (pc + 1) L (.int x :: st) M) : WX C nL pc L (st) M := by
  obtain ⟨p, l, e, R, s, m, args, below, meth, c, w, SH, r, Mf⟩ := C
  intro ls H locs hl hP hS
  exact lv_iload_n hc.1 hc.2.1 hd hi (q_lat hl q hk) (k ls H locs hl hP hS)

theorem x_iload {C : QC} {own : String} {cc : ByteArray} {nL d : Nat} {ret : Option FieldType} (hc : OKX C own cc nL d ret) {pc : Nat} {L : List (Nat × Value)} {st : List Value} {M : QM} {i : Nat} {x : Int32} (hd : decode cc pc = .ok (.iload i, 2)) (q : Nat) (hk : L[q]? = some (i, .int x)) (k : WX C nL (pc + 2) L (.int x :: st) M) : WX C nL pc L (st) M := by
  obtain ⟨p, l, e, R, s, m, args, below, meth, c, w, SH, r, Mf⟩ := C
  intro ls H locs hl hP hS
  exact lv_iload hc.1 hc.2.1 hd (q_lat hl q hk) (k ls H locs hl hP hS)

theorem x_lload_n {C : QC} {own : String} {cc : ByteArray} {nL d : Nat} {ret : Option FieldType} (hc : OKX C own cc nL d ret) {pc : Nat} {L : List (Nat × Value)} {st : List Value} {M : QM} {j : Fin 4} {i : Nat} {x : Int64} (hd : decode cc pc = .ok (.lload_n j, 1)) (hi : (j : Nat) = i) (q : Nat) (hk : L[q]? = some (i, .long x)) (k : WX C nL (pc + 1) L (.long x :: st) M) : WX C nL pc L (st) M := by
  obtain ⟨p, l, e, R, s, m, args, below, meth, c, w, SH, r, Mf⟩ := C
  intro ls H locs hl hP hS
  exact lv_lload_n hc.1 hc.2.1 hd hi (q_lat hl q hk) (k ls H locs hl hP hS)

theorem x_lload {C : QC} {own : String} {cc : ByteArray} {nL d : Nat} {ret : Option FieldType} (hc : OKX C own cc nL d ret) {pc : Nat} {L : List (Nat × Value)} {st : List Value} {M : QM} {i : Nat} {x : Int64} (hd : decode cc pc = .ok (.lload i, 2)) (q : Nat) (hk : L[q]? = some (i, .long x)) (k : WX C nL (pc + 2) L (.long x :: st) M) : WX C nL pc L (st) M := by
  obtain ⟨p, l, e, R, s, m, args, below, meth, c, w, SH, r, Mf⟩ := C
  intro ls H locs hl hP hS
  exact lv_lload hc.1 hc.2.1 hd (q_lat hl q hk) (k ls H locs hl hP hS)

theorem x_aload_n {C : QC} {own : String} {cc : ByteArray} {nL d : Nat} {ret : Option FieldType} (hc : OKX C own cc nL d ret) {pc : Nat} {L : List (Nat × Value)} {st : List Value} {M : QM} {j : Fin 4} {i : Nat} {x : Nat} (hd : decode cc pc = .ok (.aload_n j, 1)) (hi : (j : Nat) = i) (q : Nat) (hk : L[q]? = some (i, .ref x)) (k : WX C nL (pc + 1) L (.ref x :: st) M) : WX C nL pc L (st) M := by
  obtain ⟨p, l, e, R, s, m, args, below, meth, c, w, SH, r, Mf⟩ := C
  intro ls H locs hl hP hS
  exact lv_aload_n hc.1 hc.2.1 hd hi (q_lat hl q hk) (k ls H locs hl hP hS)

theorem x_aload {C : QC} {own : String} {cc : ByteArray} {nL d : Nat} {ret : Option FieldType} (hc : OKX C own cc nL d ret) {pc : Nat} {L : List (Nat × Value)} {st : List Value} {M : QM} {i : Nat} {x : Nat} (hd : decode cc pc = .ok (.aload i, 2)) (q : Nat) (hk : L[q]? = some (i, .ref x)) (k : WX C nL (pc + 2) L (.ref x :: st) M) : WX C nL pc L (st) M := by
  obtain ⟨p, l, e, R, s, m, args, below, meth, c, w, SH, r, Mf⟩ := C
  intro ls H locs hl hP hS
  exact lv_aload hc.1 hc.2.1 hd (q_lat hl q hk) (k ls H locs hl hP hS)

theorem x_istore_n {C : QC} {own : String} {cc : ByteArray} {nL d : Nat} {ret : Option FieldType} (hc : OKX C own cc nL d ret) {pc : Nat} {L : List (Nat × Value)} {st : List Value} {M : QM} {j : Fin 4} {i : Nat} {x : Int32} {L2 : List (Nat × Value)} (hd : decode cc pc = .ok (.istore_n j, 1)) (hi : (j : Nat) = i) (hn : i < nL) (hL : (i, Value.int x) :: L.filter (fun q => !(q.1 == i) && !(q.1 + 1 == i && q.2.category == 2)) = L2) (k : WX C nL (pc + 1) L2 st M) : WX C nL pc L (.int x :: st) M := by
  obtain ⟨p, l, e, R, s, m, args, below, meth, c, w, SH, r, Mf⟩ := C
  intro ls H locs hl hP hS
  subst hL
  exact lv_istore_n hc.1 hc.2.1 hd hi hl hn (by rw [q_fl1]; rfl) (fun ls2 hl2 => k ls2 H locs hl2 hP hS)

theorem x_istore {C : QC} {own : String} {cc : ByteArray} {nL d : Nat} {ret : Option FieldType} (hc : OKX C own cc nL d ret) {pc : Nat} {L : List (Nat × Value)} {st : List Value} {M : QM} {i : Nat} {x : Int32} {L2 : List (Nat × Value)} (hd : decode cc pc = .ok (.istore i, 2)) (hn : i < nL) (hL : (i, Value.int x) :: L.filter (fun q => !(q.1 == i) && !(q.1 + 1 == i && q.2.category == 2)) = L2) (k : WX C nL (pc + 2) L2 st M) : WX C nL pc L (.int x :: st) M := by
  obtain ⟨p, l, e, R, s, m, args, below, meth, c, w, SH, r, Mf⟩ := C
  intro ls H locs hl hP hS
  subst hL
  exact lv_istore hc.1 hc.2.1 hd hl hn (by rw [q_fl1]; rfl) (fun ls2 hl2 => k ls2 H locs hl2 hP hS)

theorem x_lstore_n {C : QC} {own : String} {cc : ByteArray} {nL d : Nat} {ret : Option FieldType} (hc : OKX C own cc nL d ret) {pc : Nat} {L : List (Nat × Value)} {st : List Value} {M : QM} {j : Fin 4} {i : Nat} {x : Int64} {L2 : List (Nat × Value)} (hd : decode cc pc = .ok (.lstore_n j, 1)) (hi : (j : Nat) = i) (hn : i + 1 < nL) (hL : (i, Value.long x) :: L.filter (fun q => !(q.1 == i) && (!(q.1 == i + 1) && !(q.1 + 1 == i && q.2.category == 2))) = L2) (k : WX C nL (pc + 1) L2 st M) : WX C nL pc L (.long x :: st) M := by
  obtain ⟨p, l, e, R, s, m, args, below, meth, c, w, SH, r, Mf⟩ := C
  intro ls H locs hl hP hS
  subst hL
  exact lv_lstore_n hc.1 hc.2.1 hd hi hl hn (by rw [q_fl2]; rfl) (fun ls2 hl2 => k ls2 H locs hl2 hP hS)

theorem x_lstore {C : QC} {own : String} {cc : ByteArray} {nL d : Nat} {ret : Option FieldType} (hc : OKX C own cc nL d ret) {pc : Nat} {L : List (Nat × Value)} {st : List Value} {M : QM} {i : Nat} {x : Int64} {L2 : List (Nat × Value)} (hd : decode cc pc = .ok (.lstore i, 2)) (hn : i + 1 < nL) (hL : (i, Value.long x) :: L.filter (fun q => !(q.1 == i) && (!(q.1 == i + 1) && !(q.1 + 1 == i && q.2.category == 2))) = L2) (k : WX C nL (pc + 2) L2 st M) : WX C nL pc L (.long x :: st) M := by
  obtain ⟨p, l, e, R, s, m, args, below, meth, c, w, SH, r, Mf⟩ := C
  intro ls H locs hl hP hS
  subst hL
  exact lv_lstore hc.1 hc.2.1 hd hl hn (by rw [q_fl2]; rfl) (fun ls2 hl2 => k ls2 H locs hl2 hP hS)

theorem x_iinc {C : QC} {own : String} {cc : ByteArray} {nL d : Nat} {ret : Option FieldType} (hc : OKX C own cc nL d ret) {pc : Nat} {L : List (Nat × Value)} {st : List Value} {M : QM} {i : Nat} {n : Int} {x v : Int32} {L2 : List (Nat × Value)} (hd : decode cc pc = .ok (.iinc i n, 3)) (q : Nat) (hk : L[q]? = some (i, .int x)) (hv : x + Int32.ofInt n = v) (hn : i < nL) (hL : (i, Value.int v) :: L.filter (fun q => !(q.1 == i) && !(q.1 + 1 == i && q.2.category == 2)) = L2) (k : WX C nL (pc + 3) L2 st M) : WX C nL pc L st M := by
  obtain ⟨p, l, e, R, s, m, args, below, meth, c, w, SH, r, Mf⟩ := C
  intro ls H locs hl hP hS
  subst hL
  exact lv_iinc (k := q) hc.1 hc.2.1 hd hl (by simp [q_L, List.getElem?_map, hk, q_cv]) hv hn (by rw [q_fl1]; rfl) (fun ls2 hl2 => k ls2 H locs hl2 hP hS)

theorem x_iadd {C : QC} {own : String} {cc : ByteArray} {nL d : Nat} {ret : Option FieldType} (hc : OKX C own cc nL d ret) {pc : Nat} {L : List (Nat × Value)} {st : List Value} {M : QM} {x y : Int32} (hd : decode cc pc = .ok (.iadd, 1)) (k : WX C nL (pc + 1) L (.int (x + y) :: st) M) : WX C nL pc L (.int y :: .int x :: st) M := by
  obtain ⟨p, l, e, R, s, m, args, below, meth, c, w, SH, r, Mf⟩ := C
  intro ls H locs hl hP hS
  exact lv_iadd hc.1 hc.2.1 hd (k ls H locs hl hP hS)

theorem x_isub {C : QC} {own : String} {cc : ByteArray} {nL d : Nat} {ret : Option FieldType} (hc : OKX C own cc nL d ret) {pc : Nat} {L : List (Nat × Value)} {st : List Value} {M : QM} {x y : Int32} (hd : decode cc pc = .ok (.isub, 1)) (k : WX C nL (pc + 1) L (.int (x - y) :: st) M) : WX C nL pc L (.int y :: .int x :: st) M := by
  obtain ⟨p, l, e, R, s, m, args, below, meth, c, w, SH, r, Mf⟩ := C
  intro ls H locs hl hP hS
  exact lv_isub hc.1 hc.2.1 hd (k ls H locs hl hP hS)

theorem x_imul {C : QC} {own : String} {cc : ByteArray} {nL d : Nat} {ret : Option FieldType} (hc : OKX C own cc nL d ret) {pc : Nat} {L : List (Nat × Value)} {st : List Value} {M : QM} {x y : Int32} (hd : decode cc pc = .ok (.imul, 1)) (k : WX C nL (pc + 1) L (.int (x * y) :: st) M) : WX C nL pc L (.int y :: .int x :: st) M := by
  obtain ⟨p, l, e, R, s, m, args, below, meth, c, w, SH, r, Mf⟩ := C
  intro ls H locs hl hP hS
  exact lv_imul hc.1 hc.2.1 hd (k ls H locs hl hP hS)

theorem x_iand {C : QC} {own : String} {cc : ByteArray} {nL d : Nat} {ret : Option FieldType} (hc : OKX C own cc nL d ret) {pc : Nat} {L : List (Nat × Value)} {st : List Value} {M : QM} {x y : Int32} (hd : decode cc pc = .ok (.iand, 1)) (k : WX C nL (pc + 1) L (.int (x &&& y) :: st) M) : WX C nL pc L (.int y :: .int x :: st) M := by
  obtain ⟨p, l, e, R, s, m, args, below, meth, c, w, SH, r, Mf⟩ := C
  intro ls H locs hl hP hS
  exact lv_iand hc.1 hc.2.1 hd (k ls H locs hl hP hS)

theorem x_ior {C : QC} {own : String} {cc : ByteArray} {nL d : Nat} {ret : Option FieldType} (hc : OKX C own cc nL d ret) {pc : Nat} {L : List (Nat × Value)} {st : List Value} {M : QM} {x y : Int32} (hd : decode cc pc = .ok (.ior, 1)) (k : WX C nL (pc + 1) L (.int (x ||| y) :: st) M) : WX C nL pc L (.int y :: .int x :: st) M := by
  obtain ⟨p, l, e, R, s, m, args, below, meth, c, w, SH, r, Mf⟩ := C
  intro ls H locs hl hP hS
  exact lv_ior hc.1 hc.2.1 hd (k ls H locs hl hP hS)

theorem x_ixor {C : QC} {own : String} {cc : ByteArray} {nL d : Nat} {ret : Option FieldType} (hc : OKX C own cc nL d ret) {pc : Nat} {L : List (Nat × Value)} {st : List Value} {M : QM} {x y : Int32} (hd : decode cc pc = .ok (.ixor, 1)) (k : WX C nL (pc + 1) L (.int (x ^^^ y) :: st) M) : WX C nL pc L (.int y :: .int x :: st) M := by
  obtain ⟨p, l, e, R, s, m, args, below, meth, c, w, SH, r, Mf⟩ := C
  intro ls H locs hl hP hS
  exact lv_ixor hc.1 hc.2.1 hd (k ls H locs hl hP hS)

theorem x_ishl {C : QC} {own : String} {cc : ByteArray} {nL d : Nat} {ret : Option FieldType} (hc : OKX C own cc nL d ret) {pc : Nat} {L : List (Nat × Value)} {st : List Value} {M : QM} {x y : Int32} (hd : decode cc pc = .ok (.ishl, 1)) (k : WX C nL (pc + 1) L (.int (x <<< (y &&& 31)) :: st) M) : WX C nL pc L (.int y :: .int x :: st) M := by
  obtain ⟨p, l, e, R, s, m, args, below, meth, c, w, SH, r, Mf⟩ := C
  intro ls H locs hl hP hS
  exact lv_ishl hc.1 hc.2.1 hd (k ls H locs hl hP hS)

theorem x_ishr {C : QC} {own : String} {cc : ByteArray} {nL d : Nat} {ret : Option FieldType} (hc : OKX C own cc nL d ret) {pc : Nat} {L : List (Nat × Value)} {st : List Value} {M : QM} {x y : Int32} (hd : decode cc pc = .ok (.ishr, 1)) (k : WX C nL (pc + 1) L (.int (x >>> (y &&& 31)) :: st) M) : WX C nL pc L (.int y :: .int x :: st) M := by
  obtain ⟨p, l, e, R, s, m, args, below, meth, c, w, SH, r, Mf⟩ := C
  intro ls H locs hl hP hS
  exact lv_ishr hc.1 hc.2.1 hd (k ls H locs hl hP hS)

theorem x_iushr {C : QC} {own : String} {cc : ByteArray} {nL d : Nat} {ret : Option FieldType} (hc : OKX C own cc nL d ret) {pc : Nat} {L : List (Nat × Value)} {st : List Value} {M : QM} {x y : Int32} (hd : decode cc pc = .ok (.iushr, 1)) (k : WX C nL (pc + 1) L (.int ((x.toUInt32 >>> (y.toUInt32 &&& Int32.toUInt32 31)).toInt32) :: st) M) : WX C nL pc L (.int y :: .int x :: st) M := by
  obtain ⟨p, l, e, R, s, m, args, below, meth, c, w, SH, r, Mf⟩ := C
  intro ls H locs hl hP hS
  exact lv_iushr hc.1 hc.2.1 hd rfl (k ls H locs hl hP hS)

theorem x_idiv {C : QC} {own : String} {cc : ByteArray} {nL d : Nat} {ret : Option FieldType} (hc : OKX C own cc nL d ret) {pc : Nat} {L : List (Nat × Value)} {st : List Value} {M : QM} {x y : Int32} (hd : decode cc pc = .ok (.idiv, 1)) (hne : ¬ y = 0) (k : WX C nL (pc + 1) L (.int (x / y) :: st) M) : WX C nL pc L (.int y :: .int x :: st) M := by
  obtain ⟨p, l, e, R, s, m, args, below, meth, c, w, SH, r, Mf⟩ := C
  intro ls H locs hl hP hS
  exact lv_idiv hc.1 hc.2.1 hd hne (k ls H locs hl hP hS)

theorem x_irem {C : QC} {own : String} {cc : ByteArray} {nL d : Nat} {ret : Option FieldType} (hc : OKX C own cc nL d ret) {pc : Nat} {L : List (Nat × Value)} {st : List Value} {M : QM} {x y : Int32} (hd : decode cc pc = .ok (.irem, 1)) (hne : ¬ y = 0) (k : WX C nL (pc + 1) L (.int (x - x / y * y) :: st) M) : WX C nL pc L (.int y :: .int x :: st) M := by
  obtain ⟨p, l, e, R, s, m, args, below, meth, c, w, SH, r, Mf⟩ := C
  intro ls H locs hl hP hS
  exact lv_irem hc.1 hc.2.1 hd hne (k ls H locs hl hP hS)

theorem x_ladd {C : QC} {own : String} {cc : ByteArray} {nL d : Nat} {ret : Option FieldType} (hc : OKX C own cc nL d ret) {pc : Nat} {L : List (Nat × Value)} {st : List Value} {M : QM} {x y : Int64} (hd : decode cc pc = .ok (.ladd, 1)) (k : WX C nL (pc + 1) L (.long (x + y) :: st) M) : WX C nL pc L (.long y :: .long x :: st) M := by
  obtain ⟨p, l, e, R, s, m, args, below, meth, c, w, SH, r, Mf⟩ := C
  intro ls H locs hl hP hS
  exact lv_ladd hc.1 hc.2.1 hd (k ls H locs hl hP hS)

theorem x_lmul {C : QC} {own : String} {cc : ByteArray} {nL d : Nat} {ret : Option FieldType} (hc : OKX C own cc nL d ret) {pc : Nat} {L : List (Nat × Value)} {st : List Value} {M : QM} {x y : Int64} (hd : decode cc pc = .ok (.lmul, 1)) (k : WX C nL (pc + 1) L (.long (x * y) :: st) M) : WX C nL pc L (.long y :: .long x :: st) M := by
  obtain ⟨p, l, e, R, s, m, args, below, meth, c, w, SH, r, Mf⟩ := C
  intro ls H locs hl hP hS
  exact lv_lmul hc.1 hc.2.1 hd (k ls H locs hl hP hS)

theorem x_lcmp {C : QC} {own : String} {cc : ByteArray} {nL d : Nat} {ret : Option FieldType} (hc : OKX C own cc nL d ret) {pc : Nat} {L : List (Nat × Value)} {st : List Value} {M : QM} {x y : Int64} (hd : decode cc pc = .ok (.lcmp, 1)) (k : WX C nL (pc + 1) L (.int (lg_cmp x y) :: st) M) : WX C nL pc L (.long y :: .long x :: st) M := by
  obtain ⟨p, l, e, R, s, m, args, below, meth, c, w, SH, r, Mf⟩ := C
  intro ls H locs hl hP hS
  exact W.lcmp hc.1 hc.2.1 hd (k ls H locs hl hP hS)

theorem x_l2i {C : QC} {own : String} {cc : ByteArray} {nL d : Nat} {ret : Option FieldType} (hc : OKX C own cc nL d ret) {pc : Nat} {L : List (Nat × Value)} {st : List Value} {M : QM} {x : Int64} (hd : decode cc pc = .ok (.l2i, 1)) (k : WX C nL (pc + 1) L (.int x.toInt32 :: st) M) : WX C nL pc L (.long x :: st) M := by
  obtain ⟨p, l, e, R, s, m, args, below, meth, c, w, SH, r, Mf⟩ := C
  intro ls H locs hl hP hS
  exact lv_l2i hc.1 hc.2.1 hd rfl (k ls H locs hl hP hS)

theorem x_dup {C : QC} {own : String} {cc : ByteArray} {nL d : Nat} {ret : Option FieldType} (hc : OKX C own cc nL d ret) {pc : Nat} {L : List (Nat × Value)} {st : List Value} {M : QM} {x : Value} (hd : decode cc pc = .ok (.dup, 1)) (hx : x.category = 1) (k : WX C nL (pc + 1) L (x :: x :: st) M) : WX C nL pc L (x :: st) M := by
  obtain ⟨p, l, e, R, s, m, args, below, meth, c, w, SH, r, Mf⟩ := C
  intro ls H locs hl hP hS
  exact lv_dup hc.1 hc.2.1 hd (by rw [q_cat]; exact hx) (k ls H locs hl hP hS)

theorem x_pop {C : QC} {own : String} {cc : ByteArray} {nL d : Nat} {ret : Option FieldType} (hc : OKX C own cc nL d ret) {pc : Nat} {L : List (Nat × Value)} {st : List Value} {M : QM} {x : Value} (hd : decode cc pc = .ok (.pop, 1)) (hx : x.category = 1) (k : WX C nL (pc + 1) L (st) M) : WX C nL pc L (x :: st) M := by
  obtain ⟨p, l, e, R, s, m, args, below, meth, c, w, SH, r, Mf⟩ := C
  intro ls H locs hl hP hS
  exact lv_pop hc.1 hc.2.1 hd (by rw [q_cat]; exact hx) (k ls H locs hl hP hS)

theorem x_dup2 {C : QC} {own : String} {cc : ByteArray} {nL d : Nat} {ret : Option FieldType} (hc : OKX C own cc nL d ret) {pc : Nat} {L : List (Nat × Value)} {st : List Value} {M : QM} {x y : Value} (hd : decode cc pc = .ok (.dup2, 1)) (hx : x.category = 1) (hy : y.category = 1) (k : WX C nL (pc + 1) L (x :: y :: x :: y :: st) M) : WX C nL pc L (x :: y :: st) M := by
  obtain ⟨p, l, e, R, s, m, args, below, meth, c, w, SH, r, Mf⟩ := C
  intro ls H locs hl hP hS
  exact lv_dup2_11 hc.1 hc.2.1 hd (by rw [q_cat]; exact hx) (by rw [q_cat]; exact hy) (k ls H locs hl hP hS)

theorem x_if_eq {C : QC} {own : String} {cc : ByteArray} {nL d : Nat} {ret : Option FieldType} (hc : OKX C own cc nL d ret) {pc : Nat} {L : List (Nat × Value)} {st : List Value} {M : QM} {x : Int32} {off : Int} {tgt : Nat} (hd : decode cc pc = .ok (.ifCond .eq off, 3)) (ht : (pc : Int) + off = (tgt : Int)) (kt : x = 0 → WX C nL tgt L st M) (kf : ¬ x = 0 → WX C nL (pc + 3) L st M) : WX C nL pc L (.int x :: st) M := by
  obtain ⟨p, l, e, R, s, m, args, below, meth, c, w, SH, r, Mf⟩ := C
  intro ls H locs hl hP hS
  exact lv_if_eq hc.1 hc.2.1 hd ht (fun h => kt h ls H locs hl hP hS) (fun h => kf h ls H locs hl hP hS)

theorem x_icmp_eq {C : QC} {own : String} {cc : ByteArray} {nL d : Nat} {ret : Option FieldType} (hc : OKX C own cc nL d ret) {pc : Nat} {L : List (Nat × Value)} {st : List Value} {M : QM} {x y : Int32} {off : Int} {tgt : Nat} (hd : decode cc pc = .ok (.if_icmp .eq off, 3)) (ht : (pc : Int) + off = (tgt : Int)) (kt : x = y → WX C nL tgt L st M) (kf : ¬ x = y → WX C nL (pc + 3) L st M) : WX C nL pc L (.int y :: .int x :: st) M := by
  obtain ⟨p, l, e, R, s, m, args, below, meth, c, w, SH, r, Mf⟩ := C
  intro ls H locs hl hP hS
  exact lv_icmp_eq hc.1 hc.2.1 hd ht (fun h => kt h ls H locs hl hP hS) (fun h => kf h ls H locs hl hP hS)

theorem x_if_ne {C : QC} {own : String} {cc : ByteArray} {nL d : Nat} {ret : Option FieldType} (hc : OKX C own cc nL d ret) {pc : Nat} {L : List (Nat × Value)} {st : List Value} {M : QM} {x : Int32} {off : Int} {tgt : Nat} (hd : decode cc pc = .ok (.ifCond .ne off, 3)) (ht : (pc : Int) + off = (tgt : Int)) (kt : ¬ x = 0 → WX C nL tgt L st M) (kf : x = 0 → WX C nL (pc + 3) L st M) : WX C nL pc L (.int x :: st) M := by
  obtain ⟨p, l, e, R, s, m, args, below, meth, c, w, SH, r, Mf⟩ := C
  intro ls H locs hl hP hS
  exact lv_if_ne hc.1 hc.2.1 hd ht (fun h => kt h ls H locs hl hP hS) (fun h => kf h ls H locs hl hP hS)

theorem x_icmp_ne {C : QC} {own : String} {cc : ByteArray} {nL d : Nat} {ret : Option FieldType} (hc : OKX C own cc nL d ret) {pc : Nat} {L : List (Nat × Value)} {st : List Value} {M : QM} {x y : Int32} {off : Int} {tgt : Nat} (hd : decode cc pc = .ok (.if_icmp .ne off, 3)) (ht : (pc : Int) + off = (tgt : Int)) (kt : ¬ x = y → WX C nL tgt L st M) (kf : x = y → WX C nL (pc + 3) L st M) : WX C nL pc L (.int y :: .int x :: st) M := by
  obtain ⟨p, l, e, R, s, m, args, below, meth, c, w, SH, r, Mf⟩ := C
  intro ls H locs hl hP hS
  exact lv_icmp_ne hc.1 hc.2.1 hd ht (fun h => kt h ls H locs hl hP hS) (fun h => kf h ls H locs hl hP hS)

theorem x_if_lt {C : QC} {own : String} {cc : ByteArray} {nL d : Nat} {ret : Option FieldType} (hc : OKX C own cc nL d ret) {pc : Nat} {L : List (Nat × Value)} {st : List Value} {M : QM} {x : Int32} {off : Int} {tgt : Nat} (hd : decode cc pc = .ok (.ifCond .lt off, 3)) (ht : (pc : Int) + off = (tgt : Int)) (kt : x < 0 → WX C nL tgt L st M) (kf : ¬ x < 0 → WX C nL (pc + 3) L st M) : WX C nL pc L (.int x :: st) M := by
  obtain ⟨p, l, e, R, s, m, args, below, meth, c, w, SH, r, Mf⟩ := C
  intro ls H locs hl hP hS
  exact lv_if_lt hc.1 hc.2.1 hd ht (fun h => kt h ls H locs hl hP hS) (fun h => kf h ls H locs hl hP hS)

theorem x_icmp_lt {C : QC} {own : String} {cc : ByteArray} {nL d : Nat} {ret : Option FieldType} (hc : OKX C own cc nL d ret) {pc : Nat} {L : List (Nat × Value)} {st : List Value} {M : QM} {x y : Int32} {off : Int} {tgt : Nat} (hd : decode cc pc = .ok (.if_icmp .lt off, 3)) (ht : (pc : Int) + off = (tgt : Int)) (kt : x < y → WX C nL tgt L st M) (kf : ¬ x < y → WX C nL (pc + 3) L st M) : WX C nL pc L (.int y :: .int x :: st) M := by
  obtain ⟨p, l, e, R, s, m, args, below, meth, c, w, SH, r, Mf⟩ := C
  intro ls H locs hl hP hS
  exact lv_icmp_lt hc.1 hc.2.1 hd ht (fun h => kt h ls H locs hl hP hS) (fun h => kf h ls H locs hl hP hS)

theorem x_if_ge {C : QC} {own : String} {cc : ByteArray} {nL d : Nat} {ret : Option FieldType} (hc : OKX C own cc nL d ret) {pc : Nat} {L : List (Nat × Value)} {st : List Value} {M : QM} {x : Int32} {off : Int} {tgt : Nat} (hd : decode cc pc = .ok (.ifCond .ge off, 3)) (ht : (pc : Int) + off = (tgt : Int)) (kt : 0 ≤ x → WX C nL tgt L st M) (kf : ¬ 0 ≤ x → WX C nL (pc + 3) L st M) : WX C nL pc L (.int x :: st) M := by
  obtain ⟨p, l, e, R, s, m, args, below, meth, c, w, SH, r, Mf⟩ := C
  intro ls H locs hl hP hS
  exact lv_if_ge hc.1 hc.2.1 hd ht (fun h => kt h ls H locs hl hP hS) (fun h => kf h ls H locs hl hP hS)

theorem x_icmp_ge {C : QC} {own : String} {cc : ByteArray} {nL d : Nat} {ret : Option FieldType} (hc : OKX C own cc nL d ret) {pc : Nat} {L : List (Nat × Value)} {st : List Value} {M : QM} {x y : Int32} {off : Int} {tgt : Nat} (hd : decode cc pc = .ok (.if_icmp .ge off, 3)) (ht : (pc : Int) + off = (tgt : Int)) (kt : y ≤ x → WX C nL tgt L st M) (kf : ¬ y ≤ x → WX C nL (pc + 3) L st M) : WX C nL pc L (.int y :: .int x :: st) M := by
  obtain ⟨p, l, e, R, s, m, args, below, meth, c, w, SH, r, Mf⟩ := C
  intro ls H locs hl hP hS
  exact lv_icmp_ge hc.1 hc.2.1 hd ht (fun h => kt h ls H locs hl hP hS) (fun h => kf h ls H locs hl hP hS)

theorem x_if_gt {C : QC} {own : String} {cc : ByteArray} {nL d : Nat} {ret : Option FieldType} (hc : OKX C own cc nL d ret) {pc : Nat} {L : List (Nat × Value)} {st : List Value} {M : QM} {x : Int32} {off : Int} {tgt : Nat} (hd : decode cc pc = .ok (.ifCond .gt off, 3)) (ht : (pc : Int) + off = (tgt : Int)) (kt : 0 < x → WX C nL tgt L st M) (kf : ¬ 0 < x → WX C nL (pc + 3) L st M) : WX C nL pc L (.int x :: st) M := by
  obtain ⟨p, l, e, R, s, m, args, below, meth, c, w, SH, r, Mf⟩ := C
  intro ls H locs hl hP hS
  exact lv_if_gt hc.1 hc.2.1 hd ht (fun h => kt h ls H locs hl hP hS) (fun h => kf h ls H locs hl hP hS)

theorem x_icmp_gt {C : QC} {own : String} {cc : ByteArray} {nL d : Nat} {ret : Option FieldType} (hc : OKX C own cc nL d ret) {pc : Nat} {L : List (Nat × Value)} {st : List Value} {M : QM} {x y : Int32} {off : Int} {tgt : Nat} (hd : decode cc pc = .ok (.if_icmp .gt off, 3)) (ht : (pc : Int) + off = (tgt : Int)) (kt : y < x → WX C nL tgt L st M) (kf : ¬ y < x → WX C nL (pc + 3) L st M) : WX C nL pc L (.int y :: .int x :: st) M := by
  obtain ⟨p, l, e, R, s, m, args, below, meth, c, w, SH, r, Mf⟩ := C
  intro ls H locs hl hP hS
  exact lv_icmp_gt hc.1 hc.2.1 hd ht (fun h => kt h ls H locs hl hP hS) (fun h => kf h ls H locs hl hP hS)

theorem x_if_le {C : QC} {own : String} {cc : ByteArray} {nL d : Nat} {ret : Option FieldType} (hc : OKX C own cc nL d ret) {pc : Nat} {L : List (Nat × Value)} {st : List Value} {M : QM} {x : Int32} {off : Int} {tgt : Nat} (hd : decode cc pc = .ok (.ifCond .le off, 3)) (ht : (pc : Int) + off = (tgt : Int)) (kt : x ≤ 0 → WX C nL tgt L st M) (kf : ¬ x ≤ 0 → WX C nL (pc + 3) L st M) : WX C nL pc L (.int x :: st) M := by
  obtain ⟨p, l, e, R, s, m, args, below, meth, c, w, SH, r, Mf⟩ := C
  intro ls H locs hl hP hS
  exact lv_if_le hc.1 hc.2.1 hd ht (fun h => kt h ls H locs hl hP hS) (fun h => kf h ls H locs hl hP hS)

theorem x_icmp_le {C : QC} {own : String} {cc : ByteArray} {nL d : Nat} {ret : Option FieldType} (hc : OKX C own cc nL d ret) {pc : Nat} {L : List (Nat × Value)} {st : List Value} {M : QM} {x y : Int32} {off : Int} {tgt : Nat} (hd : decode cc pc = .ok (.if_icmp .le off, 3)) (ht : (pc : Int) + off = (tgt : Int)) (kt : x ≤ y → WX C nL tgt L st M) (kf : ¬ x ≤ y → WX C nL (pc + 3) L st M) : WX C nL pc L (.int y :: .int x :: st) M := by
  obtain ⟨p, l, e, R, s, m, args, below, meth, c, w, SH, r, Mf⟩ := C
  intro ls H locs hl hP hS
  exact lv_icmp_le hc.1 hc.2.1 hd ht (fun h => kt h ls H locs hl hP hS) (fun h => kf h ls H locs hl hP hS)

theorem x_goto {C : QC} {own : String} {cc : ByteArray} {nL d : Nat} {ret : Option FieldType} (hc : OKX C own cc nL d ret) {pc : Nat} {L : List (Nat × Value)} {st : List Value} {M : QM} {off : Int} {tgt : Nat} (hd : decode cc pc = .ok (.goto off, 3)) (ht : (pc : Int) + off = (tgt : Int)) (k : WX C nL tgt L st M) : WX C nL pc L st M := by
  obtain ⟨p, l, e, R, s, m, args, below, meth, c, w, SH, r, Mf⟩ := C
  intro ls H locs hl hP hS
  exact lv_goto hc.1 hc.2.1 hd ht (k ls H locs hl hP hS)

theorem x_lookup {C : QC} {own : String} {cc : ByteArray} {nL d : Nat} {ret : Option FieldType} (hc : OKX C own cc nL d ret) {pc : Nat} {L : List (Nat × Value)} {st : List Value} {M : QM} {x : Int32} {dflt : Int} {ps : Array (Int × Int)} {len : Nat} {off : Int} {tgt : Nat} (hd : decode cc pc = .ok (.lookupswitch dflt ps, len)) (hp : (ps.toList.zip (ps.toList.drop 1)).all (fun (a, next) => a.1 < next.1) = true) (ho : Op.lookupswitch.offset ps.toList dflt x.toInt = off) (ht : (pc : Int) + off = (tgt : Int)) (k : WX C nL tgt L st M) : WX C nL pc L (.int x :: st) M := by
  obtain ⟨p, l, e, R, s, m, args, below, meth, c, w, SH, r, Mf⟩ := C
  intro ls H locs hl hP hS
  exact lv_lookup hc.1 hc.2.1 hd hp ho ht (k ls H locs hl hP hS)

theorem x_tableOut {C : QC} {own : String} {cc : ByteArray} {nL d : Nat} {ret : Option FieldType} (hc : OKX C own cc nL d ret) {pc : Nat} {L : List (Nat × Value)} {st : List Value} {M : QM} {x : Int32} {dflt lo hi : Int} {offs : Array Int} {len : Nat} {tgt : Nat} (hd : decode cc pc = .ok (.tableswitch dflt lo hi offs, len)) (h : x.toInt < lo ∨ hi < x.toInt) (ht : (pc : Int) + dflt = (tgt : Int)) (k : WX C nL tgt L st M) : WX C nL pc L (.int x :: st) M := by
  obtain ⟨p, l, e, R, s, m, args, below, meth, c, w, SH, r, Mf⟩ := C
  intro ls H locs hl hP hS
  exact lv_tableOut hc.1 hc.2.1 hd h ht (k ls H locs hl hP hS)

theorem x_tableIn {C : QC} {own : String} {cc : ByteArray} {nL d : Nat} {ret : Option FieldType} (hc : OKX C own cc nL d ret) {pc : Nat} {L : List (Nat × Value)} {st : List Value} {M : QM} {x : Int32} {dflt lo hi : Int} {offs : Array Int} {len : Nat} {off : Int} {tgt : Nat} (hd : decode cc pc = .ok (.tableswitch dflt lo hi offs, len)) (h1 : ¬ x.toInt < lo) (h2 : ¬ hi < x.toInt) (ho : offs[(x.toInt - lo).toNat]? = some off) (ht : (pc : Int) + off = (tgt : Int)) (k : WX C nL tgt L st M) : WX C nL pc L (.int x :: st) M := by
  obtain ⟨p, l, e, R, s, m, args, below, meth, c, w, SH, r, Mf⟩ := C
  intro ls H locs hl hP hS
  exact lv_tableIn hc.1 hc.2.1 hd h1 h2 ho ht (k ls H locs hl hP hS)

/-- a field's link: in the class own, the pool's number idx is the field k of the class number ci -/
def FL (own : String) (idx ci k : Nat) : Prop := ∃ q : vw_C, vwCl[ci]? = some q ∧ k < q.2.2 ∧ Cond.fieldLink own idx (q.2.1 k).1 (q.2.1 k).2.1 (q.2.1 k).2.2.1 ∈ lw_good
def q_clOK (q : vw_C) : Prop := (∀ w ∈ u_ws q.1 q.2.1 q.2.2, w ∈ lw_good) ∧ (∃ ty0 : Nat → FieldType, ∀ k, k < q.2.2 → parseFieldDescriptor (q.2.1 k).2.2.1 = some (ty0 k)) ∧ (∀ a, a < q.2.2 → ∀ b, b < q.2.2 → a ≠ b → (q.2.1 a).2.1 ≠ (q.2.1 b).2.1)
theorem q_lay {C : String} {T : u_T} {N : Nat} (h : (u_ws C T N).all (fun w => decide (w ∈ lw_tbl) && goodWord w) = true) : ∀ w ∈ u_ws C T N, w ∈ lw_good := by
  intro w hw
  have h1 := List.all_eq_true.mp h w hw
  simp only [Bool.and_eq_true, decide_eq_true_eq] at h1
  exact List.mem_filter.mpr ⟨h1.1, h1.2⟩

theorem q_cl0 : q_clOK (RX0, TX0, 4) := ⟨q_lay (by decide +kernel), ⟨tyX0, tyX0_ok⟩, nmX0⟩

theorem q_cl1 : q_clOK (RX1, TX1, 10) := ⟨q_lay (by decide +kernel), ⟨tyX1, tyX1_ok⟩, nmX1⟩

theorem q_cl2 : q_clOK (RX2, TX2, 3) := ⟨q_lay (by decide +kernel), ⟨tyX2, tyX2_ok⟩, nmX2⟩

theorem q_cl3 : q_clOK (RX3, TX3, 6) := ⟨q_lay (by decide +kernel), ⟨tyX3, tyX3_ok⟩, nmX3⟩

theorem q_cl4 : q_clOK (RX4, TX4, 2) := ⟨q_lay (by decide +kernel), ⟨tyX4, tyX4_ok⟩, nmX4⟩

theorem q_cl5 : q_clOK (RX5, TX5, 6) := ⟨q_lay (by decide +kernel), ⟨tyX5, tyX5_ok⟩, nmX5⟩

theorem q_cl6 : q_clOK (RX6, TX6, 4) := ⟨q_lay (by decide +kernel), ⟨tyX6, tyX6_ok⟩, nmX6⟩

theorem q_cl7 : q_clOK (RX7, TX7, 10) := ⟨q_lay (by decide +kernel), ⟨tyX7, tyX7_ok⟩, nmX7⟩

theorem q_cl8 : q_clOK (RX8, TX8, 8) := ⟨q_lay (by decide +kernel), ⟨tyX8, tyX8_ok⟩, nmX8⟩

theorem q_cl9 : q_clOK (RX9, TX9, 34) := ⟨q_lay (by decide +kernel), ⟨tyX9, tyX9_ok⟩, nmX9⟩

theorem q_cl {ci : Nat} {q : vw_C} (h : vwCl[ci]? = some q) : q_clOK q := by
  rcases ci with _ | _ | _ | _ | _ | _ | _ | _ | _ | _ | ci
  · exact (Option.some.inj h) ▸ q_cl0
  · exact (Option.some.inj h) ▸ q_cl1
  · exact (Option.some.inj h) ▸ q_cl2
  · exact (Option.some.inj h) ▸ q_cl3
  · exact (Option.some.inj h) ▸ q_cl4
  · exact (Option.some.inj h) ▸ q_cl5
  · exact (Option.some.inj h) ▸ q_cl6
  · exact (Option.some.inj h) ▸ q_cl7
  · exact (Option.some.inj h) ▸ q_cl8
  · exact (Option.some.inj h) ▸ q_cl9
  · cases h

theorem x_getI {C : QC} {own : String} {cc : ByteArray} {nL d : Nat} {ret : Option FieldType} (hc : OKX C own cc nL d ret) {pc : Nat} {L : List (Nat × Value)} {st : List Value} {M : QM} {idx ci k o : Nat} {fs : List (Option Nat)} (hd : decode cc pc = .ok (.getfield idx, 3)) (hf : FL own idx ci k) (ho : (q_SH C)[o]? = some (.inr (ci, fs))) (hk : fs[k]? = some none) (kk : WX C nL (pc + 3) L (.int (M.1 o k) :: st) M) : WX C nL pc L (.ref o :: st) M := by
  obtain ⟨p, l, e, R, s, m, args, below, meth, c, w, SH, r, Mf⟩ := C
  intro ls H locs hl hP hS
  obtain ⟨q, hq, hkn, hlink⟩ := hf
  refine va_get hc.1 hc.2.1 hc.2.2.2.2.1 (q_cl hq).1 hc.2.2.2.1 hc.2.2.2.2.2.1 hP o (q_at ho) hq k hkn (hc.2.2.2.2.1 _ hlink) (fun _ h9 => h9) (v := .int (M.1 o k)) ?_ hd (kk ls H locs hl hP hS)
  simp [List.getElem?_mapIdx, hk, q_fv]

theorem x_getR {C : QC} {own : String} {cc : ByteArray} {nL d : Nat} {ret : Option FieldType} (hc : OKX C own cc nL d ret) {pc : Nat} {L : List (Nat × Value)} {st : List Value} {M : QM} {idx ci k o o2 : Nat} {fs : List (Option Nat)} (hd : decode cc pc = .ok (.getfield idx, 3)) (hf : FL own idx ci k) (ho : (q_SH C)[o]? = some (.inr (ci, fs))) (hk : fs[k]? = some (some o2)) (kk : WX C nL (pc + 3) L (.ref o2 :: st) M) : WX C nL pc L (.ref o :: st) M := by
  obtain ⟨p, l, e, R, s, m, args, below, meth, c, w, SH, r, Mf⟩ := C
  intro ls H locs hl hP hS
  obtain ⟨q, hq, hkn, hlink⟩ := hf
  refine va_get hc.1 hc.2.1 hc.2.2.2.2.1 (q_cl hq).1 hc.2.2.2.1 hc.2.2.2.2.2.1 hP o (q_at ho) hq k hkn (hc.2.2.2.2.1 _ hlink) (fun _ h9 => h9) (v := .ref (w.2.1 o2)) ?_ hd (kk ls H locs hl hP hS)
  simp [List.getElem?_mapIdx, hk, q_fv]

/-- a field that may be written: not final, of type int, or boolean with 0 or 1 -/
def FW (ci k : Nat) (v : Int32) : Prop := ∃ (q : vw_C) (ty : FieldType), vwCl[ci]? = some q ∧ (q.2.1 k).2.2.2 = false ∧ parseFieldDescriptor (q.2.1 k).2.2.1 = some ty ∧ narrow ty (.int v) = .int v ∧ fits ty (.int v) = true
theorem x_putI {C : QC} {own : String} {cc : ByteArray} {nL d : Nat} {ret : Option FieldType} (hc : OKX C own cc nL d ret) {pc : Nat} {L : List (Nat × Value)} {st : List Value} {M : QM} {idx ci k o : Nat} {v : Int32} {fs : List (Option Nat)} (hd : decode cc pc = .ok (.putfield idx, 3)) (hf : FL own idx ci k) (hw : FW ci k v) (ho : (q_SH C)[o]? = some (.inr (ci, fs))) (hk : fs[k]? = some none) (kk : WX C nL (pc + 3) L st (u_i M o k v)) : WX C nL pc L (.int v :: .ref o :: st) M := by
  obtain ⟨p, l, e, R, s, m, args, below, meth, c, w, SH, r, Mf⟩ := C
  intro ls H locs hl hP hS
  obtain ⟨q, hq, hkn, hlink⟩ := hf
  obtain ⟨q', ty, hq', hfin, hty, hnar, hfit⟩ := hw
  have hqq : q' = q := Option.some.inj (hq'.symm.trans hq)
  subst hqq
  obtain ⟨hlay, ⟨ty0, hty0⟩, hnm⟩ := q_cl hq
  have hlt : k < fs.length := (List.getElem?_eq_some_iff.mp hk).1
  have ho : SH[o]? = some (.inr (ci, fs)) := ho
  refine va_put (ty := ty) hc.1 hc.2.1 hc.2.2.2.2.1 hlay ty0 hty0 hnm hc.2.2.2.1 hc.2.2.2.2.2.1 hP (q_D hc.2.2.2.2.2.2.1) hS o (q_at ho) hq k hkn (hc.2.2.2.2.1 _ hlink) (fun _ h9 => h9) hfin hty hnar hfit (by simpa using hlt) hd (fun H1 locs1 hP1 _ hS1 => ?_)
  rw [q_set (M' := u_i M o k v) ho ?_ q_ne_i] at hP1
  · exact kk ls H1 locs1 hl hP1 hS1
  · simp only [q_cell]
    congr 2
    apply List.ext_getElem?
    intro j
    rw [List.getElem?_set]
    by_cases hj : k = j
    · subst hj
      simp only [List.getElem?_mapIdx, hk, Option.map_some, q_fv, u_i, List.length_mapIdx, hlt, if_true, and_self]
      rfl
    · have hj2 : ¬ j = k := fun e => hj e.symm
      simp only [if_neg hj, List.getElem?_mapIdx]
      cases fs[j]? with
      | none => rfl
      | some f => cases f <;> simp [q_fv, u_i, hj2]


theorem x_iald {C : QC} {own : String} {cc : ByteArray} {nL d : Nat} {ret : Option FieldType} (hc : OKX C own cc nL d ret) {pc : Nat} {L : List (Nat × Value)} {st : List Value} {M : QM} {o n : Nat} {i : Int32} (hd : decode cc pc = .ok (.iaload, 1)) (ho : (q_SH C)[o]? = some (.inl (0, n))) (hi : vp_in i n) (kk : WX C nL (pc + 1) L (.int (M.1 o i.toNatClampNeg) :: st) M) : WX C nL pc L (.int i :: .ref o :: st) M := by
  obtain ⟨p, l, e, R, s, m, args, below, meth, c, w, SH, r, Mf⟩ := C
  intro ls H locs hl hP hS
  exact va_iald hc.1 hc.2.1 hc.2.2.2.2.2.1 hP o 0 (q_at ho) rfl hi hd (kk ls H locs hl hP hS)


theorem x_lald {C : QC} {own : String} {cc : ByteArray} {nL d : Nat} {ret : Option FieldType} (hc : OKX C own cc nL d ret) {pc : Nat} {L : List (Nat × Value)} {st : List Value} {M : QM} {o n : Nat} {i : Int32} (hd : decode cc pc = .ok (.laload, 1)) (ho : (q_SH C)[o]? = some (.inl (1, n))) (hi : vp_in i n) (kk : WX C nL (pc + 1) L (.long (M.2 o i.toNatClampNeg) :: st) M) : WX C nL pc L (.int i :: .ref o :: st) M := by
  obtain ⟨p, l, e, R, s, m, args, below, meth, c, w, SH, r, Mf⟩ := C
  intro ls H locs hl hP hS
  exact va_lald hc.1 hc.2.1 hc.2.2.2.2.2.1 hP o 1 (q_at ho) rfl hi hd (kk ls H locs hl hP hS)


theorem x_zald {C : QC} {own : String} {cc : ByteArray} {nL d : Nat} {ret : Option FieldType} (hc : OKX C own cc nL d ret) {pc : Nat} {L : List (Nat × Value)} {st : List Value} {M : QM} {o n : Nat} {i : Int32} (hd : decode cc pc = .ok (.baload, 1)) (ho : (q_SH C)[o]? = some (.inl (2, n))) (hi : vp_in i n) (kk : WX C nL (pc + 1) L (.int (M.1 o i.toNatClampNeg) :: st) M) : WX C nL pc L (.int i :: .ref o :: st) M := by
  obtain ⟨p, l, e, R, s, m, args, below, meth, c, w, SH, r, Mf⟩ := C
  intro ls H locs hl hP hS
  exact va_zald hc.1 hc.2.1 hc.2.2.2.2.2.1 hP o 2 (q_at ho) rfl hi hd (kk ls H locs hl hP hS)


theorem x_iast {C : QC} {own : String} {cc : ByteArray} {nL d : Nat} {ret : Option FieldType} (hc : OKX C own cc nL d ret) {pc : Nat} {L : List (Nat × Value)} {st : List Value} {M : QM} {o n : Nat} {i : Int32} {v : Int32} (hd : decode cc pc = .ok (.iastore, 1)) (ho : (q_SH C)[o]? = some (.inl (0, n))) (hi : vp_in i n)  (kk : WX C nL (pc + 1) L st (u_i M o i.toNatClampNeg v)) : WX C nL pc L (.int v :: .int i :: .ref o :: st) M := by
  obtain ⟨p, l, e, R, s, m, args, below, meth, c, w, SH, r, Mf⟩ := C
  intro ls H locs hl hP hS
  have ho : SH[o]? = some (.inl (0, n)) := ho
  refine va_iast hc.1 hc.2.1 hc.2.2.2.2.2.1 hP (q_D hc.2.2.2.2.2.2.1) hS o 0 (q_at ho) rfl hi hd (fun H1 locs1 hP1 _ hS1 => ?_)
  rw [q_set (M' := u_i M o i.toNatClampNeg v) ho ?_ q_ne_i] at hP1
  · exact kk ls H1 locs1 hl hP1 hS1
  · simp only [q_cell]
    congr 4
    funext b
    simp [u_i, upd]


theorem x_last {C : QC} {own : String} {cc : ByteArray} {nL d : Nat} {ret : Option FieldType} (hc : OKX C own cc nL d ret) {pc : Nat} {L : List (Nat × Value)} {st : List Value} {M : QM} {o n : Nat} {i : Int32} {v : Int64} (hd : decode cc pc = .ok (.lastore, 1)) (ho : (q_SH C)[o]? = some (.inl (1, n))) (hi : vp_in i n)  (kk : WX C nL (pc + 1) L st (u_l M o i.toNatClampNeg v)) : WX C nL pc L (.long v :: .int i :: .ref o :: st) M := by
  obtain ⟨p, l, e, R, s, m, args, below, meth, c, w, SH, r, Mf⟩ := C
  intro ls H locs hl hP hS
  have ho : SH[o]? = some (.inl (1, n)) := ho
  refine va_last hc.1 hc.2.1 hc.2.2.2.2.2.1 hP (q_D hc.2.2.2.2.2.2.1) hS o 1 (q_at ho) rfl hi hd (fun H1 locs1 hP1 _ hS1 => ?_)
  rw [q_set (M' := u_l M o i.toNatClampNeg v) ho ?_ q_ne_l] at hP1
  · exact kk ls H1 locs1 hl hP1 hS1
  · simp only [q_cell]
    congr 5
    funext b
    simp [u_l, vp_updL]


theorem x_zast {C : QC} {own : String} {cc : ByteArray} {nL d : Nat} {ret : Option FieldType} (hc : OKX C own cc nL d ret) {pc : Nat} {L : List (Nat × Value)} {st : List Value} {M : QM} {o n : Nat} {i : Int32} {v : Int32} (hd : decode cc pc = .ok (.bastore, 1)) (ho : (q_SH C)[o]? = some (.inl (2, n))) (hi : vp_in i n) (hv : vp_nar .boolean v = v) (kk : WX C nL (pc + 1) L st (u_i M o i.toNatClampNeg v)) : WX C nL pc L (.int v :: .int i :: .ref o :: st) M := by
  obtain ⟨p, l, e, R, s, m, args, below, meth, c, w, SH, r, Mf⟩ := C
  intro ls H locs hl hP hS
  have ho : SH[o]? = some (.inl (2, n)) := ho
  refine va_zast hc.1 hc.2.1 hc.2.2.2.2.2.1 hP (q_D hc.2.2.2.2.2.2.1) hS o 2 (q_at ho) rfl hi hd (fun H1 locs1 hP1 _ hS1 => ?_)
  rw [q_set (M' := u_i M o i.toNatClampNeg v) ho ?_ q_ne_i] at hP1
  · exact kk ls H1 locs1 hl hP1 hS1
  · simp only [q_cell]
    congr 4
    funext b
    simp [u_i, upd, hv]


theorem x_alen {C : QC} {own : String} {cc : ByteArray} {nL d : Nat} {ret : Option FieldType} (hc : OKX C own cc nL d ret) {pc : Nat} {L : List (Nat × Value)} {st : List Value} {M : QM} {o n : Nat} (hd : decode cc pc = .ok (.arraylength, 1)) (ho : (q_SH C)[o]? = some (.inl (0, n))) (kk : WX C nL (pc + 1) L (.int n.toInt32 :: st) M) : WX C nL pc L (.ref o :: st) M := by
  obtain ⟨p, l, e, R, s, m, args, below, meth, c, w, SH, r, Mf⟩ := C
  intro ls H locs hl hP hS
  exact va_alen hc.1 hc.2.1 hc.2.2.2.2.2.1 hP o 0 (q_at ho) rfl rfl hd (kk ls H locs hl hP hS)

theorem x_alenL {C : QC} {own : String} {cc : ByteArray} {nL d : Nat} {ret : Option FieldType} (hc : OKX C own cc nL d ret) {pc : Nat} {L : List (Nat × Value)} {st : List Value} {M : QM} {o n : Nat} (hd : decode cc pc = .ok (.arraylength, 1)) (ho : (q_SH C)[o]? = some (.inl (1, n))) (kk : WX C nL (pc + 1) L (.int n.toInt32 :: st) M) : WX C nL pc L (.ref o :: st) M := by
  obtain ⟨p, l, e, R, s, m, args, below, meth, c, w, SH, r, Mf⟩ := C
  intro ls H locs hl hP hS
  exact va_alen hc.1 hc.2.1 hc.2.2.2.2.2.1 hP o 1 (q_at ho) rfl rfl hd (kk ls H locs hl hP hS)


theorem q_ret {p : Program} {l : Launch} {e : Env} {R : Room} {s : State} {m : MethodId} {args : Array Value} {below : List Frame} {meth : Method} {c : Code} {w : QW} {SH : List QS} {M : QM} {H : Heap} {locs : List Loc} {r : Option Value} (hK : va_K w.1 vwCl (q_ty w) s) (hP : va_P w.1 vwCl (q_wl w SH M) H) (hS : va_S (q_A w SH) s.heap H locs) (t : State) (ht : t.heap = H) (hW : s.WarmedH t.vm) : Qx w SH r M args s (.returned r) t :=
  ⟨⟨rfl, by rw [ht]; exact hP, va_K.moved hW.alike hK⟩, hS.F ht⟩

theorem x_iret {C : QC} {own : String} {cc : ByteArray} {nL d : Nat} (hc : OKX C own cc nL d (some .int)) {pc : Nat} {L : List (Nat × Value)} {M : QM} {v : Int32} (hd : decode cc pc = .ok (.ireturn, 1)) (hr : q_r C = some (.int v)) (hM : q_M C = M) : WX C nL pc L [.int v] M := by
  obtain ⟨p, l, e, R, s, m, args, below, meth, c, w, SH, r, Mf⟩ := C
  intro ls H locs hl hP hS
  have hr : r = some (.int v) := hr
  have hM : Mf = M := hM
  subst hr; subst hM
  exact W.iret hc.1 hc.2.1 hc.2.2.2.2.2.2.2.2.1 (q_ret (p := p) (l := l) (e := e) (R := R) (m := m) (args := args) (below := below) (meth := meth) (c := c) hc.2.2.2.2.2.1 hP hS) hS.2.2 hd hc.2.2.2.2.2.2.2.1

theorem x_zret {C : QC} {own : String} {cc : ByteArray} {nL d : Nat} (hc : OKX C own cc nL d (some .boolean)) {pc : Nat} {L : List (Nat × Value)} {M : QM} {v : Int32} (hd : decode cc pc = .ok (.ireturn, 1)) (hv : vp_nar .boolean v = v) (hr : q_r C = some (.int v)) (hM : q_M C = M) : WX C nL pc L [.int v] M := by
  obtain ⟨p, l, e, R, s, m, args, below, meth, c, w, SH, r, Mf⟩ := C
  intro ls H locs hl hP hS
  have hr : r = some (.int v) := hr
  have hM : Mf = M := hM
  subst hr; subst hM
  exact W.zret hc.1 hc.2.1 hc.2.2.2.2.2.2.2.2.1 (congrArg Value.int hv) (q_ret (p := p) (l := l) (e := e) (R := R) (m := m) (args := args) (below := below) (meth := meth) (c := c) hc.2.2.2.2.2.1 hP hS) hS.2.2 hd hc.2.2.2.2.2.2.2.1

theorem x_lret {C : QC} {own : String} {cc : ByteArray} {nL d : Nat} (hc : OKX C own cc nL d (some .long)) {pc : Nat} {L : List (Nat × Value)} {M : QM} {v : Int64} (hd : decode cc pc = .ok (.lreturn, 1)) (hr : q_r C = some (.long v)) (hM : q_M C = M) : WX C nL pc L [.long v] M := by
  obtain ⟨p, l, e, R, s, m, args, below, meth, c, w, SH, r, Mf⟩ := C
  intro ls H locs hl hP hS
  have hr : r = some (.long v) := hr
  have hM : Mf = M := hM
  subst hr; subst hM
  exact W.lret hc.1 hc.2.1 hc.2.2.2.2.2.2.2.2.1 (q_ret (p := p) (l := l) (e := e) (R := R) (m := m) (args := args) (below := below) (meth := meth) (c := c) hc.2.2.2.2.2.1 hP hS) hS.2.2 hd hc.2.2.2.2.2.2.2.1

theorem x_vret {C : QC} {own : String} {cc : ByteArray} {nL d : Nat} (hc : OKX C own cc nL d none) {pc : Nat} {L : List (Nat × Value)} {M : QM} (hd : decode cc pc = .ok (.return_, 1)) (hr : q_r C = none) (hM : q_M C = M) : WX C nL pc L [] M := by
  obtain ⟨p, l, e, R, s, m, args, below, meth, c, w, SH, r, Mf⟩ := C
  intro ls H locs hl hP hS
  have hr : r = none := hr
  have hM : Mf = M := hM
  subst hr; subst hM
  exact W.vret hc.1 hc.2.1 hc.2.2.2.2.2.2.2.2.1 (q_ret (p := p) (l := l) (e := e) (R := R) (m := m) (args := args) (below := below) (meth := meth) (c := c) hc.2.2.2.2.2.1 hP hS) hS.2.2 hd hc.2.2.2.2.2.2.2.1


def MW_mmin : Prop := Cond.static Lib.Math.min.name ∈ lw_good ∧ Cond.initialized "java/lang/Math" ∈ lw_good ∧ Cond.code Lib.Math.min.name Lib.Math.min.code 2 (some .int) ∈ lw_good
theorem x_mmin {C : QC} {own : String} {cc : ByteArray} {nL d : Nat} {ret : Option FieldType} (hc : OKX C own cc nL d ret) {pc : Nat} {L : List (Nat × Value)} {st : List Value} {M : QM} {idx : Nat} {x y : Int32} (hd : decode cc pc = .ok (.invokestatic idx, 3)) (hm : MW_mmin) (hlk : Cond.methodLink own idx Lib.Math.min.name ∈ lw_good) (h1 : 1 ≤ d) (hst : (st.map fun v => v.category).sum ≤ 8) (k : WX C nL (pc + 3) L (.int (if y < x then y else x) :: st) M) : WX C nL pc L (.int y :: .int x :: st) M := by
  obtain ⟨p, l, e, R, s, m, args, below, meth, c, w, SH, r, Mf⟩ := C
  intro ls H locs hl hP hS
  obtain ⟨hx, hb, hml, hown, hts, hK, hi, hlocks, hret, hR⟩ := hc
  have hR : R = q_rm d := hR
  subst hR
  refine va_mmin hx hb (by rw [hl.1]; exact hml) hown (hts _ hlk) (hts _ hm.1) (hts _ hm.2.1) (hts _ hm.2.2) h1 ?_ (Nat.zero_le _) (Nat.zero_le _) hd (k ls H locs hl hP hS)
  have h2 : ((st.map (q_cv w)).map fun v => v.category).sum = (st.map fun v => v.category).sum := by rw [List.map_map]; congr 1; apply List.map_congr_left; intro v _; exact q_cat w v
  rw [h2]
  show _ ≤ 40 * d
  omega


def MW_mmax : Prop := Cond.static Lib.Math.max.name ∈ lw_good ∧ Cond.initialized "java/lang/Math" ∈ lw_good ∧ Cond.code Lib.Math.max.name Lib.Math.max.code 2 (some .int) ∈ lw_good
theorem x_mmax {C : QC} {own : String} {cc : ByteArray} {nL d : Nat} {ret : Option FieldType} (hc : OKX C own cc nL d ret) {pc : Nat} {L : List (Nat × Value)} {st : List Value} {M : QM} {idx : Nat} {x y : Int32} (hd : decode cc pc = .ok (.invokestatic idx, 3)) (hm : MW_mmax) (hlk : Cond.methodLink own idx Lib.Math.max.name ∈ lw_good) (h1 : 1 ≤ d) (hst : (st.map fun v => v.category).sum ≤ 8) (k : WX C nL (pc + 3) L (.int (if x < y then y else x) :: st) M) : WX C nL pc L (.int y :: .int x :: st) M := by
  obtain ⟨p, l, e, R, s, m, args, below, meth, c, w, SH, r, Mf⟩ := C
  intro ls H locs hl hP hS
  obtain ⟨hx, hb, hml, hown, hts, hK, hi, hlocks, hret, hR⟩ := hc
  have hR : R = q_rm d := hR
  subst hR
  refine va_mmax hx hb (by rw [hl.1]; exact hml) hown (hts _ hlk) (hts _ hm.1) (hts _ hm.2.1) (hts _ hm.2.2) h1 ?_ (Nat.zero_le _) (Nat.zero_le _) hd (k ls H locs hl hP hS)
  have h2 : ((st.map (q_cv w)).map fun v => v.category).sum = (st.map fun v => v.category).sum := by rw [List.map_map]; congr 1; apply List.map_congr_left; intro v _; exact q_cat w v
  rw [h2]
  show _ ≤ 40 * d
  omega


def MW_mminL : Prop := Cond.static Lib.MathLoose.min_long.x ∈ lw_good ∧ Cond.initialized "java/lang/Math" ∈ lw_good ∧ Cond.code Lib.MathLoose.min_long.x Lib.MathLoose.min_long.code 4 (some .long) ∈ lw_good
theorem x_mminL {C : QC} {own : String} {cc : ByteArray} {nL d : Nat} {ret : Option FieldType} (hc : OKX C own cc nL d ret) {pc : Nat} {L : List (Nat × Value)} {st : List Value} {M : QM} {idx : Nat} {x y : Int64} (hd : decode cc pc = .ok (.invokestatic idx, 3)) (hm : MW_mminL) (hlk : Cond.methodLink own idx Lib.MathLoose.min_long.x ∈ lw_good) (h1 : 1 ≤ d) (hst : (st.map fun v => v.category).sum ≤ 8) (k : WX C nL (pc + 3) L (.long (if y < x then y else x) :: st) M) : WX C nL pc L (.long y :: .long x :: st) M := by
  obtain ⟨p, l, e, R, s, m, args, below, meth, c, w, SH, r, Mf⟩ := C
  intro ls H locs hl hP hS
  obtain ⟨hx, hb, hml, hown, hts, hK, hi, hlocks, hret, hR⟩ := hc
  have hR : R = q_rm d := hR
  subst hR
  refine va_mmin_long hx hb (by rw [hl.1]; exact hml) hown (hts _ hlk) (hts _ hm.1) (hts _ hm.2.1) (hts _ hm.2.2) h1 ?_ (Nat.zero_le _) (Nat.zero_le _) hd (k ls H locs hl hP hS)
  have h2 : ((st.map (q_cv w)).map fun v => v.category).sum = (st.map fun v => v.category).sum := by rw [List.map_map]; congr 1; apply List.map_congr_left; intro v _; exact q_cat w v
  rw [h2]
  show _ ≤ 40 * d
  omega


theorem q_call {p : Program} {l : Launch} {e : Env} {R : Room} {s : State} {m : MethodId} {args : Array Value} {below : List Frame} {meth : Method} {c : Code} {w : QW} {SH : List QS} {M1 : QM} {H : Heap} {locs : List Loc} {r1 : Option Value} {Q : State → Prop} {pc : Nat} {ls : Array Slot} {st0 rest : List Value} {a : Array Value} (hr : va_Run p l e R s m args below meth c H locs 0 0 0 0 (F0 m pc ls st0) rest (Qx w SH r1 M1 a) (q_A w SH)) (hS : va_S (q_A w SH) s.heap H locs)
    (kk : ∀ (H1 : Heap) (locs1 : List Loc), va_P w.1 vwCl (q_wl w SH M1) H1 → va_S (q_A w SH) s.heap H1 locs1 → W p l e R s m args below meth c H1 locs1 0 0 Q (F0 m (pc + 3) ls (r1.toList ++ rest))) : W p l e R s m args below meth c H locs 0 0 Q (F0 m pc ls st0) := by
  intro T hT X
  obtain ⟨v, st₀, t, T', Lc, h0, X', hL, e1, e2, ⟨⟨hv, hp, -⟩, hz, hk⟩, stp⟩ := hr T hT X
  cases hv
  rw [h0] at hz hk
  obtain ⟨t2, a1, b1⟩ := kk T'.heap (locs ++ Lc) (by rw [e1]; exact hp)
    ⟨Nat.le_trans hS.1 (by rw [e1]; exact hz), fun q h1 h2 => by rw [e1, hk q (Nat.lt_of_lt_of_le h1 hS.1) h2]; exact hS.2.1 q h1 h2, fun q hq => by
      rcases List.mem_append.mp hq with h | h
      · exact hS.2.2 q h
      · exact hL q h⟩ T' rfl X'
  exact ⟨t2, stp t2 a1, b1⟩

def CV (y : MethodName) (cy : ByteArray) (maxL : Nat) (rt : Option FieldType) (n : Nat) : Prop := Cond.code y cy maxL rt ∈ lw_good ∧ Cond.instanceMethod y ∈ lw_good ∧ Cond.selects y.cls y y ∈ lw_good ∧ Cond.initialized y.cls ∈ lw_good ∧ (y.cls ≠ "java/lang/invoke/MethodHandle" ∧ y.cls ≠ "java/lang/invoke/VarHandle" ∧ (parseMethodDescriptor y.desc).map (fun d => d.parameters.length) = some n) ∧ maxL ≤ 21
def CS (y : MethodName) (cy : ByteArray) (maxL : Nat) (rt : Option FieldType) (n : Nat) : Prop := Cond.code y cy maxL rt ∈ lw_good ∧ Cond.static y ∈ lw_good ∧ Cond.initialized y.cls ∈ lw_good ∧ (y.cls ≠ "java/lang/invoke/MethodHandle" ∧ y.cls ≠ "java/lang/invoke/VarHandle" ∧ (parseMethodDescriptor y.desc).map (fun d => d.parameters.length) = some n) ∧ maxL ≤ 21
theorem q_toL (w : QW) (r : Option Value) (h : ∀ v, r = some v → q_cv w v = v) (st : List Value) : (r.toList ++ st).map (q_cv w) = r.toList ++ st.map (q_cv w) := by
  cases r with
  | none => rfl
  | some v => simp [h v rfl]
def q_num (r : Option Value) : Prop := ∀ (w : QW) (v : Value), r = some v → q_cv w v = v
theorem q_num_i (x : Int32) : q_num (some (.int x)) := fun w v h => by cases h; rfl
theorem q_num_l (x : Int64) : q_num (some (.long x)) := fun w v h => by cases h; rfl
theorem q_num_v : q_num none := fun w v h => by cases h
theorem q_sum (w : QW) (st : List Value) : ((st.map (q_cv w)).map fun v => v.category).sum = (st.map fun v => v.category).sum := by rw [List.map_map]; congr 1; apply List.map_congr_left; intro v _; exact q_cat w v

theorem x_callV {C : QC} {own : String} {cc : ByteArray} {nL d : Nat} {ret : Option FieldType} (hc : OKX C own cc nL d ret) {pc : Nat} {L : List (Nat × Value)} {st : List Value} {M : QM} {idx ci o n d1 maxL : Nat} {fs : List (Option Nat)} {y : MethodName} {cy : ByteArray} {rt : Option FieldType} {As : List Value} {r1 : Option Value} {M1 : QM} (hd : decode cc pc = .ok (.invokevirtual idx, 3)) (hy : CV y cy maxL rt n) (hlk : Cond.methodLink own idx y ∈ lw_good) (ho : (q_SH C)[o]? = some (.inr (ci, fs))) (hci : (vwCl[ci]?).map (fun q => q.1) = some y.cls) (hn : As.length = n) (hM : Cn y cy maxL rt d1 (q_SH C) (.ref o :: As) M r1 M1) (hdd : d1 < d) (hst : (st.map fun v => v.category).sum ≤ 8) (hnum : q_num r1) (k : WX C nL (pc + 3) L (r1.toList ++ st) M1) : WX C nL pc L (As.reverse ++ .ref o :: st) M := by
  obtain ⟨p, l, e, R, s, m, args, below, meth, c, w, SH, r, Mf⟩ := C
  intro ls H locs hl hP hS
  obtain ⟨hx, hb, hml, hown, hts, hK, hi, hlocks, hret, hR⟩ := hc
  have hR : R = q_rm d := hR
  subst hR
  obtain ⟨g1, g2, g3, g4, g5, g6⟩ := hy
  have hM1 := hM l w hi
  obtain ⟨q, hq, hqc⟩ : ∃ q : vw_C, vwCl[ci]? = some q ∧ q.1 = y.cls := by
    cases hz : vwCl[ci]? with
    | none => rw [hz] at hci; cases hci
    | some q => rw [hz] at hci; exact ⟨q, rfl, Option.some.inj hci⟩
  have hG : GoodIn lw_good (wsV own idx y.cls y (.code y cy maxL rt :: lw_good)) := q_good (fun x hx2 => by
    simp only [wsV, List.mem_append, List.mem_cons, List.not_mem_nil, or_false] at hx2
    rcases hx2 with (h | h | h | h) | h | h
    · rw [h]; exact hlk
    · rw [h]; exact g2
    · rw [h]; exact g3
    · rw [h]; exact g4
    · rw [h]; exact g1
    · exact h)
  have hrec := va_recv hK hP hq (q_at (w := w) (M := M) ho)
  rw [hqc] at hrec
  have hrun := va_runV (R := q_rm d) (H := H) (locs := locs) (cells := 0) (slots := 0) (e := e) (below := below) (meth := meth) (g := F0 m pc ls ((As.reverse ++ .ref o :: st).map (q_cv w))) (As := As.map (q_cv w)) (rest := st.map (q_cv w)) (b := w.2.1 o) ⟨hx, hb, hml, hown, hts⟩ hM1 (cwV n hts hG rfl rfl rfl ⟨rfl, g5⟩ ⟨by show d1 + 1 ≤ d; omega, by show 8 + (maxL + 11) + 40 * d1 ≤ 40 * d; omega⟩)
    ⟨fun a U g mk hq => ⟨hq.1, hq.2.1, va_K.moved (u := U) (U := U.calling g mk a) (Vm.Alike.refl U.vm) hq.2.2⟩, hrec, fun U hU hW => ⟨rfl, by rw [hU]; exact hP, va_K.moved hW.alike hK⟩⟩ rfl (by rw [List.length_map]; exact hn) hl.1 (by simp [F0, q_cv]) (lv_room (by rw [q_sum]; exact hst)) hd ⟨Nat.le_refl _, Nat.le_refl _⟩
  refine q_call hrun hS (fun H1 locs1 hP1 hS1 => ?_)
  have hk := k ls H1 locs1 hl hP1 hS1
  rw [q_toL w r1 (hnum w)] at hk
  exact hk

theorem x_callS {C : QC} {own : String} {cc : ByteArray} {nL d : Nat} {ret : Option FieldType} (hc : OKX C own cc nL d ret) {pc : Nat} {L : List (Nat × Value)} {st : List Value} {M : QM} {idx n d1 maxL : Nat} {y : MethodName} {cy : ByteArray} {rt : Option FieldType} {As : List Value} {r1 : Option Value} {M1 : QM} (hd : decode cc pc = .ok (.invokestatic idx, 3)) (hy : CS y cy maxL rt n) (hlk : Cond.methodLink own idx y ∈ lw_good) (hn : As.length = n) (hM : Cn y cy maxL rt d1 (q_SH C) As M r1 M1) (hdd : d1 < d) (hst : (st.map fun v => v.category).sum ≤ 8) (hnum : q_num r1) (k : WX C nL (pc + 3) L (r1.toList ++ st) M1) : WX C nL pc L (As.reverse ++ st) M := by
  obtain ⟨p, l, e, R, s, m, args, below, meth, c, w, SH, r, Mf⟩ := C
  intro ls H locs hl hP hS
  obtain ⟨hx, hb, hml, hown, hts, hK, hi, hlocks, hret, hR⟩ := hc
  have hR : R = q_rm d := hR
  subst hR
  obtain ⟨g1, g2, g4, g5, g6⟩ := hy
  have hM1 := hM l w hi
  have hG : GoodIn lw_good (va_wsS own idx y (.code y cy maxL rt :: lw_good)) := q_good (fun x hx2 => by
    simp only [va_wsS, List.mem_append, List.mem_cons, List.not_mem_nil, or_false] at hx2
    rcases hx2 with (h | h | h) | h | h
    · rw [h]; exact hlk
    · rw [h]; exact g2
    · rw [h]; exact g4
    · rw [h]; exact g1
    · exact h)
  have hrun := va_runS (R := q_rm d) (H := H) (locs := locs) (cells := 0) (slots := 0) (e := e) (below := below) (meth := meth) (g := F0 m pc ls ((As.reverse ++ st).map (q_cv w))) (As := As.map (q_cv w)) (rest := st.map (q_cv w)) ⟨hx, hb, hml, hown, hts⟩ hM1 (va_cwS n hts hG rfl rfl rfl g5 ⟨by show d1 + 1 ≤ d; omega, by show 8 + (maxL + 11) + 40 * d1 ≤ 40 * d; omega⟩)
    ⟨fun a U g mk hq => ⟨hq.1, hq.2.1, va_K.moved (u := U) (U := U.calling g mk a) (Vm.Alike.refl U.vm) hq.2.2⟩, fun U hU hW => ⟨rfl, by rw [hU]; exact hP, va_K.moved hW.alike hK⟩⟩ rfl (by rw [List.length_map]; exact hn) hl.1 (by simp [F0]) (lv_room (by rw [q_sum]; exact hst)) hd ⟨Nat.le_refl _, Nat.le_refl _⟩
  refine q_call hrun hS (fun H1 locs1 hP1 hS1 => ?_)
  have hk := k ls H1 locs1 hl hP1 hS1
  rw [q_toL w r1 (hnum w)] at hk
  exact hk


def inb (i : Int32) (n : Nat) : Bool := decide (¬ (i < 0 ∨ n ≤ i.toNatClampNeg))
theorem inb_in {i : Int32} {n : Nat} (h : inb i n = true) : vp_in i n := by
  unfold inb at h
  unfold vp_in
  exact of_decide_eq_true h
def isb (v : Int32) : Bool := decide (v = 0) || decide (v = 1)
theorem isb_nar {v : Int32} (h : isb v = true) : vp_nar .boolean v = v := by
  simp only [isb, Bool.or_eq_true, decide_eq_true_eq] at h
  rcases h with rfl | rfl <;> rfl
def ck {α : Type} (b : Bool) (x : Option α) : Option α := match b with
  | true => x
  | false => none
theorem ck_some {α : Type} {b : Bool} {x : Option α} {a : α} (h : ck b x = some a) : b = true ∧ x = some a := by
  cases b with
  | true => exact ⟨rfl, h⟩
  | false => cases h
theorem ite_t {α : Type} {c : Prop} [Decidable c] {a b : Option α} {x : α} (hc : c) (h : (if c then a else b) = some x) : a = some x := by rwa [if_pos hc] at h
theorem ite_f {α : Type} {c : Prop} [Decidable c] {a b : Option α} {x : α} (hc : ¬ c) (h : (if c then a else b) = some x) : b = some x := by rwa [if_neg hc] at h
theorem bd_some {α β : Type} {f : Option α} {k : α → Option β} {b : β} (h : f.bind k = some b) : ∃ a, f = some a ∧ k a = some b := Option.bind_eq_some_iff.mp h
/-- a loop: its body answers with an end, or with what it goes on with -/
def iter {α β : Type} (B : α → Option (β ⊕ α)) : Nat → α → Option β
  | 0, _ => none
  | n + 1, a => match B a with
    | none => none
    | some (.inl b) => some b
    | some (.inr a2) => iter B n a2
theorem iter_W {α β : Type} {B : α → Option (β ⊕ α)} {Wh : α → Prop} {b : β} (hB : ∀ (a : α) (res : β ⊕ α), B a = some res → (∀ x, res = .inl x → x = b) → (∀ x, res = .inr x → Wh x) → Wh a) :
    ∀ (n : Nat) (a : α), iter B n a = some b → Wh a := by
  intro n
  induction n with
  | zero => intro a h; cases h
  | succ n ih =>
    intro a h
    rw [iter] at h
    cases hb : B a with
    | none => rw [hb] at h; cases h
    | some res =>
      rw [hb] at h
      cases res with
      | inl x => exact hB a _ hb (fun y hy => by cases hy; exact Option.some.inj h) (fun y hy => by cases hy)
      | inr x => exact hB a _ hb (fun y hy => by cases hy) (fun y hy => by cases hy; exact ih _ h)
def FU : Nat := 8000
end
section
theorem i_vc : Claimed_1_1 ∧ Claimed_1_2 := sorry
end
