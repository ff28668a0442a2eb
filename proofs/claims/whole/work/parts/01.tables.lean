/-- an own method of a program that the tables say can be made, by its rows of tables_1 -/
def lw_okq (q : MethodName × Nat) : Prop := (q.1.cls ≠ "java/lang/invoke/MethodHandle" ∧ q.1.cls ≠ "java/lang/invoke/VarHandle") ∧ Cond.instantiable q.1.cls q.2 ∈ tables_1 ∧ Cond.privateMethod q.1 ∈ tables_1 ∧ Cond.instanceMethod q.1 ∈ tables_1
theorem lw_p0 : lw_okq (⟨"KindNets$TextReader", "readNaming", "()V"⟩, 4) := ⟨⟨by decide +kernel, by decide +kernel⟩, List.mem_of_getElem? (i := 65) (by decide +kernel), List.mem_of_getElem? (i := 278) (by decide +kernel), List.mem_of_getElem? (i := 279) (by decide +kernel)⟩
theorem lw_p1 : lw_okq (⟨"KindNets$TextReader", "readKind", "(I)I"⟩, 4) := ⟨⟨by decide +kernel, by decide +kernel⟩, List.mem_of_getElem? (i := 65) (by decide +kernel), List.mem_of_getElem? (i := 290) (by decide +kernel), List.mem_of_getElem? (i := 291) (by decide +kernel)⟩
theorem lw_p2 : lw_okq (⟨"KindNets$TextReader", "readLetters", "(III)V"⟩, 4) := ⟨⟨by decide +kernel, by decide +kernel⟩, List.mem_of_getElem? (i := 65) (by decide +kernel), List.mem_of_getElem? (i := 304) (by decide +kernel), List.mem_of_getElem? (i := 305) (by decide +kernel)⟩
theorem lw_p3 : lw_okq (⟨"KindNets$TextReader", "readPart", "(III)V"⟩, 4) := ⟨⟨by decide +kernel, by decide +kernel⟩, List.mem_of_getElem? (i := 65) (by decide +kernel), List.mem_of_getElem? (i := 308) (by decide +kernel), List.mem_of_getElem? (i := 309) (by decide +kernel)⟩
theorem lw_p4 : lw_okq (⟨"KindNets$TextReader", "nodeOf", "(I)I"⟩, 4) := ⟨⟨by decide +kernel, by decide +kernel⟩, List.mem_of_getElem? (i := 65) (by decide +kernel), List.mem_of_getElem? (i := 329) (by decide +kernel), List.mem_of_getElem? (i := 330) (by decide +kernel)⟩
theorem lw_p5 : lw_okq (⟨"KindNets$Standing", "startPairs", "(I)V"⟩, 6) := ⟨⟨by decide +kernel, by decide +kernel⟩, List.mem_of_getElem? (i := 86) (by decide +kernel), List.mem_of_getElem? (i := 400) (by decide +kernel), List.mem_of_getElem? (i := 401) (by decide +kernel)⟩
theorem lw_p6 : lw_okq (⟨"KindNets$Standing", "fitByThemselves", "(II)Z"⟩, 6) := ⟨⟨by decide +kernel, by decide +kernel⟩, List.mem_of_getElem? (i := 86) (by decide +kernel), List.mem_of_getElem? (i := 404) (by decide +kernel), List.mem_of_getElem? (i := 405) (by decide +kernel)⟩
theorem lw_p7 : lw_okq (⟨"KindNets$Standing", "setSteps", "(III)V"⟩, 6) := ⟨⟨by decide +kernel, by decide +kernel⟩, List.mem_of_getElem? (i := 86) (by decide +kernel), List.mem_of_getElem? (i := 411) (by decide +kernel), List.mem_of_getElem? (i := 412) (by decide +kernel)⟩
theorem lw_p8 : lw_okq (⟨"KindNets$Standing", "shortenPairs", "(I)Z"⟩, 6) := ⟨⟨by decide +kernel, by decide +kernel⟩, List.mem_of_getElem? (i := 86) (by decide +kernel), List.mem_of_getElem? (i := 415) (by decide +kernel), List.mem_of_getElem? (i := 416) (by decide +kernel)⟩
theorem lw_p9 : lw_okq (⟨"KindNets$Standing", "stepsOf", "(II)I"⟩, 6) := ⟨⟨by decide +kernel, by decide +kernel⟩, List.mem_of_getElem? (i := 86) (by decide +kernel), List.mem_of_getElem? (i := 419) (by decide +kernel), List.mem_of_getElem? (i := 420) (by decide +kernel)⟩
theorem lw_p10 : lw_okq (⟨"KindNets$Standing", "stepsOfPair", "(I)I"⟩, 6) := ⟨⟨by decide +kernel, by decide +kernel⟩, List.mem_of_getElem? (i := 86) (by decide +kernel), List.mem_of_getElem? (i := 423) (by decide +kernel), List.mem_of_getElem? (i := 424) (by decide +kernel)⟩
theorem lw_p11 : lw_okq (⟨"KindNets$Standing", "fewestBehind", "(II)I"⟩, 6) := ⟨⟨by decide +kernel, by decide +kernel⟩, List.mem_of_getElem? (i := 86) (by decide +kernel), List.mem_of_getElem? (i := 427) (by decide +kernel), List.mem_of_getElem? (i := 428) (by decide +kernel)⟩
theorem lw_p12 : lw_okq (⟨"KindNets$Standing", "pairBehind", "(II)I"⟩, 6) := ⟨⟨by decide +kernel, by decide +kernel⟩, List.mem_of_getElem? (i := 86) (by decide +kernel), List.mem_of_getElem? (i := 431) (by decide +kernel), List.mem_of_getElem? (i := 432) (by decide +kernel)⟩
theorem lw_p13 : lw_okq (⟨"KindNets$Standing", "pairAfter", "(III)I"⟩, 6) := ⟨⟨by decide +kernel, by decide +kernel⟩, List.mem_of_getElem? (i := 86) (by decide +kernel), List.mem_of_getElem? (i := 457) (by decide +kernel), List.mem_of_getElem? (i := 458) (by decide +kernel)⟩
theorem lw_p14 : lw_okq (⟨"KindNets$Standing", "firstSlotDown", "(I)I"⟩, 6) := ⟨⟨by decide +kernel, by decide +kernel⟩, List.mem_of_getElem? (i := 86) (by decide +kernel), List.mem_of_getElem? (i := 461) (by decide +kernel), List.mem_of_getElem? (i := 462) (by decide +kernel)⟩
theorem lw_p15 : lw_okq (⟨"KindNets$Standing", "reachFrom", "(I)I"⟩, 6) := ⟨⟨by decide +kernel, by decide +kernel⟩, List.mem_of_getElem? (i := 86) (by decide +kernel), List.mem_of_getElem? (i := 492) (by decide +kernel), List.mem_of_getElem? (i := 493) (by decide +kernel)⟩
def lw_privs_1 : List (MethodName × Nat) := [(⟨"KindNets$TextReader", "readNaming", "()V"⟩, 4), (⟨"KindNets$TextReader", "readKind", "(I)I"⟩, 4), (⟨"KindNets$TextReader", "readLetters", "(III)V"⟩, 4), (⟨"KindNets$TextReader", "readPart", "(III)V"⟩, 4), (⟨"KindNets$TextReader", "nodeOf", "(I)I"⟩, 4), (⟨"KindNets$Standing", "startPairs", "(I)V"⟩, 6), (⟨"KindNets$Standing", "fitByThemselves", "(II)Z"⟩, 6), (⟨"KindNets$Standing", "setSteps", "(III)V"⟩, 6), (⟨"KindNets$Standing", "shortenPairs", "(I)Z"⟩, 6), (⟨"KindNets$Standing", "stepsOf", "(II)I"⟩, 6), (⟨"KindNets$Standing", "stepsOfPair", "(I)I"⟩, 6), (⟨"KindNets$Standing", "fewestBehind", "(II)I"⟩, 6), (⟨"KindNets$Standing", "pairBehind", "(II)I"⟩, 6), (⟨"KindNets$Standing", "pairAfter", "(III)I"⟩, 6), (⟨"KindNets$Standing", "firstSlotDown", "(I)I"⟩, 6), (⟨"KindNets$Standing", "reachFrom", "(I)I"⟩, 6)]
theorem lw_r1 : ∀ q ∈ lw_privs_1, lw_okq q := List.forall_mem_cons.mpr ⟨lw_p0, List.forall_mem_cons.mpr ⟨lw_p1, List.forall_mem_cons.mpr ⟨lw_p2, List.forall_mem_cons.mpr ⟨lw_p3, List.forall_mem_cons.mpr ⟨lw_p4, List.forall_mem_cons.mpr ⟨lw_p5, List.forall_mem_cons.mpr ⟨lw_p6, List.forall_mem_cons.mpr ⟨lw_p7, List.forall_mem_cons.mpr ⟨lw_p8, List.forall_mem_cons.mpr ⟨lw_p9, List.forall_mem_cons.mpr ⟨lw_p10, List.forall_mem_cons.mpr ⟨lw_p11, List.forall_mem_cons.mpr ⟨lw_p12, List.forall_mem_cons.mpr ⟨lw_p13, List.forall_mem_cons.mpr ⟨lw_p14, List.forall_mem_cons.mpr ⟨lw_p15, fun _ h => absurd h List.not_mem_nil⟩⟩⟩⟩⟩⟩⟩⟩⟩⟩⟩⟩⟩⟩⟩⟩
theorem lw_p16 : lw_okq (⟨"KindNets$Standing", "reachAlso", "(II)I"⟩, 6) := ⟨⟨by decide +kernel, by decide +kernel⟩, List.mem_of_getElem? (i := 86) (by decide +kernel), List.mem_of_getElem? (i := 496) (by decide +kernel), List.mem_of_getElem? (i := 497) (by decide +kernel)⟩
theorem lw_p17 : lw_okq (⟨"KindNets$Standing", "reachedAt", "(I)I"⟩, 6) := ⟨⟨by decide +kernel, by decide +kernel⟩, List.mem_of_getElem? (i := 86) (by decide +kernel), List.mem_of_getElem? (i := 500) (by decide +kernel), List.mem_of_getElem? (i := 501) (by decide +kernel)⟩
theorem lw_p18 : lw_okq (⟨"KindNets$Standing", "isAlikeEarlier", "(I)Z"⟩, 6) := ⟨⟨by decide +kernel, by decide +kernel⟩, List.mem_of_getElem? (i := 86) (by decide +kernel), List.mem_of_getElem? (i := 504) (by decide +kernel), List.mem_of_getElem? (i := 505) (by decide +kernel)⟩
theorem lw_p19 : lw_okq (⟨"KindNets$Joiner", "nodeFor", "(III)I"⟩, 10) := ⟨⟨by decide +kernel, by decide +kernel⟩, List.mem_of_getElem? (i := 111) (by decide +kernel), List.mem_of_getElem? (i := 519) (by decide +kernel), List.mem_of_getElem? (i := 520) (by decide +kernel)⟩
theorem lw_p20 : lw_okq (⟨"KindNets$Joiner", "madeFor", "(III)I"⟩, 10) := ⟨⟨by decide +kernel, by decide +kernel⟩, List.mem_of_getElem? (i := 111) (by decide +kernel), List.mem_of_getElem? (i := 524) (by decide +kernel), List.mem_of_getElem? (i := 525) (by decide +kernel)⟩
theorem lw_p21 : lw_okq (⟨"KindNets$Joiner", "begin", "(III)I"⟩, 10) := ⟨⟨by decide +kernel, by decide +kernel⟩, List.mem_of_getElem? (i := 111) (by decide +kernel), List.mem_of_getElem? (i := 531) (by decide +kernel), List.mem_of_getElem? (i := 532) (by decide +kernel)⟩
theorem lw_p22 : lw_okq (⟨"KindNets$Joiner", "goOn", "()V"⟩, 10) := ⟨⟨by decide +kernel, by decide +kernel⟩, List.mem_of_getElem? (i := 111) (by decide +kernel), List.mem_of_getElem? (i := 537) (by decide +kernel), List.mem_of_getElem? (i := 538) (by decide +kernel)⟩
theorem lw_p23 : lw_okq (⟨"KindNets$Joiner", "partFor", "(II)I"⟩, 10) := ⟨⟨by decide +kernel, by decide +kernel⟩, List.mem_of_getElem? (i := 111) (by decide +kernel), List.mem_of_getElem? (i := 541) (by decide +kernel), List.mem_of_getElem? (i := 542) (by decide +kernel)⟩
theorem lw_p24 : lw_okq (⟨"KindNets$ValueReader", "goesOn", "(II)Z"⟩, 10) := ⟨⟨by decide +kernel, by decide +kernel⟩, List.mem_of_getElem? (i := 148) (by decide +kernel), List.mem_of_getElem? (i := 570) (by decide +kernel), List.mem_of_getElem? (i := 571) (by decide +kernel)⟩
theorem lw_p25 : lw_okq (⟨"KindNets$ValueReader", "beginValue", "(II)Z"⟩, 10) := ⟨⟨by decide +kernel, by decide +kernel⟩, List.mem_of_getElem? (i := 148) (by decide +kernel), List.mem_of_getElem? (i := 574) (by decide +kernel), List.mem_of_getElem? (i := 575) (by decide +kernel)⟩
theorem lw_p26 : lw_okq (⟨"KindNets$ValueReader", "nodeHeldAgainst", "(II)I"⟩, 10) := ⟨⟨by decide +kernel, by decide +kernel⟩, List.mem_of_getElem? (i := 148) (by decide +kernel), List.mem_of_getElem? (i := 581) (by decide +kernel), List.mem_of_getElem? (i := 582) (by decide +kernel)⟩
theorem lw_p27 : lw_okq (⟨"KindNets$ValueReader", "noteMisfit", "(I)V"⟩, 10) := ⟨⟨by decide +kernel, by decide +kernel⟩, List.mem_of_getElem? (i := 148) (by decide +kernel), List.mem_of_getElem? (i := 586) (by decide +kernel), List.mem_of_getElem? (i := 587) (by decide +kernel)⟩
theorem lw_p28 : lw_okq (⟨"KindNets$ValueReader", "endValue", "()Z"⟩, 10) := ⟨⟨by decide +kernel, by decide +kernel⟩, List.mem_of_getElem? (i := 148) (by decide +kernel), List.mem_of_getElem? (i := 590) (by decide +kernel), List.mem_of_getElem? (i := 591) (by decide +kernel)⟩
theorem lw_p29 : lw_okq (⟨"KindNets$ValueReader", "isInnermostKnown", "()Z"⟩, 10) := ⟨⟨by decide +kernel, by decide +kernel⟩, List.mem_of_getElem? (i := 148) (by decide +kernel), List.mem_of_getElem? (i := 594) (by decide +kernel), List.mem_of_getElem? (i := 595) (by decide +kernel)⟩
theorem lw_p30 : lw_okq (⟨"KindNets$ValueReader", "openValue", "(II)Z"⟩, 10) := ⟨⟨by decide +kernel, by decide +kernel⟩, List.mem_of_getElem? (i := 148) (by decide +kernel), List.mem_of_getElem? (i := 598) (by decide +kernel), List.mem_of_getElem? (i := 599) (by decide +kernel)⟩
theorem lw_p31 : lw_okq (⟨"KindNets$ValueReader", "readItem", "(II)Z"⟩, 10) := ⟨⟨by decide +kernel, by decide +kernel⟩, List.mem_of_getElem? (i := 148) (by decide +kernel), List.mem_of_getElem? (i := 602) (by decide +kernel), List.mem_of_getElem? (i := 603) (by decide +kernel)⟩
def lw_privs_2 : List (MethodName × Nat) := [(⟨"KindNets$Standing", "reachAlso", "(II)I"⟩, 6), (⟨"KindNets$Standing", "reachedAt", "(I)I"⟩, 6), (⟨"KindNets$Standing", "isAlikeEarlier", "(I)Z"⟩, 6), (⟨"KindNets$Joiner", "nodeFor", "(III)I"⟩, 10), (⟨"KindNets$Joiner", "madeFor", "(III)I"⟩, 10), (⟨"KindNets$Joiner", "begin", "(III)I"⟩, 10), (⟨"KindNets$Joiner", "goOn", "()V"⟩, 10), (⟨"KindNets$Joiner", "partFor", "(II)I"⟩, 10), (⟨"KindNets$ValueReader", "goesOn", "(II)Z"⟩, 10), (⟨"KindNets$ValueReader", "beginValue", "(II)Z"⟩, 10), (⟨"KindNets$ValueReader", "nodeHeldAgainst", "(II)I"⟩, 10), (⟨"KindNets$ValueReader", "noteMisfit", "(I)V"⟩, 10), (⟨"KindNets$ValueReader", "endValue", "()Z"⟩, 10), (⟨"KindNets$ValueReader", "isInnermostKnown", "()Z"⟩, 10), (⟨"KindNets$ValueReader", "openValue", "(II)Z"⟩, 10), (⟨"KindNets$ValueReader", "readItem", "(II)Z"⟩, 10)]
theorem lw_r2 : ∀ q ∈ lw_privs_2, lw_okq q := List.forall_mem_cons.mpr ⟨lw_p16, List.forall_mem_cons.mpr ⟨lw_p17, List.forall_mem_cons.mpr ⟨lw_p18, List.forall_mem_cons.mpr ⟨lw_p19, List.forall_mem_cons.mpr ⟨lw_p20, List.forall_mem_cons.mpr ⟨lw_p21, List.forall_mem_cons.mpr ⟨lw_p22, List.forall_mem_cons.mpr ⟨lw_p23, List.forall_mem_cons.mpr ⟨lw_p24, List.forall_mem_cons.mpr ⟨lw_p25, List.forall_mem_cons.mpr ⟨lw_p26, List.forall_mem_cons.mpr ⟨lw_p27, List.forall_mem_cons.mpr ⟨lw_p28, List.forall_mem_cons.mpr ⟨lw_p29, List.forall_mem_cons.mpr ⟨lw_p30, List.forall_mem_cons.mpr ⟨lw_p31, fun _ h => absurd h List.not_mem_nil⟩⟩⟩⟩⟩⟩⟩⟩⟩⟩⟩⟩⟩⟩⟩⟩
theorem lw_p32 : lw_okq (⟨"KindNets$ValueReader", "closeValue", "()Z"⟩, 10) := ⟨⟨by decide +kernel, by decide +kernel⟩, List.mem_of_getElem? (i := 148) (by decide +kernel), List.mem_of_getElem? (i := 606) (by decide +kernel), List.mem_of_getElem? (i := 607) (by decide +kernel)⟩
theorem lw_p33 : lw_okq (⟨"KindNets$ValueReader", "dueAt", "(I)I"⟩, 10) := ⟨⟨by decide +kernel, by decide +kernel⟩, List.mem_of_getElem? (i := 148) (by decide +kernel), List.mem_of_getElem? (i := 610) (by decide +kernel), List.mem_of_getElem? (i := 611) (by decide +kernel)⟩
theorem lw_p34 : lw_okq (⟨"KindNets$ValueReader", "innermostNode", "()I"⟩, 10) := ⟨⟨by decide +kernel, by decide +kernel⟩, List.mem_of_getElem? (i := 148) (by decide +kernel), List.mem_of_getElem? (i := 614) (by decide +kernel), List.mem_of_getElem? (i := 615) (by decide +kernel)⟩
theorem lw_p35 : lw_okq (⟨"KindNets$ValueReader", "readField", "(II)Z"⟩, 10) := ⟨⟨by decide +kernel, by decide +kernel⟩, List.mem_of_getElem? (i := 148) (by decide +kernel), List.mem_of_getElem? (i := 619) (by decide +kernel), List.mem_of_getElem? (i := 620) (by decide +kernel)⟩
theorem lw_p36 : lw_okq (⟨"KindNets$ValueReader", "readCase", "(II)Z"⟩, 10) := ⟨⟨by decide +kernel, by decide +kernel⟩, List.mem_of_getElem? (i := 148) (by decide +kernel), List.mem_of_getElem? (i := 624) (by decide +kernel), List.mem_of_getElem? (i := 625) (by decide +kernel)⟩
theorem lw_p37 : lw_okq (⟨"KindNets$Counts", "catchUp", "()V"⟩, 4) := ⟨⟨by decide +kernel, by decide +kernel⟩, List.mem_of_getElem? (i := 185) (by decide +kernel), List.mem_of_getElem? (i := 652) (by decide +kernel), List.mem_of_getElem? (i := 653) (by decide +kernel)⟩
theorem lw_p38 : lw_okq (⟨"KindNets$Counts", "valuesBySmaller", "(II)J"⟩, 4) := ⟨⟨by decide +kernel, by decide +kernel⟩, List.mem_of_getElem? (i := 185) (by decide +kernel), List.mem_of_getElem? (i := 658) (by decide +kernel), List.mem_of_getElem? (i := 659) (by decide +kernel)⟩
theorem lw_p39 : lw_okq (⟨"KindNets$Counts", "recordsOf", "(II)J"⟩, 4) := ⟨⟨by decide +kernel, by decide +kernel⟩, List.mem_of_getElem? (i := 185) (by decide +kernel), List.mem_of_getElem? (i := 666) (by decide +kernel), List.mem_of_getElem? (i := 667) (by decide +kernel)⟩
theorem lw_p40 : lw_okq (⟨"KindNets$Counts", "addLetter", "(II)V"⟩, 4) := ⟨⟨by decide +kernel, by decide +kernel⟩, List.mem_of_getElem? (i := 185) (by decide +kernel), List.mem_of_getElem? (i := 674) (by decide +kernel), List.mem_of_getElem? (i := 675) (by decide +kernel)⟩
theorem lw_p41 : lw_okq (⟨"KindNets$Counts", "foundOf", "(II)J"⟩, 4) := ⟨⟨by decide +kernel, by decide +kernel⟩, List.mem_of_getElem? (i := 185) (by decide +kernel), List.mem_of_getElem? (i := 679) (by decide +kernel), List.mem_of_getElem? (i := 680) (by decide +kernel)⟩
theorem lw_p42 : lw_okq (⟨"KindNets$Counts", "choicesOf", "(II)J"⟩, 4) := ⟨⟨by decide +kernel, by decide +kernel⟩, List.mem_of_getElem? (i := 185) (by decide +kernel), List.mem_of_getElem? (i := 686) (by decide +kernel), List.mem_of_getElem? (i := 687) (by decide +kernel)⟩
theorem lw_p43 : lw_okq (⟨"KindNets$Counts", "listsOf", "(II)J"⟩, 4) := ⟨⟨by decide +kernel, by decide +kernel⟩, List.mem_of_getElem? (i := 185) (by decide +kernel), List.mem_of_getElem? (i := 690) (by decide +kernel), List.mem_of_getElem? (i := 691) (by decide +kernel)⟩
theorem lw_p44 : lw_okq (⟨"KindNets$Leasts", "catchUp", "()V"⟩, 3) := ⟨⟨by decide +kernel, by decide +kernel⟩, List.mem_of_getElem? (i := 205) (by decide +kernel), List.mem_of_getElem? (i := 702) (by decide +kernel), List.mem_of_getElem? (i := 703) (by decide +kernel)⟩
theorem lw_p45 : lw_okq (⟨"KindNets$Leasts", "lessen", "(I)Z"⟩, 3) := ⟨⟨by decide +kernel, by decide +kernel⟩, List.mem_of_getElem? (i := 205) (by decide +kernel), List.mem_of_getElem? (i := 708) (by decide +kernel), List.mem_of_getElem? (i := 709) (by decide +kernel)⟩
theorem lw_p46 : lw_okq (⟨"KindNets$Leasts", "sizeByParts", "(I)I"⟩, 3) := ⟨⟨by decide +kernel, by decide +kernel⟩, List.mem_of_getElem? (i := 205) (by decide +kernel), List.mem_of_getElem? (i := 712) (by decide +kernel), List.mem_of_getElem? (i := 713) (by decide +kernel)⟩
theorem lw_p47 : lw_okq (⟨"KindNets$Leasts", "sumOfParts", "(I)I"⟩, 3) := ⟨⟨by decide +kernel, by decide +kernel⟩, List.mem_of_getElem? (i := 205) (by decide +kernel), List.mem_of_getElem? (i := 717) (by decide +kernel), List.mem_of_getElem? (i := 718) (by decide +kernel)⟩
def lw_privs_3 : List (MethodName × Nat) := [(⟨"KindNets$ValueReader", "closeValue", "()Z"⟩, 10), (⟨"KindNets$ValueReader", "dueAt", "(I)I"⟩, 10), (⟨"KindNets$ValueReader", "innermostNode", "()I"⟩, 10), (⟨"KindNets$ValueReader", "readField", "(II)Z"⟩, 10), (⟨"KindNets$ValueReader", "readCase", "(II)Z"⟩, 10), (⟨"KindNets$Counts", "catchUp", "()V"⟩, 4), (⟨"KindNets$Counts", "valuesBySmaller", "(II)J"⟩, 4), (⟨"KindNets$Counts", "recordsOf", "(II)J"⟩, 4), (⟨"KindNets$Counts", "addLetter", "(II)V"⟩, 4), (⟨"KindNets$Counts", "foundOf", "(II)J"⟩, 4), (⟨"KindNets$Counts", "choicesOf", "(II)J"⟩, 4), (⟨"KindNets$Counts", "listsOf", "(II)J"⟩, 4), (⟨"KindNets$Leasts", "catchUp", "()V"⟩, 3), (⟨"KindNets$Leasts", "lessen", "(I)Z"⟩, 3), (⟨"KindNets$Leasts", "sizeByParts", "(I)I"⟩, 3), (⟨"KindNets$Leasts", "sumOfParts", "(I)I"⟩, 3)]
theorem lw_r3 : ∀ q ∈ lw_privs_3, lw_okq q := List.forall_mem_cons.mpr ⟨lw_p32, List.forall_mem_cons.mpr ⟨lw_p33, List.forall_mem_cons.mpr ⟨lw_p34, List.forall_mem_cons.mpr ⟨lw_p35, List.forall_mem_cons.mpr ⟨lw_p36, List.forall_mem_cons.mpr ⟨lw_p37, List.forall_mem_cons.mpr ⟨lw_p38, List.forall_mem_cons.mpr ⟨lw_p39, List.forall_mem_cons.mpr ⟨lw_p40, List.forall_mem_cons.mpr ⟨lw_p41, List.forall_mem_cons.mpr ⟨lw_p42, List.forall_mem_cons.mpr ⟨lw_p43, List.forall_mem_cons.mpr ⟨lw_p44, List.forall_mem_cons.mpr ⟨lw_p45, List.forall_mem_cons.mpr ⟨lw_p46, List.forall_mem_cons.mpr ⟨lw_p47, fun _ h => absurd h List.not_mem_nil⟩⟩⟩⟩⟩⟩⟩⟩⟩⟩⟩⟩⟩⟩⟩⟩
theorem lw_p48 : lw_okq (⟨"KindNets$Leasts", "foundOf", "(I)I"⟩, 3) := ⟨⟨by decide +kernel, by decide +kernel⟩, List.mem_of_getElem? (i := 205) (by decide +kernel), List.mem_of_getElem? (i := 722) (by decide +kernel), List.mem_of_getElem? (i := 723) (by decide +kernel)⟩
theorem lw_p49 : lw_okq (⟨"KindNets$Leasts", "leastOfParts", "(I)I"⟩, 3) := ⟨⟨by decide +kernel, by decide +kernel⟩, List.mem_of_getElem? (i := 205) (by decide +kernel), List.mem_of_getElem? (i := 726) (by decide +kernel), List.mem_of_getElem? (i := 727) (by decide +kernel)⟩
theorem lw_p50 : lw_okq (⟨"KindNetsModel", "faultOf", "()I"⟩, 34) := ⟨⟨by decide +kernel, by decide +kernel⟩, List.mem_of_getElem? (i := 747) (by decide +kernel), List.mem_of_getElem? (i := 872) (by decide +kernel), List.mem_of_getElem? (i := 873) (by decide +kernel)⟩
theorem lw_p51 : lw_okq (⟨"KindNetsModel", "come", "(I)V"⟩, 34) := ⟨⟨by decide +kernel, by decide +kernel⟩, List.mem_of_getElem? (i := 747) (by decide +kernel), List.mem_of_getElem? (i := 876) (by decide +kernel), List.mem_of_getElem? (i := 877) (by decide +kernel)⟩
theorem lw_p52 : lw_okq (⟨"KindNetsModel", "settle", "()I"⟩, 34) := ⟨⟨by decide +kernel, by decide +kernel⟩, List.mem_of_getElem? (i := 747) (by decide +kernel), List.mem_of_getElem? (i := 880) (by decide +kernel), List.mem_of_getElem? (i := 881) (by decide +kernel)⟩
theorem lw_p53 : lw_okq (⟨"KindNetsModel", "comesTo", "(I)I"⟩, 34) := ⟨⟨by decide +kernel, by decide +kernel⟩, List.mem_of_getElem? (i := 747) (by decide +kernel), List.mem_of_getElem? (i := 888) (by decide +kernel), List.mem_of_getElem? (i := 889) (by decide +kernel)⟩
theorem lw_p54 : lw_okq (⟨"KindNetsModel", "isNode", "(I)Z"⟩, 34) := ⟨⟨by decide +kernel, by decide +kernel⟩, List.mem_of_getElem? (i := 747) (by decide +kernel), List.mem_of_getElem? (i := 900) (by decide +kernel), List.mem_of_getElem? (i := 901) (by decide +kernel)⟩
theorem lw_p55 : lw_okq (⟨"KindNetsModel", "partsOf", "(I)I"⟩, 34) := ⟨⟨by decide +kernel, by decide +kernel⟩, List.mem_of_getElem? (i := 747) (by decide +kernel), List.mem_of_getElem? (i := 904) (by decide +kernel), List.mem_of_getElem? (i := 905) (by decide +kernel)⟩
theorem lw_p56 : lw_okq (⟨"KindNetsModel", "areNodes", "(II)Z"⟩, 34) := ⟨⟨by decide +kernel, by decide +kernel⟩, List.mem_of_getElem? (i := 747) (by decide +kernel), List.mem_of_getElem? (i := 912) (by decide +kernel), List.mem_of_getElem? (i := 913) (by decide +kernel)⟩
theorem lw_p57 : lw_okq (⟨"KindNetsModel", "lay", "()V"⟩, 34) := ⟨⟨by decide +kernel, by decide +kernel⟩, List.mem_of_getElem? (i := 747) (by decide +kernel), List.mem_of_getElem? (i := 916) (by decide +kernel), List.mem_of_getElem? (i := 917) (by decide +kernel)⟩
theorem lw_p58 : lw_okq (⟨"KindNetsModel", "fitsAlone", "(II)Z"⟩, 34) := ⟨⟨by decide +kernel, by decide +kernel⟩, List.mem_of_getElem? (i := 747) (by decide +kernel), List.mem_of_getElem? (i := 920) (by decide +kernel), List.mem_of_getElem? (i := 921) (by decide +kernel)⟩
theorem lw_p59 : lw_okq (⟨"KindNetsModel", "stepTo", "(III)I"⟩, 34) := ⟨⟨by decide +kernel, by decide +kernel⟩, List.mem_of_getElem? (i := 747) (by decide +kernel), List.mem_of_getElem? (i := 928) (by decide +kernel), List.mem_of_getElem? (i := 929) (by decide +kernel)⟩
theorem lw_p60 : lw_okq (⟨"KindNetsModel", "follow", "(III)I"⟩, 34) := ⟨⟨by decide +kernel, by decide +kernel⟩, List.mem_of_getElem? (i := 747) (by decide +kernel), List.mem_of_getElem? (i := 936) (by decide +kernel), List.mem_of_getElem? (i := 937) (by decide +kernel)⟩
theorem lw_p61 : lw_okq (⟨"KindNetsModel", "areAlike", "(II)Z"⟩, 34) := ⟨⟨by decide +kernel, by decide +kernel⟩, List.mem_of_getElem? (i := 747) (by decide +kernel), List.mem_of_getElem? (i := 948) (by decide +kernel), List.mem_of_getElem? (i := 949) (by decide +kernel)⟩
theorem lw_p62 : lw_okq (⟨"KindNetsModel", "waitFor", "(IIII)V"⟩, 34) := ⟨⟨by decide +kernel, by decide +kernel⟩, List.mem_of_getElem? (i := 747) (by decide +kernel), List.mem_of_getElem? (i := 960) (by decide +kernel), List.mem_of_getElem? (i := 961) (by decide +kernel)⟩
theorem lw_p63 : lw_okq (⟨"KindNetsModel", "plain", "(III)I"⟩, 34) := ⟨⟨by decide +kernel, by decide +kernel⟩, List.mem_of_getElem? (i := 747) (by decide +kernel), List.mem_of_getElem? (i := 964) (by decide +kernel), List.mem_of_getElem? (i := 965) (by decide +kernel)⟩
def lw_privs_4 : List (MethodName × Nat) := [(⟨"KindNets$Leasts", "foundOf", "(I)I"⟩, 3), (⟨"KindNets$Leasts", "leastOfParts", "(I)I"⟩, 3), (⟨"KindNetsModel", "faultOf", "()I"⟩, 34), (⟨"KindNetsModel", "come", "(I)V"⟩, 34), (⟨"KindNetsModel", "settle", "()I"⟩, 34), (⟨"KindNetsModel", "comesTo", "(I)I"⟩, 34), (⟨"KindNetsModel", "isNode", "(I)Z"⟩, 34), (⟨"KindNetsModel", "partsOf", "(I)I"⟩, 34), (⟨"KindNetsModel", "areNodes", "(II)Z"⟩, 34), (⟨"KindNetsModel", "lay", "()V"⟩, 34), (⟨"KindNetsModel", "fitsAlone", "(II)Z"⟩, 34), (⟨"KindNetsModel", "stepTo", "(III)I"⟩, 34), (⟨"KindNetsModel", "follow", "(III)I"⟩, 34), (⟨"KindNetsModel", "areAlike", "(II)Z"⟩, 34), (⟨"KindNetsModel", "waitFor", "(IIII)V"⟩, 34), (⟨"KindNetsModel", "plain", "(III)I"⟩, 34)]
theorem lw_r4 : ∀ q ∈ lw_privs_4, lw_okq q := List.forall_mem_cons.mpr ⟨lw_p48, List.forall_mem_cons.mpr ⟨lw_p49, List.forall_mem_cons.mpr ⟨lw_p50, List.forall_mem_cons.mpr ⟨lw_p51, List.forall_mem_cons.mpr ⟨lw_p52, List.forall_mem_cons.mpr ⟨lw_p53, List.forall_mem_cons.mpr ⟨lw_p54, List.forall_mem_cons.mpr ⟨lw_p55, List.forall_mem_cons.mpr ⟨lw_p56, List.forall_mem_cons.mpr ⟨lw_p57, List.forall_mem_cons.mpr ⟨lw_p58, List.forall_mem_cons.mpr ⟨lw_p59, List.forall_mem_cons.mpr ⟨lw_p60, List.forall_mem_cons.mpr ⟨lw_p61, List.forall_mem_cons.mpr ⟨lw_p62, List.forall_mem_cons.mpr ⟨lw_p63, fun _ h => absurd h List.not_mem_nil⟩⟩⟩⟩⟩⟩⟩⟩⟩⟩⟩⟩⟩⟩⟩⟩
theorem lw_p64 : lw_okq (⟨"KindNetsModel", "shape", "(IIII)V"⟩, 34) := ⟨⟨by decide +kernel, by decide +kernel⟩, List.mem_of_getElem? (i := 747) (by decide +kernel), List.mem_of_getElem? (i := 968) (by decide +kernel), List.mem_of_getElem? (i := 969) (by decide +kernel)⟩
theorem lw_p65 : lw_okq (⟨"KindNetsModel", "slipOf", "()I"⟩, 34) := ⟨⟨by decide +kernel, by decide +kernel⟩, List.mem_of_getElem? (i := 747) (by decide +kernel), List.mem_of_getElem? (i := 976) (by decide +kernel), List.mem_of_getElem? (i := 977) (by decide +kernel)⟩
theorem lw_p66 : lw_okq (⟨"KindNetsModel", "inner", "(I)I"⟩, 34) := ⟨⟨by decide +kernel, by decide +kernel⟩, List.mem_of_getElem? (i := 747) (by decide +kernel), List.mem_of_getElem? (i := 988) (by decide +kernel), List.mem_of_getElem? (i := 989) (by decide +kernel)⟩
theorem lw_p67 : lw_okq (⟨"KindNetsModel", "begin", "(II)V"⟩, 34) := ⟨⟨by decide +kernel, by decide +kernel⟩, List.mem_of_getElem? (i := 747) (by decide +kernel), List.mem_of_getElem? (i := 992) (by decide +kernel), List.mem_of_getElem? (i := 993) (by decide +kernel)⟩
theorem lw_p68 : lw_okq (⟨"KindNetsModel", "recordCount", "(II)J"⟩, 34) := ⟨⟨by decide +kernel, by decide +kernel⟩, List.mem_of_getElem? (i := 747) (by decide +kernel), List.mem_of_getElem? (i := 1003) (by decide +kernel), List.mem_of_getElem? (i := 1004) (by decide +kernel)⟩
theorem lw_p69 : lw_okq (⟨"KindNetsModel", "choiceCount", "(II)J"⟩, 34) := ⟨⟨by decide +kernel, by decide +kernel⟩, List.mem_of_getElem? (i := 747) (by decide +kernel), List.mem_of_getElem? (i := 1011) (by decide +kernel), List.mem_of_getElem? (i := 1012) (by decide +kernel)⟩
theorem lw_p70 : lw_okq (⟨"KindNetsModel", "listCount", "(II)J"⟩, 34) := ⟨⟨by decide +kernel, by decide +kernel⟩, List.mem_of_getElem? (i := 747) (by decide +kernel), List.mem_of_getElem? (i := 1015) (by decide +kernel), List.mem_of_getElem? (i := 1016) (by decide +kernel)⟩
theorem lw_p71 : lw_okq (⟨"KindNetsModel", "layLeast", "()V"⟩, 34) := ⟨⟨by decide +kernel, by decide +kernel⟩, List.mem_of_getElem? (i := 747) (by decide +kernel), List.mem_of_getElem? (i := 1023) (by decide +kernel), List.mem_of_getElem? (i := 1024) (by decide +kernel)⟩
def lw_privs_5 : List (MethodName × Nat) := [(⟨"KindNetsModel", "shape", "(IIII)V"⟩, 34), (⟨"KindNetsModel", "slipOf", "()I"⟩, 34), (⟨"KindNetsModel", "inner", "(I)I"⟩, 34), (⟨"KindNetsModel", "begin", "(II)V"⟩, 34), (⟨"KindNetsModel", "recordCount", "(II)J"⟩, 34), (⟨"KindNetsModel", "choiceCount", "(II)J"⟩, 34), (⟨"KindNetsModel", "listCount", "(II)J"⟩, 34), (⟨"KindNetsModel", "layLeast", "()V"⟩, 34)]
theorem lw_r5 : ∀ q ∈ lw_privs_5, lw_okq q := List.forall_mem_cons.mpr ⟨lw_p64, List.forall_mem_cons.mpr ⟨lw_p65, List.forall_mem_cons.mpr ⟨lw_p66, List.forall_mem_cons.mpr ⟨lw_p67, List.forall_mem_cons.mpr ⟨lw_p68, List.forall_mem_cons.mpr ⟨lw_p69, List.forall_mem_cons.mpr ⟨lw_p70, List.forall_mem_cons.mpr ⟨lw_p71, fun _ h => absurd h List.not_mem_nil⟩⟩⟩⟩⟩⟩⟩⟩
def lw_privs : List (MethodName × Nat) := lw_privs_1 ++ (lw_privs_2 ++ (lw_privs_3 ++ (lw_privs_4 ++ (lw_privs_5))))
def lw_tbl : List Cond := k2_sels lw_privs ++ tables_1
theorem lw_privs_ok : ∀ q ∈ lw_privs, lw_okq q := by
  show ∀ q ∈ lw_privs_1 ++ (lw_privs_2 ++ (lw_privs_3 ++ (lw_privs_4 ++ (lw_privs_5)))), lw_okq q
  exact List.forall_mem_append.mpr ⟨lw_r1, List.forall_mem_append.mpr ⟨lw_r2, List.forall_mem_append.mpr ⟨lw_r3, List.forall_mem_append.mpr ⟨lw_r4, lw_r5⟩⟩⟩⟩
def RX0 : String := "KindNets$Counts"
def TX0 : u_T := fun k => match k with
  | 0 => ("KindNets$Counts", "net", "LKindNets$Net;", true)
  | 1 => ("KindNets$Counts", "found", "[J", true)
  | 2 => ("KindNets$Counts", "ways", "[J", true)
  | _ => ("KindNets$Counts", "known", "I", false)
def tyX0 : Nat → FieldType := fun k => match k with
  | 0 => .object "KindNets$Net"
  | 1 => .array .long
  | 2 => .array .long
  | _ => .int
abbrev wsX00 : List Cond := u_ws RX0 TX0 4
theorem nmX0 : ∀ a, a < 4 → ∀ b, b < 4 → a ≠ b → (TX0 a).2.1 ≠ (TX0 b).2.1 := by decide +kernel
theorem tyX0_ok : ∀ k, k < 4 → parseFieldDescriptor (TX0 k).2.2.1 = some (tyX0 k) := by decide +kernel
abbrev cX0_init : ByteArray := prog_2_method_1_code
def yX0_init : MethodName := ⟨RX0, "<init>", "(LKindNets$Net;)V"⟩
abbrev cX0_forget : ByteArray := prog_2_method_2_code
def yX0_forget : MethodName := ⟨RX0, "forget", "()V"⟩
abbrev cX0_valuesOf : ByteArray := prog_2_method_3_code
def yX0_valuesOf : MethodName := ⟨RX0, "valuesOf", "(II)I"⟩
abbrev cX0_catchUp : ByteArray := prog_2_method_4_code
def yX0_catchUp : MethodName := ⟨RX0, "catchUp", "()V"⟩
abbrev cX0_foundOf : ByteArray := prog_2_method_5_code
def yX0_foundOf : MethodName := ⟨RX0, "foundOf", "(II)J"⟩
abbrev cX0_valuesBySmaller : ByteArray := prog_2_method_6_code
def yX0_valuesBySmaller : MethodName := ⟨RX0, "valuesBySmaller", "(II)J"⟩
abbrev cX0_recordsOf : ByteArray := prog_2_method_7_code
def yX0_recordsOf : MethodName := ⟨RX0, "recordsOf", "(II)J"⟩
abbrev cX0_addLetter : ByteArray := prog_2_method_8_code
def yX0_addLetter : MethodName := ⟨RX0, "addLetter", "(II)V"⟩
abbrev cX0_choicesOf : ByteArray := prog_2_method_9_code
def yX0_choicesOf : MethodName := ⟨RX0, "choicesOf", "(II)J"⟩
abbrev cX0_listsOf : ByteArray := prog_2_method_10_code
def yX0_listsOf : MethodName := ⟨RX0, "listsOf", "(II)J"⟩
def RX1 : String := "KindNets$Joiner"
def TX1 : u_T := fun k => match k with
  | 0 => ("KindNets$Joiner", "net", "LKindNets$Net;", true)
  | 1 => ("KindNets$Joiner", "standing", "LKindNets$Standing;", true)
  | 2 => ("KindNets$Joiner", "firsts", "[I", true)
  | 3 => ("KindNets$Joiner", "seconds", "[I", true)
  | 4 => ("KindNets$Joiner", "whats", "[I", true)
  | 5 => ("KindNets$Joiner", "nextSlots", "[I", true)
  | 6 => ("KindNets$Joiner", "open", "[I", true)
  | 7 => ("KindNets$Joiner", "opened", "I", false)
  | 8 => ("KindNets$Joiner", "before", "I", false)
  | _ => ("KindNets$Joiner", "full", "Z", false)
def tyX1 : Nat → FieldType := fun k => match k with
  | 0 => .object "KindNets$Net"
  | 1 => .object "KindNets$Standing"
  | 2 => .array .int
  | 3 => .array .int
  | 4 => .array .int
  | 5 => .array .int
  | 6 => .array .int
  | 7 => .int
  | 8 => .int
  | _ => .boolean
abbrev wsX10 : List Cond := u_ws RX1 TX1 10
theorem nmX1 : ∀ a, a < 10 → ∀ b, b < 10 → a ≠ b → (TX1 a).2.1 ≠ (TX1 b).2.1 := by decide +kernel
theorem tyX1_ok : ∀ k, k < 10 → parseFieldDescriptor (TX1 k).2.2.1 = some (tyX1 k) := by decide +kernel
abbrev cX1_init : ByteArray := prog_3_method_1_code
def yX1_init : MethodName := ⟨RX1, "<init>", "(LKindNets$Net;LKindNets$Standing;)V"⟩
abbrev cX1_joined : ByteArray := prog_3_method_2_code
def yX1_joined : MethodName := ⟨RX1, "joined", "(III)I"⟩
abbrev cX1_goOn : ByteArray := prog_3_method_3_code
def yX1_goOn : MethodName := ⟨RX1, "goOn", "()V"⟩
abbrev cX1_partFor : ByteArray := prog_3_method_4_code
def yX1_partFor : MethodName := ⟨RX1, "partFor", "(II)I"⟩
abbrev cX1_nodeFor : ByteArray := prog_3_method_5_code
def yX1_nodeFor : MethodName := ⟨RX1, "nodeFor", "(III)I"⟩
abbrev cX1_madeFor : ByteArray := prog_3_method_6_code
def yX1_madeFor : MethodName := ⟨RX1, "madeFor", "(III)I"⟩
abbrev cX1_begin : ByteArray := prog_3_method_7_code
def yX1_begin : MethodName := ⟨RX1, "begin", "(III)I"⟩
abbrev cX1_turn : ByteArray := prog_3_method_8_code
def yX1_turn : MethodName := ⟨RX1, "turn", "(I)I"⟩
abbrev cX1_hasParts : ByteArray := prog_3_method_9_code
def yX1_hasParts : MethodName := ⟨RX1, "hasParts", "(I)Z"⟩
abbrev cX1_keepsAll : ByteArray := prog_3_method_10_code
def yX1_keepsAll : MethodName := ⟨RX1, "keepsAll", "(II)Z"⟩
def RX2 : String := "KindNets$Leasts"
def TX2 : u_T := fun k => match k with
  | 0 => ("KindNets$Leasts", "net", "LKindNets$Net;", true)
  | 1 => ("KindNets$Leasts", "found", "[I", true)
  | _ => ("KindNets$Leasts", "known", "I", false)
def tyX2 : Nat → FieldType := fun k => match k with
  | 0 => .object "KindNets$Net"
  | 1 => .array .int
  | _ => .int
abbrev wsX20 : List Cond := u_ws RX2 TX2 3
theorem nmX2 : ∀ a, a < 3 → ∀ b, b < 3 → a ≠ b → (TX2 a).2.1 ≠ (TX2 b).2.1 := by decide +kernel
theorem tyX2_ok : ∀ k, k < 3 → parseFieldDescriptor (TX2 k).2.2.1 = some (tyX2 k) := by decide +kernel
abbrev cX2_init : ByteArray := prog_4_method_1_code
def yX2_init : MethodName := ⟨RX2, "<init>", "(LKindNets$Net;)V"⟩
abbrev cX2_forget : ByteArray := prog_4_method_2_code
def yX2_forget : MethodName := ⟨RX2, "forget", "()V"⟩
abbrev cX2_leastOf : ByteArray := prog_4_method_3_code
def yX2_leastOf : MethodName := ⟨RX2, "leastOf", "(I)I"⟩
abbrev cX2_emptyNodes : ByteArray := prog_4_method_4_code
def yX2_emptyNodes : MethodName := ⟨RX2, "emptyNodes", "()I"⟩
abbrev cX2_catchUp : ByteArray := prog_4_method_5_code
def yX2_catchUp : MethodName := ⟨RX2, "catchUp", "()V"⟩
abbrev cX2_lessen : ByteArray := prog_4_method_6_code
def yX2_lessen : MethodName := ⟨RX2, "lessen", "(I)Z"⟩
abbrev cX2_sizeByParts : ByteArray := prog_4_method_7_code
def yX2_sizeByParts : MethodName := ⟨RX2, "sizeByParts", "(I)I"⟩
abbrev cX2_sumOfParts : ByteArray := prog_4_method_8_code
def yX2_sumOfParts : MethodName := ⟨RX2, "sumOfParts", "(I)I"⟩
abbrev cX2_leastOfParts : ByteArray := prog_4_method_9_code
def yX2_leastOfParts : MethodName := ⟨RX2, "leastOfParts", "(I)I"⟩
abbrev cX2_foundOf : ByteArray := prog_4_method_10_code
def yX2_foundOf : MethodName := ⟨RX2, "foundOf", "(I)I"⟩
def RX3 : String := "KindNets$Net"
def TX3 : u_T := fun k => match k with
  | 0 => ("KindNets$Net", "room", "I", true)
  | 1 => ("KindNets$Net", "signs", "[I", true)
  | 2 => ("KindNets$Net", "slots", "[I", true)
  | 3 => ("KindNets$Net", "parts", "[I", true)
  | 4 => ("KindNets$Net", "names", "[I", true)
  | _ => ("KindNets$Net", "made", "I", false)
def tyX3 : Nat → FieldType := fun k => match k with
  | 0 => .int
  | 1 => .array .int
  | 2 => .array .int
  | 3 => .array .int
  | 4 => .array .int
  | _ => .int
abbrev wsX30 : List Cond := u_ws RX3 TX3 6
theorem nmX3 : ∀ a, a < 6 → ∀ b, b < 6 → a ≠ b → (TX3 a).2.1 ≠ (TX3 b).2.1 := by decide +kernel
theorem tyX3_ok : ∀ k, k < 6 → parseFieldDescriptor (TX3 k).2.2.1 = some (tyX3 k) := by decide +kernel
abbrev cX3_init : ByteArray := prog_5_method_1_code
def yX3_init : MethodName := ⟨RX3, "<init>", "(I)V"⟩
abbrev cX3_clear : ByteArray := prog_5_method_2_code
def yX3_clear : MethodName := ⟨RX3, "clear", "()V"⟩
abbrev cX3_nodes : ByteArray := prog_5_method_3_code
def yX3_nodes : MethodName := ⟨RX3, "nodes", "()I"⟩
abbrev cX3_has : ByteArray := prog_5_method_4_code
def yX3_has : MethodName := ⟨RX3, "has", "(I)Z"⟩
abbrev cX3_addNode : ByteArray := prog_5_method_5_code
def yX3_addNode : MethodName := ⟨RX3, "addNode", "(I)I"⟩
abbrev cX3_dropFrom : ByteArray := prog_5_method_6_code
def yX3_dropFrom : MethodName := ⟨RX3, "dropFrom", "(I)V"⟩
abbrev cX3_setPart : ByteArray := prog_5_method_7_code
def yX3_setPart : MethodName := ⟨RX3, "setPart", "(III)V"⟩
abbrev cX3_signOf : ByteArray := prog_5_method_8_code
def yX3_signOf : MethodName := ⟨RX3, "signOf", "(I)I"⟩
abbrev cX3_slotsOf : ByteArray := prog_5_method_9_code
def yX3_slotsOf : MethodName := ⟨RX3, "slotsOf", "(I)I"⟩
abbrev cX3_partAt : ByteArray := prog_5_method_10_code
def yX3_partAt : MethodName := ⟨RX3, "partAt", "(II)I"⟩
abbrev cX3_setName : ByteArray := prog_5_method_11_code
def yX3_setName : MethodName := ⟨RX3, "setName", "(II)V"⟩
abbrev cX3_nameAt : ByteArray := prog_5_method_12_code
def yX3_nameAt : MethodName := ⟨RX3, "nameAt", "(I)I"⟩
abbrev cX3_namesTold : ByteArray := prog_5_method_13_code
def yX3_namesTold : MethodName := ⟨RX3, "namesTold", "()I"⟩
def RX4 : String := "KindNets$Pad"
def TX4 : u_T := fun k => match k with
  | 0 => ("KindNets$Pad", "signs", "[I", true)
  | _ => ("KindNets$Pad", "laid", "I", false)
def tyX4 : Nat → FieldType := fun k => match k with
  | 0 => .array .int
  | _ => .int
abbrev wsX40 : List Cond := u_ws RX4 TX4 2
theorem nmX4 : ∀ a, a < 2 → ∀ b, b < 2 → a ≠ b → (TX4 a).2.1 ≠ (TX4 b).2.1 := by decide +kernel
theorem tyX4_ok : ∀ k, k < 2 → parseFieldDescriptor (TX4 k).2.2.1 = some (tyX4 k) := by decide +kernel
abbrev cX4_init : ByteArray := prog_6_method_1_code
def yX4_init : MethodName := ⟨RX4, "<init>", "()V"⟩
abbrev cX4_lay : ByteArray := prog_6_method_2_code
def yX4_lay : MethodName := ⟨RX4, "lay", "(I)Z"⟩
abbrev cX4_clear : ByteArray := prog_6_method_3_code
def yX4_clear : MethodName := ⟨RX4, "clear", "()V"⟩
abbrev cX4_length : ByteArray := prog_6_method_4_code
def yX4_length : MethodName := ⟨RX4, "length", "()I"⟩
abbrev cX4_signAt : ByteArray := prog_6_method_5_code
def yX4_signAt : MethodName := ⟨RX4, "signAt", "(I)I"⟩
def RX5 : String := "KindNets$Standing"
def TX5 : u_T := fun k => match k with
  | 0 => ("KindNets$Standing", "net", "LKindNets$Net;", true)
  | 1 => ("KindNets$Standing", "steps", "[I", true)
  | 2 => ("KindNets$Standing", "reached", "[I", true)
  | 3 => ("KindNets$Standing", "reachedBy", "[I", true)
  | 4 => ("KindNets$Standing", "reachings", "I", false)
  | _ => ("KindNets$Standing", "known", "I", false)
def tyX5 : Nat → FieldType := fun k => match k with
  | 0 => .object "KindNets$Net"
  | 1 => .array .int
  | 2 => .array .int
  | 3 => .array .int
  | 4 => .int
  | _ => .int
abbrev wsX50 : List Cond := u_ws RX5 TX5 6
theorem nmX5 : ∀ a, a < 6 → ∀ b, b < 6 → a ≠ b → (TX5 a).2.1 ≠ (TX5 b).2.1 := by decide +kernel
theorem tyX5_ok : ∀ k, k < 6 → parseFieldDescriptor (TX5 k).2.2.1 = some (tyX5 k) := by decide +kernel
abbrev cX5_init : ByteArray := prog_7_method_1_code
def yX5_init : MethodName := ⟨RX5, "<init>", "(LKindNets$Net;)V"⟩
abbrev cX5_forget : ByteArray := prog_7_method_2_code
def yX5_forget : MethodName := ⟨RX5, "forget", "()V"⟩
abbrev cX5_catchUp : ByteArray := prog_7_method_3_code
def yX5_catchUp : MethodName := ⟨RX5, "catchUp", "()V"⟩
abbrev cX5_mayStand : ByteArray := prog_7_method_4_code
def yX5_mayStand : MethodName := ⟨RX5, "mayStand", "(II)Z"⟩
abbrev cX5_areAlike : ByteArray := prog_7_method_5_code
def yX5_areAlike : MethodName := ⟨RX5, "areAlike", "(II)Z"⟩
abbrev cX5_stepsDown : ByteArray := prog_7_method_6_code
def yX5_stepsDown : MethodName := ⟨RX5, "stepsDown", "(II)I"⟩
abbrev cX5_stepDown : ByteArray := prog_7_method_7_code
def yX5_stepDown : MethodName := ⟨RX5, "stepDown", "(III)I"⟩
abbrev cX5_endOfWay : ByteArray := prog_7_method_8_code
def yX5_endOfWay : MethodName := ⟨RX5, "endOfWay", "(II)I"⟩
abbrev cX5_unlikeWithin : ByteArray := prog_7_method_9_code
def yX5_unlikeWithin : MethodName := ⟨RX5, "unlikeWithin", "(I)I"⟩
abbrev cX5_pairsThatMay : ByteArray := prog_7_method_10_code
def yX5_pairsThatMay : MethodName := ⟨RX5, "pairsThatMay", "()I"⟩
abbrev cX5_pairAfter : ByteArray := prog_7_method_11_code
def yX5_pairAfter : MethodName := ⟨RX5, "pairAfter", "(III)I"⟩
abbrev cX5_isAlikeEarlier : ByteArray := prog_7_method_12_code
def yX5_isAlikeEarlier : MethodName := ⟨RX5, "isAlikeEarlier", "(I)Z"⟩
abbrev cX5_reachedAt : ByteArray := prog_7_method_13_code
def yX5_reachedAt : MethodName := ⟨RX5, "reachedAt", "(I)I"⟩
abbrev cX5_reachFrom : ByteArray := prog_7_method_14_code
def yX5_reachFrom : MethodName := ⟨RX5, "reachFrom", "(I)I"⟩
abbrev cX5_reachAlso : ByteArray := prog_7_method_15_code
def yX5_reachAlso : MethodName := ⟨RX5, "reachAlso", "(II)I"⟩
abbrev cX5_startPairs : ByteArray := prog_7_method_16_code
def yX5_startPairs : MethodName := ⟨RX5, "startPairs", "(I)V"⟩
abbrev cX5_shortenPairs : ByteArray := prog_7_method_17_code
def yX5_shortenPairs : MethodName := ⟨RX5, "shortenPairs", "(I)Z"⟩
abbrev cX5_fewestBehind : ByteArray := prog_7_method_18_code
def yX5_fewestBehind : MethodName := ⟨RX5, "fewestBehind", "(II)I"⟩
abbrev cX5_fitByThemselves : ByteArray := prog_7_method_19_code
def yX5_fitByThemselves : MethodName := ⟨RX5, "fitByThemselves", "(II)Z"⟩
abbrev cX5_firstSlotDown : ByteArray := prog_7_method_20_code
def yX5_firstSlotDown : MethodName := ⟨RX5, "firstSlotDown", "(I)I"⟩
abbrev cX5_pairBehind : ByteArray := prog_7_method_21_code
def yX5_pairBehind : MethodName := ⟨RX5, "pairBehind", "(II)I"⟩
abbrev cX5_stepThrough : ByteArray := prog_7_method_22_code
def yX5_stepThrough : MethodName := ⟨RX5, "stepThrough", "(II)I"⟩
abbrev cX5_stepsOfPair : ByteArray := prog_7_method_23_code
def yX5_stepsOfPair : MethodName := ⟨RX5, "stepsOfPair", "(I)I"⟩
abbrev cX5_stepsOf : ByteArray := prog_7_method_24_code
def yX5_stepsOf : MethodName := ⟨RX5, "stepsOf", "(II)I"⟩
abbrev cX5_setSteps : ByteArray := prog_7_method_25_code
def yX5_setSteps : MethodName := ⟨RX5, "setSteps", "(III)V"⟩
def RX6 : String := "KindNets$TextReader"
def TX6 : u_T := fun k => match k with
  | 0 => ("KindNets$TextReader", "pad", "LKindNets$Pad;", true)
  | 1 => ("KindNets$TextReader", "draft", "LKindNets$Net;", true)
  | 2 => ("KindNets$TextReader", "place", "I", false)
  | _ => ("KindNets$TextReader", "stuck", "Z", false)
def tyX6 : Nat → FieldType := fun k => match k with
  | 0 => .object "KindNets$Pad"
  | 1 => .object "KindNets$Net"
  | 2 => .int
  | _ => .boolean
abbrev wsX60 : List Cond := u_ws RX6 TX6 4
theorem nmX6 : ∀ a, a < 4 → ∀ b, b < 4 → a ≠ b → (TX6 a).2.1 ≠ (TX6 b).2.1 := by decide +kernel
theorem tyX6_ok : ∀ k, k < 4 → parseFieldDescriptor (TX6 k).2.2.1 = some (tyX6 k) := by decide +kernel
abbrev cX6_init : ByteArray := prog_8_method_1_code
def yX6_init : MethodName := ⟨RX6, "<init>", "(LKindNets$Pad;)V"⟩
abbrev cX6_read : ByteArray := prog_8_method_2_code
def yX6_read : MethodName := ⟨RX6, "read", "()I"⟩
abbrev cX6_nodesRead : ByteArray := prog_8_method_3_code
def yX6_nodesRead : MethodName := ⟨RX6, "nodesRead", "()I"⟩
abbrev cX6_allNamesComeToNodes : ByteArray := prog_8_method_4_code
def yX6_allNamesComeToNodes : MethodName := ⟨RX6, "allNamesComeToNodes", "()Z"⟩
abbrev cX6_copyInto : ByteArray := prog_8_method_5_code
def yX6_copyInto : MethodName := ⟨RX6, "copyInto", "(LKindNets$Net;)V"⟩
abbrev cX6_nodeOf : ByteArray := prog_8_method_6_code
def yX6_nodeOf : MethodName := ⟨RX6, "nodeOf", "(I)I"⟩
abbrev cX6_readNaming : ByteArray := prog_8_method_7_code
def yX6_readNaming : MethodName := ⟨RX6, "readNaming", "()V"⟩
abbrev cX6_readKind : ByteArray := prog_8_method_8_code
def yX6_readKind : MethodName := ⟨RX6, "readKind", "(I)I"⟩
abbrev cX6_readLetters : ByteArray := prog_8_method_9_code
def yX6_readLetters : MethodName := ⟨RX6, "readLetters", "(III)V"⟩
abbrev cX6_readPart : ByteArray := prog_8_method_10_code
def yX6_readPart : MethodName := ⟨RX6, "readPart", "(III)V"⟩
abbrev cX6_isKindSign : ByteArray := prog_8_method_11_code
def yX6_isKindSign : MethodName := ⟨RX6, "isKindSign", "(I)Z"⟩
abbrev cX6_needsParts : ByteArray := prog_8_method_12_code
def yX6_needsParts : MethodName := ⟨RX6, "needsParts", "(I)Z"⟩
def RX7 : String := "KindNets$ValueReader"
def TX7 : u_T := fun k => match k with
  | 0 => ("KindNets$ValueReader", "pad", "LKindNets$Pad;", true)
  | 1 => ("KindNets$ValueReader", "net", "LKindNets$Net;", true)
  | 2 => ("KindNets$ValueReader", "openSigns", "[I", true)
  | 3 => ("KindNets$ValueReader", "openNodes", "[I", true)
  | 4 => ("KindNets$ValueReader", "openLetters", "[I", true)
  | 5 => ("KindNets$ValueReader", "opened", "I", false)
  | 6 => ("KindNets$ValueReader", "waits", "I", false)
  | 7 => ("KindNets$ValueReader", "due", "I", false)
  | 8 => ("KindNets$ValueReader", "begun", "I", false)
  | _ => ("KindNets$ValueReader", "misfit", "I", false)
def tyX7 : Nat → FieldType := fun k => match k with
  | 0 => .object "KindNets$Pad"
  | 1 => .object "KindNets$Net"
  | 2 => .array .int
  | 3 => .array .int
  | 4 => .array .int
  | 5 => .int
  | 6 => .int
  | 7 => .int
  | 8 => .int
  | _ => .int
abbrev wsX70 : List Cond := u_ws RX7 TX7 10
theorem nmX7 : ∀ a, a < 10 → ∀ b, b < 10 → a ≠ b → (TX7 a).2.1 ≠ (TX7 b).2.1 := by decide +kernel
theorem tyX7_ok : ∀ k, k < 10 → parseFieldDescriptor (TX7 k).2.2.1 = some (tyX7 k) := by decide +kernel
abbrev cX7_init : ByteArray := prog_9_method_1_code
def yX7_init : MethodName := ⟨RX7, "<init>", "(LKindNets$Pad;LKindNets$Net;)V"⟩
abbrev cX7_read : ByteArray := prog_9_method_2_code
def yX7_read : MethodName := ⟨RX7, "read", "(I)I"⟩
abbrev cX7_valuesRead : ByteArray := prog_9_method_3_code
def yX7_valuesRead : MethodName := ⟨RX7, "valuesRead", "()I"⟩
abbrev cX7_misfitPlace : ByteArray := prog_9_method_4_code
def yX7_misfitPlace : MethodName := ⟨RX7, "misfitPlace", "()I"⟩
abbrev cX7_goesOn : ByteArray := prog_9_method_5_code
def yX7_goesOn : MethodName := ⟨RX7, "goesOn", "(II)Z"⟩
abbrev cX7_beginValue : ByteArray := prog_9_method_6_code
def yX7_beginValue : MethodName := ⟨RX7, "beginValue", "(II)Z"⟩
abbrev cX7_kindBegunBy : ByteArray := prog_9_method_7_code
def yX7_kindBegunBy : MethodName := ⟨RX7, "kindBegunBy", "(I)I"⟩
abbrev cX7_nodeHeldAgainst : ByteArray := prog_9_method_8_code
def yX7_nodeHeldAgainst : MethodName := ⟨RX7, "nodeHeldAgainst", "(II)I"⟩
abbrev cX7_noteMisfit : ByteArray := prog_9_method_9_code
def yX7_noteMisfit : MethodName := ⟨RX7, "noteMisfit", "(I)V"⟩
abbrev cX7_openValue : ByteArray := prog_9_method_10_code
def yX7_openValue : MethodName := ⟨RX7, "openValue", "(II)Z"⟩
abbrev cX7_closeValue : ByteArray := prog_9_method_11_code
def yX7_closeValue : MethodName := ⟨RX7, "closeValue", "()Z"⟩
abbrev cX7_endValue : ByteArray := prog_9_method_12_code
def yX7_endValue : MethodName := ⟨RX7, "endValue", "()Z"⟩
abbrev cX7_isInnermostKnown : ByteArray := prog_9_method_13_code
def yX7_isInnermostKnown : MethodName := ⟨RX7, "isInnermostKnown", "()Z"⟩
abbrev cX7_readItem : ByteArray := prog_9_method_14_code
def yX7_readItem : MethodName := ⟨RX7, "readItem", "(II)Z"⟩
abbrev cX7_readField : ByteArray := prog_9_method_15_code
def yX7_readField : MethodName := ⟨RX7, "readField", "(II)Z"⟩
abbrev cX7_readCase : ByteArray := prog_9_method_16_code
def yX7_readCase : MethodName := ⟨RX7, "readCase", "(II)Z"⟩
abbrev cX7_innermostNode : ByteArray := prog_9_method_17_code
def yX7_innermostNode : MethodName := ⟨RX7, "innermostNode", "()I"⟩
abbrev cX7_dueAt : ByteArray := prog_9_method_18_code
def yX7_dueAt : MethodName := ⟨RX7, "dueAt", "(I)I"⟩
def RX8 : String := "KindNets"
def TX8 : u_T := fun k => match k with
  | 0 => ("KindNets", "pad", "LKindNets$Pad;", true)
  | 1 => ("KindNets", "net", "LKindNets$Net;", true)
  | 2 => ("KindNets", "texts", "LKindNets$TextReader;", true)
  | 3 => ("KindNets", "standing", "LKindNets$Standing;", true)
  | 4 => ("KindNets", "joiner", "LKindNets$Joiner;", true)
  | 5 => ("KindNets", "values", "LKindNets$ValueReader;", true)
  | 6 => ("KindNets", "counts", "LKindNets$Counts;", true)
  | _ => ("KindNets", "leasts", "LKindNets$Leasts;", true)
def tyX8 : Nat → FieldType := fun k => match k with
  | 0 => .object "KindNets$Pad"
  | 1 => .object "KindNets$Net"
  | 2 => .object "KindNets$TextReader"
  | 3 => .object "KindNets$Standing"
  | 4 => .object "KindNets$Joiner"
  | 5 => .object "KindNets$ValueReader"
  | 6 => .object "KindNets$Counts"
  | _ => .object "KindNets$Leasts"
abbrev wsX80 : List Cond := u_ws RX8 TX8 8
theorem nmX8 : ∀ a, a < 8 → ∀ b, b < 8 → a ≠ b → (TX8 a).2.1 ≠ (TX8 b).2.1 := by decide +kernel
theorem tyX8_ok : ∀ k, k < 8 → parseFieldDescriptor (TX8 k).2.2.1 = some (tyX8 k) := by decide +kernel
abbrev cX8_init : ByteArray := prog_1_method_1_code
def yX8_init : MethodName := ⟨RX8, "<init>", "()V"⟩
abbrev cX8_say : ByteArray := prog_1_method_2_code
def yX8_say : MethodName := ⟨RX8, "say", "(I)I"⟩
abbrev cX8_wipe : ByteArray := prog_1_method_3_code
def yX8_wipe : MethodName := ⟨RX8, "wipe", "()I"⟩
abbrev cX8_fault : ByteArray := prog_1_method_4_code
def yX8_fault : MethodName := ⟨RX8, "fault", "()I"⟩
abbrev cX8_take : ByteArray := prog_1_method_5_code
def yX8_take : MethodName := ⟨RX8, "take", "()I"⟩
abbrev cX8_name : ByteArray := prog_1_method_6_code
def yX8_name : MethodName := ⟨RX8, "name", "(I)I"⟩
abbrev cX8_node : ByteArray := prog_1_method_7_code
def yX8_node : MethodName := ⟨RX8, "node", "(II)I"⟩
abbrev cX8_may : ByteArray := prog_1_method_8_code
def yX8_may : MethodName := ⟨RX8, "may", "(II)I"⟩
abbrev cX8_way : ByteArray := prog_1_method_9_code
def yX8_way : MethodName := ⟨RX8, "way", "(III)I"⟩
abbrev cX8_end : ByteArray := prog_1_method_10_code
def yX8_end : MethodName := ⟨RX8, "end", "(II)I"⟩
abbrev cX8_alike : ByteArray := prog_1_method_11_code
def yX8_alike : MethodName := ⟨RX8, "alike", "(II)I"⟩
abbrev cX8_pieces : ByteArray := prog_1_method_12_code
def yX8_pieces : MethodName := ⟨RX8, "pieces", "(I)I"⟩
abbrev cX8_join : ByteArray := prog_1_method_13_code
def yX8_join : MethodName := ⟨RX8, "join", "(III)I"⟩
abbrev cX8_slip : ByteArray := prog_1_method_14_code
def yX8_slip : MethodName := ⟨RX8, "slip", "()I"⟩
abbrev cX8_fits : ByteArray := prog_1_method_15_code
def yX8_fits : MethodName := ⟨RX8, "fits", "(I)I"⟩
abbrev cX8_size : ByteArray := prog_1_method_16_code
def yX8_size : MethodName := ⟨RX8, "size", "()I"⟩
abbrev cX8_count : ByteArray := prog_1_method_17_code
def yX8_count : MethodName := ⟨RX8, "count", "(II)I"⟩
abbrev cX8_least : ByteArray := prog_1_method_18_code
def yX8_least : MethodName := ⟨RX8, "least", "(I)I"⟩
abbrev cX8_told : ByteArray := prog_1_method_19_code
def yX8_told : MethodName := ⟨RX8, "told", "(I)I"⟩
def RX9 : String := "KindNetsModel"
def TX9 : u_T := fun k => match k with
  | 0 => ("KindNetsModel", "signs", "I", false)
  | 1 => ("KindNetsModel", "pad", "[I", true)
  | 2 => ("KindNetsModel", "nodes", "I", false)
  | 3 => ("KindNetsModel", "sign", "[I", true)
  | 4 => ("KindNetsModel", "part", "[I", true)
  | 5 => ("KindNetsModel", "named", "[I", true)
  | 6 => ("KindNetsModel", "read", "I", false)
  | 7 => ("KindNetsModel", "readSign", "[I", true)
  | 8 => ("KindNetsModel", "readPart", "[I", true)
  | 9 => ("KindNetsModel", "readName", "[I", true)
  | 10 => ("KindNetsModel", "deep", "I", false)
  | 11 => ("KindNetsModel", "open", "[I", true)
  | 12 => ("KindNetsModel", "need", "[I", true)
  | 13 => ("KindNetsModel", "last", "[I", true)
  | 14 => ("KindNetsModel", "owner", "I", false)
  | 15 => ("KindNetsModel", "isLaid", "Z", false)
  | 16 => ("KindNetsModel", "may", "[Z", true)
  | 17 => ("KindNetsModel", "down", "[I", true)
  | 18 => ("KindNetsModel", "endPair", "I", false)
  | 19 => ("KindNetsModel", "held", "[Z", true)
  | 20 => ("KindNetsModel", "made", "[I", true)
  | 21 => ("KindNetsModel", "waits", "I", false)
  | 22 => ("KindNetsModel", "waitFor", "[I", true)
  | 23 => ("KindNetsModel", "waitAt", "[I", true)
  | 24 => ("KindNetsModel", "values", "I", false)
  | 25 => ("KindNetsModel", "pile", "[I", true)
  | 26 => ("KindNetsModel", "pileLast", "[I", true)
  | 27 => ("KindNetsModel", "piled", "I", false)
  | 28 => ("KindNetsModel", "must", "[I", true)
  | 29 => ("KindNetsModel", "letters", "[I", true)
  | 30 => ("KindNetsModel", "count", "[J", true)
  | 31 => ("KindNetsModel", "row", "[J", true)
  | 32 => ("KindNetsModel", "other", "[J", true)
  | _ => ("KindNetsModel", "leastOf", "[I", true)
def tyX9 : Nat → FieldType := fun k => match k with
  | 0 => .int
  | 1 => .array .int
  | 2 => .int
  | 3 => .array .int
  | 4 => .array .int
  | 5 => .array .int
  | 6 => .int
  | 7 => .array .int
  | 8 => .array .int
  | 9 => .array .int
  | 10 => .int
  | 11 => .array .int
  | 12 => .array .int
  | 13 => .array .int
  | 14 => .int
  | 15 => .boolean
  | 16 => .array .boolean
  | 17 => .array .int
  | 18 => .int
  | 19 => .array .boolean
  | 20 => .array .int
  | 21 => .int
  | 22 => .array .int
  | 23 => .array .int
  | 24 => .int
  | 25 => .array .int
  | 26 => .array .int
  | 27 => .int
  | 28 => .array .int
  | 29 => .array .int
  | 30 => .array .long
  | 31 => .array .long
  | 32 => .array .long
  | _ => .array .int
abbrev wsX90 : List Cond := u_ws RX9 TX9 34
theorem nmX9 : ∀ a, a < 34 → ∀ b, b < 34 → a ≠ b → (TX9 a).2.1 ≠ (TX9 b).2.1 := by decide +kernel
theorem tyX9_ok : ∀ k, k < 34 → parseFieldDescriptor (TX9 k).2.2.1 = some (tyX9 k) := by decide +kernel
abbrev cX9_init : ByteArray := prog_11_method_1_code
def yX9_init : MethodName := ⟨RX9, "<init>", "()V"⟩
abbrev cX9_in : ByteArray := prog_11_method_2_code
def yX9_in : MethodName := ⟨RX9, "in", "(III)Z"⟩
abbrev cX9_say : ByteArray := prog_11_method_3_code
def yX9_say : MethodName := ⟨RX9, "say", "(I)I"⟩
abbrev cX9_wipe : ByteArray := prog_11_method_4_code
def yX9_wipe : MethodName := ⟨RX9, "wipe", "()I"⟩
abbrev cX9_come : ByteArray := prog_11_method_5_code
def yX9_come : MethodName := ⟨RX9, "come", "(I)V"⟩
abbrev cX9_settle : ByteArray := prog_11_method_6_code
def yX9_settle : MethodName := ⟨RX9, "settle", "()I"⟩
abbrev cX9_faultOf : ByteArray := prog_11_method_7_code
def yX9_faultOf : MethodName := ⟨RX9, "faultOf", "()I"⟩
abbrev cX9_fault : ByteArray := prog_11_method_8_code
def yX9_fault : MethodName := ⟨RX9, "fault", "()I"⟩
abbrev cX9_comesTo : ByteArray := prog_11_method_9_code
def yX9_comesTo : MethodName := ⟨RX9, "comesTo", "(I)I"⟩
abbrev cX9_take : ByteArray := prog_11_method_10_code
def yX9_take : MethodName := ⟨RX9, "take", "()I"⟩
abbrev cX9_name : ByteArray := prog_11_method_11_code
def yX9_name : MethodName := ⟨RX9, "name", "(I)I"⟩
abbrev cX9_isNode : ByteArray := prog_11_method_12_code
def yX9_isNode : MethodName := ⟨RX9, "isNode", "(I)Z"⟩
abbrev cX9_partsOf : ByteArray := prog_11_method_13_code
def yX9_partsOf : MethodName := ⟨RX9, "partsOf", "(I)I"⟩
abbrev cX9_node : ByteArray := prog_11_method_14_code
def yX9_node : MethodName := ⟨RX9, "node", "(II)I"⟩
abbrev cX9_isBoth : ByteArray := prog_11_method_15_code
def yX9_isBoth : MethodName := ⟨RX9, "isBoth", "(I)Z"⟩
abbrev cX9_fitsAlone : ByteArray := prog_11_method_16_code
def yX9_fitsAlone : MethodName := ⟨RX9, "fitsAlone", "(II)Z"⟩
abbrev cX9_stepTo : ByteArray := prog_11_method_17_code
def yX9_stepTo : MethodName := ⟨RX9, "stepTo", "(III)I"⟩
abbrev cX9_lay : ByteArray := prog_11_method_18_code
def yX9_lay : MethodName := ⟨RX9, "lay", "()V"⟩
abbrev cX9_areNodes : ByteArray := prog_11_method_19_code
def yX9_areNodes : MethodName := ⟨RX9, "areNodes", "(II)Z"⟩
abbrev cX9_may : ByteArray := prog_11_method_20_code
def yX9_may : MethodName := ⟨RX9, "may", "(II)I"⟩
abbrev cX9_follow : ByteArray := prog_11_method_21_code
def yX9_follow : MethodName := ⟨RX9, "follow", "(III)I"⟩
abbrev cX9_way : ByteArray := prog_11_method_22_code
def yX9_way : MethodName := ⟨RX9, "way", "(III)I"⟩
abbrev cX9_end : ByteArray := prog_11_method_23_code
def yX9_end : MethodName := ⟨RX9, "end", "(II)I"⟩
abbrev cX9_areAlike : ByteArray := prog_11_method_24_code
def yX9_areAlike : MethodName := ⟨RX9, "areAlike", "(II)Z"⟩
abbrev cX9_alike : ByteArray := prog_11_method_25_code
def yX9_alike : MethodName := ⟨RX9, "alike", "(II)I"⟩
abbrev cX9_pieces : ByteArray := prog_11_method_26_code
def yX9_pieces : MethodName := ⟨RX9, "pieces", "(I)I"⟩
abbrev cX9_plain : ByteArray := prog_11_method_27_code
def yX9_plain : MethodName := ⟨RX9, "plain", "(III)I"⟩
abbrev cX9_waitFor : ByteArray := prog_11_method_28_code
def yX9_waitFor : MethodName := ⟨RX9, "waitFor", "(IIII)V"⟩
abbrev cX9_shape : ByteArray := prog_11_method_29_code
def yX9_shape : MethodName := ⟨RX9, "shape", "(IIII)V"⟩
abbrev cX9_join : ByteArray := prog_11_method_30_code
def yX9_join : MethodName := ⟨RX9, "join", "(III)I"⟩
abbrev cX9_slipOf : ByteArray := prog_11_method_31_code
def yX9_slipOf : MethodName := ⟨RX9, "slipOf", "()I"⟩
abbrev cX9_slip : ByteArray := prog_11_method_32_code
def yX9_slip : MethodName := ⟨RX9, "slip", "()I"⟩
abbrev cX9_size : ByteArray := prog_11_method_33_code
def yX9_size : MethodName := ⟨RX9, "size", "()I"⟩
abbrev cX9_inner : ByteArray := prog_11_method_34_code
def yX9_inner : MethodName := ⟨RX9, "inner", "(I)I"⟩
abbrev cX9_fits : ByteArray := prog_11_method_35_code
def yX9_fits : MethodName := ⟨RX9, "fits", "(I)I"⟩
abbrev cX9_begin : ByteArray := prog_11_method_36_code
def yX9_begin : MethodName := ⟨RX9, "begin", "(II)V"⟩
abbrev cX9_held : ByteArray := prog_11_method_37_code
def yX9_held : MethodName := ⟨RX9, "held", "(J)J"⟩
abbrev cX9_recordCount : ByteArray := prog_11_method_38_code
def yX9_recordCount : MethodName := ⟨RX9, "recordCount", "(II)J"⟩
abbrev cX9_listCount : ByteArray := prog_11_method_39_code
def yX9_listCount : MethodName := ⟨RX9, "listCount", "(II)J"⟩
abbrev cX9_choiceCount : ByteArray := prog_11_method_40_code
def yX9_choiceCount : MethodName := ⟨RX9, "choiceCount", "(II)J"⟩
abbrev cX9_count : ByteArray := prog_11_method_41_code
def yX9_count : MethodName := ⟨RX9, "count", "(II)I"⟩
abbrev cX9_layLeast : ByteArray := prog_11_method_42_code
def yX9_layLeast : MethodName := ⟨RX9, "layLeast", "()V"⟩
abbrev cX9_least : ByteArray := prog_11_method_43_code
def yX9_least : MethodName := ⟨RX9, "least", "(I)I"⟩
abbrev cX9_told : ByteArray := prog_11_method_44_code
def yX9_told : MethodName := ⟨RX9, "told", "(I)I"⟩
def RJ6 : String := "java/lang/Integer"
def TJ6 : u_T := fun k => match k with
  | _ => ("", "", "", false)
def tyJ6 : Nat → FieldType := fun k => match k with
  | _ => .int
abbrev cJ6_bitCount_0f7a4 : ByteArray := prog_12_method_49_code
def yJ6_bitCount_0f7a4 : MethodName := ⟨RJ6, "bitCount", "(I)I"⟩
def RJ9 : String := "java/lang/Math"
def TJ9 : u_T := fun k => match k with
  | _ => ("", "", "", false)
def tyJ9 : Nat → FieldType := fun k => match k with
  | _ => .int
abbrev cJ9_max_7cf53 : ByteArray := prog_13_method_65_code
def yJ9_max_7cf53 : MethodName := ⟨RJ9, "max", "(II)I"⟩
abbrev cJ9_min_7cf53 : ByteArray := prog_13_method_69_code
def yJ9_min_7cf53 : MethodName := ⟨RJ9, "min", "(II)I"⟩
abbrev cJ9_min_f86c9 : ByteArray := prog_13_method_70_code
def yJ9_min_f86c9 : MethodName := ⟨RJ9, "min", "(JJ)J"⟩
def RJ7 : String := "java/util/Arrays"
def TJ7 : u_T := fun k => match k with
  | _ => ("", "", "", false)
def tyJ7 : Nat → FieldType := fun k => match k with
  | _ => .int
abbrev cJ7_fill_d0a16 : ByteArray := prog_14_method_101_code
def yJ7_fill_d0a16 : MethodName := ⟨RJ7, "fill", "([JJ)V"⟩
abbrev cJ7_fill_53178 : ByteArray := prog_14_method_103_code
def yJ7_fill_53178 : MethodName := ⟨RJ7, "fill", "([II)V"⟩
abbrev vwCl : List vw_C := [(RX0, TX0, 4), (RX1, TX1, 10), (RX2, TX2, 3), (RX3, TX3, 6), (RX4, TX4, 2), (RX5, TX5, 6), (RX6, TX6, 4), (RX7, TX7, 10), (RX8, TX8, 8), (RX9, TX9, 34)]
def lw_good : List Cond := lw_tbl.filter goodWord
theorem q_mem {x : Cond} (i : Nat) (h : lw_tbl[i]? = some x) (hg : goodWord x = true) : x ∈ lw_good := List.mem_filter.mpr ⟨List.mem_of_getElem? h, hg⟩
theorem q_good {ws : List Cond} (h : ∀ w ∈ ws, w ∈ lw_good) : GoodIn lw_good ws := fun w hw => ⟨h w hw, good_of_word (List.mem_filter.mp (h w hw)).2⟩
