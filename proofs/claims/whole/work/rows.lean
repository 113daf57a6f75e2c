section
-- ===== PART A: goes FIRST, ahead of the names: the tables' words, and 'selects' of the private methods out of them =====
/-- a private method of a class that the tables say can be made, by its rows of tables_1 -/
def lw_okq (q : MethodName × Nat) : Prop := (q.1.cls ≠ "java/lang/invoke/MethodHandle" ∧ q.1.cls ≠ "java/lang/invoke/VarHandle") ∧ Cond.instantiable q.1.cls q.2 ∈ tables_1 ∧ Cond.privateMethod q.1 ∈ tables_1 ∧ Cond.instanceMethod q.1 ∈ tables_1
theorem lw_p0 : lw_okq (⟨"RoundAndRound", "textAt", "(I)LRoundAndRound$Text;"⟩, 15) := ⟨⟨by decide +kernel, by decide +kernel⟩, List.mem_of_getElem? (i := 15) (by decide +kernel), List.mem_of_getElem? (i := 206) (by decide +kernel), List.mem_of_getElem? (i := 207) (by decide +kernel)⟩
theorem lw_p1 : lw_okq (⟨"RoundAndRound$Reader", "advance", "()V"⟩, 9) := ⟨⟨by decide +kernel, by decide +kernel⟩, List.mem_of_getElem? (i := 91) (by decide +kernel), List.mem_of_getElem? (i := 218) (by decide +kernel), List.mem_of_getElem? (i := 219) (by decide +kernel)⟩
theorem lw_p2 : lw_okq (⟨"RoundAndRound$Reader", "byteAt", "(I)I"⟩, 9) := ⟨⟨by decide +kernel, by decide +kernel⟩, List.mem_of_getElem? (i := 91) (by decide +kernel), List.mem_of_getElem? (i := 222) (by decide +kernel), List.mem_of_getElem? (i := 223) (by decide +kernel)⟩
theorem lw_p3 : lw_okq (⟨"RoundAndRound$Reader", "takeWord", "()V"⟩, 9) := ⟨⟨by decide +kernel, by decide +kernel⟩, List.mem_of_getElem? (i := 91) (by decide +kernel), List.mem_of_getElem? (i := 232) (by decide +kernel), List.mem_of_getElem? (i := 233) (by decide +kernel)⟩
theorem lw_p4 : lw_okq (⟨"RoundAndRound$Reader", "takeNumber", "()V"⟩, 9) := ⟨⟨by decide +kernel, by decide +kernel⟩, List.mem_of_getElem? (i := 91) (by decide +kernel), List.mem_of_getElem? (i := 240) (by decide +kernel), List.mem_of_getElem? (i := 241) (by decide +kernel)⟩
theorem lw_p5 : lw_okq (⟨"RoundAndRound$Reader", "expect", "(I)V"⟩, 9) := ⟨⟨by decide +kernel, by decide +kernel⟩, List.mem_of_getElem? (i := 91) (by decide +kernel), List.mem_of_getElem? (i := 247) (by decide +kernel), List.mem_of_getElem? (i := 248) (by decide +kernel)⟩
theorem lw_p6 : lw_okq (⟨"RoundAndRound$Reader", "fail", "()V"⟩, 9) := ⟨⟨by decide +kernel, by decide +kernel⟩, List.mem_of_getElem? (i := 91) (by decide +kernel), List.mem_of_getElem? (i := 251) (by decide +kernel), List.mem_of_getElem? (i := 252) (by decide +kernel)⟩
theorem lw_p7 : lw_okq (⟨"RoundAndRound$Reader", "failed", "()Z"⟩, 9) := ⟨⟨by decide +kernel, by decide +kernel⟩, List.mem_of_getElem? (i := 91) (by decide +kernel), List.mem_of_getElem? (i := 255) (by decide +kernel), List.mem_of_getElem? (i := 256) (by decide +kernel)⟩
theorem lw_p8 : lw_okq (⟨"RoundAndRound$Reader", "readOr", "(LRoundAndRound$Text;)V"⟩, 9) := ⟨⟨by decide +kernel, by decide +kernel⟩, List.mem_of_getElem? (i := 91) (by decide +kernel), List.mem_of_getElem? (i := 259) (by decide +kernel), List.mem_of_getElem? (i := 260) (by decide +kernel)⟩
theorem lw_p9 : lw_okq (⟨"RoundAndRound$Reader", "readAnd", "(LRoundAndRound$Text;)V"⟩, 9) := ⟨⟨by decide +kernel, by decide +kernel⟩, List.mem_of_getElem? (i := 91) (by decide +kernel), List.mem_of_getElem? (i := 263) (by decide +kernel), List.mem_of_getElem? (i := 264) (by decide +kernel)⟩
theorem lw_p10 : lw_okq (⟨"RoundAndRound$Reader", "readNot", "(LRoundAndRound$Text;)V"⟩, 9) := ⟨⟨by decide +kernel, by decide +kernel⟩, List.mem_of_getElem? (i := 91) (by decide +kernel), List.mem_of_getElem? (i := 267) (by decide +kernel), List.mem_of_getElem? (i := 268) (by decide +kernel)⟩
theorem lw_p11 : lw_okq (⟨"RoundAndRound$Reader", "at", "(I)Z"⟩, 9) := ⟨⟨by decide +kernel, by decide +kernel⟩, List.mem_of_getElem? (i := 91) (by decide +kernel), List.mem_of_getElem? (i := 271) (by decide +kernel), List.mem_of_getElem? (i := 272) (by decide +kernel)⟩
theorem lw_p12 : lw_okq (⟨"RoundAndRound$Reader", "opened", "()Z"⟩, 9) := ⟨⟨by decide +kernel, by decide +kernel⟩, List.mem_of_getElem? (i := 91) (by decide +kernel), List.mem_of_getElem? (i := 275) (by decide +kernel), List.mem_of_getElem? (i := 276) (by decide +kernel)⟩
theorem lw_p13 : lw_okq (⟨"RoundAndRound$Reader", "readSum", "(LRoundAndRound$Text;)V"⟩, 9) := ⟨⟨by decide +kernel, by decide +kernel⟩, List.mem_of_getElem? (i := 91) (by decide +kernel), List.mem_of_getElem? (i := 283) (by decide +kernel), List.mem_of_getElem? (i := 284) (by decide +kernel)⟩
theorem lw_p14 : lw_okq (⟨"RoundAndRound$Reader", "readTerm", "(LRoundAndRound$Text;)V"⟩, 9) := ⟨⟨by decide +kernel, by decide +kernel⟩, List.mem_of_getElem? (i := 91) (by decide +kernel), List.mem_of_getElem? (i := 287) (by decide +kernel), List.mem_of_getElem? (i := 288) (by decide +kernel)⟩
theorem lw_p15 : lw_okq (⟨"RoundAndRound$Reader", "readOne", "(LRoundAndRound$Text;)V"⟩, 9) := ⟨⟨by decide +kernel, by decide +kernel⟩, List.mem_of_getElem? (i := 91) (by decide +kernel), List.mem_of_getElem? (i := 291) (by decide +kernel), List.mem_of_getElem? (i := 292) (by decide +kernel)⟩
def lw_privs_1 : List (MethodName × Nat) := [(⟨"RoundAndRound", "textAt", "(I)LRoundAndRound$Text;"⟩, 15), (⟨"RoundAndRound$Reader", "advance", "()V"⟩, 9), (⟨"RoundAndRound$Reader", "byteAt", "(I)I"⟩, 9), (⟨"RoundAndRound$Reader", "takeWord", "()V"⟩, 9), (⟨"RoundAndRound$Reader", "takeNumber", "()V"⟩, 9), (⟨"RoundAndRound$Reader", "expect", "(I)V"⟩, 9), (⟨"RoundAndRound$Reader", "fail", "()V"⟩, 9), (⟨"RoundAndRound$Reader", "failed", "()Z"⟩, 9), (⟨"RoundAndRound$Reader", "readOr", "(LRoundAndRound$Text;)V"⟩, 9), (⟨"RoundAndRound$Reader", "readAnd", "(LRoundAndRound$Text;)V"⟩, 9), (⟨"RoundAndRound$Reader", "readNot", "(LRoundAndRound$Text;)V"⟩, 9), (⟨"RoundAndRound$Reader", "at", "(I)Z"⟩, 9), (⟨"RoundAndRound$Reader", "opened", "()Z"⟩, 9), (⟨"RoundAndRound$Reader", "readSum", "(LRoundAndRound$Text;)V"⟩, 9), (⟨"RoundAndRound$Reader", "readTerm", "(LRoundAndRound$Text;)V"⟩, 9), (⟨"RoundAndRound$Reader", "readOne", "(LRoundAndRound$Text;)V"⟩, 9)]
theorem lw_r1 : ∀ q ∈ lw_privs_1, lw_okq q := List.forall_mem_cons.mpr ⟨lw_p0, List.forall_mem_cons.mpr ⟨lw_p1, List.forall_mem_cons.mpr ⟨lw_p2, List.forall_mem_cons.mpr ⟨lw_p3, List.forall_mem_cons.mpr ⟨lw_p4, List.forall_mem_cons.mpr ⟨lw_p5, List.forall_mem_cons.mpr ⟨lw_p6, List.forall_mem_cons.mpr ⟨lw_p7, List.forall_mem_cons.mpr ⟨lw_p8, List.forall_mem_cons.mpr ⟨lw_p9, List.forall_mem_cons.mpr ⟨lw_p10, List.forall_mem_cons.mpr ⟨lw_p11, List.forall_mem_cons.mpr ⟨lw_p12, List.forall_mem_cons.mpr ⟨lw_p13, List.forall_mem_cons.mpr ⟨lw_p14, List.forall_mem_cons.mpr ⟨lw_p15, fun _ h => absurd h List.not_mem_nil⟩⟩⟩⟩⟩⟩⟩⟩⟩⟩⟩⟩⟩⟩⟩⟩
theorem lw_p16 : lw_okq (⟨"RoundAndRound", "isHead", "(I)Z"⟩, 15) := ⟨⟨by decide +kernel, by decide +kernel⟩, List.mem_of_getElem? (i := 15) (by decide +kernel), List.mem_of_getElem? (i := 375) (by decide +kernel), List.mem_of_getElem? (i := 376) (by decide +kernel)⟩
theorem lw_p17 : lw_okq (⟨"RoundAndRound", "law", "()LRoundAndRound$Text;"⟩, 15) := ⟨⟨by decide +kernel, by decide +kernel⟩, List.mem_of_getElem? (i := 15) (by decide +kernel), List.mem_of_getElem? (i := 382) (by decide +kernel), List.mem_of_getElem? (i := 383) (by decide +kernel)⟩
theorem lw_p18 : lw_okq (⟨"RoundAndRound", "headAt", "(I)LRoundAndRound$Head;"⟩, 15) := ⟨⟨by decide +kernel, by decide +kernel⟩, List.mem_of_getElem? (i := 15) (by decide +kernel), List.mem_of_getElem? (i := 386) (by decide +kernel), List.mem_of_getElem? (i := 387) (by decide +kernel)⟩
theorem lw_p19 : lw_okq (⟨"RoundAndRound", "thinkTurned", "(LRoundAndRound$Head;LRoundAndRound$Text;II)V"⟩, 15) := ⟨⟨by decide +kernel, by decide +kernel⟩, List.mem_of_getElem? (i := 15) (by decide +kernel), List.mem_of_getElem? (i := 527) (by decide +kernel), List.mem_of_getElem? (i := 528) (by decide +kernel)⟩
theorem lw_p20 : lw_okq (⟨"RoundAndRound", "think", "(LRoundAndRound$Head;)V"⟩, 15) := ⟨⟨by decide +kernel, by decide +kernel⟩, List.mem_of_getElem? (i := 15) (by decide +kernel), List.mem_of_getElem? (i := 531) (by decide +kernel), List.mem_of_getElem? (i := 532) (by decide +kernel)⟩
theorem lw_p21 : lw_okq (⟨"RoundAndRound", "raceWait", "(LRoundAndRound$Head;III)I"⟩, 15) := ⟨⟨by decide +kernel, by decide +kernel⟩, List.mem_of_getElem? (i := 15) (by decide +kernel), List.mem_of_getElem? (i := 563) (by decide +kernel), List.mem_of_getElem? (i := 564) (by decide +kernel)⟩
theorem lw_p22 : lw_okq (⟨"RoundAndRound", "fillTurnedSenses", "(LRoundAndRound$Head;I)V"⟩, 15) := ⟨⟨by decide +kernel, by decide +kernel⟩, List.mem_of_getElem? (i := 15) (by decide +kernel), List.mem_of_getElem? (i := 587) (by decide +kernel), List.mem_of_getElem? (i := 588) (by decide +kernel)⟩
theorem lw_p23 : lw_okq (⟨"RoundAndRound", "refusalOfTold", "(II)I"⟩, 15) := ⟨⟨by decide +kernel, by decide +kernel⟩, List.mem_of_getElem? (i := 15) (by decide +kernel), List.mem_of_getElem? (i := 598) (by decide +kernel), List.mem_of_getElem? (i := 599) (by decide +kernel)⟩
theorem lw_p24 : lw_okq (⟨"RoundAndRound", "refusalOfSheet", "(I)I"⟩, 15) := ⟨⟨by decide +kernel, by decide +kernel⟩, List.mem_of_getElem? (i := 15) (by decide +kernel), List.mem_of_getElem? (i := 602) (by decide +kernel), List.mem_of_getElem? (i := 603) (by decide +kernel)⟩
theorem lw_p25 : lw_okq (⟨"RoundAndRound", "sheetAt", "(I)LRoundAndRound$Sheet;"⟩, 15) := ⟨⟨by decide +kernel, by decide +kernel⟩, List.mem_of_getElem? (i := 15) (by decide +kernel), List.mem_of_getElem? (i := 609) (by decide +kernel), List.mem_of_getElem? (i := 610) (by decide +kernel)⟩
theorem lw_p26 : lw_okq (⟨"RoundAndRound", "firstOtherwise", "(LRoundAndRound$Sheet;LRoundAndRound$Text;I)I"⟩, 15) := ⟨⟨by decide +kernel, by decide +kernel⟩, List.mem_of_getElem? (i := 15) (by decide +kernel), List.mem_of_getElem? (i := 617) (by decide +kernel), List.mem_of_getElem? (i := 618) (by decide +kernel)⟩
theorem lw_p27 : lw_okq (⟨"RoundAndRound", "thinkDrawn", "(LRoundAndRound$Head;III)V"⟩, 15) := ⟨⟨by decide +kernel, by decide +kernel⟩, List.mem_of_getElem? (i := 15) (by decide +kernel), List.mem_of_getElem? (i := 666) (by decide +kernel), List.mem_of_getElem? (i := 667) (by decide +kernel)⟩
theorem lw_p28 : lw_okq (⟨"RoundAndRound", "imageHeadAt", "(I)LRoundAndRound$Head;"⟩, 15) := ⟨⟨by decide +kernel, by decide +kernel⟩, List.mem_of_getElem? (i := 15) (by decide +kernel), List.mem_of_getElem? (i := 688) (by decide +kernel), List.mem_of_getElem? (i := 689) (by decide +kernel)⟩
theorem lw_p29 : lw_okq (⟨"RoundAndRoundModel", "next", "()V"⟩, 34) := ⟨⟨by decide +kernel, by decide +kernel⟩, List.mem_of_getElem? (i := 731) (by decide +kernel), List.mem_of_getElem? (i := 741) (by decide +kernel), List.mem_of_getElem? (i := 742) (by decide +kernel)⟩
theorem lw_p30 : lw_okq (⟨"RoundAndRoundModel", "wordFrom", "(II)I"⟩, 34) := ⟨⟨by decide +kernel, by decide +kernel⟩, List.mem_of_getElem? (i := 731) (by decide +kernel), List.mem_of_getElem? (i := 748) (by decide +kernel), List.mem_of_getElem? (i := 749) (by decide +kernel)⟩
theorem lw_p31 : lw_okq (⟨"RoundAndRoundModel", "eRead", "()Z"⟩, 34) := ⟨⟨by decide +kernel, by decide +kernel⟩, List.mem_of_getElem? (i := 731) (by decide +kernel), List.mem_of_getElem? (i := 752) (by decide +kernel), List.mem_of_getElem? (i := 753) (by decide +kernel)⟩
def lw_privs_2 : List (MethodName × Nat) := [(⟨"RoundAndRound", "isHead", "(I)Z"⟩, 15), (⟨"RoundAndRound", "law", "()LRoundAndRound$Text;"⟩, 15), (⟨"RoundAndRound", "headAt", "(I)LRoundAndRound$Head;"⟩, 15), (⟨"RoundAndRound", "thinkTurned", "(LRoundAndRound$Head;LRoundAndRound$Text;II)V"⟩, 15), (⟨"RoundAndRound", "think", "(LRoundAndRound$Head;)V"⟩, 15), (⟨"RoundAndRound", "raceWait", "(LRoundAndRound$Head;III)I"⟩, 15), (⟨"RoundAndRound", "fillTurnedSenses", "(LRoundAndRound$Head;I)V"⟩, 15), (⟨"RoundAndRound", "refusalOfTold", "(II)I"⟩, 15), (⟨"RoundAndRound", "refusalOfSheet", "(I)I"⟩, 15), (⟨"RoundAndRound", "sheetAt", "(I)LRoundAndRound$Sheet;"⟩, 15), (⟨"RoundAndRound", "firstOtherwise", "(LRoundAndRound$Sheet;LRoundAndRound$Text;I)I"⟩, 15), (⟨"RoundAndRound", "thinkDrawn", "(LRoundAndRound$Head;III)V"⟩, 15), (⟨"RoundAndRound", "imageHeadAt", "(I)LRoundAndRound$Head;"⟩, 15), (⟨"RoundAndRoundModel", "next", "()V"⟩, 34), (⟨"RoundAndRoundModel", "wordFrom", "(II)I"⟩, 34), (⟨"RoundAndRoundModel", "eRead", "()Z"⟩, 34)]
theorem lw_r2 : ∀ q ∈ lw_privs_2, lw_okq q := List.forall_mem_cons.mpr ⟨lw_p16, List.forall_mem_cons.mpr ⟨lw_p17, List.forall_mem_cons.mpr ⟨lw_p18, List.forall_mem_cons.mpr ⟨lw_p19, List.forall_mem_cons.mpr ⟨lw_p20, List.forall_mem_cons.mpr ⟨lw_p21, List.forall_mem_cons.mpr ⟨lw_p22, List.forall_mem_cons.mpr ⟨lw_p23, List.forall_mem_cons.mpr ⟨lw_p24, List.forall_mem_cons.mpr ⟨lw_p25, List.forall_mem_cons.mpr ⟨lw_p26, List.forall_mem_cons.mpr ⟨lw_p27, List.forall_mem_cons.mpr ⟨lw_p28, List.forall_mem_cons.mpr ⟨lw_p29, List.forall_mem_cons.mpr ⟨lw_p30, List.forall_mem_cons.mpr ⟨lw_p31, fun _ h => absurd h List.not_mem_nil⟩⟩⟩⟩⟩⟩⟩⟩⟩⟩⟩⟩⟩⟩⟩⟩
theorem lw_p32 : lw_okq (⟨"RoundAndRoundModel", "puts", "(I)V"⟩, 34) := ⟨⟨by decide +kernel, by decide +kernel⟩, List.mem_of_getElem? (i := 731) (by decide +kernel), List.mem_of_getElem? (i := 757) (by decide +kernel), List.mem_of_getElem? (i := 758) (by decide +kernel)⟩
theorem lw_p33 : lw_okq (⟨"RoundAndRoundModel", "unwinds", "(I)V"⟩, 34) := ⟨⟨by decide +kernel, by decide +kernel⟩, List.mem_of_getElem? (i := 731) (by decide +kernel), List.mem_of_getElem? (i := 761) (by decide +kernel), List.mem_of_getElem? (i := 762) (by decide +kernel)⟩
theorem lw_p34 : lw_okq (⟨"RoundAndRoundModel", "opensOne", "(I)Z"⟩, 34) := ⟨⟨by decide +kernel, by decide +kernel⟩, List.mem_of_getElem? (i := 731) (by decide +kernel), List.mem_of_getElem? (i := 768) (by decide +kernel), List.mem_of_getElem? (i := 769) (by decide +kernel)⟩
theorem lw_p35 : lw_okq (⟨"RoundAndRoundModel", "holds", "(I)V"⟩, 34) := ⟨⟨by decide +kernel, by decide +kernel⟩, List.mem_of_getElem? (i := 731) (by decide +kernel), List.mem_of_getElem? (i := 772) (by decide +kernel), List.mem_of_getElem? (i := 773) (by decide +kernel)⟩
theorem lw_p36 : lw_okq (⟨"RoundAndRoundModel", "signOf", "()I"⟩, 34) := ⟨⟨by decide +kernel, by decide +kernel⟩, List.mem_of_getElem? (i := 731) (by decide +kernel), List.mem_of_getElem? (i := 776) (by decide +kernel), List.mem_of_getElem? (i := 777) (by decide +kernel)⟩
theorem lw_p37 : lw_okq (⟨"RoundAndRoundModel", "between", "(I)Z"⟩, 34) := ⟨⟨by decide +kernel, by decide +kernel⟩, List.mem_of_getElem? (i := 731) (by decide +kernel), List.mem_of_getElem? (i := 780) (by decide +kernel), List.mem_of_getElem? (i := 781) (by decide +kernel)⟩
theorem lw_p38 : lw_okq (⟨"RoundAndRoundModel", "isHead", "(I)Z"⟩, 34) := ⟨⟨by decide +kernel, by decide +kernel⟩, List.mem_of_getElem? (i := 731) (by decide +kernel), List.mem_of_getElem? (i := 907) (by decide +kernel), List.mem_of_getElem? (i := 908) (by decide +kernel)⟩
theorem lw_p39 : lw_okq (⟨"RoundAndRoundModel", "asksOf", "(IIII)I"⟩, 34) := ⟨⟨by decide +kernel, by decide +kernel⟩, List.mem_of_getElem? (i := 731) (by decide +kernel), List.mem_of_getElem? (i := 911) (by decide +kernel), List.mem_of_getElem? (i := 912) (by decide +kernel)⟩
theorem lw_p40 : lw_okq (⟨"RoundAndRoundModel", "says", "(I)I"⟩, 34) := ⟨⟨by decide +kernel, by decide +kernel⟩, List.mem_of_getElem? (i := 731) (by decide +kernel), List.mem_of_getElem? (i := 915) (by decide +kernel), List.mem_of_getElem? (i := 916) (by decide +kernel)⟩
theorem lw_p41 : lw_okq (⟨"RoundAndRoundModel", "fallsFrom", "(I)I"⟩, 34) := ⟨⟨by decide +kernel, by decide +kernel⟩, List.mem_of_getElem? (i := 731) (by decide +kernel), List.mem_of_getElem? (i := 939) (by decide +kernel), List.mem_of_getElem? (i := 940) (by decide +kernel)⟩
theorem lw_p42 : lw_okq (⟨"RoundAndRoundModel", "takes", "(I)V"⟩, 34) := ⟨⟨by decide +kernel, by decide +kernel⟩, List.mem_of_getElem? (i := 731) (by decide +kernel), List.mem_of_getElem? (i := 950) (by decide +kernel), List.mem_of_getElem? (i := 951) (by decide +kernel)⟩
theorem lw_p43 : lw_okq (⟨"RoundAndRoundModel", "turns", "(III)V"⟩, 34) := ⟨⟨by decide +kernel, by decide +kernel⟩, List.mem_of_getElem? (i := 731) (by decide +kernel), List.mem_of_getElem? (i := 954) (by decide +kernel), List.mem_of_getElem? (i := 955) (by decide +kernel)⟩
theorem lw_p44 : lw_okq (⟨"RoundAndRoundModel", "buildsOf", "(II)I"⟩, 34) := ⟨⟨by decide +kernel, by decide +kernel⟩, List.mem_of_getElem? (i := 731) (by decide +kernel), List.mem_of_getElem? (i := 961) (by decide +kernel), List.mem_of_getElem? (i := 962) (by decide +kernel)⟩
theorem lw_p45 : lw_okq (⟨"RoundAndRoundModel", "fade", "(II)V"⟩, 34) := ⟨⟨by decide +kernel, by decide +kernel⟩, List.mem_of_getElem? (i := 731) (by decide +kernel), List.mem_of_getElem? (i := 965) (by decide +kernel), List.mem_of_getElem? (i := 966) (by decide +kernel)⟩
theorem lw_p46 : lw_okq (⟨"RoundAndRoundModel", "fadesOf", "(II)I"⟩, 34) := ⟨⟨by decide +kernel, by decide +kernel⟩, List.mem_of_getElem? (i := 731) (by decide +kernel), List.mem_of_getElem? (i := 969) (by decide +kernel), List.mem_of_getElem? (i := 970) (by decide +kernel)⟩
theorem lw_p47 : lw_okq (⟨"RoundAndRoundModel", "lays", "(I)V"⟩, 34) := ⟨⟨by decide +kernel, by decide +kernel⟩, List.mem_of_getElem? (i := 731) (by decide +kernel), List.mem_of_getElem? (i := 973) (by decide +kernel), List.mem_of_getElem? (i := 974) (by decide +kernel)⟩
def lw_privs_3 : List (MethodName × Nat) := [(⟨"RoundAndRoundModel", "puts", "(I)V"⟩, 34), (⟨"RoundAndRoundModel", "unwinds", "(I)V"⟩, 34), (⟨"RoundAndRoundModel", "opensOne", "(I)Z"⟩, 34), (⟨"RoundAndRoundModel", "holds", "(I)V"⟩, 34), (⟨"RoundAndRoundModel", "signOf", "()I"⟩, 34), (⟨"RoundAndRoundModel", "between", "(I)Z"⟩, 34), (⟨"RoundAndRoundModel", "isHead", "(I)Z"⟩, 34), (⟨"RoundAndRoundModel", "asksOf", "(IIII)I"⟩, 34), (⟨"RoundAndRoundModel", "says", "(I)I"⟩, 34), (⟨"RoundAndRoundModel", "fallsFrom", "(I)I"⟩, 34), (⟨"RoundAndRoundModel", "takes", "(I)V"⟩, 34), (⟨"RoundAndRoundModel", "turns", "(III)V"⟩, 34), (⟨"RoundAndRoundModel", "buildsOf", "(II)I"⟩, 34), (⟨"RoundAndRoundModel", "fade", "(II)V"⟩, 34), (⟨"RoundAndRoundModel", "fadesOf", "(II)I"⟩, 34), (⟨"RoundAndRoundModel", "lays", "(I)V"⟩, 34)]
theorem lw_r3 : ∀ q ∈ lw_privs_3, lw_okq q := List.forall_mem_cons.mpr ⟨lw_p32, List.forall_mem_cons.mpr ⟨lw_p33, List.forall_mem_cons.mpr ⟨lw_p34, List.forall_mem_cons.mpr ⟨lw_p35, List.forall_mem_cons.mpr ⟨lw_p36, List.forall_mem_cons.mpr ⟨lw_p37, List.forall_mem_cons.mpr ⟨lw_p38, List.forall_mem_cons.mpr ⟨lw_p39, List.forall_mem_cons.mpr ⟨lw_p40, List.forall_mem_cons.mpr ⟨lw_p41, List.forall_mem_cons.mpr ⟨lw_p42, List.forall_mem_cons.mpr ⟨lw_p43, List.forall_mem_cons.mpr ⟨lw_p44, List.forall_mem_cons.mpr ⟨lw_p45, List.forall_mem_cons.mpr ⟨lw_p46, List.forall_mem_cons.mpr ⟨lw_p47, fun _ h => absurd h List.not_mem_nil⟩⟩⟩⟩⟩⟩⟩⟩⟩⟩⟩⟩⟩⟩⟩⟩
theorem lw_p48 : lw_okq (⟨"RoundAndRoundModel", "waits", "(III)V"⟩, 34) := ⟨⟨by decide +kernel, by decide +kernel⟩, List.mem_of_getElem? (i := 731) (by decide +kernel), List.mem_of_getElem? (i := 981) (by decide +kernel), List.mem_of_getElem? (i := 982) (by decide +kernel)⟩
theorem lw_p49 : lw_okq (⟨"RoundAndRoundModel", "walks", "(IIII)V"⟩, 34) := ⟨⟨by decide +kernel, by decide +kernel⟩, List.mem_of_getElem? (i := 731) (by decide +kernel), List.mem_of_getElem? (i := 989) (by decide +kernel), List.mem_of_getElem? (i := 990) (by decide +kernel)⟩
theorem lw_p50 : lw_okq (⟨"RoundAndRoundModel", "step", "(IIII)V"⟩, 34) := ⟨⟨by decide +kernel, by decide +kernel⟩, List.mem_of_getElem? (i := 731) (by decide +kernel), List.mem_of_getElem? (i := 993) (by decide +kernel), List.mem_of_getElem? (i := 994) (by decide +kernel)⟩
theorem lw_p51 : lw_okq (⟨"RoundAndRoundModel", "tries", "(IIIIII)V"⟩, 34) := ⟨⟨by decide +kernel, by decide +kernel⟩, List.mem_of_getElem? (i := 731) (by decide +kernel), List.mem_of_getElem? (i := 1010) (by decide +kernel), List.mem_of_getElem? (i := 1011) (by decide +kernel)⟩
theorem lw_p52 : lw_okq (⟨"RoundAndRoundModel", "begins", "(I)V"⟩, 34) := ⟨⟨by decide +kernel, by decide +kernel⟩, List.mem_of_getElem? (i := 731) (by decide +kernel), List.mem_of_getElem? (i := 1014) (by decide +kernel), List.mem_of_getElem? (i := 1015) (by decide +kernel)⟩
theorem lw_p53 : lw_okq (⟨"RoundAndRoundModel", "raceOf", "(IIIII)I"⟩, 34) := ⟨⟨by decide +kernel, by decide +kernel⟩, List.mem_of_getElem? (i := 731) (by decide +kernel), List.mem_of_getElem? (i := 1038) (by decide +kernel), List.mem_of_getElem? (i := 1039) (by decide +kernel)⟩
theorem lw_p54 : lw_okq (⟨"RoundAndRoundModel", "toldWrong", "(IIII)I"⟩, 34) := ⟨⟨by decide +kernel, by decide +kernel⟩, List.mem_of_getElem? (i := 731) (by decide +kernel), List.mem_of_getElem? (i := 1061) (by decide +kernel), List.mem_of_getElem? (i := 1062) (by decide +kernel)⟩
theorem lw_p55 : lw_okq (⟨"RoundAndRoundModel", "sheetWrong", "(I)I"⟩, 34) := ⟨⟨by decide +kernel, by decide +kernel⟩, List.mem_of_getElem? (i := 731) (by decide +kernel), List.mem_of_getElem? (i := 1065) (by decide +kernel), List.mem_of_getElem? (i := 1066) (by decide +kernel)⟩
theorem lw_p56 : lw_okq (⟨"RoundAndRoundModel", "unlike", "(IIII)I"⟩, 34) := ⟨⟨by decide +kernel, by decide +kernel⟩, List.mem_of_getElem? (i := 731) (by decide +kernel), List.mem_of_getElem? (i := 1069) (by decide +kernel), List.mem_of_getElem? (i := 1070) (by decide +kernel)⟩
theorem lw_p57 : lw_okq (⟨"RoundAndRoundModel", "walkBy", "(IIII)V"⟩, 34) := ⟨⟨by decide +kernel, by decide +kernel⟩, List.mem_of_getElem? (i := 731) (by decide +kernel), List.mem_of_getElem? (i := 1100) (by decide +kernel), List.mem_of_getElem? (i := 1101) (by decide +kernel)⟩
def lw_privs_4 : List (MethodName × Nat) := [(⟨"RoundAndRoundModel", "waits", "(III)V"⟩, 34), (⟨"RoundAndRoundModel", "walks", "(IIII)V"⟩, 34), (⟨"RoundAndRoundModel", "step", "(IIII)V"⟩, 34), (⟨"RoundAndRoundModel", "tries", "(IIIIII)V"⟩, 34), (⟨"RoundAndRoundModel", "begins", "(I)V"⟩, 34), (⟨"RoundAndRoundModel", "raceOf", "(IIIII)I"⟩, 34), (⟨"RoundAndRoundModel", "toldWrong", "(IIII)I"⟩, 34), (⟨"RoundAndRoundModel", "sheetWrong", "(I)I"⟩, 34), (⟨"RoundAndRoundModel", "unlike", "(IIII)I"⟩, 34), (⟨"RoundAndRoundModel", "walkBy", "(IIII)V"⟩, 34)]
theorem lw_r4 : ∀ q ∈ lw_privs_4, lw_okq q := List.forall_mem_cons.mpr ⟨lw_p48, List.forall_mem_cons.mpr ⟨lw_p49, List.forall_mem_cons.mpr ⟨lw_p50, List.forall_mem_cons.mpr ⟨lw_p51, List.forall_mem_cons.mpr ⟨lw_p52, List.forall_mem_cons.mpr ⟨lw_p53, List.forall_mem_cons.mpr ⟨lw_p54, List.forall_mem_cons.mpr ⟨lw_p55, List.forall_mem_cons.mpr ⟨lw_p56, List.forall_mem_cons.mpr ⟨lw_p57, fun _ h => absurd h List.not_mem_nil⟩⟩⟩⟩⟩⟩⟩⟩⟩⟩
def lw_privs : List (MethodName × Nat) := lw_privs_1 ++ (lw_privs_2 ++ (lw_privs_3 ++ (lw_privs_4)))
def lw_tbl : List Cond := k2_sels lw_privs ++ tables_1
theorem lw_privs_ok : ∀ q ∈ lw_privs, lw_okq q := by
  show ∀ q ∈ lw_privs_1 ++ (lw_privs_2 ++ (lw_privs_3 ++ (lw_privs_4))), lw_okq q
  exact List.forall_mem_append.mpr ⟨lw_r1, List.forall_mem_append.mpr ⟨lw_r2, List.forall_mem_append.mpr ⟨lw_r3, lw_r4⟩⟩⟩
end
section
-- names: classes, their fields in the order of declaration
def R_X : String := "RoundAndRound"
def F_X : u_T := fun k => match k with
  | 0 => ("RoundAndRound", "heads", "[LRoundAndRound$Head;", true)
  | 1 => ("RoundAndRound", "imageHeads", "[LRoundAndRound$Head;", true)
  | 2 => ("RoundAndRound", "thought", "LRoundAndRound$Head;", true)
  | 3 => ("RoundAndRound", "ahead", "LRoundAndRound$Head;", true)
  | 4 => ("RoundAndRound", "turnedSenses", "[I", true)
  | 5 => ("RoundAndRound", "texts", "[LRoundAndRound$Text;", true)
  | 6 => ("RoundAndRound", "noText", "LRoundAndRound$Text;", true)
  | 7 => ("RoundAndRound", "reader", "LRoundAndRound$Reader;", true)
  | 8 => ("RoundAndRound", "sheets", "[LRoundAndRound$Sheet;", true)
  | 9 => ("RoundAndRound", "noSheet", "LRoundAndRound$Sheet;", true)
  | 10 => ("RoundAndRound", "headCount", "I", false)
  | 11 => ("RoundAndRound", "textCount", "I", false)
  | 12 => ("RoundAndRound", "lawNumber", "I", false)
  | 13 => ("RoundAndRound", "imageCount", "I", false)
  | _ => ("RoundAndRound", "imageLaw", "I", false)
def t_X : Nat → FieldType := fun k => match k with
  | 0 => .array (.object "RoundAndRound$Head")
  | 1 => .array (.object "RoundAndRound$Head")
  | 2 => .object "RoundAndRound$Head"
  | 3 => .object "RoundAndRound$Head"
  | 4 => .array (.int)
  | 5 => .array (.object "RoundAndRound$Text")
  | 6 => .object "RoundAndRound$Text"
  | 7 => .object "RoundAndRound$Reader"
  | 8 => .array (.object "RoundAndRound$Sheet")
  | 9 => .object "RoundAndRound$Sheet"
  | 10 => .int
  | 11 => .int
  | 12 => .int
  | 13 => .int
  | _ => .int
theorem n_X : ∀ a, a < 15 → ∀ b, b < 15 → a ≠ b → (F_X a).2.1 ≠ (F_X b).2.1 := by decide +kernel
theorem t_X_ok : ∀ k, k < 15 → parseFieldDescriptor (F_X k).2.2.1 = some (t_X k) := by decide +kernel
def R_Head : String := "RoundAndRound$Head"
def F_Head : u_T := fun k => match k with
  | 0 => ("RoundAndRound$Head", "kind", "I", false)
  | 1 => ("RoundAndRound$Head", "more", "I", false)
  | 2 => ("RoundAndRound$Head", "sense", "I", false)
  | 3 => ("RoundAndRound$Head", "cake", "I", false)
  | 4 => ("RoundAndRound$Head", "used", "I", false)
  | 5 => ("RoundAndRound$Head", "along", "I", false)
  | 6 => ("RoundAndRound$Head", "aside", "I", false)
  | _ => ("RoundAndRound$Head", "down", "Z", false)
def t_Head : Nat → FieldType := fun k => match k with
  | 0 => .int
  | 1 => .int
  | 2 => .int
  | 3 => .int
  | 4 => .int
  | 5 => .int
  | 6 => .int
  | _ => .boolean
theorem n_Head : ∀ a, a < 8 → ∀ b, b < 8 → a ≠ b → (F_Head a).2.1 ≠ (F_Head b).2.1 := by decide +kernel
theorem t_Head_ok : ∀ k, k < 8 → parseFieldDescriptor (F_Head k).2.2.1 = some (t_Head k) := by decide +kernel
def R_Text : String := "RoundAndRound$Text"
def F_Text : u_T := fun k => match k with
  | 0 => ("RoundAndRound$Text", "code", "[I", true)
  | 1 => ("RoundAndRound$Text", "partEnds", "[I", true)
  | 2 => ("RoundAndRound$Text", "stack", "[I", true)
  | 3 => ("RoundAndRound$Text", "size", "I", false)
  | _ => ("RoundAndRound$Text", "parts", "I", false)
def t_Text : Nat → FieldType := fun k => match k with
  | 0 => .array (.int)
  | 1 => .array (.int)
  | 2 => .array (.int)
  | 3 => .int
  | _ => .int
theorem n_Text : ∀ a, a < 5 → ∀ b, b < 5 → a ≠ b → (F_Text a).2.1 ≠ (F_Text b).2.1 := by decide +kernel
theorem t_Text_ok : ∀ k, k < 5 → parseFieldDescriptor (F_Text k).2.2.1 = some (t_Text k) := by decide +kernel
def R_Reader : String := "RoundAndRound$Reader"
def F_Reader : u_T := fun k => match k with
  | 0 => ("RoundAndRound$Reader", "tape", "[I", true)
  | 1 => ("RoundAndRound$Reader", "words", "[J", true)
  | 2 => ("RoundAndRound$Reader", "size", "I", false)
  | 3 => ("RoundAndRound$Reader", "next", "I", false)
  | 4 => ("RoundAndRound$Reader", "place", "I", false)
  | 5 => ("RoundAndRound$Reader", "token", "I", false)
  | 6 => ("RoundAndRound$Reader", "number", "I", false)
  | 7 => ("RoundAndRound$Reader", "open", "I", false)
  | _ => ("RoundAndRound$Reader", "fault", "I", false)
def t_Reader : Nat → FieldType := fun k => match k with
  | 0 => .array (.int)
  | 1 => .array (.long)
  | 2 => .int
  | 3 => .int
  | 4 => .int
  | 5 => .int
  | 6 => .int
  | 7 => .int
  | _ => .int
theorem n_Reader : ∀ a, a < 9 → ∀ b, b < 9 → a ≠ b → (F_Reader a).2.1 ≠ (F_Reader b).2.1 := by decide +kernel
theorem t_Reader_ok : ∀ k, k < 9 → parseFieldDescriptor (F_Reader k).2.2.1 = some (t_Reader k) := by decide +kernel
def R_Sheet : String := "RoundAndRound$Sheet"
def F_Sheet : u_T := fun k => match k with
  | 0 => ("RoundAndRound$Sheet", "cells", "[I", true)
  | 1 => ("RoundAndRound$Sheet", "sort", "I", false)
  | _ => ("RoundAndRound$Sheet", "size", "I", false)
def t_Sheet : Nat → FieldType := fun k => match k with
  | 0 => .array (.int)
  | 1 => .int
  | _ => .int
theorem n_Sheet : ∀ a, a < 3 → ∀ b, b < 3 → a ≠ b → (F_Sheet a).2.1 ≠ (F_Sheet b).2.1 := by decide +kernel
theorem t_Sheet_ok : ∀ k, k < 3 → parseFieldDescriptor (F_Sheet k).2.2.1 = some (t_Sheet k) := by decide +kernel
def R_Model : String := "RoundAndRoundModel"
def F_Model : u_T := fun k => match k with
  | 0 => ("RoundAndRoundModel", "heads", "I", false)
  | 1 => ("RoundAndRoundModel", "kind", "[I", true)
  | 2 => ("RoundAndRoundModel", "moreOf", "[I", true)
  | 3 => ("RoundAndRoundModel", "rows", "[I", true)
  | 4 => ("RoundAndRoundModel", "tape", "[I", true)
  | 5 => ("RoundAndRoundModel", "taped", "I", false)
  | 6 => ("RoundAndRoundModel", "codes", "[I", true)
  | 7 => ("RoundAndRoundModel", "starts", "[I", true)
  | 8 => ("RoundAndRoundModel", "texts", "I", false)
  | 9 => ("RoundAndRoundModel", "rule", "I", false)
  | 10 => ("RoundAndRoundModel", "hasImage", "Z", false)
  | 11 => ("RoundAndRoundModel", "imageHeads", "I", false)
  | 12 => ("RoundAndRoundModel", "imageRule", "I", false)
  | 13 => ("RoundAndRoundModel", "imageRows", "[I", true)
  | 14 => ("RoundAndRoundModel", "sheetSort", "[I", true)
  | 15 => ("RoundAndRoundModel", "sheetSize", "[I", true)
  | 16 => ("RoundAndRoundModel", "cells", "[I", true)
  | 17 => ("RoundAndRoundModel", "law", "[I", true)
  | 18 => ("RoundAndRoundModel", "at", "I", false)
  | 19 => ("RoundAndRoundModel", "begun", "I", false)
  | 20 => ("RoundAndRoundModel", "token", "I", false)
  | 21 => ("RoundAndRoundModel", "value", "I", false)
  | 22 => ("RoundAndRoundModel", "words", "[I", true)
  | 23 => ("RoundAndRoundModel", "held", "[I", true)
  | 24 => ("RoundAndRoundModel", "heldMany", "I", false)
  | 25 => ("RoundAndRoundModel", "opens", "I", false)
  | 26 => ("RoundAndRoundModel", "out", "I", false)
  | 27 => ("RoundAndRoundModel", "stack", "[I", true)
  | 28 => ("RoundAndRoundModel", "named", "[I", true)
  | 29 => ("RoundAndRoundModel", "sense", "I", false)
  | 30 => ("RoundAndRoundModel", "along", "I", false)
  | 31 => ("RoundAndRoundModel", "aside", "I", false)
  | 32 => ("RoundAndRoundModel", "down", "Z", false)
  | _ => ("RoundAndRoundModel", "fellIn", "I", false)
def t_Model : Nat → FieldType := fun k => match k with
  | 0 => .int
  | 1 => .array (.int)
  | 2 => .array (.int)
  | 3 => .array (.int)
  | 4 => .array (.int)
  | 5 => .int
  | 6 => .array (.int)
  | 7 => .array (.int)
  | 8 => .int
  | 9 => .int
  | 10 => .boolean
  | 11 => .int
  | 12 => .int
  | 13 => .array (.int)
  | 14 => .array (.int)
  | 15 => .array (.int)
  | 16 => .array (.int)
  | 17 => .array (.int)
  | 18 => .int
  | 19 => .int
  | 20 => .int
  | 21 => .int
  | 22 => .array (.int)
  | 23 => .array (.int)
  | 24 => .int
  | 25 => .int
  | 26 => .int
  | 27 => .array (.int)
  | 28 => .array (.int)
  | 29 => .int
  | 30 => .int
  | 31 => .int
  | 32 => .boolean
  | _ => .int
theorem n_Model : ∀ a, a < 34 → ∀ b, b < 34 → a ≠ b → (F_Model a).2.1 ≠ (F_Model b).2.1 := by decide +kernel
theorem t_Model_ok : ∀ k, k < 34 → parseFieldDescriptor (F_Model k).2.2.1 = some (t_Model k) := by decide +kernel
abbrev classes : List vw_C := [(R_X, F_X, 15), (R_Head, F_Head, 8), (R_Text, F_Text, 5), (R_Reader, F_Reader, 9), (R_Sheet, F_Sheet, 3), (R_Model, F_Model, 34)]
abbrev xT : List Cond := lw_tbl.filter goodWord
theorem xT_in {w : Cond} (h : w ∈ xT) : w ∈ lw_tbl := (List.mem_filter.mp h).1
theorem xT_of {w : Cond} (i : Nat) (h : lw_tbl[i]? = some w) (g : goodWord w = true) : w ∈ xT := List.mem_filter.mpr ⟨List.mem_of_getElem? h, g⟩
theorem i_X : ∀ w ∈ u_ws R_X F_X 15, w ∈ xT := by decide +kernel
theorem i_Head : ∀ w ∈ u_ws R_Head F_Head 8, w ∈ xT := by decide +kernel
theorem i_Text : ∀ w ∈ u_ws R_Text F_Text 5, w ∈ xT := by decide +kernel
theorem i_Reader : ∀ w ∈ u_ws R_Reader F_Reader 9, w ∈ xT := by decide +kernel
theorem i_Sheet : ∀ w ∈ u_ws R_Sheet F_Sheet 3, w ∈ xT := by decide +kernel
theorem i_Model : ∀ w ∈ u_ws R_Model F_Model 34, w ∈ xT := by decide +kernel
end
section
-- the layer: a world is a memory M by numbers; its object number k stands at address base + k
abbrev xG : Type := va_G × (Nat → ClassId) × Nat
def xg (G : xG) (k : Nat) : Nat := G.2.2 + k
abbrev xA : Type := (Nat × vp_A) ⊕ (Nat × List Value)
abbrev xE : Type := xA ⊕ Nat
abbrev xM : Type := Nat → Option xE
def xup {α : Type} (f : Nat → α) (k : Nat) (v : α) : Nat → α := fun j => if j = k then v else f j
theorem xup_s {α : Type} (f : Nat → α) (k : Nat) (v : α) : xup f k v k = v := if_pos rfl
theorem xup_n {α : Type} (f : Nat → α) {k j : Nat} (v : α) (h : j ≠ k) : xup f k v j = f j := if_neg h
def xtys (G : xG) : List (ClassId × FieldType) := [(G.2.1 0, .int), (G.2.1 1, .long), (G.2.1 2, .object R_Head), (G.2.1 3, .object R_Text), (G.2.1 4, .object R_Sheet)]
def xcv (G : xG) : xA → va_E
  | .inl (k, x) => .inl (G.2.1 k, x)
  | .inr o => .inr o
def xat (G : xG) (k : Nat) (x : xE) (H : Heap) : Prop := match x with
  | .inl a => va_at G.1 classes (xg G k, xcv G a) H
  | .inr n => ∃ f : Nat → Int32, va_at G.1 classes (xg G k, .inl (G.2.1 0, n, .inl f)) H
def xH (G : xG) (n : Nat) (M : xM) (H : Heap) : Prop := H.size = xg G n ∧ (∀ k, n ≤ k → M k = none) ∧ ∀ k x, M k = some x → xat G k x H
def xnest : List Cond := [.methodLinkNest "RoundAndRound" 18 ⟨R_Head, "<init>", "()V"⟩ "RoundAndRound", .methodLinkNest "RoundAndRound" 36 ⟨R_Text, "<init>", "()V"⟩ "RoundAndRound", .methodLinkNest "RoundAndRound" 54 ⟨R_Sheet, "<init>", "()V"⟩ "RoundAndRound", .methodLinkNest "RoundAndRound$Head" 68 ⟨R_X, "bounded", "(III)I"⟩ "RoundAndRound", .methodLinkNest "RoundAndRound$Kind" 21 ⟨R_X, "bounded", "(III)I"⟩ "RoundAndRound", .methodLinkNest "RoundAndRound$Sheet" 22 ⟨R_X, "bounded", "(III)I"⟩ "RoundAndRound", .methodLinkNest "RoundAndRound$Text" 49 ⟨R_X, "bounded", "(III)I"⟩ "RoundAndRound"]
def xK (G : xG) (U : State) : Prop := va_K G.1 classes (xtys G) U ∧ (∀ w ∈ xnest, va_Nw w U) ∧ va_AO R_Head U ∧ va_AO R_Text U ∧ va_AO R_Sheet U
def xF (G : xG) : Nat → Prop := fun q => G.2.2 ≤ q
theorem xK_warm {G : xG} {s U : State} (hW : s.WarmedH U.vm) (h : xK G s) : xK G U := by
  obtain ⟨h1, h2, h3, h4, h5⟩ := h
  refine ⟨va_K.moved hW.alike h1, ?_, h3.moved hW.alike, h4.moved hW.alike, h5.moved hW.alike⟩
  simp only [xnest, List.forall_mem_cons] at h2 ⊢
  obtain ⟨a1, a2, a3, a4, a5, a6, a7, -⟩ := h2
  exact ⟨va_Nw.warmM hW a1, va_Nw.warmM hW a2, va_Nw.warmM hW a3, va_Nw.warmM hW a4, va_Nw.warmM hW a5, va_Nw.warmM hW a6, va_Nw.warmM hW a7, fun _ h => absurd h List.not_mem_nil⟩
theorem xK_same {G : xG} {u U : State} (hv : u.vm = U.vm) (h : xK G u) : xK G U := by
  obtain ⟨h1, h2, h3, h4, h5⟩ := h
  have ha : u.vm.Alike U.vm := by rw [hv]; exact Vm.Alike.refl _
  refine ⟨va_K.moved ha h1, ?_, h3.moved ha, h4.moved ha, h5.moved ha⟩
  simp only [xnest, List.forall_mem_cons] at h2 ⊢
  obtain ⟨a1, a2, a3, a4, a5, a6, a7, -⟩ := h2
  exact ⟨va_Nw.same rfl hv a1, va_Nw.same rfl hv a2, va_Nw.same rfl hv a3, va_Nw.same rfl hv a4, va_Nw.same rfl hv a5, va_Nw.same rfl hv a6, va_Nw.same rfl hv a7, fun _ h => absurd h List.not_mem_nil⟩
/-- what a method needs to know of the machine -/
def xC (p : Program) (s : State) (m : MethodId) (args : Array Value) (meth : Method) (c : Code) (G : xG) (y : MethodName) (cc : ByteArray) (ml : Nat) (rt : Option FieldType) (K : Array Value → State → Prop) : Prop :=
  p.tables.exec = Jvm.exec ∧ c.code = cc ∧ c.maxLocals = ml ∧ meth.sig.returnType = rt ∧ meth.locks = false ∧ s.vm.findClass y.cls = some m.cls ∧ meth.name = y.name ∧ (∀ w ∈ xT, w.before args s = true) ∧ xK G s ∧ K args s ∧ G.2.2 ≤ s.heap.size
/-- from here the method comes to its end as Z says -/
def XW (l : Launch) (G : xG) (R : Room) (y : MethodName) (cc : ByteArray) (ml : Nat) (rt : Option FieldType) (K : Array Value → State → Prop) (Z : List Frame → Array Value → State → State → Prop) (n : Nat) (M : xM) (k sl pc : Nat) (L : List (Nat × Value)) (st : List Value) : Prop :=
  ∀ (p : Program) (e : Env) (s : State) (m : MethodId) (args : Array Value) (below : List Frame) (meth : Method) (c : Code) (H : Heap) (locs : List Loc) (ls : Array Slot), xC p s m args meth c G y cc ml rt K → xH G n M H → va_S (xF G) s.heap H locs → lv_has ls ml L → W p l e R s m args below meth c H locs k sl (Z below args s) (F0 m pc ls st)
def xR (d mc ms : Nat) : Room := { frames := d, cells := mc, slots := ms, locals := 64 * d }
def xQ (G : xG) (n' : Nat) (M' : xM) (r : Option Value) : Array Value → State → Outcome → State → Prop := fun _ st o t => (o = .returned r ∧ xH G n' M' t.heap) ∧ va_F (xF G) st t
def xZ (G : xG) (n' : Nat) (M' : xM) (r : Option Value) (mc ms : Nat) : List Frame → Array Value → State → State → Prop := fun below args s => MQ below (xQ G n' M' r) args s mc ms (xF G)
def xK0 : Array Value → State → Prop := fun _ _ => True
def XM (l : Launch) (G : xG) (d : Nat) (y : MethodName) (cc : ByteArray) (ml : Nat) (rt : Option FieldType) (mc ms : Nat) (K : Array Value → State → Prop) (as : List Value) (n : Nat) (M : xM) (r : Option Value) (n' : Nat) (M' : xM) : Prop :=
  Met l y (.code y cc ml rt :: xT) (xR d mc ms) (va_Pc as (fun U => xK G U ∧ G.2.2 ≤ U.heap.size ∧ xH G n M U.heap ∧ K as.toArray U)) (xQ G n' M' r) mc ms (xF G)
/-- locals: an association list -/
def xlk : List (Nat × Value) → Nat → Option Value
  | [], _ => none
  | (j, v) :: t, i => if j = i then some v else xlk t i
theorem xlk_mem {L : List (Nat × Value)} {i : Nat} {v : Value} (h : xlk L i = some v) : (i, v) ∈ L := by
  induction L with
  | nil => cases h
  | cons q t ih =>
    obtain ⟨j, w⟩ := q
    rw [xlk] at h
    by_cases hj : j = i
    · rw [if_pos hj] at h
      cases h
      rw [hj]
      exact List.mem_cons_self
    · rw [if_neg hj] at h
      exact List.mem_cons_of_mem _ (ih h)
theorem xlk_at {ls : Array Slot} {nL : Nat} {L : List (Nat × Value)} {i : Nat} {v : Value} (h : lv_has ls nL L) (hl : xlk L i = some v) : ls[i]? = some (.val v) := h.2.2 (i, v) (xlk_mem hl)
theorem xsub {ls : Array Slot} {nL : Nat} {L L' : List (Nat × Value)} (h : lv_has ls nL L) (hs : ∀ q ∈ L', q ∈ L) : lv_has ls nL L' := ⟨h.1, h.2.1, fun q hq => h.2.2 q (hs q hq)⟩
/-- L' is what is left of L, in any order, when i is written with v (one slot) -/
def xst1 (L : List (Nat × Value)) (i : Nat) (v : Value) : List (Nat × Value) := (i, v) :: L.filter (fun q => !(q.1 == i) && !(q.1 + 1 == i && q.2.category == 2))
def xst2 (L : List (Nat × Value)) (i : Nat) (v : Value) : List (Nat × Value) := (i, v) :: L.filter (fun q => !(q.1 == i) && (!(q.1 == i + 1) && !(q.1 + 1 == i && q.2.category == 2)))
/-- L' picks places of L -/
def xpick (L : List (Nat × Value)) : List Nat → List (Nat × Value)
  | [] => []
  | k :: ks => (match L[k]? with | some q => [q] | none => []) ++ xpick L ks
theorem xpick_sub (L : List (Nat × Value)) : ∀ ks, ∀ q ∈ xpick L ks, q ∈ L
  | [], q, h => absurd h List.not_mem_nil
  | k :: ks, q, h => by
    rw [xpick] at h
    rcases List.mem_append.mp h with h | h
    · cases hk : L[k]? with
      | none => rw [hk] at h; exact absurd h List.not_mem_nil
      | some q' =>
        rw [hk] at h
        rw [List.mem_singleton.mp h]
        exact List.mem_of_getElem? hk
    · exact xpick_sub L ks q h
section XROWS
variable {l : Launch} {G : xG} {R : Room} {y : MethodName} {cc : ByteArray} {ml : Nat} {rt : Option FieldType} {K : Array Value → State → Prop} {Z : List Frame → Array Value → State → State → Prop} {n : Nat} {M : xM} {kc sl pc : Nat} {L : List (Nat × Value)} {st : List Value}
theorem X_sub {L' : List (Nat × Value)} (ks : List Nat) (h : xpick L ks = L') (k : XW l G R y cc ml rt K Z n M kc sl pc L' st) : XW l G R y cc ml rt K Z n M kc sl pc L st := by
  intro p e s m args below meth c H locs ls hc hH hS hL
  exact k p e s m args below meth c H locs ls hc hH hS (xsub hL (by rw [← h]; exact xpick_sub L ks))
theorem X_widen {k' s' : Nat} (h1 : kc ≤ k') (h2 : sl ≤ s') (k : XW l G R y cc ml rt K Z n M k' s' pc L st) : XW l G R y cc ml rt K Z n M kc sl pc L st := by
  intro p e s m args below meth c H locs ls hc hH hS hL
  exact W.widen h1 h2 (k p e s m args below meth c H locs ls hc hH hS hL)
--ROWSBEGIN--
theorem X_iconst {z : Int} {v : Int32} (hd : decode cc pc = .ok (.iconst z, 1)) (hv : Int32.ofInt z = v) (k : XW l G R y cc ml rt K Z n M kc sl (pc + 1) L (.int v :: st)) : XW l G R y cc ml rt K Z n M kc sl pc L (st) := by
  intro p e s m args below meth c H locs ls hc hH hS hL
  exact lv_iconst hc.1 hc.2.1 hd hv (k p e s m args below meth c H locs ls hc hH hS hL)
theorem X_bipush {z : Int} {v : Int32} (hd : decode cc pc = .ok (.bipush z, 2)) (hv : (Int8.ofInt z).toInt32 = v) (k : XW l G R y cc ml rt K Z n M kc sl (pc + 2) L (.int v :: st)) : XW l G R y cc ml rt K Z n M kc sl pc L (st) := by
  intro p e s m args below meth c H locs ls hc hH hS hL
  exact lv_bipush hc.1 hc.2.1 hd hv (k p e s m args below meth c H locs ls hc hH hS hL)
theorem X_sipush {z : Int} {v : Int32} (hd : decode cc pc = .ok (.sipush z, 3)) (hv : (Int16.ofInt z).toInt32 = v) (k : XW l G R y cc ml rt K Z n M kc sl (pc + 3) L (.int v :: st)) : XW l G R y cc ml rt K Z n M kc sl pc L (st) := by
  intro p e s m args below meth c H locs ls hc hH hS hL
  exact lv_sipush hc.1 hc.2.1 hd hv (k p e s m args below meth c H locs ls hc hH hS hL)
theorem X_lconst {z : Fin 2} {v : Int64} (hd : decode cc pc = .ok (.lconst z, 1)) (hv : Int64.ofNat (z : Nat) = v) (k : XW l G R y cc ml rt K Z n M kc sl (pc + 1) L (.long v :: st)) : XW l G R y cc ml rt K Z n M kc sl pc L (st) := by
  intro p e s m args below meth c H locs ls hc hH hS hL
  exact lv_lconst hc.1 hc.2.1 hd hv (k p e s m args below meth c H locs ls hc hH hS hL)
theorem X_aconst_null  (hd : decode cc pc = .ok (.aconst_null, 1)) (k : XW l G R y cc ml rt K Z n M kc sl (pc + 1) L (.null :: st)) : XW l G R y cc ml rt K Z n M kc sl pc L (st) := by
  intro p e s m args below meth c H locs ls hc hH hS hL
  exact lv_null hc.1 hc.2.1 hd (k p e s m args below meth c H locs ls hc hH hS hL)
theorem X_iload_n {kk : Fin 4} {i : Nat} {x : Int32} (hd : decode cc pc = .ok (.iload_n kk, 1)) (hi : (kk : Nat) = i) (hl : xlk L i = some (.int x)) (k : XW l G R y cc ml rt K Z n M kc sl (pc + 1) L (.int x :: st)) : XW l G R y cc ml rt K Z n M kc sl pc L (st) := by
  intro p e s m args below meth c H locs ls hc hH hS hL
  exact lv_iload_n hc.1 hc.2.1 hd hi (xlk_at hL hl) (k p e s m args below meth c H locs ls hc hH hS hL)
theorem X_iload {i : Nat} {x : Int32} (hd : decode cc pc = .ok (.iload i, 2)) (hl : xlk L i = some (.int x)) (k : XW l G R y cc ml rt K Z n M kc sl (pc + 2) L (.int x :: st)) : XW l G R y cc ml rt K Z n M kc sl pc L (st) := by
  intro p e s m args below meth c H locs ls hc hH hS hL
  exact lv_iload hc.1 hc.2.1 hd (xlk_at hL hl) (k p e s m args below meth c H locs ls hc hH hS hL)
theorem X_istore_n {kk : Fin 4} {i : Nat} {x : Int32} {L' : List (Nat × Value)} (hd : decode cc pc = .ok (.istore_n kk, 1)) (hi : (kk : Nat) = i) (hb : i < ml) (ks : List Nat) (hl : xpick (xst1 L i (.int x)) ks = L') (k : XW l G R y cc ml rt K Z n M kc sl (pc + 1) L' st) : XW l G R y cc ml rt K Z n M kc sl pc L (.int x :: st) := by
  intro p e s m args below meth c H locs ls hc hH hS hL
  exact lv_istore_n hc.1 hc.2.1 hd hi hL hb rfl (fun ls2 hL2 => k p e s m args below meth c H locs ls2 hc hH hS (xsub hL2 (by rw [← hl]; exact xpick_sub _ ks)))
theorem X_istore {i : Nat} {x : Int32} {L' : List (Nat × Value)} (hd : decode cc pc = .ok (.istore i, 2)) (hb : i < ml) (ks : List Nat) (hl : xpick (xst1 L i (.int x)) ks = L') (k : XW l G R y cc ml rt K Z n M kc sl (pc + 2) L' st) : XW l G R y cc ml rt K Z n M kc sl pc L (.int x :: st) := by
  intro p e s m args below meth c H locs ls hc hH hS hL
  exact lv_istore hc.1 hc.2.1 hd hL hb rfl (fun ls2 hL2 => k p e s m args below meth c H locs ls2 hc hH hS (xsub hL2 (by rw [← hl]; exact xpick_sub _ ks)))
theorem X_lload_n {kk : Fin 4} {i : Nat} {x : Int64} (hd : decode cc pc = .ok (.lload_n kk, 1)) (hi : (kk : Nat) = i) (hl : xlk L i = some (.long x)) (k : XW l G R y cc ml rt K Z n M kc sl (pc + 1) L (.long x :: st)) : XW l G R y cc ml rt K Z n M kc sl pc L (st) := by
  intro p e s m args below meth c H locs ls hc hH hS hL
  exact lv_lload_n hc.1 hc.2.1 hd hi (xlk_at hL hl) (k p e s m args below meth c H locs ls hc hH hS hL)
theorem X_lload {i : Nat} {x : Int64} (hd : decode cc pc = .ok (.lload i, 2)) (hl : xlk L i = some (.long x)) (k : XW l G R y cc ml rt K Z n M kc sl (pc + 2) L (.long x :: st)) : XW l G R y cc ml rt K Z n M kc sl pc L (st) := by
  intro p e s m args below meth c H locs ls hc hH hS hL
  exact lv_lload hc.1 hc.2.1 hd (xlk_at hL hl) (k p e s m args below meth c H locs ls hc hH hS hL)
theorem X_lstore_n {kk : Fin 4} {i : Nat} {x : Int64} {L' : List (Nat × Value)} (hd : decode cc pc = .ok (.lstore_n kk, 1)) (hi : (kk : Nat) = i) (hb : i + 1 < ml) (ks : List Nat) (hl : xpick (xst2 L i (.long x)) ks = L') (k : XW l G R y cc ml rt K Z n M kc sl (pc + 1) L' st) : XW l G R y cc ml rt K Z n M kc sl pc L (.long x :: st) := by
  intro p e s m args below meth c H locs ls hc hH hS hL
  exact lv_lstore_n hc.1 hc.2.1 hd hi hL hb rfl (fun ls2 hL2 => k p e s m args below meth c H locs ls2 hc hH hS (xsub hL2 (by rw [← hl]; exact xpick_sub _ ks)))
theorem X_lstore {i : Nat} {x : Int64} {L' : List (Nat × Value)} (hd : decode cc pc = .ok (.lstore i, 2)) (hb : i + 1 < ml) (ks : List Nat) (hl : xpick (xst2 L i (.long x)) ks = L') (k : XW l G R y cc ml rt K Z n M kc sl (pc + 2) L' st) : XW l G R y cc ml rt K Z n M kc sl pc L (.long x :: st) := by
  intro p e s m args below meth c H locs ls hc hH hS hL
  exact lv_lstore hc.1 hc.2.1 hd hL hb rfl (fun ls2 hL2 => k p e s m args below meth c H locs ls2 hc hH hS (xsub hL2 (by rw [← hl]; exact xpick_sub _ ks)))
theorem X_aload_n {kk : Fin 4} {i : Nat} {x : Nat} (hd : decode cc pc = .ok (.aload_n kk, 1)) (hi : (kk : Nat) = i) (hl : xlk L i = some (.ref x)) (k : XW l G R y cc ml rt K Z n M kc sl (pc + 1) L (.ref x :: st)) : XW l G R y cc ml rt K Z n M kc sl pc L (st) := by
  intro p e s m args below meth c H locs ls hc hH hS hL
  exact lv_aload_n hc.1 hc.2.1 hd hi (xlk_at hL hl) (k p e s m args below meth c H locs ls hc hH hS hL)
theorem X_aload {i : Nat} {x : Nat} (hd : decode cc pc = .ok (.aload i, 2)) (hl : xlk L i = some (.ref x)) (k : XW l G R y cc ml rt K Z n M kc sl (pc + 2) L (.ref x :: st)) : XW l G R y cc ml rt K Z n M kc sl pc L (st) := by
  intro p e s m args below meth c H locs ls hc hH hS hL
  exact lv_aload hc.1 hc.2.1 hd (xlk_at hL hl) (k p e s m args below meth c H locs ls hc hH hS hL)
theorem X_astore_n {kk : Fin 4} {i : Nat} {x : Nat} {L' : List (Nat × Value)} (hd : decode cc pc = .ok (.astore_n kk, 1)) (hi : (kk : Nat) = i) (hb : i < ml) (ks : List Nat) (hl : xpick (xst1 L i (.ref x)) ks = L') (k : XW l G R y cc ml rt K Z n M kc sl (pc + 1) L' st) : XW l G R y cc ml rt K Z n M kc sl pc L (.ref x :: st) := by
  intro p e s m args below meth c H locs ls hc hH hS hL
  exact lv_astore_n hc.1 hc.2.1 hd hi hL hb rfl (fun ls2 hL2 => k p e s m args below meth c H locs ls2 hc hH hS (xsub hL2 (by rw [← hl]; exact xpick_sub _ ks)))
theorem X_astore {i : Nat} {x : Nat} {L' : List (Nat × Value)} (hd : decode cc pc = .ok (.astore i, 2)) (hb : i < ml) (ks : List Nat) (hl : xpick (xst1 L i (.ref x)) ks = L') (k : XW l G R y cc ml rt K Z n M kc sl (pc + 2) L' st) : XW l G R y cc ml rt K Z n M kc sl pc L (.ref x :: st) := by
  intro p e s m args below meth c H locs ls hc hH hS hL
  exact lv_astore hc.1 hc.2.1 hd hL hb rfl (fun ls2 hL2 => k p e s m args below meth c H locs ls2 hc hH hS (xsub hL2 (by rw [← hl]; exact xpick_sub _ ks)))
theorem xlk_pl {L : List (Nat × Value)} {i : Nat} {v : Value} (h : xlk L i = some v) : ∃ k : Nat, L[k]? = some (i, v) := List.getElem?_of_mem (xlk_mem h)
theorem X_iinc {i : Nat} {z : Int} {x v : Int32} {L' : List (Nat × Value)} (hd : decode cc pc = .ok (.iinc i z, 3)) (hx : xlk L i = some (.int x)) (hv : x + Int32.ofInt z = v) (hb : i < ml) (ks : List Nat) (hl : xpick (xst1 L i (.int v)) ks = L') (k : XW l G R y cc ml rt K Z n M kc sl (pc + 3) L' st) : XW l G R y cc ml rt K Z n M kc sl pc L st := by
  intro p e s m args below meth c H locs ls hc hH hS hL
  obtain ⟨j, hj⟩ := xlk_pl hx
  exact lv_iinc hc.1 hc.2.1 hd hL hj hv hb rfl (fun ls2 hL2 => k p e s m args below meth c H locs ls2 hc hH hS (xsub hL2 (by rw [← hl]; exact xpick_sub _ ks)))
theorem X_iadd {x z : Int32} (hd : decode cc pc = .ok (.iadd, 1)) (k : XW l G R y cc ml rt K Z n M kc sl (pc + 1) L (.int (x + z) :: st)) : XW l G R y cc ml rt K Z n M kc sl pc L (.int z :: .int x :: st) := by
  intro p e s m args below meth c H locs ls hc hH hS hL
  exact lv_iadd hc.1 hc.2.1 hd (k p e s m args below meth c H locs ls hc hH hS hL)
theorem X_isub {x z : Int32} (hd : decode cc pc = .ok (.isub, 1)) (k : XW l G R y cc ml rt K Z n M kc sl (pc + 1) L (.int (x - z) :: st)) : XW l G R y cc ml rt K Z n M kc sl pc L (.int z :: .int x :: st) := by
  intro p e s m args below meth c H locs ls hc hH hS hL
  exact lv_isub hc.1 hc.2.1 hd (k p e s m args below meth c H locs ls hc hH hS hL)
theorem X_imul {x z : Int32} (hd : decode cc pc = .ok (.imul, 1)) (k : XW l G R y cc ml rt K Z n M kc sl (pc + 1) L (.int (x * z) :: st)) : XW l G R y cc ml rt K Z n M kc sl pc L (.int z :: .int x :: st) := by
  intro p e s m args below meth c H locs ls hc hH hS hL
  exact lv_imul hc.1 hc.2.1 hd (k p e s m args below meth c H locs ls hc hH hS hL)
theorem X_iand {x z : Int32} (hd : decode cc pc = .ok (.iand, 1)) (k : XW l G R y cc ml rt K Z n M kc sl (pc + 1) L (.int (x &&& z) :: st)) : XW l G R y cc ml rt K Z n M kc sl pc L (.int z :: .int x :: st) := by
  intro p e s m args below meth c H locs ls hc hH hS hL
  exact lv_iand hc.1 hc.2.1 hd (k p e s m args below meth c H locs ls hc hH hS hL)
theorem X_ior {x z : Int32} (hd : decode cc pc = .ok (.ior, 1)) (k : XW l G R y cc ml rt K Z n M kc sl (pc + 1) L (.int (x ||| z) :: st)) : XW l G R y cc ml rt K Z n M kc sl pc L (.int z :: .int x :: st) := by
  intro p e s m args below meth c H locs ls hc hH hS hL
  exact lv_ior hc.1 hc.2.1 hd (k p e s m args below meth c H locs ls hc hH hS hL)
theorem X_idiv {x z : Int32} (hd : decode cc pc = .ok (.idiv, 1)) (hn : ¬ z = 0) (k : XW l G R y cc ml rt K Z n M kc sl (pc + 1) L (.int (x / z) :: st)) : XW l G R y cc ml rt K Z n M kc sl pc L (.int z :: .int x :: st) := by
  intro p e s m args below meth c H locs ls hc hH hS hL
  exact lv_idiv hc.1 hc.2.1 hd hn (k p e s m args below meth c H locs ls hc hH hS hL)
theorem X_irem {x z : Int32} (hd : decode cc pc = .ok (.irem, 1)) (hn : ¬ z = 0) (k : XW l G R y cc ml rt K Z n M kc sl (pc + 1) L (.int (x - x / z * z) :: st)) : XW l G R y cc ml rt K Z n M kc sl pc L (.int z :: .int x :: st) := by
  intro p e s m args below meth c H locs ls hc hH hS hL
  exact lv_irem hc.1 hc.2.1 hd hn (k p e s m args below meth c H locs ls hc hH hS hL)
theorem X_ineg {x : Int32} (hd : decode cc pc = .ok (.ineg, 1)) (k : XW l G R y cc ml rt K Z n M kc sl (pc + 1) L (.int (-x) :: st)) : XW l G R y cc ml rt K Z n M kc sl pc L (.int x :: st) := by
  intro p e s m args below meth c H locs ls hc hH hS hL
  exact lv_ineg hc.1 hc.2.1 hd (k p e s m args below meth c H locs ls hc hH hS hL)
theorem X_ladd {x z : Int64} (hd : decode cc pc = .ok (.ladd, 1)) (k : XW l G R y cc ml rt K Z n M kc sl (pc + 1) L (.long (x + z) :: st)) : XW l G R y cc ml rt K Z n M kc sl pc L (.long z :: .long x :: st) := by
  intro p e s m args below meth c H locs ls hc hH hS hL
  exact lv_ladd hc.1 hc.2.1 hd (k p e s m args below meth c H locs ls hc hH hS hL)
theorem X_lsub {x z : Int64} (hd : decode cc pc = .ok (.lsub, 1)) (k : XW l G R y cc ml rt K Z n M kc sl (pc + 1) L (.long (x - z) :: st)) : XW l G R y cc ml rt K Z n M kc sl pc L (.long z :: .long x :: st) := by
  intro p e s m args below meth c H locs ls hc hH hS hL
  exact lv_lsub hc.1 hc.2.1 hd (k p e s m args below meth c H locs ls hc hH hS hL)
theorem X_lmul {x z : Int64} (hd : decode cc pc = .ok (.lmul, 1)) (k : XW l G R y cc ml rt K Z n M kc sl (pc + 1) L (.long (x * z) :: st)) : XW l G R y cc ml rt K Z n M kc sl pc L (.long z :: .long x :: st) := by
  intro p e s m args below meth c H locs ls hc hH hS hL
  exact lv_lmul hc.1 hc.2.1 hd (k p e s m args below meth c H locs ls hc hH hS hL)
theorem X_ldiv {x z : Int64} (hd : decode cc pc = .ok (.ldiv, 1)) (hn : ¬ z = 0) (k : XW l G R y cc ml rt K Z n M kc sl (pc + 1) L (.long (x / z) :: st)) : XW l G R y cc ml rt K Z n M kc sl pc L (.long z :: .long x :: st) := by
  intro p e s m args below meth c H locs ls hc hH hS hL
  exact lv_ldiv hc.1 hc.2.1 hd hn (k p e s m args below meth c H locs ls hc hH hS hL)
theorem X_lrem {x z : Int64} (hd : decode cc pc = .ok (.lrem, 1)) (hn : ¬ z = 0) (k : XW l G R y cc ml rt K Z n M kc sl (pc + 1) L (.long (x - x / z * z) :: st)) : XW l G R y cc ml rt K Z n M kc sl pc L (.long z :: .long x :: st) := by
  intro p e s m args below meth c H locs ls hc hH hS hL
  exact lv_lrem hc.1 hc.2.1 hd hn (k p e s m args below meth c H locs ls hc hH hS hL)
theorem X_ishl {x z : Int32} (hd : decode cc pc = .ok (.ishl, 1)) (k : XW l G R y cc ml rt K Z n M kc sl (pc + 1) L (.int (x <<< (z &&& 31)) :: st)) : XW l G R y cc ml rt K Z n M kc sl pc L (.int z :: .int x :: st) := by
  intro p e s m args below meth c H locs ls hc hH hS hL
  exact lv_ishl hc.1 hc.2.1 hd (k p e s m args below meth c H locs ls hc hH hS hL)
theorem X_i2l {x : Int32} (hd : decode cc pc = .ok (.i2l, 1)) (k : XW l G R y cc ml rt K Z n M kc sl (pc + 1) L (.long x.toInt64 :: st)) : XW l G R y cc ml rt K Z n M kc sl pc L (.int x :: st) := by
  intro p e s m args below meth c H locs ls hc hH hS hL
  exact lv_i2l hc.1 hc.2.1 hd rfl (k p e s m args below meth c H locs ls hc hH hS hL)
theorem X_i2b {x : Int32} (hd : decode cc pc = .ok (.i2b, 1)) (k : XW l G R y cc ml rt K Z n M kc sl (pc + 1) L (.int x.toInt8.toInt32 :: st)) : XW l G R y cc ml rt K Z n M kc sl pc L (.int x :: st) := by
  intro p e s m args below meth c H locs ls hc hH hS hL
  exact lv_i2b hc.1 hc.2.1 hd rfl (k p e s m args below meth c H locs ls hc hH hS hL)
theorem X_i2s {x : Int32} (hd : decode cc pc = .ok (.i2s, 1)) (k : XW l G R y cc ml rt K Z n M kc sl (pc + 1) L (.int x.toInt16.toInt32 :: st)) : XW l G R y cc ml rt K Z n M kc sl pc L (.int x :: st) := by
  intro p e s m args below meth c H locs ls hc hH hS hL
  exact lv_i2s hc.1 hc.2.1 hd rfl (k p e s m args below meth c H locs ls hc hH hS hL)
theorem X_lcmp {x z : Int64} (hd : decode cc pc = .ok (.lcmp, 1)) (k : XW l G R y cc ml rt K Z n M kc sl (pc + 1) L (.int (lg_cmp x z) :: st)) : XW l G R y cc ml rt K Z n M kc sl pc L (.long z :: .long x :: st) := by
  intro p e s m args below meth c H locs ls hc hH hS hL
  exact W.lcmp hc.1 hc.2.1 hd (k p e s m args below meth c H locs ls hc hH hS hL)
theorem X_dup {v : Value} (hd : decode cc pc = .ok (.dup, 1)) (hv : v.category = 1) (k : XW l G R y cc ml rt K Z n M kc sl (pc + 1) L (v :: v :: st)) : XW l G R y cc ml rt K Z n M kc sl pc L (v :: st) := by
  intro p e s m args below meth c H locs ls hc hH hS hL
  exact lv_dup hc.1 hc.2.1 hd hv (k p e s m args below meth c H locs ls hc hH hS hL)
theorem X_pop {v : Value} (hd : decode cc pc = .ok (.pop, 1)) (hv : v.category = 1) (k : XW l G R y cc ml rt K Z n M kc sl (pc + 1) L (st)) : XW l G R y cc ml rt K Z n M kc sl pc L (v :: st) := by
  intro p e s m args below meth c H locs ls hc hH hS hL
  exact lv_pop hc.1 hc.2.1 hd hv (k p e s m args below meth c H locs ls hc hH hS hL)
theorem X_goto {off : Int} {tgt : Nat} (hd : decode cc pc = .ok (.goto off, 3)) (ht : (pc : Int) + off = (tgt : Int)) (k : XW l G R y cc ml rt K Z n M kc sl tgt L (st)) : XW l G R y cc ml rt K Z n M kc sl pc L (st) := by
  intro p e s m args below meth c H locs ls hc hH hS hL
  exact lv_goto hc.1 hc.2.1 hd ht (k p e s m args below meth c H locs ls hc hH hS hL)
theorem X_ifnonnull {x : Nat} {off : Int} {tgt : Nat} (hd : decode cc pc = .ok (.ifnonnull off, 3)) (ht : (pc : Int) + off = (tgt : Int)) (k : XW l G R y cc ml rt K Z n M kc sl tgt L (st)) : XW l G R y cc ml rt K Z n M kc sl pc L (.ref x :: st) := by
  intro p e s m args below meth c H locs ls hc hH hS hL
  exact lv_ifnonnull hc.1 hc.2.1 hd ht (k p e s m args below meth c H locs ls hc hH hS hL)
theorem X_ifnonnullN {off : Int} (hd : decode cc pc = .ok (.ifnonnull off, 3)) (k : XW l G R y cc ml rt K Z n M kc sl (pc + 3) L (st)) : XW l G R y cc ml rt K Z n M kc sl pc L (.null :: st) := by
  intro p e s m args below meth c H locs ls hc hH hS hL
  exact lv_ifnonnullN hc.1 hc.2.1 hd (k p e s m args below meth c H locs ls hc hH hS hL)
theorem X_if_eq {x : Int32} {off : Int} {tgt : Nat} (hd : decode cc pc = .ok (.ifCond .eq off, 3)) (ht : (pc : Int) + off = (tgt : Int)) (kt : x = 0 → XW l G R y cc ml rt K Z n M kc sl tgt L st) (kf : ¬ x = 0 → XW l G R y cc ml rt K Z n M kc sl (pc + 3) L st) : XW l G R y cc ml rt K Z n M kc sl pc L (.int x :: st) := by
  intro p e s m args below meth c H locs ls hc hH hS hL
  exact lv_if_eq hc.1 hc.2.1 hd ht (fun h => kt h p e s m args below meth c H locs ls hc hH hS hL) (fun h => kf h p e s m args below meth c H locs ls hc hH hS hL)
theorem X_icmp_eq {x z : Int32} {off : Int} {tgt : Nat} (hd : decode cc pc = .ok (.if_icmp .eq off, 3)) (ht : (pc : Int) + off = (tgt : Int)) (kt : x = z → XW l G R y cc ml rt K Z n M kc sl tgt L st) (kf : ¬ x = z → XW l G R y cc ml rt K Z n M kc sl (pc + 3) L st) : XW l G R y cc ml rt K Z n M kc sl pc L (.int z :: .int x :: st) := by
  intro p e s m args below meth c H locs ls hc hH hS hL
  exact lv_icmp_eq hc.1 hc.2.1 hd ht (fun h => kt h p e s m args below meth c H locs ls hc hH hS hL) (fun h => kf h p e s m args below meth c H locs ls hc hH hS hL)
theorem X_if_ne {x : Int32} {off : Int} {tgt : Nat} (hd : decode cc pc = .ok (.ifCond .ne off, 3)) (ht : (pc : Int) + off = (tgt : Int)) (kt : ¬ x = 0 → XW l G R y cc ml rt K Z n M kc sl tgt L st) (kf : x = 0 → XW l G R y cc ml rt K Z n M kc sl (pc + 3) L st) : XW l G R y cc ml rt K Z n M kc sl pc L (.int x :: st) := by
  intro p e s m args below meth c H locs ls hc hH hS hL
  exact lv_if_ne hc.1 hc.2.1 hd ht (fun h => kt h p e s m args below meth c H locs ls hc hH hS hL) (fun h => kf h p e s m args below meth c H locs ls hc hH hS hL)
theorem X_icmp_ne {x z : Int32} {off : Int} {tgt : Nat} (hd : decode cc pc = .ok (.if_icmp .ne off, 3)) (ht : (pc : Int) + off = (tgt : Int)) (kt : ¬ x = z → XW l G R y cc ml rt K Z n M kc sl tgt L st) (kf : x = z → XW l G R y cc ml rt K Z n M kc sl (pc + 3) L st) : XW l G R y cc ml rt K Z n M kc sl pc L (.int z :: .int x :: st) := by
  intro p e s m args below meth c H locs ls hc hH hS hL
  exact lv_icmp_ne hc.1 hc.2.1 hd ht (fun h => kt h p e s m args below meth c H locs ls hc hH hS hL) (fun h => kf h p e s m args below meth c H locs ls hc hH hS hL)
theorem X_if_lt {x : Int32} {off : Int} {tgt : Nat} (hd : decode cc pc = .ok (.ifCond .lt off, 3)) (ht : (pc : Int) + off = (tgt : Int)) (kt : x < 0 → XW l G R y cc ml rt K Z n M kc sl tgt L st) (kf : ¬ x < 0 → XW l G R y cc ml rt K Z n M kc sl (pc + 3) L st) : XW l G R y cc ml rt K Z n M kc sl pc L (.int x :: st) := by
  intro p e s m args below meth c H locs ls hc hH hS hL
  exact lv_if_lt hc.1 hc.2.1 hd ht (fun h => kt h p e s m args below meth c H locs ls hc hH hS hL) (fun h => kf h p e s m args below meth c H locs ls hc hH hS hL)
theorem X_icmp_lt {x z : Int32} {off : Int} {tgt : Nat} (hd : decode cc pc = .ok (.if_icmp .lt off, 3)) (ht : (pc : Int) + off = (tgt : Int)) (kt : x < z → XW l G R y cc ml rt K Z n M kc sl tgt L st) (kf : ¬ x < z → XW l G R y cc ml rt K Z n M kc sl (pc + 3) L st) : XW l G R y cc ml rt K Z n M kc sl pc L (.int z :: .int x :: st) := by
  intro p e s m args below meth c H locs ls hc hH hS hL
  exact lv_icmp_lt hc.1 hc.2.1 hd ht (fun h => kt h p e s m args below meth c H locs ls hc hH hS hL) (fun h => kf h p e s m args below meth c H locs ls hc hH hS hL)
theorem X_if_ge {x : Int32} {off : Int} {tgt : Nat} (hd : decode cc pc = .ok (.ifCond .ge off, 3)) (ht : (pc : Int) + off = (tgt : Int)) (kt : 0 ≤ x → XW l G R y cc ml rt K Z n M kc sl tgt L st) (kf : ¬ 0 ≤ x → XW l G R y cc ml rt K Z n M kc sl (pc + 3) L st) : XW l G R y cc ml rt K Z n M kc sl pc L (.int x :: st) := by
  intro p e s m args below meth c H locs ls hc hH hS hL
  exact lv_if_ge hc.1 hc.2.1 hd ht (fun h => kt h p e s m args below meth c H locs ls hc hH hS hL) (fun h => kf h p e s m args below meth c H locs ls hc hH hS hL)
theorem X_icmp_ge {x z : Int32} {off : Int} {tgt : Nat} (hd : decode cc pc = .ok (.if_icmp .ge off, 3)) (ht : (pc : Int) + off = (tgt : Int)) (kt : z ≤ x → XW l G R y cc ml rt K Z n M kc sl tgt L st) (kf : ¬ z ≤ x → XW l G R y cc ml rt K Z n M kc sl (pc + 3) L st) : XW l G R y cc ml rt K Z n M kc sl pc L (.int z :: .int x :: st) := by
  intro p e s m args below meth c H locs ls hc hH hS hL
  exact lv_icmp_ge hc.1 hc.2.1 hd ht (fun h => kt h p e s m args below meth c H locs ls hc hH hS hL) (fun h => kf h p e s m args below meth c H locs ls hc hH hS hL)
theorem X_if_gt {x : Int32} {off : Int} {tgt : Nat} (hd : decode cc pc = .ok (.ifCond .gt off, 3)) (ht : (pc : Int) + off = (tgt : Int)) (kt : 0 < x → XW l G R y cc ml rt K Z n M kc sl tgt L st) (kf : ¬ 0 < x → XW l G R y cc ml rt K Z n M kc sl (pc + 3) L st) : XW l G R y cc ml rt K Z n M kc sl pc L (.int x :: st) := by
  intro p e s m args below meth c H locs ls hc hH hS hL
  exact lv_if_gt hc.1 hc.2.1 hd ht (fun h => kt h p e s m args below meth c H locs ls hc hH hS hL) (fun h => kf h p e s m args below meth c H locs ls hc hH hS hL)
theorem X_icmp_gt {x z : Int32} {off : Int} {tgt : Nat} (hd : decode cc pc = .ok (.if_icmp .gt off, 3)) (ht : (pc : Int) + off = (tgt : Int)) (kt : z < x → XW l G R y cc ml rt K Z n M kc sl tgt L st) (kf : ¬ z < x → XW l G R y cc ml rt K Z n M kc sl (pc + 3) L st) : XW l G R y cc ml rt K Z n M kc sl pc L (.int z :: .int x :: st) := by
  intro p e s m args below meth c H locs ls hc hH hS hL
  exact lv_icmp_gt hc.1 hc.2.1 hd ht (fun h => kt h p e s m args below meth c H locs ls hc hH hS hL) (fun h => kf h p e s m args below meth c H locs ls hc hH hS hL)
theorem X_if_le {x : Int32} {off : Int} {tgt : Nat} (hd : decode cc pc = .ok (.ifCond .le off, 3)) (ht : (pc : Int) + off = (tgt : Int)) (kt : x ≤ 0 → XW l G R y cc ml rt K Z n M kc sl tgt L st) (kf : ¬ x ≤ 0 → XW l G R y cc ml rt K Z n M kc sl (pc + 3) L st) : XW l G R y cc ml rt K Z n M kc sl pc L (.int x :: st) := by
  intro p e s m args below meth c H locs ls hc hH hS hL
  exact lv_if_le hc.1 hc.2.1 hd ht (fun h => kt h p e s m args below meth c H locs ls hc hH hS hL) (fun h => kf h p e s m args below meth c H locs ls hc hH hS hL)
theorem X_icmp_le {x z : Int32} {off : Int} {tgt : Nat} (hd : decode cc pc = .ok (.if_icmp .le off, 3)) (ht : (pc : Int) + off = (tgt : Int)) (kt : x ≤ z → XW l G R y cc ml rt K Z n M kc sl tgt L st) (kf : ¬ x ≤ z → XW l G R y cc ml rt K Z n M kc sl (pc + 3) L st) : XW l G R y cc ml rt K Z n M kc sl pc L (.int z :: .int x :: st) := by
  intro p e s m args below meth c H locs ls hc hH hS hL
  exact lv_icmp_le hc.1 hc.2.1 hd ht (fun h => kt h p e s m args below meth c H locs ls hc hH hS hL) (fun h => kf h p e s m args below meth c H locs ls hc hH hS hL)
theorem X_lookup {dflt : Int} {ps : Array (Int × Int)} {len : Nat} {x : Int32} {off : Int} {tgt : Nat} (hd : decode cc pc = .ok (.lookupswitch dflt ps, len)) (hp : (ps.toList.zip (ps.toList.drop 1)).all (fun (a, next) => a.1 < next.1) = true) (ho : Op.lookupswitch.offset ps.toList dflt x.toInt = off) (ht : (pc : Int) + off = (tgt : Int)) (k : XW l G R y cc ml rt K Z n M kc sl tgt L st) : XW l G R y cc ml rt K Z n M kc sl pc L (.int x :: st) := by
  intro p e s m args below meth c H locs ls hc hH hS hL
  exact lv_lookup hc.1 hc.2.1 hd hp ho ht (k p e s m args below meth c H locs ls hc hH hS hL)
theorem X_tableOut {dflt lo hi : Int} {offs : Array Int} {len : Nat} {x : Int32} {tgt : Nat} (hd : decode cc pc = .ok (.tableswitch dflt lo hi offs, len)) (h : x.toInt < lo ∨ hi < x.toInt) (ht : (pc : Int) + dflt = (tgt : Int)) (k : XW l G R y cc ml rt K Z n M kc sl tgt L st) : XW l G R y cc ml rt K Z n M kc sl pc L (.int x :: st) := by
  intro p e s m args below meth c H locs ls hc hH hS hL
  exact lv_tableOut hc.1 hc.2.1 hd h ht (k p e s m args below meth c H locs ls hc hH hS hL)
theorem X_tableIn {dflt lo hi : Int} {offs : Array Int} {len : Nat} {x : Int32} {off : Int} {tgt : Nat} (hd : decode cc pc = .ok (.tableswitch dflt lo hi offs, len)) (h1 : ¬ x.toInt < lo) (h2 : ¬ hi < x.toInt) (ho : offs[(x.toInt - lo).toNat]? = some off) (ht : (pc : Int) + off = (tgt : Int)) (k : XW l G R y cc ml rt K Z n M kc sl tgt L st) : XW l G R y cc ml rt K Z n M kc sl pc L (.int x :: st) := by
  intro p e s m args below meth c H locs ls hc hH hS hL
  exact lv_tableIn hc.1 hc.2.1 hd h1 h2 ho ht (k p e s m args below meth c H locs ls hc hH hS hL)
theorem X_ldc {index : Nat} {v : Int32} (hw : Cond.constant y.cls index v ∈ xT) (hd : decode cc pc = .ok (.ldc index, 2)) (k : XW l G R y cc ml rt K Z n M kc sl (pc + 2) L (.int v :: st)) : XW l G R y cc ml rt K Z n M kc sl pc L st := by
  intro p e s m args below meth c H locs ls hc hH hS hL
  exact lv_ldc hc.1 hc.2.1 hc.2.2.2.2.2.1 (hc.2.2.2.2.2.2.2.1 _ hw) hd (k p e s m args below meth c H locs ls hc hH hS hL)
theorem X_ldcw {index : Nat} {v : Int32} (hw : Cond.constant y.cls index v ∈ xT) (hd : decode cc pc = .ok (.ldc_w index, 3)) (k : XW l G R y cc ml rt K Z n M kc sl (pc + 3) L (.int v :: st)) : XW l G R y cc ml rt K Z n M kc sl pc L st := by
  intro p e s m args below meth c H locs ls hc hH hS hL
  exact lv_ldcw hc.1 hc.2.1 hc.2.2.2.2.2.1 (hc.2.2.2.2.2.2.2.1 _ hw) hd (k p e s m args below meth c H locs ls hc hH hS hL)
theorem X_ldc2 {index : Nat} {v : Int64} (hw : Cond.constantLong y.cls index v ∈ xT) (hd : decode cc pc = .ok (.ldc2_w index, 3)) (k : XW l G R y cc ml rt K Z n M kc sl (pc + 3) L (.long v :: st)) : XW l G R y cc ml rt K Z n M kc sl pc L st := by
  intro p e s m args below meth c H locs ls hc hH hS hL
  exact lv_ldc2 hc.1 hc.2.1 hc.2.2.2.2.2.1 (hc.2.2.2.2.2.2.2.1 _ hw) hd (k p e s m args below meth c H locs ls hc hH hS hL)
end XROWS
end
section
def xty : List FieldType := [.int, .long, .object R_Head, .object R_Text, .object R_Sheet]
theorem xg_inj {G : xG} {i j : Nat} (h : xg G i = xg G j) : i = j := Nat.add_left_cancel h
theorem xat_kept {G : xG} {k : Nat} {x : xE} {H H1 : Heap} (h : xat G k x H) (hq : H1[xg G k]? = H[xg G k]?) : xat G k x H1 := by
  cases x with
  | inl a => exact va_at.kept h hq
  | inr n =>
    obtain ⟨f, h⟩ := h
    exact ⟨f, va_at.kept h hq⟩
theorem xat_lt {G : xG} {k : Nat} {x : xE} {H : Heap} (h : xat G k x H) : xg G k < H.size := by
  cases x with
  | inl a => exact va_at.lt h
  | inr n =>
    obtain ⟨f, h⟩ := h
    exact va_at.lt h
theorem xH_at {G : xG} {n : Nat} {M : xM} {H : Heap} (h : xH G n M H) {k : Nat} {x : xA} (hk : M k = some (.inl x)) : va_at G.1 classes (xg G k, xcv G x) H := h.2.2 k _ hk
theorem xH_lt {G : xG} {n : Nat} {M : xM} {H : Heap} (h : xH G n M H) {k : Nat} {x : xE} (hk : M k = some x) : k < n := by
  rcases Nat.lt_or_ge k n with q | q
  · exact q
  · rw [h.2.1 k q] at hk
    cases hk
theorem xH_set {G : xG} {n : Nat} {M : xM} {H H1 : Heap} {a : Nat} {x x0 : xE} (h : xH G n M H) (ha : M a = some x0) (z : H1.size = H.size) (oq : ∀ q : Nat, q ≠ xg G a → H1[q]? = H[q]?) (hx : xat G a x H1) : xH G n (xup M a (some x)) H1 := by
  have hl := xH_lt h ha
  refine ⟨z.trans h.1, fun k hk => ?_, fun k w hw => ?_⟩
  · rw [xup_n M (some x) (show k ≠ a by omega)]
    exact h.2.1 k hk
  · by_cases hka : k = a
    · subst hka
      rw [xup_s] at hw
      cases hw
      exact hx
    · rw [xup_n M (some x) hka] at hw
      exact xat_kept (h.2.2 k w hw) (oq _ (fun q => hka (xg_inj q)))
theorem xH_push {G : xG} {n : Nat} {M : xM} {H H1 : Heap} {x : xE} (h : xH G n M H) (z : H1.size = H.size + 1) (oq : ∀ q : Nat, q < H.size → H1[q]? = H[q]?) (hx : xat G n x H1) : xH G (n + 1) (xup M n (some x)) H1 := by
  refine ⟨by rw [z, h.1]; rfl, fun k hk => ?_, fun k w hw => ?_⟩
  · rw [xup_n M (some x) (show k ≠ n by omega)]
    exact h.2.1 k (by omega)
  · by_cases hka : k = n
    · subst hka
      rw [xup_s] at hw
      cases hw
      exact hx
    · rw [xup_n M (some x) hka] at hw
      have h1 := h.2.2 k w hw
      exact xat_kept h1 (oq _ (xat_lt h1))
theorem xF_all {G : xG} {H : Heap} (h : G.2.2 ≤ H.size) : ∀ q, H.size ≤ q → xF G q := fun q hq => Nat.le_trans h hq
theorem xF_in (G : xG) (k : Nat) : xF G (xg G k) := Nat.le_add_right _ _
theorem xS_push {G : xG} {H0 H H1 : Heap} {locs : List Loc} (hS : va_S (xF G) H0 H locs) (z : H1.size = H.size + 1) (oq : ∀ q : Nat, q < H.size → H1[q]? = H[q]?) : va_S (xF G) H0 H1 locs :=
  ⟨Nat.le_trans hS.1 (by omega), fun x h1 h2 => (oq x (Nat.lt_of_lt_of_le h1 hS.1)).trans (hS.2.1 x h1 h2), hS.2.2⟩
/-- a field, as an instruction of class own names it -/
def xFL (own : String) (index ci k : Nat) : Prop := ∃ (C : String) (F : u_T) (N : Nat), classes[ci]? = some (C, F, N) ∧ (∀ w ∈ u_ws C F N, w ∈ xT) ∧ k < N ∧ Cond.fieldLink own index (F k).1 (F k).2.1 (F k).2.2.1 ∈ xT
def xFP (own : String) (index ci k : Nat) (ty : FieldType) (fin : Bool) : Prop := ∃ (C : String) (F : u_T) (N : Nat) (ty0 : Nat → FieldType), (classes[ci]? = some (C, F, N) ∧ (∀ w ∈ u_ws C F N, w ∈ xT) ∧ k < N ∧ Cond.fieldLink own index (F k).1 (F k).2.1 (F k).2.2.1 ∈ xT) ∧ (∀ k, k < N → parseFieldDescriptor (F k).2.2.1 = some (ty0 k)) ∧ (∀ a, a < N → ∀ b, b < N → a ≠ b → (F a).2.1 ≠ (F b).2.1) ∧ (F k).2.2.2 = fin ∧ parseFieldDescriptor (F k).2.2.1 = some ty ∧ (fin = true → (F k).1 = own)
section XHEAP
variable {l : Launch} {G : xG} {R : Room} {y : MethodName} {cc : ByteArray} {ml : Nat} {rt : Option FieldType} {K : Array Value → State → Prop} {Z : List Frame → Array Value → State → State → Prop} {n : Nat} {M : xM} {kc sl pc : Nat} {L : List (Nat × Value)} {st : List Value}
theorem X_getfield {a ci index : Nat} {fs : List Value} {v : Value} (k : Nat) (hw : xFL y.cls index ci k) (hM : M a = some (.inl (.inr (ci, fs)))) (hv : fs[k]? = some v) (hd : decode cc pc = .ok (.getfield index, 3)) (kk : XW l G R y cc ml rt K Z n M kc sl (pc + 3) L (v :: st)) : XW l G R y cc ml rt K Z n M kc sl pc L (.ref (xg G a) :: st) := by
  intro p e s m args below meth c H locs ls hc hH hS hL
  obtain ⟨C, F, N, h1, h2, h3, h4⟩ := hw
  have hP : va_P G.1 classes [(xg G a, .inr (ci, fs))] H := by
    intro j q hj
    cases j with
    | zero => cases hj; exact xH_at hH hM
    | succ j => cases hj
  exact va_get hc.1 hc.2.1 hc.2.2.2.2.2.2.2.1 h2 hc.2.2.2.2.2.1 hc.2.2.2.2.2.2.2.2.1.1 hP 0 rfl h1 k h3 (hc.2.2.2.2.2.2.2.1 _ h4) (fun _ h => h) hv hd (kk p e s m args below meth c H locs ls hc hH hS hL)
theorem X_putfield {a ci index : Nat} {fs : List Value} {v : Value} {ty : FieldType} (k : Nat) (hw : xFP y.cls index ci k ty false) (hM : M a = some (.inl (.inr (ci, fs)))) (hn : narrow ty v = v) (hfit : fits ty v = true) (hl : k < fs.length) (hd : decode cc pc = .ok (.putfield index, 3)) (kk : XW l G R y cc ml rt K Z n (xup M a (some (.inl (.inr (ci, fs.set k v))))) kc sl (pc + 3) L st) : XW l G R y cc ml rt K Z n M kc sl pc L (v :: .ref (xg G a) :: st) := by
  intro p e s m args below meth c H locs ls hc hH hS hL
  obtain ⟨C, F, N, ty0, ⟨h1, h2, h3, h4⟩, h5, h6, h7, h8, -⟩ := hw
  have hts := hc.2.2.2.2.2.2.2.1
  have hown := hc.2.2.2.2.2.1
  have hK := hc.2.2.2.2.2.2.2.2.1.1
  have hap := va_apart (own := y.cls) hts h2 ty0 h5 h6 hK h1
  obtain ⟨r, g1, cell, q1, q2, q3, q4⟩ := xH_at hH hM
  have hr : r = (C, F, N) := Option.some.inj (g1.symm.trans h1)
  subst hr
  obtain ⟨hSl, hfc, kC, hkC, hkind⟩ := hK.1 ci _ h1
  obtain ⟨cf, kf, fi, f, hi, hsl⟩ := hSl k h3
  have hlay := hts _ (h2 _ (u_in_lay h3))
  unfold u_lay at hlay
  rw [if_neg (by rw [h7]; decide)] at hlay
  have hst := (u_facts hfc hkC (u_lays hts h2 h3) hi).1
  have hs6 := u_store hfc hkC hkind hlay hi h8 hn hfit
  refine W.putK hc.1 hc.2.1 (f := f) ⟨hown, hts _ h4, ⟨_, _, _, hi⟩, hst⟩ (by rw [q2]; exact hs6) q1 q3 (by rw [hsl]; exact k2_hasslot (q4 k h3)) rfl rfl hd fun H' e1 e2 e3 => ?_
  rw [hsl] at e1 ⊢
  have hx : va_at G.1 classes (xg G a, .inr (ci, fs.set k v)) H' := ⟨(C, F, N), h1, t_OB.to (V := updV (vp_V fs) k v) ⟨_, e1, q2, q3, t_set q4 hap h3 v⟩ (fun j _ => vp_updV_set hl v j)⟩
  exact kk p e s m args below meth c H' _ ls hc (xH_set (x := .inl (.inr (ci, fs.set k v))) hH hM e2 e3 hx) (hS.put e2 e3 (xF_in G a)) hL
theorem X_putfieldF {a ci index : Nat} {fs : List Value} {v : Value} {ty : FieldType} (k : Nat) (hw : xFP y.cls index ci k ty true) (hnm : y.name = "<init>") (hM : M a = some (.inl (.inr (ci, fs)))) (hn : narrow ty v = v) (hfit : fits ty v = true) (hl : k < fs.length) (hd : decode cc pc = .ok (.putfield index, 3)) (kk : XW l G R y cc ml rt K Z n (xup M a (some (.inl (.inr (ci, fs.set k v))))) kc sl (pc + 3) L st) : XW l G R y cc ml rt K Z n M kc sl pc L (v :: .ref (xg G a) :: st) := by
  intro p e s m args below meth c H locs ls hc hH hS hL
  obtain ⟨C, F, N, ty0, ⟨h1, h2, h3, h4⟩, h5, h6, h7, h8, h9⟩ := hw
  have hdecl := h9 rfl
  have hts := hc.2.2.2.2.2.2.2.1
  have hown := hc.2.2.2.2.2.1
  have hK := hc.2.2.2.2.2.2.2.2.1.1
  have hap := va_apart (own := y.cls) hts h2 ty0 h5 h6 hK h1
  obtain ⟨r, g1, cell, q1, q2, q3, q4⟩ := xH_at hH hM
  have hr : r = (C, F, N) := Option.some.inj (g1.symm.trans h1)
  subst hr
  obtain ⟨hSl, hfc, kC, hkC, hkind⟩ := hK.1 ci _ h1
  obtain ⟨cf, kf, fi, f, hi, hsl⟩ := hSl k h3
  have hlay := hts _ (h2 _ (u_in_lay h3))
  unfold u_lay at hlay
  rw [if_pos h7] at hlay
  have hst := (u_facts hfc hkC (u_lays hts h2 h3) hi).1
  have hcf : m.cls = cf := by
    obtain ⟨_, _, c', _, _, _, -, -, hf', -, -, -, hown2, -⟩ := Cond.laysFinal_spec hlay
    have e1 : c' = cf := by have := hi.symm.trans hf'; simp at this; exact this.1.symm
    rw [hdecl] at hown2
    rw [← e1]; exact Option.some.inj (hown.symm.trans hown2)
  have hs6 := u_fits hfc hkC hkind (Or.inr hlay) hi h8 hn hfit
  refine W.putFinK hc.1 hc.2.1 hown (hts _ h4) hi hst hcf (hc.2.2.2.2.2.2.1.trans hnm) (by rw [q2]; exact hs6) q1 q3 (by rw [hsl]; exact k2_hasslot (q4 k h3)) rfl rfl hd fun H' e1 e2 e3 => ?_
  rw [hsl] at e1 ⊢
  have hx : va_at G.1 classes (xg G a, .inr (ci, fs.set k v)) H' := ⟨(C, F, N), h1, t_OB.to (V := updV (vp_V fs) k v) ⟨_, e1, q2, q3, t_set q4 hap h3 v⟩ (fun j _ => vp_updV_set hl v j)⟩
  exact kk p e s m args below meth c H' _ ls hc (xH_set (x := .inl (.inr (ci, fs.set k v))) hH hM e2 e3 hx) (hS.put e2 e3 (xF_in G a)) hL
theorem X_iald {a N : Nat} {f : Nat → Int32} {i : Int32} (hM : M a = some (.inl (.inl (0, N, .inl f)))) (hin : vp_in i N) (hd : decode cc pc = .ok (.iaload, 1)) (kk : XW l G R y cc ml rt K Z n M kc sl (pc + 1) L (.int (f i.toNatClampNeg) :: st)) : XW l G R y cc ml rt K Z n M kc sl pc L (.int i :: .ref (xg G a) :: st) := by
  intro p e s m args below meth c H locs ls hc hH hS hL
  have hP : va_P G.1 classes [(xg G a, .inl (G.2.1 0, N, .inl f))] H := by
    intro j q hj
    cases j with
    | zero => cases hj; exact xH_at hH hM
    | succ j => cases hj
  exact va_iald hc.1 hc.2.1 hc.2.2.2.2.2.2.2.2.1.1 hP 0 0 rfl rfl hin hd (kk p e s m args below meth c H locs ls hc hH hS hL)
theorem X_lald {a N : Nat} {f : Nat → Int64} {i : Int32} (hM : M a = some (.inl (.inl (1, N, .inr (.inl f))))) (hin : vp_in i N) (hd : decode cc pc = .ok (.laload, 1)) (kk : XW l G R y cc ml rt K Z n M kc sl (pc + 1) L (.long (f i.toNatClampNeg) :: st)) : XW l G R y cc ml rt K Z n M kc sl pc L (.int i :: .ref (xg G a) :: st) := by
  intro p e s m args below meth c H locs ls hc hH hS hL
  have hP : va_P G.1 classes [(xg G a, .inl (G.2.1 1, N, .inr (.inl f)))] H := by
    intro j q hj
    cases j with
    | zero => cases hj; exact xH_at hH hM
    | succ j => cases hj
  exact va_lald hc.1 hc.2.1 hc.2.2.2.2.2.2.2.2.1.1 hP 0 1 rfl rfl hin hd (kk p e s m args below meth c H locs ls hc hH hS hL)
theorem X_aald {a N t : Nat} {C : String} {f : Nat → Option Nat} {i : Int32} (ht : xty[t]? = some (.object C)) (hM : M a = some (.inl (.inl (t, N, .inr (.inr (.inr (.inr f))))))) (hin : vp_in i N) (hd : decode cc pc = .ok (.aaload, 1)) (kk : XW l G R y cc ml rt K Z n M kc sl (pc + 1) L (va_rf (f i.toNatClampNeg) :: st)) : XW l G R y cc ml rt K Z n M kc sl pc L (.int i :: .ref (xg G a) :: st) := by
  intro p e s m args below meth c H locs ls hc hH hS hL
  have hP : va_P G.1 classes [(xg G a, .inl (G.2.1 t, N, .inr (.inr (.inr (.inr f)))))] H := by
    intro j q hj
    cases j with
    | zero => cases hj; exact xH_at hH hM
    | succ j => cases hj
  have ht2 : (xtys G)[t]? = some (G.2.1 t, .object C) := by
    match t, ht with
    | 0, h => cases h
    | 1, h => cases h
    | 2, h => cases h; rfl
    | 3, h => cases h; rfl
    | 4, h => cases h; rfl
    | t + 5, h => simp [xty] at h
  exact va_aldq hc.1 hc.2.1 hc.2.2.2.2.2.2.2.2.1.1 hP 0 t rfl ht2 hin hd (kk p e s m args below meth c H locs ls hc hH hS hL)
theorem X_alen {a t : Nat} {x : vp_A} {v : Int32} (ht : t < 5) (hM : M a = some (.inl (.inl (t, x)))) (hv : Int32.ofNat x.1 = v) (hd : decode cc pc = .ok (.arraylength, 1)) (kk : XW l G R y cc ml rt K Z n M kc sl (pc + 1) L (.int v :: st)) : XW l G R y cc ml rt K Z n M kc sl pc L (.ref (xg G a) :: st) := by
  intro p e s m args below meth c H locs ls hc hH hS hL
  have hP : va_P G.1 classes [(xg G a, .inl (G.2.1 t, x))] H := by
    intro j q hj
    cases j with
    | zero => cases hj; exact xH_at hH hM
    | succ j => cases hj
  have ht2 : ∃ ty, (xtys G)[t]? = some (G.2.1 t, ty) := by
    match t, ht with
    | 0, _ => exact ⟨_, rfl⟩
    | 1, _ => exact ⟨_, rfl⟩
    | 2, _ => exact ⟨_, rfl⟩
    | 3, _ => exact ⟨_, rfl⟩
    | 4, _ => exact ⟨_, rfl⟩
  obtain ⟨ty, ht2⟩ := ht2
  exact va_alen hc.1 hc.2.1 hc.2.2.2.2.2.2.2.2.1.1 hP 0 t rfl ht2 hv hd (kk p e s m args below meth c H locs ls hc hH hS hL)
theorem xupd_up (f : Nat → Int32) (i : Nat) (x : Int32) : upd f i x = xup f i x := rfl
theorem X_iast {a N : Nat} {f : Nat → Int32} {i x : Int32} (hM : M a = some (.inl (.inl (0, N, .inl f)))) (hin : vp_in i N) (hd : decode cc pc = .ok (.iastore, 1)) (kk : XW l G R y cc ml rt K Z n (xup M a (some (.inl (.inl (0, N, .inl (xup f i.toNatClampNeg x)))))) kc sl (pc + 1) L st) : XW l G R y cc ml rt K Z n M kc sl pc L (.int x :: .int i :: .ref (xg G a) :: st) := by
  intro p e s m args below meth c H locs ls hc hH hS hL
  have hK := hc.2.2.2.2.2.2.2.2.1.1
  refine W.iast hc.1 hc.2.1 (xH_at hH hM) ((hK.2 0 _ rfl).1 N (fun j => .int (f j))) (fun q => by cases q) (by show ¬ (i < 0 ∨ (arrV _ _ _).slots.size ≤ _); rw [arrV_size]; exact hin) rfl rfl hd fun H1 e1 z oq => ?_
  refine kk p e s m args below meth c H1 _ ls hc (xH_set hH hM z oq ?_) (hS.put z oq (xF_in G a)) hL
  show H1[xg G a]? = some (vp_cell _ _)
  rw [e1]
  rw [vp_cell_i, vp_cell_i, arrV_store]
  congr 2
  funext q
  by_cases hq : q = i.toNatClampNeg
  · subst hq
    simp [updV, xup]
  · simp [updV, xup, hq]
theorem X_last {a N : Nat} {f : Nat → Int64} {i : Int32} {x : Int64} (hM : M a = some (.inl (.inl (1, N, .inr (.inl f))))) (hin : vp_in i N) (hd : decode cc pc = .ok (.lastore, 1)) (kk : XW l G R y cc ml rt K Z n (xup M a (some (.inl (.inl (1, N, .inr (.inl (xup f i.toNatClampNeg x))))))) kc sl (pc + 1) L st) : XW l G R y cc ml rt K Z n M kc sl pc L (.long x :: .int i :: .ref (xg G a) :: st) := by
  intro p e s m args below meth c H locs ls hc hH hS hL
  have hK := hc.2.2.2.2.2.2.2.2.1.1
  refine W.last hc.1 hc.2.1 (xH_at hH hM) ((hK.2 1 _ rfl).1 N (fun j => .long (f j))) (fun q => by cases q) (by show ¬ (i < 0 ∨ (arrV _ _ _).slots.size ≤ _); rw [arrV_size]; exact hin) rfl rfl hd fun H1 e1 z oq => ?_
  refine kk p e s m args below meth c H1 _ ls hc (xH_set hH hM z oq ?_) (hS.put z oq (xF_in G a)) hL
  show H1[xg G a]? = some (vp_cell _ _)
  rw [e1]
  rw [vp_cell_l, vp_cell_l, arrV_store]
  congr 2
  funext q
  by_cases hq : q = i.toNatClampNeg
  · subst hq
    simp [updV, xup]
  · simp [updV, xup, hq]
theorem X_aast {a N t v ci : Nat} {r : vw_C} {f : Nat → Option Nat} {vs : List Value} {i : Int32} (ht : xty[t]? = some (.object r.1)) (hM : M a = some (.inl (.inl (t, N, .inr (.inr (.inr (.inr f))))))) (hv : M v = some (.inl (.inr (ci, vs)))) (hcl : classes[ci]? = some r) (hin : vp_in i N) (hd : decode cc pc = .ok (.aastore, 1)) (kk : XW l G R y cc ml rt K Z n (xup M a (some (.inl (.inl (t, N, .inr (.inr (.inr (.inr (xup f i.toNatClampNeg (some (xg G v)))))))))) ) kc sl (pc + 1) L st) : XW l G R y cc ml rt K Z n M kc sl pc L (.ref (xg G v) :: .int i :: .ref (xg G a) :: st) := by
  intro p e s m args below meth c H locs ls hc hH hS hL
  have hK := hc.2.2.2.2.2.2.2.2.1.1
  have ht2 : (xtys G)[t]? = some (G.2.1 t, .object r.1) := by
    match t, ht with
    | 0, h => cases h
    | 1, h => cases h
    | 2, h => rw [← Option.some.inj h]; rfl
    | 3, h => rw [← Option.some.inj h]; rfl
    | 4, h => rw [← Option.some.inj h]; rfl
    | t + 5, h => simp [xty] at h
  have hlt : i.toNatClampNeg < N := Nat.not_le.mp fun q => hin (Or.inr q)
  have h0 : ¬ i < 0 := fun q => hin (Or.inl q)
  obtain ⟨r', hr', cellV, g1, g2, g3, -⟩ := xH_at hH hv
  have hcls := (hK.1 ci r hcl).2
  obtain ⟨kA, comp, k1, k2, k3, -⟩ := (hK.2 t _ ht2).2
  have hcomp : comp = G.1.1 ci := Option.some.inj (k3.symm.trans hcls.1)
  subst hcomp
  obtain ⟨kC, hkC, -⟩ := hcls.2
  refine W.aast hc.1 hc.2.1 (xH_at hH hM) (fun q h => by cases h) (fun h => by cases h) k1 k2 rfl hkC ⟨h0, by show _ < (arrV _ _ _).slots.size; rw [arrV_size]; exact hlt⟩ g1 (fun q h => by rw [g3] at h; cases h) (by rw [g2]; exact hkC) (by rw [g2]; exact va_assign hcls) rfl rfl hd fun H1 e1 z oq => ?_
  refine kk p e s m args below meth c H1 _ ls hc (xH_set hH hM z oq ?_) (hS.put z oq (xF_in G a)) hL
  show H1[xg G a]? = some (vp_cell _ _)
  rw [e1]
  rw [vp_cell_q, vp_cell_q, arrV_store]
  congr 2
  funext q
  by_cases hq : q = i.toNatClampNeg
  · subst hq
    simp [updV, xup, va_rf]
  · simp [updV, xup, hq]
theorem X_newI {N' : Nat} {z : Int32} (harr : Cond.arrayClass .int ∈ xT) (hn : ¬ z < 0) (hN : z.toNatClampNeg = N') (hbytes : N' * 4 ≤ 536870912) (hcells : kc + 1 ≤ R.cells) (hslots : sl + N' ≤ R.slots) (hd : decode cc pc = .ok (.newarray .int, 2)) (kk : XW l G R y cc ml rt K Z (n + 1) (xup M n (some (.inl (.inl (0, N', .inl (fun _ => 0)))))) (kc + 1) (sl + N') (pc + 2) L (.ref (xg G n) :: st)) : XW l G R y cc ml rt K Z n M kc sl pc L (.int z :: st) := by
  intro p e s m args below meth c H locs ls hc hH hS hL
  have hK := hc.2.2.2.2.2.2.2.2.1.1
  refine va_newaK (atype := .int) hc.1 hc.2.1 (hc.2.2.2.2.2.2.2.1 _ harr) rfl hd rfl hn hN hbytes hcells hslots rfl fun H1 cA e1 z1 o1 hAr hNm => ?_
  have hcA : cA = G.2.1 0 := Option.some.inj (hNm.symm.trans (hK.2 0 _ rfl).2)
  subst hcA
  have hx : H1[xg G n]? = some (vp_cell (G.2.1 0) (N', .inl (fun _ => 0))) := by
    rw [← hH.1, e1]
    rfl
  have h2 := kk p e s m args below meth c H1 locs ls hc (xH_push hH z1 o1 (show xat G n (.inl (.inl (0, N', .inl (fun _ => 0)))) H1 from hx)) (xS_push hS z1 o1) hL
  rw [← hH.1] at h2
  exact h2
theorem X_newL {N' : Nat} {z : Int32} (harr : Cond.arrayClass .long ∈ xT) (hn : ¬ z < 0) (hN : z.toNatClampNeg = N') (hbytes : N' * 8 ≤ 536870912) (hcells : kc + 1 ≤ R.cells) (hslots : sl + N' ≤ R.slots) (hd : decode cc pc = .ok (.newarray .long, 2)) (kk : XW l G R y cc ml rt K Z (n + 1) (xup M n (some (.inl (.inl (1, N', .inr (.inl (fun _ => 0))))))) (kc + 1) (sl + N') (pc + 2) L (.ref (xg G n) :: st)) : XW l G R y cc ml rt K Z n M kc sl pc L (.int z :: st) := by
  intro p e s m args below meth c H locs ls hc hH hS hL
  have hK := hc.2.2.2.2.2.2.2.2.1.1
  refine va_newaK (atype := .long) hc.1 hc.2.1 (hc.2.2.2.2.2.2.2.1 _ harr) rfl hd rfl hn hN hbytes hcells hslots rfl fun H1 cA e1 z1 o1 hAr hNm => ?_
  have hcA : cA = G.2.1 1 := Option.some.inj (hNm.symm.trans (hK.2 1 _ rfl).2)
  subst hcA
  have hx : H1[xg G n]? = some (vp_cell (G.2.1 1) (N', .inr (.inl (fun _ => 0)))) := by
    rw [← hH.1, e1]
    rfl
  have h2 := kk p e s m args below meth c H1 locs ls hc (xH_push hH z1 o1 (show xat G n (.inl (.inl (1, N', .inr (.inl (fun _ => 0))))) H1 from hx)) (xS_push hS z1 o1) hL
  rw [← hH.1] at h2
  exact h2
theorem X_anew {N' t index : Nat} {C : String} {z : Int32} (hcl : Cond.classLink y.cls index C ∈ xT) (ht : t < 5) (ht2 : xty[t]? = some (.object C)) (hn : ¬ z < 0) (hN : z.toNatClampNeg = N') (hbytes : N' * 4 ≤ 536870912) (hcells : kc + 1 ≤ R.cells) (hslots : sl + N' ≤ R.slots) (hd : decode cc pc = .ok (.anewarray index, 3)) (kk : XW l G R y cc ml rt K Z (n + 1) (xup M n (some (.inl (.inl (t, N', .inr (.inr (.inr (.inr (fun _ => none))))))))) (kc + 1) (sl + N') (pc + 3) L (.ref (xg G n) :: st)) : XW l G R y cc ml rt K Z n M kc sl pc L (.int z :: st) := by
  intro p e s m args below meth c H locs ls hc hH hS hL
  have hK := hc.2.2.2.2.2.2.2.2.1.1
  have hAO : va_AO C s := by
    match t, ht, ht2 with
    | 0, _, h => cases h
    | 1, _, h => cases h
    | 2, _, h => cases h; exact hc.2.2.2.2.2.2.2.2.1.2.2.1
    | 3, _, h => cases h; exact hc.2.2.2.2.2.2.2.2.1.2.2.2.1
    | 4, _, h => cases h; exact hc.2.2.2.2.2.2.2.2.1.2.2.2.2
  have ht3 : (xtys G)[t]? = some (G.2.1 t, .object C) := by
    match t, ht, ht2 with
    | 0, _, h => cases h
    | 1, _, h => cases h
    | 2, _, h => cases h; rfl
    | 3, _, h => cases h; rfl
    | 4, _, h => cases h; rfl
  subst hN
  refine W.anew hc.1 hc.2.1 hc.2.2.2.2.2.1 (hc.2.2.2.2.2.2.2.1 _ hcl) (va_AO.use hAO) rfl hd rfl hn hbytes hcells hslots fun cA kA comp f1 f2 f3 f4 => ?_
  obtain ⟨kA', comp', k1, k2, k3, k4⟩ := (hK.2 t _ ht3).2
  have hcA : cA = G.2.1 t := Option.some.inj (f1.symm.trans k4)
  subst hcA
  generalize hH1 : H.push ({ cls := G.2.1 t, slots := Array.replicate z.toNatClampNeg .null, vm := .none } : Cell) = H1
  have z1 : H1.size = H.size + 1 := by rw [← hH1, Array.size_push]
  have e1 : H1[H.size]? = some (arrV (G.2.1 t) z.toNatClampNeg (fun _ => .null)) := by rw [← hH1, Array.getElem?_push_size, ← arrV_new]
  have o1 : ∀ q : Nat, q < H.size → H1[q]? = H[q]? := fun q hq => by rw [← hH1, Array.getElem?_push, if_neg (Nat.ne_of_lt hq)]
  have hx : H1[xg G n]? = some (vp_cell (G.2.1 t) (z.toNatClampNeg, .inr (.inr (.inr (.inr (fun _ => none)))))) := by
    rw [← hH.1, e1]
    rfl
  have h2 := kk p e s m args below meth c H1 locs ls hc (xH_push hH z1 o1 (show xat G n (.inl (.inl (t, z.toNatClampNeg, .inr (.inr (.inr (.inr (fun _ => none))))))) H1 from hx)) (xS_push hS z1 o1) hL
  rw [← hH.1] at h2
  exact h2
theorem X_new {ci N index : Nat} {C : String} {F : u_T} {fs : List Value} (ty : Nat → FieldType) (hty : ∀ k, k < N → parseFieldDescriptor (F k).2.2.1 = some (ty k)) (hcl : classes[ci]? = some (C, F, N)) (hin : ∀ w ∈ u_ws C F N, w ∈ xT) (hlk : Cond.classLink y.cls index C ∈ xT) (hinst : Cond.instantiable C N ∈ xT) (hini : Cond.initialized C ∈ xT) (hfs : ∀ j, j < N → defaultValue (ty j) = vp_V fs j) (hcells : kc + 1 ≤ R.cells) (hslots : sl + N ≤ R.slots) (hd : decode cc pc = .ok (.new index, 3)) (kk : XW l G R y cc ml rt K Z (n + 1) (xup M n (some (.inl (.inr (ci, fs))))) (kc + 1) (sl + N) (pc + 3) L (.ref (xg G n) :: st)) : XW l G R y cc ml rt K Z n M kc sl pc L st := by
  intro p e s m args below meth c H locs ls hc hH hS hL
  have hK := hc.2.2.2.2.2.2.2.2.1.1
  have hts := hc.2.2.2.2.2.2.2.1
  have hKn := hK.1 ci _ hcl
  refine W.newcK hc.1 hc.2.1 hc.2.2.2.2.2.1 (hts _ hlk) (hts _ hinst) (hts _ hini) rfl hd hcells hslots hKn.2.1 rfl fun H1 kC hkC e1 z1 o1 => ?_
  have hb0 := (u_born ty hts hin hKn hkC e1 hty).to hfs
  rw [hH.1] at hb0
  have hx : va_at G.1 classes (xg G n, .inr (ci, fs)) H1 := ⟨(C, F, N), hcl, hb0⟩
  have h2 := kk p e s m args below meth c H1 locs ls hc (xH_push (x := .inl (.inr (ci, fs))) hH z1 o1 hx) (xS_push hS z1 o1) hL
  rw [← hH.1] at h2
  exact h2
end XHEAP
end
section
theorem xT_good : ∀ w ∈ xT, (w.onTables && w.keeps) = true ∨ ∃ ty, w = .arrayClass ty := fun w h => good_of_word (List.mem_filter.mp h).2
theorem xgood {y : MethodName} {b : ByteArray} {ml : Nat} {rt : Option FieldType} (h : Cond.code y b ml rt ∈ xT) : GoodIn xT (.code y b ml rt :: xT) := fun w hw => by
  rcases List.mem_cons.mp hw with rfl | hw
  · exact ⟨h, Or.inl rfl⟩
  · exact ⟨hw, xT_good w hw⟩
theorem xblind {G : xG} {n : Nat} {M : xM} {as : List Value} : FrameBlind (va_Pc as (fun U => xK G U ∧ G.2.2 ≤ U.heap.size ∧ xH G n M U.heap ∧ xK0 as.toArray U)) := by
  intro a U g mk ⟨q1, q2, q3, q4, q5⟩
  exact ⟨q1, xK_same (u := U) (U := U.calling g mk a) rfl q2, q3, q4, trivial⟩
/-- M tells no less than M' -/
def xle (M M' : xM) : Prop := ∀ (G : xG) (n : Nat) (H : Heap), xH G n M H → xH G n M' H
theorem xle_rf (M : xM) : xle M M := fun _ _ _ h => h
theorem xle_of {M M' : xM} (h : M = M') : xle M M' := h ▸ xle_rf M
theorem xle_tr {M1 M2 M3 : xM} (h : xle M1 M2) (h2 : xle M2 M3) : xle M1 M3 := fun G n H q => h2 G n H (h G n H q)
theorem xle_forget {M : xM} {a N : Nat} {f : Nat → Int32} (h : M a = some (.inl (.inl (0, N, .inl f)))) : xle M (xup M a (some (.inr N))) := by
  intro G n H hH
  exact xH_set hH h rfl (fun _ _ => rfl) ⟨f, xH_at hH h⟩
theorem xup_self {α : Type} (f : Nat → α) (k : Nat) : xup f k (f k) = f := by
  funext j
  by_cases h : j = k
  · subst h; exact xup_s _ _ _
  · exact xup_n _ _ h
theorem xup_up {α : Type} (f : Nat → α) (k : Nat) (v w : α) : xup (xup f k v) k w = xup f k w := by
  funext j
  by_cases h : j = k
  · subst h; rw [xup_s, xup_s]
  · rw [xup_n _ _ h, xup_n _ _ h, xup_n _ _ h]
theorem xup_comm {α : Type} (f : Nat → α) {k j : Nat} (v w : α) (h : k ≠ j) : xup (xup f k v) j w = xup (xup f j w) k v := by
  funext i
  by_cases h1 : i = j
  · subst h1; rw [xup_s, xup_n _ _ (Ne.symm h), xup_s]
  · by_cases h2 : i = k
    · subst h2; rw [xup_n _ _ h1, xup_s, xup_s]
    · rw [xup_n _ _ h1, xup_n _ _ h2, xup_n _ _ h2, xup_n _ _ h1]
theorem xRok {d d' ml mc ms : Nat} (h : d' + 1 ≤ d) (hm : ml ≤ 45) : d' + 1 ≤ (xR d mc ms).frames ∧ 8 + (ml + 11) + 64 * d' ≤ (xR d mc ms).locals := by
  refine ⟨h, ?_⟩
  show _ ≤ 64 * d
  omega
/-- what a call needs of the tables -/
def xLB (y' : MethodName) (b' : ByteArray) (ml' : Nat) (rt' : Option FieldType) (na : Nat) : Prop := Cond.initialized y'.cls ∈ xT ∧ Cond.code y' b' ml' rt' ∈ xT ∧ y'.cls ≠ "java/lang/invoke/MethodHandle" ∧ y'.cls ≠ "java/lang/invoke/VarHandle" ∧ (parseMethodDescriptor y'.desc).map (fun d => d.parameters.length) = some na
def xLV (y' : MethodName) (b' : ByteArray) (ml' : Nat) (rt' : Option FieldType) (na : Nat) : Prop := xLB y' b' ml' rt' na ∧ Cond.instanceMethod y' ∈ xT ∧ Cond.selects y'.cls y' y' ∈ xT
def xLS (y' : MethodName) (b' : ByteArray) (ml' : Nat) (rt' : Option FieldType) (na : Nat) : Prop := xLB y' b' ml' rt' na ∧ Cond.static y' ∈ xT
def xLI (y' : MethodName) (b' : ByteArray) (ml' : Nat) (na : Nat) : Prop := xLB y' b' ml' none na ∧ y'.name = "<init>" ∧ Cond.instanceMethod y' ∈ xT
section XCALL
variable {p : Program} {l : Launch} {e : Env} {R : Room} {s : State} {m : MethodId} {args : Array Value} {below : List Frame} {meth : Method} {c : Code} {H : Heap} {locs : List Loc} {cells slots : Nat} {Q : State → Prop}
theorem xcall {G : xG} {n' mc ms pc : Nat} {M' : xM} {r : Option Value} {ls : Array Slot} {rest st0 : List Value} {a : Array Value} (hr : va_Run p l e R s m args below meth c H locs cells slots mc ms (F0 m pc ls st0) rest (xQ G n' M' r a) (xF G)) (hS : va_S (xF G) s.heap H locs)
    (kk : ∀ (H1 : Heap) (locs1 : List Loc), xH G n' M' H1 → va_S (xF G) s.heap H1 locs1 → W p l e R s m args below meth c H1 locs1 (cells + mc) (slots + ms) Q (F0 m (pc + 3) ls (r.toList ++ rest))) : W p l e R s m args below meth c H locs cells slots Q (F0 m pc ls st0) := by
  intro T hT X
  obtain ⟨v, st₀, t, T', L, h0, X', hL, e1, e2, ⟨⟨hv, hb⟩, hz, hk⟩, st⟩ := hr T hT X
  cases hv
  rw [h0] at hz hk
  obtain ⟨t2, a1, b1⟩ := kk T'.heap (locs ++ L) (by rw [e1]; exact hb)
    ⟨Nat.le_trans hS.1 (by rw [e1]; exact hz), fun q h1 h2 => by rw [e1, hk q (Nat.lt_of_lt_of_le h1 hS.1) h2]; exact hS.2.1 q h1 h2, fun q hq => by
      rcases List.mem_append.mp hq with h | h
      · exact hS.2.2 q h
      · exact hL q h⟩ T' rfl X'
  exact ⟨t2, st t2 a1, b1⟩
end XCALL
section XCALLS
variable {l : Launch} {G : xG} {R : Room} {y : MethodName} {cc : ByteArray} {ml : Nat} {rt : Option FieldType} {K : Array Value → State → Prop} {Z : List Frame → Array Value → State → State → Prop} {n : Nat} {M : xM} {kc sl pc : Nat} {L : List (Nat × Value)} {st : List Value}
variable {y' : MethodName} {b' : ByteArray} {ml' na mc ms d' n' a ci idx : Nat} {rt' : Option FieldType} {fs : List Value} {As rest : List Value} {r : Option Value} {M' : xM} {v : Value}
theorem X_callV (hM : XM l G d' y' b' ml' rt' mc ms xK0 (.ref (xg G a) :: As) n M (some v) n' M') (hlk : xLV y' b' ml' rt' na) (hln : Cond.methodLink y.cls idx y' ∈ xT) (hcell : M a = some (.inl (.inr (ci, fs)))) (hcl : (classes[ci]?).map (fun q => q.1) = some y'.cls) (hna : As.length = na) (hrest : (rest.map fun v => v.category).sum ≤ 8) (hR : d' + 1 ≤ R.frames ∧ 8 + (ml' + 11) + 64 * d' ≤ R.locals) (hcs : kc + mc ≤ R.cells ∧ sl + ms ≤ R.slots) (hd : decode cc pc = .ok (.invokevirtual idx, 3)) (hst : As.reverse ++ .ref (xg G a) :: rest = st) (kk : XW l G R y cc ml rt K Z n' M' (kc + mc) (sl + ms) (pc + 3) L (v :: rest)) : XW l G R y cc ml rt K Z n M kc sl pc L st := by
  intro p e s m args below meth c H locs ls hc hH hS hL
  have hts := hc.2.2.2.2.2.2.2.1
  have hKs := hc.2.2.2.2.2.2.2.2.1
  have hP : va_P G.1 classes [(xg G a, .inr (ci, fs))] H := by
    intro j q hj
    cases j with
    | zero => cases hj; exact xH_at hH hcell
    | succ j => cases hj
  obtain ⟨qc, hqc, hq1⟩ : ∃ qc : vw_C, classes[ci]? = some qc ∧ qc.1 = y'.cls := by
    cases hx : classes[ci]? with
    | none => rw [hx] at hcl; cases hcl
    | some qc => rw [hx] at hcl; exact ⟨qc, rfl, Option.some.inj hcl⟩
  have hrv := va_recv hKs.1 hP hqc (q0 := 0) rfl
  rw [hq1] at hrv
  exact xcall (r := (some v)) (va_runV (rest := rest) ⟨hc.1, hc.2.1, hc.2.2.1, hc.2.2.2.2.2.1, hts⟩ hM ⟨callB_of na hts (xgood hlk.1.2.1) rfl rfl rfl (hts _ hlk.1.1) (hts _ hln) ⟨hlk.1.2.2.1, hlk.1.2.2.2.1, hlk.1.2.2.2.2⟩ hR, hts _ hlk.2.1, hts _ hlk.2.2⟩ ⟨xblind, hrv, fun U hU hW => ⟨rfl, xK_warm hW hKs, by rw [hU]; exact Nat.le_trans hc.2.2.2.2.2.2.2.2.2.2 hS.1, by rw [hU]; exact hH, trivial⟩⟩ rfl hna hL.1 hst.symm (lv_room (pc := pc) (m := m) (ls := ls) (rest := st) hrest) hd hcs) hS (fun H1 locs1 h1 h2 => kk p e s m args below meth c H1 locs1 ls hc h1 h2 hL)

theorem X_callS (hM : XM l G d' y' b' ml' rt' mc ms xK0 As n M (some v) n' M') (hlk : xLS y' b' ml' rt' na) (hln : Cond.methodLink y.cls idx y' ∈ xT) (hna : As.length = na) (hrest : (rest.map fun v => v.category).sum ≤ 8) (hR : d' + 1 ≤ R.frames ∧ 8 + (ml' + 11) + 64 * d' ≤ R.locals) (hcs : kc + mc ≤ R.cells ∧ sl + ms ≤ R.slots) (hd : decode cc pc = .ok (.invokestatic idx, 3)) (hst : As.reverse ++ rest = st) (kk : XW l G R y cc ml rt K Z n' M' (kc + mc) (sl + ms) (pc + 3) L (v :: rest)) : XW l G R y cc ml rt K Z n M kc sl pc L st := by
  intro p e s m args below meth c H locs ls hc hH hS hL
  have hts := hc.2.2.2.2.2.2.2.1
  have hKs := hc.2.2.2.2.2.2.2.2.1
  exact xcall (r := (some v)) (va_runS (rest := rest) ⟨hc.1, hc.2.1, hc.2.2.1, hc.2.2.2.2.2.1, hts⟩ hM ⟨callB_of na hts (xgood hlk.1.2.1) rfl rfl rfl (hts _ hlk.1.1) (hts _ hln) ⟨hlk.1.2.2.1, hlk.1.2.2.2.1, hlk.1.2.2.2.2⟩ hR, hts _ hlk.2⟩ ⟨xblind, fun U hU hW => ⟨rfl, xK_warm hW hKs, by rw [hU]; exact Nat.le_trans hc.2.2.2.2.2.2.2.2.2.2 hS.1, by rw [hU]; exact hH, trivial⟩⟩ rfl hna hL.1 hst.symm (lv_room (pc := pc) (m := m) (ls := ls) (rest := st) hrest) hd hcs) hS (fun H1 locs1 h1 h2 => kk p e s m args below meth c H1 locs1 ls hc h1 h2 hL)

theorem X_callSN {host : String} (hM : XM l G d' y' b' ml' rt' mc ms xK0 As n M (some v) n' M') (hlk : xLS y' b' ml' rt' na) (hln : Cond.methodLinkNest y.cls idx y' host ∈ xnest) (hna : As.length = na) (hrest : (rest.map fun v => v.category).sum ≤ 8) (hR : d' + 1 ≤ R.frames ∧ 8 + (ml' + 11) + 64 * d' ≤ R.locals) (hcs : kc + mc ≤ R.cells ∧ sl + ms ≤ R.slots) (hd : decode cc pc = .ok (.invokestatic idx, 3)) (hst : As.reverse ++ rest = st) (kk : XW l G R y cc ml rt K Z n' M' (kc + mc) (sl + ms) (pc + 3) L (v :: rest)) : XW l G R y cc ml rt K Z n M kc sl pc L st := by
  intro p e s m args below meth c H locs ls hc hH hS hL
  have hts := hc.2.2.2.2.2.2.2.1
  have hKs := hc.2.2.2.2.2.2.2.2.1
  exact xcall (r := (some v)) (va_runSN (rest := rest) ⟨hc.1, hc.2.1, hc.2.2.1, hc.2.2.2.2.2.1, hts⟩ hM ⟨va_cnB na hts (xgood hlk.1.2.1) rfl rfl rfl (hKs.2.1 _ hln) (hts _ hlk.1.1) ⟨hlk.1.2.2.1, hlk.1.2.2.2.1, hlk.1.2.2.2.2⟩ hR, hts _ hlk.2, trivial⟩ ⟨xblind, fun U hU hW => ⟨rfl, xK_warm hW hKs, by rw [hU]; exact Nat.le_trans hc.2.2.2.2.2.2.2.2.2.2 hS.1, by rw [hU]; exact hH, trivial⟩⟩ rfl hna hL.1 hst.symm (lv_room (pc := pc) (m := m) (ls := ls) (rest := st) hrest) hd hcs) hS (fun H1 locs1 h1 h2 => kk p e s m args below meth c H1 locs1 ls hc h1 h2 hL)

theorem X_callVv (hM : XM l G d' y' b' ml' rt' mc ms xK0 (.ref (xg G a) :: As) n M none n' M') (hlk : xLV y' b' ml' rt' na) (hln : Cond.methodLink y.cls idx y' ∈ xT) (hcell : M a = some (.inl (.inr (ci, fs)))) (hcl : (classes[ci]?).map (fun q => q.1) = some y'.cls) (hna : As.length = na) (hrest : (rest.map fun v => v.category).sum ≤ 8) (hR : d' + 1 ≤ R.frames ∧ 8 + (ml' + 11) + 64 * d' ≤ R.locals) (hcs : kc + mc ≤ R.cells ∧ sl + ms ≤ R.slots) (hd : decode cc pc = .ok (.invokevirtual idx, 3)) (hst : As.reverse ++ .ref (xg G a) :: rest = st) (kk : XW l G R y cc ml rt K Z n' M' (kc + mc) (sl + ms) (pc + 3) L (rest)) : XW l G R y cc ml rt K Z n M kc sl pc L st := by
  intro p e s m args below meth c H locs ls hc hH hS hL
  have hts := hc.2.2.2.2.2.2.2.1
  have hKs := hc.2.2.2.2.2.2.2.2.1
  have hP : va_P G.1 classes [(xg G a, .inr (ci, fs))] H := by
    intro j q hj
    cases j with
    | zero => cases hj; exact xH_at hH hcell
    | succ j => cases hj
  obtain ⟨qc, hqc, hq1⟩ : ∃ qc : vw_C, classes[ci]? = some qc ∧ qc.1 = y'.cls := by
    cases hx : classes[ci]? with
    | none => rw [hx] at hcl; cases hcl
    | some qc => rw [hx] at hcl; exact ⟨qc, rfl, Option.some.inj hcl⟩
  have hrv := va_recv hKs.1 hP hqc (q0 := 0) rfl
  rw [hq1] at hrv
  exact xcall (r := none) (va_runV (rest := rest) ⟨hc.1, hc.2.1, hc.2.2.1, hc.2.2.2.2.2.1, hts⟩ hM ⟨callB_of na hts (xgood hlk.1.2.1) rfl rfl rfl (hts _ hlk.1.1) (hts _ hln) ⟨hlk.1.2.2.1, hlk.1.2.2.2.1, hlk.1.2.2.2.2⟩ hR, hts _ hlk.2.1, hts _ hlk.2.2⟩ ⟨xblind, hrv, fun U hU hW => ⟨rfl, xK_warm hW hKs, by rw [hU]; exact Nat.le_trans hc.2.2.2.2.2.2.2.2.2.2 hS.1, by rw [hU]; exact hH, trivial⟩⟩ rfl hna hL.1 hst.symm (lv_room (pc := pc) (m := m) (ls := ls) (rest := st) hrest) hd hcs) hS (fun H1 locs1 h1 h2 => kk p e s m args below meth c H1 locs1 ls hc h1 h2 hL)

theorem X_callSv (hM : XM l G d' y' b' ml' rt' mc ms xK0 As n M none n' M') (hlk : xLS y' b' ml' rt' na) (hln : Cond.methodLink y.cls idx y' ∈ xT) (hna : As.length = na) (hrest : (rest.map fun v => v.category).sum ≤ 8) (hR : d' + 1 ≤ R.frames ∧ 8 + (ml' + 11) + 64 * d' ≤ R.locals) (hcs : kc + mc ≤ R.cells ∧ sl + ms ≤ R.slots) (hd : decode cc pc = .ok (.invokestatic idx, 3)) (hst : As.reverse ++ rest = st) (kk : XW l G R y cc ml rt K Z n' M' (kc + mc) (sl + ms) (pc + 3) L (rest)) : XW l G R y cc ml rt K Z n M kc sl pc L st := by
  intro p e s m args below meth c H locs ls hc hH hS hL
  have hts := hc.2.2.2.2.2.2.2.1
  have hKs := hc.2.2.2.2.2.2.2.2.1
  exact xcall (r := none) (va_runS (rest := rest) ⟨hc.1, hc.2.1, hc.2.2.1, hc.2.2.2.2.2.1, hts⟩ hM ⟨callB_of na hts (xgood hlk.1.2.1) rfl rfl rfl (hts _ hlk.1.1) (hts _ hln) ⟨hlk.1.2.2.1, hlk.1.2.2.2.1, hlk.1.2.2.2.2⟩ hR, hts _ hlk.2⟩ ⟨xblind, fun U hU hW => ⟨rfl, xK_warm hW hKs, by rw [hU]; exact Nat.le_trans hc.2.2.2.2.2.2.2.2.2.2 hS.1, by rw [hU]; exact hH, trivial⟩⟩ rfl hna hL.1 hst.symm (lv_room (pc := pc) (m := m) (ls := ls) (rest := st) hrest) hd hcs) hS (fun H1 locs1 h1 h2 => kk p e s m args below meth c H1 locs1 ls hc h1 h2 hL)

theorem X_callSNv {host : String} (hM : XM l G d' y' b' ml' rt' mc ms xK0 As n M none n' M') (hlk : xLS y' b' ml' rt' na) (hln : Cond.methodLinkNest y.cls idx y' host ∈ xnest) (hna : As.length = na) (hrest : (rest.map fun v => v.category).sum ≤ 8) (hR : d' + 1 ≤ R.frames ∧ 8 + (ml' + 11) + 64 * d' ≤ R.locals) (hcs : kc + mc ≤ R.cells ∧ sl + ms ≤ R.slots) (hd : decode cc pc = .ok (.invokestatic idx, 3)) (hst : As.reverse ++ rest = st) (kk : XW l G R y cc ml rt K Z n' M' (kc + mc) (sl + ms) (pc + 3) L (rest)) : XW l G R y cc ml rt K Z n M kc sl pc L st := by
  intro p e s m args below meth c H locs ls hc hH hS hL
  have hts := hc.2.2.2.2.2.2.2.1
  have hKs := hc.2.2.2.2.2.2.2.2.1
  exact xcall (r := none) (va_runSN (rest := rest) ⟨hc.1, hc.2.1, hc.2.2.1, hc.2.2.2.2.2.1, hts⟩ hM ⟨va_cnB na hts (xgood hlk.1.2.1) rfl rfl rfl (hKs.2.1 _ hln) (hts _ hlk.1.1) ⟨hlk.1.2.2.1, hlk.1.2.2.2.1, hlk.1.2.2.2.2⟩ hR, hts _ hlk.2, trivial⟩ ⟨xblind, fun U hU hW => ⟨rfl, xK_warm hW hKs, by rw [hU]; exact Nat.le_trans hc.2.2.2.2.2.2.2.2.2.2 hS.1, by rw [hU]; exact hH, trivial⟩⟩ rfl hna hL.1 hst.symm (lv_room (pc := pc) (m := m) (ls := ls) (rest := st) hrest) hd hcs) hS (fun H1 locs1 h1 h2 => kk p e s m args below meth c H1 locs1 ls hc h1 h2 hL)

theorem X_callI (hM : XM l G d' y' b' ml' none mc ms xK0 (.ref (xg G a) :: As) n M none n' M') (hlk : xLI y' b' ml' na) (hln : Cond.methodLink y.cls idx y' ∈ xT) (hna : As.length = na) (hrest : (rest.map fun v => v.category).sum ≤ 8) (hR : d' + 1 ≤ R.frames ∧ 8 + (ml' + 11) + 64 * d' ≤ R.locals) (hcs : kc + mc ≤ R.cells ∧ sl + ms ≤ R.slots) (hd : decode cc pc = .ok (.invokespecial idx, 3)) (hst : As.reverse ++ .ref (xg G a) :: rest = st) (kk : XW l G R y cc ml rt K Z n' M' (kc + mc) (sl + ms) (pc + 3) L rest) : XW l G R y cc ml rt K Z n M kc sl pc L st := by
  intro p e s m args below meth c H locs ls hc hH hS hL
  have hts := hc.2.2.2.2.2.2.2.1
  have hKs := hc.2.2.2.2.2.2.2.2.1
  exact xcall (r := none) (va_runI (rest := rest) ⟨hc.1, hc.2.1, hc.2.2.1, hc.2.2.2.2.2.1, hts⟩ hM ⟨callB_of na hts (xgood hlk.1.2.1) rfl rfl rfl (hts _ hlk.1.1) (hts _ hln) ⟨hlk.1.2.2.1, hlk.1.2.2.2.1, hlk.1.2.2.2.2⟩ hR, hlk.2.1, hts _ hlk.2.2⟩ ⟨xblind, fun U hU hW => ⟨rfl, xK_warm hW hKs, by rw [hU]; exact Nat.le_trans hc.2.2.2.2.2.2.2.2.2.2 hS.1, by rw [hU]; exact hH, trivial⟩⟩ rfl hna hL.1 hst.symm (lv_room (pc := pc) (m := m) (ls := ls) (rest := st) hrest) hd hcs) hS (fun H1 locs1 h1 h2 => kk p e s m args below meth c H1 locs1 ls hc h1 h2 hL)

theorem X_callIN {host : String} (hM : XM l G d' y' b' ml' none mc ms xK0 (.ref (xg G a) :: As) n M none n' M') (hlk : xLI y' b' ml' na) (hln : Cond.methodLinkNest y.cls idx y' host ∈ xnest) (hna : As.length = na) (hrest : (rest.map fun v => v.category).sum ≤ 8) (hR : d' + 1 ≤ R.frames ∧ 8 + (ml' + 11) + 64 * d' ≤ R.locals) (hcs : kc + mc ≤ R.cells ∧ sl + ms ≤ R.slots) (hd : decode cc pc = .ok (.invokespecial idx, 3)) (hst : As.reverse ++ .ref (xg G a) :: rest = st) (kk : XW l G R y cc ml rt K Z n' M' (kc + mc) (sl + ms) (pc + 3) L rest) : XW l G R y cc ml rt K Z n M kc sl pc L st := by
  intro p e s m args below meth c H locs ls hc hH hS hL
  have hts := hc.2.2.2.2.2.2.2.1
  have hKs := hc.2.2.2.2.2.2.2.2.1
  exact xcall (r := none) (va_runIN (rest := rest) ⟨hc.1, hc.2.1, hc.2.2.1, hc.2.2.2.2.2.1, hts⟩ hM ⟨va_cnB na hts (xgood hlk.1.2.1) rfl rfl rfl (hKs.2.1 _ hln) (hts _ hlk.1.1) ⟨hlk.1.2.2.1, hlk.1.2.2.2.1, hlk.1.2.2.2.2⟩ hR, hlk.2.1, hts _ hlk.2.2⟩ ⟨xblind, fun U hU hW => ⟨rfl, xK_warm hW hKs, by rw [hU]; exact Nat.le_trans hc.2.2.2.2.2.2.2.2.2.2 hS.1, by rw [hU]; exact hH, trivial⟩⟩ rfl hna hL.1 hst.symm (lv_room (pc := pc) (m := m) (ls := ls) (rest := st) hrest) hd hcs) hS (fun H1 locs1 h1 h2 => kk p e s m args below meth c H1 locs1 ls hc h1 h2 hL)

theorem X_mmax {x z : Int32} {idx : Nat} (hln : Cond.methodLink y.cls idx Lib.Math.max.name ∈ xT) (hstat : Cond.static Lib.Math.max.name ∈ xT) (hini : Cond.initialized "java/lang/Math" ∈ xT) (hcode : Cond.code Lib.Math.max.name Lib.Math.max.code 2 (some .int) ∈ xT) (hfr : 1 ≤ R.frames ∧ (st.map fun v => v.category).sum + 13 ≤ R.locals) (hcs : kc ≤ R.cells ∧ sl ≤ R.slots) (hd : decode cc pc = .ok (.invokestatic idx, 3)) (kk : XW l G R y cc ml rt K Z n M kc sl (pc + 3) L (.int (if x < z then z else x) :: st)) : XW l G R y cc ml rt K Z n M kc sl pc L (.int z :: .int x :: st) := by
  intro p e s m args below meth c H locs ls hc hH hS hL
  have hts := hc.2.2.2.2.2.2.2.1
  have hKs := hc.2.2.2.2.2.2.2.2.1
  exact va_mmax hc.1 hc.2.1 (hc.2.2.1.trans hL.1.symm) hc.2.2.2.2.2.1 (hts _ hln) (hts _ hstat) (hts _ hini) (hts _ hcode) hfr.1 hfr.2 hcs.1 hcs.2 hd (kk p e s m args below meth c H locs ls hc hH hS hL)

theorem X_mmin {x z : Int32} {idx : Nat} (hln : Cond.methodLink y.cls idx Lib.Math.min.name ∈ xT) (hstat : Cond.static Lib.Math.min.name ∈ xT) (hini : Cond.initialized "java/lang/Math" ∈ xT) (hcode : Cond.code Lib.Math.min.name Lib.Math.min.code 2 (some .int) ∈ xT) (hfr : 1 ≤ R.frames ∧ (st.map fun v => v.category).sum + 13 ≤ R.locals) (hcs : kc ≤ R.cells ∧ sl ≤ R.slots) (hd : decode cc pc = .ok (.invokestatic idx, 3)) (kk : XW l G R y cc ml rt K Z n M kc sl (pc + 3) L (.int (if z < x then z else x) :: st)) : XW l G R y cc ml rt K Z n M kc sl pc L (.int z :: .int x :: st) := by
  intro p e s m args below meth c H locs ls hc hH hS hL
  have hts := hc.2.2.2.2.2.2.2.1
  have hKs := hc.2.2.2.2.2.2.2.2.1
  exact va_mmin hc.1 hc.2.1 (hc.2.2.1.trans hL.1.symm) hc.2.2.2.2.2.1 (hts _ hln) (hts _ hstat) (hts _ hini) (hts _ hcode) hfr.1 hfr.2 hcs.1 hcs.2 hd (kk p e s m args below meth c H locs ls hc hH hS hL)

theorem X_mabs {x : Int32} {idx : Nat} (hln : Cond.methodLink y.cls idx Lib.Math.abs.name ∈ xT) (hstat : Cond.static Lib.Math.abs.name ∈ xT) (hini : Cond.initialized "java/lang/Math" ∈ xT) (hcode : Cond.code Lib.Math.abs.name Lib.Math.abs.code 1 (some .int) ∈ xT) (hfr : 1 ≤ R.frames ∧ (st.map fun v => v.category).sum + 13 ≤ R.locals) (hcs : kc ≤ R.cells ∧ sl ≤ R.slots) (hd : decode cc pc = .ok (.invokestatic idx, 3)) (kk : XW l G R y cc ml rt K Z n M kc sl (pc + 3) L (.int (if 0 ≤ x then x else 0 - x) :: st)) : XW l G R y cc ml rt K Z n M kc sl pc L (.int x :: st) := by
  intro p e s m args below meth c H locs ls hc hH hS hL
  have hts := hc.2.2.2.2.2.2.2.1
  have hKs := hc.2.2.2.2.2.2.2.2.1
  exact va_mabs hc.1 hc.2.1 (hc.2.2.1.trans hL.1.symm) hc.2.2.2.2.2.1 (hts _ hln) (hts _ hstat) (hts _ hini) (hts _ hcode) hfr.1 hfr.2 hcs.1 hcs.2 hd (kk p e s m args below meth c H locs ls hc hH hS hL)

theorem X_objInit {a idx : Nat} (hln : Cond.methodLink y.cls idx Lib.objectInit ∈ xT) (hinst : Cond.instanceMethod Lib.objectInit ∈ xT) (hcode : Cond.code Lib.objectInit ⟨#[0xb1]⟩ 1 none ∈ xT) (hfr : 1 ≤ R.frames ∧ 2 * 0 + (st.map fun v => v.category).sum + 12 ≤ R.locals) (hd : decode cc pc = .ok (.invokespecial idx, 3)) (kk : XW l G R y cc ml rt K Z n M kc sl (pc + 3) L st) : XW l G R y cc ml rt K Z n M kc sl pc L (.ref a :: st) := by
  intro p e s m args below meth c H locs ls hc hH hS hL
  have hts := hc.2.2.2.2.2.2.2.1
  have hKs := hc.2.2.2.2.2.2.2.2.1
  exact W.objInit hc.1 hc.2.1 hc.2.2.2.2.2.1 (hts _ hln) (hts _ hinst) (hts _ hcode) rfl (hL.1.trans hc.2.2.1.symm) rfl hd hfr.1 hfr.2 (kk p e s m args below meth c H locs ls hc hH hS hL)

theorem X_iret {x : Int32} (hrt : rt = some .int) (hr : r = some (.int x)) (hM : xle M M') (hd : decode cc pc = .ok (.ireturn, 1)) : XW l G R y cc ml rt K (xZ G n M' r kc sl) n M kc sl pc L [.int x] := by
  intro p e s m args below meth c H locs ls hc hH hS hL
  have hts := hc.2.2.2.2.2.2.2.1
  have hKs := hc.2.2.2.2.2.2.2.2.1
  exact W.iret hc.1 hc.2.1 (hc.2.2.2.1.trans hrt) (fun t ht _ => ⟨⟨by rw [hr], by rw [ht]; exact hM G n H hH⟩, hS.F ht⟩) hS.2.2 hd hc.2.2.2.2.1

theorem X_zret {x : Int32} (hrt : rt = some .boolean) (hx : narrow .boolean (.int x) = .int x) (hr : r = some (.int x)) (hM : xle M M') (hd : decode cc pc = .ok (.ireturn, 1)) : XW l G R y cc ml rt K (xZ G n M' r kc sl) n M kc sl pc L [.int x] := by
  intro p e s m args below meth c H locs ls hc hH hS hL
  have hts := hc.2.2.2.2.2.2.2.1
  have hKs := hc.2.2.2.2.2.2.2.2.1
  exact W.zret hc.1 hc.2.1 (hc.2.2.2.1.trans hrt) hx (fun t ht _ => ⟨⟨by rw [hr], by rw [ht]; exact hM G n H hH⟩, hS.F ht⟩) hS.2.2 hd hc.2.2.2.2.1

theorem X_lret {x : Int64} (hrt : rt = some .long) (hr : r = some (.long x)) (hM : xle M M') (hd : decode cc pc = .ok (.lreturn, 1)) : XW l G R y cc ml rt K (xZ G n M' r kc sl) n M kc sl pc L [.long x] := by
  intro p e s m args below meth c H locs ls hc hH hS hL
  have hts := hc.2.2.2.2.2.2.2.1
  have hKs := hc.2.2.2.2.2.2.2.2.1
  exact W.lret hc.1 hc.2.1 (hc.2.2.2.1.trans hrt) (fun t ht _ => ⟨⟨by rw [hr], by rw [ht]; exact hM G n H hH⟩, hS.F ht⟩) hS.2.2 hd hc.2.2.2.2.1

theorem X_vret (hrt : rt = none) (hr : r = none) (hM : xle M M') (hd : decode cc pc = .ok (.return_, 1)) : XW l G R y cc ml rt K (xZ G n M' r kc sl) n M kc sl pc L [] := by
  intro p e s m args below meth c H locs ls hc hH hS hL
  have hts := hc.2.2.2.2.2.2.2.1
  have hKs := hc.2.2.2.2.2.2.2.2.1
  exact W.vret hc.1 hc.2.1 (hc.2.2.2.1.trans hrt) (fun t ht _ => ⟨⟨by rw [hr], by rw [ht]; exact hM G n H hH⟩, hS.F ht⟩) hS.2.2 hd hc.2.2.2.2.1

theorem X_aret {x : Nat} {C : String} (hrt : rt = some (.object C)) (hr : r = some (.ref x)) (hM : xle M M') (hd : decode cc pc = .ok (.areturn, 1)) : XW l G R y cc ml rt K (xZ G n M' r kc sl) n M kc sl pc L [.ref x] := by
  intro p e s m args below meth c H locs ls hc hH hS hL
  have hts := hc.2.2.2.2.2.2.2.1
  have hKs := hc.2.2.2.2.2.2.2.2.1
  exact W.aret hc.1 hc.2.1 (hc.2.2.2.1.trans hrt) (Or.inl ⟨C, rfl⟩) (Or.inr ⟨x, rfl⟩) (fun t ht _ => ⟨⟨by rw [hr], by rw [ht]; exact hM G n H hH⟩, hS.F ht⟩) hS.2.2 hd hc.2.2.2.2.1

theorem X_know {N : Nat} (hM : M a = some (.inr N)) (kk : ∀ f : Nat → Int32, XW l G R y cc ml rt K Z n (xup M a (some (.inl (.inl (0, N, .inl f))))) kc sl pc L st) : XW l G R y cc ml rt K Z n M kc sl pc L st := by
  intro p e s m args below meth c H locs ls hc hH hS hL
  have hts := hc.2.2.2.2.2.2.2.1
  have hKs := hc.2.2.2.2.2.2.2.2.1
  obtain ⟨f, hf⟩ := hH.2.2 a _ hM
  exact kk f p e s m args below meth c H locs ls hc (xH_set (x := .inl (.inl (0, N, .inl f))) hH hM rfl (fun _ _ => rfl) hf) hS hL

end XCALLS
/-- a contract out of the walk of a body -/
theorem XM.of {l : Launch} {G : xG} {d : Nat} {y : MethodName} {cc : ByteArray} {ml : Nat} {rt : Option FieldType} {mc ms : Nat} {K : Array Value → State → Prop} {as : List Value} {n n' : Nat} {M M' : xM} {r : Option Value} (hy : plainName y.cls = true) (hlen : (lg_sl as).length ≤ ml) {L : List (Nat × Value)} (hL : lv_args 0 as = L) (k : XW l G (xR d mc ms) y cc ml rt K (xZ G n' M' r mc ms) n M 0 0 0 L []) : XM l G d y cc ml rt mc ms K as n M r n' M' := by
  refine Met.ofW (cc := cc) (maxL := ml) (ret := rt) hy rfl ?_
  intro p e s m args below meth c s₁ B hml hv
  obtain ⟨rfl, hK, hb0, hH, hKK⟩ := hv
  have hts : ∀ w ∈ xT, w.before as.toArray s = true := fun w hw => atoms_spec (ws := .code y cc ml rt :: xT) B.pre w (List.mem_cons_of_mem _ hw)
  have hl := lv_entry as (n := ml) hlen
  rw [hL] at hl
  rw [lg_entry_eq]
  exact k p e s m as.toArray below meth c s.heap [] _ ⟨B.exec, B.bytes, hml, B.returns, B.notSynchronized, findClass_of_methodNamed B.named, (name_of_methodNamed B.named B.method).1, hts, hK, hKK, hb0⟩ hH va_S.rf hl
end
