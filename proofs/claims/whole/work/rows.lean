section
-- ===== PART A: goes FIRST, ahead of the names: the tables' words, and 'selects' of the private methods out of them =====
/-- a private method of a class that the tables say can be made, by its rows of tables_1 -/
def lw_okq (q : MethodName × Nat) : Prop := (q.1.cls ≠ "java/lang/invoke/MethodHandle" ∧ q.1.cls ≠ "java/lang/invoke/VarHandle") ∧ Cond.instantiable q.1.cls q.2 ∈ tables_1 ∧ Cond.privateMethod q.1 ∈ tables_1 ∧ Cond.instanceMethod q.1 ∈ tables_1
theorem lw_p0 : lw_okq (⟨"RoundAndRound", "textAt", "(I)LRoundAndRound$Text;"⟩, 15) := ⟨⟨by decide +kernel, by decide +kernel⟩, List.mem_of_getElem? (i := 15) (by decide +kernel), List.mem_of_getElem? (i := 206) (by decide +kernel), List.mem_of_getElem? (i := 207) (by decide +kernel)⟩
theorem lw_p1 : lw_okq (⟨"RoundAndRound$Reader", "advance", "()V"⟩, 9) := ⟨⟨by decide +kernel, by decide +kernel⟩, List.mem_of_getElem? (i := 91) (by decide +kernel), List.mem_of_getElem? (i := 218) (by decide +kernel), List.mem_of_getElem? (i := 219) (by decide +kernel)⟩
theorem lw_p2 : lw_okq (⟨"RoundAndRound$Reader", "byteAt", "(I)I"⟩, 9) := ⟨⟨by decide +kernel, by decide +kernel⟩, List.mem_of_getElem? (i := 91) (by decide +kernel), List.mem_of_getElem? (i := 222) (by decide +kernel), List.mem_of_getElem? (i := 223) (by decide +kernel)⟩
theorem lw_p3 : lw_okq (⟨"RoundAndRound$Reader", "takeWord", "()V"⟩, 9) := ⟨⟨by decide +kernel, by decide +kernel⟩, List.mem_of_getElem? (i := 91) (by decide +kernel), List.mem_of_getElem? (i := 232) (by decide +kernel), List.mem_of_getElem? (i := 233) (by decide +kernel)⟩
theorem lw_p4 : lw_okq (⟨"RoundAndRound$Reader", "takeNumber", "()V"⟩, 9) := ⟨⟨by decide +kernel, by decide +kernel⟩, List.mem_of_getElem? (i := 91) (by decide +kernel), List.mem_of_getElem? (i := 240) (by decide +kernel), List.mem_of_getElem? (i := 241) (by decide +kernel)⟩
theorem lw_p5 : lw_okq (⟨"RoundAndRound$Reader", "expect", "(I)V"⟩, 9) := ⟨⟨by decide +kernel, by decide +kernel⟩, List.mem_of_getElem? (i := 91) (by decide +kernel), List.mem_of_getElem? (i := 247) (by decide +kernel), List.mem_of_getElem? (i := 248) (by decide +kernel)⟩
theorem lw_p6 : lw_okq (⟨"RoundAndRound$Reader", "fail", "()V"⟩, 9) := ⟨⟨by decide +kernel, by decide +kernel⟩, List.mem_of_getElem? (i := 91) (by decide +kernel), List.mem_of_getElem? (i := 251) (by decide +kernel), List.mem_of_getElem? (i := 252) (by decide +kernel)⟩
theorem lw_p7 : lw_okq (⟨"RoundAndRound$Reader", "failed", "()Z"⟩, 9) := ⟨⟨by decide +kernel, by decide +kernel⟩, List.mem_of_getElem? (i := 91) (by decide +kernel), List.mem_of_getElem? (i := 255) (by decide +kernel), List.mem_of_getElem? (i := 256) (by decide +kernel)⟩
theorem lw_p8 : lw_okq (⟨"RoundAndRound$Reader", "readOr", "(LRoundAndRound$Text;)V"⟩, 9) := ⟨⟨by decide +kernel, by decide +kernel⟩, List.mem_of_getElem? (i := 91) (by decide +kernel), List.mem_of_getElem? (i := 259) (by decide +kernel), List.mem_of_getElem? (i := 260) (by decide +kernel)⟩
theorem lw_p9 : lw_okq (⟨"RoundAndRound$Reader", "readAnd", "(LRoundAndRound$Text;)V"⟩, 9) := ⟨⟨by decide +kernel, by decide +kernel⟩, List.mem_of_getElem? (i := 91) (by decide +kernel), List.mem_of_getElem? (i := 263) (by decide +kernel), List.mem_of_getElem? (i := 264) (by decide +kernel)⟩
theorem lw_p10 : lw_okq (⟨"RoundAndRound$Reader", "readNot", "(LRoundAndRound$Text;)V"⟩, 9) := ⟨⟨by decide +kernel, by decide +kernel⟩, List.mem_of_getElem? (i := 91) (by decide +kernel), List.mem_of_getElem? (i := 267) (by decide +kernel), List.mem_of_getElem? (i := 268) (by decide +kernel)⟩
theorem lw_p11 : lw_okq (⟨"RoundAndRound$Reader", "at", "(I)Z"⟩, 9) := ⟨⟨by decide +kernel, by decide +kernel⟩, List.mem_of_getElem? (i := 91) (by decide +kernel), List.mem_of_getElem? (i := 271) (by decide +kernel), List.mem_of_getElem? (i := 272) (by decide +kernel)⟩
theorem lw_p12 : lw_okq (⟨"RoundAndRound$Reader", "opened", "()Z"⟩, 9) := ⟨⟨by decide +kernel, by decide +kernel⟩, List.mem_of_getElem? (i := 91) (by decide +kernel), List.mem_of_getElem? (i := 275) (by decide +kernel), List.mem_of_getElem? (i := 276) (by decide +kernel)⟩
theorem lw_p13 : lw_okq (⟨"RoundAndRound$Reader", "readSum", "(LRoundAndRound$Text;)V"⟩, 9) := ⟨⟨by decide +kernel, by decide +kernel⟩, List.mem_of_getElem? (i := 91) (by decide +kernel), List.mem_of_getElem? (i := 283) (by decide +kernel), List.mem_of_getElem? (i := 284) (by decide +kernel)⟩
theorem lw_p14 : lw_okq (⟨"RoundAndRound$Reader", "readTerm", "(LRoundAndRound$Text;)V"⟩, 9) := ⟨⟨by decide +kernel, by decide +kernel⟩, List.mem_of_getElem? (i := 91) (by decide +kernel), List.mem_of_getElem? (i := 287) (by decide +kernel), List.mem_of_getElem? (i := 288) (by decide +kernel)⟩
theorem lw_p15 : lw_okq (⟨"RoundAndRound$Reader", "readOne", "(LRoundAndRound$Text;)V"⟩, 9) := ⟨⟨by decide +kernel, by decide +kernel⟩, List.mem_of_getElem? (i := 91) (by decide +kernel), List.mem_of_getElem? (i := 291) (by decide +kernel), List.mem_of_getElem? (i := 292) (by decide +kernel)⟩
def lw_privs_1 : List (MethodName × Nat) := [(⟨"RoundAndRound", "textAt", "(I)LRoundAndRound$Text;"⟩, 15), (⟨"RoundAndRound$Reader", "advance", "()V"⟩, 9), (⟨"RoundAndRound$Reader", "byteAt", "(I)I"⟩, 9), (⟨"RoundAndRound$Reader", "takeWord", "()V"⟩, 9), (⟨"RoundAndRound$Reader", "takeNumber", "()V"⟩, 9), (⟨"RoundAndRound$Reader", "expect", "(I)V"⟩, 9), (⟨"RoundAndRound$Reader", "fail", "()V"⟩, 9), (⟨"RoundAndRound$Reader", "failed", "()Z"⟩, 9), (⟨"RoundAndRound$Reader", "readOr", "(LRoundAndRound$Text;)V"⟩, 9), (⟨"RoundAndRound$Reader", "readAnd", "(LRoundAndRound$Text;)V"⟩, 9), (⟨"RoundAndRound$Reader", "readNot", "(LRoundAndRound$Text;)V"⟩, 9), (⟨"RoundAndRound$Reader", "at", "(I)Z"⟩, 9), (⟨"RoundAndRound$Reader", "opened", "()Z"⟩, 9), (⟨"RoundAndRound$Reader", "readSum", "(LRoundAndRound$Text;)V"⟩, 9), (⟨"RoundAndRound$Reader", "readTerm", "(LRoundAndRound$Text;)V"⟩, 9), (⟨"RoundAndRound$Reader", "readOne", "(LRoundAndRound$Text;)V"⟩, 9)]
theorem lw_r1 : ∀ q ∈ lw_privs_1, lw_okq q := List.forall_mem_cons.mpr ⟨lw_p0, List.forall_mem_cons.mpr ⟨lw_p1, List.forall_mem_cons.mpr ⟨lw_p2, List.forall_mem_cons.mpr ⟨lw_p3, List.forall_mem_cons.mpr ⟨lw_p4, List.forall_mem_cons.mpr ⟨lw_p5, List.forall_mem_cons.mpr ⟨lw_p6, List.forall_mem_cons.mpr ⟨lw_p7, List.forall_mem_cons.mpr ⟨lw_p8, List.forall_mem_cons.mpr ⟨lw_p9, List.forall_mem_cons.mpr ⟨lw_p10, List.forall_mem_cons.mpr ⟨lw_p11, List.forall_mem_cons.mpr ⟨lw_p12, List.forall_mem_cons.mpr ⟨lw_p13, List.forall_mem_cons.mpr ⟨lw_p14, List.forall_mem_cons.mpr ⟨lw_p15, fun _ h => absurd h List.not_mem_nil⟩⟩⟩⟩⟩⟩⟩⟩⟩⟩⟩⟩⟩⟩⟩⟩
theorem lw_p16 : lw_okq (⟨"RoundAndRound", "isHead", "(I)Z"⟩, 15) := ⟨⟨by decide +kernel, by decide +kernel⟩, List.mem_of_getElem? (i := 15) (by decide +kernel), List.mem_of_getElem? (i := 375) (by decide +kernel), List.mem_of_getElem? (i := 376) (by decide +kernel)⟩
theorem lw_p17 : lw_okq (⟨"RoundAndRound", "law", "()LRoundAndRound$Text;"⟩, 15) := ⟨⟨by decide +kernel, by decide +kernel⟩, List.mem_of_getElem? (i := 15) (by decide +kernel), List.mem_of_getElem? (i := 382) (by decide +kernel), List.mem_of_getElem? (i := 383) (by decide +kernel)⟩
theorem lw_p18 : lw_okq (⟨"RoundAndRound", "headAt", "(I)LRoundAndRound$Head;"⟩, 15) := ⟨⟨by decide +kernel, by decide +kernel⟩, List.mem_of_getElem? (i := 15) (by decide +kernel), List.mem_of_getElem? (i := 386) (by decide +kernel), List.mem_of_getElem? (i := 387) (by decide +kernel)⟩
theorem lw_p19 : lw_okq (⟨"RoundAndRound", "thinkTurned", "(LRoundAndRound$Head;LRoundAndRound$Text;II)V"⟩, 15) := ⟨⟨by decide +kernel, by decide +kernel⟩, List.mem_of_getElem? (i := 15) (by decide +kernel), List.mem_of_getElem? (i := 527) (by decide +kernel), List.mem_of_getElem? (i := 528) (by decide +kernel)⟩
theorem lw_p20 : lw_okq (⟨"RoundAndRound", "think", "(LRoundAndRound$Head;)V"⟩, 15) := ⟨⟨by decide +kernel, by decide +kernel⟩, List.mem_of_getElem? (i := 15) (by decide +kernel), List.mem_of_getElem? (i := 531) (by decide +kernel), List.mem_of_getElem? (i := 532) (by decide +kernel)⟩
theorem lw_p21 : lw_okq (⟨"RoundAndRound", "raceWait", "(LRoundAndRound$Head;III)I"⟩, 15) := ⟨⟨by decide +kernel, by decide +kernel⟩, List.mem_of_getElem? (i := 15) (by decide +kernel), List.mem_of_getElem? (i := 563) (by decide +kernel), List.mem_of_getElem? (i := 564) (by decide +kernel)⟩
theorem lw_p22 : lw_okq (⟨"RoundAndRound", "fillTurnedSenses", "(LRoundAndRound$Head;I)V"⟩, 15) := ⟨⟨by decide +kernel, by decide +kernel⟩, List.mem_of_getElem? (i := 15) (by decide +kernel), List.mem_of_getElem? (i := 587) (by decide +kernel), List.mem_of_getElem? (i := 588) (by decide +kernel)⟩
theorem lw_p23 : lw_okq (⟨"RoundAndRound", "refusalOfTold", "(II)I"⟩, 15) := ⟨⟨by decide +kernel, by decide +kernel⟩, List.mem_of_getElem? (i := 15) (by decide +kernel), List.mem_of_getElem? (i := 598) (by decide +kernel), List.mem_of_getElem? (i := 599) (by decide +kernel)⟩
theorem lw_p24 : lw_okq (⟨"RoundAndRound", "refusalOfSheet", "(I)I"⟩, 15) := ⟨⟨by decide +kernel, by decide +kernel⟩, List.mem_of_getElem? (i := 15) (by decide +kernel), List.mem_of_getElem? (i := 602) (by decide +kernel), List.mem_of_getElem? (i := 603) (by decide +kernel)⟩
theorem lw_p25 : lw_okq (⟨"RoundAndRound", "sheetAt", "(I)LRoundAndRound$Sheet;"⟩, 15) := ⟨⟨by decide +kernel, by decide +kernel⟩, List.mem_of_getElem? (i := 15) (by decide +kernel), List.mem_of_getElem? (i := 609) (by decide +kernel), List.mem_of_getElem? (i := 610) (by decide +kernel)⟩
theorem lw_p26 : lw_okq (⟨"RoundAndRound", "firstOtherwise", "(LRoundAndRound$Sheet;LRoundAndRound$Text;I)I"⟩, 15) := ⟨⟨by decide +kernel, by decide +kernel⟩, List.mem_of_getElem? (i := 15) (by decide +kernel), List.mem_of_getElem? (i := 617) (by decide +kernel), List.mem_of_getElem? (i := 618) (by decide +kernel)⟩
theorem lw_p27 : lw_okq (⟨"RoundAndRound", "thinkDrawn", "(LRoundAndRound$Head;III)V"⟩, 15) := ⟨⟨by decide +kernel, by decide +kernel⟩, List.mem_of_getElem? (i := 15) (by decide +kernel), List.mem_of_getElem? (i := 666) (by decide +kernel), List.mem_of_getElem? (i := 667) (by decide +kernel)⟩
theorem lw_p28 : lw_okq (⟨"RoundAndRound", "imageHeadAt", "(I)LRoundAndRound$Head;"⟩, 15) := ⟨⟨by decide +kernel, by decide +kernel⟩, List.mem_of_getElem? (i := 15) (by decide +kernel), List.mem_of_getElem? (i := 688) (by decide +kernel), List.mem_of_getElem? (i := 689) (by decide +kernel)⟩
theorem lw_p29 : lw_okq (⟨"RoundAndRoundModel", "next", "()V"⟩, 34) := ⟨⟨by decide +kernel, by decide +kernel⟩, List.mem_of_getElem? (i := 731) (by decide +kernel), List.mem_of_getElem? (i := 741) (by decide +kernel), List.mem_of_getElem? (i := 742) (by decide +kernel)⟩
theorem lw_p30 : lw_okq (⟨"RoundAndRoundModel", "wordFrom", "(II)I"⟩, 34) := ⟨⟨by decide +kernel, by decide +kernel⟩, List.mem_of_getElem? (i := 731) (by decide +kernel), List.mem_of_getElem? (i := 748) (by decide +kernel), List.mem_of_getElem? (i := 749) (by decide +kernel)⟩
theorem lw_p31 : lw_okq (⟨"RoundAndRoundModel", "eRead", "()Z"⟩, 34) := ⟨⟨by decide +kernel, by decide +kernel⟩, List.mem_of_getElem? (i := 731) (by decide +kernel), List.mem_of_getElem? (i := 752) (by decide +kernel), List.mem_of_getElem? (i := 753) (by decide +kernel)⟩
def lw_privs_2 : List (MethodName × Nat) := [(⟨"RoundAndRound", "isHead", "(I)Z"⟩, 15), (⟨"RoundAndRound", "law", "()LRoundAndRound$Text;"⟩, 15), (⟨"RoundAndRound", "headAt", "(I)LRoundAndRound$Head;"⟩, 15), (⟨"RoundAndRound", "thinkTurned", "(LRoundAndRound$Head;LRoundAndRound$Text;II)V"⟩, 15), (⟨"RoundAndRound", "think", "(LRoundAndRound$Head;)V"⟩, 15), (⟨"RoundAndRound", "raceWait", "(LRoundAndRound$Head;III)I"⟩, 15), (⟨"RoundAndRound", "fillTurnedSenses", "(LRoundAndRound$Head;I)V"⟩, 15), (⟨"RoundAndRound", "refusalOfTold", "(II)I"⟩, 15), (⟨"RoundAndRound", "refusalOfSheet", "(I)I"⟩, 15), (⟨"RoundAndRound", "sheetAt", "(I)LRoundAndRound$Sheet;"⟩, 15), (⟨"RoundAndRound", "firstOtherwise", "(LRoundAndRound$Sheet;LRoundAndRound$Text;I)I"⟩, 15), (⟨"RoundAndRound", "thinkDrawn", "(LRoundAndRound$Head;III)V"⟩, 15), (⟨"RoundAndRound", "imageHeadAt", "(I)LRoundAndRound$Head;"⟩, 15), (⟨"RoundAndRoundModel", "next", "()V"⟩, 34), (⟨"RoundAndRoundModel", "wordFrom", "(II)I"⟩, 34), (⟨"RoundAndRoundModel", "eRead", "()Z"⟩, 34)]
theorem lw_r2 : ∀ q ∈ lw_privs_2, lw_okq q := List.forall_mem_cons.mpr ⟨lw_p16, List.forall_mem_cons.mpr ⟨lw_p17, List.forall_mem_cons.mpr ⟨lw_p18, List.forall_mem_cons.mpr ⟨lw_p19, List.forall_mem_cons.mpr ⟨lw_p20, List.forall_mem_cons.mpr ⟨lw_p21, List.forall_mem_cons.mpr ⟨lw_p22, List.forall_mem_cons.mpr ⟨lw_p23, List.forall_mem_cons.mpr ⟨lw_p24, List.forall_mem_cons.mpr ⟨lw_p25, List.forall_mem_cons.mpr ⟨lw_p26, List.forall_mem_cons.mpr ⟨lw_p27, List.forall_mem_cons.mpr ⟨lw_p28, List.forall_mem_cons.mpr ⟨lw_p29, List.forall_mem_cons.mpr ⟨lw_p30, List.forall_mem_cons.mpr ⟨lw_p31, fun _ h => absurd h List.not_mem_nil⟩⟩⟩⟩⟩⟩⟩⟩⟩⟩⟩⟩⟩⟩⟩⟩
theorem lw_p32 : lw_okq (⟨"RoundAndRoundModel", "puts", "(I)V"⟩, 34) := ⟨⟨by decide +kernel, by decide +kernel⟩, List.mem_of_getElem? (i := 731) (by decide +kernel), List.mem_of_getElem? (i := 757) (by decide +kernel), List.mem_of_getElem? (i := 758) (by decide +kernel)⟩
theorem lw_p33 : lw_okq (⟨"RoundAndRoundModel", "unwinds", "(I)V"⟩, 34) := ⟨⟨by decide +kernel, by decide +kernel⟩, List.mem_of_getElem? (i := 731) (by decide +kernel), List.mem_of_getElem? (i := 761) (by decide +kernel), List.mem_of_getElem? (i := 762) (by decide +kernel)⟩
theorem lw_p34 : lw_okq (⟨"RoundAndRoundModel", "opensOne", "(I)Z"⟩, 34) := ⟨⟨by decide +kernel, by decide +kernel⟩, List.mem_of_getElem? (i := 731) (by decide +kernel), List.mem_of_getElem? (i := 768) (by decide +kernel), List.mem_of_getElem? (i := 769) (by decide +kernel)⟩
theorem lw_p35 : lw_okq (⟨"RoundAndRoundModel", "holds", "(I)V"⟩, 34) := ⟨⟨by decide +kernel, by decide +kernel⟩, List.mem_of_getElem? (i := 731) (by decide +kernel), List.mem_of_getElem? (i := 772) (by decide +kernel), List.mem_of_getElem? (i := 773) (by decide +kernel)⟩
theorem lw_p36 : lw_okq (⟨"RoundAndRoundModel", "signOf", "()I"⟩, 34) := ⟨⟨by decide +kernel, by decide +kernel⟩, List.mem_of_getElem? (i := 731) (by decide +kernel), List.mem_of_getElem? (i := 776) (by decide +kernel), List.mem_of_getElem? (i := 777) (by decide +kernel)⟩
theorem lw_p37 : lw_okq (⟨"RoundAndRoundModel", "between", "(I)Z"⟩, 34) := ⟨⟨by decide +kernel, by decide +kernel⟩, List.mem_of_getElem? (i := 731) (by decide +kernel), List.mem_of_getElem? (i := 780) (by decide +kernel), List.mem_of_getElem? (i := 781) (by decide +kernel)⟩
theorem lw_p38 : lw_okq (⟨"RoundAndRoundModel", "isHead", "(I)Z"⟩, 34) := ⟨⟨by decide +kernel, by decide +kernel⟩, List.mem_of_getElem? (i := 731) (by decide +kernel), List.mem_of_getElem? (i := 907) (by decide +kernel), List.mem_of_getElem? (i := 908) (by decide +kernel)⟩
theorem lw_p39 : lw_okq (⟨"RoundAndRoundModel", "asksOf", "(IIII)I"⟩, 34) := ⟨⟨by decide +kernel, by decide +kernel⟩, List.mem_of_getElem? (i := 731) (by decide +kernel), List.mem_of_getElem? (i := 911) (by decide +kernel), List.mem_of_getElem? (i := 912) (by decide +kernel)⟩
theorem lw_p40 : lw_okq (⟨"RoundAndRoundModel", "says", "(I)I"⟩, 34) := ⟨⟨by decide +kernel, by decide +kernel⟩, List.mem_of_getElem? (i := 731) (by decide +kernel), List.mem_of_getElem? (i := 915) (by decide +kernel), List.mem_of_getElem? (i := 916) (by decide +kernel)⟩
theorem lw_p41 : lw_okq (⟨"RoundAndRoundModel", "fallsFrom", "(I)I"⟩, 34) := ⟨⟨by decide +kernel, by decide +kernel⟩, List.mem_of_getElem? (i := 731) (by decide +kernel), List.mem_of_getElem? (i := 939) (by decide +kernel), List.mem_of_getElem? (i := 940) (by decide +kernel)⟩
theorem lw_p42 : lw_okq (⟨"RoundAndRoundModel", "takes", "(I)V"⟩, 34) := ⟨⟨by decide +kernel, by decide +kernel⟩, List.mem_of_getElem? (i := 731) (by decide +kernel), List.mem_of_getElem? (i := 950) (by decide +kernel), List.mem_of_getElem? (i := 951) (by decide +kernel)⟩
theorem lw_p43 : lw_okq (⟨"RoundAndRoundModel", "turns", "(III)V"⟩, 34) := ⟨⟨by decide +kernel, by decide +kernel⟩, List.mem_of_getElem? (i := 731) (by decide +kernel), List.mem_of_getElem? (i := 954) (by decide +kernel), List.mem_of_getElem? (i := 955) (by decide +kernel)⟩
theorem lw_p44 : lw_okq (⟨"RoundAndRoundModel", "buildsOf", "(II)I"⟩, 34) := ⟨⟨by decide +kernel, by decide +kernel⟩, List.mem_of_getElem? (i := 731) (by decide +kernel), List.mem_of_getElem? (i := 961) (by decide +kernel), List.mem_of_getElem? (i := 962) (by decide +kernel)⟩
theorem lw_p45 : lw_okq (⟨"RoundAndRoundModel", "fade", "(II)V"⟩, 34) := ⟨⟨by decide +kernel, by decide +kernel⟩, List.mem_of_getElem? (i := 731) (by decide +kernel), List.mem_of_getElem? (i := 965) (by decide +kernel), List.mem_of_getElem? (i := 966) (by decide +kernel)⟩
theorem lw_p46 : lw_okq (⟨"RoundAndRoundModel", "fadesOf", "(II)I"⟩, 34) := ⟨⟨by decide +kernel, by decide +kernel⟩, List.mem_of_getElem? (i := 731) (by decide +kernel), List.mem_of_getElem? (i := 969) (by decide +kernel), List.mem_of_getElem? (i := 970) (by decide +kernel)⟩
theorem lw_p47 : lw_okq (⟨"RoundAndRoundModel", "lays", "(I)V"⟩, 34) := ⟨⟨by decide +kernel, by decide +kernel⟩, List.mem_of_getElem? (i := 731) (by decide +kernel), List.mem_of_getElem? (i := 973) (by decide +kernel), List.mem_of_getElem? (i := 974) (by decide +kernel)⟩
def lw_privs_3 : List (MethodName × Nat) := [(⟨"RoundAndRoundModel", "puts", "(I)V"⟩, 34), (⟨"RoundAndRoundModel", "unwinds", "(I)V"⟩, 34), (⟨"RoundAndRoundModel", "opensOne", "(I)Z"⟩, 34), (⟨"RoundAndRoundModel", "holds", "(I)V"⟩, 34), (⟨"RoundAndRoundModel", "signOf", "()I"⟩, 34), (⟨"RoundAndRoundModel", "between", "(I)Z"⟩, 34), (⟨"RoundAndRoundModel", "isHead", "(I)Z"⟩, 34), (⟨"RoundAndRoundModel", "asksOf", "(IIII)I"⟩, 34), (⟨"RoundAndRoundModel", "says", "(I)I"⟩, 34), (⟨"RoundAndRoundModel", "fallsFrom", "(I)I"⟩, 34), (⟨"RoundAndRoundModel", "takes", "(I)V"⟩, 34), (⟨"RoundAndRoundModel", "turns", "(III)V"⟩, 34), (⟨"RoundAndRoundModel", "buildsOf", "(II)I"⟩, 34), (⟨"RoundAndRoundModel", "fade", "(II)V"⟩, 34), (⟨"RoundAndRoundModel", "fadesOf", "(II)I"⟩, 34), (⟨"RoundAndRoundModel", "lays", "(I)V"⟩, 34)]
theorem lw_r3 : ∀ q ∈ lw_privs_3, lw_okq q := List.forall_mem_cons.mpr ⟨lw_p32, List.forall_mem_cons.mpr ⟨lw_p33, List.forall_mem_cons.mpr ⟨lw_p34, List.forall_mem_cons.mpr ⟨lw_p35, List.forall_mem_cons.mpr ⟨lw_p36, List.forall_mem_cons.mpr ⟨lw_p37, List.forall_mem_cons.mpr ⟨lw_p38, List.forall_mem_cons.mpr ⟨lw_p39, List.forall_mem_cons.mpr ⟨lw_p40, List.forall_mem_cons.mpr ⟨lw_p41, List.forall_mem_cons.mpr ⟨lw_p42, List.forall_mem_cons.mpr ⟨lw_p43, List.forall_mem_cons.mpr ⟨lw_p44, List.forall_mem_cons.mpr ⟨lw_p45, List.forall_mem_cons.mpr ⟨lw_p46, List.forall_mem_cons.mpr ⟨lw_p47, fun _ h => absurd h List.not_mem_nil⟩⟩⟩⟩⟩⟩⟩⟩⟩⟩⟩⟩⟩⟩⟩⟩
theorem lw_p48 : lw_okq (⟨"RoundAndRoundModel", "waits", "(III)V"⟩, 34) := ⟨⟨by decide +kernel, by decide +kernel⟩, List.mem_of_getElem? (i := 731) (by decide +kernel), List.mem_of_getElem? (i := 981) (by decide +kernel), List.mem_of_getElem? (i := 982) (by decide +kernel)⟩
theorem lw_p49 : lw_okq (⟨"RoundAndRoundModel", "walks", "(IIII)V"⟩, 34) := ⟨⟨by decide +kernel, by decide +kernel⟩, List.mem_of_getElem? (i := 731) (by decide +kernel), List.mem_of_getElem? (i := 989) (by decide +kernel), List.mem_of_getElem? (i := 990) (by decide +kernel)⟩
theorem lw_p50 : lw_okq (⟨"RoundAndRoundModel", "step", "(IIII)V"⟩, 34) := ⟨⟨by decide +kernel, by decide +kernel⟩, List.mem_of_getElem? (i := 731) (by decide +kernel), List.mem_of_getElem? (i := 993) (by decide +kernel), List.mem_of_getElem? (i := 994) (by decide +kernel)⟩
theorem lw_p51 : lw_okq (⟨"RoundAndRoundModel", "tries", "(IIIIII)V"⟩, 34) := ⟨⟨by decide +kernel, by decide +kernel⟩, List.mem_of_getElem? (i := 731) (by decide +kernel), List.mem_of_getElem? (i := 1010) (by decide +kernel), List.mem_of_getElem? (i := 1011) (by decide +kernel)⟩
theorem lw_p52 : lw_okq (⟨"RoundAndRoundModel", "begins", "(I)V"⟩, 34) := ⟨⟨by decide +kernel, by decide +kernel⟩, List.mem_of_getElem? (i := 731) (by decide +kernel), List.mem_of_getElem? (i := 1014) (by decide +kernel), List.mem_of_getElem? (i := 1015) (by decide +kernel)⟩
theorem lw_p53 : lw_okq (⟨"RoundAndRoundModel", "raceOf", "(IIIII)I"⟩, 34) := ⟨⟨by decide +kernel, by decide +kernel⟩, List.mem_of_getElem? (i := 731) (by decide +kernel), List.mem_of_getElem? (i := 1038) (by decide +kernel), List.mem_of_getElem? (i := 1039) (by decide +kernel)⟩
theorem lw_p54 : lw_okq (⟨"RoundAndRoundModel", "toldWrong", "(IIII)I"⟩, 34) := ⟨⟨by decide +kernel, by decide +kernel⟩, List.mem_of_getElem? (i := 731) (by decide +kernel), List.mem_of_getElem? (i := 1061) (by decide +kernel), List.mem_of_getElem? (i := 1062) (by decide +kernel)⟩
theorem lw_p55 : lw_okq (⟨"RoundAndRoundModel", "sheetWrong", "(I)I"⟩, 34) := ⟨⟨by decide +kernel, by decide +kernel⟩, List.mem_of_getElem? (i := 731) (by decide +kernel), List.mem_of_getElem? (i := 1065) (by decide +kernel), List.mem_of_getElem? (i := 1066) (by decide +kernel)⟩
theorem lw_p56 : lw_okq (⟨"RoundAndRoundModel", "unlike", "(IIII)I"⟩, 34) := ⟨⟨by decide +kernel, by decide +kernel⟩, List.mem_of_getElem? (i := 731) (by decide +kernel), List.mem_of_getElem? (i := 1069) (by decide +kernel), List.mem_of_getElem? (i := 1070) (by decide +kernel)⟩
theorem lw_p57 : lw_okq (⟨"RoundAndRoundModel", "walkBy", "(IIII)V"⟩, 34) := ⟨⟨by decide +kernel, by decide +kernel⟩, List.mem_of_getElem? (i := 731) (by decide +kernel), List.mem_of_getElem? (i := 1100) (by decide +kernel), List.mem_of_getElem? (i := 1101) (by decide +kernel)⟩
def lw_privs_4 : List (MethodName × Nat) := [(⟨"RoundAndRoundModel", "waits", "(III)V"⟩, 34), (⟨"RoundAndRoundModel", "walks", "(IIII)V"⟩, 34), (⟨"RoundAndRoundModel", "step", "(IIII)V"⟩, 34), (⟨"RoundAndRoundModel", "tries", "(IIIIII)V"⟩, 34), (⟨"RoundAndRoundModel", "begins", "(I)V"⟩, 34), (⟨"RoundAndRoundModel", "raceOf", "(IIIII)I"⟩, 34), (⟨"RoundAndRoundModel", "toldWrong", "(IIII)I"⟩, 34), (⟨"RoundAndRoundModel", "sheetWrong", "(I)I"⟩, 34), (⟨"RoundAndRoundModel", "unlike", "(IIII)I"⟩, 34), (⟨"RoundAndRoundModel", "walkBy", "(IIII)V"⟩, 34)]
theorem lw_r4 : ∀ q ∈ lw_privs_4, lw_okq q := List.forall_mem_cons.mpr ⟨lw_p48, List.forall_mem_cons.mpr ⟨lw_p49, List.forall_mem_cons.mpr ⟨lw_p50, List.forall_mem_cons.mpr ⟨lw_p51, List.forall_mem_cons.mpr ⟨lw_p52, List.forall_mem_cons.mpr ⟨lw_p53, List.forall_mem_cons.mpr ⟨lw_p54, List.forall_mem_cons.mpr ⟨lw_p55, List.forall_mem_cons.mpr ⟨lw_p56, List.forall_mem_cons.mpr ⟨lw_p57, fun _ h => absurd h List.not_mem_nil⟩⟩⟩⟩⟩⟩⟩⟩⟩⟩
def lw_privs : List (MethodName × Nat) := lw_privs_1 ++ (lw_privs_2 ++ (lw_privs_3 ++ (lw_privs_4)))
def lw_tbl : List Cond := k2_sels lw_privs ++ tables_1
theorem lw_privs_ok : ∀ q ∈ lw_privs, lw_okq q := by
  show ∀ q ∈ lw_privs_1 ++ (lw_privs_2 ++ (lw_privs_3 ++ (lw_privs_4))), lw_okq q
  exact List.forall_mem_append.mpr ⟨lw_r1, List.forall_mem_append.mpr ⟨lw_r2, List.forall_mem_append.mpr ⟨lw_r3, lw_r4⟩⟩⟩
end
section
-- names: classes, their fields in the order of declaration
def R_X : String := "RoundAndRound"
def F_X : u_T := fun k => match k with
  | 0 => ("RoundAndRound", "heads", "[LRoundAndRound$Head;", true)
  | 1 => ("RoundAndRound", "imageHeads", "[LRoundAndRound$Head;", true)
  | 2 => ("RoundAndRound", "thought", "LRoundAndRound$Head;", true)
  | 3 => ("RoundAndRound", "ahead", "LRoundAndRound$Head;", true)
  | 4 => ("RoundAndRound", "turnedSenses", "[I", true)
  | 5 => ("RoundAndRound", "texts", "[LRoundAndRound$Text;", true)
  | 6 => ("RoundAndRound", "noText", "LRoundAndRound$Text;", true)
  | 7 => ("RoundAndRound", "reader", "LRoundAndRound$Reader;", true)
  | 8 => ("RoundAndRound", "sheets", "[LRoundAndRound$Sheet;", true)
  | 9 => ("RoundAndRound", "noSheet", "LRoundAndRound$Sheet;", true)
  | 10 => ("RoundAndRound", "headCount", "I", false)
  | 11 => ("RoundAndRound", "textCount", "I", false)
  | 12 => ("RoundAndRound", "lawNumber", "I", false)
  | 13 => ("RoundAndRound", "imageCount", "I", false)
  | _ => ("RoundAndRound", "imageLaw", "I", false)
def t_X : Nat → FieldType := fun k => match k with
  | 0 => .array (.object "RoundAndRound$Head")
  | 1 => .array (.object "RoundAndRound$Head")
  | 2 => .object "RoundAndRound$Head"
  | 3 => .object "RoundAndRound$Head"
  | 4 => .array (.int)
  | 5 => .array (.object "RoundAndRound$Text")
  | 6 => .object "RoundAndRound$Text"
  | 7 => .object "RoundAndRound$Reader"
  | 8 => .array (.object "RoundAndRound$Sheet")
  | 9 => .object "RoundAndRound$Sheet"
  | 10 => .int
  | 11 => .int
  | 12 => .int
  | 13 => .int
  | _ => .int
theorem n_X : ∀ a, a < 15 → ∀ b, b < 15 → a ≠ b → (F_X a).2.1 ≠ (F_X b).2.1 := by decide +kernel
theorem t_X_ok : ∀ k, k < 15 → parseFieldDescriptor (F_X k).2.2.1 = some (t_X k) := by decide +kernel
def R_Head : String := "RoundAndRound$Head"
def F_Head : u_T := fun k => match k with
  | 0 => ("RoundAndRound$Head", "kind", "I", false)
  | 1 => ("RoundAndRound$Head", "more", "I", false)
  | 2 => ("RoundAndRound$Head", "sense", "I", false)
  | 3 => ("RoundAndRound$Head", "cake", "I", false)
  | 4 => ("RoundAndRound$Head", "used", "I", false)
  | 5 => ("RoundAndRound$Head", "along", "I", false)
  | 6 => ("RoundAndRound$Head", "aside", "I", false)
  | _ => ("RoundAndRound$Head", "down", "Z", false)
def t_Head : Nat → FieldType := fun k => match k with
  | 0 => .int
  | 1 => .int
  | 2 => .int
  | 3 => .int
  | 4 => .int
  | 5 => .int
  | 6 => .int
  | _ => .boolean
theorem n_Head : ∀ a, a < 8 → ∀ b, b < 8 → a ≠ b → (F_Head a).2.1 ≠ (F_Head b).2.1 := by decide +kernel
theorem t_Head_ok : ∀ k, k < 8 → parseFieldDescriptor (F_Head k).2.2.1 = some (t_Head k) := by decide +kernel
def R_Text : String := "RoundAndRound$Text"
def F_Text : u_T := fun k => match k with
  | 0 => ("RoundAndRound$Text", "code", "[I", true)
  | 1 => ("RoundAndRound$Text", "partEnds", "[I", true)
  | 2 => ("RoundAndRound$Text", "stack", "[I", true)
  | 3 => ("RoundAndRound$Text", "size", "I", false)
  | _ => ("RoundAndRound$Text", "parts", "I", false)
def t_Text : Nat → FieldType := fun k => match k with
  | 0 => .array (.int)
  | 1 => .array (.int)
  | 2 => .array (.int)
  | 3 => .int
  | _ => .int
theorem n_Text : ∀ a, a < 5 → ∀ b, b < 5 → a ≠ b → (F_Text a).2.1 ≠ (F_Text b).2.1 := by decide +kernel
theorem t_Text_ok : ∀ k, k < 5 → parseFieldDescriptor (F_Text k).2.2.1 = some (t_Text k) := by decide +kernel
def R_Reader : String := "RoundAndRound$Reader"
def F_Reader : u_T := fun k => match k with
  | 0 => ("RoundAndRound$Reader", "tape", "[I", true)
  | 1 => ("RoundAndRound$Reader", "words", "[J", true)
  | 2 => ("RoundAndRound$Reader", "size", "I", false)
  | 3 => ("RoundAndRound$Reader", "next", "I", false)
  | 4 => ("RoundAndRound$Reader", "place", "I", false)
  | 5 => ("RoundAndRound$Reader", "token", "I", false)
  | 6 => ("RoundAndRound$Reader", "number", "I", false)
  | 7 => ("RoundAndRound$Reader", "open", "I", false)
  | _ => ("RoundAndRound$Reader", "fault", "I", false)
def t_Reader : Nat → FieldType := fun k => match k with
  | 0 => .array (.int)
  | 1 => .array (.long)
  | 2 => .int
  | 3 => .int
  | 4 => .int
  | 5 => .int
  | 6 => .int
  | 7 => .int
  | _ => .int
theorem n_Reader : ∀ a, a < 9 → ∀ b, b < 9 → a ≠ b → (F_Reader a).2.1 ≠ (F_Reader b).2.1 := by decide +kernel
theorem t_Reader_ok : ∀ k, k < 9 → parseFieldDescriptor (F_Reader k).2.2.1 = some (t_Reader k) := by decide +kernel
def R_Sheet : String := "RoundAndRound$Sheet"
def F_Sheet : u_T := fun k => match k with
  | 0 => ("RoundAndRound$Sheet", "cells", "[I", true)
  | 1 => ("RoundAndRound$Sheet", "sort", "I", false)
  | _ => ("RoundAndRound$Sheet", "size", "I", false)
def t_Sheet : Nat → FieldType := fun k => match k with
  | 0 => .array (.int)
  | 1 => .int
  | _ => .int
theorem n_Sheet : ∀ a, a < 3 → ∀ b, b < 3 → a ≠ b → (F_Sheet a).2.1 ≠ (F_Sheet b).2.1 := by decide +kernel
theorem t_Sheet_ok : ∀ k, k < 3 → parseFieldDescriptor (F_Sheet k).2.2.1 = some (t_Sheet k) := by decide +kernel
def R_Model : String := "RoundAndRoundModel"
def F_Model : u_T := fun k => match k with
  | 0 => ("RoundAndRoundModel", "heads", "I", false)
  | 1 => ("RoundAndRoundModel", "kind", "[I", true)
  | 2 => ("RoundAndRoundModel", "moreOf", "[I", true)
  | 3 => ("RoundAndRoundModel", "rows", "[I", true)
  | 4 => ("RoundAndRoundModel", "tape", "[I", true)
  | 5 => ("RoundAndRoundModel", "taped", "I", false)
  | 6 => ("RoundAndRoundModel", "codes", "[I", true)
  | 7 => ("RoundAndRoundModel", "starts", "[I", true)
  | 8 => ("RoundAndRoundModel", "texts", "I", false)
  | 9 => ("RoundAndRoundModel", "rule", "I", false)
  | 10 => ("RoundAndRoundModel", "hasImage", "Z", false)
  | 11 => ("RoundAndRoundModel", "imageHeads", "I", false)
  | 12 => ("RoundAndRoundModel", "imageRule", "I", false)
  | 13 => ("RoundAndRoundModel", "imageRows", "[I", true)
  | 14 => ("RoundAndRoundModel", "sheetSort", "[I", true)
  | 15 => ("RoundAndRoundModel", "sheetSize", "[I", true)
  | 16 => ("RoundAndRoundModel", "cells", "[I", true)
  | 17 => ("RoundAndRoundModel", "law", "[I", true)
  | 18 => ("RoundAndRoundModel", "at", "I", false)
  | 19 => ("RoundAndRoundModel", "begun", "I", false)
  | 20 => ("RoundAndRoundModel", "token", "I", false)
  | 21 => ("RoundAndRoundModel", "value", "I", false)
  | 22 => ("RoundAndRoundModel", "words", "[I", true)
  | 23 => ("RoundAndRoundModel", "held", "[I", true)
  | 24 => ("RoundAndRoundModel", "heldMany", "I", false)
  | 25 => ("RoundAndRoundModel", "opens", "I", false)
  | 26 => ("RoundAndRoundModel", "out", "I", false)
  | 27 => ("RoundAndRoundModel", "stack", "[I", true)
  | 28 => ("RoundAndRoundModel", "named", "[I", true)
  | 29 => ("RoundAndRoundModel", "sense", "I", false)
  | 30 => ("RoundAndRoundModel", "along", "I", false)
  | 31 => ("RoundAndRoundModel", "aside", "I", false)
  | 32 => ("RoundAndRoundModel", "down", "Z", false)
  | _ => ("RoundAndRoundModel", "fellIn", "I", false)
def t_Model : Nat → FieldType := fun k => match k with
  | 0 => .int
  | 1 => .array (.int)
  | 2 => .array (.int)
  | 3 => .array (.int)
  | 4 => .array (.int)
  | 5 => .int
  | 6 => .array (.int)
  | 7 => .array (.int)
  | 8 => .int
  | 9 => .int
  | 10 => .boolean
  | 11 => .int
  | 12 => .int
  | 13 => .array (.int)
  | 14 => .array (.int)
  | 15 => .array (.int)
  | 16 => .array (.int)
  | 17 => .array (.int)
  | 18 => .int
  | 19 => .int
  | 20 => .int
  | 21 => .int
  | 22 => .array (.int)
  | 23 => .array (.int)
  | 24 => .int
  | 25 => .int
  | 26 => .int
  | 27 => .array (.int)
  | 28 => .array (.int)
  | 29 => .int
  | 30 => .int
  | 31 => .int
  | 32 => .boolean
  | _ => .int
theorem n_Model : ∀ a, a < 34 → ∀ b, b < 34 → a ≠ b → (F_Model a).2.1 ≠ (F_Model b).2.1 := by decide +kernel
theorem t_Model_ok : ∀ k, k < 34 → parseFieldDescriptor (F_Model k).2.2.1 = some (t_Model k) := by decide +kernel
abbrev classes : List vw_C := [(R_X, F_X, 15), (R_Head, F_Head, 8), (R_Text, F_Text, 5), (R_Reader, F_Reader, 9), (R_Sheet, F_Sheet, 3), (R_Model, F_Model, 34)]
abbrev xT : List Cond := lw_tbl.filter goodWord
theorem xT_in {w : Cond} (h : w ∈ xT) : w ∈ lw_tbl := (List.mem_filter.mp h).1
theorem xT_of {w : Cond} (i : Nat) (h : lw_tbl[i]? = some w) (g : goodWord w = true) : w ∈ xT := List.mem_filter.mpr ⟨List.mem_of_getElem? h, g⟩
theorem i_X : ∀ w ∈ u_ws R_X F_X 15, w ∈ xT := by decide +kernel
theorem i_Head : ∀ w ∈ u_ws R_Head F_Head 8, w ∈ xT := by decide +kernel
theorem i_Text : ∀ w ∈ u_ws R_Text F_Text 5, w ∈ xT := by decide +kernel
theorem i_Reader : ∀ w ∈ u_ws R_Reader F_Reader 9, w ∈ xT := by decide +kernel
theorem i_Sheet : ∀ w ∈ u_ws R_Sheet F_Sheet 3, w ∈ xT := by decide +kernel
theorem i_Model : ∀ w ∈ u_ws R_Model F_Model 34, w ∈ xT := by decide +kernel
end
section
-- the layer: a world is a memory M by numbers; its object number k stands at address base + k
abbrev xG : Type := va_G × (Nat → ClassId) × Nat
def xg (G : xG) (k : Nat) : Nat := G.2.2 + k
abbrev xA : Type := (Nat × vp_A) ⊕ (Nat × List Value)
abbrev xE : Type := xA ⊕ Nat
abbrev xM : Type := Nat → Option xE
def xup {α : Type} (f : Nat → α) (k : Nat) (v : α) : Nat → α := fun j => if j = k then v else f j
theorem xup_s {α : Type} (f : Nat → α) (k : Nat) (v : α) : xup f k v k = v := if_pos rfl
theorem xup_n {α : Type} (f : Nat → α) {k j : Nat} (v : α) (h : j ≠ k) : xup f k v j = f j := if_neg h
def xtys (G : xG) : List (ClassId × FieldType) := [(G.2.1 0, .int), (G.2.1 1, .long), (G.2.1 2, .object R_Head), (G.2.1 3, .object R_Text), (G.2.1 4, .object R_Sheet)]
def xcv (G : xG) : xA → va_E
  | .inl (k, x) => .inl (G.2.1 k, x)
  | .inr o => .inr o
def xat (G : xG) (k : Nat) (x : xE) (H : Heap) : Prop := match x with
  | .inl a => va_at G.1 classes (xg G k, xcv G a) H
  | .inr n => ∃ f : Nat → Int32, va_at G.1 classes (xg G k, .inl (G.2.1 0, n, .inl f)) H
def xH (G : xG) (n : Nat) (M : xM) (H : Heap) : Prop := H.size = xg G n ∧ (∀ k, n ≤ k → M k = none) ∧ ∀ k x, M k = some x → xat G k x H
def xnest : List Cond := [.methodLinkNest "RoundAndRound" 18 ⟨R_Head, "<init>", "()V"⟩ "RoundAndRound", .methodLinkNest "RoundAndRound" 36 ⟨R_Text, "<init>", "()V"⟩ "RoundAndRound", .methodLinkNest "RoundAndRound" 54 ⟨R_Sheet, "<init>", "()V"⟩ "RoundAndRound", .methodLinkNest "RoundAndRound$Head" 68 ⟨R_X, "bounded", "(III)I"⟩ "RoundAndRound", .methodLinkNest "RoundAndRound$Kind" 21 ⟨R_X, "bounded", "(III)I"⟩ "RoundAndRound", .methodLinkNest "RoundAndRound$Sheet" 22 ⟨R_X, "bounded", "(III)I"⟩ "RoundAndRound", .methodLinkNest "RoundAndRound$Text" 49 ⟨R_X, "bounded", "(III)I"⟩ "RoundAndRound"]
def xK (G : xG) (U : State) : Prop := va_K G.1 classes (xtys G) U ∧ (∀ w ∈ xnest, va_Nw w U) ∧ va_AO R_Head U ∧ va_AO R_Text U ∧ va_AO R_Sheet U
def xF (G : xG) : Nat → Prop := fun q => G.2.2 ≤ q
theorem xK_warm {G : xG} {s U : State} (hW : s.WarmedH U.vm) (h : xK G s) : xK G U := by
  obtain ⟨h1, h2, h3, h4, h5⟩ := h
  refine ⟨va_K.moved hW.alike h1, ?_, h3.moved hW.alike, h4.moved hW.alike, h5.moved hW.alike⟩
  simp only [xnest, List.forall_mem_cons] at h2 ⊢
  obtain ⟨a1, a2, a3, a4, a5, a6, a7, -⟩ := h2
  exact ⟨va_Nw.warmM hW a1, va_Nw.warmM hW a2, va_Nw.warmM hW a3, va_Nw.warmM hW a4, va_Nw.warmM hW a5, va_Nw.warmM hW a6, va_Nw.warmM hW a7, fun _ h => absurd h List.not_mem_nil⟩
theorem xK_same {G : xG} {u U : State} (hv : u.vm = U.vm) (h : xK G u) : xK G U := by
  obtain ⟨h1, h2, h3, h4, h5⟩ := h
  have ha : u.vm.Alike U.vm := by rw [hv]; exact Vm.Alike.refl _
  refine ⟨va_K.moved ha h1, ?_, h3.moved ha, h4.moved ha, h5.moved ha⟩
  simp only [xnest, List.forall_mem_cons] at h2 ⊢
  obtain ⟨a1, a2, a3, a4, a5, a6, a7, -⟩ := h2
  exact ⟨va_Nw.same rfl hv a1, va_Nw.same rfl hv a2, va_Nw.same rfl hv a3, va_Nw.same rfl hv a4, va_Nw.same rfl hv a5, va_Nw.same rfl hv a6, va_Nw.same rfl hv a7, fun _ h => absurd h List.not_mem_nil⟩
/-- what a method needs to know of the machine -/
def xC (p : Program) (s : State) (m : MethodId) (args : Array Value) (meth : Method) (c : Code) (G : xG) (y : MethodName) (cc : ByteArray) (ml : Nat) (rt : Option FieldType) (K : Array Value → State → Prop) : Prop :=
  p.tables.exec = Jvm.exec ∧ c.code = cc ∧ c.maxLocals = ml ∧ meth.sig.returnType = rt ∧ meth.locks = false ∧ s.vm.findClass y.cls = some m.cls ∧ meth.name = y.name ∧ (∀ w ∈ xT, w.before args s = true) ∧ xK G s ∧ K args s ∧ G.2.2 ≤ s.heap.size
/-- from here the method comes to its end as Z says -/
def XW (l : Launch) (G : xG) (R : Room) (y : MethodName) (cc : ByteArray) (ml : Nat) (rt : Option FieldType) (K : Array Value → State → Prop) (Z : List Frame → Array Value → State → State → Prop) (n : Nat) (M : xM) (k sl pc : Nat) (L : List (Nat × Value)) (st : List Value) : Prop :=
  ∀ (p : Program) (e : Env) (s : State) (m : MethodId) (args : Array Value) (below : List Frame) (meth : Method) (c : Code) (H : Heap) (locs : List Loc) (ls : Array Slot), xC p s m args meth c G y cc ml rt K → xH G n M H → va_S (xF G) s.heap H locs → lv_has ls ml L → W p l e R s m args below meth c H locs k sl (Z below args s) (F0 m pc ls st)
def xR (d mc ms : Nat) : Room := { frames := d, cells := mc, slots := ms, locals := 64 * d }
def xQ (G : xG) (n' : Nat) (M' : xM) (r : Option Value) : Array Value → State → Outcome → State → Prop := fun _ st o t => (o = .returned r ∧ xH G n' M' t.heap) ∧ va_F (xF G) st t
def xZ (G : xG) (n' : Nat) (M' : xM) (r : Option Value) (mc ms : Nat) : List Frame → Array Value → State → State → Prop := fun below args s => MQ below (xQ G n' M' r) args s mc ms (xF G)
def xK0 : Array Value → State → Prop := fun _ _ => True
def XM (l : Launch) (G : xG) (d : Nat) (y : MethodName) (cc : ByteArray) (ml : Nat) (rt : Option FieldType) (mc ms : Nat) (K : Array Value → State → Prop) (as : List Value) (n : Nat) (M : xM) (r : Option Value) (n' : Nat) (M' : xM) : Prop :=
  Met l y (.code y cc ml rt :: xT) (xR d mc ms) (va_Pc as (fun U => xK G U ∧ G.2.2 ≤ U.heap.size ∧ xH G n M U.heap ∧ K as.toArray U)) (xQ G n' M' r) mc ms (xF G)
/-- locals: an association list -/
def xlk : List (Nat × Value) → Nat → Option Value
  | [], _ => none
  | (j, v) :: t, i => if j = i then some v else xlk t i
theorem xlk_mem {L : List (Nat × Value)} {i : Nat} {v : Value} (h : xlk L i = some v) : (i, v) ∈ L := by
  induction L with
  | nil => cases h
  | cons q t ih =>
    obtain ⟨j, w⟩ := q
    rw [xlk] at h
    by_cases hj : j = i
    · rw [if_pos hj] at h
      cases h
      rw [hj]
      exact List.mem_cons_self
    · rw [if_neg hj] at h
      exact List.mem_cons_of_mem _ (ih h)
theorem xlk_at {ls : Array Slot} {nL : Nat} {L : List (Nat × Value)} {i : Nat} {v : Value} (h : lv_has ls nL L) (hl : xlk L i = some v) : ls[i]? = some (.val v) := h.2.2 (i, v) (xlk_mem hl)
theorem xsub {ls : Array Slot} {nL : Nat} {L L' : List (Nat × Value)} (h : lv_has ls nL L) (hs : ∀ q ∈ L', q ∈ L) : lv_has ls nL L' := ⟨h.1, h.2.1, fun q hq => h.2.2 q (hs q hq)⟩
/-- L' is what is left of L, in any order, when i is written with v (one slot) -/
def xst1 (L : List (Nat × Value)) (i : Nat) (v : Value) : List (Nat × Value) := (i, v) :: L.filter (fun q => !(q.1 == i) && !(q.1 + 1 == i && q.2.category == 2))
def xst2 (L : List (Nat × Value)) (i : Nat) (v : Value) : List (Nat × Value) := (i, v) :: L.filter (fun q => !(q.1 == i) && (!(q.1 == i + 1) && !(q.1 + 1 == i && q.2.category == 2)))
/-- L' picks places of L -/
def xpick (L : List (Nat × Value)) : List Nat → List (Nat × Value)
  | [] => []
  | k :: ks => (match L[k]? with | some q => [q] | none => []) ++ xpick L ks
theorem xpick_sub (L : List (Nat × Value)) : ∀ ks, ∀ q ∈ xpick L ks, q ∈ L
  | [], q, h => absurd h List.not_mem_nil
  | k :: ks, q, h => by
    rw [xpick] at h
    rcases List.mem_append.mp h with h | h
    · cases hk : L[k]? with
      | none => rw [hk] at h; exact absurd h List.not_mem_nil
      | some q' =>
        rw [hk] at h
        rw [List.mem_singleton.mp h]
        exact List.mem_of_getElem? hk
    · exact xpick_sub L ks q h
section XROWS
variable {l : Launch} {G : xG} {R : Room} {y : MethodName} {cc : ByteArray} {ml : Nat} {rt : Option FieldType} {K : Array Value → State → Prop} {Z : List Frame → Array Value → State → State → Prop} {n : Nat} {M : xM} {kc sl pc : Nat} {L : List (Nat × Value)} {st : List Value}
theorem X_sub {L' : List (Nat × Value)} (ks : List Nat) (h : xpick L ks = L') (k : XW l G R y cc ml rt K Z n M kc sl pc L' st) : XW l G R y cc ml rt K Z n M kc sl pc L st := by
  intro p e s m args below meth c H locs ls hc hH hS hL
  exact k p e s m args below meth c H locs ls hc hH hS (xsub hL (by rw [← h]; exact xpick_sub L ks))
theorem X_widen {k' s' : Nat} (h1 : kc ≤ k') (h2 : sl ≤ s') (k : XW l G R y cc ml rt K Z n M k' s' pc L st) : XW l G R y cc ml rt K Z n M kc sl pc L st := by
  intro p e s m args below meth c H locs ls hc hH hS hL
  exact W.widen h1 h2 (k p e s m args below meth c H locs ls hc hH hS hL)
--ROWSBEGIN--
theorem X_iconst {z : Int} {v : Int32} (hd : decode cc pc = .ok (.iconst z, 1)) (hv : Int32.ofInt z = v) (k : XW l G R y cc ml rt K Z n M kc sl (pc + 1) L (.int v :: st)) : XW l G R y cc ml rt K Z n M kc sl pc L (st) := by
  intro p e s m args below meth c H locs ls hc hH hS hL
  exact lv_iconst hc.1 hc.2.1 hd hv (k p e s m args below meth c H locs ls hc hH hS hL)
theorem X_bipush {z : Int} {v : Int32} (hd : decode cc pc = .ok (.bipush z, 2)) (hv : (Int8.ofInt z).toInt32 = v) (k : XW l G R y cc ml rt K Z n M kc sl (pc + 2) L (.int v :: st)) : XW l G R y cc ml rt K Z n M kc sl pc L (st) := by
  intro p e s m args below meth c H locs ls hc hH hS hL
  exact lv_bipush hc.1 hc.2.1 hd hv (k p e s m args below meth c H locs ls hc hH hS hL)
theorem X_sipush {z : Int} {v : Int32} (hd : decode cc pc = .ok (.sipush z, 3)) (hv : (Int16.ofInt z).toInt32 = v) (k : XW l G R y cc ml rt K Z n M kc sl (pc + 3) L (.int v :: st)) : XW l G R y cc ml rt K Z n M kc sl pc L (st) := by
  intro p e s m args below meth c H locs ls hc hH hS hL
  exact lv_sipush hc.1 hc.2.1 hd hv (k p e s m args below meth c H locs ls hc hH hS hL)
theorem X_lconst {z : Fin 2} {v : Int64} (hd : decode cc pc = .ok (.lconst z, 1)) (hv : Int64.ofNat (z : Nat) = v) (k : XW l G R y cc ml rt K Z n M kc sl (pc + 1) L (.long v :: st)) : XW l G R y cc ml rt K Z n M kc sl pc L (st) := by
  intro p e s m args below meth c H locs ls hc hH hS hL
  exact lv_lconst hc.1 hc.2.1 hd hv (k p e s m args below meth c H locs ls hc hH hS hL)
theorem X_aconst_null  (hd : decode cc pc = .ok (.aconst_null, 1)) (k : XW l G R y cc ml rt K Z n M kc sl (pc + 1) L (.null :: st)) : XW l G R y cc ml rt K Z n M kc sl pc L (st) := by
  intro p e s m args below meth c H locs ls hc hH hS hL
  exact lv_null hc.1 hc.2.1 hd (k p e s m args below meth c H locs ls hc hH hS hL)
theorem X_iload_n {kk : Fin 4} {i : Nat} {x : Int32} (hd : decode cc pc = .ok (.iload_n kk, 1)) (hi : (kk : Nat) = i) (hl : xlk L i = some (.int x)) (k : XW l G R y cc ml rt K Z n M kc sl (pc + 1) L (.int x :: st)) : XW l G R y cc ml rt K Z n M kc sl pc L (st) := by
  intro p e s m args below meth c H locs ls hc hH hS hL
  exact lv_iload_n hc.1 hc.2.1 hd hi (xlk_at hL hl) (k p e s m args below meth c H locs ls hc hH hS hL)
theorem X_iload {i : Nat} {x : Int32} (hd : decode cc pc = .ok (.iload i, 2)) (hl : xlk L i = some (.int x)) (k : XW l G R y cc ml rt K Z n M kc sl (pc + 2) L (.int x :: st)) : XW l G R y cc ml rt K Z n M kc sl pc L (st) := by
  intro p e s m args below meth c H locs ls hc hH hS hL
  exact lv_iload hc.1 hc.2.1 hd (xlk_at hL hl) (k p e s m args below meth c H locs ls hc hH hS hL)
theorem X_istore_n {kk : Fin 4} {i : Nat} {x : Int32} {L' : List (Nat × Value)} (hd : decode cc pc = .ok (.istore_n kk, 1)) (hi : (kk : Nat) = i) (hb : i < ml) (ks : List Nat) (hl : xpick (xst1 L i (.int x)) ks = L') (k : XW l G R y cc ml rt K Z n M kc sl (pc + 1) L' st) : XW l G R y cc ml rt K Z n M kc sl pc L (.int x :: st) := by
  intro p e s m args below meth c H locs ls hc hH hS hL
  exact lv_istore_n hc.1 hc.2.1 hd hi hL hb rfl (fun ls2 hL2 => k p e s m args below meth c H locs ls2 hc hH hS (xsub hL2 (by rw [← hl]; exact xpick_sub _ ks)))
theorem X_istore {i : Nat} {x : Int32} {L' : List (Nat × Value)} (hd : decode cc pc = .ok (.istore i, 2)) (hb : i < ml) (ks : List Nat) (hl : xpick (xst1 L i (.int x)) ks = L') (k : XW l G R y cc ml rt K Z n M kc sl (pc + 2) L' st) : XW l G R y cc ml rt K Z n M kc sl pc L (.int x :: st) := by
  intro p e s m args below meth c H locs ls hc hH hS hL
  exact lv_istore hc.1 hc.2.1 hd hL hb rfl (fun ls2 hL2 => k p e s m args below meth c H locs ls2 hc hH hS (xsub hL2 (by rw [← hl]; exact xpick_sub _ ks)))
theorem X_lload_n {kk : Fin 4} {i : Nat} {x : Int64} (hd : decode cc pc = .ok (.lload_n kk, 1)) (hi : (kk : Nat) = i) (hl : xlk L i = some (.long x)) (k : XW l G R y cc ml rt K Z n M kc sl (pc + 1) L (.long x :: st)) : XW l G R y cc ml rt K Z n M kc sl pc L (st) := by
  intro p e s m args below meth c H locs ls hc hH hS hL
  exact lv_lload_n hc.1 hc.2.1 hd hi (xlk_at hL hl) (k p e s m args below meth c H locs ls hc hH hS hL)
theorem X_lload {i : Nat} {x : Int64} (hd : decode cc pc = .ok (.lload i, 2)) (hl : xlk L i = some (.long x)) (k : XW l G R y cc ml rt K Z n M kc sl (pc + 2) L (.long x :: st)) : XW l G R y cc ml rt K Z n M kc sl pc L (st) := by
  intro p e s m args below meth c H locs ls hc hH hS hL
  exact lv_lload hc.1 hc.2.1 hd (xlk_at hL hl) (k p e s m args below meth c H locs ls hc hH hS hL)
theorem X_lstore_n {kk : Fin 4} {i : Nat} {x : Int64} {L' : List (Nat × Value)} (hd : decode cc pc = .ok (.lstore_n kk, 1)) (hi : (kk : Nat) = i) (hb : i + 1 < ml) (ks : List Nat) (hl : xpick (xst2 L i (.long x)) ks = L') (k : XW l G R y cc ml rt K Z n M kc sl (pc + 1) L' st) : XW l G R y cc ml rt K Z n M kc sl pc L (.long x :: st) := by
  intro p e s m args below meth c H locs ls hc hH hS hL
  exact lv_lstore_n hc.1 hc.2.1 hd hi hL hb rfl (fun ls2 hL2 => k p e s m args below meth c H locs ls2 hc hH hS (xsub hL2 (by rw [← hl]; exact xpick_sub _ ks)))
theorem X_lstore {i : Nat} {x : Int64} {L' : List (Nat × Value)} (hd : decode cc pc = .ok (.lstore i, 2)) (hb : i + 1 < ml) (ks : List Nat) (hl : xpick (xst2 L i (.long x)) ks = L') (k : XW l G R y cc ml rt K Z n M kc sl (pc + 2) L' st) : XW l G R y cc ml rt K Z n M kc sl pc L (.long x :: st) := by
  intro p e s m args below meth c H locs ls hc hH hS hL
  exact lv_lstore hc.1 hc.2.1 hd hL hb rfl (fun ls2 hL2 => k p e s m args below meth c H locs ls2 hc hH hS (xsub hL2 (by rw [← hl]; exact xpick_sub _ ks)))
theorem X_aload_n {kk : Fin 4} {i : Nat} {x : Nat} (hd : decode cc pc = .ok (.aload_n kk, 1)) (hi : (kk : Nat) = i) (hl : xlk L i = some (.ref x)) (k : XW l G R y cc ml rt K Z n M kc sl (pc + 1) L (.ref x :: st)) : XW l G R y cc ml rt K Z n M kc sl pc L (st) := by
  intro p e s m args below meth c H locs ls hc hH hS hL
  exact lv_aload_n hc.1 hc.2.1 hd hi (xlk_at hL hl) (k p e s m args below meth c H locs ls hc hH hS hL)
theorem X_aload {i : Nat} {x : Nat} (hd : decode cc pc = .ok (.aload i, 2)) (hl : xlk L i = some (.ref x)) (k : XW l G R y cc ml rt K Z n M kc sl (pc + 2) L (.ref x :: st)) : XW l G R y cc ml rt K Z n M kc sl pc L (st) := by
  intro p e s m args below meth c H locs ls hc hH hS hL
  exact lv_aload hc.1 hc.2.1 hd (xlk_at hL hl) (k p e s m args below meth c H locs ls hc hH hS hL)
theorem X_astore_n {kk : Fin 4} {i : Nat} {x : Nat} {L' : List (Nat × Value)} (hd : decode cc pc = .ok (.astore_n kk, 1)) (hi : (kk : Nat) = i) (hb : i < ml) (ks : List Nat) (hl : xpick (xst1 L i (.ref x)) ks = L') (k : XW l G R y cc ml rt K Z n M kc sl (pc + 1) L' st) : XW l G R y cc ml rt K Z n M kc sl pc L (.ref x :: st) := by
  intro p e s m args below meth c H locs ls hc hH hS hL
  exact lv_astore_n hc.1 hc.2.1 hd hi hL hb rfl (fun ls2 hL2 => k p e s m args below meth c H locs ls2 hc hH hS (xsub hL2 (by rw [← hl]; exact xpick_sub _ ks)))
theorem X_astore {i : Nat} {x : Nat} {L' : List (Nat × Value)} (hd : decode cc pc = .ok (.astore i, 2)) (hb : i < ml) (ks : List Nat) (hl : xpick (xst1 L i (.ref x)) ks = L') (k : XW l G R y cc ml rt K Z n M kc sl (pc + 2) L' st) : XW l G R y cc ml rt K Z n M kc sl pc L (.ref x :: st) := by
  intro p e s m args below meth c H locs ls hc hH hS hL
  exact lv_astore hc.1 hc.2.1 hd hL hb rfl (fun ls2 hL2 => k p e s m args below meth c H locs ls2 hc hH hS (xsub hL2 (by rw [← hl]; exact xpick_sub _ ks)))
theorem xlk_pl {L : List (Nat × Value)} {i : Nat} {v : Value} (h : xlk L i = some v) : ∃ k : Nat, L[k]? = some (i, v) := List.getElem?_of_mem (xlk_mem h)
theorem X_iinc {i : Nat} {z : Int} {x v : Int32} {L' : List (Nat × Value)} (hd : decode cc pc = .ok (.iinc i z, 3)) (hx : xlk L i = some (.int x)) (hv : x + Int32.ofInt z = v) (hb : i < ml) (ks : List Nat) (hl : xpick (xst1 L i (.int v)) ks = L') (k : XW l G R y cc ml rt K Z n M kc sl (pc + 3) L' st) : XW l G R y cc ml rt K Z n M kc sl pc L st := by
  intro p e s m args below meth c H locs ls hc hH hS hL
  obtain ⟨j, hj⟩ := xlk_pl hx
  exact lv_iinc hc.1 hc.2.1 hd hL hj hv hb rfl (fun ls2 hL2 => k p e s m args below meth c H locs ls2 hc hH hS (xsub hL2 (by rw [← hl]; exact xpick_sub _ ks)))
theorem X_iadd {x z : Int32} (hd : decode cc pc = .ok (.iadd, 1)) (k : XW l G R y cc ml rt K Z n M kc sl (pc + 1) L (.int (x + z) :: st)) : XW l G R y cc ml rt K Z n M kc sl pc L (.int z :: .int x :: st) := by
  intro p e s m args below meth c H locs ls hc hH hS hL
  exact lv_iadd hc.1 hc.2.1 hd (k p e s m args below meth c H locs ls hc hH hS hL)
theorem X_isub {x z : Int32} (hd : decode cc pc = .ok (.isub, 1)) (k : XW l G R y cc ml rt K Z n M kc sl (pc + 1) L (.int (x - z) :: st)) : XW l G R y cc ml rt K Z n M kc sl pc L (.int z :: .int x :: st) := by
  intro p e s m args below meth c H locs ls hc hH hS hL
  exact lv_isub hc.1 hc.2.1 hd (k p e s m args below meth c H locs ls hc hH hS hL)
theorem X_imul {x z : Int32} (hd : decode cc pc = .ok (.imul, 1)) (k : XW l G R y cc ml rt K Z n M kc sl (pc + 1) L (.int (x * z) :: st)) : XW l G R y cc ml rt K Z n M kc sl pc L (.int z :: .int x :: st) := by
  intro p e s m args below meth c H locs ls hc hH hS hL
  exact lv_imul hc.1 hc.2.1 hd (k p e s m args below meth c H locs ls hc hH hS hL)
theorem X_iand {x z : Int32} (hd : decode cc pc = .ok (.iand, 1)) (k : XW l G R y cc ml rt K Z n M kc sl (pc + 1) L (.int (x &&& z) :: st)) : XW l G R y cc ml rt K Z n M kc sl pc L (.int z :: .int x :: st) := by
  intro p e s m args below meth c H locs ls hc hH hS hL
  exact lv_iand hc.1 hc.2.1 hd (k p e s m args below meth c H locs ls hc hH hS hL)
theorem X_ior {x z : Int32} (hd : decode cc pc = .ok (.ior, 1)) (k : XW l G R y cc ml rt K Z n M kc sl (pc + 1) L (.int (x ||| z) :: st)) : XW l G R y cc ml rt K Z n M kc sl pc L (.int z :: .int x :: st) := by
  intro p e s m args below meth c H locs ls hc hH hS hL
  exact lv_ior hc.1 hc.2.1 hd (k p e s m args below meth c H locs ls hc hH hS hL)
theorem X_idiv {x z : Int32} (hd : decode cc pc = .ok (.idiv, 1)) (hn : ¬ z = 0) (k : XW l G R y cc ml rt K Z n M kc sl (pc + 1) L (.int (x / z) :: st)) : XW l G R y cc ml rt K Z n M kc sl pc L (.int z :: .int x :: st) := by
  intro p e s m args below meth c H locs ls hc hH hS hL
  exact lv_idiv hc.1 hc.2.1 hd hn (k p e s m args below meth c H locs ls hc hH hS hL)
theorem X_irem {x z : Int32} (hd : decode cc pc = .ok (.irem, 1)) (hn : ¬ z = 0) (k : XW l G R y cc ml rt K Z n M kc sl (pc + 1) L (.int (x - x / z * z) :: st)) : XW l G R y cc ml rt K Z n M kc sl pc L (.int z :: .int x :: st) := by
  intro p e s m args below meth c H locs ls hc hH hS hL
  exact lv_irem hc.1 hc.2.1 hd hn (k p e s m args below meth c H locs ls hc hH hS hL)
theorem X_ineg {x : Int32} (hd : decode cc pc = .ok (.ineg, 1)) (k : XW l G R y cc ml rt K Z n M kc sl (pc + 1) L (.int (-x) :: st)) : XW l G R y cc ml rt K Z n M kc sl pc L (.int x :: st) := by
  intro p e s m args below meth c H locs ls hc hH hS hL
  exact lv_ineg hc.1 hc.2.1 hd (k p e s m args below meth c H locs ls hc hH hS hL)
theorem X_ladd {x z : Int64} (hd : decode cc pc = .ok (.ladd, 1)) (k : XW l G R y cc ml rt K Z n M kc sl (pc + 1) L (.long (x + z) :: st)) : XW l G R y cc ml rt K Z n M kc sl pc L (.long z :: .long x :: st) := by
  intro p e s m args below meth c H locs ls hc hH hS hL
  exact lv_ladd hc.1 hc.2.1 hd (k p e s m args below meth c H locs ls hc hH hS hL)
theorem X_lsub {x z : Int64} (hd : decode cc pc = .ok (.lsub, 1)) (k : XW l G R y cc ml rt K Z n M kc sl (pc + 1) L (.long (x - z) :: st)) : XW l G R y cc ml rt K Z n M kc sl pc L (.long z :: .long x :: st) := by
  intro p e s m args below meth c H locs ls hc hH hS hL
  exact lv_lsub hc.1 hc.2.1 hd (k p e s m args below meth c H locs ls hc hH hS hL)
theorem X_lmul {x z : Int64} (hd : decode cc pc = .ok (.lmul, 1)) (k : XW l G R y cc ml rt K Z n M kc sl (pc + 1) L (.long (x * z) :: st)) : XW l G R y cc ml rt K Z n M kc sl pc L (.long z :: .long x :: st) := by
  intro p e s m args below meth c H locs ls hc hH hS hL
  exact lv_lmul hc.1 hc.2.1 hd (k p e s m args below meth c H locs ls hc hH hS hL)
theorem X_ldiv {x z : Int64} (hd : decode cc pc = .ok (.ldiv, 1)) (hn : ¬ z = 0) (k : XW l G R y cc ml rt K Z n M kc sl (pc + 1) L (.long (x / z) :: st)) : XW l G R y cc ml rt K Z n M kc sl pc L (.long z :: .long x :: st) := by
  intro p e s m args below meth c H locs ls hc hH hS hL
  exact lv_ldiv hc.1 hc.2.1 hd hn (k p e s m args below meth c H locs ls hc hH hS hL)
theorem X_lrem {x z : Int64} (hd : decode cc pc = .ok (.lrem, 1)) (hn : ¬ z = 0) (k : XW l G R y cc ml rt K Z n M kc sl (pc + 1) L (.long (x - x / z * z) :: st)) : XW l G R y cc ml rt K Z n M kc sl pc L (.long z :: .long x :: st) := by
  intro p e s m args below meth c H locs ls hc hH hS hL
  exact lv_lrem hc.1 hc.2.1 hd hn (k p e s m args below meth c H locs ls hc hH hS hL)
theorem X_ishl {x z : Int32} (hd : decode cc pc = .ok (.ishl, 1)) (k : XW l G R y cc ml rt K Z n M kc sl (pc + 1) L (.int (x <<< (z &&& 31)) :: st)) : XW l G R y cc ml rt K Z n M kc sl pc L (.int z :: .int x :: st) := by
  intro p e s m args below meth c H locs ls hc hH hS hL
  exact lv_ishl hc.1 hc.2.1 hd (k p e s m args below meth c H locs ls hc hH hS hL)
theorem X_i2l {x : Int32} (hd : decode cc pc = .ok (.i2l, 1)) (k : XW l G R y cc ml rt K Z n M kc sl (pc + 1) L (.long x.toInt64 :: st)) : XW l G R y cc ml rt K Z n M kc sl pc L (.int x :: st) := by
  intro p e s m args below meth c H locs ls hc hH hS hL
  exact lv_i2l hc.1 hc.2.1 hd rfl (k p e s m args below meth c H locs ls hc hH hS hL)
theorem X_i2b {x : Int32} (hd : decode cc pc = .ok (.i2b, 1)) (k : XW l G R y cc ml rt K Z n M kc sl (pc + 1) L (.int x.toInt8.toInt32 :: st)) : XW l G R y cc ml rt K Z n M kc sl pc L (.int x :: st) := by
  intro p e s m args below meth c H locs ls hc hH hS hL
  exact lv_i2b hc.1 hc.2.1 hd rfl (k p e s m args below meth c H locs ls hc hH hS hL)
theorem X_i2s {x : Int32} (hd : decode cc pc = .ok (.i2s, 1)) (k : XW l G R y cc ml rt K Z n M kc sl (pc + 1) L (.int x.toInt16.toInt32 :: st)) : XW l G R y cc ml rt K Z n M kc sl pc L (.int x :: st) := by
  intro p e s m args below meth c H locs ls hc hH hS hL
  exact lv_i2s hc.1 hc.2.1 hd rfl (k p e s m args below meth c H locs ls hc hH hS hL)
theorem X_lcmp {x z : Int64} (hd : decode cc pc = .ok (.lcmp, 1)) (k : XW l G R y cc ml rt K Z n M kc sl (pc + 1) L (.int (lg_cmp x z) :: st)) : XW l G R y cc ml rt K Z n M kc sl pc L (.long z :: .long x :: st) := by
  intro p e s m args below meth c H locs ls hc hH hS hL
  exact W.lcmp hc.1 hc.2.1 hd (k p e s m args below meth c H locs ls hc hH hS hL)
theorem X_dup {v : Value} (hd : decode cc pc = .ok (.dup, 1)) (hv : v.category = 1) (k : XW l G R y cc ml rt K Z n M kc sl (pc + 1) L (v :: v :: st)) : XW l G R y cc ml rt K Z n M kc sl pc L (v :: st) := by
  intro p e s m args below meth c H locs ls hc hH hS hL
  exact lv_dup hc.1 hc.2.1 hd hv (k p e s m args below meth c H locs ls hc hH hS hL)
theorem X_pop {v : Value} (hd : decode cc pc = .ok (.pop, 1)) (hv : v.category = 1) (k : XW l G R y cc ml rt K Z n M kc sl (pc + 1) L (st)) : XW l G R y cc ml rt K Z n M kc sl pc L (v :: st) := by
  intro p e s m args below meth c H locs ls hc hH hS hL
  exact lv_pop hc.1 hc.2.1 hd hv (k p e s m args below meth c H locs ls hc hH hS hL)
theorem X_goto {off : Int} {tgt : Nat} (hd : decode cc pc = .ok (.goto off, 3)) (ht : (pc : Int) + off = (tgt : Int)) (k : XW l G R y cc ml rt K Z n M kc sl tgt L (st)) : XW l G R y cc ml rt K Z n M kc sl pc L (st) := by
  intro p e s m args below meth c H locs ls hc hH hS hL
  exact lv_goto hc.1 hc.2.1 hd ht (k p e s m args below meth c H locs ls hc hH hS hL)
theorem X_ifnonnull {x : Nat} {off : Int} {tgt : Nat} (hd : decode cc pc = .ok (.ifnonnull off, 3)) (ht : (pc : Int) + off = (tgt : Int)) (k : XW l G R y cc ml rt K Z n M kc sl tgt L (st)) : XW l G R y cc ml rt K Z n M kc sl pc L (.ref x :: st) := by
  intro p e s m args below meth c H locs ls hc hH hS hL
  exact lv_ifnonnull hc.1 hc.2.1 hd ht (k p e s m args below meth c H locs ls hc hH hS hL)
theorem X_ifnonnullN {off : Int} (hd : decode cc pc = .ok (.ifnonnull off, 3)) (k : XW l G R y cc ml rt K Z n M kc sl (pc + 3) L (st)) : XW l G R y cc ml rt K Z n M kc sl pc L (.null :: st) := by
  intro p e s m args below meth c H locs ls hc hH hS hL
  exact lv_ifnonnullN hc.1 hc.2.1 hd (k p e s m args below meth c H locs ls hc hH hS hL)
theorem X_if_eq {x : Int32} {off : Int} {tgt : Nat} (hd : decode cc pc = .ok (.ifCond .eq off, 3)) (ht : (pc : Int) + off = (tgt : Int)) (kt : x = 0 → XW l G R y cc ml rt K Z n M kc sl tgt L st) (kf : ¬ x = 0 → XW l G R y cc ml rt K Z n M kc sl (pc + 3) L st) : XW l G R y cc ml rt K Z n M kc sl pc L (.int x :: st) := by
  intro p e s m args below meth c H locs ls hc hH hS hL
  exact lv_if_eq hc.1 hc.2.1 hd ht (fun h => kt h p e s m args below meth c H locs ls hc hH hS hL) (fun h => kf h p e s m args below meth c H locs ls hc hH hS hL)
theorem X_icmp_eq {x z : Int32} {off : Int} {tgt : Nat} (hd : decode cc pc = .ok (.if_icmp .eq off, 3)) (ht : (pc : Int) + off = (tgt : Int)) (kt : x = z → XW l G R y cc ml rt K Z n M kc sl tgt L st) (kf : ¬ x = z → XW l G R y cc ml rt K Z n M kc sl (pc + 3) L st) : XW l G R y cc ml rt K Z n M kc sl pc L (.int z :: .int x :: st) := by
  intro p e s m args below meth c H locs ls hc hH hS hL
  exact lv_icmp_eq hc.1 hc.2.1 hd ht (fun h => kt h p e s m args below meth c H locs ls hc hH hS hL) (fun h => kf h p e s m args below meth c H locs ls hc hH hS hL)
theorem X_if_ne {x : Int32} {off : Int} {tgt : Nat} (hd : decode cc pc = .ok (.ifCond .ne off, 3)) (ht : (pc : Int) + off = (tgt : Int)) (kt : ¬ x = 0 → XW l G R y cc ml rt K Z n M kc sl tgt L st) (kf : x = 0 → XW l G R y cc ml rt K Z n M kc sl (pc + 3) L st) : XW l G R y cc ml rt K Z n M kc sl pc L (.int x :: st) := by
  intro p e s m args below meth c H locs ls hc hH hS hL
  exact lv_if_ne hc.1 hc.2.1 hd ht (fun h => kt h p e s m args below meth c H locs ls hc hH hS hL) (fun h => kf h p e s m args below meth c H locs ls hc hH hS hL)
theorem X_icmp_ne {x z : Int32} {off : Int} {tgt : Nat} (hd : decode cc pc = .ok (.if_icmp .ne off, 3)) (ht : (pc : Int) + off = (tgt : Int)) (kt : ¬ x = z → XW l G R y cc ml rt K Z n M kc sl tgt L st) (kf : x = z → XW l G R y cc ml rt K Z n M kc sl (pc + 3) L st) : XW l G R y cc ml rt K Z n M kc sl pc L (.int z :: .int x :: st) := by
  intro p e s m args below meth c H locs ls hc hH hS hL
  exact lv_icmp_ne hc.1 hc.2.1 hd ht (fun h => kt h p e s m args below meth c H locs ls hc hH hS hL) (fun h => kf h p e s m args below meth c H locs ls hc hH hS hL)
theorem X_if_lt {x : Int32} {off : Int} {tgt : Nat} (hd : decode cc pc = .ok (.ifCond .lt off, 3)) (ht : (pc : Int) + off = (tgt : Int)) (kt : x < 0 → XW l G R y cc ml rt K Z n M kc sl tgt L st) (kf : ¬ x < 0 → XW l G R y cc ml rt K Z n M kc sl (pc + 3) L st) : XW l G R y cc ml rt K Z n M kc sl pc L (.int x :: st) := by
  intro p e s m args below meth c H locs ls hc hH hS hL
  exact lv_if_lt hc.1 hc.2.1 hd ht (fun h => kt h p e s m args below meth c H locs ls hc hH hS hL) (fun h => kf h p e s m args below meth c H locs ls hc hH hS hL)
theorem X_icmp_lt {x z : Int32} {off : Int} {tgt : Nat} (hd : decode cc pc = .ok (.if_icmp .lt off, 3)) (ht : (pc : Int) + off = (tgt : Int)) (kt : x < z → XW l G R y cc ml rt K Z n M kc sl tgt L st) (kf : ¬ x < z → XW l G R y cc ml rt K Z n M kc sl (pc + 3) L st) : XW l G R y cc ml rt K Z n M kc sl pc L (.int z :: .int x :: st) := by
  intro p e s m args below meth c H locs ls hc hH hS hL
  exact lv_icmp_lt hc.1 hc.2.1 hd ht (fun h => kt h p e s m args below meth c H locs ls hc hH hS hL) (fun h => kf h p e s m args below meth c H locs ls hc hH hS hL)
theorem X_if_ge {x : Int32} {off : Int} {tgt : Nat} (hd : decode cc pc = .ok (.ifCond .ge off, 3)) (ht : (pc : Int) + off = (tgt : Int)) (kt : 0 ≤ x → XW l G R y cc ml rt K Z n M kc sl tgt L st) (kf : ¬ 0 ≤ x → XW l G R y cc ml rt K Z n M kc sl (pc + 3) L st) : XW l G R y cc ml rt K Z n M kc sl pc L (.int x :: st) := by
  intro p e s m args below meth c H locs ls hc hH hS hL
  exact lv_if_ge hc.1 hc.2.1 hd ht (fun h => kt h p e s m args below meth c H locs ls hc hH hS hL) (fun h => kf h p e s m args below meth c H locs ls hc hH hS hL)
theorem X_icmp_ge {x z : Int32} {off : Int} {tgt : Nat} (hd : decode cc pc = .ok (.if_icmp .ge off, 3)) (ht : (pc : Int) + off = (tgt : Int)) (kt : z ≤ x → XW l G R y cc ml rt K Z n M kc sl tgt L st) (kf : ¬ z ≤ x → XW l G R y cc ml rt K Z n M kc sl (pc + 3) L st) : XW l G R y cc ml rt K Z n M kc sl pc L (.int z :: .int x :: st) := by
  intro p e s m args below meth c H locs ls hc hH hS hL
  exact lv_icmp_ge hc.1 hc.2.1 hd ht (fun h => kt h p e s m args below meth c H locs ls hc hH hS hL) (fun h => kf h p e s m args below meth c H locs ls hc hH hS hL)
theorem X_if_gt {x : Int32} {off : Int} {tgt : Nat} (hd : decode cc pc = .ok (.ifCond .gt off, 3)) (ht : (pc : Int) + off = (tgt : Int)) (kt : 0 < x → XW l G R y cc ml rt K Z n M kc sl tgt L st) (kf : ¬ 0 < x → XW l G R y cc ml rt K Z n M kc sl (pc + 3) L st) : XW l G R y cc ml rt K Z n M kc sl pc L (.int x :: st) := by
  intro p e s m args below meth c H locs ls hc hH hS hL
  exact lv_if_gt hc.1 hc.2.1 hd ht (fun h => kt h p e s m args below meth c H locs ls hc hH hS hL) (fun h => kf h p e s m args below meth c H locs ls hc hH hS hL)
theorem X_icmp_gt {x z : Int32} {off : Int} {tgt : Nat} (hd : decode cc pc = .ok (.if_icmp .gt off, 3)) (ht : (pc : Int) + off = (tgt : Int)) (kt : z < x → XW l G R y cc ml rt K Z n M kc sl tgt L st) (kf : ¬ z < x → XW l G R y cc ml rt K Z n M kc sl (pc + 3) L st) : XW l G R y cc ml rt K Z n M kc sl pc L (.int z :: .int x :: st) := by
  intro p e s m args below meth c H locs ls hc hH hS hL
  exact lv_icmp_gt hc.1 hc.2.1 hd ht (fun h => kt h p e s m args below meth c H locs ls hc hH hS hL) (fun h => kf h p e s m args below meth c H locs ls hc hH hS hL)
theorem X_if_le {x : Int32} {off : Int} {tgt : Nat} (hd : decode cc pc = .ok (.ifCond .le off, 3)) (ht : (pc : Int) + off = (tgt : Int)) (kt : x ≤ 0 → XW l G R y cc ml rt K Z n M kc sl tgt L st) (kf : ¬ x ≤ 0 → XW l G R y cc ml rt K Z n M kc sl (pc + 3) L st) : XW l G R y cc ml rt K Z n M kc sl pc L (.int x :: st) := by
  intro p e s m args below meth c H locs ls hc hH hS hL
  exact lv_if_le hc.1 hc.2.1 hd ht (fun h => kt h p e s m args below meth c H locs ls hc hH hS hL) (fun h => kf h p e s m args below meth c H locs ls hc hH hS hL)
theorem X_icmp_le {x z : Int32} {off : Int} {tgt : Nat} (hd : decode cc pc = .ok (.if_icmp .le off, 3)) (ht : (pc : Int) + off = (tgt : Int)) (kt : x ≤ z → XW l G R y cc ml rt K Z n M kc sl tgt L st) (kf : ¬ x ≤ z → XW l G R y cc ml rt K Z n M kc sl (pc + 3) L st) : XW l G R y cc ml rt K Z n M kc sl pc L (.int z :: .int x :: st) := by
  intro p e s m args below meth c H locs ls hc hH hS hL
  exact lv_icmp_le hc.1 hc.2.1 hd ht (fun h => kt h p e s m args below meth c H locs ls hc hH hS hL) (fun h => kf h p e s m args below meth c H locs ls hc hH hS hL)
theorem X_lookup {dflt : Int} {ps : Array (Int × Int)} {len : Nat} {x : Int32} {off : Int} {tgt : Nat} (hd : decode cc pc = .ok (.lookupswitch dflt ps, len)) (hp : (ps.toList.zip (ps.toList.drop 1)).all (fun (a, next) => a.1 < next.1) = true) (ho : Op.lookupswitch.offset ps.toList dflt x.toInt = off) (ht : (pc : Int) + off = (tgt : Int)) (k : XW l G R y cc ml rt K Z n M kc sl tgt L st) : XW l G R y cc ml rt K Z n M kc sl pc L (.int x :: st) := by
  intro p e s m args below meth c H locs ls hc hH hS hL
  exact lv_lookup hc.1 hc.2.1 hd hp ho ht (k p e s m args below meth c H locs ls hc hH hS hL)
theorem X_tableOut {dflt lo hi : Int} {offs : Array Int} {len : Nat} {x : Int32} {tgt : Nat} (hd : decode cc pc = .ok (.tableswitch dflt lo hi offs, len)) (h : x.toInt < lo ∨ hi < x.toInt) (ht : (pc : Int) + dflt = (tgt : Int)) (k : XW l G R y cc ml rt K Z n M kc sl tgt L st) : XW l G R y cc ml rt K Z n M kc sl pc L (.int x :: st) := by
  intro p e s m args below meth c H locs ls hc hH hS hL
  exact lv_tableOut hc.1 hc.2.1 hd h ht (k p e s m args below meth c H locs ls hc hH hS hL)
theorem X_tableIn {dflt lo hi : Int} {offs : Array Int} {len : Nat} {x : Int32} {off : Int} {tgt : Nat} (hd : decode cc pc = .ok (.tableswitch dflt lo hi offs, len)) (h1 : ¬ x.toInt < lo) (h2 : ¬ hi < x.toInt) (ho : offs[(x.toInt - lo).toNat]? = some off) (ht : (pc : Int) + off = (tgt : Int)) (k : XW l G R y cc ml rt K Z n M kc sl tgt L st) : XW l G R y cc ml rt K Z n M kc sl pc L (.int x :: st) := by
  intro p e s m args below meth c H locs ls hc hH hS hL
  exact lv_tableIn hc.1 hc.2.1 hd h1 h2 ho ht (k p e s m args below meth c H locs ls hc hH hS hL)
theorem X_ldc {index : Nat} {v : Int32} (hw : Cond.constant y.cls index v ∈ xT) (hd : decode cc pc = .ok (.ldc index, 2)) (k : XW l G R y cc ml rt K Z n M kc sl (pc + 2) L (.int v :: st)) : XW l G R y cc ml rt K Z n M kc sl pc L st := by
  intro p e s m args below meth c H locs ls hc hH hS hL
  exact lv_ldc hc.1 hc.2.1 hc.2.2.2.2.2.1 (hc.2.2.2.2.2.2.2.1 _ hw) hd (k p e s m args below meth c H locs ls hc hH hS hL)
theorem X_ldcw {index : Nat} {v : Int32} (hw : Cond.constant y.cls index v ∈ xT) (hd : decode cc pc = .ok (.ldc_w index, 3)) (k : XW l G R y cc ml rt K Z n M kc sl (pc + 3) L (.int v :: st)) : XW l G R y cc ml rt K Z n M kc sl pc L st := by
  intro p e s m args below meth c H locs ls hc hH hS hL
  exact lv_ldcw hc.1 hc.2.1 hc.2.2.2.2.2.1 (hc.2.2.2.2.2.2.2.1 _ hw) hd (k p e s m args below meth c H locs ls hc hH hS hL)
theorem X_ldc2 {index : Nat} {v : Int64} (hw : Cond.constantLong y.cls index v ∈ xT) (hd : decode cc pc = .ok (.ldc2_w index, 3)) (k : XW l G R y cc ml rt K Z n M kc sl (pc + 3) L (.long v :: st)) : XW l G R y cc ml rt K Z n M kc sl pc L st := by
  intro p e s m args below meth c H locs ls hc hH hS hL
  exact lv_ldc2 hc.1 hc.2.1 hc.2.2.2.2.2.1 (hc.2.2.2.2.2.2.2.1 _ hw) hd (k p e s m args below meth c H locs ls hc hH hS hL)
end XROWS
end
section
def xty : List FieldType := [.int, .long, .object R_Head, .object R_Text, .object R_Sheet]
theorem xg_inj {G : xG} {i j : Nat} (h : xg G i = xg G j) : i = j := Nat.add_left_cancel h
theorem xat_kept {G : xG} {k : Nat} {x : xE} {H H1 : Heap} (h : xat G k x H) (hq : H1[xg G k]? = H[xg G k]?) : xat G k x H1 := by
  cases x with
  | inl a => exact va_at.kept h hq
  | inr n =>
    obtain ⟨f, h⟩ := h
    exact ⟨f, va_at.kept h hq⟩
theorem xat_lt {G : xG} {k : Nat} {x : xE} {H : Heap} (h : xat G k x H) : xg G k < H.size := by
  cases x with
  | inl a => exact va_at.lt h
  | inr n =>
    obtain ⟨f, h⟩ := h
    exact va_at.lt h
theorem xH_at {G : xG} {n : Nat} {M : xM} {H : Heap} (h : xH G n M H) {k : Nat} {x : xA} (hk : M k = some (.inl x)) : va_at G.1 classes (xg G k, xcv G x) H := h.2.2 k _ hk
theorem xH_lt {G : xG} {n : Nat} {M : xM} {H : Heap} (h : xH G n M H) {k : Nat} {x : xE} (hk : M k = some x) : k < n := by
  rcases Nat.lt_or_ge k n with q | q
  · exact q
  · rw [h.2.1 k q] at hk
    cases hk
theorem xH_set {G : xG} {n : Nat} {M : xM} {H H1 : Heap} {a : Nat} {x x0 : xE} (h : xH G n M H) (ha : M a = some x0) (z : H1.size = H.size) (oq : ∀ q : Nat, q ≠ xg G a → H1[q]? = H[q]?) (hx : xat G a x H1) : xH G n (xup M a (some x)) H1 := by
  have hl := xH_lt h ha
  refine ⟨z.trans h.1, fun k hk => ?_, fun k w hw => ?_⟩
  · rw [xup_n M (some x) (show k ≠ a by omega)]
    exact h.2.1 k hk
  · by_cases hka : k = a
    · subst hka
      rw [xup_s] at hw
      cases hw
      exact hx
    · rw [xup_n M (some x) hka] at hw
      exact xat_kept (h.2.2 k w hw) (oq _ (fun q => hka (xg_inj q)))
theorem xH_push {G : xG} {n : Nat} {M : xM} {H H1 : Heap} {x : xE} (h : xH G n M H) (z : H1.size = H.size + 1) (oq : ∀ q : Nat, q < H.size → H1[q]? = H[q]?) (hx : xat G n x H1) : xH G (n + 1) (xup M n (some x)) H1 := by
  refine ⟨by rw [z, h.1]; rfl, fun k hk => ?_, fun k w hw => ?_⟩
  · rw [xup_n M (some x) (show k ≠ n by omega)]
    exact h.2.1 k (by omega)
  · by_cases hka : k = n
    · subst hka
      rw [xup_s] at hw
      cases hw
      exact hx
    · rw [xup_n M (some x) hka] at hw
      have h1 := h.2.2 k w hw
      exact xat_kept h1 (oq _ (xat_lt h1))
theorem xF_all {G : xG} {H : Heap} (h : G.2.2 ≤ H.size) : ∀ q, H.size ≤ q → xF G q := fun q hq => Nat.le_trans h hq
theorem xF_in (G : xG) (k : Nat) : xF G (xg G k) := Nat.le_add_right _ _
theorem xS_push {G : xG} {H0 H H1 : Heap} {locs : List Loc} (hS : va_S (xF G) H0 H locs) (z : H1.size = H.size + 1) (oq : ∀ q : Nat, q < H.size → H1[q]? = H[q]?) : va_S (xF G) H0 H1 locs :=
  ⟨Nat.le_trans hS.1 (by omega), fun x h1 h2 => (oq x (Nat.lt_of_lt_of_le h1 hS.1)).trans (hS.2.1 x h1 h2), hS.2.2⟩
/-- a field, as an instruction of class own names it -/
def xFL (own : String) (index ci k : Nat) : Prop := ∃ (C : String) (F : u_T) (N : Nat), classes[ci]? = some (C, F, N) ∧ (∀ w ∈ u_ws C F N, w ∈ xT) ∧ k < N ∧ Cond.fieldLink own index (F k).1 (F k).2.1 (F k).2.2.1 ∈ xT
def xFP (own : String) (index ci k : Nat) (ty : FieldType) (fin : Bool) : Prop := ∃ (C : String) (F : u_T) (N : Nat) (ty0 : Nat → FieldType), (classes[ci]? = some (C, F, N) ∧ (∀ w ∈ u_ws C F N, w ∈ xT) ∧ k < N ∧ Cond.fieldLink own index (F k).1 (F k).2.1 (F k).2.2.1 ∈ xT) ∧ (∀ k, k < N → parseFieldDescriptor (F k).2.2.1 = some (ty0 k)) ∧ (∀ a, a < N → ∀ b, b < N → a ≠ b → (F a).2.1 ≠ (F b).2.1) ∧ (F k).2.2.2 = fin ∧ parseFieldDescriptor (F k).2.2.1 = some ty ∧ (fin = true → (F k).1 = own)
section XHEAP
variable {l : Launch} {G : xG} {R : Room} {y : MethodName} {cc : ByteArray} {ml : Nat} {rt : Option FieldType} {K : Array Value → State → Prop} {Z : List Frame → Array Value → State → State → Prop} {n : Nat} {M : xM} {kc sl pc : Nat} {L : List (Nat × Value)} {st : List Value}
theorem X_getfield {a ci index : Nat} {fs : List Value} {v : Value} (k : Nat) (hw : xFL y.cls index ci k) (hM : M a = some (.inl (.inr (ci, fs)))) (hv : fs[k]? = some v) (hd : decode cc pc = .ok (.getfield index, 3)) (kk : XW l G R y cc ml rt K Z n M kc sl (pc + 3) L (v :: st)) : XW l G R y cc ml rt K Z n M kc sl pc L (.ref (xg G a) :: st) := by
  intro p e s m args below meth c H locs ls hc hH hS hL
  obtain ⟨C, F, N, h1, h2, h3, h4⟩ := hw
  have hP : va_P G.1 classes [(xg G a, .inr (ci, fs))] H := by
    intro j q hj
    cases j with
    | zero => cases hj; exact xH_at hH hM
    | succ j => cases hj
  exact va_get hc.1 hc.2.1 hc.2.2.2.2.2.2.2.1 h2 hc.2.2.2.2.2.1 hc.2.2.2.2.2.2.2.2.1.1 hP 0 rfl h1 k h3 (hc.2.2.2.2.2.2.2.1 _ h4) (fun _ h => h) hv hd (kk p e s m args below meth c H locs ls hc hH hS hL)
theorem X_putfield {a ci index : Nat} {fs : List Value} {v : Value} {ty : FieldType} (k : Nat) (hw : xFP y.cls index ci k ty false) (hM : M a = some (.inl (.inr (ci, fs)))) (hn : narrow ty v = v) (hfit : fits ty v = true) (hl : k < fs.length) (hd : decode cc pc = .ok (.putfield index, 3)) (kk : XW l G R y cc ml rt K Z n (xup M a (some (.inl (.inr (ci, fs.set k v))))) kc sl (pc + 3) L st) : XW l G R y cc ml rt K Z n M kc sl pc L (v :: .ref (xg G a) :: st) := by
  intro p e s m args below meth c H locs ls hc hH hS hL
  obtain ⟨C, F, N, ty0, ⟨h1, h2, h3, h4⟩, h5, h6, h7, h8, -⟩ := hw
  have hts := hc.2.2.2.2.2.2.2.1
  have hown := hc.2.2.2.2.2.1
  have hK := hc.2.2.2.2.2.2.2.2.1.1
  have hap := va_apart (own := y.cls) hts h2 ty0 h5 h6 hK h1
  obtain ⟨r, g1, cell, q1, q2, q3, q4⟩ := xH_at hH hM
  have hr : r = (C, F, N) := Option.some.inj (g1.symm.trans h1)
  subst hr
  obtain ⟨hSl, hfc, kC, hkC, hkind⟩ := hK.1 ci _ h1
  obtain ⟨cf, kf, fi, f, hi, hsl⟩ := hSl k h3
  have hlay := hts _ (h2 _ (u_in_lay h3))
  unfold u_lay at hlay
  rw [if_neg (by rw [h7]; decide)] at hlay
  have hst := (u_facts hfc hkC (u_lays hts h2 h3) hi).1
  have hs6 := u_store hfc hkC hkind hlay hi h8 hn hfit
  refine W.putK hc.1 hc.2.1 (f := f) ⟨hown, hts _ h4, ⟨_, _, _, hi⟩, hst⟩ (by rw [q2]; exact hs6) q1 q3 (by rw [hsl]; exact k2_hasslot (q4 k h3)) rfl rfl hd fun H' e1 e2 e3 => ?_
  rw [hsl] at e1 ⊢
  have hx : va_at G.1 classes (xg G a, .inr (ci, fs.set k v)) H' := ⟨(C, F, N), h1, t_OB.to (V := updV (vp_V fs) k v) ⟨_, e1, q2, q3, t_set q4 hap h3 v⟩ (fun j _ => vp_updV_set hl v j)⟩
  exact kk p e s m args below meth c H' _ ls hc (xH_set (x := .inl (.inr (ci, fs.set k v))) hH hM e2 e3 hx) (hS.put e2 e3 (xF_in G a)) hL
theorem X_putfieldF {a ci index : Nat} {fs : List Value} {v : Value} {ty : FieldType} (k : Nat) (hw : xFP y.cls index ci k ty true) (hnm : y.name = "<init>") (hM : M a = some (.inl (.inr (ci, fs)))) (hn : narrow ty v = v) (hfit : fits ty v = true) (hl : k < fs.length) (hd : decode cc pc = .ok (.putfield index, 3)) (kk : XW l G R y cc ml rt K Z n (xup M a (some (.inl (.inr (ci, fs.set k v))))) kc sl (pc + 3) L st) : XW l G R y cc ml rt K Z n M kc sl pc L (v :: .ref (xg G a) :: st) := by
  intro p e s m args below meth c H locs ls hc hH hS hL
  obtain ⟨C, F, N, ty0, ⟨h1, h2, h3, h4⟩, h5, h6, h7, h8, h9⟩ := hw
  have hdecl := h9 rfl
  have hts := hc.2.2.2.2.2.2.2.1
  have hown := hc.2.2.2.2.2.1
  have hK := hc.2.2.2.2.2.2.2.2.1.1
  have hap := va_apart (own := y.cls) hts h2 ty0 h5 h6 hK h1
  obtain ⟨r, g1, cell, q1, q2, q3, q4⟩ := xH_at hH hM
  have hr : r = (C, F, N) := Option.some.inj (g1.symm.trans h1)
  subst hr
  obtain ⟨hSl, hfc, kC, hkC, hkind⟩ := hK.1 ci _ h1
  obtain ⟨cf, kf, fi, f, hi, hsl⟩ := hSl k h3
  have hlay := hts _ (h2 _ (u_in_lay h3))
  unfold u_lay at hlay
  rw [if_pos h7] at hlay
  have hst := (u_facts hfc hkC (u_lays hts h2 h3) hi).1
  have hcf : m.cls = cf := by
    obtain ⟨_, _, c', _, _, _, -, -, hf', -, -, -, hown2, -⟩ := Cond.laysFinal_spec hlay
    have e1 : c' = cf := by have := hi.symm.trans hf'; simp at this; exact this.1.symm
    rw [hdecl] at hown2
    rw [← e1]; exact Option.some.inj (hown.symm.trans hown2)
  have hs6 := u_fits hfc hkC hkind (Or.inr hlay) hi h8 hn hfit
  refine W.putFinK hc.1 hc.2.1 hown (hts _ h4) hi hst hcf (hc.2.2.2.2.2.2.1.trans hnm) (by rw [q2]; exact hs6) q1 q3 (by rw [hsl]; exact k2_hasslot (q4 k h3)) rfl rfl hd fun H' e1 e2 e3 => ?_
  rw [hsl] at e1 ⊢
  have hx : va_at G.1 classes (xg G a, .inr (ci, fs.set k v)) H' := ⟨(C, F, N), h1, t_OB.to (V := updV (vp_V fs) k v) ⟨_, e1, q2, q3, t_set q4 hap h3 v⟩ (fun j _ => vp_updV_set hl v j)⟩
  exact kk p e s m args below meth c H' _ ls hc (xH_set (x := .inl (.inr (ci, fs.set k v))) hH hM e2 e3 hx) (hS.put e2 e3 (xF_in G a)) hL
theorem X_iald {a N : Nat} {f : Nat → Int32} {i : Int32} (hM : M a = some (.inl (.inl (0, N, .inl f)))) (hin : vp_in i N) (hd : decode cc pc = .ok (.iaload, 1)) (kk : XW l G R y cc ml rt K Z n M kc sl (pc + 1) L (.int (f i.toNatClampNeg) :: st)) : XW l G R y cc ml rt K Z n M kc sl pc L (.int i :: .ref (xg G a) :: st) := by
  intro p e s m args below meth c H locs ls hc hH hS hL
  have hP : va_P G.1 classes [(xg G a, .inl (G.2.1 0, N, .inl f))] H := by
    intro j q hj
    cases j with
    | zero => cases hj; exact xH_at hH hM
    | succ j => cases hj
  exact va_iald hc.1 hc.2.1 hc.2.2.2.2.2.2.2.2.1.1 hP 0 0 rfl rfl hin hd (kk p e s m args below meth c H locs ls hc hH hS hL)
theorem X_lald {a N : Nat} {f : Nat → Int64} {i : Int32} (hM : M a = some (.inl (.inl (1, N, .inr (.inl f))))) (hin : vp_in i N) (hd : decode cc pc = .ok (.laload, 1)) (kk : XW l G R y cc ml rt K Z n M kc sl (pc + 1) L (.long (f i.toNatClampNeg) :: st)) : XW l G R y cc ml rt K Z n M kc sl pc L (.int i :: .ref (xg G a) :: st) := by
  intro p e s m args below meth c H locs ls hc hH hS hL
  have hP : va_P G.1 classes [(xg G a, .inl (G.2.1 1, N, .inr (.inl f)))] H := by
    intro j q hj
    cases j with
    | zero => cases hj; exact xH_at hH hM
    | succ j => cases hj
  exact va_lald hc.1 hc.2.1 hc.2.2.2.2.2.2.2.2.1.1 hP 0 1 rfl rfl hin hd (kk p e s m args below meth c H locs ls hc hH hS hL)
theorem X_aald {a N t : Nat} {C : String} {f : Nat → Option Nat} {i : Int32} (ht : xty[t]? = some (.object C)) (hM : M a = some (.inl (.inl (t, N, .inr (.inr (.inr (.inr f))))))) (hin : vp_in i N) (hd : decode cc pc = .ok (.aaload, 1)) (kk : XW l G R y cc ml rt K Z n M kc sl (pc + 1) L (va_rf (f i.toNatClampNeg) :: st)) : XW l G R y cc ml rt K Z n M kc sl pc L (.int i :: .ref (xg G a) :: st) := by
  intro p e s m args below meth c H locs ls hc hH hS hL
  have hP : va_P G.1 classes [(xg G a, .inl (G.2.1 t, N, .inr (.inr (.inr (.inr f)))))] H := by
    intro j q hj
    cases j with
    | zero => cases hj; exact xH_at hH hM
    | succ j => cases hj
  have ht2 : (xtys G)[t]? = some (G.2.1 t, .object C) := by
    match t, ht with
    | 0, h => cases h
    | 1, h => cases h
    | 2, h => cases h; rfl
    | 3, h => cases h; rfl
    | 4, h => cases h; rfl
    | t + 5, h => simp [xty] at h
  exact va_aldq hc.1 hc.2.1 hc.2.2.2.2.2.2.2.2.1.1 hP 0 t rfl ht2 hin hd (kk p e s m args below meth c H locs ls hc hH hS hL)
theorem X_alen {a t : Nat} {x : vp_A} {v : Int32} (ht : t < 5) (hM : M a = some (.inl (.inl (t, x)))) (hv : Int32.ofNat x.1 = v) (hd : decode cc pc = .ok (.arraylength, 1)) (kk : XW l G R y cc ml rt K Z n M kc sl (pc + 1) L (.int v :: st)) : XW l G R y cc ml rt K Z n M kc sl pc L (.ref (xg G a) :: st) := by
  intro p e s m args below meth c H locs ls hc hH hS hL
  have hP : va_P G.1 classes [(xg G a, .inl (G.2.1 t, x))] H := by
    intro j q hj
    cases j with
    | zero => cases hj; exact xH_at hH hM
    | succ j => cases hj
  have ht2 : ∃ ty, (xtys G)[t]? = some (G.2.1 t, ty) := by
    match t, ht with
    | 0, _ => exact ⟨_, rfl⟩
    | 1, _ => exact ⟨_, rfl⟩
    | 2, _ => exact ⟨_, rfl⟩
    | 3, _ => exact ⟨_, rfl⟩
    | 4, _ => exact ⟨_, rfl⟩
  obtain ⟨ty, ht2⟩ := ht2
  exact va_alen hc.1 hc.2.1 hc.2.2.2.2.2.2.2.2.1.1 hP 0 t rfl ht2 hv hd (kk p e s m args below meth c H locs ls hc hH hS hL)
theorem xupd_up (f : Nat → Int32) (i : Nat) (x : Int32) : upd f i x = xup f i x := rfl
theorem X_iast {a N : Nat} {f : Nat → Int32} {i x : Int32} (hM : M a = some (.inl (.inl (0, N, .inl f)))) (hin : vp_in i N) (hd : decode cc pc = .ok (.iastore, 1)) (kk : XW l G R y cc ml rt K Z n (xup M a (some (.inl (.inl (0, N, .inl (xup f i.toNatClampNeg x)))))) kc sl (pc + 1) L st) : XW l G R y cc ml rt K Z n M kc sl pc L (.int x :: .int i :: .ref (xg G a) :: st) := by
  intro p e s m args below meth c H locs ls hc hH hS hL
  have hK := hc.2.2.2.2.2.2.2.2.1.1
  refine W.iast hc.1 hc.2.1 (xH_at hH hM) ((hK.2 0 _ rfl).1 N (fun j => .int (f j))) (fun q => by cases q) (by show ¬ (i < 0 ∨ (arrV _ _ _).slots.size ≤ _); rw [arrV_size]; exact hin) rfl rfl hd fun H1 e1 z oq => ?_
  refine kk p e s m args below meth c H1 _ ls hc (xH_set hH hM z oq ?_) (hS.put z oq (xF_in G a)) hL
  show H1[xg G a]? = some (vp_cell _ _)
  rw [e1]
  rw [vp_cell_i, vp_cell_i, arrV_store]
  congr 2
  funext q
  by_cases hq : q = i.toNatClampNeg
  · subst hq
    simp [updV, xup]
  · simp [updV, xup, hq]
theorem X_last {a N : Nat} {f : Nat → Int64} {i : Int32} {x : Int64} (hM : M a = some (.inl (.inl (1, N, .inr (.inl f))))) (hin : vp_in i N) (hd : decode cc pc = .ok (.lastore, 1)) (kk : XW l G R y cc ml rt K Z n (xup M a (some (.inl (.inl (1, N, .inr (.inl (xup f i.toNatClampNeg x))))))) kc sl (pc + 1) L st) : XW l G R y cc ml rt K Z n M kc sl pc L (.long x :: .int i :: .ref (xg G a) :: st) := by
  intro p e s m args below meth c H locs ls hc hH hS hL
  have hK := hc.2.2.2.2.2.2.2.2.1.1
  refine W.last hc.1 hc.2.1 (xH_at hH hM) ((hK.2 1 _ rfl).1 N (fun j => .long (f j))) (fun q => by cases q) (by show ¬ (i < 0 ∨ (arrV _ _ _).slots.size ≤ _); rw [arrV_size]; exact hin) rfl rfl hd fun H1 e1 z oq => ?_
  refine kk p e s m args below meth c H1 _ ls hc (xH_set hH hM z oq ?_) (hS.put z oq (xF_in G a)) hL
  show H1[xg G a]? = some (vp_cell _ _)
  rw [e1]
  rw [vp_cell_l, vp_cell_l, arrV_store]
  congr 2
  funext q
  by_cases hq : q = i.toNatClampNeg
  · subst hq
    simp [updV, xup]
  · simp [updV, xup, hq]
theorem X_aast {a N t v ci : Nat} {r : vw_C} {f : Nat → Option Nat} {vs : List Value} {i : Int32} (ht : xty[t]? = some (.object r.1)) (hM : M a = some (.inl (.inl (t, N, .inr (.inr (.inr (.inr f))))))) (hv : M v = some (.inl (.inr (ci, vs)))) (hcl : classes[ci]? = some r) (hin : vp_in i N) (hd : decode cc pc = .ok (.aastore, 1)) (kk : XW l G R y cc ml rt K Z n (xup M a (some (.inl (.inl (t, N, .inr (.inr (.inr (.inr (xup f i.toNatClampNeg (some (xg G v)))))))))) ) kc sl (pc + 1) L st) : XW l G R y cc ml rt K Z n M kc sl pc L (.ref (xg G v) :: .int i :: .ref (xg G a) :: st) := by
  intro p e s m args below meth c H locs ls hc hH hS hL
  have hK := hc.2.2.2.2.2.2.2.2.1.1
  have ht2 : (xtys G)[t]? = some (G.2.1 t, .object r.1) := by
    match t, ht with
    | 0, h => cases h
    | 1, h => cases h
    | 2, h => rw [← Option.some.inj h]; rfl
    | 3, h => rw [← Option.some.inj h]; rfl
    | 4, h => rw [← Option.some.inj h]; rfl
    | t + 5, h => simp [xty] at h
  have hlt : i.toNatClampNeg < N := Nat.not_le.mp fun q => hin (Or.inr q)
  have h0 : ¬ i < 0 := fun q => hin (Or.inl q)
  obtain ⟨r', hr', cellV, g1, g2, g3, -⟩ := xH_at hH hv
  have hcls := (hK.1 ci r hcl).2
  obtain ⟨kA, comp, k1, k2, k3, -⟩ := (hK.2 t _ ht2).2
  have hcomp : comp = G.1.1 ci := Option.some.inj (k3.symm.trans hcls.1)
  subst hcomp
  obtain ⟨kC, hkC, -⟩ := hcls.2
  refine W.aast hc.1 hc.2.1 (xH_at hH hM) (fun q h => by cases h) (fun h => by cases h) k1 k2 rfl hkC ⟨h0, by show _ < (arrV _ _ _).slots.size; rw [arrV_size]; exact hlt⟩ g1 (fun q h => by rw [g3] at h; cases h) (by rw [g2]; exact hkC) (by rw [g2]; exact va_assign hcls) rfl rfl hd fun H1 e1 z oq => ?_
  refine kk p e s m args below meth c H1 _ ls hc (xH_set hH hM z oq ?_) (hS.put z oq (xF_in G a)) hL
  show H1[xg G a]? = some (vp_cell _ _)
  rw [e1]
  rw [vp_cell_q, vp_cell_q, arrV_store]
  congr 2
  funext q
  by_cases hq : q = i.toNatClampNeg
  · subst hq
    simp [updV, xup, va_rf]
  · simp [updV, xup, hq]
theorem X_newI {N' : Nat} {z : Int32} (harr : Cond.arrayClass .int ∈ xT) (hn : ¬ z < 0) (hN : z.toNatClampNeg = N') (hbytes : N' * 4 ≤ 536870912) (hcells : kc + 1 ≤ R.cells) (hslots : sl + N' ≤ R.slots) (hd : decode cc pc = .ok (.newarray .int, 2)) (kk : XW l G R y cc ml rt K Z (n + 1) (xup M n (some (.inl (.inl (0, N', .inl (fun _ => 0)))))) (kc + 1) (sl + N') (pc + 2) L (.ref (xg G n) :: st)) : XW l G R y cc ml rt K Z n M kc sl pc L (.int z :: st) := by
  intro p e s m args below meth c H locs ls hc hH hS hL
  have hK := hc.2.2.2.2.2.2.2.2.1.1
  refine va_newaK (atype := .int) hc.1 hc.2.1 (hc.2.2.2.2.2.2.2.1 _ harr) rfl hd rfl hn hN hbytes hcells hslots rfl fun H1 cA e1 z1 o1 hAr hNm => ?_
  have hcA : cA = G.2.1 0 := Option.some.inj (hNm.symm.trans (hK.2 0 _ rfl).2)
  subst hcA
  have hx : H1[xg G n]? = some (vp_cell (G.2.1 0) (N', .inl (fun _ => 0))) := by
    rw [← hH.1, e1]
    rfl
  have h2 := kk p e s m args below meth c H1 locs ls hc (xH_push hH z1 o1 (show xat G n (.inl (.inl (0, N', .inl (fun _ => 0)))) H1 from hx)) (xS_push hS z1 o1) hL
  rw [← hH.1] at h2
  exact h2
theorem X_newL {N' : Nat} {z : Int32} (harr : Cond.arrayClass .long ∈ xT) (hn : ¬ z < 0) (hN : z.toNatClampNeg = N') (hbytes : N' * 8 ≤ 536870912) (hcells : kc + 1 ≤ R.cells) (hslots : sl + N' ≤ R.slots) (hd : decode cc pc = .ok (.newarray .long, 2)) (kk : XW l G R y cc ml rt K Z (n + 1) (xup M n (some (.inl (.inl (1, N', .inr (.inl (fun _ => 0))))))) (kc + 1) (sl + N') (pc + 2) L (.ref (xg G n) :: st)) : XW l G R y cc ml rt K Z n M kc sl pc L (.int z :: st) := by
  intro p e s m args below meth c H locs ls hc hH hS hL
  have hK := hc.2.2.2.2.2.2.2.2.1.1
  refine va_newaK (atype := .long) hc.1 hc.2.1 (hc.2.2.2.2.2.2.2.1 _ harr) rfl hd rfl hn hN hbytes hcells hslots rfl fun H1 cA e1 z1 o1 hAr hNm => ?_
  have hcA : cA = G.2.1 1 := Option.some.inj (hNm.symm.trans (hK.2 1 _ rfl).2)
  subst hcA
  have hx : H1[xg G n]? = some (vp_cell (G.2.1 1) (N', .inr (.inl (fun _ => 0)))) := by
    rw [← hH.1, e1]
    rfl
  have h2 := kk p e s m args below meth c H1 locs ls hc (xH_push hH z1 o1 (show xat G n (.inl (.inl (1, N', .inr (.inl (fun _ => 0))))) H1 from hx)) (xS_push hS z1 o1) hL
  rw [← hH.1] at h2
  exact h2
theorem X_anew {N' t index : Nat} {C : String} {z : Int32} (hcl : Cond.classLink y.cls index C ∈ xT) (ht : t < 5) (ht2 : xty[t]? = some (.object C)) (hn : ¬ z < 0) (hN : z.toNatClampNeg = N') (hbytes : N' * 4 ≤ 536870912) (hcells : kc + 1 ≤ R.cells) (hslots : sl + N' ≤ R.slots) (hd : decode cc pc = .ok (.anewarray index, 3)) (kk : XW l G R y cc ml rt K Z (n + 1) (xup M n (some (.inl (.inl (t, N', .inr (.inr (.inr (.inr (fun _ => none))))))))) (kc + 1) (sl + N') (pc + 3) L (.ref (xg G n) :: st)) : XW l G R y cc ml rt K Z n M kc sl pc L (.int z :: st) := by
  intro p e s m args below meth c H locs ls hc hH hS hL
  have hK := hc.2.2.2.2.2.2.2.2.1.1
  have hAO : va_AO C s := by
    match t, ht, ht2 with
    | 0, _, h => cases h
    | 1, _, h => cases h
    | 2, _, h => cases h; exact hc.2.2.2.2.2.2.2.2.1.2.2.1
    | 3, _, h => cases h; exact hc.2.2.2.2.2.2.2.2.1.2.2.2.1
    | 4, _, h => cases h; exact hc.2.2.2.2.2.2.2.2.1.2.2.2.2
  have ht3 : (xtys G)[t]? = some (G.2.1 t, .object C) := by
    match t, ht, ht2 with
    | 0, _, h => cases h
    | 1, _, h => cases h
    | 2, _, h => cases h; rfl
    | 3, _, h => cases h; rfl
    | 4, _, h => cases h; rfl
  subst hN
  refine W.anew hc.1 hc.2.1 hc.2.2.2.2.2.1 (hc.2.2.2.2.2.2.2.1 _ hcl) (va_AO.use hAO) rfl hd rfl hn hbytes hcells hslots fun cA kA comp f1 f2 f3 f4 => ?_
  obtain ⟨kA', comp', k1, k2, k3, k4⟩ := (hK.2 t _ ht3).2
  have hcA : cA = G.2.1 t := Option.some.inj (f1.symm.trans k4)
  subst hcA
  generalize hH1 : H.push ({ cls := G.2.1 t, slots := Array.replicate z.toNatClampNeg .null, vm := .none } : Cell) = H1
  have z1 : H1.size = H.size + 1 := by rw [← hH1, Array.size_push]
  have e1 : H1[H.size]? = some (arrV (G.2.1 t) z.toNatClampNeg (fun _ => .null)) := by rw [← hH1, Array.getElem?_push_size, ← arrV_new]
  have o1 : ∀ q : Nat, q < H.size → H1[q]? = H[q]? := fun q hq => by rw [← hH1, Array.getElem?_push, if_neg (Nat.ne_of_lt hq)]
  have hx : H1[xg G n]? = some (vp_cell (G.2.1 t) (z.toNatClampNeg, .inr (.inr (.inr (.inr (fun _ => none)))))) := by
    rw [← hH.1, e1]
    rfl
  have h2 := kk p e s m args below meth c H1 locs ls hc (xH_push hH z1 o1 (show xat G n (.inl (.inl (t, z.toNatClampNeg, .inr (.inr (.inr (.inr (fun _ => none))))))) H1 from hx)) (xS_push hS z1 o1) hL
  rw [← hH.1] at h2
  exact h2
theorem X_new {ci N index : Nat} {C : String} {F : u_T} {fs : List Value} (ty : Nat → FieldType) (hty : ∀ k, k < N → parseFieldDescriptor (F k).2.2.1 = some (ty k)) (hcl : classes[ci]? = some (C, F, N)) (hin : ∀ w ∈ u_ws C F N, w ∈ xT) (hlk : Cond.classLink y.cls index C ∈ xT) (hinst : Cond.instantiable C N ∈ xT) (hini : Cond.initialized C ∈ xT) (hfs : ∀ j, j < N → defaultValue (ty j) = vp_V fs j) (hcells : kc + 1 ≤ R.cells) (hslots : sl + N ≤ R.slots) (hd : decode cc pc = .ok (.new index, 3)) (kk : XW l G R y cc ml rt K Z (n + 1) (xup M n (some (.inl (.inr (ci, fs))))) (kc + 1) (sl + N) (pc + 3) L (.ref (xg G n) :: st)) : XW l G R y cc ml rt K Z n M kc sl pc L st := by
  intro p e s m args below meth c H locs ls hc hH hS hL
  have hK := hc.2.2.2.2.2.2.2.2.1.1
  have hts := hc.2.2.2.2.2.2.2.1
  have hKn := hK.1 ci _ hcl
  refine W.newcK hc.1 hc.2.1 hc.2.2.2.2.2.1 (hts _ hlk) (hts _ hinst) (hts _ hini) rfl hd hcells hslots hKn.2.1 rfl fun H1 kC hkC e1 z1 o1 => ?_
  have hb0 := (u_born ty hts hin hKn hkC e1 hty).to hfs
  rw [hH.1] at hb0
  have hx : va_at G.1 classes (xg G n, .inr (ci, fs)) H1 := ⟨(C, F, N), hcl, hb0⟩
  have h2 := kk p e s m args below meth c H1 locs ls hc (xH_push (x := .inl (.inr (ci, fs))) hH z1 o1 hx) (xS_push hS z1 o1) hL
  rw [← hH.1] at h2
  exact h2
end XHEAP
end
section
theorem xT_good : ∀ w ∈ xT, (w.onTables && w.keeps) = true ∨ ∃ ty, w = .arrayClass ty := fun w h => good_of_word (List.mem_filter.mp h).2
theorem xgood {y : MethodName} {b : ByteArray} {ml : Nat} {rt : Option FieldType} (h : Cond.code y b ml rt ∈ xT) : GoodIn xT (.code y b ml rt :: xT) := fun w hw => by
  rcases List.mem_cons.mp hw with rfl | hw
  · exact ⟨h, Or.inl rfl⟩
  · exact ⟨hw, xT_good w hw⟩
theorem xblind {G : xG} {n : Nat} {M : xM} {as : List Value} : FrameBlind (va_Pc as (fun U => xK G U ∧ G.2.2 ≤ U.heap.size ∧ xH G n M U.heap ∧ xK0 as.toArray U)) := by
  intro a U g mk ⟨q1, q2, q3, q4, q5⟩
  exact ⟨q1, xK_same (u := U) (U := U.calling g mk a) rfl q2, q3, q4, trivial⟩
/-- M tells no less than M' -/
def xle (M M' : xM) : Prop := ∀ (G : xG) (n : Nat) (H : Heap), xH G n M H → xH G n M' H
theorem xle_rf (M : xM) : xle M M := fun _ _ _ h => h
theorem xle_of {M M' : xM} (h : M = M') : xle M M' := h ▸ xle_rf M
theorem xle_tr {M1 M2 M3 : xM} (h : xle M1 M2) (h2 : xle M2 M3) : xle M1 M3 := fun G n H q => h2 G n H (h G n H q)
theorem xle_forget {M : xM} {a N : Nat} {f : Nat → Int32} (h : M a = some (.inl (.inl (0, N, .inl f)))) : xle M (xup M a (some (.inr N))) := by
  intro G n H hH
  exact xH_set hH h rfl (fun _ _ => rfl) ⟨f, xH_at hH h⟩
theorem xup_self {α : Type} (f : Nat → α) (k : Nat) : xup f k (f k) = f := by
  funext j
  by_cases h : j = k
  · subst h; exact xup_s _ _ _
  · exact xup_n _ _ h
theorem xup_up {α : Type} (f : Nat → α) (k : Nat) (v w : α) : xup (xup f k v) k w = xup f k w := by
  funext j
  by_cases h : j = k
  · subst h; rw [xup_s, xup_s]
  · rw [xup_n _ _ h, xup_n _ _ h, xup_n _ _ h]
theorem xup_comm {α : Type} (f : Nat → α) {k j : Nat} (v w : α) (h : k ≠ j) : xup (xup f k v) j w = xup (xup f j w) k v := by
  funext i
  by_cases h1 : i = j
  · subst h1; rw [xup_s, xup_n _ _ (Ne.symm h), xup_s]
  · by_cases h2 : i = k
    · subst h2; rw [xup_n _ _ h1, xup_s, xup_s]
    · rw [xup_n _ _ h1, xup_n _ _ h2, xup_n _ _ h2, xup_n _ _ h1]
theorem xRok {d d' ml mc ms : Nat} (h : d' + 1 ≤ d) (hm : ml ≤ 45) : d' + 1 ≤ (xR d mc ms).frames ∧ 8 + (ml + 11) + 64 * d' ≤ (xR d mc ms).locals := by
  refine ⟨h, ?_⟩
  show _ ≤ 64 * d
  omega
/-- what a call needs of the tables -/
def xLB (y' : MethodName) (b' : ByteArray) (ml' : Nat) (rt' : Option FieldType) (na : Nat) : Prop := Cond.initialized y'.cls ∈ xT ∧ Cond.code y' b' ml' rt' ∈ xT ∧ y'.cls ≠ "java/lang/invoke/MethodHandle" ∧ y'.cls ≠ "java/lang/invoke/VarHandle" ∧ (parseMethodDescriptor y'.desc).map (fun d => d.parameters.length) = some na
def xLV (y' : MethodName) (b' : ByteArray) (ml' : Nat) (rt' : Option FieldType) (na : Nat) : Prop := xLB y' b' ml' rt' na ∧ Cond.instanceMethod y' ∈ xT ∧ Cond.selects y'.cls y' y' ∈ xT
def xLS (y' : MethodName) (b' : ByteArray) (ml' : Nat) (rt' : Option FieldType) (na : Nat) : Prop := xLB y' b' ml' rt' na ∧ Cond.static y' ∈ xT
def xLI (y' : MethodName) (b' : ByteArray) (ml' : Nat) (na : Nat) : Prop := xLB y' b' ml' none na ∧ y'.name = "<init>" ∧ Cond.instanceMethod y' ∈ xT
section XCALL
variable {p : Program} {l : Launch} {e : Env} {R : Room} {s : State} {m : MethodId} {args : Array Value} {below : List Frame} {meth : Method} {c : Code} {H : Heap} {locs : List Loc} {cells slots : Nat} {Q : State → Prop}
theorem xcall {G : xG} {n' mc ms pc : Nat} {M' : xM} {r : Option Value} {ls : Array Slot} {rest st0 : List Value} {a : Array Value} (hr : va_Run p l e R s m args below meth c H locs cells slots mc ms (F0 m pc ls st0) rest (xQ G n' M' r a) (xF G)) (hS : va_S (xF G) s.heap H locs)
    (kk : ∀ (H1 : Heap) (locs1 : List Loc), xH G n' M' H1 → va_S (xF G) s.heap H1 locs1 → W p l e R s m args below meth c H1 locs1 (cells + mc) (slots + ms) Q (F0 m (pc + 3) ls (r.toList ++ rest))) : W p l e R s m args below meth c H locs cells slots Q (F0 m pc ls st0) := by
  intro T hT X
  obtain ⟨v, st₀, t, T', L, h0, X', hL, e1, e2, ⟨⟨hv, hb⟩, hz, hk⟩, st⟩ := hr T hT X
  cases hv
  rw [h0] at hz hk
  obtain ⟨t2, a1, b1⟩ := kk T'.heap (locs ++ L) (by rw [e1]; exact hb)
    ⟨Nat.le_trans hS.1 (by rw [e1]; exact hz), fun q h1 h2 => by rw [e1, hk q (Nat.lt_of_lt_of_le h1 hS.1) h2]; exact hS.2.1 q h1 h2, fun q hq => by
      rcases List.mem_append.mp hq with h | h
      · exact hS.2.2 q h
      · exact hL q h⟩ T' rfl X'
  exact ⟨t2, st t2 a1, b1⟩
end XCALL
section XCALLS
variable {l : Launch} {G : xG} {R : Room} {y : MethodName} {cc : ByteArray} {ml : Nat} {rt : Option FieldType} {K : Array Value → State → Prop} {Z : List Frame → Array Value → State → State → Prop} {n : Nat} {M : xM} {kc sl pc : Nat} {L : List (Nat × Value)} {st : List Value}
variable {y' : MethodName} {b' : ByteArray} {ml' na mc ms d' n' a ci idx : Nat} {rt' : Option FieldType} {fs : List Value} {As rest : List Value} {r : Option Value} {M' : xM} {v : Value}
theorem X_callV (hM : XM l G d' y' b' ml' rt' mc ms xK0 (.ref (xg G a) :: As) n M (some v) n' M') (hlk : xLV y' b' ml' rt' na) (hln : Cond.methodLink y.cls idx y' ∈ xT) (hcell : M a = some (.inl (.inr (ci, fs)))) (hcl : (classes[ci]?).map (fun q => q.1) = some y'.cls) (hna : As.length = na) (hrest : (rest.map fun v => v.category).sum ≤ 8) (hR : d' + 1 ≤ R.frames ∧ 8 + (ml' + 11) + 64 * d' ≤ R.locals) (hcs : kc + mc ≤ R.cells ∧ sl + ms ≤ R.slots) (hd : decode cc pc = .ok (.invokevirtual idx, 3)) (hst : As.reverse ++ .ref (xg G a) :: rest = st) (kk : XW l G R y cc ml rt K Z n' M' (kc + mc) (sl + ms) (pc + 3) L (v :: rest)) : XW l G R y cc ml rt K Z n M kc sl pc L st := by
  intro p e s m args below meth c H locs ls hc hH hS hL
  have hts := hc.2.2.2.2.2.2.2.1
  have hKs := hc.2.2.2.2.2.2.2.2.1
  have hP : va_P G.1 classes [(xg G a, .inr (ci, fs))] H := by
    intro j q hj
    cases j with
    | zero => cases hj; exact xH_at hH hcell
    | succ j => cases hj
  obtain ⟨qc, hqc, hq1⟩ : ∃ qc : vw_C, classes[ci]? = some qc ∧ qc.1 = y'.cls := by
    cases hx : classes[ci]? with
    | none => rw [hx] at hcl; cases hcl
    | some qc => rw [hx] at hcl; exact ⟨qc, rfl, Option.some.inj hcl⟩
  have hrv := va_recv hKs.1 hP hqc (q0 := 0) rfl
  rw [hq1] at hrv
  exact xcall (r := (some v)) (va_runV (rest := rest) ⟨hc.1, hc.2.1, hc.2.2.1, hc.2.2.2.2.2.1, hts⟩ hM ⟨callB_of na hts (xgood hlk.1.2.1) rfl rfl rfl (hts _ hlk.1.1) (hts _ hln) ⟨hlk.1.2.2.1, hlk.1.2.2.2.1, hlk.1.2.2.2.2⟩ hR, hts _ hlk.2.1, hts _ hlk.2.2⟩ ⟨xblind, hrv, fun U hU hW => ⟨rfl, xK_warm hW hKs, by rw [hU]; exact Nat.le_trans hc.2.2.2.2.2.2.2.2.2.2 hS.1, by rw [hU]; exact hH, trivial⟩⟩ rfl hna hL.1 hst.symm (lv_room (pc := pc) (m := m) (ls := ls) (rest := st) hrest) hd hcs) hS (fun H1 locs1 h1 h2 => kk p e s m args below meth c H1 locs1 ls hc h1 h2 hL)

theorem X_callS (hM : XM l G d' y' b' ml' rt' mc ms xK0 As n M (some v) n' M') (hlk : xLS y' b' ml' rt' na) (hln : Cond.methodLink y.cls idx y' ∈ xT) (hna : As.length = na) (hrest : (rest.map fun v => v.category).sum ≤ 8) (hR : d' + 1 ≤ R.frames ∧ 8 + (ml' + 11) + 64 * d' ≤ R.locals) (hcs : kc + mc ≤ R.cells ∧ sl + ms ≤ R.slots) (hd : decode cc pc = .ok (.invokestatic idx, 3)) (hst : As.reverse ++ rest = st) (kk : XW l G R y cc ml rt K Z n' M' (kc + mc) (sl + ms) (pc + 3) L (v :: rest)) : XW l G R y cc ml rt K Z n M kc sl pc L st := by
  intro p e s m args below meth c H locs ls hc hH hS hL
  have hts := hc.2.2.2.2.2.2.2.1
  have hKs := hc.2.2.2.2.2.2.2.2.1
  exact xcall (r := (some v)) (va_runS (rest := rest) ⟨hc.1, hc.2.1, hc.2.2.1, hc.2.2.2.2.2.1, hts⟩ hM ⟨callB_of na hts (xgood hlk.1.2.1) rfl rfl rfl (hts _ hlk.1.1) (hts _ hln) ⟨hlk.1.2.2.1, hlk.1.2.2.2.1, hlk.1.2.2.2.2⟩ hR, hts _ hlk.2⟩ ⟨xblind, fun U hU hW => ⟨rfl, xK_warm hW hKs, by rw [hU]; exact Nat.le_trans hc.2.2.2.2.2.2.2.2.2.2 hS.1, by rw [hU]; exact hH, trivial⟩⟩ rfl hna hL.1 hst.symm (lv_room (pc := pc) (m := m) (ls := ls) (rest := st) hrest) hd hcs) hS (fun H1 locs1 h1 h2 => kk p e s m args below meth c H1 locs1 ls hc h1 h2 hL)

theorem X_callSN {host : String} (hM : XM l G d' y' b' ml' rt' mc ms xK0 As n M (some v) n' M') (hlk : xLS y' b' ml' rt' na) (hln : Cond.methodLinkNest y.cls idx y' host ∈ xnest) (hna : As.length = na) (hrest : (rest.map fun v => v.category).sum ≤ 8) (hR : d' + 1 ≤ R.frames ∧ 8 + (ml' + 11) + 64 * d' ≤ R.locals) (hcs : kc + mc ≤ R.cells ∧ sl + ms ≤ R.slots) (hd : decode cc pc = .ok (.invokestatic idx, 3)) (hst : As.reverse ++ rest = st) (kk : XW l G R y cc ml rt K Z n' M' (kc + mc) (sl + ms) (pc + 3) L (v :: rest)) : XW l G R y cc ml rt K Z n M kc sl pc L st := by
  intro p e s m args below meth c H locs ls hc hH hS hL
  have hts := hc.2.2.2.2.2.2.2.1
  have hKs := hc.2.2.2.2.2.2.2.2.1
  exact xcall (r := (some v)) (va_runSN (rest := rest) ⟨hc.1, hc.2.1, hc.2.2.1, hc.2.2.2.2.2.1, hts⟩ hM ⟨va_cnB na hts (xgood hlk.1.2.1) rfl rfl rfl (hKs.2.1 _ hln) (hts _ hlk.1.1) ⟨hlk.1.2.2.1, hlk.1.2.2.2.1, hlk.1.2.2.2.2⟩ hR, hts _ hlk.2, trivial⟩ ⟨xblind, fun U hU hW => ⟨rfl, xK_warm hW hKs, by rw [hU]; exact Nat.le_trans hc.2.2.2.2.2.2.2.2.2.2 hS.1, by rw [hU]; exact hH, trivial⟩⟩ rfl hna hL.1 hst.symm (lv_room (pc := pc) (m := m) (ls := ls) (rest := st) hrest) hd hcs) hS (fun H1 locs1 h1 h2 => kk p e s m args below meth c H1 locs1 ls hc h1 h2 hL)

theorem X_callVv (hM : XM l G d' y' b' ml' rt' mc ms xK0 (.ref (xg G a) :: As) n M none n' M') (hlk : xLV y' b' ml' rt' na) (hln : Cond.methodLink y.cls idx y' ∈ xT) (hcell : M a = some (.inl (.inr (ci, fs)))) (hcl : (classes[ci]?).map (fun q => q.1) = some y'.cls) (hna : As.length = na) (hrest : (rest.map fun v => v.category).sum ≤ 8) (hR : d' + 1 ≤ R.frames ∧ 8 + (ml' + 11) + 64 * d' ≤ R.locals) (hcs : kc + mc ≤ R.cells ∧ sl + ms ≤ R.slots) (hd : decode cc pc = .ok (.invokevirtual idx, 3)) (hst : As.reverse ++ .ref (xg G a) :: rest = st) (kk : XW l G R y cc ml rt K Z n' M' (kc + mc) (sl + ms) (pc + 3) L (rest)) : XW l G R y cc ml rt K Z n M kc sl pc L st := by
  intro p e s m args below meth c H locs ls hc hH hS hL
  have hts := hc.2.2.2.2.2.2.2.1
  have hKs := hc.2.2.2.2.2.2.2.2.1
  have hP : va_P G.1 classes [(xg G a, .inr (ci, fs))] H := by
    intro j q hj
    cases j with
    | zero => cases hj; exact xH_at hH hcell
    | succ j => cases hj
  obtain ⟨qc, hqc, hq1⟩ : ∃ qc : vw_C, classes[ci]? = some qc ∧ qc.1 = y'.cls := by
    cases hx : classes[ci]? with
    | none => rw [hx] at hcl; cases hcl
    | some qc => rw [hx] at hcl; exact ⟨qc, rfl, Option.some.inj hcl⟩
  have hrv := va_recv hKs.1 hP hqc (q0 := 0) rfl
  rw [hq1] at hrv
  exact xcall (r := none) (va_runV (rest := rest) ⟨hc.1, hc.2.1, hc.2.2.1, hc.2.2.2.2.2.1, hts⟩ hM ⟨callB_of na hts (xgood hlk.1.2.1) rfl rfl rfl (hts _ hlk.1.1) (hts _ hln) ⟨hlk.1.2.2.1, hlk.1.2.2.2.1, hlk.1.2.2.2.2⟩ hR, hts _ hlk.2.1, hts _ hlk.2.2⟩ ⟨xblind, hrv, fun U hU hW => ⟨rfl, xK_warm hW hKs, by rw [hU]; exact Nat.le_trans hc.2.2.2.2.2.2.2.2.2.2 hS.1, by rw [hU]; exact hH, trivial⟩⟩ rfl hna hL.1 hst.symm (lv_room (pc := pc) (m := m) (ls := ls) (rest := st) hrest) hd hcs) hS (fun H1 locs1 h1 h2 => kk p e s m args below meth c H1 locs1 ls hc h1 h2 hL)

theorem X_callSv (hM : XM l G d' y' b' ml' rt' mc ms xK0 As n M none n' M') (hlk : xLS y' b' ml' rt' na) (hln : Cond.methodLink y.cls idx y' ∈ xT) (hna : As.length = na) (hrest : (rest.map fun v => v.category).sum ≤ 8) (hR : d' + 1 ≤ R.frames ∧ 8 + (ml' + 11) + 64 * d' ≤ R.locals) (hcs : kc + mc ≤ R.cells ∧ sl + ms ≤ R.slots) (hd : decode cc pc = .ok (.invokestatic idx, 3)) (hst : As.reverse ++ rest = st) (kk : XW l G R y cc ml rt K Z n' M' (kc + mc) (sl + ms) (pc + 3) L (rest)) : XW l G R y cc ml rt K Z n M kc sl pc L st := by
  intro p e s m args below meth c H locs ls hc hH hS hL
  have hts := hc.2.2.2.2.2.2.2.1
  have hKs := hc.2.2.2.2.2.2.2.2.1
  exact xcall (r := none) (va_runS (rest := rest) ⟨hc.1, hc.2.1, hc.2.2.1, hc.2.2.2.2.2.1, hts⟩ hM ⟨callB_of na hts (xgood hlk.1.2.1) rfl rfl rfl (hts _ hlk.1.1) (hts _ hln) ⟨hlk.1.2.2.1, hlk.1.2.2.2.1, hlk.1.2.2.2.2⟩ hR, hts _ hlk.2⟩ ⟨xblind, fun U hU hW => ⟨rfl, xK_warm hW hKs, by rw [hU]; exact Nat.le_trans hc.2.2.2.2.2.2.2.2.2.2 hS.1, by rw [hU]; exact hH, trivial⟩⟩ rfl hna hL.1 hst.symm (lv_room (pc := pc) (m := m) (ls := ls) (rest := st) hrest) hd hcs) hS (fun H1 locs1 h1 h2 => kk p e s m args below meth c H1 locs1 ls hc h1 h2 hL)

theorem X_callSNv {host : String} (hM : XM l G d' y' b' ml' rt' mc ms xK0 As n M none n' M') (hlk : xLS y' b' ml' rt' na) (hln : Cond.methodLinkNest y.cls idx y' host ∈ xnest) (hna : As.length = na) (hrest : (rest.map fun v => v.category).sum ≤ 8) (hR : d' + 1 ≤ R.frames ∧ 8 + (ml' + 11) + 64 * d' ≤ R.locals) (hcs : kc + mc ≤ R.cells ∧ sl + ms ≤ R.slots) (hd : decode cc pc = .ok (.invokestatic idx, 3)) (hst : As.reverse ++ rest = st) (kk : XW l G R y cc ml rt K Z n' M' (kc + mc) (sl + ms) (pc + 3) L (rest)) : XW l G R y cc ml rt K Z n M kc sl pc L st := by
  intro p e s m args below meth c H locs ls hc hH hS hL
  have hts := hc.2.2.2.2.2.2.2.1
  have hKs := hc.2.2.2.2.2.2.2.2.1
  exact xcall (r := none) (va_runSN (rest := rest) ⟨hc.1, hc.2.1, hc.2.2.1, hc.2.2.2.2.2.1, hts⟩ hM ⟨va_cnB na hts (xgood hlk.1.2.1) rfl rfl rfl (hKs.2.1 _ hln) (hts _ hlk.1.1) ⟨hlk.1.2.2.1, hlk.1.2.2.2.1, hlk.1.2.2.2.2⟩ hR, hts _ hlk.2, trivial⟩ ⟨xblind, fun U hU hW => ⟨rfl, xK_warm hW hKs, by rw [hU]; exact Nat.le_trans hc.2.2.2.2.2.2.2.2.2.2 hS.1, by rw [hU]; exact hH, trivial⟩⟩ rfl hna hL.1 hst.symm (lv_room (pc := pc) (m := m) (ls := ls) (rest := st) hrest) hd hcs) hS (fun H1 locs1 h1 h2 => kk p e s m args below meth c H1 locs1 ls hc h1 h2 hL)

theorem X_callI (hM : XM l G d' y' b' ml' none mc ms xK0 (.ref (xg G a) :: As) n M none n' M') (hlk : xLI y' b' ml' na) (hln : Cond.methodLink y.cls idx y' ∈ xT) (hna : As.length = na) (hrest : (rest.map fun v => v.category).sum ≤ 8) (hR : d' + 1 ≤ R.frames ∧ 8 + (ml' + 11) + 64 * d' ≤ R.locals) (hcs : kc + mc ≤ R.cells ∧ sl + ms ≤ R.slots) (hd : decode cc pc = .ok (.invokespecial idx, 3)) (hst : As.reverse ++ .ref (xg G a) :: rest = st) (kk : XW l G R y cc ml rt K Z n' M' (kc + mc) (sl + ms) (pc + 3) L rest) : XW l G R y cc ml rt K Z n M kc sl pc L st := by
  intro p e s m args below meth c H locs ls hc hH hS hL
  have hts := hc.2.2.2.2.2.2.2.1
  have hKs := hc.2.2.2.2.2.2.2.2.1
  exact xcall (r := none) (va_runI (rest := rest) ⟨hc.1, hc.2.1, hc.2.2.1, hc.2.2.2.2.2.1, hts⟩ hM ⟨callB_of na hts (xgood hlk.1.2.1) rfl rfl rfl (hts _ hlk.1.1) (hts _ hln) ⟨hlk.1.2.2.1, hlk.1.2.2.2.1, hlk.1.2.2.2.2⟩ hR, hlk.2.1, hts _ hlk.2.2⟩ ⟨xblind, fun U hU hW => ⟨rfl, xK_warm hW hKs, by rw [hU]; exact Nat.le_trans hc.2.2.2.2.2.2.2.2.2.2 hS.1, by rw [hU]; exact hH, trivial⟩⟩ rfl hna hL.1 hst.symm (lv_room (pc := pc) (m := m) (ls := ls) (rest := st) hrest) hd hcs) hS (fun H1 locs1 h1 h2 => kk p e s m args below meth c H1 locs1 ls hc h1 h2 hL)

theorem X_callIN {host : String} (hM : XM l G d' y' b' ml' none mc ms xK0 (.ref (xg G a) :: As) n M none n' M') (hlk : xLI y' b' ml' na) (hln : Cond.methodLinkNest y.cls idx y' host ∈ xnest) (hna : As.length = na) (hrest : (rest.map fun v => v.category).sum ≤ 8) (hR : d' + 1 ≤ R.frames ∧ 8 + (ml' + 11) + 64 * d' ≤ R.locals) (hcs : kc + mc ≤ R.cells ∧ sl + ms ≤ R.slots) (hd : decode cc pc = .ok (.invokespecial idx, 3)) (hst : As.reverse ++ .ref (xg G a) :: rest = st) (kk : XW l G R y cc ml rt K Z n' M' (kc + mc) (sl + ms) (pc + 3) L rest) : XW l G R y cc ml rt K Z n M kc sl pc L st := by
  intro p e s m args below meth c H locs ls hc hH hS hL
  have hts := hc.2.2.2.2.2.2.2.1
  have hKs := hc.2.2.2.2.2.2.2.2.1
  exact xcall (r := none) (va_runIN (rest := rest) ⟨hc.1, hc.2.1, hc.2.2.1, hc.2.2.2.2.2.1, hts⟩ hM ⟨va_cnB na hts (xgood hlk.1.2.1) rfl rfl rfl (hKs.2.1 _ hln) (hts _ hlk.1.1) ⟨hlk.1.2.2.1, hlk.1.2.2.2.1, hlk.1.2.2.2.2⟩ hR, hlk.2.1, hts _ hlk.2.2⟩ ⟨xblind, fun U hU hW => ⟨rfl, xK_warm hW hKs, by rw [hU]; exact Nat.le_trans hc.2.2.2.2.2.2.2.2.2.2 hS.1, by rw [hU]; exact hH, trivial⟩⟩ rfl hna hL.1 hst.symm (lv_room (pc := pc) (m := m) (ls := ls) (rest := st) hrest) hd hcs) hS (fun H1 locs1 h1 h2 => kk p e s m args below meth c H1 locs1 ls hc h1 h2 hL)

theorem X_mmax {x z : Int32} {idx : Nat} (hln : Cond.methodLink y.cls idx Lib.Math.max.name ∈ xT) (hstat : Cond.static Lib.Math.max.name ∈ xT) (hini : Cond.initialized "java/lang/Math" ∈ xT) (hcode : Cond.code Lib.Math.max.name Lib.Math.max.code 2 (some .int) ∈ xT) (hfr : 1 ≤ R.frames ∧ (st.map fun v => v.category).sum + 13 ≤ R.locals) (hcs : kc ≤ R.cells ∧ sl ≤ R.slots) (hd : decode cc pc = .ok (.invokestatic idx, 3)) (kk : XW l G R y cc ml rt K Z n M kc sl (pc + 3) L (.int (if x < z then z else x) :: st)) : XW l G R y cc ml rt K Z n M kc sl pc L (.int z :: .int x :: st) := by
  intro p e s m args below meth c H locs ls hc hH hS hL
  have hts := hc.2.2.2.2.2.2.2.1
  have hKs := hc.2.2.2.2.2.2.2.2.1
  exact va_mmax hc.1 hc.2.1 (hc.2.2.1.trans hL.1.symm) hc.2.2.2.2.2.1 (hts _ hln) (hts _ hstat) (hts _ hini) (hts _ hcode) hfr.1 hfr.2 hcs.1 hcs.2 hd (kk p e s m args below meth c H locs ls hc hH hS hL)

theorem X_mmin {x z : Int32} {idx : Nat} (hln : Cond.methodLink y.cls idx Lib.Math.min.name ∈ xT) (hstat : Cond.static Lib.Math.min.name ∈ xT) (hini : Cond.initialized "java/lang/Math" ∈ xT) (hcode : Cond.code Lib.Math.min.name Lib.Math.min.code 2 (some .int) ∈ xT) (hfr : 1 ≤ R.frames ∧ (st.map fun v => v.category).sum + 13 ≤ R.locals) (hcs : kc ≤ R.cells ∧ sl ≤ R.slots) (hd : decode cc pc = .ok (.invokestatic idx, 3)) (kk : XW l G R y cc ml rt K Z n M kc sl (pc + 3) L (.int (if z < x then z else x) :: st)) : XW l G R y cc ml rt K Z n M kc sl pc L (.int z :: .int x :: st) := by
  intro p e s m args below meth c H locs ls hc hH hS hL
  have hts := hc.2.2.2.2.2.2.2.1
  have hKs := hc.2.2.2.2.2.2.2.2.1
  exact va_mmin hc.1 hc.2.1 (hc.2.2.1.trans hL.1.symm) hc.2.2.2.2.2.1 (hts _ hln) (hts _ hstat) (hts _ hini) (hts _ hcode) hfr.1 hfr.2 hcs.1 hcs.2 hd (kk p e s m args below meth c H locs ls hc hH hS hL)

theorem X_mabs {x : Int32} {idx : Nat} (hln : Cond.methodLink y.cls idx Lib.Math.abs.name ∈ xT) (hstat : Cond.static Lib.Math.abs.name ∈ xT) (hini : Cond.initialized "java/lang/Math" ∈ xT) (hcode : Cond.code Lib.Math.abs.name Lib.Math.abs.code 1 (some .int) ∈ xT) (hfr : 1 ≤ R.frames ∧ (st.map fun v => v.category).sum + 13 ≤ R.locals) (hcs : kc ≤ R.cells ∧ sl ≤ R.slots) (hd : decode cc pc = .ok (.invokestatic idx, 3)) (kk : XW l G R y cc ml rt K Z n M kc sl (pc + 3) L (.int (if 0 ≤ x then x else 0 - x) :: st)) : XW l G R y cc ml rt K Z n M kc sl pc L (.int x :: st) := by
  intro p e s m args below meth c H locs ls hc hH hS hL
  have hts := hc.2.2.2.2.2.2.2.1
  have hKs := hc.2.2.2.2.2.2.2.2.1
  exact va_mabs hc.1 hc.2.1 (hc.2.2.1.trans hL.1.symm) hc.2.2.2.2.2.1 (hts _ hln) (hts _ hstat) (hts _ hini) (hts _ hcode) hfr.1 hfr.2 hcs.1 hcs.2 hd (kk p e s m args below meth c H locs ls hc hH hS hL)

theorem X_objInit {a idx : Nat} (hln : Cond.methodLink y.cls idx Lib.objectInit ∈ xT) (hinst : Cond.instanceMethod Lib.objectInit ∈ xT) (hcode : Cond.code Lib.objectInit ⟨#[0xb1]⟩ 1 none ∈ xT) (hfr : 1 ≤ R.frames ∧ 2 * 0 + (st.map fun v => v.category).sum + 12 ≤ R.locals) (hd : decode cc pc = .ok (.invokespecial idx, 3)) (kk : XW l G R y cc ml rt K Z n M kc sl (pc + 3) L st) : XW l G R y cc ml rt K Z n M kc sl pc L (.ref a :: st) := by
  intro p e s m args below meth c H locs ls hc hH hS hL
  have hts := hc.2.2.2.2.2.2.2.1
  have hKs := hc.2.2.2.2.2.2.2.2.1
  exact W.objInit hc.1 hc.2.1 hc.2.2.2.2.2.1 (hts _ hln) (hts _ hinst) (hts _ hcode) rfl (hL.1.trans hc.2.2.1.symm) rfl hd hfr.1 hfr.2 (kk p e s m args below meth c H locs ls hc hH hS hL)

theorem X_iret {x : Int32} (hrt : rt = some .int) (hr : r = some (.int x)) (hM : xle M M') (hd : decode cc pc = .ok (.ireturn, 1)) : XW l G R y cc ml rt K (xZ G n M' r kc sl) n M kc sl pc L [.int x] := by
  intro p e s m args below meth c H locs ls hc hH hS hL
  have hts := hc.2.2.2.2.2.2.2.1
  have hKs := hc.2.2.2.2.2.2.2.2.1
  exact W.iret hc.1 hc.2.1 (hc.2.2.2.1.trans hrt) (fun t ht _ => ⟨⟨by rw [hr], by rw [ht]; exact hM G n H hH⟩, hS.F ht⟩) hS.2.2 hd hc.2.2.2.2.1

theorem X_zret {x : Int32} (hrt : rt = some .boolean) (hx : narrow .boolean (.int x) = .int x) (hr : r = some (.int x)) (hM : xle M M') (hd : decode cc pc = .ok (.ireturn, 1)) : XW l G R y cc ml rt K (xZ G n M' r kc sl) n M kc sl pc L [.int x] := by
  intro p e s m args below meth c H locs ls hc hH hS hL
  have hts := hc.2.2.2.2.2.2.2.1
  have hKs := hc.2.2.2.2.2.2.2.2.1
  exact W.zret hc.1 hc.2.1 (hc.2.2.2.1.trans hrt) hx (fun t ht _ => ⟨⟨by rw [hr], by rw [ht]; exact hM G n H hH⟩, hS.F ht⟩) hS.2.2 hd hc.2.2.2.2.1

theorem X_lret {x : Int64} (hrt : rt = some .long) (hr : r = some (.long x)) (hM : xle M M') (hd : decode cc pc = .ok (.lreturn, 1)) : XW l G R y cc ml rt K (xZ G n M' r kc sl) n M kc sl pc L [.long x] := by
  intro p e s m args below meth c H locs ls hc hH hS hL
  have hts := hc.2.2.2.2.2.2.2.1
  have hKs := hc.2.2.2.2.2.2.2.2.1
  exact W.lret hc.1 hc.2.1 (hc.2.2.2.1.trans hrt) (fun t ht _ => ⟨⟨by rw [hr], by rw [ht]; exact hM G n H hH⟩, hS.F ht⟩) hS.2.2 hd hc.2.2.2.2.1

theorem X_vret (hrt : rt = none) (hr : r = none) (hM : xle M M') (hd : decode cc pc = .ok (.return_, 1)) : XW l G R y cc ml rt K (xZ G n M' r kc sl) n M kc sl pc L [] := by
  intro p e s m args below meth c H locs ls hc hH hS hL
  have hts := hc.2.2.2.2.2.2.2.1
  have hKs := hc.2.2.2.2.2.2.2.2.1
  exact W.vret hc.1 hc.2.1 (hc.2.2.2.1.trans hrt) (fun t ht _ => ⟨⟨by rw [hr], by rw [ht]; exact hM G n H hH⟩, hS.F ht⟩) hS.2.2 hd hc.2.2.2.2.1

theorem X_aret {x : Nat} {C : String} (hrt : rt = some (.object C)) (hr : r = some (.ref x)) (hM : xle M M') (hd : decode cc pc = .ok (.areturn, 1)) : XW l G R y cc ml rt K (xZ G n M' r kc sl) n M kc sl pc L [.ref x] := by
  intro p e s m args below meth c H locs ls hc hH hS hL
  have hts := hc.2.2.2.2.2.2.2.1
  have hKs := hc.2.2.2.2.2.2.2.2.1
  exact W.aret hc.1 hc.2.1 (hc.2.2.2.1.trans hrt) (Or.inl ⟨C, rfl⟩) (Or.inr ⟨x, rfl⟩) (fun t ht _ => ⟨⟨by rw [hr], by rw [ht]; exact hM G n H hH⟩, hS.F ht⟩) hS.2.2 hd hc.2.2.2.2.1

theorem X_know {N : Nat} (hM : M a = some (.inr N)) (kk : ∀ f : Nat → Int32, XW l G R y cc ml rt K Z n (xup M a (some (.inl (.inl (0, N, .inl f))))) kc sl pc L st) : XW l G R y cc ml rt K Z n M kc sl pc L st := by
  intro p e s m args below meth c H locs ls hc hH hS hL
  have hts := hc.2.2.2.2.2.2.2.1
  have hKs := hc.2.2.2.2.2.2.2.2.1
  obtain ⟨f, hf⟩ := hH.2.2 a _ hM
  exact kk f p e s m args below meth c H locs ls hc (xH_set (x := .inl (.inl (0, N, .inl f))) hH hM rfl (fun _ _ => rfl) hf) hS hL

end XCALLS
/-- a contract out of the walk of a body -/
theorem XM.of {l : Launch} {G : xG} {d : Nat} {y : MethodName} {cc : ByteArray} {ml : Nat} {rt : Option FieldType} {mc ms : Nat} {K : Array Value → State → Prop} {as : List Value} {n n' : Nat} {M M' : xM} {r : Option Value} (hy : plainName y.cls = true) (hlen : (lg_sl as).length ≤ ml) {L : List (Nat × Value)} (hL : lv_args 0 as = L) (k : XW l G (xR d mc ms) y cc ml rt K (xZ G n' M' r mc ms) n M 0 0 0 L []) : XM l G d y cc ml rt mc ms K as n M r n' M' := by
  refine Met.ofW (cc := cc) (maxL := ml) (ret := rt) hy rfl ?_
  intro p e s m args below meth c s₁ B hml hv
  obtain ⟨rfl, hK, hb0, hH, hKK⟩ := hv
  have hts : ∀ w ∈ xT, w.before as.toArray s = true := fun w hw => atoms_spec (ws := .code y cc ml rt :: xT) B.pre w (List.mem_cons_of_mem _ hw)
  have hl := lv_entry as (n := ml) hlen
  rw [hL] at hl
  rw [lg_entry_eq]
  exact k p e s m as.toArray below meth c s.heap [] _ ⟨B.exec, B.bytes, hml, B.returns, B.notSynchronized, findClass_of_methodNamed B.named, (name_of_methodNamed B.named B.method).1, hts, hK, hKK, hb0⟩ hH va_S.rf hl
end
section
abbrev b_Head_init : ByteArray := prog_2_method_1_code
def y_Head_init : MethodName := ⟨"RoundAndRound$Head", "<init>", "()V"⟩
theorem d_Head_init_0 : decode b_Head_init 0 = .ok (.aload_n 0, 1) := by decide +kernel
theorem d_Head_init_1 : decode b_Head_init 1 = .ok (.invokespecial 3, 3) := by decide +kernel
theorem d_Head_init_4 : decode b_Head_init 4 = .ok (.return_, 1) := by decide +kernel
abbrev b_Head_begin : ByteArray := prog_2_method_2_code
def y_Head_begin : MethodName := ⟨"RoundAndRound$Head", "begin", "(II)V"⟩
theorem d_Head_begin_0 : decode b_Head_begin 0 = .ok (.aload_n 0, 1) := by decide +kernel
theorem d_Head_begin_1 : decode b_Head_begin 1 = .ok (.iload_n 1, 1) := by decide +kernel
theorem d_Head_begin_2 : decode b_Head_begin 2 = .ok (.putfield 9, 3) := by decide +kernel
theorem d_Head_begin_5 : decode b_Head_begin 5 = .ok (.aload_n 0, 1) := by decide +kernel
theorem d_Head_begin_6 : decode b_Head_begin 6 = .ok (.iload_n 2, 1) := by decide +kernel
theorem d_Head_begin_7 : decode b_Head_begin 7 = .ok (.putfield 15, 3) := by decide +kernel
theorem d_Head_begin_10 : decode b_Head_begin 10 = .ok (.aload_n 0, 1) := by decide +kernel
theorem d_Head_begin_11 : decode b_Head_begin 11 = .ok (.iconst 0, 1) := by decide +kernel
theorem d_Head_begin_12 : decode b_Head_begin 12 = .ok (.putfield 18, 3) := by decide +kernel
theorem d_Head_begin_15 : decode b_Head_begin 15 = .ok (.aload_n 0, 1) := by decide +kernel
theorem d_Head_begin_16 : decode b_Head_begin 16 = .ok (.iconst 0, 1) := by decide +kernel
theorem d_Head_begin_17 : decode b_Head_begin 17 = .ok (.putfield 21, 3) := by decide +kernel
theorem d_Head_begin_20 : decode b_Head_begin 20 = .ok (.aload_n 0, 1) := by decide +kernel
theorem d_Head_begin_21 : decode b_Head_begin 21 = .ok (.iconst 0, 1) := by decide +kernel
theorem d_Head_begin_22 : decode b_Head_begin 22 = .ok (.putfield 24, 3) := by decide +kernel
theorem d_Head_begin_25 : decode b_Head_begin 25 = .ok (.aload_n 0, 1) := by decide +kernel
theorem d_Head_begin_26 : decode b_Head_begin 26 = .ok (.invokevirtual 27, 3) := by decide +kernel
theorem d_Head_begin_29 : decode b_Head_begin 29 = .ok (.return_, 1) := by decide +kernel
abbrev b_Head_become : ByteArray := prog_2_method_3_code
def y_Head_become : MethodName := ⟨"RoundAndRound$Head", "become", "(LRoundAndRound$Head;)V"⟩
theorem d_Head_become_0 : decode b_Head_become 0 = .ok (.aload_n 0, 1) := by decide +kernel
theorem d_Head_become_1 : decode b_Head_become 1 = .ok (.aload_n 1, 1) := by decide +kernel
theorem d_Head_become_2 : decode b_Head_become 2 = .ok (.getfield 9, 3) := by decide +kernel
theorem d_Head_become_5 : decode b_Head_become 5 = .ok (.putfield 9, 3) := by decide +kernel
theorem d_Head_become_8 : decode b_Head_become 8 = .ok (.aload_n 0, 1) := by decide +kernel
theorem d_Head_become_9 : decode b_Head_become 9 = .ok (.aload_n 1, 1) := by decide +kernel
theorem d_Head_become_10 : decode b_Head_become 10 = .ok (.getfield 15, 3) := by decide +kernel
theorem d_Head_become_13 : decode b_Head_become 13 = .ok (.putfield 15, 3) := by decide +kernel
theorem d_Head_become_16 : decode b_Head_become 16 = .ok (.aload_n 0, 1) := by decide +kernel
theorem d_Head_become_17 : decode b_Head_become 17 = .ok (.aload_n 1, 1) := by decide +kernel
theorem d_Head_become_18 : decode b_Head_become 18 = .ok (.getfield 18, 3) := by decide +kernel
theorem d_Head_become_21 : decode b_Head_become 21 = .ok (.putfield 18, 3) := by decide +kernel
theorem d_Head_become_24 : decode b_Head_become 24 = .ok (.aload_n 0, 1) := by decide +kernel
theorem d_Head_become_25 : decode b_Head_become 25 = .ok (.aload_n 1, 1) := by decide +kernel
theorem d_Head_become_26 : decode b_Head_become 26 = .ok (.getfield 21, 3) := by decide +kernel
theorem d_Head_become_29 : decode b_Head_become 29 = .ok (.putfield 21, 3) := by decide +kernel
theorem d_Head_become_32 : decode b_Head_become 32 = .ok (.aload_n 0, 1) := by decide +kernel
theorem d_Head_become_33 : decode b_Head_become 33 = .ok (.aload_n 1, 1) := by decide +kernel
theorem d_Head_become_34 : decode b_Head_become 34 = .ok (.getfield 24, 3) := by decide +kernel
theorem d_Head_become_37 : decode b_Head_become 37 = .ok (.putfield 24, 3) := by decide +kernel
theorem d_Head_become_40 : decode b_Head_become 40 = .ok (.aload_n 0, 1) := by decide +kernel
theorem d_Head_become_41 : decode b_Head_become 41 = .ok (.aload_n 1, 1) := by decide +kernel
theorem d_Head_become_42 : decode b_Head_become 42 = .ok (.getfield 30, 3) := by decide +kernel
theorem d_Head_become_45 : decode b_Head_become 45 = .ok (.putfield 30, 3) := by decide +kernel
theorem d_Head_become_48 : decode b_Head_become 48 = .ok (.aload_n 0, 1) := by decide +kernel
theorem d_Head_become_49 : decode b_Head_become 49 = .ok (.aload_n 1, 1) := by decide +kernel
theorem d_Head_become_50 : decode b_Head_become 50 = .ok (.getfield 33, 3) := by decide +kernel
theorem d_Head_become_53 : decode b_Head_become 53 = .ok (.putfield 33, 3) := by decide +kernel
theorem d_Head_become_56 : decode b_Head_become 56 = .ok (.aload_n 0, 1) := by decide +kernel
theorem d_Head_become_57 : decode b_Head_become 57 = .ok (.aload_n 1, 1) := by decide +kernel
theorem d_Head_become_58 : decode b_Head_become 58 = .ok (.getfield 36, 3) := by decide +kernel
theorem d_Head_become_61 : decode b_Head_become 61 = .ok (.putfield 36, 3) := by decide +kernel
theorem d_Head_become_64 : decode b_Head_become 64 = .ok (.return_, 1) := by decide +kernel
abbrev b_Head_standAtStart : ByteArray := prog_2_method_4_code
def y_Head_standAtStart : MethodName := ⟨"RoundAndRound$Head", "standAtStart", "()V"⟩
theorem d_Head_standAtStart_0 : decode b_Head_standAtStart 0 = .ok (.aload_n 0, 1) := by decide +kernel
theorem d_Head_standAtStart_1 : decode b_Head_standAtStart 1 = .ok (.iconst 0, 1) := by decide +kernel
theorem d_Head_standAtStart_2 : decode b_Head_standAtStart 2 = .ok (.putfield 30, 3) := by decide +kernel
theorem d_Head_standAtStart_5 : decode b_Head_standAtStart 5 = .ok (.aload_n 0, 1) := by decide +kernel
theorem d_Head_standAtStart_6 : decode b_Head_standAtStart 6 = .ok (.iconst 0, 1) := by decide +kernel
theorem d_Head_standAtStart_7 : decode b_Head_standAtStart 7 = .ok (.putfield 33, 3) := by decide +kernel
theorem d_Head_standAtStart_10 : decode b_Head_standAtStart 10 = .ok (.aload_n 0, 1) := by decide +kernel
theorem d_Head_standAtStart_11 : decode b_Head_standAtStart 11 = .ok (.iconst 0, 1) := by decide +kernel
theorem d_Head_standAtStart_12 : decode b_Head_standAtStart 12 = .ok (.putfield 36, 3) := by decide +kernel
theorem d_Head_standAtStart_15 : decode b_Head_standAtStart 15 = .ok (.return_, 1) := by decide +kernel
abbrev b_Head_fallsFrom : ByteArray := prog_2_method_5_code
def y_Head_fallsFrom : MethodName := ⟨"RoundAndRound$Head", "fallsFrom", "()I"⟩
theorem d_Head_fallsFrom_0 : decode b_Head_fallsFrom 0 = .ok (.aload_n 0, 1) := by decide +kernel
theorem d_Head_fallsFrom_1 : decode b_Head_fallsFrom 1 = .ok (.getfield 9, 3) := by decide +kernel
theorem d_Head_fallsFrom_4 : decode b_Head_fallsFrom 4 = .ok (.aload_n 0, 1) := by decide +kernel
theorem d_Head_fallsFrom_5 : decode b_Head_fallsFrom 5 = .ok (.getfield 15, 3) := by decide +kernel
theorem d_Head_fallsFrom_8 : decode b_Head_fallsFrom 8 = .ok (.invokestatic 40, 3) := by decide +kernel
theorem d_Head_fallsFrom_11 : decode b_Head_fallsFrom 11 = .ok (.ireturn, 1) := by decide +kernel
abbrev b_Head_mustFall : ByteArray := prog_2_method_6_code
def y_Head_mustFall : MethodName := ⟨"RoundAndRound$Head", "mustFall", "()Z"⟩
theorem d_Head_mustFall_0 : decode b_Head_mustFall 0 = .ok (.aload_n 0, 1) := by decide +kernel
theorem d_Head_mustFall_1 : decode b_Head_mustFall 1 = .ok (.getfield 18, 3) := by decide +kernel
theorem d_Head_mustFall_4 : decode b_Head_mustFall 4 = .ok (.invokestatic 46, 3) := by decide +kernel
theorem d_Head_mustFall_7 : decode b_Head_mustFall 7 = .ok (.aload_n 0, 1) := by decide +kernel
theorem d_Head_mustFall_8 : decode b_Head_mustFall 8 = .ok (.invokevirtual 52, 3) := by decide +kernel
theorem d_Head_mustFall_11 : decode b_Head_mustFall 11 = .ok (.if_icmp .lt 7, 3) := by decide +kernel
theorem d_Head_mustFall_14 : decode b_Head_mustFall 14 = .ok (.iconst 1, 1) := by decide +kernel
theorem d_Head_mustFall_15 : decode b_Head_mustFall 15 = .ok (.goto 4, 3) := by decide +kernel
theorem d_Head_mustFall_18 : decode b_Head_mustFall 18 = .ok (.iconst 0, 1) := by decide +kernel
theorem d_Head_mustFall_19 : decode b_Head_mustFall 19 = .ok (.ireturn, 1) := by decide +kernel
abbrev b_Head_fade : ByteArray := prog_2_method_7_code
def y_Head_fade : MethodName := ⟨"RoundAndRound$Head", "fade", "(LRoundAndRound$Text;I)V"⟩
theorem d_Head_fade_0 : decode b_Head_fade 0 = .ok (.aload_n 0, 1) := by decide +kernel
theorem d_Head_fade_1 : decode b_Head_fade 1 = .ok (.getfield 9, 3) := by decide +kernel
theorem d_Head_fade_4 : decode b_Head_fade 4 = .ok (.aload_n 1, 1) := by decide +kernel
theorem d_Head_fade_5 : decode b_Head_fade 5 = .ok (.iconst 1, 1) := by decide +kernel
theorem d_Head_fade_6 : decode b_Head_fade 6 = .ok (.aload_n 0, 1) := by decide +kernel
theorem d_Head_fade_7 : decode b_Head_fade 7 = .ok (.iconst 0, 1) := by decide +kernel
theorem d_Head_fade_8 : decode b_Head_fade 8 = .ok (.iload_n 2, 1) := by decide +kernel
theorem d_Head_fade_9 : decode b_Head_fade 9 = .ok (.invokevirtual 55, 3) := by decide +kernel
theorem d_Head_fade_12 : decode b_Head_fade 12 = .ok (.invokestatic 61, 3) := by decide +kernel
theorem d_Head_fade_15 : decode b_Head_fade 15 = .ok (.istore_n 3, 1) := by decide +kernel
theorem d_Head_fade_16 : decode b_Head_fade 16 = .ok (.aload_n 0, 1) := by decide +kernel
theorem d_Head_fade_17 : decode b_Head_fade 17 = .ok (.dup, 1) := by decide +kernel
theorem d_Head_fade_18 : decode b_Head_fade 18 = .ok (.getfield 18, 3) := by decide +kernel
theorem d_Head_fade_21 : decode b_Head_fade 21 = .ok (.aload_n 0, 1) := by decide +kernel
theorem d_Head_fade_22 : decode b_Head_fade 22 = .ok (.getfield 18, 3) := by decide +kernel
theorem d_Head_fade_25 : decode b_Head_fade 25 = .ok (.iload_n 3, 1) := by decide +kernel
theorem d_Head_fade_26 : decode b_Head_fade 26 = .ok (.imul, 1) := by decide +kernel
theorem d_Head_fade_27 : decode b_Head_fade 27 = .ok (.bipush (100), 2) := by decide +kernel
theorem d_Head_fade_29 : decode b_Head_fade 29 = .ok (.idiv, 1) := by decide +kernel
theorem d_Head_fade_30 : decode b_Head_fade 30 = .ok (.isub, 1) := by decide +kernel
theorem d_Head_fade_31 : decode b_Head_fade 31 = .ok (.putfield 18, 3) := by decide +kernel
theorem d_Head_fade_34 : decode b_Head_fade 34 = .ok (.return_, 1) := by decide +kernel
abbrev b_Head_spinOnce : ByteArray := prog_2_method_8_code
def y_Head_spinOnce : MethodName := ⟨"RoundAndRound$Head", "spinOnce", "(LRoundAndRound$Text;II)V"⟩
theorem d_Head_spinOnce_0 : decode b_Head_spinOnce 0 = .ok (.aload_n 0, 1) := by decide +kernel
theorem d_Head_spinOnce_1 : decode b_Head_spinOnce 1 = .ok (.getfield 9, 3) := by decide +kernel
theorem d_Head_spinOnce_4 : decode b_Head_spinOnce 4 = .ok (.aload_n 1, 1) := by decide +kernel
theorem d_Head_spinOnce_5 : decode b_Head_spinOnce 5 = .ok (.iconst 0, 1) := by decide +kernel
theorem d_Head_spinOnce_6 : decode b_Head_spinOnce 6 = .ok (.aload_n 0, 1) := by decide +kernel
theorem d_Head_spinOnce_7 : decode b_Head_spinOnce 7 = .ok (.iload_n 2, 1) := by decide +kernel
theorem d_Head_spinOnce_8 : decode b_Head_spinOnce 8 = .ok (.iconst 1, 1) := by decide +kernel
theorem d_Head_spinOnce_9 : decode b_Head_spinOnce 9 = .ok (.invokevirtual 55, 3) := by decide +kernel
theorem d_Head_spinOnce_12 : decode b_Head_spinOnce 12 = .ok (.iload_n 2, 1) := by decide +kernel
theorem d_Head_spinOnce_13 : decode b_Head_spinOnce 13 = .ok (.aload_n 0, 1) := by decide +kernel
theorem d_Head_spinOnce_14 : decode b_Head_spinOnce 14 = .ok (.getfield 15, 3) := by decide +kernel
theorem d_Head_spinOnce_17 : decode b_Head_spinOnce 17 = .ok (.invokestatic 64, 3) := by decide +kernel
theorem d_Head_spinOnce_20 : decode b_Head_spinOnce 20 = .ok (.istore 4, 2) := by decide +kernel
theorem d_Head_spinOnce_22 : decode b_Head_spinOnce 22 = .ok (.aload_n 0, 1) := by decide +kernel
theorem d_Head_spinOnce_23 : decode b_Head_spinOnce 23 = .ok (.aload_n 0, 1) := by decide +kernel
theorem d_Head_spinOnce_24 : decode b_Head_spinOnce 24 = .ok (.getfield 18, 3) := by decide +kernel
theorem d_Head_spinOnce_27 : decode b_Head_spinOnce 27 = .ok (.iload_n 3, 1) := by decide +kernel
theorem d_Head_spinOnce_28 : decode b_Head_spinOnce 28 = .ok (.iload 4, 2) := by decide +kernel
theorem d_Head_spinOnce_30 : decode b_Head_spinOnce 30 = .ok (.imul, 1) := by decide +kernel
theorem d_Head_spinOnce_31 : decode b_Head_spinOnce 31 = .ok (.iadd, 1) := by decide +kernel
theorem d_Head_spinOnce_32 : decode b_Head_spinOnce 32 = .ok (.sipush (-9999), 3) := by decide +kernel
theorem d_Head_spinOnce_35 : decode b_Head_spinOnce 35 = .ok (.sipush (9999), 3) := by decide +kernel
theorem d_Head_spinOnce_38 : decode b_Head_spinOnce 38 = .ok (.invokestatic 68, 3) := by decide +kernel
theorem d_Head_spinOnce_41 : decode b_Head_spinOnce 41 = .ok (.putfield 18, 3) := by decide +kernel
theorem d_Head_spinOnce_44 : decode b_Head_spinOnce 44 = .ok (.aload_n 0, 1) := by decide +kernel
theorem d_Head_spinOnce_45 : decode b_Head_spinOnce 45 = .ok (.aload_n 1, 1) := by decide +kernel
theorem d_Head_spinOnce_46 : decode b_Head_spinOnce 46 = .ok (.iconst 1, 1) := by decide +kernel
theorem d_Head_spinOnce_47 : decode b_Head_spinOnce 47 = .ok (.invokevirtual 72, 3) := by decide +kernel
theorem d_Head_spinOnce_50 : decode b_Head_spinOnce 50 = .ok (.return_, 1) := by decide +kernel
abbrev b_Head_spin : ByteArray := prog_2_method_9_code
def y_Head_spin : MethodName := ⟨"RoundAndRound$Head", "spin", "(LRoundAndRound$Text;II)V"⟩
theorem d_Head_spin_0 : decode b_Head_spin 0 = .ok (.iload_n 2, 1) := by decide +kernel
theorem d_Head_spin_1 : decode b_Head_spin 1 = .ok (.invokestatic 46, 3) := by decide +kernel
theorem d_Head_spin_4 : decode b_Head_spin 4 = .ok (.istore 4, 2) := by decide +kernel
theorem d_Head_spin_6 : decode b_Head_spin 6 = .ok (.iconst 0, 1) := by decide +kernel
theorem d_Head_spin_7 : decode b_Head_spin 7 = .ok (.istore 5, 2) := by decide +kernel
theorem d_Head_spin_9 : decode b_Head_spin 9 = .ok (.iload 5, 2) := by decide +kernel
theorem d_Head_spin_11 : decode b_Head_spin 11 = .ok (.iload 4, 2) := by decide +kernel
theorem d_Head_spin_13 : decode b_Head_spin 13 = .ok (.if_icmp .ge 24, 3) := by decide +kernel
theorem d_Head_spin_16 : decode b_Head_spin 16 = .ok (.aload_n 0, 1) := by decide +kernel
theorem d_Head_spin_17 : decode b_Head_spin 17 = .ok (.aload_n 1, 1) := by decide +kernel
theorem d_Head_spin_18 : decode b_Head_spin 18 = .ok (.iload_n 3, 1) := by decide +kernel
theorem d_Head_spin_19 : decode b_Head_spin 19 = .ok (.iload_n 2, 1) := by decide +kernel
theorem d_Head_spin_20 : decode b_Head_spin 20 = .ok (.ifCond .le 7, 3) := by decide +kernel
theorem d_Head_spin_23 : decode b_Head_spin 23 = .ok (.iconst 1, 1) := by decide +kernel
theorem d_Head_spin_24 : decode b_Head_spin 24 = .ok (.goto 4, 3) := by decide +kernel
theorem d_Head_spin_27 : decode b_Head_spin 27 = .ok (.iconst (-1), 1) := by decide +kernel
theorem d_Head_spin_28 : decode b_Head_spin 28 = .ok (.invokevirtual 76, 3) := by decide +kernel
theorem d_Head_spin_31 : decode b_Head_spin 31 = .ok (.iinc 5 (1), 3) := by decide +kernel
theorem d_Head_spin_34 : decode b_Head_spin 34 = .ok (.goto (-25), 3) := by decide +kernel
theorem d_Head_spin_37 : decode b_Head_spin 37 = .ok (.return_, 1) := by decide +kernel
abbrev b_Head_linger : ByteArray := prog_2_method_10_code
def y_Head_linger : MethodName := ⟨"RoundAndRound$Head", "linger", "(LRoundAndRound$Text;II)V"⟩
theorem d_Head_linger_0 : decode b_Head_linger 0 = .ok (.iconst 0, 1) := by decide +kernel
theorem d_Head_linger_1 : decode b_Head_linger 1 = .ok (.istore 4, 2) := by decide +kernel
theorem d_Head_linger_3 : decode b_Head_linger 3 = .ok (.iload 4, 2) := by decide +kernel
theorem d_Head_linger_5 : decode b_Head_linger 5 = .ok (.iload_n 2, 1) := by decide +kernel
theorem d_Head_linger_6 : decode b_Head_linger 6 = .ok (.if_icmp .ge 15, 3) := by decide +kernel
theorem d_Head_linger_9 : decode b_Head_linger 9 = .ok (.aload_n 0, 1) := by decide +kernel
theorem d_Head_linger_10 : decode b_Head_linger 10 = .ok (.aload_n 1, 1) := by decide +kernel
theorem d_Head_linger_11 : decode b_Head_linger 11 = .ok (.iload_n 3, 1) := by decide +kernel
theorem d_Head_linger_12 : decode b_Head_linger 12 = .ok (.invokevirtual 72, 3) := by decide +kernel
theorem d_Head_linger_15 : decode b_Head_linger 15 = .ok (.iinc 4 (1), 3) := by decide +kernel
theorem d_Head_linger_18 : decode b_Head_linger 18 = .ok (.goto (-15), 3) := by decide +kernel
theorem d_Head_linger_21 : decode b_Head_linger 21 = .ok (.return_, 1) := by decide +kernel
abbrev b_Head_step : ByteArray := prog_2_method_11_code
def y_Head_step : MethodName := ⟨"RoundAndRound$Head", "step", "(LRoundAndRound$Text;II)V"⟩
theorem d_Head_step_0 : decode b_Head_step 0 = .ok (.aload_n 0, 1) := by decide +kernel
theorem d_Head_step_1 : decode b_Head_step 1 = .ok (.getfield 36, 3) := by decide +kernel
theorem d_Head_step_4 : decode b_Head_step 4 = .ok (.ifCond .ne 10, 3) := by decide +kernel
theorem d_Head_step_7 : decode b_Head_step 7 = .ok (.aload_n 0, 1) := by decide +kernel
theorem d_Head_step_8 : decode b_Head_step 8 = .ok (.invokevirtual 80, 3) := by decide +kernel
theorem d_Head_step_11 : decode b_Head_step 11 = .ok (.ifCond .eq 9, 3) := by decide +kernel
theorem d_Head_step_14 : decode b_Head_step 14 = .ok (.aload_n 0, 1) := by decide +kernel
theorem d_Head_step_15 : decode b_Head_step 15 = .ok (.iconst 1, 1) := by decide +kernel
theorem d_Head_step_16 : decode b_Head_step 16 = .ok (.putfield 36, 3) := by decide +kernel
theorem d_Head_step_19 : decode b_Head_step 19 = .ok (.return_, 1) := by decide +kernel
theorem d_Head_step_20 : decode b_Head_step 20 = .ok (.aload_n 0, 1) := by decide +kernel
theorem d_Head_step_21 : decode b_Head_step 21 = .ok (.getfield 18, 3) := by decide +kernel
theorem d_Head_step_24 : decode b_Head_step 24 = .ok (.aload_n 1, 1) := by decide +kernel
theorem d_Head_step_25 : decode b_Head_step 25 = .ok (.iconst 2, 1) := by decide +kernel
theorem d_Head_step_26 : decode b_Head_step 26 = .ok (.aload_n 0, 1) := by decide +kernel
theorem d_Head_step_27 : decode b_Head_step 27 = .ok (.iload_n 2, 1) := by decide +kernel
theorem d_Head_step_28 : decode b_Head_step 28 = .ok (.iload_n 3, 1) := by decide +kernel
theorem d_Head_step_29 : decode b_Head_step 29 = .ok (.invokevirtual 55, 3) := by decide +kernel
theorem d_Head_step_32 : decode b_Head_step 32 = .ok (.imul, 1) := by decide +kernel
theorem d_Head_step_33 : decode b_Head_step 33 = .ok (.sipush (1000), 3) := by decide +kernel
theorem d_Head_step_36 : decode b_Head_step 36 = .ok (.idiv, 1) := by decide +kernel
theorem d_Head_step_37 : decode b_Head_step 37 = .ok (.istore 4, 2) := by decide +kernel
theorem d_Head_step_39 : decode b_Head_step 39 = .ok (.aload_n 0, 1) := by decide +kernel
theorem d_Head_step_40 : decode b_Head_step 40 = .ok (.aload_n 0, 1) := by decide +kernel
theorem d_Head_step_41 : decode b_Head_step 41 = .ok (.getfield 30, 3) := by decide +kernel
theorem d_Head_step_44 : decode b_Head_step 44 = .ok (.iload_n 2, 1) := by decide +kernel
theorem d_Head_step_45 : decode b_Head_step 45 = .ok (.iadd, 1) := by decide +kernel
theorem d_Head_step_46 : decode b_Head_step 46 = .ok (.ldc 84, 2) := by decide +kernel
theorem d_Head_step_48 : decode b_Head_step 48 = .ok (.ldc 85, 2) := by decide +kernel
theorem d_Head_step_50 : decode b_Head_step 50 = .ok (.invokestatic 68, 3) := by decide +kernel
theorem d_Head_step_53 : decode b_Head_step 53 = .ok (.putfield 30, 3) := by decide +kernel
theorem d_Head_step_56 : decode b_Head_step 56 = .ok (.aload_n 0, 1) := by decide +kernel
theorem d_Head_step_57 : decode b_Head_step 57 = .ok (.aload_n 0, 1) := by decide +kernel
theorem d_Head_step_58 : decode b_Head_step 58 = .ok (.getfield 33, 3) := by decide +kernel
theorem d_Head_step_61 : decode b_Head_step 61 = .ok (.iload 4, 2) := by decide +kernel
theorem d_Head_step_63 : decode b_Head_step 63 = .ok (.iadd, 1) := by decide +kernel
theorem d_Head_step_64 : decode b_Head_step 64 = .ok (.ldc 84, 2) := by decide +kernel
theorem d_Head_step_66 : decode b_Head_step 66 = .ok (.ldc 85, 2) := by decide +kernel
theorem d_Head_step_68 : decode b_Head_step 68 = .ok (.invokestatic 68, 3) := by decide +kernel
theorem d_Head_step_71 : decode b_Head_step 71 = .ok (.putfield 33, 3) := by decide +kernel
theorem d_Head_step_74 : decode b_Head_step 74 = .ok (.aload_n 0, 1) := by decide +kernel
theorem d_Head_step_75 : decode b_Head_step 75 = .ok (.aload_n 1, 1) := by decide +kernel
theorem d_Head_step_76 : decode b_Head_step 76 = .ok (.iload_n 3, 1) := by decide +kernel
theorem d_Head_step_77 : decode b_Head_step 77 = .ok (.invokevirtual 72, 3) := by decide +kernel
theorem d_Head_step_80 : decode b_Head_step 80 = .ok (.return_, 1) := by decide +kernel
abbrev b_Head_goOn : ByteArray := prog_2_method_12_code
def y_Head_goOn : MethodName := ⟨"RoundAndRound$Head", "goOn", "(LRoundAndRound$Text;III)I"⟩
theorem d_Head_goOn_0 : decode b_Head_goOn 0 = .ok (.iconst 0, 1) := by decide +kernel
theorem d_Head_goOn_1 : decode b_Head_goOn 1 = .ok (.istore 5, 2) := by decide +kernel
theorem d_Head_goOn_3 : decode b_Head_goOn 3 = .ok (.iload 5, 2) := by decide +kernel
theorem d_Head_goOn_5 : decode b_Head_goOn 5 = .ok (.iload_n 2, 1) := by decide +kernel
theorem d_Head_goOn_6 : decode b_Head_goOn 6 = .ok (.if_icmp .ge 36, 3) := by decide +kernel
theorem d_Head_goOn_9 : decode b_Head_goOn 9 = .ok (.aload_n 0, 1) := by decide +kernel
theorem d_Head_goOn_10 : decode b_Head_goOn 10 = .ok (.getfield 36, 3) := by decide +kernel
theorem d_Head_goOn_13 : decode b_Head_goOn 13 = .ok (.ifCond .eq 5, 3) := by decide +kernel
theorem d_Head_goOn_16 : decode b_Head_goOn 16 = .ok (.iconst (-1), 1) := by decide +kernel
theorem d_Head_goOn_17 : decode b_Head_goOn 17 = .ok (.ireturn, 1) := by decide +kernel
theorem d_Head_goOn_18 : decode b_Head_goOn 18 = .ok (.aload_n 0, 1) := by decide +kernel
theorem d_Head_goOn_19 : decode b_Head_goOn 19 = .ok (.aload_n 1, 1) := by decide +kernel
theorem d_Head_goOn_20 : decode b_Head_goOn 20 = .ok (.iload_n 3, 1) := by decide +kernel
theorem d_Head_goOn_21 : decode b_Head_goOn 21 = .ok (.iload 4, 2) := by decide +kernel
theorem d_Head_goOn_23 : decode b_Head_goOn 23 = .ok (.invokevirtual 86, 3) := by decide +kernel
theorem d_Head_goOn_26 : decode b_Head_goOn 26 = .ok (.aload_n 0, 1) := by decide +kernel
theorem d_Head_goOn_27 : decode b_Head_goOn 27 = .ok (.getfield 36, 3) := by decide +kernel
theorem d_Head_goOn_30 : decode b_Head_goOn 30 = .ok (.ifCond .eq 6, 3) := by decide +kernel
theorem d_Head_goOn_33 : decode b_Head_goOn 33 = .ok (.iload 5, 2) := by decide +kernel
theorem d_Head_goOn_35 : decode b_Head_goOn 35 = .ok (.ireturn, 1) := by decide +kernel
theorem d_Head_goOn_36 : decode b_Head_goOn 36 = .ok (.iinc 5 (1), 3) := by decide +kernel
theorem d_Head_goOn_39 : decode b_Head_goOn 39 = .ok (.goto (-36), 3) := by decide +kernel
theorem d_Head_goOn_42 : decode b_Head_goOn 42 = .ok (.iconst (-1), 1) := by decide +kernel
theorem d_Head_goOn_43 : decode b_Head_goOn 43 = .ok (.ireturn, 1) := by decide +kernel
end
section
abbrev b_Kind_isOne : ByteArray := prog_3_method_2_code
def y_Kind_isOne : MethodName := ⟨"RoundAndRound$Kind", "isOne", "(II)Z"⟩
theorem d_Kind_isOne_0 : decode b_Kind_isOne 0 = .ok (.iload_n 1, 1) := by decide +kernel
theorem d_Kind_isOne_1 : decode b_Kind_isOne 1 = .ok (.iload_n 0, 1) := by decide +kernel
theorem d_Kind_isOne_2 : decode b_Kind_isOne 2 = .ok (.if_icmp .eq 15, 3) := by decide +kernel
theorem d_Kind_isOne_5 : decode b_Kind_isOne 5 = .ok (.iload_n 1, 1) := by decide +kernel
theorem d_Kind_isOne_6 : decode b_Kind_isOne 6 = .ok (.ifCond .eq 11, 3) := by decide +kernel
theorem d_Kind_isOne_9 : decode b_Kind_isOne 9 = .ok (.iload_n 1, 1) := by decide +kernel
theorem d_Kind_isOne_10 : decode b_Kind_isOne 10 = .ok (.iload_n 0, 1) := by decide +kernel
theorem d_Kind_isOne_11 : decode b_Kind_isOne 11 = .ok (.invokestatic 9, 3) := by decide +kernel
theorem d_Kind_isOne_14 : decode b_Kind_isOne 14 = .ok (.if_icmp .ne 7, 3) := by decide +kernel
theorem d_Kind_isOne_17 : decode b_Kind_isOne 17 = .ok (.iconst 1, 1) := by decide +kernel
theorem d_Kind_isOne_18 : decode b_Kind_isOne 18 = .ok (.goto 4, 3) := by decide +kernel
theorem d_Kind_isOne_21 : decode b_Kind_isOne 21 = .ok (.iconst 0, 1) := by decide +kernel
theorem d_Kind_isOne_22 : decode b_Kind_isOne 22 = .ok (.ireturn, 1) := by decide +kernel
abbrev b_Kind_above : ByteArray := prog_3_method_3_code
def y_Kind_above : MethodName := ⟨"RoundAndRound$Kind", "above", "(I)I"⟩
theorem d_Kind_above_0 : decode b_Kind_above 0 = .ok (.iload_n 0, 1) := by decide +kernel
theorem d_Kind_above_1 : decode b_Kind_above 1 = .ok (.iconst 3, 1) := by decide +kernel
theorem d_Kind_above_2 : decode b_Kind_above 2 = .ok (.if_icmp .ne 7, 3) := by decide +kernel
theorem d_Kind_above_5 : decode b_Kind_above 5 = .ok (.iconst 1, 1) := by decide +kernel
theorem d_Kind_above_6 : decode b_Kind_above 6 = .ok (.goto 13, 3) := by decide +kernel
theorem d_Kind_above_9 : decode b_Kind_above 9 = .ok (.iload_n 0, 1) := by decide +kernel
theorem d_Kind_above_10 : decode b_Kind_above 10 = .ok (.iconst 4, 1) := by decide +kernel
theorem d_Kind_above_11 : decode b_Kind_above 11 = .ok (.if_icmp .ne 7, 3) := by decide +kernel
theorem d_Kind_above_14 : decode b_Kind_above 14 = .ok (.iconst 2, 1) := by decide +kernel
theorem d_Kind_above_15 : decode b_Kind_above 15 = .ok (.goto 4, 3) := by decide +kernel
theorem d_Kind_above_18 : decode b_Kind_above 18 = .ok (.iconst 0, 1) := by decide +kernel
theorem d_Kind_above_19 : decode b_Kind_above 19 = .ok (.ireturn, 1) := by decide +kernel
abbrev b_Kind_builds : ByteArray := prog_3_method_4_code
def y_Kind_builds : MethodName := ⟨"RoundAndRound$Kind", "builds", "(IIII)I"⟩
theorem d_Kind_builds_0 : decode b_Kind_builds 0 = .ok (.iload_n 0, 1) := by decide +kernel
theorem d_Kind_builds_1 : decode b_Kind_builds 1 = .ok (.tableswitch 72 (1) (5) #[35, 56, 39, 56, 66], 35) := by decide +kernel
theorem d_Kind_builds_36 : decode b_Kind_builds 36 = .ok (.iload_n 1, 1) := by decide +kernel
theorem d_Kind_builds_37 : decode b_Kind_builds 37 = .ok (.iconst 2, 1) := by decide +kernel
theorem d_Kind_builds_38 : decode b_Kind_builds 38 = .ok (.idiv, 1) := by decide +kernel
theorem d_Kind_builds_39 : decode b_Kind_builds 39 = .ok (.ireturn, 1) := by decide +kernel
theorem d_Kind_builds_40 : decode b_Kind_builds 40 = .ok (.iload_n 2, 1) := by decide +kernel
theorem d_Kind_builds_41 : decode b_Kind_builds 41 = .ok (.iconst 4, 1) := by decide +kernel
theorem d_Kind_builds_42 : decode b_Kind_builds 42 = .ok (.if_icmp .le 11, 3) := by decide +kernel
theorem d_Kind_builds_45 : decode b_Kind_builds 45 = .ok (.iload_n 1, 1) := by decide +kernel
theorem d_Kind_builds_46 : decode b_Kind_builds 46 = .ok (.iconst 2, 1) := by decide +kernel
theorem d_Kind_builds_47 : decode b_Kind_builds 47 = .ok (.idiv, 1) := by decide +kernel
theorem d_Kind_builds_48 : decode b_Kind_builds 48 = .ok (.iconst 2, 1) := by decide +kernel
theorem d_Kind_builds_49 : decode b_Kind_builds 49 = .ok (.idiv, 1) := by decide +kernel
theorem d_Kind_builds_50 : decode b_Kind_builds 50 = .ok (.goto 6, 3) := by decide +kernel
theorem d_Kind_builds_53 : decode b_Kind_builds 53 = .ok (.iload_n 1, 1) := by decide +kernel
theorem d_Kind_builds_54 : decode b_Kind_builds 54 = .ok (.iconst 2, 1) := by decide +kernel
theorem d_Kind_builds_55 : decode b_Kind_builds 55 = .ok (.idiv, 1) := by decide +kernel
theorem d_Kind_builds_56 : decode b_Kind_builds 56 = .ok (.ireturn, 1) := by decide +kernel
theorem d_Kind_builds_57 : decode b_Kind_builds 57 = .ok (.iconst 0, 1) := by decide +kernel
theorem d_Kind_builds_58 : decode b_Kind_builds 58 = .ok (.iload_n 1, 1) := by decide +kernel
theorem d_Kind_builds_59 : decode b_Kind_builds 59 = .ok (.iconst 5, 1) := by decide +kernel
theorem d_Kind_builds_60 : decode b_Kind_builds 60 = .ok (.iload_n 3, 1) := by decide +kernel
theorem d_Kind_builds_61 : decode b_Kind_builds 61 = .ok (.imul, 1) := by decide +kernel
theorem d_Kind_builds_62 : decode b_Kind_builds 62 = .ok (.isub, 1) := by decide +kernel
theorem d_Kind_builds_63 : decode b_Kind_builds 63 = .ok (.invokestatic 15, 3) := by decide +kernel
theorem d_Kind_builds_66 : decode b_Kind_builds 66 = .ok (.ireturn, 1) := by decide +kernel
theorem d_Kind_builds_67 : decode b_Kind_builds 67 = .ok (.iload_n 1, 1) := by decide +kernel
theorem d_Kind_builds_68 : decode b_Kind_builds 68 = .ok (.iload_n 2, 1) := by decide +kernel
theorem d_Kind_builds_69 : decode b_Kind_builds 69 = .ok (.iload_n 3, 1) := by decide +kernel
theorem d_Kind_builds_70 : decode b_Kind_builds 70 = .ok (.imul, 1) := by decide +kernel
theorem d_Kind_builds_71 : decode b_Kind_builds 71 = .ok (.iadd, 1) := by decide +kernel
theorem d_Kind_builds_72 : decode b_Kind_builds 72 = .ok (.ireturn, 1) := by decide +kernel
theorem d_Kind_builds_73 : decode b_Kind_builds 73 = .ok (.iload_n 1, 1) := by decide +kernel
theorem d_Kind_builds_74 : decode b_Kind_builds 74 = .ok (.ireturn, 1) := by decide +kernel
abbrev b_Kind_fades : ByteArray := prog_3_method_5_code
def y_Kind_fades : MethodName := ⟨"RoundAndRound$Kind", "fades", "(II)I"⟩
theorem d_Kind_fades_0 : decode b_Kind_fades 0 = .ok (.iload_n 1, 1) := by decide +kernel
theorem d_Kind_fades_1 : decode b_Kind_fades 1 = .ok (.iconst 5, 1) := by decide +kernel
theorem d_Kind_fades_2 : decode b_Kind_fades 2 = .ok (.iadd, 1) := by decide +kernel
theorem d_Kind_fades_3 : decode b_Kind_fades 3 = .ok (.istore_n 2, 1) := by decide +kernel
theorem d_Kind_fades_4 : decode b_Kind_fades 4 = .ok (.iload_n 0, 1) := by decide +kernel
theorem d_Kind_fades_5 : decode b_Kind_fades 5 = .ok (.iconst 2, 1) := by decide +kernel
theorem d_Kind_fades_6 : decode b_Kind_fades 6 = .ok (.if_icmp .ne 7, 3) := by decide +kernel
theorem d_Kind_fades_9 : decode b_Kind_fades 9 = .ok (.iload_n 2, 1) := by decide +kernel
theorem d_Kind_fades_10 : decode b_Kind_fades 10 = .ok (.goto 15, 3) := by decide +kernel
theorem d_Kind_fades_13 : decode b_Kind_fades 13 = .ok (.iload_n 0, 1) := by decide +kernel
theorem d_Kind_fades_14 : decode b_Kind_fades 14 = .ok (.iconst 4, 1) := by decide +kernel
theorem d_Kind_fades_15 : decode b_Kind_fades 15 = .ok (.if_icmp .ne 9, 3) := by decide +kernel
theorem d_Kind_fades_18 : decode b_Kind_fades 18 = .ok (.iload_n 2, 1) := by decide +kernel
theorem d_Kind_fades_19 : decode b_Kind_fades 19 = .ok (.iconst 3, 1) := by decide +kernel
theorem d_Kind_fades_20 : decode b_Kind_fades 20 = .ok (.idiv, 1) := by decide +kernel
theorem d_Kind_fades_21 : decode b_Kind_fades 21 = .ok (.goto 4, 3) := by decide +kernel
theorem d_Kind_fades_24 : decode b_Kind_fades 24 = .ok (.iload_n 1, 1) := by decide +kernel
theorem d_Kind_fades_25 : decode b_Kind_fades 25 = .ok (.istore_n 3, 1) := by decide +kernel
theorem d_Kind_fades_26 : decode b_Kind_fades 26 = .ok (.iload_n 3, 1) := by decide +kernel
theorem d_Kind_fades_27 : decode b_Kind_fades 27 = .ok (.iconst 0, 1) := by decide +kernel
theorem d_Kind_fades_28 : decode b_Kind_fades 28 = .ok (.bipush (100), 2) := by decide +kernel
theorem d_Kind_fades_30 : decode b_Kind_fades 30 = .ok (.invokestatic 21, 3) := by decide +kernel
theorem d_Kind_fades_33 : decode b_Kind_fades 33 = .ok (.ireturn, 1) := by decide +kernel
abbrev b_Kind_fallsFrom : ByteArray := prog_3_method_6_code
def y_Kind_fallsFrom : MethodName := ⟨"RoundAndRound$Kind", "fallsFrom", "(II)I"⟩
theorem d_Kind_fallsFrom_0 : decode b_Kind_fallsFrom 0 = .ok (.iload_n 0, 1) := by decide +kernel
theorem d_Kind_fallsFrom_1 : decode b_Kind_fallsFrom 1 = .ok (.tableswitch 44 (1) (4) #[31, 44, 31, 40], 31) := by decide +kernel
theorem d_Kind_fallsFrom_32 : decode b_Kind_fallsFrom 32 = .ok (.sipush (800), 3) := by decide +kernel
theorem d_Kind_fallsFrom_35 : decode b_Kind_fallsFrom 35 = .ok (.bipush (20), 2) := by decide +kernel
theorem d_Kind_fallsFrom_37 : decode b_Kind_fallsFrom 37 = .ok (.iload_n 1, 1) := by decide +kernel
theorem d_Kind_fallsFrom_38 : decode b_Kind_fallsFrom 38 = .ok (.imul, 1) := by decide +kernel
theorem d_Kind_fallsFrom_39 : decode b_Kind_fallsFrom 39 = .ok (.iadd, 1) := by decide +kernel
theorem d_Kind_fallsFrom_40 : decode b_Kind_fallsFrom 40 = .ok (.ireturn, 1) := by decide +kernel
theorem d_Kind_fallsFrom_41 : decode b_Kind_fallsFrom 41 = .ok (.sipush (400), 3) := by decide +kernel
theorem d_Kind_fallsFrom_44 : decode b_Kind_fallsFrom 44 = .ok (.ireturn, 1) := by decide +kernel
theorem d_Kind_fallsFrom_45 : decode b_Kind_fallsFrom 45 = .ok (.sipush (800), 3) := by decide +kernel
theorem d_Kind_fallsFrom_48 : decode b_Kind_fallsFrom 48 = .ok (.ireturn, 1) := by decide +kernel
end
section
abbrev b_Model_init : ByteArray := prog_8_method_1_code
def y_Model_init : MethodName := ⟨"RoundAndRoundModel", "<init>", "()V"⟩
theorem d_Model_init_0 : decode b_Model_init 0 = .ok (.aload_n 0, 1) := by decide +kernel
theorem d_Model_init_1 : decode b_Model_init 1 = .ok (.invokespecial 1, 3) := by decide +kernel
theorem d_Model_init_4 : decode b_Model_init 4 = .ok (.aload_n 0, 1) := by decide +kernel
theorem d_Model_init_5 : decode b_Model_init 5 = .ok (.iconst 5, 1) := by decide +kernel
theorem d_Model_init_6 : decode b_Model_init 6 = .ok (.newarray .int, 2) := by decide +kernel
theorem d_Model_init_8 : decode b_Model_init 8 = .ok (.putfield 7, 3) := by decide +kernel
theorem d_Model_init_11 : decode b_Model_init 11 = .ok (.aload_n 0, 1) := by decide +kernel
theorem d_Model_init_12 : decode b_Model_init 12 = .ok (.iconst 5, 1) := by decide +kernel
theorem d_Model_init_13 : decode b_Model_init 13 = .ok (.newarray .int, 2) := by decide +kernel
theorem d_Model_init_15 : decode b_Model_init 15 = .ok (.putfield 13, 3) := by decide +kernel
theorem d_Model_init_18 : decode b_Model_init 18 = .ok (.aload_n 0, 1) := by decide +kernel
theorem d_Model_init_19 : decode b_Model_init 19 = .ok (.bipush (30), 2) := by decide +kernel
theorem d_Model_init_21 : decode b_Model_init 21 = .ok (.newarray .int, 2) := by decide +kernel
theorem d_Model_init_23 : decode b_Model_init 23 = .ok (.putfield 16, 3) := by decide +kernel
theorem d_Model_init_26 : decode b_Model_init 26 = .ok (.aload_n 0, 1) := by decide +kernel
theorem d_Model_init_27 : decode b_Model_init 27 = .ok (.sipush (160), 3) := by decide +kernel
theorem d_Model_init_30 : decode b_Model_init 30 = .ok (.newarray .int, 2) := by decide +kernel
theorem d_Model_init_32 : decode b_Model_init 32 = .ok (.putfield 19, 3) := by decide +kernel
theorem d_Model_init_35 : decode b_Model_init 35 = .ok (.aload_n 0, 1) := by decide +kernel
theorem d_Model_init_36 : decode b_Model_init 36 = .ok (.sipush (1200), 3) := by decide +kernel
theorem d_Model_init_39 : decode b_Model_init 39 = .ok (.newarray .int, 2) := by decide +kernel
theorem d_Model_init_41 : decode b_Model_init 41 = .ok (.putfield 22, 3) := by decide +kernel
theorem d_Model_init_44 : decode b_Model_init 44 = .ok (.aload_n 0, 1) := by decide +kernel
theorem d_Model_init_45 : decode b_Model_init 45 = .ok (.bipush (24), 2) := by decide +kernel
theorem d_Model_init_47 : decode b_Model_init 47 = .ok (.newarray .int, 2) := by decide +kernel
theorem d_Model_init_49 : decode b_Model_init 49 = .ok (.putfield 25, 3) := by decide +kernel
theorem d_Model_init_52 : decode b_Model_init 52 = .ok (.aload_n 0, 1) := by decide +kernel
theorem d_Model_init_53 : decode b_Model_init 53 = .ok (.bipush (30), 2) := by decide +kernel
theorem d_Model_init_55 : decode b_Model_init 55 = .ok (.newarray .int, 2) := by decide +kernel
theorem d_Model_init_57 : decode b_Model_init 57 = .ok (.putfield 28, 3) := by decide +kernel
theorem d_Model_init_60 : decode b_Model_init 60 = .ok (.aload_n 0, 1) := by decide +kernel
theorem d_Model_init_61 : decode b_Model_init 61 = .ok (.iconst 4, 1) := by decide +kernel
theorem d_Model_init_62 : decode b_Model_init 62 = .ok (.newarray .int, 2) := by decide +kernel
theorem d_Model_init_64 : decode b_Model_init 64 = .ok (.dup, 1) := by decide +kernel
theorem d_Model_init_65 : decode b_Model_init 65 = .ok (.iconst 0, 1) := by decide +kernel
theorem d_Model_init_66 : decode b_Model_init 66 = .ok (.iconst (-1), 1) := by decide +kernel
theorem d_Model_init_67 : decode b_Model_init 67 = .ok (.iastore, 1) := by decide +kernel
theorem d_Model_init_68 : decode b_Model_init 68 = .ok (.dup, 1) := by decide +kernel
theorem d_Model_init_69 : decode b_Model_init 69 = .ok (.iconst 1, 1) := by decide +kernel
theorem d_Model_init_70 : decode b_Model_init 70 = .ok (.iconst (-1), 1) := by decide +kernel
theorem d_Model_init_71 : decode b_Model_init 71 = .ok (.iastore, 1) := by decide +kernel
theorem d_Model_init_72 : decode b_Model_init 72 = .ok (.dup, 1) := by decide +kernel
theorem d_Model_init_73 : decode b_Model_init 73 = .ok (.iconst 2, 1) := by decide +kernel
theorem d_Model_init_74 : decode b_Model_init 74 = .ok (.iconst (-1), 1) := by decide +kernel
theorem d_Model_init_75 : decode b_Model_init 75 = .ok (.iastore, 1) := by decide +kernel
theorem d_Model_init_76 : decode b_Model_init 76 = .ok (.dup, 1) := by decide +kernel
theorem d_Model_init_77 : decode b_Model_init 77 = .ok (.iconst 3, 1) := by decide +kernel
theorem d_Model_init_78 : decode b_Model_init 78 = .ok (.iconst (-1), 1) := by decide +kernel
theorem d_Model_init_79 : decode b_Model_init 79 = .ok (.iastore, 1) := by decide +kernel
theorem d_Model_init_80 : decode b_Model_init 80 = .ok (.putfield 31, 3) := by decide +kernel
theorem d_Model_init_83 : decode b_Model_init 83 = .ok (.aload_n 0, 1) := by decide +kernel
theorem d_Model_init_84 : decode b_Model_init 84 = .ok (.iconst 4, 1) := by decide +kernel
theorem d_Model_init_85 : decode b_Model_init 85 = .ok (.newarray .int, 2) := by decide +kernel
theorem d_Model_init_87 : decode b_Model_init 87 = .ok (.putfield 34, 3) := by decide +kernel
theorem d_Model_init_90 : decode b_Model_init 90 = .ok (.aload_n 0, 1) := by decide +kernel
theorem d_Model_init_91 : decode b_Model_init 91 = .ok (.sipush (160), 3) := by decide +kernel
theorem d_Model_init_94 : decode b_Model_init 94 = .ok (.newarray .int, 2) := by decide +kernel
theorem d_Model_init_96 : decode b_Model_init 96 = .ok (.putfield 37, 3) := by decide +kernel
theorem d_Model_init_99 : decode b_Model_init 99 = .ok (.aload_n 0, 1) := by decide +kernel
theorem d_Model_init_100 : decode b_Model_init 100 = .ok (.bipush (47), 2) := by decide +kernel
theorem d_Model_init_102 : decode b_Model_init 102 = .ok (.newarray .int, 2) := by decide +kernel
theorem d_Model_init_104 : decode b_Model_init 104 = .ok (.dup, 1) := by decide +kernel
theorem d_Model_init_105 : decode b_Model_init 105 = .ok (.iconst 0, 1) := by decide +kernel
theorem d_Model_init_106 : decode b_Model_init 106 = .ok (.bipush (98), 2) := by decide +kernel
theorem d_Model_init_108 : decode b_Model_init 108 = .ok (.iastore, 1) := by decide +kernel
theorem d_Model_init_109 : decode b_Model_init 109 = .ok (.dup, 1) := by decide +kernel
theorem d_Model_init_110 : decode b_Model_init 110 = .ok (.iconst 1, 1) := by decide +kernel
theorem d_Model_init_111 : decode b_Model_init 111 = .ok (.bipush (117), 2) := by decide +kernel
theorem d_Model_init_113 : decode b_Model_init 113 = .ok (.iastore, 1) := by decide +kernel
theorem d_Model_init_114 : decode b_Model_init 114 = .ok (.dup, 1) := by decide +kernel
theorem d_Model_init_115 : decode b_Model_init 115 = .ok (.iconst 2, 1) := by decide +kernel
theorem d_Model_init_116 : decode b_Model_init 116 = .ok (.bipush (105), 2) := by decide +kernel
theorem d_Model_init_118 : decode b_Model_init 118 = .ok (.iastore, 1) := by decide +kernel
theorem d_Model_init_119 : decode b_Model_init 119 = .ok (.dup, 1) := by decide +kernel
theorem d_Model_init_120 : decode b_Model_init 120 = .ok (.iconst 3, 1) := by decide +kernel
theorem d_Model_init_121 : decode b_Model_init 121 = .ok (.bipush (108), 2) := by decide +kernel
theorem d_Model_init_123 : decode b_Model_init 123 = .ok (.iastore, 1) := by decide +kernel
theorem d_Model_init_124 : decode b_Model_init 124 = .ok (.dup, 1) := by decide +kernel
theorem d_Model_init_125 : decode b_Model_init 125 = .ok (.iconst 4, 1) := by decide +kernel
theorem d_Model_init_126 : decode b_Model_init 126 = .ok (.bipush (100), 2) := by decide +kernel
theorem d_Model_init_128 : decode b_Model_init 128 = .ok (.iastore, 1) := by decide +kernel
theorem d_Model_init_129 : decode b_Model_init 129 = .ok (.dup, 1) := by decide +kernel
theorem d_Model_init_130 : decode b_Model_init 130 = .ok (.iconst 5, 1) := by decide +kernel
theorem d_Model_init_131 : decode b_Model_init 131 = .ok (.bipush (115), 2) := by decide +kernel
theorem d_Model_init_133 : decode b_Model_init 133 = .ok (.iastore, 1) := by decide +kernel
theorem d_Model_init_134 : decode b_Model_init 134 = .ok (.dup, 1) := by decide +kernel
theorem d_Model_init_135 : decode b_Model_init 135 = .ok (.bipush (6), 2) := by decide +kernel
theorem d_Model_init_137 : decode b_Model_init 137 = .ok (.bipush (32), 2) := by decide +kernel
theorem d_Model_init_139 : decode b_Model_init 139 = .ok (.iastore, 1) := by decide +kernel
theorem d_Model_init_140 : decode b_Model_init 140 = .ok (.dup, 1) := by decide +kernel
theorem d_Model_init_141 : decode b_Model_init 141 = .ok (.bipush (7), 2) := by decide +kernel
theorem d_Model_init_143 : decode b_Model_init 143 = .ok (.bipush (50), 2) := by decide +kernel
theorem d_Model_init_145 : decode b_Model_init 145 = .ok (.iastore, 1) := by decide +kernel
theorem d_Model_init_146 : decode b_Model_init 146 = .ok (.dup, 1) := by decide +kernel
theorem d_Model_init_147 : decode b_Model_init 147 = .ok (.bipush (8), 2) := by decide +kernel
theorem d_Model_init_149 : decode b_Model_init 149 = .ok (.bipush (48), 2) := by decide +kernel
theorem d_Model_init_151 : decode b_Model_init 151 = .ok (.iastore, 1) := by decide +kernel
theorem d_Model_init_152 : decode b_Model_init 152 = .ok (.dup, 1) := by decide +kernel
theorem d_Model_init_153 : decode b_Model_init 153 = .ok (.bipush (9), 2) := by decide +kernel
theorem d_Model_init_155 : decode b_Model_init 155 = .ok (.bipush (32), 2) := by decide +kernel
theorem d_Model_init_157 : decode b_Model_init 157 = .ok (.iastore, 1) := by decide +kernel
theorem d_Model_init_158 : decode b_Model_init 158 = .ok (.dup, 1) := by decide +kernel
theorem d_Model_init_159 : decode b_Model_init 159 = .ok (.bipush (10), 2) := by decide +kernel
theorem d_Model_init_161 : decode b_Model_init 161 = .ok (.bipush (43), 2) := by decide +kernel
theorem d_Model_init_163 : decode b_Model_init 163 = .ok (.iastore, 1) := by decide +kernel
theorem d_Model_init_164 : decode b_Model_init 164 = .ok (.dup, 1) := by decide +kernel
theorem d_Model_init_165 : decode b_Model_init 165 = .ok (.bipush (11), 2) := by decide +kernel
theorem d_Model_init_167 : decode b_Model_init 167 = .ok (.bipush (32), 2) := by decide +kernel
theorem d_Model_init_169 : decode b_Model_init 169 = .ok (.iastore, 1) := by decide +kernel
theorem d_Model_init_170 : decode b_Model_init 170 = .ok (.dup, 1) := by decide +kernel
theorem d_Model_init_171 : decode b_Model_init 171 = .ok (.bipush (12), 2) := by decide +kernel
theorem d_Model_init_173 : decode b_Model_init 173 = .ok (.bipush (115), 2) := by decide +kernel
theorem d_Model_init_175 : decode b_Model_init 175 = .ok (.iastore, 1) := by decide +kernel
theorem d_Model_init_176 : decode b_Model_init 176 = .ok (.dup, 1) := by decide +kernel
theorem d_Model_init_177 : decode b_Model_init 177 = .ok (.bipush (13), 2) := by decide +kernel
theorem d_Model_init_179 : decode b_Model_init 179 = .ok (.bipush (112), 2) := by decide +kernel
theorem d_Model_init_181 : decode b_Model_init 181 = .ok (.iastore, 1) := by decide +kernel
theorem d_Model_init_182 : decode b_Model_init 182 = .ok (.dup, 1) := by decide +kernel
theorem d_Model_init_183 : decode b_Model_init 183 = .ok (.bipush (14), 2) := by decide +kernel
theorem d_Model_init_185 : decode b_Model_init 185 = .ok (.bipush (101), 2) := by decide +kernel
theorem d_Model_init_187 : decode b_Model_init 187 = .ok (.iastore, 1) := by decide +kernel
theorem d_Model_init_188 : decode b_Model_init 188 = .ok (.dup, 1) := by decide +kernel
theorem d_Model_init_189 : decode b_Model_init 189 = .ok (.bipush (15), 2) := by decide +kernel
theorem d_Model_init_191 : decode b_Model_init 191 = .ok (.bipush (101), 2) := by decide +kernel
theorem d_Model_init_193 : decode b_Model_init 193 = .ok (.iastore, 1) := by decide +kernel
theorem d_Model_init_194 : decode b_Model_init 194 = .ok (.dup, 1) := by decide +kernel
theorem d_Model_init_195 : decode b_Model_init 195 = .ok (.bipush (16), 2) := by decide +kernel
theorem d_Model_init_197 : decode b_Model_init 197 = .ok (.bipush (100), 2) := by decide +kernel
theorem d_Model_init_199 : decode b_Model_init 199 = .ok (.iastore, 1) := by decide +kernel
theorem d_Model_init_200 : decode b_Model_init 200 = .ok (.dup, 1) := by decide +kernel
theorem d_Model_init_201 : decode b_Model_init 201 = .ok (.bipush (17), 2) := by decide +kernel
theorem d_Model_init_203 : decode b_Model_init 203 = .ok (.bipush (32), 2) := by decide +kernel
theorem d_Model_init_205 : decode b_Model_init 205 = .ok (.iastore, 1) := by decide +kernel
theorem d_Model_init_206 : decode b_Model_init 206 = .ok (.dup, 1) := by decide +kernel
theorem d_Model_init_207 : decode b_Model_init 207 = .ok (.bipush (18), 2) := by decide +kernel
theorem d_Model_init_209 : decode b_Model_init 209 = .ok (.bipush (42), 2) := by decide +kernel
theorem d_Model_init_211 : decode b_Model_init 211 = .ok (.iastore, 1) := by decide +kernel
theorem d_Model_init_212 : decode b_Model_init 212 = .ok (.dup, 1) := by decide +kernel
theorem d_Model_init_213 : decode b_Model_init 213 = .ok (.bipush (19), 2) := by decide +kernel
theorem d_Model_init_215 : decode b_Model_init 215 = .ok (.bipush (32), 2) := by decide +kernel
theorem d_Model_init_217 : decode b_Model_init 217 = .ok (.iastore, 1) := by decide +kernel
theorem d_Model_init_218 : decode b_Model_init 218 = .ok (.dup, 1) := by decide +kernel
theorem d_Model_init_219 : decode b_Model_init 219 = .ok (.bipush (20), 2) := by decide +kernel
theorem d_Model_init_221 : decode b_Model_init 221 = .ok (.bipush (49), 2) := by decide +kernel
theorem d_Model_init_223 : decode b_Model_init 223 = .ok (.iastore, 1) := by decide +kernel
theorem d_Model_init_224 : decode b_Model_init 224 = .ok (.dup, 1) := by decide +kernel
theorem d_Model_init_225 : decode b_Model_init 225 = .ok (.bipush (21), 2) := by decide +kernel
theorem d_Model_init_227 : decode b_Model_init 227 = .ok (.bipush (48), 2) := by decide +kernel
theorem d_Model_init_229 : decode b_Model_init 229 = .ok (.iastore, 1) := by decide +kernel
theorem d_Model_init_230 : decode b_Model_init 230 = .ok (.dup, 1) := by decide +kernel
theorem d_Model_init_231 : decode b_Model_init 231 = .ok (.bipush (22), 2) := by decide +kernel
theorem d_Model_init_233 : decode b_Model_init 233 = .ok (.bipush (32), 2) := by decide +kernel
theorem d_Model_init_235 : decode b_Model_init 235 = .ok (.iastore, 1) := by decide +kernel
theorem d_Model_init_236 : decode b_Model_init 236 = .ok (.dup, 1) := by decide +kernel
theorem d_Model_init_237 : decode b_Model_init 237 = .ok (.bipush (23), 2) := by decide +kernel
theorem d_Model_init_239 : decode b_Model_init 239 = .ok (.bipush (59), 2) := by decide +kernel
theorem d_Model_init_241 : decode b_Model_init 241 = .ok (.iastore, 1) := by decide +kernel
theorem d_Model_init_242 : decode b_Model_init 242 = .ok (.dup, 1) := by decide +kernel
theorem d_Model_init_243 : decode b_Model_init 243 = .ok (.bipush (24), 2) := by decide +kernel
theorem d_Model_init_245 : decode b_Model_init 245 = .ok (.bipush (32), 2) := by decide +kernel
theorem d_Model_init_247 : decode b_Model_init 247 = .ok (.iastore, 1) := by decide +kernel
theorem d_Model_init_248 : decode b_Model_init 248 = .ok (.dup, 1) := by decide +kernel
theorem d_Model_init_249 : decode b_Model_init 249 = .ok (.bipush (25), 2) := by decide +kernel
theorem d_Model_init_251 : decode b_Model_init 251 = .ok (.bipush (102), 2) := by decide +kernel
theorem d_Model_init_253 : decode b_Model_init 253 = .ok (.iastore, 1) := by decide +kernel
theorem d_Model_init_254 : decode b_Model_init 254 = .ok (.dup, 1) := by decide +kernel
theorem d_Model_init_255 : decode b_Model_init 255 = .ok (.bipush (26), 2) := by decide +kernel
theorem d_Model_init_257 : decode b_Model_init 257 = .ok (.bipush (97), 2) := by decide +kernel
theorem d_Model_init_259 : decode b_Model_init 259 = .ok (.iastore, 1) := by decide +kernel
theorem d_Model_init_260 : decode b_Model_init 260 = .ok (.dup, 1) := by decide +kernel
theorem d_Model_init_261 : decode b_Model_init 261 = .ok (.bipush (27), 2) := by decide +kernel
theorem d_Model_init_263 : decode b_Model_init 263 = .ok (.bipush (100), 2) := by decide +kernel
theorem d_Model_init_265 : decode b_Model_init 265 = .ok (.iastore, 1) := by decide +kernel
theorem d_Model_init_266 : decode b_Model_init 266 = .ok (.dup, 1) := by decide +kernel
theorem d_Model_init_267 : decode b_Model_init 267 = .ok (.bipush (28), 2) := by decide +kernel
theorem d_Model_init_269 : decode b_Model_init 269 = .ok (.bipush (101), 2) := by decide +kernel
theorem d_Model_init_271 : decode b_Model_init 271 = .ok (.iastore, 1) := by decide +kernel
theorem d_Model_init_272 : decode b_Model_init 272 = .ok (.dup, 1) := by decide +kernel
theorem d_Model_init_273 : decode b_Model_init 273 = .ok (.bipush (29), 2) := by decide +kernel
theorem d_Model_init_275 : decode b_Model_init 275 = .ok (.bipush (115), 2) := by decide +kernel
theorem d_Model_init_277 : decode b_Model_init 277 = .ok (.iastore, 1) := by decide +kernel
theorem d_Model_init_278 : decode b_Model_init 278 = .ok (.dup, 1) := by decide +kernel
theorem d_Model_init_279 : decode b_Model_init 279 = .ok (.bipush (30), 2) := by decide +kernel
theorem d_Model_init_281 : decode b_Model_init 281 = .ok (.bipush (32), 2) := by decide +kernel
theorem d_Model_init_283 : decode b_Model_init 283 = .ok (.iastore, 1) := by decide +kernel
theorem d_Model_init_284 : decode b_Model_init 284 = .ok (.dup, 1) := by decide +kernel
theorem d_Model_init_285 : decode b_Model_init 285 = .ok (.bipush (31), 2) := by decide +kernel
theorem d_Model_init_287 : decode b_Model_init 287 = .ok (.bipush (49), 2) := by decide +kernel
theorem d_Model_init_289 : decode b_Model_init 289 = .ok (.iastore, 1) := by decide +kernel
theorem d_Model_init_290 : decode b_Model_init 290 = .ok (.dup, 1) := by decide +kernel
theorem d_Model_init_291 : decode b_Model_init 291 = .ok (.bipush (32), 2) := by decide +kernel
theorem d_Model_init_293 : decode b_Model_init 293 = .ok (.bipush (48), 2) := by decide +kernel
theorem d_Model_init_295 : decode b_Model_init 295 = .ok (.iastore, 1) := by decide +kernel
theorem d_Model_init_296 : decode b_Model_init 296 = .ok (.dup, 1) := by decide +kernel
theorem d_Model_init_297 : decode b_Model_init 297 = .ok (.bipush (33), 2) := by decide +kernel
theorem d_Model_init_299 : decode b_Model_init 299 = .ok (.bipush (32), 2) := by decide +kernel
theorem d_Model_init_301 : decode b_Model_init 301 = .ok (.iastore, 1) := by decide +kernel
theorem d_Model_init_302 : decode b_Model_init 302 = .ok (.dup, 1) := by decide +kernel
theorem d_Model_init_303 : decode b_Model_init 303 = .ok (.bipush (34), 2) := by decide +kernel
theorem d_Model_init_305 : decode b_Model_init 305 = .ok (.bipush (59), 2) := by decide +kernel
theorem d_Model_init_307 : decode b_Model_init 307 = .ok (.iastore, 1) := by decide +kernel
theorem d_Model_init_308 : decode b_Model_init 308 = .ok (.dup, 1) := by decide +kernel
theorem d_Model_init_309 : decode b_Model_init 309 = .ok (.bipush (35), 2) := by decide +kernel
theorem d_Model_init_311 : decode b_Model_init 311 = .ok (.bipush (32), 2) := by decide +kernel
theorem d_Model_init_313 : decode b_Model_init 313 = .ok (.iastore, 1) := by decide +kernel
theorem d_Model_init_314 : decode b_Model_init 314 = .ok (.dup, 1) := by decide +kernel
theorem d_Model_init_315 : decode b_Model_init 315 = .ok (.bipush (36), 2) := by decide +kernel
theorem d_Model_init_317 : decode b_Model_init 317 = .ok (.bipush (98), 2) := by decide +kernel
theorem d_Model_init_319 : decode b_Model_init 319 = .ok (.iastore, 1) := by decide +kernel
theorem d_Model_init_320 : decode b_Model_init 320 = .ok (.dup, 1) := by decide +kernel
theorem d_Model_init_321 : decode b_Model_init 321 = .ok (.bipush (37), 2) := by decide +kernel
theorem d_Model_init_323 : decode b_Model_init 323 = .ok (.bipush (101), 2) := by decide +kernel
theorem d_Model_init_325 : decode b_Model_init 325 = .ok (.iastore, 1) := by decide +kernel
theorem d_Model_init_326 : decode b_Model_init 326 = .ok (.dup, 1) := by decide +kernel
theorem d_Model_init_327 : decode b_Model_init 327 = .ok (.bipush (38), 2) := by decide +kernel
theorem d_Model_init_329 : decode b_Model_init 329 = .ok (.bipush (110), 2) := by decide +kernel
theorem d_Model_init_331 : decode b_Model_init 331 = .ok (.iastore, 1) := by decide +kernel
theorem d_Model_init_332 : decode b_Model_init 332 = .ok (.dup, 1) := by decide +kernel
theorem d_Model_init_333 : decode b_Model_init 333 = .ok (.bipush (39), 2) := by decide +kernel
theorem d_Model_init_335 : decode b_Model_init 335 = .ok (.bipush (100), 2) := by decide +kernel
theorem d_Model_init_337 : decode b_Model_init 337 = .ok (.iastore, 1) := by decide +kernel
theorem d_Model_init_338 : decode b_Model_init 338 = .ok (.dup, 1) := by decide +kernel
theorem d_Model_init_339 : decode b_Model_init 339 = .ok (.bipush (40), 2) := by decide +kernel
theorem d_Model_init_341 : decode b_Model_init 341 = .ok (.bipush (115), 2) := by decide +kernel
theorem d_Model_init_343 : decode b_Model_init 343 = .ok (.iastore, 1) := by decide +kernel
theorem d_Model_init_344 : decode b_Model_init 344 = .ok (.dup, 1) := by decide +kernel
theorem d_Model_init_345 : decode b_Model_init 345 = .ok (.bipush (41), 2) := by decide +kernel
theorem d_Model_init_347 : decode b_Model_init 347 = .ok (.bipush (32), 2) := by decide +kernel
theorem d_Model_init_349 : decode b_Model_init 349 = .ok (.iastore, 1) := by decide +kernel
theorem d_Model_init_350 : decode b_Model_init 350 = .ok (.dup, 1) := by decide +kernel
theorem d_Model_init_351 : decode b_Model_init 351 = .ok (.bipush (42), 2) := by decide +kernel
theorem d_Model_init_353 : decode b_Model_init 353 = .ok (.bipush (49), 2) := by decide +kernel
theorem d_Model_init_355 : decode b_Model_init 355 = .ok (.iastore, 1) := by decide +kernel
theorem d_Model_init_356 : decode b_Model_init 356 = .ok (.dup, 1) := by decide +kernel
theorem d_Model_init_357 : decode b_Model_init 357 = .ok (.bipush (43), 2) := by decide +kernel
theorem d_Model_init_359 : decode b_Model_init 359 = .ok (.bipush (48), 2) := by decide +kernel
theorem d_Model_init_361 : decode b_Model_init 361 = .ok (.iastore, 1) := by decide +kernel
theorem d_Model_init_362 : decode b_Model_init 362 = .ok (.dup, 1) := by decide +kernel
theorem d_Model_init_363 : decode b_Model_init 363 = .ok (.bipush (44), 2) := by decide +kernel
theorem d_Model_init_365 : decode b_Model_init 365 = .ok (.bipush (48), 2) := by decide +kernel
theorem d_Model_init_367 : decode b_Model_init 367 = .ok (.iastore, 1) := by decide +kernel
theorem d_Model_init_368 : decode b_Model_init 368 = .ok (.dup, 1) := by decide +kernel
theorem d_Model_init_369 : decode b_Model_init 369 = .ok (.bipush (45), 2) := by decide +kernel
theorem d_Model_init_371 : decode b_Model_init 371 = .ok (.bipush (32), 2) := by decide +kernel
theorem d_Model_init_373 : decode b_Model_init 373 = .ok (.iastore, 1) := by decide +kernel
theorem d_Model_init_374 : decode b_Model_init 374 = .ok (.dup, 1) := by decide +kernel
theorem d_Model_init_375 : decode b_Model_init 375 = .ok (.bipush (46), 2) := by decide +kernel
theorem d_Model_init_377 : decode b_Model_init 377 = .ok (.bipush (59), 2) := by decide +kernel
theorem d_Model_init_379 : decode b_Model_init 379 = .ok (.iastore, 1) := by decide +kernel
theorem d_Model_init_380 : decode b_Model_init 380 = .ok (.putfield 40, 3) := by decide +kernel
theorem d_Model_init_383 : decode b_Model_init 383 = .ok (.aload_n 0, 1) := by decide +kernel
theorem d_Model_init_384 : decode b_Model_init 384 = .ok (.bipush (96), 2) := by decide +kernel
theorem d_Model_init_386 : decode b_Model_init 386 = .ok (.newarray .int, 2) := by decide +kernel
theorem d_Model_init_388 : decode b_Model_init 388 = .ok (.dup, 1) := by decide +kernel
theorem d_Model_init_389 : decode b_Model_init 389 = .ok (.iconst 0, 1) := by decide +kernel
theorem d_Model_init_390 : decode b_Model_init 390 = .ok (.bipush (98), 2) := by decide +kernel
theorem d_Model_init_392 : decode b_Model_init 392 = .ok (.iastore, 1) := by decide +kernel
theorem d_Model_init_393 : decode b_Model_init 393 = .ok (.dup, 1) := by decide +kernel
theorem d_Model_init_394 : decode b_Model_init 394 = .ok (.iconst 1, 1) := by decide +kernel
theorem d_Model_init_395 : decode b_Model_init 395 = .ok (.bipush (117), 2) := by decide +kernel
theorem d_Model_init_397 : decode b_Model_init 397 = .ok (.iastore, 1) := by decide +kernel
theorem d_Model_init_398 : decode b_Model_init 398 = .ok (.dup, 1) := by decide +kernel
theorem d_Model_init_399 : decode b_Model_init 399 = .ok (.iconst 2, 1) := by decide +kernel
theorem d_Model_init_400 : decode b_Model_init 400 = .ok (.bipush (105), 2) := by decide +kernel
theorem d_Model_init_402 : decode b_Model_init 402 = .ok (.iastore, 1) := by decide +kernel
theorem d_Model_init_403 : decode b_Model_init 403 = .ok (.dup, 1) := by decide +kernel
theorem d_Model_init_404 : decode b_Model_init 404 = .ok (.iconst 3, 1) := by decide +kernel
theorem d_Model_init_405 : decode b_Model_init 405 = .ok (.bipush (108), 2) := by decide +kernel
theorem d_Model_init_407 : decode b_Model_init 407 = .ok (.iastore, 1) := by decide +kernel
theorem d_Model_init_408 : decode b_Model_init 408 = .ok (.dup, 1) := by decide +kernel
theorem d_Model_init_409 : decode b_Model_init 409 = .ok (.iconst 4, 1) := by decide +kernel
theorem d_Model_init_410 : decode b_Model_init 410 = .ok (.bipush (100), 2) := by decide +kernel
theorem d_Model_init_412 : decode b_Model_init 412 = .ok (.iastore, 1) := by decide +kernel
theorem d_Model_init_413 : decode b_Model_init 413 = .ok (.dup, 1) := by decide +kernel
theorem d_Model_init_414 : decode b_Model_init 414 = .ok (.iconst 5, 1) := by decide +kernel
theorem d_Model_init_415 : decode b_Model_init 415 = .ok (.bipush (115), 2) := by decide +kernel
theorem d_Model_init_417 : decode b_Model_init 417 = .ok (.iastore, 1) := by decide +kernel
theorem d_Model_init_418 : decode b_Model_init 418 = .ok (.dup, 1) := by decide +kernel
theorem d_Model_init_419 : decode b_Model_init 419 = .ok (.bipush (6), 2) := by decide +kernel
theorem d_Model_init_421 : decode b_Model_init 421 = .ok (.bipush (32), 2) := by decide +kernel
theorem d_Model_init_423 : decode b_Model_init 423 = .ok (.iastore, 1) := by decide +kernel
theorem d_Model_init_424 : decode b_Model_init 424 = .ok (.dup, 1) := by decide +kernel
theorem d_Model_init_425 : decode b_Model_init 425 = .ok (.bipush (7), 2) := by decide +kernel
theorem d_Model_init_427 : decode b_Model_init 427 = .ok (.bipush (32), 2) := by decide +kernel
theorem d_Model_init_429 : decode b_Model_init 429 = .ok (.iastore, 1) := by decide +kernel
theorem d_Model_init_430 : decode b_Model_init 430 = .ok (.dup, 1) := by decide +kernel
theorem d_Model_init_431 : decode b_Model_init 431 = .ok (.bipush (8), 2) := by decide +kernel
theorem d_Model_init_433 : decode b_Model_init 433 = .ok (.bipush (102), 2) := by decide +kernel
theorem d_Model_init_435 : decode b_Model_init 435 = .ok (.iastore, 1) := by decide +kernel
theorem d_Model_init_436 : decode b_Model_init 436 = .ok (.dup, 1) := by decide +kernel
theorem d_Model_init_437 : decode b_Model_init 437 = .ok (.bipush (9), 2) := by decide +kernel
theorem d_Model_init_439 : decode b_Model_init 439 = .ok (.bipush (97), 2) := by decide +kernel
theorem d_Model_init_441 : decode b_Model_init 441 = .ok (.iastore, 1) := by decide +kernel
theorem d_Model_init_442 : decode b_Model_init 442 = .ok (.dup, 1) := by decide +kernel
theorem d_Model_init_443 : decode b_Model_init 443 = .ok (.bipush (10), 2) := by decide +kernel
theorem d_Model_init_445 : decode b_Model_init 445 = .ok (.bipush (100), 2) := by decide +kernel
theorem d_Model_init_447 : decode b_Model_init 447 = .ok (.iastore, 1) := by decide +kernel
theorem d_Model_init_448 : decode b_Model_init 448 = .ok (.dup, 1) := by decide +kernel
theorem d_Model_init_449 : decode b_Model_init 449 = .ok (.bipush (11), 2) := by decide +kernel
theorem d_Model_init_451 : decode b_Model_init 451 = .ok (.bipush (101), 2) := by decide +kernel
theorem d_Model_init_453 : decode b_Model_init 453 = .ok (.iastore, 1) := by decide +kernel
theorem d_Model_init_454 : decode b_Model_init 454 = .ok (.dup, 1) := by decide +kernel
theorem d_Model_init_455 : decode b_Model_init 455 = .ok (.bipush (12), 2) := by decide +kernel
theorem d_Model_init_457 : decode b_Model_init 457 = .ok (.bipush (115), 2) := by decide +kernel
theorem d_Model_init_459 : decode b_Model_init 459 = .ok (.iastore, 1) := by decide +kernel
theorem d_Model_init_460 : decode b_Model_init 460 = .ok (.dup, 1) := by decide +kernel
theorem d_Model_init_461 : decode b_Model_init 461 = .ok (.bipush (13), 2) := by decide +kernel
theorem d_Model_init_463 : decode b_Model_init 463 = .ok (.bipush (32), 2) := by decide +kernel
theorem d_Model_init_465 : decode b_Model_init 465 = .ok (.iastore, 1) := by decide +kernel
theorem d_Model_init_466 : decode b_Model_init 466 = .ok (.dup, 1) := by decide +kernel
theorem d_Model_init_467 : decode b_Model_init 467 = .ok (.bipush (14), 2) := by decide +kernel
theorem d_Model_init_469 : decode b_Model_init 469 = .ok (.bipush (32), 2) := by decide +kernel
theorem d_Model_init_471 : decode b_Model_init 471 = .ok (.iastore, 1) := by decide +kernel
theorem d_Model_init_472 : decode b_Model_init 472 = .ok (.dup, 1) := by decide +kernel
theorem d_Model_init_473 : decode b_Model_init 473 = .ok (.bipush (15), 2) := by decide +kernel
theorem d_Model_init_475 : decode b_Model_init 475 = .ok (.bipush (32), 2) := by decide +kernel
theorem d_Model_init_477 : decode b_Model_init 477 = .ok (.iastore, 1) := by decide +kernel
theorem d_Model_init_478 : decode b_Model_init 478 = .ok (.dup, 1) := by decide +kernel
theorem d_Model_init_479 : decode b_Model_init 479 = .ok (.bipush (16), 2) := by decide +kernel
theorem d_Model_init_481 : decode b_Model_init 481 = .ok (.bipush (98), 2) := by decide +kernel
theorem d_Model_init_483 : decode b_Model_init 483 = .ok (.iastore, 1) := by decide +kernel
theorem d_Model_init_484 : decode b_Model_init 484 = .ok (.dup, 1) := by decide +kernel
theorem d_Model_init_485 : decode b_Model_init 485 = .ok (.bipush (17), 2) := by decide +kernel
theorem d_Model_init_487 : decode b_Model_init 487 = .ok (.bipush (101), 2) := by decide +kernel
theorem d_Model_init_489 : decode b_Model_init 489 = .ok (.iastore, 1) := by decide +kernel
theorem d_Model_init_490 : decode b_Model_init 490 = .ok (.dup, 1) := by decide +kernel
theorem d_Model_init_491 : decode b_Model_init 491 = .ok (.bipush (18), 2) := by decide +kernel
theorem d_Model_init_493 : decode b_Model_init 493 = .ok (.bipush (110), 2) := by decide +kernel
theorem d_Model_init_495 : decode b_Model_init 495 = .ok (.iastore, 1) := by decide +kernel
theorem d_Model_init_496 : decode b_Model_init 496 = .ok (.dup, 1) := by decide +kernel
theorem d_Model_init_497 : decode b_Model_init 497 = .ok (.bipush (19), 2) := by decide +kernel
theorem d_Model_init_499 : decode b_Model_init 499 = .ok (.bipush (100), 2) := by decide +kernel
theorem d_Model_init_501 : decode b_Model_init 501 = .ok (.iastore, 1) := by decide +kernel
theorem d_Model_init_502 : decode b_Model_init 502 = .ok (.dup, 1) := by decide +kernel
theorem d_Model_init_503 : decode b_Model_init 503 = .ok (.bipush (20), 2) := by decide +kernel
theorem d_Model_init_505 : decode b_Model_init 505 = .ok (.bipush (115), 2) := by decide +kernel
theorem d_Model_init_507 : decode b_Model_init 507 = .ok (.iastore, 1) := by decide +kernel
theorem d_Model_init_508 : decode b_Model_init 508 = .ok (.dup, 1) := by decide +kernel
theorem d_Model_init_509 : decode b_Model_init 509 = .ok (.bipush (21), 2) := by decide +kernel
theorem d_Model_init_511 : decode b_Model_init 511 = .ok (.bipush (32), 2) := by decide +kernel
theorem d_Model_init_513 : decode b_Model_init 513 = .ok (.iastore, 1) := by decide +kernel
theorem d_Model_init_514 : decode b_Model_init 514 = .ok (.dup, 1) := by decide +kernel
theorem d_Model_init_515 : decode b_Model_init 515 = .ok (.bipush (22), 2) := by decide +kernel
theorem d_Model_init_517 : decode b_Model_init 517 = .ok (.bipush (32), 2) := by decide +kernel
theorem d_Model_init_519 : decode b_Model_init 519 = .ok (.iastore, 1) := by decide +kernel
theorem d_Model_init_520 : decode b_Model_init 520 = .ok (.dup, 1) := by decide +kernel
theorem d_Model_init_521 : decode b_Model_init 521 = .ok (.bipush (23), 2) := by decide +kernel
theorem d_Model_init_523 : decode b_Model_init 523 = .ok (.bipush (32), 2) := by decide +kernel
theorem d_Model_init_525 : decode b_Model_init 525 = .ok (.iastore, 1) := by decide +kernel
theorem d_Model_init_526 : decode b_Model_init 526 = .ok (.dup, 1) := by decide +kernel
theorem d_Model_init_527 : decode b_Model_init 527 = .ok (.bipush (24), 2) := by decide +kernel
theorem d_Model_init_529 : decode b_Model_init 529 = .ok (.bipush (115), 2) := by decide +kernel
theorem d_Model_init_531 : decode b_Model_init 531 = .ok (.iastore, 1) := by decide +kernel
theorem d_Model_init_532 : decode b_Model_init 532 = .ok (.dup, 1) := by decide +kernel
theorem d_Model_init_533 : decode b_Model_init 533 = .ok (.bipush (25), 2) := by decide +kernel
theorem d_Model_init_535 : decode b_Model_init 535 = .ok (.bipush (112), 2) := by decide +kernel
theorem d_Model_init_537 : decode b_Model_init 537 = .ok (.iastore, 1) := by decide +kernel
theorem d_Model_init_538 : decode b_Model_init 538 = .ok (.dup, 1) := by decide +kernel
theorem d_Model_init_539 : decode b_Model_init 539 = .ok (.bipush (26), 2) := by decide +kernel
theorem d_Model_init_541 : decode b_Model_init 541 = .ok (.bipush (101), 2) := by decide +kernel
theorem d_Model_init_543 : decode b_Model_init 543 = .ok (.iastore, 1) := by decide +kernel
theorem d_Model_init_544 : decode b_Model_init 544 = .ok (.dup, 1) := by decide +kernel
theorem d_Model_init_545 : decode b_Model_init 545 = .ok (.bipush (27), 2) := by decide +kernel
theorem d_Model_init_547 : decode b_Model_init 547 = .ok (.bipush (101), 2) := by decide +kernel
theorem d_Model_init_549 : decode b_Model_init 549 = .ok (.iastore, 1) := by decide +kernel
theorem d_Model_init_550 : decode b_Model_init 550 = .ok (.dup, 1) := by decide +kernel
theorem d_Model_init_551 : decode b_Model_init 551 = .ok (.bipush (28), 2) := by decide +kernel
theorem d_Model_init_553 : decode b_Model_init 553 = .ok (.bipush (100), 2) := by decide +kernel
theorem d_Model_init_555 : decode b_Model_init 555 = .ok (.iastore, 1) := by decide +kernel
theorem d_Model_init_556 : decode b_Model_init 556 = .ok (.dup, 1) := by decide +kernel
theorem d_Model_init_557 : decode b_Model_init 557 = .ok (.bipush (29), 2) := by decide +kernel
theorem d_Model_init_559 : decode b_Model_init 559 = .ok (.bipush (32), 2) := by decide +kernel
theorem d_Model_init_561 : decode b_Model_init 561 = .ok (.iastore, 1) := by decide +kernel
theorem d_Model_init_562 : decode b_Model_init 562 = .ok (.dup, 1) := by decide +kernel
theorem d_Model_init_563 : decode b_Model_init 563 = .ok (.bipush (30), 2) := by decide +kernel
theorem d_Model_init_565 : decode b_Model_init 565 = .ok (.bipush (32), 2) := by decide +kernel
theorem d_Model_init_567 : decode b_Model_init 567 = .ok (.iastore, 1) := by decide +kernel
theorem d_Model_init_568 : decode b_Model_init 568 = .ok (.dup, 1) := by decide +kernel
theorem d_Model_init_569 : decode b_Model_init 569 = .ok (.bipush (31), 2) := by decide +kernel
theorem d_Model_init_571 : decode b_Model_init 571 = .ok (.bipush (32), 2) := by decide +kernel
theorem d_Model_init_573 : decode b_Model_init 573 = .ok (.iastore, 1) := by decide +kernel
theorem d_Model_init_574 : decode b_Model_init 574 = .ok (.dup, 1) := by decide +kernel
theorem d_Model_init_575 : decode b_Model_init 575 = .ok (.bipush (32), 2) := by decide +kernel
theorem d_Model_init_577 : decode b_Model_init 577 = .ok (.bipush (99), 2) := by decide +kernel
theorem d_Model_init_579 : decode b_Model_init 579 = .ok (.iastore, 1) := by decide +kernel
theorem d_Model_init_580 : decode b_Model_init 580 = .ok (.dup, 1) := by decide +kernel
theorem d_Model_init_581 : decode b_Model_init 581 = .ok (.bipush (33), 2) := by decide +kernel
theorem d_Model_init_583 : decode b_Model_init 583 = .ok (.bipush (97), 2) := by decide +kernel
theorem d_Model_init_585 : decode b_Model_init 585 = .ok (.iastore, 1) := by decide +kernel
theorem d_Model_init_586 : decode b_Model_init 586 = .ok (.dup, 1) := by decide +kernel
theorem d_Model_init_587 : decode b_Model_init 587 = .ok (.bipush (34), 2) := by decide +kernel
theorem d_Model_init_589 : decode b_Model_init 589 = .ok (.bipush (107), 2) := by decide +kernel
theorem d_Model_init_591 : decode b_Model_init 591 = .ok (.iastore, 1) := by decide +kernel
theorem d_Model_init_592 : decode b_Model_init 592 = .ok (.dup, 1) := by decide +kernel
theorem d_Model_init_593 : decode b_Model_init 593 = .ok (.bipush (35), 2) := by decide +kernel
theorem d_Model_init_595 : decode b_Model_init 595 = .ok (.bipush (101), 2) := by decide +kernel
theorem d_Model_init_597 : decode b_Model_init 597 = .ok (.iastore, 1) := by decide +kernel
theorem d_Model_init_598 : decode b_Model_init 598 = .ok (.dup, 1) := by decide +kernel
theorem d_Model_init_599 : decode b_Model_init 599 = .ok (.bipush (36), 2) := by decide +kernel
theorem d_Model_init_601 : decode b_Model_init 601 = .ok (.bipush (32), 2) := by decide +kernel
theorem d_Model_init_603 : decode b_Model_init 603 = .ok (.iastore, 1) := by decide +kernel
theorem d_Model_init_604 : decode b_Model_init 604 = .ok (.dup, 1) := by decide +kernel
theorem d_Model_init_605 : decode b_Model_init 605 = .ok (.bipush (37), 2) := by decide +kernel
theorem d_Model_init_607 : decode b_Model_init 607 = .ok (.bipush (32), 2) := by decide +kernel
theorem d_Model_init_609 : decode b_Model_init 609 = .ok (.iastore, 1) := by decide +kernel
theorem d_Model_init_610 : decode b_Model_init 610 = .ok (.dup, 1) := by decide +kernel
theorem d_Model_init_611 : decode b_Model_init 611 = .ok (.bipush (38), 2) := by decide +kernel
theorem d_Model_init_613 : decode b_Model_init 613 = .ok (.bipush (32), 2) := by decide +kernel
theorem d_Model_init_615 : decode b_Model_init 615 = .ok (.iastore, 1) := by decide +kernel
theorem d_Model_init_616 : decode b_Model_init 616 = .ok (.dup, 1) := by decide +kernel
theorem d_Model_init_617 : decode b_Model_init 617 = .ok (.bipush (39), 2) := by decide +kernel
theorem d_Model_init_619 : decode b_Model_init 619 = .ok (.bipush (32), 2) := by decide +kernel
theorem d_Model_init_621 : decode b_Model_init 621 = .ok (.iastore, 1) := by decide +kernel
theorem d_Model_init_622 : decode b_Model_init 622 = .ok (.dup, 1) := by decide +kernel
theorem d_Model_init_623 : decode b_Model_init 623 = .ok (.bipush (40), 2) := by decide +kernel
theorem d_Model_init_625 : decode b_Model_init 625 = .ok (.bipush (117), 2) := by decide +kernel
theorem d_Model_init_627 : decode b_Model_init 627 = .ok (.iastore, 1) := by decide +kernel
theorem d_Model_init_628 : decode b_Model_init 628 = .ok (.dup, 1) := by decide +kernel
theorem d_Model_init_629 : decode b_Model_init 629 = .ok (.bipush (41), 2) := by decide +kernel
theorem d_Model_init_631 : decode b_Model_init 631 = .ok (.bipush (115), 2) := by decide +kernel
theorem d_Model_init_633 : decode b_Model_init 633 = .ok (.iastore, 1) := by decide +kernel
theorem d_Model_init_634 : decode b_Model_init 634 = .ok (.dup, 1) := by decide +kernel
theorem d_Model_init_635 : decode b_Model_init 635 = .ok (.bipush (42), 2) := by decide +kernel
theorem d_Model_init_637 : decode b_Model_init 637 = .ok (.bipush (101), 2) := by decide +kernel
theorem d_Model_init_639 : decode b_Model_init 639 = .ok (.iastore, 1) := by decide +kernel
theorem d_Model_init_640 : decode b_Model_init 640 = .ok (.dup, 1) := by decide +kernel
theorem d_Model_init_641 : decode b_Model_init 641 = .ok (.bipush (43), 2) := by decide +kernel
theorem d_Model_init_643 : decode b_Model_init 643 = .ok (.bipush (100), 2) := by decide +kernel
theorem d_Model_init_645 : decode b_Model_init 645 = .ok (.iastore, 1) := by decide +kernel
theorem d_Model_init_646 : decode b_Model_init 646 = .ok (.dup, 1) := by decide +kernel
theorem d_Model_init_647 : decode b_Model_init 647 = .ok (.bipush (44), 2) := by decide +kernel
theorem d_Model_init_649 : decode b_Model_init 649 = .ok (.bipush (32), 2) := by decide +kernel
theorem d_Model_init_651 : decode b_Model_init 651 = .ok (.iastore, 1) := by decide +kernel
theorem d_Model_init_652 : decode b_Model_init 652 = .ok (.dup, 1) := by decide +kernel
theorem d_Model_init_653 : decode b_Model_init 653 = .ok (.bipush (45), 2) := by decide +kernel
theorem d_Model_init_655 : decode b_Model_init 655 = .ok (.bipush (32), 2) := by decide +kernel
theorem d_Model_init_657 : decode b_Model_init 657 = .ok (.iastore, 1) := by decide +kernel
theorem d_Model_init_658 : decode b_Model_init 658 = .ok (.dup, 1) := by decide +kernel
theorem d_Model_init_659 : decode b_Model_init 659 = .ok (.bipush (46), 2) := by decide +kernel
theorem d_Model_init_661 : decode b_Model_init 661 = .ok (.bipush (32), 2) := by decide +kernel
theorem d_Model_init_663 : decode b_Model_init 663 = .ok (.iastore, 1) := by decide +kernel
theorem d_Model_init_664 : decode b_Model_init 664 = .ok (.dup, 1) := by decide +kernel
theorem d_Model_init_665 : decode b_Model_init 665 = .ok (.bipush (47), 2) := by decide +kernel
theorem d_Model_init_667 : decode b_Model_init 667 = .ok (.bipush (32), 2) := by decide +kernel
theorem d_Model_init_669 : decode b_Model_init 669 = .ok (.iastore, 1) := by decide +kernel
theorem d_Model_init_670 : decode b_Model_init 670 = .ok (.dup, 1) := by decide +kernel
theorem d_Model_init_671 : decode b_Model_init 671 = .ok (.bipush (48), 2) := by decide +kernel
theorem d_Model_init_673 : decode b_Model_init 673 = .ok (.bipush (109), 2) := by decide +kernel
theorem d_Model_init_675 : decode b_Model_init 675 = .ok (.iastore, 1) := by decide +kernel
theorem d_Model_init_676 : decode b_Model_init 676 = .ok (.dup, 1) := by decide +kernel
theorem d_Model_init_677 : decode b_Model_init 677 = .ok (.bipush (49), 2) := by decide +kernel
theorem d_Model_init_679 : decode b_Model_init 679 = .ok (.bipush (111), 2) := by decide +kernel
theorem d_Model_init_681 : decode b_Model_init 681 = .ok (.iastore, 1) := by decide +kernel
theorem d_Model_init_682 : decode b_Model_init 682 = .ok (.dup, 1) := by decide +kernel
theorem d_Model_init_683 : decode b_Model_init 683 = .ok (.bipush (50), 2) := by decide +kernel
theorem d_Model_init_685 : decode b_Model_init 685 = .ok (.bipush (114), 2) := by decide +kernel
theorem d_Model_init_687 : decode b_Model_init 687 = .ok (.iastore, 1) := by decide +kernel
theorem d_Model_init_688 : decode b_Model_init 688 = .ok (.dup, 1) := by decide +kernel
theorem d_Model_init_689 : decode b_Model_init 689 = .ok (.bipush (51), 2) := by decide +kernel
theorem d_Model_init_691 : decode b_Model_init 691 = .ok (.bipush (101), 2) := by decide +kernel
theorem d_Model_init_693 : decode b_Model_init 693 = .ok (.iastore, 1) := by decide +kernel
theorem d_Model_init_694 : decode b_Model_init 694 = .ok (.dup, 1) := by decide +kernel
theorem d_Model_init_695 : decode b_Model_init 695 = .ok (.bipush (52), 2) := by decide +kernel
theorem d_Model_init_697 : decode b_Model_init 697 = .ok (.bipush (32), 2) := by decide +kernel
theorem d_Model_init_699 : decode b_Model_init 699 = .ok (.iastore, 1) := by decide +kernel
theorem d_Model_init_700 : decode b_Model_init 700 = .ok (.dup, 1) := by decide +kernel
theorem d_Model_init_701 : decode b_Model_init 701 = .ok (.bipush (53), 2) := by decide +kernel
theorem d_Model_init_703 : decode b_Model_init 703 = .ok (.bipush (32), 2) := by decide +kernel
theorem d_Model_init_705 : decode b_Model_init 705 = .ok (.iastore, 1) := by decide +kernel
theorem d_Model_init_706 : decode b_Model_init 706 = .ok (.dup, 1) := by decide +kernel
theorem d_Model_init_707 : decode b_Model_init 707 = .ok (.bipush (54), 2) := by decide +kernel
theorem d_Model_init_709 : decode b_Model_init 709 = .ok (.bipush (32), 2) := by decide +kernel
theorem d_Model_init_711 : decode b_Model_init 711 = .ok (.iastore, 1) := by decide +kernel
theorem d_Model_init_712 : decode b_Model_init 712 = .ok (.dup, 1) := by decide +kernel
theorem d_Model_init_713 : decode b_Model_init 713 = .ok (.bipush (55), 2) := by decide +kernel
theorem d_Model_init_715 : decode b_Model_init 715 = .ok (.bipush (32), 2) := by decide +kernel
theorem d_Model_init_717 : decode b_Model_init 717 = .ok (.iastore, 1) := by decide +kernel
theorem d_Model_init_718 : decode b_Model_init 718 = .ok (.dup, 1) := by decide +kernel
theorem d_Model_init_719 : decode b_Model_init 719 = .ok (.bipush (56), 2) := by decide +kernel
theorem d_Model_init_721 : decode b_Model_init 721 = .ok (.bipush (115), 2) := by decide +kernel
theorem d_Model_init_723 : decode b_Model_init 723 = .ok (.iastore, 1) := by decide +kernel
theorem d_Model_init_724 : decode b_Model_init 724 = .ok (.dup, 1) := by decide +kernel
theorem d_Model_init_725 : decode b_Model_init 725 = .ok (.bipush (57), 2) := by decide +kernel
theorem d_Model_init_727 : decode b_Model_init 727 = .ok (.bipush (101), 2) := by decide +kernel
theorem d_Model_init_729 : decode b_Model_init 729 = .ok (.iastore, 1) := by decide +kernel
theorem d_Model_init_730 : decode b_Model_init 730 = .ok (.dup, 1) := by decide +kernel
theorem d_Model_init_731 : decode b_Model_init 731 = .ok (.bipush (58), 2) := by decide +kernel
theorem d_Model_init_733 : decode b_Model_init 733 = .ok (.bipush (110), 2) := by decide +kernel
theorem d_Model_init_735 : decode b_Model_init 735 = .ok (.iastore, 1) := by decide +kernel
theorem d_Model_init_736 : decode b_Model_init 736 = .ok (.dup, 1) := by decide +kernel
theorem d_Model_init_737 : decode b_Model_init 737 = .ok (.bipush (59), 2) := by decide +kernel
theorem d_Model_init_739 : decode b_Model_init 739 = .ok (.bipush (115), 2) := by decide +kernel
theorem d_Model_init_741 : decode b_Model_init 741 = .ok (.iastore, 1) := by decide +kernel
theorem d_Model_init_742 : decode b_Model_init 742 = .ok (.dup, 1) := by decide +kernel
theorem d_Model_init_743 : decode b_Model_init 743 = .ok (.bipush (60), 2) := by decide +kernel
theorem d_Model_init_745 : decode b_Model_init 745 = .ok (.bipush (101), 2) := by decide +kernel
theorem d_Model_init_747 : decode b_Model_init 747 = .ok (.iastore, 1) := by decide +kernel
theorem d_Model_init_748 : decode b_Model_init 748 = .ok (.dup, 1) := by decide +kernel
theorem d_Model_init_749 : decode b_Model_init 749 = .ok (.bipush (61), 2) := by decide +kernel
theorem d_Model_init_751 : decode b_Model_init 751 = .ok (.bipush (32), 2) := by decide +kernel
theorem d_Model_init_753 : decode b_Model_init 753 = .ok (.iastore, 1) := by decide +kernel
theorem d_Model_init_754 : decode b_Model_init 754 = .ok (.dup, 1) := by decide +kernel
theorem d_Model_init_755 : decode b_Model_init 755 = .ok (.bipush (62), 2) := by decide +kernel
theorem d_Model_init_757 : decode b_Model_init 757 = .ok (.bipush (32), 2) := by decide +kernel
theorem d_Model_init_759 : decode b_Model_init 759 = .ok (.iastore, 1) := by decide +kernel
theorem d_Model_init_760 : decode b_Model_init 760 = .ok (.dup, 1) := by decide +kernel
theorem d_Model_init_761 : decode b_Model_init 761 = .ok (.bipush (63), 2) := by decide +kernel
theorem d_Model_init_763 : decode b_Model_init 763 = .ok (.bipush (32), 2) := by decide +kernel
theorem d_Model_init_765 : decode b_Model_init 765 = .ok (.iastore, 1) := by decide +kernel
theorem d_Model_init_766 : decode b_Model_init 766 = .ok (.dup, 1) := by decide +kernel
theorem d_Model_init_767 : decode b_Model_init 767 = .ok (.bipush (64), 2) := by decide +kernel
theorem d_Model_init_769 : decode b_Model_init 769 = .ok (.bipush (101), 2) := by decide +kernel
theorem d_Model_init_771 : decode b_Model_init 771 = .ok (.iastore, 1) := by decide +kernel
theorem d_Model_init_772 : decode b_Model_init 772 = .ok (.dup, 1) := by decide +kernel
theorem d_Model_init_773 : decode b_Model_init 773 = .ok (.bipush (65), 2) := by decide +kernel
theorem d_Model_init_775 : decode b_Model_init 775 = .ok (.bipush (121), 2) := by decide +kernel
theorem d_Model_init_777 : decode b_Model_init 777 = .ok (.iastore, 1) := by decide +kernel
theorem d_Model_init_778 : decode b_Model_init 778 = .ok (.dup, 1) := by decide +kernel
theorem d_Model_init_779 : decode b_Model_init 779 = .ok (.bipush (66), 2) := by decide +kernel
theorem d_Model_init_781 : decode b_Model_init 781 = .ok (.bipush (101), 2) := by decide +kernel
theorem d_Model_init_783 : decode b_Model_init 783 = .ok (.iastore, 1) := by decide +kernel
theorem d_Model_init_784 : decode b_Model_init 784 = .ok (.dup, 1) := by decide +kernel
theorem d_Model_init_785 : decode b_Model_init 785 = .ok (.bipush (67), 2) := by decide +kernel
theorem d_Model_init_787 : decode b_Model_init 787 = .ok (.bipush (115), 2) := by decide +kernel
theorem d_Model_init_789 : decode b_Model_init 789 = .ok (.iastore, 1) := by decide +kernel
theorem d_Model_init_790 : decode b_Model_init 790 = .ok (.dup, 1) := by decide +kernel
theorem d_Model_init_791 : decode b_Model_init 791 = .ok (.bipush (68), 2) := by decide +kernel
theorem d_Model_init_793 : decode b_Model_init 793 = .ok (.bipush (32), 2) := by decide +kernel
theorem d_Model_init_795 : decode b_Model_init 795 = .ok (.iastore, 1) := by decide +kernel
theorem d_Model_init_796 : decode b_Model_init 796 = .ok (.dup, 1) := by decide +kernel
theorem d_Model_init_797 : decode b_Model_init 797 = .ok (.bipush (69), 2) := by decide +kernel
theorem d_Model_init_799 : decode b_Model_init 799 = .ok (.bipush (32), 2) := by decide +kernel
theorem d_Model_init_801 : decode b_Model_init 801 = .ok (.iastore, 1) := by decide +kernel
theorem d_Model_init_802 : decode b_Model_init 802 = .ok (.dup, 1) := by decide +kernel
theorem d_Model_init_803 : decode b_Model_init 803 = .ok (.bipush (70), 2) := by decide +kernel
theorem d_Model_init_805 : decode b_Model_init 805 = .ok (.bipush (32), 2) := by decide +kernel
theorem d_Model_init_807 : decode b_Model_init 807 = .ok (.iastore, 1) := by decide +kernel
theorem d_Model_init_808 : decode b_Model_init 808 = .ok (.dup, 1) := by decide +kernel
theorem d_Model_init_809 : decode b_Model_init 809 = .ok (.bipush (71), 2) := by decide +kernel
theorem d_Model_init_811 : decode b_Model_init 811 = .ok (.bipush (32), 2) := by decide +kernel
theorem d_Model_init_813 : decode b_Model_init 813 = .ok (.iastore, 1) := by decide +kernel
theorem d_Model_init_814 : decode b_Model_init 814 = .ok (.dup, 1) := by decide +kernel
theorem d_Model_init_815 : decode b_Model_init 815 = .ok (.bipush (72), 2) := by decide +kernel
theorem d_Model_init_817 : decode b_Model_init 817 = .ok (.bipush (111), 2) := by decide +kernel
theorem d_Model_init_819 : decode b_Model_init 819 = .ok (.iastore, 1) := by decide +kernel
theorem d_Model_init_820 : decode b_Model_init 820 = .ok (.dup, 1) := by decide +kernel
theorem d_Model_init_821 : decode b_Model_init 821 = .ok (.bipush (73), 2) := by decide +kernel
theorem d_Model_init_823 : decode b_Model_init 823 = .ok (.bipush (114), 2) := by decide +kernel
theorem d_Model_init_825 : decode b_Model_init 825 = .ok (.iastore, 1) := by decide +kernel
theorem d_Model_init_826 : decode b_Model_init 826 = .ok (.dup, 1) := by decide +kernel
theorem d_Model_init_827 : decode b_Model_init 827 = .ok (.bipush (74), 2) := by decide +kernel
theorem d_Model_init_829 : decode b_Model_init 829 = .ok (.bipush (32), 2) := by decide +kernel
theorem d_Model_init_831 : decode b_Model_init 831 = .ok (.iastore, 1) := by decide +kernel
theorem d_Model_init_832 : decode b_Model_init 832 = .ok (.dup, 1) := by decide +kernel
theorem d_Model_init_833 : decode b_Model_init 833 = .ok (.bipush (75), 2) := by decide +kernel
theorem d_Model_init_835 : decode b_Model_init 835 = .ok (.bipush (32), 2) := by decide +kernel
theorem d_Model_init_837 : decode b_Model_init 837 = .ok (.iastore, 1) := by decide +kernel
theorem d_Model_init_838 : decode b_Model_init 838 = .ok (.dup, 1) := by decide +kernel
theorem d_Model_init_839 : decode b_Model_init 839 = .ok (.bipush (76), 2) := by decide +kernel
theorem d_Model_init_841 : decode b_Model_init 841 = .ok (.bipush (32), 2) := by decide +kernel
theorem d_Model_init_843 : decode b_Model_init 843 = .ok (.iastore, 1) := by decide +kernel
theorem d_Model_init_844 : decode b_Model_init 844 = .ok (.dup, 1) := by decide +kernel
theorem d_Model_init_845 : decode b_Model_init 845 = .ok (.bipush (77), 2) := by decide +kernel
theorem d_Model_init_847 : decode b_Model_init 847 = .ok (.bipush (32), 2) := by decide +kernel
theorem d_Model_init_849 : decode b_Model_init 849 = .ok (.iastore, 1) := by decide +kernel
theorem d_Model_init_850 : decode b_Model_init 850 = .ok (.dup, 1) := by decide +kernel
theorem d_Model_init_851 : decode b_Model_init 851 = .ok (.bipush (78), 2) := by decide +kernel
theorem d_Model_init_853 : decode b_Model_init 853 = .ok (.bipush (32), 2) := by decide +kernel
theorem d_Model_init_855 : decode b_Model_init 855 = .ok (.iastore, 1) := by decide +kernel
theorem d_Model_init_856 : decode b_Model_init 856 = .ok (.dup, 1) := by decide +kernel
theorem d_Model_init_857 : decode b_Model_init 857 = .ok (.bipush (79), 2) := by decide +kernel
theorem d_Model_init_859 : decode b_Model_init 859 = .ok (.bipush (32), 2) := by decide +kernel
theorem d_Model_init_861 : decode b_Model_init 861 = .ok (.iastore, 1) := by decide +kernel
theorem d_Model_init_862 : decode b_Model_init 862 = .ok (.dup, 1) := by decide +kernel
theorem d_Model_init_863 : decode b_Model_init 863 = .ok (.bipush (80), 2) := by decide +kernel
theorem d_Model_init_865 : decode b_Model_init 865 = .ok (.bipush (97), 2) := by decide +kernel
theorem d_Model_init_867 : decode b_Model_init 867 = .ok (.iastore, 1) := by decide +kernel
theorem d_Model_init_868 : decode b_Model_init 868 = .ok (.dup, 1) := by decide +kernel
theorem d_Model_init_869 : decode b_Model_init 869 = .ok (.bipush (81), 2) := by decide +kernel
theorem d_Model_init_871 : decode b_Model_init 871 = .ok (.bipush (110), 2) := by decide +kernel
theorem d_Model_init_873 : decode b_Model_init 873 = .ok (.iastore, 1) := by decide +kernel
theorem d_Model_init_874 : decode b_Model_init 874 = .ok (.dup, 1) := by decide +kernel
theorem d_Model_init_875 : decode b_Model_init 875 = .ok (.bipush (82), 2) := by decide +kernel
theorem d_Model_init_877 : decode b_Model_init 877 = .ok (.bipush (100), 2) := by decide +kernel
theorem d_Model_init_879 : decode b_Model_init 879 = .ok (.iastore, 1) := by decide +kernel
theorem d_Model_init_880 : decode b_Model_init 880 = .ok (.dup, 1) := by decide +kernel
theorem d_Model_init_881 : decode b_Model_init 881 = .ok (.bipush (83), 2) := by decide +kernel
theorem d_Model_init_883 : decode b_Model_init 883 = .ok (.bipush (32), 2) := by decide +kernel
theorem d_Model_init_885 : decode b_Model_init 885 = .ok (.iastore, 1) := by decide +kernel
theorem d_Model_init_886 : decode b_Model_init 886 = .ok (.dup, 1) := by decide +kernel
theorem d_Model_init_887 : decode b_Model_init 887 = .ok (.bipush (84), 2) := by decide +kernel
theorem d_Model_init_889 : decode b_Model_init 889 = .ok (.bipush (32), 2) := by decide +kernel
theorem d_Model_init_891 : decode b_Model_init 891 = .ok (.iastore, 1) := by decide +kernel
theorem d_Model_init_892 : decode b_Model_init 892 = .ok (.dup, 1) := by decide +kernel
theorem d_Model_init_893 : decode b_Model_init 893 = .ok (.bipush (85), 2) := by decide +kernel
theorem d_Model_init_895 : decode b_Model_init 895 = .ok (.bipush (32), 2) := by decide +kernel
theorem d_Model_init_897 : decode b_Model_init 897 = .ok (.iastore, 1) := by decide +kernel
theorem d_Model_init_898 : decode b_Model_init 898 = .ok (.dup, 1) := by decide +kernel
theorem d_Model_init_899 : decode b_Model_init 899 = .ok (.bipush (86), 2) := by decide +kernel
theorem d_Model_init_901 : decode b_Model_init 901 = .ok (.bipush (32), 2) := by decide +kernel
theorem d_Model_init_903 : decode b_Model_init 903 = .ok (.iastore, 1) := by decide +kernel
theorem d_Model_init_904 : decode b_Model_init 904 = .ok (.dup, 1) := by decide +kernel
theorem d_Model_init_905 : decode b_Model_init 905 = .ok (.bipush (87), 2) := by decide +kernel
theorem d_Model_init_907 : decode b_Model_init 907 = .ok (.bipush (32), 2) := by decide +kernel
theorem d_Model_init_909 : decode b_Model_init 909 = .ok (.iastore, 1) := by decide +kernel
theorem d_Model_init_910 : decode b_Model_init 910 = .ok (.dup, 1) := by decide +kernel
theorem d_Model_init_911 : decode b_Model_init 911 = .ok (.bipush (88), 2) := by decide +kernel
theorem d_Model_init_913 : decode b_Model_init 913 = .ok (.bipush (110), 2) := by decide +kernel
theorem d_Model_init_915 : decode b_Model_init 915 = .ok (.iastore, 1) := by decide +kernel
theorem d_Model_init_916 : decode b_Model_init 916 = .ok (.dup, 1) := by decide +kernel
theorem d_Model_init_917 : decode b_Model_init 917 = .ok (.bipush (89), 2) := by decide +kernel
theorem d_Model_init_919 : decode b_Model_init 919 = .ok (.bipush (111), 2) := by decide +kernel
theorem d_Model_init_921 : decode b_Model_init 921 = .ok (.iastore, 1) := by decide +kernel
theorem d_Model_init_922 : decode b_Model_init 922 = .ok (.dup, 1) := by decide +kernel
theorem d_Model_init_923 : decode b_Model_init 923 = .ok (.bipush (90), 2) := by decide +kernel
theorem d_Model_init_925 : decode b_Model_init 925 = .ok (.bipush (116), 2) := by decide +kernel
theorem d_Model_init_927 : decode b_Model_init 927 = .ok (.iastore, 1) := by decide +kernel
theorem d_Model_init_928 : decode b_Model_init 928 = .ok (.dup, 1) := by decide +kernel
theorem d_Model_init_929 : decode b_Model_init 929 = .ok (.bipush (91), 2) := by decide +kernel
theorem d_Model_init_931 : decode b_Model_init 931 = .ok (.bipush (32), 2) := by decide +kernel
theorem d_Model_init_933 : decode b_Model_init 933 = .ok (.iastore, 1) := by decide +kernel
theorem d_Model_init_934 : decode b_Model_init 934 = .ok (.dup, 1) := by decide +kernel
theorem d_Model_init_935 : decode b_Model_init 935 = .ok (.bipush (92), 2) := by decide +kernel
theorem d_Model_init_937 : decode b_Model_init 937 = .ok (.bipush (32), 2) := by decide +kernel
theorem d_Model_init_939 : decode b_Model_init 939 = .ok (.iastore, 1) := by decide +kernel
theorem d_Model_init_940 : decode b_Model_init 940 = .ok (.dup, 1) := by decide +kernel
theorem d_Model_init_941 : decode b_Model_init 941 = .ok (.bipush (93), 2) := by decide +kernel
theorem d_Model_init_943 : decode b_Model_init 943 = .ok (.bipush (32), 2) := by decide +kernel
theorem d_Model_init_945 : decode b_Model_init 945 = .ok (.iastore, 1) := by decide +kernel
theorem d_Model_init_946 : decode b_Model_init 946 = .ok (.dup, 1) := by decide +kernel
theorem d_Model_init_947 : decode b_Model_init 947 = .ok (.bipush (94), 2) := by decide +kernel
theorem d_Model_init_949 : decode b_Model_init 949 = .ok (.bipush (32), 2) := by decide +kernel
theorem d_Model_init_951 : decode b_Model_init 951 = .ok (.iastore, 1) := by decide +kernel
theorem d_Model_init_952 : decode b_Model_init 952 = .ok (.dup, 1) := by decide +kernel
theorem d_Model_init_953 : decode b_Model_init 953 = .ok (.bipush (95), 2) := by decide +kernel
theorem d_Model_init_955 : decode b_Model_init 955 = .ok (.bipush (32), 2) := by decide +kernel
theorem d_Model_init_957 : decode b_Model_init 957 = .ok (.iastore, 1) := by decide +kernel
theorem d_Model_init_958 : decode b_Model_init 958 = .ok (.putfield 43, 3) := by decide +kernel
theorem d_Model_init_961 : decode b_Model_init 961 = .ok (.aload_n 0, 1) := by decide +kernel
theorem d_Model_init_962 : decode b_Model_init 962 = .ok (.sipush (200), 3) := by decide +kernel
theorem d_Model_init_965 : decode b_Model_init 965 = .ok (.newarray .int, 2) := by decide +kernel
theorem d_Model_init_967 : decode b_Model_init 967 = .ok (.putfield 46, 3) := by decide +kernel
theorem d_Model_init_970 : decode b_Model_init 970 = .ok (.aload_n 0, 1) := by decide +kernel
theorem d_Model_init_971 : decode b_Model_init 971 = .ok (.sipush (200), 3) := by decide +kernel
theorem d_Model_init_974 : decode b_Model_init 974 = .ok (.newarray .int, 2) := by decide +kernel
theorem d_Model_init_976 : decode b_Model_init 976 = .ok (.putfield 49, 3) := by decide +kernel
theorem d_Model_init_979 : decode b_Model_init 979 = .ok (.aload_n 0, 1) := by decide +kernel
theorem d_Model_init_980 : decode b_Model_init 980 = .ok (.bipush (6), 2) := by decide +kernel
theorem d_Model_init_982 : decode b_Model_init 982 = .ok (.newarray .int, 2) := by decide +kernel
theorem d_Model_init_984 : decode b_Model_init 984 = .ok (.putfield 52, 3) := by decide +kernel
theorem d_Model_init_987 : decode b_Model_init 987 = .ok (.iconst 0, 1) := by decide +kernel
theorem d_Model_init_988 : decode b_Model_init 988 = .ok (.istore_n 1, 1) := by decide +kernel
theorem d_Model_init_989 : decode b_Model_init 989 = .ok (.iload_n 1, 1) := by decide +kernel
theorem d_Model_init_990 : decode b_Model_init 990 = .ok (.bipush (47), 2) := by decide +kernel
theorem d_Model_init_992 : decode b_Model_init 992 = .ok (.if_icmp .ge 21, 3) := by decide +kernel
theorem d_Model_init_995 : decode b_Model_init 995 = .ok (.aload_n 0, 1) := by decide +kernel
theorem d_Model_init_996 : decode b_Model_init 996 = .ok (.getfield 19, 3) := by decide +kernel
theorem d_Model_init_999 : decode b_Model_init 999 = .ok (.iload_n 1, 1) := by decide +kernel
theorem d_Model_init_1000 : decode b_Model_init 1000 = .ok (.aload_n 0, 1) := by decide +kernel
theorem d_Model_init_1001 : decode b_Model_init 1001 = .ok (.getfield 40, 3) := by decide +kernel
theorem d_Model_init_1004 : decode b_Model_init 1004 = .ok (.iload_n 1, 1) := by decide +kernel
theorem d_Model_init_1005 : decode b_Model_init 1005 = .ok (.iaload, 1) := by decide +kernel
theorem d_Model_init_1006 : decode b_Model_init 1006 = .ok (.iastore, 1) := by decide +kernel
theorem d_Model_init_1007 : decode b_Model_init 1007 = .ok (.iinc 1 (1), 3) := by decide +kernel
theorem d_Model_init_1010 : decode b_Model_init 1010 = .ok (.goto (-21), 3) := by decide +kernel
theorem d_Model_init_1013 : decode b_Model_init 1013 = .ok (.aload_n 0, 1) := by decide +kernel
theorem d_Model_init_1014 : decode b_Model_init 1014 = .ok (.bipush (47), 2) := by decide +kernel
theorem d_Model_init_1016 : decode b_Model_init 1016 = .ok (.putfield 55, 3) := by decide +kernel
theorem d_Model_init_1019 : decode b_Model_init 1019 = .ok (.aload_n 0, 1) := by decide +kernel
theorem d_Model_init_1020 : decode b_Model_init 1020 = .ok (.invokevirtual 59, 3) := by decide +kernel
theorem d_Model_init_1023 : decode b_Model_init 1023 = .ok (.pop, 1) := by decide +kernel
theorem d_Model_init_1024 : decode b_Model_init 1024 = .ok (.return_, 1) := by decide +kernel
abbrev b_Model_in : ByteArray := prog_8_method_3_code
def y_Model_in : MethodName := ⟨"RoundAndRoundModel", "in", "(III)Z"⟩
theorem d_Model_in_0 : decode b_Model_in 0 = .ok (.iload_n 0, 1) := by decide +kernel
theorem d_Model_in_1 : decode b_Model_in 1 = .ok (.iload_n 1, 1) := by decide +kernel
theorem d_Model_in_2 : decode b_Model_in 2 = .ok (.if_icmp .lt 12, 3) := by decide +kernel
theorem d_Model_in_5 : decode b_Model_in 5 = .ok (.iload_n 0, 1) := by decide +kernel
theorem d_Model_in_6 : decode b_Model_in 6 = .ok (.iload_n 2, 1) := by decide +kernel
theorem d_Model_in_7 : decode b_Model_in 7 = .ok (.if_icmp .gt 7, 3) := by decide +kernel
theorem d_Model_in_10 : decode b_Model_in 10 = .ok (.iconst 1, 1) := by decide +kernel
theorem d_Model_in_11 : decode b_Model_in 11 = .ok (.goto 4, 3) := by decide +kernel
theorem d_Model_in_14 : decode b_Model_in 14 = .ok (.iconst 0, 1) := by decide +kernel
theorem d_Model_in_15 : decode b_Model_in 15 = .ok (.ireturn, 1) := by decide +kernel
abbrev b_Model_within : ByteArray := prog_8_method_4_code
def y_Model_within : MethodName := ⟨"RoundAndRoundModel", "within", "(III)I"⟩
theorem d_Model_within_0 : decode b_Model_within 0 = .ok (.iload_n 0, 1) := by decide +kernel
theorem d_Model_within_1 : decode b_Model_within 1 = .ok (.iload_n 1, 1) := by decide +kernel
theorem d_Model_within_2 : decode b_Model_within 2 = .ok (.if_icmp .ge 7, 3) := by decide +kernel
theorem d_Model_within_5 : decode b_Model_within 5 = .ok (.iload_n 1, 1) := by decide +kernel
theorem d_Model_within_6 : decode b_Model_within 6 = .ok (.goto 13, 3) := by decide +kernel
theorem d_Model_within_9 : decode b_Model_within 9 = .ok (.iload_n 0, 1) := by decide +kernel
theorem d_Model_within_10 : decode b_Model_within 10 = .ok (.iload_n 2, 1) := by decide +kernel
theorem d_Model_within_11 : decode b_Model_within 11 = .ok (.if_icmp .le 7, 3) := by decide +kernel
theorem d_Model_within_14 : decode b_Model_within 14 = .ok (.iload_n 2, 1) := by decide +kernel
theorem d_Model_within_15 : decode b_Model_within 15 = .ok (.goto 4, 3) := by decide +kernel
theorem d_Model_within_18 : decode b_Model_within 18 = .ok (.iload_n 0, 1) := by decide +kernel
theorem d_Model_within_19 : decode b_Model_within 19 = .ok (.ireturn, 1) := by decide +kernel
abbrev b_Model_size0 : ByteArray := prog_8_method_5_code
def y_Model_size0 : MethodName := ⟨"RoundAndRoundModel", "size0", "(I)I"⟩
theorem d_Model_size0_0 : decode b_Model_size0 0 = .ok (.iload_n 0, 1) := by decide +kernel
theorem d_Model_size0_1 : decode b_Model_size0 1 = .ok (.ifCond .ge 8, 3) := by decide +kernel
theorem d_Model_size0_4 : decode b_Model_size0 4 = .ok (.iload_n 0, 1) := by decide +kernel
theorem d_Model_size0_5 : decode b_Model_size0 5 = .ok (.ineg, 1) := by decide +kernel
theorem d_Model_size0_6 : decode b_Model_size0 6 = .ok (.goto 4, 3) := by decide +kernel
theorem d_Model_size0_9 : decode b_Model_size0 9 = .ok (.iload_n 0, 1) := by decide +kernel
theorem d_Model_size0_10 : decode b_Model_size0 10 = .ok (.ireturn, 1) := by decide +kernel
abbrev b_Model_isHead : ByteArray := prog_8_method_6_code
def y_Model_isHead : MethodName := ⟨"RoundAndRoundModel", "isHead", "(I)Z"⟩
theorem d_Model_isHead_0 : decode b_Model_isHead 0 = .ok (.iload_n 1, 1) := by decide +kernel
theorem d_Model_isHead_1 : decode b_Model_isHead 1 = .ok (.iconst 0, 1) := by decide +kernel
theorem d_Model_isHead_2 : decode b_Model_isHead 2 = .ok (.aload_n 0, 1) := by decide +kernel
theorem d_Model_isHead_3 : decode b_Model_isHead 3 = .ok (.getfield 63, 3) := by decide +kernel
theorem d_Model_isHead_6 : decode b_Model_isHead 6 = .ok (.iconst 1, 1) := by decide +kernel
theorem d_Model_isHead_7 : decode b_Model_isHead 7 = .ok (.isub, 1) := by decide +kernel
theorem d_Model_isHead_8 : decode b_Model_isHead 8 = .ok (.invokestatic 66, 3) := by decide +kernel
theorem d_Model_isHead_11 : decode b_Model_isHead 11 = .ok (.ireturn, 1) := by decide +kernel
abbrev b_Model_count : ByteArray := prog_8_method_7_code
def y_Model_count : MethodName := ⟨"RoundAndRoundModel", "count", "(I)I"⟩
theorem d_Model_count_0 : decode b_Model_count 0 = .ok (.iload_n 1, 1) := by decide +kernel
theorem d_Model_count_1 : decode b_Model_count 1 = .ok (.tableswitch 51 (0) (3) #[31, 36, 41, 46], 31) := by decide +kernel
theorem d_Model_count_32 : decode b_Model_count 32 = .ok (.aload_n 0, 1) := by decide +kernel
theorem d_Model_count_33 : decode b_Model_count 33 = .ok (.getfield 63, 3) := by decide +kernel
theorem d_Model_count_36 : decode b_Model_count 36 = .ok (.ireturn, 1) := by decide +kernel
theorem d_Model_count_37 : decode b_Model_count 37 = .ok (.aload_n 0, 1) := by decide +kernel
theorem d_Model_count_38 : decode b_Model_count 38 = .ok (.getfield 70, 3) := by decide +kernel
theorem d_Model_count_41 : decode b_Model_count 41 = .ok (.ireturn, 1) := by decide +kernel
theorem d_Model_count_42 : decode b_Model_count 42 = .ok (.aload_n 0, 1) := by decide +kernel
theorem d_Model_count_43 : decode b_Model_count 43 = .ok (.getfield 73, 3) := by decide +kernel
theorem d_Model_count_46 : decode b_Model_count 46 = .ok (.ireturn, 1) := by decide +kernel
theorem d_Model_count_47 : decode b_Model_count 47 = .ok (.aload_n 0, 1) := by decide +kernel
theorem d_Model_count_48 : decode b_Model_count 48 = .ok (.getfield 55, 3) := by decide +kernel
theorem d_Model_count_51 : decode b_Model_count 51 = .ok (.ireturn, 1) := by decide +kernel
theorem d_Model_count_52 : decode b_Model_count 52 = .ok (.bipush (-2), 2) := by decide +kernel
theorem d_Model_count_54 : decode b_Model_count 54 = .ok (.ireturn, 1) := by decide +kernel
abbrev b_Model_isByte : ByteArray := prog_8_method_8_code
def y_Model_isByte : MethodName := ⟨"RoundAndRoundModel", "isByte", "(I)Z"⟩
theorem d_Model_isByte_0 : decode b_Model_isByte 0 = .ok (.iload_n 0, 1) := by decide +kernel
theorem d_Model_isByte_1 : decode b_Model_isByte 1 = .ok (.iconst 0, 1) := by decide +kernel
theorem d_Model_isByte_2 : decode b_Model_isByte 2 = .ok (.sipush (255), 3) := by decide +kernel
theorem d_Model_isByte_5 : decode b_Model_isByte 5 = .ok (.invokestatic 66, 3) := by decide +kernel
theorem d_Model_isByte_8 : decode b_Model_isByte 8 = .ok (.ireturn, 1) := by decide +kernel
abbrev b_Model_feed : ByteArray := prog_8_method_9_code
def y_Model_feed : MethodName := ⟨"RoundAndRoundModel", "feed", "(IIIIII)I"⟩
theorem d_Model_feed_0 : decode b_Model_feed 0 = .ok (.iload_n 1, 1) := by decide +kernel
theorem d_Model_feed_1 : decode b_Model_feed 1 = .ok (.iconst 1, 1) := by decide +kernel
theorem d_Model_feed_2 : decode b_Model_feed 2 = .ok (.iconst 5, 1) := by decide +kernel
theorem d_Model_feed_3 : decode b_Model_feed 3 = .ok (.invokestatic 66, 3) := by decide +kernel
theorem d_Model_feed_6 : decode b_Model_feed 6 = .ok (.ifCond .eq 41, 3) := by decide +kernel
theorem d_Model_feed_9 : decode b_Model_feed 9 = .ok (.iload_n 2, 1) := by decide +kernel
theorem d_Model_feed_10 : decode b_Model_feed 10 = .ok (.invokestatic 76, 3) := by decide +kernel
theorem d_Model_feed_13 : decode b_Model_feed 13 = .ok (.ifCond .eq 34, 3) := by decide +kernel
theorem d_Model_feed_16 : decode b_Model_feed 16 = .ok (.iload_n 3, 1) := by decide +kernel
theorem d_Model_feed_17 : decode b_Model_feed 17 = .ok (.invokestatic 76, 3) := by decide +kernel
theorem d_Model_feed_20 : decode b_Model_feed 20 = .ok (.ifCond .eq 27, 3) := by decide +kernel
theorem d_Model_feed_23 : decode b_Model_feed 23 = .ok (.iload 4, 2) := by decide +kernel
theorem d_Model_feed_25 : decode b_Model_feed 25 = .ok (.invokestatic 76, 3) := by decide +kernel
theorem d_Model_feed_28 : decode b_Model_feed 28 = .ok (.ifCond .eq 19, 3) := by decide +kernel
theorem d_Model_feed_31 : decode b_Model_feed 31 = .ok (.iload 5, 2) := by decide +kernel
theorem d_Model_feed_33 : decode b_Model_feed 33 = .ok (.invokestatic 76, 3) := by decide +kernel
theorem d_Model_feed_36 : decode b_Model_feed 36 = .ok (.ifCond .eq 11, 3) := by decide +kernel
theorem d_Model_feed_39 : decode b_Model_feed 39 = .ok (.iload 6, 2) := by decide +kernel
theorem d_Model_feed_41 : decode b_Model_feed 41 = .ok (.invokestatic 76, 3) := by decide +kernel
theorem d_Model_feed_44 : decode b_Model_feed 44 = .ok (.ifCond .ne 6, 3) := by decide +kernel
theorem d_Model_feed_47 : decode b_Model_feed 47 = .ok (.bipush (-2), 2) := by decide +kernel
theorem d_Model_feed_49 : decode b_Model_feed 49 = .ok (.ireturn, 1) := by decide +kernel
theorem d_Model_feed_50 : decode b_Model_feed 50 = .ok (.aload_n 0, 1) := by decide +kernel
theorem d_Model_feed_51 : decode b_Model_feed 51 = .ok (.getfield 55, 3) := by decide +kernel
theorem d_Model_feed_54 : decode b_Model_feed 54 = .ok (.iload_n 1, 1) := by decide +kernel
theorem d_Model_feed_55 : decode b_Model_feed 55 = .ok (.iadd, 1) := by decide +kernel
theorem d_Model_feed_56 : decode b_Model_feed 56 = .ok (.sipush (160), 3) := by decide +kernel
theorem d_Model_feed_59 : decode b_Model_feed 59 = .ok (.if_icmp .le 6, 3) := by decide +kernel
theorem d_Model_feed_62 : decode b_Model_feed 62 = .ok (.bipush (-4), 2) := by decide +kernel
theorem d_Model_feed_64 : decode b_Model_feed 64 = .ok (.ireturn, 1) := by decide +kernel
theorem d_Model_feed_65 : decode b_Model_feed 65 = .ok (.iconst 0, 1) := by decide +kernel
theorem d_Model_feed_66 : decode b_Model_feed 66 = .ok (.istore 7, 2) := by decide +kernel
theorem d_Model_feed_68 : decode b_Model_feed 68 = .ok (.iload 7, 2) := by decide +kernel
theorem d_Model_feed_70 : decode b_Model_feed 70 = .ok (.iload_n 1, 1) := by decide +kernel
theorem d_Model_feed_71 : decode b_Model_feed 71 = .ok (.if_icmp .ge 71, 3) := by decide +kernel
theorem d_Model_feed_74 : decode b_Model_feed 74 = .ok (.aload_n 0, 1) := by decide +kernel
theorem d_Model_feed_75 : decode b_Model_feed 75 = .ok (.getfield 19, 3) := by decide +kernel
theorem d_Model_feed_78 : decode b_Model_feed 78 = .ok (.aload_n 0, 1) := by decide +kernel
theorem d_Model_feed_79 : decode b_Model_feed 79 = .ok (.getfield 55, 3) := by decide +kernel
theorem d_Model_feed_82 : decode b_Model_feed 82 = .ok (.iload 7, 2) := by decide +kernel
theorem d_Model_feed_84 : decode b_Model_feed 84 = .ok (.ifCond .ne 7, 3) := by decide +kernel
theorem d_Model_feed_87 : decode b_Model_feed 87 = .ok (.iload_n 2, 1) := by decide +kernel
theorem d_Model_feed_88 : decode b_Model_feed 88 = .ok (.goto 37, 3) := by decide +kernel
theorem d_Model_feed_91 : decode b_Model_feed 91 = .ok (.iload 7, 2) := by decide +kernel
theorem d_Model_feed_93 : decode b_Model_feed 93 = .ok (.iconst 1, 1) := by decide +kernel
theorem d_Model_feed_94 : decode b_Model_feed 94 = .ok (.if_icmp .ne 7, 3) := by decide +kernel
theorem d_Model_feed_97 : decode b_Model_feed 97 = .ok (.iload_n 3, 1) := by decide +kernel
theorem d_Model_feed_98 : decode b_Model_feed 98 = .ok (.goto 27, 3) := by decide +kernel
theorem d_Model_feed_101 : decode b_Model_feed 101 = .ok (.iload 7, 2) := by decide +kernel
theorem d_Model_feed_103 : decode b_Model_feed 103 = .ok (.iconst 2, 1) := by decide +kernel
theorem d_Model_feed_104 : decode b_Model_feed 104 = .ok (.if_icmp .ne 8, 3) := by decide +kernel
theorem d_Model_feed_107 : decode b_Model_feed 107 = .ok (.iload 4, 2) := by decide +kernel
theorem d_Model_feed_109 : decode b_Model_feed 109 = .ok (.goto 16, 3) := by decide +kernel
theorem d_Model_feed_112 : decode b_Model_feed 112 = .ok (.iload 7, 2) := by decide +kernel
theorem d_Model_feed_114 : decode b_Model_feed 114 = .ok (.iconst 3, 1) := by decide +kernel
theorem d_Model_feed_115 : decode b_Model_feed 115 = .ok (.if_icmp .ne 8, 3) := by decide +kernel
theorem d_Model_feed_118 : decode b_Model_feed 118 = .ok (.iload 5, 2) := by decide +kernel
theorem d_Model_feed_120 : decode b_Model_feed 120 = .ok (.goto 5, 3) := by decide +kernel
theorem d_Model_feed_123 : decode b_Model_feed 123 = .ok (.iload 6, 2) := by decide +kernel
theorem d_Model_feed_125 : decode b_Model_feed 125 = .ok (.iastore, 1) := by decide +kernel
theorem d_Model_feed_126 : decode b_Model_feed 126 = .ok (.aload_n 0, 1) := by decide +kernel
theorem d_Model_feed_127 : decode b_Model_feed 127 = .ok (.dup, 1) := by decide +kernel
theorem d_Model_feed_128 : decode b_Model_feed 128 = .ok (.getfield 55, 3) := by decide +kernel
theorem d_Model_feed_131 : decode b_Model_feed 131 = .ok (.iconst 1, 1) := by decide +kernel
theorem d_Model_feed_132 : decode b_Model_feed 132 = .ok (.iadd, 1) := by decide +kernel
theorem d_Model_feed_133 : decode b_Model_feed 133 = .ok (.putfield 55, 3) := by decide +kernel
theorem d_Model_feed_136 : decode b_Model_feed 136 = .ok (.iinc 7 (1), 3) := by decide +kernel
theorem d_Model_feed_139 : decode b_Model_feed 139 = .ok (.goto (-71), 3) := by decide +kernel
theorem d_Model_feed_142 : decode b_Model_feed 142 = .ok (.aload_n 0, 1) := by decide +kernel
theorem d_Model_feed_143 : decode b_Model_feed 143 = .ok (.getfield 55, 3) := by decide +kernel
theorem d_Model_feed_146 : decode b_Model_feed 146 = .ok (.ireturn, 1) := by decide +kernel
abbrev b_Model_wordFrom : ByteArray := prog_8_method_10_code
def y_Model_wordFrom : MethodName := ⟨"RoundAndRoundModel", "wordFrom", "(II)I"⟩
theorem d_Model_wordFrom_0 : decode b_Model_wordFrom 0 = .ok (.iconst 0, 1) := by decide +kernel
theorem d_Model_wordFrom_1 : decode b_Model_wordFrom 1 = .ok (.istore_n 3, 1) := by decide +kernel
theorem d_Model_wordFrom_2 : decode b_Model_wordFrom 2 = .ok (.iload_n 3, 1) := by decide +kernel
theorem d_Model_wordFrom_3 : decode b_Model_wordFrom 3 = .ok (.bipush (12), 2) := by decide +kernel
theorem d_Model_wordFrom_5 : decode b_Model_wordFrom 5 = .ok (.if_icmp .ge 96, 3) := by decide +kernel
theorem d_Model_wordFrom_8 : decode b_Model_wordFrom 8 = .ok (.iload_n 2, 1) := by decide +kernel
theorem d_Model_wordFrom_9 : decode b_Model_wordFrom 9 = .ok (.iload_n 1, 1) := by decide +kernel
theorem d_Model_wordFrom_10 : decode b_Model_wordFrom 10 = .ok (.isub, 1) := by decide +kernel
theorem d_Model_wordFrom_11 : decode b_Model_wordFrom 11 = .ok (.bipush (8), 2) := by decide +kernel
theorem d_Model_wordFrom_13 : decode b_Model_wordFrom 13 = .ok (.if_icmp .gt 7, 3) := by decide +kernel
theorem d_Model_wordFrom_16 : decode b_Model_wordFrom 16 = .ok (.iconst 1, 1) := by decide +kernel
theorem d_Model_wordFrom_17 : decode b_Model_wordFrom 17 = .ok (.goto 4, 3) := by decide +kernel
theorem d_Model_wordFrom_20 : decode b_Model_wordFrom 20 = .ok (.iconst 0, 1) := by decide +kernel
theorem d_Model_wordFrom_21 : decode b_Model_wordFrom 21 = .ok (.istore 4, 2) := by decide +kernel
theorem d_Model_wordFrom_23 : decode b_Model_wordFrom 23 = .ok (.iconst 0, 1) := by decide +kernel
theorem d_Model_wordFrom_24 : decode b_Model_wordFrom 24 = .ok (.istore 5, 2) := by decide +kernel
theorem d_Model_wordFrom_26 : decode b_Model_wordFrom 26 = .ok (.iload 5, 2) := by decide +kernel
theorem d_Model_wordFrom_28 : decode b_Model_wordFrom 28 = .ok (.bipush (8), 2) := by decide +kernel
theorem d_Model_wordFrom_30 : decode b_Model_wordFrom 30 = .ok (.if_icmp .ge 58, 3) := by decide +kernel
theorem d_Model_wordFrom_33 : decode b_Model_wordFrom 33 = .ok (.iload 4, 2) := by decide +kernel
theorem d_Model_wordFrom_35 : decode b_Model_wordFrom 35 = .ok (.ifCond .eq 53, 3) := by decide +kernel
theorem d_Model_wordFrom_38 : decode b_Model_wordFrom 38 = .ok (.aload_n 0, 1) := by decide +kernel
theorem d_Model_wordFrom_39 : decode b_Model_wordFrom 39 = .ok (.getfield 43, 3) := by decide +kernel
theorem d_Model_wordFrom_42 : decode b_Model_wordFrom 42 = .ok (.bipush (8), 2) := by decide +kernel
theorem d_Model_wordFrom_44 : decode b_Model_wordFrom 44 = .ok (.iload_n 3, 1) := by decide +kernel
theorem d_Model_wordFrom_45 : decode b_Model_wordFrom 45 = .ok (.imul, 1) := by decide +kernel
theorem d_Model_wordFrom_46 : decode b_Model_wordFrom 46 = .ok (.iload 5, 2) := by decide +kernel
theorem d_Model_wordFrom_48 : decode b_Model_wordFrom 48 = .ok (.iadd, 1) := by decide +kernel
theorem d_Model_wordFrom_49 : decode b_Model_wordFrom 49 = .ok (.iaload, 1) := by decide +kernel
theorem d_Model_wordFrom_50 : decode b_Model_wordFrom 50 = .ok (.iload_n 1, 1) := by decide +kernel
theorem d_Model_wordFrom_51 : decode b_Model_wordFrom 51 = .ok (.iload 5, 2) := by decide +kernel
theorem d_Model_wordFrom_53 : decode b_Model_wordFrom 53 = .ok (.iadd, 1) := by decide +kernel
theorem d_Model_wordFrom_54 : decode b_Model_wordFrom 54 = .ok (.iload_n 2, 1) := by decide +kernel
theorem d_Model_wordFrom_55 : decode b_Model_wordFrom 55 = .ok (.if_icmp .ge 15, 3) := by decide +kernel
theorem d_Model_wordFrom_58 : decode b_Model_wordFrom 58 = .ok (.aload_n 0, 1) := by decide +kernel
theorem d_Model_wordFrom_59 : decode b_Model_wordFrom 59 = .ok (.getfield 19, 3) := by decide +kernel
theorem d_Model_wordFrom_62 : decode b_Model_wordFrom 62 = .ok (.iload_n 1, 1) := by decide +kernel
theorem d_Model_wordFrom_63 : decode b_Model_wordFrom 63 = .ok (.iload 5, 2) := by decide +kernel
theorem d_Model_wordFrom_65 : decode b_Model_wordFrom 65 = .ok (.iadd, 1) := by decide +kernel
theorem d_Model_wordFrom_66 : decode b_Model_wordFrom 66 = .ok (.iaload, 1) := by decide +kernel
theorem d_Model_wordFrom_67 : decode b_Model_wordFrom 67 = .ok (.goto 5, 3) := by decide +kernel
theorem d_Model_wordFrom_70 : decode b_Model_wordFrom 70 = .ok (.bipush (32), 2) := by decide +kernel
theorem d_Model_wordFrom_72 : decode b_Model_wordFrom 72 = .ok (.if_icmp .ne 7, 3) := by decide +kernel
theorem d_Model_wordFrom_75 : decode b_Model_wordFrom 75 = .ok (.iconst 1, 1) := by decide +kernel
theorem d_Model_wordFrom_76 : decode b_Model_wordFrom 76 = .ok (.goto 4, 3) := by decide +kernel
theorem d_Model_wordFrom_79 : decode b_Model_wordFrom 79 = .ok (.iconst 0, 1) := by decide +kernel
theorem d_Model_wordFrom_80 : decode b_Model_wordFrom 80 = .ok (.istore 4, 2) := by decide +kernel
theorem d_Model_wordFrom_82 : decode b_Model_wordFrom 82 = .ok (.iinc 5 (1), 3) := by decide +kernel
theorem d_Model_wordFrom_85 : decode b_Model_wordFrom 85 = .ok (.goto (-59), 3) := by decide +kernel
theorem d_Model_wordFrom_88 : decode b_Model_wordFrom 88 = .ok (.iload 4, 2) := by decide +kernel
theorem d_Model_wordFrom_90 : decode b_Model_wordFrom 90 = .ok (.ifCond .eq 5, 3) := by decide +kernel
theorem d_Model_wordFrom_93 : decode b_Model_wordFrom 93 = .ok (.iload_n 3, 1) := by decide +kernel
theorem d_Model_wordFrom_94 : decode b_Model_wordFrom 94 = .ok (.ireturn, 1) := by decide +kernel
theorem d_Model_wordFrom_95 : decode b_Model_wordFrom 95 = .ok (.iinc 3 (1), 3) := by decide +kernel
theorem d_Model_wordFrom_98 : decode b_Model_wordFrom 98 = .ok (.goto (-96), 3) := by decide +kernel
theorem d_Model_wordFrom_101 : decode b_Model_wordFrom 101 = .ok (.bipush (12), 2) := by decide +kernel
theorem d_Model_wordFrom_103 : decode b_Model_wordFrom 103 = .ok (.ireturn, 1) := by decide +kernel
abbrev b_Model_next : ByteArray := prog_8_method_11_code
def y_Model_next : MethodName := ⟨"RoundAndRoundModel", "next", "()V"⟩
theorem d_Model_next_0 : decode b_Model_next 0 = .ok (.aload_n 0, 1) := by decide +kernel
theorem d_Model_next_1 : decode b_Model_next 1 = .ok (.getfield 80, 3) := by decide +kernel
theorem d_Model_next_4 : decode b_Model_next 4 = .ok (.aload_n 0, 1) := by decide +kernel
theorem d_Model_next_5 : decode b_Model_next 5 = .ok (.getfield 55, 3) := by decide +kernel
theorem d_Model_next_8 : decode b_Model_next 8 = .ok (.if_icmp .ge 44, 3) := by decide +kernel
theorem d_Model_next_11 : decode b_Model_next 11 = .ok (.aload_n 0, 1) := by decide +kernel
theorem d_Model_next_12 : decode b_Model_next 12 = .ok (.getfield 19, 3) := by decide +kernel
theorem d_Model_next_15 : decode b_Model_next 15 = .ok (.aload_n 0, 1) := by decide +kernel
theorem d_Model_next_16 : decode b_Model_next 16 = .ok (.getfield 80, 3) := by decide +kernel
theorem d_Model_next_19 : decode b_Model_next 19 = .ok (.iaload, 1) := by decide +kernel
theorem d_Model_next_20 : decode b_Model_next 20 = .ok (.bipush (32), 2) := by decide +kernel
theorem d_Model_next_22 : decode b_Model_next 22 = .ok (.if_icmp .eq 17, 3) := by decide +kernel
theorem d_Model_next_25 : decode b_Model_next 25 = .ok (.aload_n 0, 1) := by decide +kernel
theorem d_Model_next_26 : decode b_Model_next 26 = .ok (.getfield 19, 3) := by decide +kernel
theorem d_Model_next_29 : decode b_Model_next 29 = .ok (.aload_n 0, 1) := by decide +kernel
theorem d_Model_next_30 : decode b_Model_next 30 = .ok (.getfield 80, 3) := by decide +kernel
theorem d_Model_next_33 : decode b_Model_next 33 = .ok (.iaload, 1) := by decide +kernel
theorem d_Model_next_34 : decode b_Model_next 34 = .ok (.bipush (10), 2) := by decide +kernel
theorem d_Model_next_36 : decode b_Model_next 36 = .ok (.if_icmp .ne 16, 3) := by decide +kernel
theorem d_Model_next_39 : decode b_Model_next 39 = .ok (.aload_n 0, 1) := by decide +kernel
theorem d_Model_next_40 : decode b_Model_next 40 = .ok (.dup, 1) := by decide +kernel
theorem d_Model_next_41 : decode b_Model_next 41 = .ok (.getfield 80, 3) := by decide +kernel
theorem d_Model_next_44 : decode b_Model_next 44 = .ok (.iconst 1, 1) := by decide +kernel
theorem d_Model_next_45 : decode b_Model_next 45 = .ok (.iadd, 1) := by decide +kernel
theorem d_Model_next_46 : decode b_Model_next 46 = .ok (.putfield 80, 3) := by decide +kernel
theorem d_Model_next_49 : decode b_Model_next 49 = .ok (.goto (-49), 3) := by decide +kernel
theorem d_Model_next_52 : decode b_Model_next 52 = .ok (.aload_n 0, 1) := by decide +kernel
theorem d_Model_next_53 : decode b_Model_next 53 = .ok (.aload_n 0, 1) := by decide +kernel
theorem d_Model_next_54 : decode b_Model_next 54 = .ok (.getfield 80, 3) := by decide +kernel
theorem d_Model_next_57 : decode b_Model_next 57 = .ok (.putfield 83, 3) := by decide +kernel
theorem d_Model_next_60 : decode b_Model_next 60 = .ok (.aload_n 0, 1) := by decide +kernel
theorem d_Model_next_61 : decode b_Model_next 61 = .ok (.iconst 0, 1) := by decide +kernel
theorem d_Model_next_62 : decode b_Model_next 62 = .ok (.putfield 86, 3) := by decide +kernel
theorem d_Model_next_65 : decode b_Model_next 65 = .ok (.aload_n 0, 1) := by decide +kernel
theorem d_Model_next_66 : decode b_Model_next 66 = .ok (.iconst 0, 1) := by decide +kernel
theorem d_Model_next_67 : decode b_Model_next 67 = .ok (.putfield 89, 3) := by decide +kernel
theorem d_Model_next_70 : decode b_Model_next 70 = .ok (.aload_n 0, 1) := by decide +kernel
theorem d_Model_next_71 : decode b_Model_next 71 = .ok (.getfield 80, 3) := by decide +kernel
theorem d_Model_next_74 : decode b_Model_next 74 = .ok (.aload_n 0, 1) := by decide +kernel
theorem d_Model_next_75 : decode b_Model_next 75 = .ok (.getfield 55, 3) := by decide +kernel
theorem d_Model_next_78 : decode b_Model_next 78 = .ok (.if_icmp .ne 4, 3) := by decide +kernel
theorem d_Model_next_81 : decode b_Model_next 81 = .ok (.return_, 1) := by decide +kernel
theorem d_Model_next_82 : decode b_Model_next 82 = .ok (.aload_n 0, 1) := by decide +kernel
theorem d_Model_next_83 : decode b_Model_next 83 = .ok (.getfield 19, 3) := by decide +kernel
theorem d_Model_next_86 : decode b_Model_next 86 = .ok (.aload_n 0, 1) := by decide +kernel
theorem d_Model_next_87 : decode b_Model_next 87 = .ok (.getfield 80, 3) := by decide +kernel
theorem d_Model_next_90 : decode b_Model_next 90 = .ok (.iaload, 1) := by decide +kernel
theorem d_Model_next_91 : decode b_Model_next 91 = .ok (.istore_n 1, 1) := by decide +kernel
theorem d_Model_next_92 : decode b_Model_next 92 = .ok (.iload_n 1, 1) := by decide +kernel
theorem d_Model_next_93 : decode b_Model_next 93 = .ok (.bipush (97), 2) := by decide +kernel
theorem d_Model_next_95 : decode b_Model_next 95 = .ok (.bipush (122), 2) := by decide +kernel
theorem d_Model_next_97 : decode b_Model_next 97 = .ok (.invokestatic 66, 3) := by decide +kernel
theorem d_Model_next_100 : decode b_Model_next 100 = .ok (.ifCond .eq 117, 3) := by decide +kernel
theorem d_Model_next_103 : decode b_Model_next 103 = .ok (.aload_n 0, 1) := by decide +kernel
theorem d_Model_next_104 : decode b_Model_next 104 = .ok (.getfield 80, 3) := by decide +kernel
theorem d_Model_next_107 : decode b_Model_next 107 = .ok (.aload_n 0, 1) := by decide +kernel
theorem d_Model_next_108 : decode b_Model_next 108 = .ok (.getfield 55, 3) := by decide +kernel
theorem d_Model_next_111 : decode b_Model_next 111 = .ok (.if_icmp .ge 35, 3) := by decide +kernel
theorem d_Model_next_114 : decode b_Model_next 114 = .ok (.aload_n 0, 1) := by decide +kernel
theorem d_Model_next_115 : decode b_Model_next 115 = .ok (.getfield 19, 3) := by decide +kernel
theorem d_Model_next_118 : decode b_Model_next 118 = .ok (.aload_n 0, 1) := by decide +kernel
theorem d_Model_next_119 : decode b_Model_next 119 = .ok (.getfield 80, 3) := by decide +kernel
theorem d_Model_next_122 : decode b_Model_next 122 = .ok (.iaload, 1) := by decide +kernel
theorem d_Model_next_123 : decode b_Model_next 123 = .ok (.bipush (97), 2) := by decide +kernel
theorem d_Model_next_125 : decode b_Model_next 125 = .ok (.bipush (122), 2) := by decide +kernel
theorem d_Model_next_127 : decode b_Model_next 127 = .ok (.invokestatic 66, 3) := by decide +kernel
theorem d_Model_next_130 : decode b_Model_next 130 = .ok (.ifCond .eq 16, 3) := by decide +kernel
theorem d_Model_next_133 : decode b_Model_next 133 = .ok (.aload_n 0, 1) := by decide +kernel
theorem d_Model_next_134 : decode b_Model_next 134 = .ok (.dup, 1) := by decide +kernel
theorem d_Model_next_135 : decode b_Model_next 135 = .ok (.getfield 80, 3) := by decide +kernel
theorem d_Model_next_138 : decode b_Model_next 138 = .ok (.iconst 1, 1) := by decide +kernel
theorem d_Model_next_139 : decode b_Model_next 139 = .ok (.iadd, 1) := by decide +kernel
theorem d_Model_next_140 : decode b_Model_next 140 = .ok (.putfield 80, 3) := by decide +kernel
theorem d_Model_next_143 : decode b_Model_next 143 = .ok (.goto (-40), 3) := by decide +kernel
theorem d_Model_next_146 : decode b_Model_next 146 = .ok (.aload_n 0, 1) := by decide +kernel
theorem d_Model_next_147 : decode b_Model_next 147 = .ok (.aload_n 0, 1) := by decide +kernel
theorem d_Model_next_148 : decode b_Model_next 148 = .ok (.getfield 83, 3) := by decide +kernel
theorem d_Model_next_151 : decode b_Model_next 151 = .ok (.aload_n 0, 1) := by decide +kernel
theorem d_Model_next_152 : decode b_Model_next 152 = .ok (.getfield 80, 3) := by decide +kernel
theorem d_Model_next_155 : decode b_Model_next 155 = .ok (.invokevirtual 92, 3) := by decide +kernel
theorem d_Model_next_158 : decode b_Model_next 158 = .ok (.istore_n 2, 1) := by decide +kernel
theorem d_Model_next_159 : decode b_Model_next 159 = .ok (.aload_n 0, 1) := by decide +kernel
theorem d_Model_next_160 : decode b_Model_next 160 = .ok (.iload_n 2, 1) := by decide +kernel
theorem d_Model_next_161 : decode b_Model_next 161 = .ok (.iconst 3, 1) := by decide +kernel
theorem d_Model_next_162 : decode b_Model_next 162 = .ok (.if_icmp .ge 7, 3) := by decide +kernel
theorem d_Model_next_165 : decode b_Model_next 165 = .ok (.iconst 3, 1) := by decide +kernel
theorem d_Model_next_166 : decode b_Model_next 166 = .ok (.goto 29, 3) := by decide +kernel
theorem d_Model_next_169 : decode b_Model_next 169 = .ok (.iload_n 2, 1) := by decide +kernel
theorem d_Model_next_170 : decode b_Model_next 170 = .ok (.bipush (9), 2) := by decide +kernel
theorem d_Model_next_172 : decode b_Model_next 172 = .ok (.if_icmp .ge 7, 3) := by decide +kernel
theorem d_Model_next_175 : decode b_Model_next 175 = .ok (.iconst 2, 1) := by decide +kernel
theorem d_Model_next_176 : decode b_Model_next 176 = .ok (.goto 19, 3) := by decide +kernel
theorem d_Model_next_179 : decode b_Model_next 179 = .ok (.iload_n 2, 1) := by decide +kernel
theorem d_Model_next_180 : decode b_Model_next 180 = .ok (.bipush (12), 2) := by decide +kernel
theorem d_Model_next_182 : decode b_Model_next 182 = .ok (.if_icmp .ne 7, 3) := by decide +kernel
theorem d_Model_next_185 : decode b_Model_next 185 = .ok (.iconst (-1), 1) := by decide +kernel
theorem d_Model_next_186 : decode b_Model_next 186 = .ok (.goto 9, 3) := by decide +kernel
theorem d_Model_next_189 : decode b_Model_next 189 = .ok (.iconst 4, 1) := by decide +kernel
theorem d_Model_next_190 : decode b_Model_next 190 = .ok (.iload_n 2, 1) := by decide +kernel
theorem d_Model_next_191 : decode b_Model_next 191 = .ok (.iadd, 1) := by decide +kernel
theorem d_Model_next_192 : decode b_Model_next 192 = .ok (.bipush (9), 2) := by decide +kernel
theorem d_Model_next_194 : decode b_Model_next 194 = .ok (.isub, 1) := by decide +kernel
theorem d_Model_next_195 : decode b_Model_next 195 = .ok (.putfield 86, 3) := by decide +kernel
theorem d_Model_next_198 : decode b_Model_next 198 = .ok (.aload_n 0, 1) := by decide +kernel
theorem d_Model_next_199 : decode b_Model_next 199 = .ok (.iload_n 2, 1) := by decide +kernel
theorem d_Model_next_200 : decode b_Model_next 200 = .ok (.iconst 3, 1) := by decide +kernel
theorem d_Model_next_201 : decode b_Model_next 201 = .ok (.if_icmp .ge 7, 3) := by decide +kernel
theorem d_Model_next_204 : decode b_Model_next 204 = .ok (.iload_n 2, 1) := by decide +kernel
theorem d_Model_next_205 : decode b_Model_next 205 = .ok (.goto 6, 3) := by decide +kernel
theorem d_Model_next_208 : decode b_Model_next 208 = .ok (.iload_n 2, 1) := by decide +kernel
theorem d_Model_next_209 : decode b_Model_next 209 = .ok (.iconst 3, 1) := by decide +kernel
theorem d_Model_next_210 : decode b_Model_next 210 = .ok (.isub, 1) := by decide +kernel
theorem d_Model_next_211 : decode b_Model_next 211 = .ok (.putfield 89, 3) := by decide +kernel
theorem d_Model_next_214 : decode b_Model_next 214 = .ok (.goto 189, 3) := by decide +kernel
theorem d_Model_next_217 : decode b_Model_next 217 = .ok (.iload_n 1, 1) := by decide +kernel
theorem d_Model_next_218 : decode b_Model_next 218 = .ok (.bipush (48), 2) := by decide +kernel
theorem d_Model_next_220 : decode b_Model_next 220 = .ok (.bipush (57), 2) := by decide +kernel
theorem d_Model_next_222 : decode b_Model_next 222 = .ok (.invokestatic 66, 3) := by decide +kernel
theorem d_Model_next_225 : decode b_Model_next 225 = .ok (.ifCond .eq 101, 3) := by decide +kernel
theorem d_Model_next_228 : decode b_Model_next 228 = .ok (.iconst 0, 1) := by decide +kernel
theorem d_Model_next_229 : decode b_Model_next 229 = .ok (.istore_n 2, 1) := by decide +kernel
theorem d_Model_next_230 : decode b_Model_next 230 = .ok (.aload_n 0, 1) := by decide +kernel
theorem d_Model_next_231 : decode b_Model_next 231 = .ok (.getfield 80, 3) := by decide +kernel
theorem d_Model_next_234 : decode b_Model_next 234 = .ok (.aload_n 0, 1) := by decide +kernel
theorem d_Model_next_235 : decode b_Model_next 235 = .ok (.getfield 55, 3) := by decide +kernel
theorem d_Model_next_238 : decode b_Model_next 238 = .ok (.if_icmp .ge 71, 3) := by decide +kernel
theorem d_Model_next_241 : decode b_Model_next 241 = .ok (.aload_n 0, 1) := by decide +kernel
theorem d_Model_next_242 : decode b_Model_next 242 = .ok (.getfield 19, 3) := by decide +kernel
theorem d_Model_next_245 : decode b_Model_next 245 = .ok (.aload_n 0, 1) := by decide +kernel
theorem d_Model_next_246 : decode b_Model_next 246 = .ok (.getfield 80, 3) := by decide +kernel
theorem d_Model_next_249 : decode b_Model_next 249 = .ok (.iaload, 1) := by decide +kernel
theorem d_Model_next_250 : decode b_Model_next 250 = .ok (.bipush (48), 2) := by decide +kernel
theorem d_Model_next_252 : decode b_Model_next 252 = .ok (.bipush (57), 2) := by decide +kernel
theorem d_Model_next_254 : decode b_Model_next 254 = .ok (.invokestatic 66, 3) := by decide +kernel
theorem d_Model_next_257 : decode b_Model_next 257 = .ok (.ifCond .eq 52, 3) := by decide +kernel
theorem d_Model_next_260 : decode b_Model_next 260 = .ok (.aload_n 0, 1) := by decide +kernel
theorem d_Model_next_261 : decode b_Model_next 261 = .ok (.iload_n 2, 1) := by decide +kernel
theorem d_Model_next_262 : decode b_Model_next 262 = .ok (.iconst 4, 1) := by decide +kernel
theorem d_Model_next_263 : decode b_Model_next 263 = .ok (.if_icmp .ge 26, 3) := by decide +kernel
theorem d_Model_next_266 : decode b_Model_next 266 = .ok (.bipush (10), 2) := by decide +kernel
theorem d_Model_next_268 : decode b_Model_next 268 = .ok (.aload_n 0, 1) := by decide +kernel
theorem d_Model_next_269 : decode b_Model_next 269 = .ok (.getfield 89, 3) := by decide +kernel
theorem d_Model_next_272 : decode b_Model_next 272 = .ok (.imul, 1) := by decide +kernel
theorem d_Model_next_273 : decode b_Model_next 273 = .ok (.aload_n 0, 1) := by decide +kernel
theorem d_Model_next_274 : decode b_Model_next 274 = .ok (.getfield 19, 3) := by decide +kernel
theorem d_Model_next_277 : decode b_Model_next 277 = .ok (.aload_n 0, 1) := by decide +kernel
theorem d_Model_next_278 : decode b_Model_next 278 = .ok (.getfield 80, 3) := by decide +kernel
theorem d_Model_next_281 : decode b_Model_next 281 = .ok (.iaload, 1) := by decide +kernel
theorem d_Model_next_282 : decode b_Model_next 282 = .ok (.iadd, 1) := by decide +kernel
theorem d_Model_next_283 : decode b_Model_next 283 = .ok (.bipush (48), 2) := by decide +kernel
theorem d_Model_next_285 : decode b_Model_next 285 = .ok (.isub, 1) := by decide +kernel
theorem d_Model_next_286 : decode b_Model_next 286 = .ok (.goto 4, 3) := by decide +kernel
theorem d_Model_next_289 : decode b_Model_next 289 = .ok (.iconst 0, 1) := by decide +kernel
theorem d_Model_next_290 : decode b_Model_next 290 = .ok (.putfield 89, 3) := by decide +kernel
theorem d_Model_next_293 : decode b_Model_next 293 = .ok (.iinc 2 (1), 3) := by decide +kernel
theorem d_Model_next_296 : decode b_Model_next 296 = .ok (.aload_n 0, 1) := by decide +kernel
theorem d_Model_next_297 : decode b_Model_next 297 = .ok (.dup, 1) := by decide +kernel
theorem d_Model_next_298 : decode b_Model_next 298 = .ok (.getfield 80, 3) := by decide +kernel
theorem d_Model_next_301 : decode b_Model_next 301 = .ok (.iconst 1, 1) := by decide +kernel
theorem d_Model_next_302 : decode b_Model_next 302 = .ok (.iadd, 1) := by decide +kernel
theorem d_Model_next_303 : decode b_Model_next 303 = .ok (.putfield 80, 3) := by decide +kernel
theorem d_Model_next_306 : decode b_Model_next 306 = .ok (.goto (-76), 3) := by decide +kernel
theorem d_Model_next_309 : decode b_Model_next 309 = .ok (.aload_n 0, 1) := by decide +kernel
theorem d_Model_next_310 : decode b_Model_next 310 = .ok (.iload_n 2, 1) := by decide +kernel
theorem d_Model_next_311 : decode b_Model_next 311 = .ok (.iconst 4, 1) := by decide +kernel
theorem d_Model_next_312 : decode b_Model_next 312 = .ok (.if_icmp .le 7, 3) := by decide +kernel
theorem d_Model_next_315 : decode b_Model_next 315 = .ok (.iconst (-1), 1) := by decide +kernel
theorem d_Model_next_316 : decode b_Model_next 316 = .ok (.goto 4, 3) := by decide +kernel
theorem d_Model_next_319 : decode b_Model_next 319 = .ok (.iconst 1, 1) := by decide +kernel
theorem d_Model_next_320 : decode b_Model_next 320 = .ok (.putfield 86, 3) := by decide +kernel
theorem d_Model_next_323 : decode b_Model_next 323 = .ok (.goto 80, 3) := by decide +kernel
theorem d_Model_next_326 : decode b_Model_next 326 = .ok (.iload_n 1, 1) := by decide +kernel
theorem d_Model_next_327 : decode b_Model_next 327 = .ok (.bipush (40), 2) := by decide +kernel
theorem d_Model_next_329 : decode b_Model_next 329 = .ok (.if_icmp .eq 45, 3) := by decide +kernel
theorem d_Model_next_332 : decode b_Model_next 332 = .ok (.iload_n 1, 1) := by decide +kernel
theorem d_Model_next_333 : decode b_Model_next 333 = .ok (.bipush (41), 2) := by decide +kernel
theorem d_Model_next_335 : decode b_Model_next 335 = .ok (.if_icmp .eq 39, 3) := by decide +kernel
theorem d_Model_next_338 : decode b_Model_next 338 = .ok (.iload_n 1, 1) := by decide +kernel
theorem d_Model_next_339 : decode b_Model_next 339 = .ok (.bipush (59), 2) := by decide +kernel
theorem d_Model_next_341 : decode b_Model_next 341 = .ok (.if_icmp .eq 33, 3) := by decide +kernel
theorem d_Model_next_344 : decode b_Model_next 344 = .ok (.iload_n 1, 1) := by decide +kernel
theorem d_Model_next_345 : decode b_Model_next 345 = .ok (.bipush (43), 2) := by decide +kernel
theorem d_Model_next_347 : decode b_Model_next 347 = .ok (.if_icmp .eq 27, 3) := by decide +kernel
theorem d_Model_next_350 : decode b_Model_next 350 = .ok (.iload_n 1, 1) := by decide +kernel
theorem d_Model_next_351 : decode b_Model_next 351 = .ok (.bipush (45), 2) := by decide +kernel
theorem d_Model_next_353 : decode b_Model_next 353 = .ok (.if_icmp .eq 21, 3) := by decide +kernel
theorem d_Model_next_356 : decode b_Model_next 356 = .ok (.iload_n 1, 1) := by decide +kernel
theorem d_Model_next_357 : decode b_Model_next 357 = .ok (.bipush (42), 2) := by decide +kernel
theorem d_Model_next_359 : decode b_Model_next 359 = .ok (.if_icmp .eq 15, 3) := by decide +kernel
theorem d_Model_next_362 : decode b_Model_next 362 = .ok (.iload_n 1, 1) := by decide +kernel
theorem d_Model_next_363 : decode b_Model_next 363 = .ok (.bipush (60), 2) := by decide +kernel
theorem d_Model_next_365 : decode b_Model_next 365 = .ok (.if_icmp .eq 9, 3) := by decide +kernel
theorem d_Model_next_368 : decode b_Model_next 368 = .ok (.iload_n 1, 1) := by decide +kernel
theorem d_Model_next_369 : decode b_Model_next 369 = .ok (.bipush (61), 2) := by decide +kernel
theorem d_Model_next_371 : decode b_Model_next 371 = .ok (.if_icmp .ne 7, 3) := by decide +kernel
theorem d_Model_next_374 : decode b_Model_next 374 = .ok (.iconst 1, 1) := by decide +kernel
theorem d_Model_next_375 : decode b_Model_next 375 = .ok (.goto 4, 3) := by decide +kernel
theorem d_Model_next_378 : decode b_Model_next 378 = .ok (.iconst 0, 1) := by decide +kernel
theorem d_Model_next_379 : decode b_Model_next 379 = .ok (.istore_n 2, 1) := by decide +kernel
theorem d_Model_next_380 : decode b_Model_next 380 = .ok (.aload_n 0, 1) := by decide +kernel
theorem d_Model_next_381 : decode b_Model_next 381 = .ok (.iload_n 2, 1) := by decide +kernel
theorem d_Model_next_382 : decode b_Model_next 382 = .ok (.ifCond .eq 7, 3) := by decide +kernel
theorem d_Model_next_385 : decode b_Model_next 385 = .ok (.iload_n 1, 1) := by decide +kernel
theorem d_Model_next_386 : decode b_Model_next 386 = .ok (.goto 4, 3) := by decide +kernel
theorem d_Model_next_389 : decode b_Model_next 389 = .ok (.iconst (-1), 1) := by decide +kernel
theorem d_Model_next_390 : decode b_Model_next 390 = .ok (.putfield 86, 3) := by decide +kernel
theorem d_Model_next_393 : decode b_Model_next 393 = .ok (.aload_n 0, 1) := by decide +kernel
theorem d_Model_next_394 : decode b_Model_next 394 = .ok (.dup, 1) := by decide +kernel
theorem d_Model_next_395 : decode b_Model_next 395 = .ok (.getfield 80, 3) := by decide +kernel
theorem d_Model_next_398 : decode b_Model_next 398 = .ok (.iconst 1, 1) := by decide +kernel
theorem d_Model_next_399 : decode b_Model_next 399 = .ok (.iadd, 1) := by decide +kernel
theorem d_Model_next_400 : decode b_Model_next 400 = .ok (.putfield 80, 3) := by decide +kernel
theorem d_Model_next_403 : decode b_Model_next 403 = .ok (.return_, 1) := by decide +kernel
abbrev b_Model_rank : ByteArray := prog_8_method_12_code
def y_Model_rank : MethodName := ⟨"RoundAndRoundModel", "rank", "(I)I"⟩
theorem d_Model_rank_0 : decode b_Model_rank 0 = .ok (.iload_n 0, 1) := by decide +kernel
theorem d_Model_rank_1 : decode b_Model_rank 1 = .ok (.ifCond .ne 7, 3) := by decide +kernel
theorem d_Model_rank_4 : decode b_Model_rank 4 = .ok (.iconst 0, 1) := by decide +kernel
theorem d_Model_rank_5 : decode b_Model_rank 5 = .ok (.goto 66, 3) := by decide +kernel
theorem d_Model_rank_8 : decode b_Model_rank 8 = .ok (.iload_n 0, 1) := by decide +kernel
theorem d_Model_rank_9 : decode b_Model_rank 9 = .ok (.bipush (11), 2) := by decide +kernel
theorem d_Model_rank_11 : decode b_Model_rank 11 = .ok (.if_icmp .ne 7, 3) := by decide +kernel
theorem d_Model_rank_14 : decode b_Model_rank 14 = .ok (.iconst 1, 1) := by decide +kernel
theorem d_Model_rank_15 : decode b_Model_rank 15 = .ok (.goto 56, 3) := by decide +kernel
theorem d_Model_rank_18 : decode b_Model_rank 18 = .ok (.iload_n 0, 1) := by decide +kernel
theorem d_Model_rank_19 : decode b_Model_rank 19 = .ok (.bipush (12), 2) := by decide +kernel
theorem d_Model_rank_21 : decode b_Model_rank 21 = .ok (.if_icmp .ne 7, 3) := by decide +kernel
theorem d_Model_rank_24 : decode b_Model_rank 24 = .ok (.iconst 2, 1) := by decide +kernel
theorem d_Model_rank_25 : decode b_Model_rank 25 = .ok (.goto 46, 3) := by decide +kernel
theorem d_Model_rank_28 : decode b_Model_rank 28 = .ok (.iload_n 0, 1) := by decide +kernel
theorem d_Model_rank_29 : decode b_Model_rank 29 = .ok (.bipush (13), 2) := by decide +kernel
theorem d_Model_rank_31 : decode b_Model_rank 31 = .ok (.if_icmp .ne 7, 3) := by decide +kernel
theorem d_Model_rank_34 : decode b_Model_rank 34 = .ok (.iconst 3, 1) := by decide +kernel
theorem d_Model_rank_35 : decode b_Model_rank 35 = .ok (.goto 36, 3) := by decide +kernel
theorem d_Model_rank_38 : decode b_Model_rank 38 = .ok (.iload_n 0, 1) := by decide +kernel
theorem d_Model_rank_39 : decode b_Model_rank 39 = .ok (.bipush (15), 2) := by decide +kernel
theorem d_Model_rank_41 : decode b_Model_rank 41 = .ok (.if_icmp .gt 7, 3) := by decide +kernel
theorem d_Model_rank_44 : decode b_Model_rank 44 = .ok (.iconst 4, 1) := by decide +kernel
theorem d_Model_rank_45 : decode b_Model_rank 45 = .ok (.goto 26, 3) := by decide +kernel
theorem d_Model_rank_48 : decode b_Model_rank 48 = .ok (.iload_n 0, 1) := by decide +kernel
theorem d_Model_rank_49 : decode b_Model_rank 49 = .ok (.bipush (17), 2) := by decide +kernel
theorem d_Model_rank_51 : decode b_Model_rank 51 = .ok (.if_icmp .gt 7, 3) := by decide +kernel
theorem d_Model_rank_54 : decode b_Model_rank 54 = .ok (.iconst 5, 1) := by decide +kernel
theorem d_Model_rank_55 : decode b_Model_rank 55 = .ok (.goto 16, 3) := by decide +kernel
theorem d_Model_rank_58 : decode b_Model_rank 58 = .ok (.iload_n 0, 1) := by decide +kernel
theorem d_Model_rank_59 : decode b_Model_rank 59 = .ok (.bipush (18), 2) := by decide +kernel
theorem d_Model_rank_61 : decode b_Model_rank 61 = .ok (.if_icmp .ne 8, 3) := by decide +kernel
theorem d_Model_rank_64 : decode b_Model_rank 64 = .ok (.bipush (6), 2) := by decide +kernel
theorem d_Model_rank_66 : decode b_Model_rank 66 = .ok (.goto 5, 3) := by decide +kernel
theorem d_Model_rank_69 : decode b_Model_rank 69 = .ok (.bipush (7), 2) := by decide +kernel
theorem d_Model_rank_71 : decode b_Model_rank 71 = .ok (.ireturn, 1) := by decide +kernel
abbrev b_Model_puts : ByteArray := prog_8_method_13_code
def y_Model_puts : MethodName := ⟨"RoundAndRoundModel", "puts", "(I)V"⟩
theorem d_Model_puts_0 : decode b_Model_puts 0 = .ok (.aload_n 0, 1) := by decide +kernel
theorem d_Model_puts_1 : decode b_Model_puts 1 = .ok (.getfield 22, 3) := by decide +kernel
theorem d_Model_puts_4 : decode b_Model_puts 4 = .ok (.sipush (200), 3) := by decide +kernel
theorem d_Model_puts_7 : decode b_Model_puts 7 = .ok (.aload_n 0, 1) := by decide +kernel
theorem d_Model_puts_8 : decode b_Model_puts 8 = .ok (.getfield 70, 3) := by decide +kernel
theorem d_Model_puts_11 : decode b_Model_puts 11 = .ok (.imul, 1) := by decide +kernel
theorem d_Model_puts_12 : decode b_Model_puts 12 = .ok (.aload_n 0, 1) := by decide +kernel
theorem d_Model_puts_13 : decode b_Model_puts 13 = .ok (.getfield 96, 3) := by decide +kernel
theorem d_Model_puts_16 : decode b_Model_puts 16 = .ok (.iadd, 1) := by decide +kernel
theorem d_Model_puts_17 : decode b_Model_puts 17 = .ok (.iload_n 1, 1) := by decide +kernel
theorem d_Model_puts_18 : decode b_Model_puts 18 = .ok (.iastore, 1) := by decide +kernel
theorem d_Model_puts_19 : decode b_Model_puts 19 = .ok (.aload_n 0, 1) := by decide +kernel
theorem d_Model_puts_20 : decode b_Model_puts 20 = .ok (.dup, 1) := by decide +kernel
theorem d_Model_puts_21 : decode b_Model_puts 21 = .ok (.getfield 96, 3) := by decide +kernel
theorem d_Model_puts_24 : decode b_Model_puts 24 = .ok (.iconst 1, 1) := by decide +kernel
theorem d_Model_puts_25 : decode b_Model_puts 25 = .ok (.iadd, 1) := by decide +kernel
theorem d_Model_puts_26 : decode b_Model_puts 26 = .ok (.putfield 96, 3) := by decide +kernel
theorem d_Model_puts_29 : decode b_Model_puts 29 = .ok (.return_, 1) := by decide +kernel
abbrev b_Model_unwinds : ByteArray := prog_8_method_14_code
def y_Model_unwinds : MethodName := ⟨"RoundAndRoundModel", "unwinds", "(I)V"⟩
theorem d_Model_unwinds_0 : decode b_Model_unwinds 0 = .ok (.aload_n 0, 1) := by decide +kernel
theorem d_Model_unwinds_1 : decode b_Model_unwinds 1 = .ok (.getfield 99, 3) := by decide +kernel
theorem d_Model_unwinds_4 : decode b_Model_unwinds 4 = .ok (.ifCond .le 75, 3) := by decide +kernel
theorem d_Model_unwinds_7 : decode b_Model_unwinds 7 = .ok (.aload_n 0, 1) := by decide +kernel
theorem d_Model_unwinds_8 : decode b_Model_unwinds 8 = .ok (.getfield 46, 3) := by decide +kernel
theorem d_Model_unwinds_11 : decode b_Model_unwinds 11 = .ok (.aload_n 0, 1) := by decide +kernel
theorem d_Model_unwinds_12 : decode b_Model_unwinds 12 = .ok (.getfield 99, 3) := by decide +kernel
theorem d_Model_unwinds_15 : decode b_Model_unwinds 15 = .ok (.iconst 1, 1) := by decide +kernel
theorem d_Model_unwinds_16 : decode b_Model_unwinds 16 = .ok (.isub, 1) := by decide +kernel
theorem d_Model_unwinds_17 : decode b_Model_unwinds 17 = .ok (.iaload, 1) := by decide +kernel
theorem d_Model_unwinds_18 : decode b_Model_unwinds 18 = .ok (.invokestatic 102, 3) := by decide +kernel
theorem d_Model_unwinds_21 : decode b_Model_unwinds 21 = .ok (.iload_n 1, 1) := by decide +kernel
theorem d_Model_unwinds_22 : decode b_Model_unwinds 22 = .ok (.if_icmp .lt 57, 3) := by decide +kernel
theorem d_Model_unwinds_25 : decode b_Model_unwinds 25 = .ok (.aload_n 0, 1) := by decide +kernel
theorem d_Model_unwinds_26 : decode b_Model_unwinds 26 = .ok (.dup, 1) := by decide +kernel
theorem d_Model_unwinds_27 : decode b_Model_unwinds 27 = .ok (.getfield 99, 3) := by decide +kernel
theorem d_Model_unwinds_30 : decode b_Model_unwinds 30 = .ok (.iconst 1, 1) := by decide +kernel
theorem d_Model_unwinds_31 : decode b_Model_unwinds 31 = .ok (.isub, 1) := by decide +kernel
theorem d_Model_unwinds_32 : decode b_Model_unwinds 32 = .ok (.putfield 99, 3) := by decide +kernel
theorem d_Model_unwinds_35 : decode b_Model_unwinds 35 = .ok (.aload_n 0, 1) := by decide +kernel
theorem d_Model_unwinds_36 : decode b_Model_unwinds 36 = .ok (.getfield 46, 3) := by decide +kernel
theorem d_Model_unwinds_39 : decode b_Model_unwinds 39 = .ok (.aload_n 0, 1) := by decide +kernel
theorem d_Model_unwinds_40 : decode b_Model_unwinds 40 = .ok (.getfield 99, 3) := by decide +kernel
theorem d_Model_unwinds_43 : decode b_Model_unwinds 43 = .ok (.iaload, 1) := by decide +kernel
theorem d_Model_unwinds_44 : decode b_Model_unwinds 44 = .ok (.istore_n 2, 1) := by decide +kernel
theorem d_Model_unwinds_45 : decode b_Model_unwinds 45 = .ok (.aload_n 0, 1) := by decide +kernel
theorem d_Model_unwinds_46 : decode b_Model_unwinds 46 = .ok (.dup, 1) := by decide +kernel
theorem d_Model_unwinds_47 : decode b_Model_unwinds 47 = .ok (.getfield 106, 3) := by decide +kernel
theorem d_Model_unwinds_50 : decode b_Model_unwinds 50 = .ok (.iload_n 2, 1) := by decide +kernel
theorem d_Model_unwinds_51 : decode b_Model_unwinds 51 = .ok (.bipush (13), 2) := by decide +kernel
theorem d_Model_unwinds_53 : decode b_Model_unwinds 53 = .ok (.if_icmp .eq 9, 3) := by decide +kernel
theorem d_Model_unwinds_56 : decode b_Model_unwinds 56 = .ok (.iload_n 2, 1) := by decide +kernel
theorem d_Model_unwinds_57 : decode b_Model_unwinds 57 = .ok (.bipush (19), 2) := by decide +kernel
theorem d_Model_unwinds_59 : decode b_Model_unwinds 59 = .ok (.if_icmp .ne 7, 3) := by decide +kernel
theorem d_Model_unwinds_62 : decode b_Model_unwinds 62 = .ok (.iconst 1, 1) := by decide +kernel
theorem d_Model_unwinds_63 : decode b_Model_unwinds 63 = .ok (.goto 4, 3) := by decide +kernel
theorem d_Model_unwinds_66 : decode b_Model_unwinds 66 = .ok (.iconst 0, 1) := by decide +kernel
theorem d_Model_unwinds_67 : decode b_Model_unwinds 67 = .ok (.isub, 1) := by decide +kernel
theorem d_Model_unwinds_68 : decode b_Model_unwinds 68 = .ok (.putfield 106, 3) := by decide +kernel
theorem d_Model_unwinds_71 : decode b_Model_unwinds 71 = .ok (.aload_n 0, 1) := by decide +kernel
theorem d_Model_unwinds_72 : decode b_Model_unwinds 72 = .ok (.iload_n 2, 1) := by decide +kernel
theorem d_Model_unwinds_73 : decode b_Model_unwinds 73 = .ok (.invokevirtual 109, 3) := by decide +kernel
theorem d_Model_unwinds_76 : decode b_Model_unwinds 76 = .ok (.goto (-76), 3) := by decide +kernel
theorem d_Model_unwinds_79 : decode b_Model_unwinds 79 = .ok (.return_, 1) := by decide +kernel
abbrev b_Model_holds : ByteArray := prog_8_method_15_code
def y_Model_holds : MethodName := ⟨"RoundAndRoundModel", "holds", "(I)V"⟩
theorem d_Model_holds_0 : decode b_Model_holds 0 = .ok (.aload_n 0, 1) := by decide +kernel
theorem d_Model_holds_1 : decode b_Model_holds 1 = .ok (.getfield 46, 3) := by decide +kernel
theorem d_Model_holds_4 : decode b_Model_holds 4 = .ok (.aload_n 0, 1) := by decide +kernel
theorem d_Model_holds_5 : decode b_Model_holds 5 = .ok (.getfield 99, 3) := by decide +kernel
theorem d_Model_holds_8 : decode b_Model_holds 8 = .ok (.iload_n 1, 1) := by decide +kernel
theorem d_Model_holds_9 : decode b_Model_holds 9 = .ok (.iastore, 1) := by decide +kernel
theorem d_Model_holds_10 : decode b_Model_holds 10 = .ok (.aload_n 0, 1) := by decide +kernel
theorem d_Model_holds_11 : decode b_Model_holds 11 = .ok (.dup, 1) := by decide +kernel
theorem d_Model_holds_12 : decode b_Model_holds 12 = .ok (.getfield 99, 3) := by decide +kernel
theorem d_Model_holds_15 : decode b_Model_holds 15 = .ok (.iconst 1, 1) := by decide +kernel
theorem d_Model_holds_16 : decode b_Model_holds 16 = .ok (.iadd, 1) := by decide +kernel
theorem d_Model_holds_17 : decode b_Model_holds 17 = .ok (.putfield 99, 3) := by decide +kernel
theorem d_Model_holds_20 : decode b_Model_holds 20 = .ok (.return_, 1) := by decide +kernel
abbrev b_Model_opensOne : ByteArray := prog_8_method_16_code
def y_Model_opensOne : MethodName := ⟨"RoundAndRoundModel", "opensOne", "(I)Z"⟩
theorem d_Model_opensOne_0 : decode b_Model_opensOne 0 = .ok (.aload_n 0, 1) := by decide +kernel
theorem d_Model_opensOne_1 : decode b_Model_opensOne 1 = .ok (.getfield 106, 3) := by decide +kernel
theorem d_Model_opensOne_4 : decode b_Model_opensOne 4 = .ok (.iconst 5, 1) := by decide +kernel
theorem d_Model_opensOne_5 : decode b_Model_opensOne 5 = .ok (.if_icmp .ne 5, 3) := by decide +kernel
theorem d_Model_opensOne_8 : decode b_Model_opensOne 8 = .ok (.iconst 0, 1) := by decide +kernel
theorem d_Model_opensOne_9 : decode b_Model_opensOne 9 = .ok (.ireturn, 1) := by decide +kernel
theorem d_Model_opensOne_10 : decode b_Model_opensOne 10 = .ok (.aload_n 0, 1) := by decide +kernel
theorem d_Model_opensOne_11 : decode b_Model_opensOne 11 = .ok (.dup, 1) := by decide +kernel
theorem d_Model_opensOne_12 : decode b_Model_opensOne 12 = .ok (.getfield 106, 3) := by decide +kernel
theorem d_Model_opensOne_15 : decode b_Model_opensOne 15 = .ok (.iconst 1, 1) := by decide +kernel
theorem d_Model_opensOne_16 : decode b_Model_opensOne 16 = .ok (.iadd, 1) := by decide +kernel
theorem d_Model_opensOne_17 : decode b_Model_opensOne 17 = .ok (.putfield 106, 3) := by decide +kernel
theorem d_Model_opensOne_20 : decode b_Model_opensOne 20 = .ok (.aload_n 0, 1) := by decide +kernel
theorem d_Model_opensOne_21 : decode b_Model_opensOne 21 = .ok (.iload_n 1, 1) := by decide +kernel
theorem d_Model_opensOne_22 : decode b_Model_opensOne 22 = .ok (.invokevirtual 113, 3) := by decide +kernel
theorem d_Model_opensOne_25 : decode b_Model_opensOne 25 = .ok (.iconst 1, 1) := by decide +kernel
theorem d_Model_opensOne_26 : decode b_Model_opensOne 26 = .ok (.ireturn, 1) := by decide +kernel
abbrev b_Model_between : ByteArray := prog_8_method_17_code
def y_Model_between : MethodName := ⟨"RoundAndRoundModel", "between", "(I)Z"⟩
theorem d_Model_between_0 : decode b_Model_between 0 = .ok (.aload_n 0, 1) := by decide +kernel
theorem d_Model_between_1 : decode b_Model_between 1 = .ok (.iload_n 1, 1) := by decide +kernel
theorem d_Model_between_2 : decode b_Model_between 2 = .ok (.invokestatic 102, 3) := by decide +kernel
theorem d_Model_between_5 : decode b_Model_between 5 = .ok (.iconst 4, 1) := by decide +kernel
theorem d_Model_between_6 : decode b_Model_between 6 = .ok (.if_icmp .ne 7, 3) := by decide +kernel
theorem d_Model_between_9 : decode b_Model_between 9 = .ok (.iconst 5, 1) := by decide +kernel
theorem d_Model_between_10 : decode b_Model_between 10 = .ok (.goto 7, 3) := by decide +kernel
theorem d_Model_between_13 : decode b_Model_between 13 = .ok (.iload_n 1, 1) := by decide +kernel
theorem d_Model_between_14 : decode b_Model_between 14 = .ok (.invokestatic 102, 3) := by decide +kernel
theorem d_Model_between_17 : decode b_Model_between 17 = .ok (.invokevirtual 116, 3) := by decide +kernel
theorem d_Model_between_20 : decode b_Model_between 20 = .ok (.iload_n 1, 1) := by decide +kernel
theorem d_Model_between_21 : decode b_Model_between 21 = .ok (.invokestatic 102, 3) := by decide +kernel
theorem d_Model_between_24 : decode b_Model_between 24 = .ok (.iconst 4, 1) := by decide +kernel
theorem d_Model_between_25 : decode b_Model_between 25 = .ok (.if_icmp .ne 30, 3) := by decide +kernel
theorem d_Model_between_28 : decode b_Model_between 28 = .ok (.aload_n 0, 1) := by decide +kernel
theorem d_Model_between_29 : decode b_Model_between 29 = .ok (.getfield 99, 3) := by decide +kernel
theorem d_Model_between_32 : decode b_Model_between 32 = .ok (.ifCond .le 23, 3) := by decide +kernel
theorem d_Model_between_35 : decode b_Model_between 35 = .ok (.aload_n 0, 1) := by decide +kernel
theorem d_Model_between_36 : decode b_Model_between 36 = .ok (.getfield 46, 3) := by decide +kernel
theorem d_Model_between_39 : decode b_Model_between 39 = .ok (.aload_n 0, 1) := by decide +kernel
theorem d_Model_between_40 : decode b_Model_between 40 = .ok (.getfield 99, 3) := by decide +kernel
theorem d_Model_between_43 : decode b_Model_between 43 = .ok (.iconst 1, 1) := by decide +kernel
theorem d_Model_between_44 : decode b_Model_between 44 = .ok (.isub, 1) := by decide +kernel
theorem d_Model_between_45 : decode b_Model_between 45 = .ok (.iaload, 1) := by decide +kernel
theorem d_Model_between_46 : decode b_Model_between 46 = .ok (.invokestatic 102, 3) := by decide +kernel
theorem d_Model_between_49 : decode b_Model_between 49 = .ok (.iconst 4, 1) := by decide +kernel
theorem d_Model_between_50 : decode b_Model_between 50 = .ok (.if_icmp .ne 5, 3) := by decide +kernel
theorem d_Model_between_53 : decode b_Model_between 53 = .ok (.iconst 0, 1) := by decide +kernel
theorem d_Model_between_54 : decode b_Model_between 54 = .ok (.ireturn, 1) := by decide +kernel
theorem d_Model_between_55 : decode b_Model_between 55 = .ok (.aload_n 0, 1) := by decide +kernel
theorem d_Model_between_56 : decode b_Model_between 56 = .ok (.iload_n 1, 1) := by decide +kernel
theorem d_Model_between_57 : decode b_Model_between 57 = .ok (.invokevirtual 113, 3) := by decide +kernel
theorem d_Model_between_60 : decode b_Model_between 60 = .ok (.iconst 1, 1) := by decide +kernel
theorem d_Model_between_61 : decode b_Model_between 61 = .ok (.ireturn, 1) := by decide +kernel
abbrev b_Model_signOf : ByteArray := prog_8_method_18_code
def y_Model_signOf : MethodName := ⟨"RoundAndRoundModel", "signOf", "()I"⟩
theorem d_Model_signOf_0 : decode b_Model_signOf 0 = .ok (.aload_n 0, 1) := by decide +kernel
theorem d_Model_signOf_1 : decode b_Model_signOf 1 = .ok (.getfield 86, 3) := by decide +kernel
theorem d_Model_signOf_4 : decode b_Model_signOf 4 = .ok (.iconst 4, 1) := by decide +kernel
theorem d_Model_signOf_5 : decode b_Model_signOf 5 = .ok (.if_icmp .ne 8, 3) := by decide +kernel
theorem d_Model_signOf_8 : decode b_Model_signOf 8 = .ok (.bipush (11), 2) := by decide +kernel
theorem d_Model_signOf_10 : decode b_Model_signOf 10 = .ok (.goto 87, 3) := by decide +kernel
theorem d_Model_signOf_13 : decode b_Model_signOf 13 = .ok (.aload_n 0, 1) := by decide +kernel
theorem d_Model_signOf_14 : decode b_Model_signOf 14 = .ok (.getfield 86, 3) := by decide +kernel
theorem d_Model_signOf_17 : decode b_Model_signOf 17 = .ok (.iconst 5, 1) := by decide +kernel
theorem d_Model_signOf_18 : decode b_Model_signOf 18 = .ok (.if_icmp .ne 8, 3) := by decide +kernel
theorem d_Model_signOf_21 : decode b_Model_signOf 21 = .ok (.bipush (12), 2) := by decide +kernel
theorem d_Model_signOf_23 : decode b_Model_signOf 23 = .ok (.goto 74, 3) := by decide +kernel
theorem d_Model_signOf_26 : decode b_Model_signOf 26 = .ok (.aload_n 0, 1) := by decide +kernel
theorem d_Model_signOf_27 : decode b_Model_signOf 27 = .ok (.getfield 86, 3) := by decide +kernel
theorem d_Model_signOf_30 : decode b_Model_signOf 30 = .ok (.bipush (60), 2) := by decide +kernel
theorem d_Model_signOf_32 : decode b_Model_signOf 32 = .ok (.if_icmp .ne 8, 3) := by decide +kernel
theorem d_Model_signOf_35 : decode b_Model_signOf 35 = .ok (.bipush (14), 2) := by decide +kernel
theorem d_Model_signOf_37 : decode b_Model_signOf 37 = .ok (.goto 60, 3) := by decide +kernel
theorem d_Model_signOf_40 : decode b_Model_signOf 40 = .ok (.aload_n 0, 1) := by decide +kernel
theorem d_Model_signOf_41 : decode b_Model_signOf 41 = .ok (.getfield 86, 3) := by decide +kernel
theorem d_Model_signOf_44 : decode b_Model_signOf 44 = .ok (.bipush (61), 2) := by decide +kernel
theorem d_Model_signOf_46 : decode b_Model_signOf 46 = .ok (.if_icmp .ne 8, 3) := by decide +kernel
theorem d_Model_signOf_49 : decode b_Model_signOf 49 = .ok (.bipush (15), 2) := by decide +kernel
theorem d_Model_signOf_51 : decode b_Model_signOf 51 = .ok (.goto 46, 3) := by decide +kernel
theorem d_Model_signOf_54 : decode b_Model_signOf 54 = .ok (.aload_n 0, 1) := by decide +kernel
theorem d_Model_signOf_55 : decode b_Model_signOf 55 = .ok (.getfield 86, 3) := by decide +kernel
theorem d_Model_signOf_58 : decode b_Model_signOf 58 = .ok (.bipush (43), 2) := by decide +kernel
theorem d_Model_signOf_60 : decode b_Model_signOf 60 = .ok (.if_icmp .ne 8, 3) := by decide +kernel
theorem d_Model_signOf_63 : decode b_Model_signOf 63 = .ok (.bipush (16), 2) := by decide +kernel
theorem d_Model_signOf_65 : decode b_Model_signOf 65 = .ok (.goto 32, 3) := by decide +kernel
theorem d_Model_signOf_68 : decode b_Model_signOf 68 = .ok (.aload_n 0, 1) := by decide +kernel
theorem d_Model_signOf_69 : decode b_Model_signOf 69 = .ok (.getfield 86, 3) := by decide +kernel
theorem d_Model_signOf_72 : decode b_Model_signOf 72 = .ok (.bipush (45), 2) := by decide +kernel
theorem d_Model_signOf_74 : decode b_Model_signOf 74 = .ok (.if_icmp .ne 8, 3) := by decide +kernel
theorem d_Model_signOf_77 : decode b_Model_signOf 77 = .ok (.bipush (17), 2) := by decide +kernel
theorem d_Model_signOf_79 : decode b_Model_signOf 79 = .ok (.goto 18, 3) := by decide +kernel
theorem d_Model_signOf_82 : decode b_Model_signOf 82 = .ok (.aload_n 0, 1) := by decide +kernel
theorem d_Model_signOf_83 : decode b_Model_signOf 83 = .ok (.getfield 86, 3) := by decide +kernel
theorem d_Model_signOf_86 : decode b_Model_signOf 86 = .ok (.bipush (42), 2) := by decide +kernel
theorem d_Model_signOf_88 : decode b_Model_signOf 88 = .ok (.if_icmp .ne 8, 3) := by decide +kernel
theorem d_Model_signOf_91 : decode b_Model_signOf 91 = .ok (.bipush (18), 2) := by decide +kernel
theorem d_Model_signOf_93 : decode b_Model_signOf 93 = .ok (.goto 4, 3) := by decide +kernel
theorem d_Model_signOf_96 : decode b_Model_signOf 96 = .ok (.iconst (-1), 1) := by decide +kernel
theorem d_Model_signOf_97 : decode b_Model_signOf 97 = .ok (.ireturn, 1) := by decide +kernel
abbrev b_Model_eRead : ByteArray := prog_8_method_19_code
def y_Model_eRead : MethodName := ⟨"RoundAndRoundModel", "eRead", "()Z"⟩
theorem d_Model_eRead_0 : decode b_Model_eRead 0 = .ok (.aload_n 0, 1) := by decide +kernel
theorem d_Model_eRead_1 : decode b_Model_eRead 1 = .ok (.iconst 0, 1) := by decide +kernel
theorem d_Model_eRead_2 : decode b_Model_eRead 2 = .ok (.putfield 99, 3) := by decide +kernel
theorem d_Model_eRead_5 : decode b_Model_eRead 5 = .ok (.aload_n 0, 1) := by decide +kernel
theorem d_Model_eRead_6 : decode b_Model_eRead 6 = .ok (.iconst 0, 1) := by decide +kernel
theorem d_Model_eRead_7 : decode b_Model_eRead 7 = .ok (.putfield 106, 3) := by decide +kernel
theorem d_Model_eRead_10 : decode b_Model_eRead 10 = .ok (.iconst 1, 1) := by decide +kernel
theorem d_Model_eRead_11 : decode b_Model_eRead 11 = .ok (.istore_n 1, 1) := by decide +kernel
theorem d_Model_eRead_12 : decode b_Model_eRead 12 = .ok (.iconst 1, 1) := by decide +kernel
theorem d_Model_eRead_13 : decode b_Model_eRead 13 = .ok (.istore_n 2, 1) := by decide +kernel
theorem d_Model_eRead_14 : decode b_Model_eRead 14 = .ok (.aload_n 0, 1) := by decide +kernel
theorem d_Model_eRead_15 : decode b_Model_eRead 15 = .ok (.invokevirtual 119, 3) := by decide +kernel
theorem d_Model_eRead_18 : decode b_Model_eRead 18 = .ok (.iload_n 1, 1) := by decide +kernel
theorem d_Model_eRead_19 : decode b_Model_eRead 19 = .ok (.ifCond .eq 131, 3) := by decide +kernel
theorem d_Model_eRead_22 : decode b_Model_eRead 22 = .ok (.aload_n 0, 1) := by decide +kernel
theorem d_Model_eRead_23 : decode b_Model_eRead 23 = .ok (.getfield 86, 3) := by decide +kernel
theorem d_Model_eRead_26 : decode b_Model_eRead 26 = .ok (.iconst 1, 1) := by decide +kernel
theorem d_Model_eRead_27 : decode b_Model_eRead 27 = .ok (.if_icmp .eq 11, 3) := by decide +kernel
theorem d_Model_eRead_30 : decode b_Model_eRead 30 = .ok (.aload_n 0, 1) := by decide +kernel
theorem d_Model_eRead_31 : decode b_Model_eRead 31 = .ok (.getfield 86, 3) := by decide +kernel
theorem d_Model_eRead_34 : decode b_Model_eRead 34 = .ok (.iconst 2, 1) := by decide +kernel
theorem d_Model_eRead_35 : decode b_Model_eRead 35 = .ok (.if_icmp .ne 40, 3) := by decide +kernel
theorem d_Model_eRead_38 : decode b_Model_eRead 38 = .ok (.aload_n 0, 1) := by decide +kernel
theorem d_Model_eRead_39 : decode b_Model_eRead 39 = .ok (.aload_n 0, 1) := by decide +kernel
theorem d_Model_eRead_40 : decode b_Model_eRead 40 = .ok (.getfield 86, 3) := by decide +kernel
theorem d_Model_eRead_43 : decode b_Model_eRead 43 = .ok (.iconst 1, 1) := by decide +kernel
theorem d_Model_eRead_44 : decode b_Model_eRead 44 = .ok (.if_icmp .ne 13, 3) := by decide +kernel
theorem d_Model_eRead_47 : decode b_Model_eRead 47 = .ok (.ldc 122, 2) := by decide +kernel
theorem d_Model_eRead_49 : decode b_Model_eRead 49 = .ok (.aload_n 0, 1) := by decide +kernel
theorem d_Model_eRead_50 : decode b_Model_eRead 50 = .ok (.getfield 89, 3) := by decide +kernel
theorem d_Model_eRead_53 : decode b_Model_eRead 53 = .ok (.iadd, 1) := by decide +kernel
theorem d_Model_eRead_54 : decode b_Model_eRead 54 = .ok (.goto 7, 3) := by decide +kernel
theorem d_Model_eRead_57 : decode b_Model_eRead 57 = .ok (.aload_n 0, 1) := by decide +kernel
theorem d_Model_eRead_58 : decode b_Model_eRead 58 = .ok (.getfield 89, 3) := by decide +kernel
theorem d_Model_eRead_61 : decode b_Model_eRead 61 = .ok (.invokevirtual 109, 3) := by decide +kernel
theorem d_Model_eRead_64 : decode b_Model_eRead 64 = .ok (.aload_n 0, 1) := by decide +kernel
theorem d_Model_eRead_65 : decode b_Model_eRead 65 = .ok (.bipush (7), 2) := by decide +kernel
theorem d_Model_eRead_67 : decode b_Model_eRead 67 = .ok (.invokevirtual 116, 3) := by decide +kernel
theorem d_Model_eRead_70 : decode b_Model_eRead 70 = .ok (.iconst 0, 1) := by decide +kernel
theorem d_Model_eRead_71 : decode b_Model_eRead 71 = .ok (.istore_n 1, 1) := by decide +kernel
theorem d_Model_eRead_72 : decode b_Model_eRead 72 = .ok (.goto (-58), 3) := by decide +kernel
theorem d_Model_eRead_75 : decode b_Model_eRead 75 = .ok (.aload_n 0, 1) := by decide +kernel
theorem d_Model_eRead_76 : decode b_Model_eRead 76 = .ok (.getfield 86, 3) := by decide +kernel
theorem d_Model_eRead_79 : decode b_Model_eRead 79 = .ok (.bipush (6), 2) := by decide +kernel
theorem d_Model_eRead_81 : decode b_Model_eRead 81 = .ok (.if_icmp .ne 18, 3) := by decide +kernel
theorem d_Model_eRead_84 : decode b_Model_eRead 84 = .ok (.iload_n 2, 1) := by decide +kernel
theorem d_Model_eRead_85 : decode b_Model_eRead 85 = .ok (.ifCond .eq 14, 3) := by decide +kernel
theorem d_Model_eRead_88 : decode b_Model_eRead 88 = .ok (.aload_n 0, 1) := by decide +kernel
theorem d_Model_eRead_89 : decode b_Model_eRead 89 = .ok (.bipush (13), 2) := by decide +kernel
theorem d_Model_eRead_91 : decode b_Model_eRead 91 = .ok (.invokevirtual 123, 3) := by decide +kernel
theorem d_Model_eRead_94 : decode b_Model_eRead 94 = .ok (.ifCond .ne (-80), 3) := by decide +kernel
theorem d_Model_eRead_97 : decode b_Model_eRead 97 = .ok (.iconst 0, 1) := by decide +kernel
theorem d_Model_eRead_98 : decode b_Model_eRead 98 = .ok (.ireturn, 1) := by decide +kernel
theorem d_Model_eRead_99 : decode b_Model_eRead 99 = .ok (.aload_n 0, 1) := by decide +kernel
theorem d_Model_eRead_100 : decode b_Model_eRead 100 = .ok (.getfield 86, 3) := by decide +kernel
theorem d_Model_eRead_103 : decode b_Model_eRead 103 = .ok (.bipush (45), 2) := by decide +kernel
theorem d_Model_eRead_105 : decode b_Model_eRead 105 = .ok (.if_icmp .ne 19, 3) := by decide +kernel
theorem d_Model_eRead_108 : decode b_Model_eRead 108 = .ok (.aload_n 0, 1) := by decide +kernel
theorem d_Model_eRead_109 : decode b_Model_eRead 109 = .ok (.bipush (19), 2) := by decide +kernel
theorem d_Model_eRead_111 : decode b_Model_eRead 111 = .ok (.invokevirtual 123, 3) := by decide +kernel
theorem d_Model_eRead_114 : decode b_Model_eRead 114 = .ok (.ifCond .ne 5, 3) := by decide +kernel
theorem d_Model_eRead_117 : decode b_Model_eRead 117 = .ok (.iconst 0, 1) := by decide +kernel
theorem d_Model_eRead_118 : decode b_Model_eRead 118 = .ok (.ireturn, 1) := by decide +kernel
theorem d_Model_eRead_119 : decode b_Model_eRead 119 = .ok (.iconst 0, 1) := by decide +kernel
theorem d_Model_eRead_120 : decode b_Model_eRead 120 = .ok (.istore_n 2, 1) := by decide +kernel
theorem d_Model_eRead_121 : decode b_Model_eRead 121 = .ok (.goto (-107), 3) := by decide +kernel
theorem d_Model_eRead_124 : decode b_Model_eRead 124 = .ok (.aload_n 0, 1) := by decide +kernel
theorem d_Model_eRead_125 : decode b_Model_eRead 125 = .ok (.getfield 86, 3) := by decide +kernel
theorem d_Model_eRead_128 : decode b_Model_eRead 128 = .ok (.bipush (40), 2) := by decide +kernel
theorem d_Model_eRead_130 : decode b_Model_eRead 130 = .ok (.if_icmp .ne 18, 3) := by decide +kernel
theorem d_Model_eRead_133 : decode b_Model_eRead 133 = .ok (.aload_n 0, 1) := by decide +kernel
theorem d_Model_eRead_134 : decode b_Model_eRead 134 = .ok (.iconst 0, 1) := by decide +kernel
theorem d_Model_eRead_135 : decode b_Model_eRead 135 = .ok (.invokevirtual 123, 3) := by decide +kernel
theorem d_Model_eRead_138 : decode b_Model_eRead 138 = .ok (.ifCond .ne 5, 3) := by decide +kernel
theorem d_Model_eRead_141 : decode b_Model_eRead 141 = .ok (.iconst 0, 1) := by decide +kernel
theorem d_Model_eRead_142 : decode b_Model_eRead 142 = .ok (.ireturn, 1) := by decide +kernel
theorem d_Model_eRead_143 : decode b_Model_eRead 143 = .ok (.iconst 1, 1) := by decide +kernel
theorem d_Model_eRead_144 : decode b_Model_eRead 144 = .ok (.istore_n 2, 1) := by decide +kernel
theorem d_Model_eRead_145 : decode b_Model_eRead 145 = .ok (.goto (-131), 3) := by decide +kernel
theorem d_Model_eRead_148 : decode b_Model_eRead 148 = .ok (.iconst 0, 1) := by decide +kernel
theorem d_Model_eRead_149 : decode b_Model_eRead 149 = .ok (.ireturn, 1) := by decide +kernel
theorem d_Model_eRead_150 : decode b_Model_eRead 150 = .ok (.aload_n 0, 1) := by decide +kernel
theorem d_Model_eRead_151 : decode b_Model_eRead 151 = .ok (.getfield 86, 3) := by decide +kernel
theorem d_Model_eRead_154 : decode b_Model_eRead 154 = .ok (.bipush (59), 2) := by decide +kernel
theorem d_Model_eRead_156 : decode b_Model_eRead 156 = .ok (.if_icmp .ne 21, 3) := by decide +kernel
theorem d_Model_eRead_159 : decode b_Model_eRead 159 = .ok (.aload_n 0, 1) := by decide +kernel
theorem d_Model_eRead_160 : decode b_Model_eRead 160 = .ok (.iconst 1, 1) := by decide +kernel
theorem d_Model_eRead_161 : decode b_Model_eRead 161 = .ok (.invokevirtual 116, 3) := by decide +kernel
theorem d_Model_eRead_164 : decode b_Model_eRead 164 = .ok (.aload_n 0, 1) := by decide +kernel
theorem d_Model_eRead_165 : decode b_Model_eRead 165 = .ok (.getfield 99, 3) := by decide +kernel
theorem d_Model_eRead_168 : decode b_Model_eRead 168 = .ok (.ifCond .ne 7, 3) := by decide +kernel
theorem d_Model_eRead_171 : decode b_Model_eRead 171 = .ok (.iconst 1, 1) := by decide +kernel
theorem d_Model_eRead_172 : decode b_Model_eRead 172 = .ok (.goto 4, 3) := by decide +kernel
theorem d_Model_eRead_175 : decode b_Model_eRead 175 = .ok (.iconst 0, 1) := by decide +kernel
theorem d_Model_eRead_176 : decode b_Model_eRead 176 = .ok (.ireturn, 1) := by decide +kernel
theorem d_Model_eRead_177 : decode b_Model_eRead 177 = .ok (.aload_n 0, 1) := by decide +kernel
theorem d_Model_eRead_178 : decode b_Model_eRead 178 = .ok (.getfield 86, 3) := by decide +kernel
theorem d_Model_eRead_181 : decode b_Model_eRead 181 = .ok (.bipush (41), 2) := by decide +kernel
theorem d_Model_eRead_183 : decode b_Model_eRead 183 = .ok (.if_icmp .ne 46, 3) := by decide +kernel
theorem d_Model_eRead_186 : decode b_Model_eRead 186 = .ok (.aload_n 0, 1) := by decide +kernel
theorem d_Model_eRead_187 : decode b_Model_eRead 187 = .ok (.iconst 1, 1) := by decide +kernel
theorem d_Model_eRead_188 : decode b_Model_eRead 188 = .ok (.invokevirtual 116, 3) := by decide +kernel
theorem d_Model_eRead_191 : decode b_Model_eRead 191 = .ok (.aload_n 0, 1) := by decide +kernel
theorem d_Model_eRead_192 : decode b_Model_eRead 192 = .ok (.getfield 99, 3) := by decide +kernel
theorem d_Model_eRead_195 : decode b_Model_eRead 195 = .ok (.ifCond .ne 5, 3) := by decide +kernel
theorem d_Model_eRead_198 : decode b_Model_eRead 198 = .ok (.iconst 0, 1) := by decide +kernel
theorem d_Model_eRead_199 : decode b_Model_eRead 199 = .ok (.ireturn, 1) := by decide +kernel
theorem d_Model_eRead_200 : decode b_Model_eRead 200 = .ok (.aload_n 0, 1) := by decide +kernel
theorem d_Model_eRead_201 : decode b_Model_eRead 201 = .ok (.dup, 1) := by decide +kernel
theorem d_Model_eRead_202 : decode b_Model_eRead 202 = .ok (.getfield 99, 3) := by decide +kernel
theorem d_Model_eRead_205 : decode b_Model_eRead 205 = .ok (.iconst 1, 1) := by decide +kernel
theorem d_Model_eRead_206 : decode b_Model_eRead 206 = .ok (.isub, 1) := by decide +kernel
theorem d_Model_eRead_207 : decode b_Model_eRead 207 = .ok (.putfield 99, 3) := by decide +kernel
theorem d_Model_eRead_210 : decode b_Model_eRead 210 = .ok (.aload_n 0, 1) := by decide +kernel
theorem d_Model_eRead_211 : decode b_Model_eRead 211 = .ok (.dup, 1) := by decide +kernel
theorem d_Model_eRead_212 : decode b_Model_eRead 212 = .ok (.getfield 106, 3) := by decide +kernel
theorem d_Model_eRead_215 : decode b_Model_eRead 215 = .ok (.iconst 1, 1) := by decide +kernel
theorem d_Model_eRead_216 : decode b_Model_eRead 216 = .ok (.isub, 1) := by decide +kernel
theorem d_Model_eRead_217 : decode b_Model_eRead 217 = .ok (.putfield 106, 3) := by decide +kernel
theorem d_Model_eRead_220 : decode b_Model_eRead 220 = .ok (.aload_n 0, 1) := by decide +kernel
theorem d_Model_eRead_221 : decode b_Model_eRead 221 = .ok (.bipush (7), 2) := by decide +kernel
theorem d_Model_eRead_223 : decode b_Model_eRead 223 = .ok (.invokevirtual 116, 3) := by decide +kernel
theorem d_Model_eRead_226 : decode b_Model_eRead 226 = .ok (.goto (-212), 3) := by decide +kernel
theorem d_Model_eRead_229 : decode b_Model_eRead 229 = .ok (.aload_n 0, 1) := by decide +kernel
theorem d_Model_eRead_230 : decode b_Model_eRead 230 = .ok (.invokevirtual 126, 3) := by decide +kernel
theorem d_Model_eRead_233 : decode b_Model_eRead 233 = .ok (.istore_n 3, 1) := by decide +kernel
theorem d_Model_eRead_234 : decode b_Model_eRead 234 = .ok (.iload_n 3, 1) := by decide +kernel
theorem d_Model_eRead_235 : decode b_Model_eRead 235 = .ok (.iconst (-1), 1) := by decide +kernel
theorem d_Model_eRead_236 : decode b_Model_eRead 236 = .ok (.if_icmp .eq 11, 3) := by decide +kernel
theorem d_Model_eRead_239 : decode b_Model_eRead 239 = .ok (.aload_n 0, 1) := by decide +kernel
theorem d_Model_eRead_240 : decode b_Model_eRead 240 = .ok (.iload_n 3, 1) := by decide +kernel
theorem d_Model_eRead_241 : decode b_Model_eRead 241 = .ok (.invokevirtual 129, 3) := by decide +kernel
theorem d_Model_eRead_244 : decode b_Model_eRead 244 = .ok (.ifCond .ne 5, 3) := by decide +kernel
theorem d_Model_eRead_247 : decode b_Model_eRead 247 = .ok (.iconst 0, 1) := by decide +kernel
theorem d_Model_eRead_248 : decode b_Model_eRead 248 = .ok (.ireturn, 1) := by decide +kernel
theorem d_Model_eRead_249 : decode b_Model_eRead 249 = .ok (.iconst 1, 1) := by decide +kernel
theorem d_Model_eRead_250 : decode b_Model_eRead 250 = .ok (.istore_n 1, 1) := by decide +kernel
theorem d_Model_eRead_251 : decode b_Model_eRead 251 = .ok (.iload_n 3, 1) := by decide +kernel
theorem d_Model_eRead_252 : decode b_Model_eRead 252 = .ok (.bipush (12), 2) := by decide +kernel
theorem d_Model_eRead_254 : decode b_Model_eRead 254 = .ok (.if_icmp .gt 7, 3) := by decide +kernel
theorem d_Model_eRead_257 : decode b_Model_eRead 257 = .ok (.iconst 1, 1) := by decide +kernel
theorem d_Model_eRead_258 : decode b_Model_eRead 258 = .ok (.goto 4, 3) := by decide +kernel
theorem d_Model_eRead_261 : decode b_Model_eRead 261 = .ok (.iconst 0, 1) := by decide +kernel
theorem d_Model_eRead_262 : decode b_Model_eRead 262 = .ok (.istore_n 2, 1) := by decide +kernel
theorem d_Model_eRead_263 : decode b_Model_eRead 263 = .ok (.goto (-249), 3) := by decide +kernel
abbrev b_Model_text : ByteArray := prog_8_method_20_code
def y_Model_text : MethodName := ⟨"RoundAndRoundModel", "text", "()I"⟩
theorem d_Model_text_0 : decode b_Model_text 0 = .ok (.aload_n 0, 1) := by decide +kernel
theorem d_Model_text_1 : decode b_Model_text 1 = .ok (.getfield 70, 3) := by decide +kernel
theorem d_Model_text_4 : decode b_Model_text 4 = .ok (.bipush (6), 2) := by decide +kernel
theorem d_Model_text_6 : decode b_Model_text 6 = .ok (.if_icmp .ne 6, 3) := by decide +kernel
theorem d_Model_text_9 : decode b_Model_text 9 = .ok (.bipush (-4), 2) := by decide +kernel
theorem d_Model_text_11 : decode b_Model_text 11 = .ok (.ireturn, 1) := by decide +kernel
theorem d_Model_text_12 : decode b_Model_text 12 = .ok (.aload_n 0, 1) := by decide +kernel
theorem d_Model_text_13 : decode b_Model_text 13 = .ok (.iconst 0, 1) := by decide +kernel
theorem d_Model_text_14 : decode b_Model_text 14 = .ok (.putfield 80, 3) := by decide +kernel
theorem d_Model_text_17 : decode b_Model_text 17 = .ok (.aload_n 0, 1) := by decide +kernel
theorem d_Model_text_18 : decode b_Model_text 18 = .ok (.iconst 0, 1) := by decide +kernel
theorem d_Model_text_19 : decode b_Model_text 19 = .ok (.putfield 96, 3) := by decide +kernel
theorem d_Model_text_22 : decode b_Model_text 22 = .ok (.iconst 1, 1) := by decide +kernel
theorem d_Model_text_23 : decode b_Model_text 23 = .ok (.istore_n 1, 1) := by decide +kernel
theorem d_Model_text_24 : decode b_Model_text 24 = .ok (.iconst 0, 1) := by decide +kernel
theorem d_Model_text_25 : decode b_Model_text 25 = .ok (.istore_n 2, 1) := by decide +kernel
theorem d_Model_text_26 : decode b_Model_text 26 = .ok (.iload_n 2, 1) := by decide +kernel
theorem d_Model_text_27 : decode b_Model_text 27 = .ok (.iconst 3, 1) := by decide +kernel
theorem d_Model_text_28 : decode b_Model_text 28 = .ok (.if_icmp .ge 73, 3) := by decide +kernel
theorem d_Model_text_31 : decode b_Model_text 31 = .ok (.iload_n 1, 1) := by decide +kernel
theorem d_Model_text_32 : decode b_Model_text 32 = .ok (.ifCond .eq 69, 3) := by decide +kernel
theorem d_Model_text_35 : decode b_Model_text 35 = .ok (.aload_n 0, 1) := by decide +kernel
theorem d_Model_text_36 : decode b_Model_text 36 = .ok (.invokevirtual 119, 3) := by decide +kernel
theorem d_Model_text_39 : decode b_Model_text 39 = .ok (.aload_n 0, 1) := by decide +kernel
theorem d_Model_text_40 : decode b_Model_text 40 = .ok (.getfield 86, 3) := by decide +kernel
theorem d_Model_text_43 : decode b_Model_text 43 = .ok (.iconst 3, 1) := by decide +kernel
theorem d_Model_text_44 : decode b_Model_text 44 = .ok (.if_icmp .ne 15, 3) := by decide +kernel
theorem d_Model_text_47 : decode b_Model_text 47 = .ok (.aload_n 0, 1) := by decide +kernel
theorem d_Model_text_48 : decode b_Model_text 48 = .ok (.getfield 89, 3) := by decide +kernel
theorem d_Model_text_51 : decode b_Model_text 51 = .ok (.iload_n 2, 1) := by decide +kernel
theorem d_Model_text_52 : decode b_Model_text 52 = .ok (.if_icmp .ne 7, 3) := by decide +kernel
theorem d_Model_text_55 : decode b_Model_text 55 = .ok (.iconst 1, 1) := by decide +kernel
theorem d_Model_text_56 : decode b_Model_text 56 = .ok (.goto 4, 3) := by decide +kernel
theorem d_Model_text_59 : decode b_Model_text 59 = .ok (.iconst 0, 1) := by decide +kernel
theorem d_Model_text_60 : decode b_Model_text 60 = .ok (.istore_n 1, 1) := by decide +kernel
theorem d_Model_text_61 : decode b_Model_text 61 = .ok (.aload_n 0, 1) := by decide +kernel
theorem d_Model_text_62 : decode b_Model_text 62 = .ok (.getfield 25, 3) := by decide +kernel
theorem d_Model_text_65 : decode b_Model_text 65 = .ok (.iconst 4, 1) := by decide +kernel
theorem d_Model_text_66 : decode b_Model_text 66 = .ok (.aload_n 0, 1) := by decide +kernel
theorem d_Model_text_67 : decode b_Model_text 67 = .ok (.getfield 70, 3) := by decide +kernel
theorem d_Model_text_70 : decode b_Model_text 70 = .ok (.imul, 1) := by decide +kernel
theorem d_Model_text_71 : decode b_Model_text 71 = .ok (.iload_n 2, 1) := by decide +kernel
theorem d_Model_text_72 : decode b_Model_text 72 = .ok (.iadd, 1) := by decide +kernel
theorem d_Model_text_73 : decode b_Model_text 73 = .ok (.aload_n 0, 1) := by decide +kernel
theorem d_Model_text_74 : decode b_Model_text 74 = .ok (.getfield 96, 3) := by decide +kernel
theorem d_Model_text_77 : decode b_Model_text 77 = .ok (.iastore, 1) := by decide +kernel
theorem d_Model_text_78 : decode b_Model_text 78 = .ok (.iload_n 1, 1) := by decide +kernel
theorem d_Model_text_79 : decode b_Model_text 79 = .ok (.ifCond .eq 14, 3) := by decide +kernel
theorem d_Model_text_82 : decode b_Model_text 82 = .ok (.aload_n 0, 1) := by decide +kernel
theorem d_Model_text_83 : decode b_Model_text 83 = .ok (.invokevirtual 132, 3) := by decide +kernel
theorem d_Model_text_86 : decode b_Model_text 86 = .ok (.ifCond .eq 7, 3) := by decide +kernel
theorem d_Model_text_89 : decode b_Model_text 89 = .ok (.iconst 1, 1) := by decide +kernel
theorem d_Model_text_90 : decode b_Model_text 90 = .ok (.goto 4, 3) := by decide +kernel
theorem d_Model_text_93 : decode b_Model_text 93 = .ok (.iconst 0, 1) := by decide +kernel
theorem d_Model_text_94 : decode b_Model_text 94 = .ok (.istore_n 1, 1) := by decide +kernel
theorem d_Model_text_95 : decode b_Model_text 95 = .ok (.iinc 2 (1), 3) := by decide +kernel
theorem d_Model_text_98 : decode b_Model_text 98 = .ok (.goto (-72), 3) := by decide +kernel
theorem d_Model_text_101 : decode b_Model_text 101 = .ok (.iload_n 1, 1) := by decide +kernel
theorem d_Model_text_102 : decode b_Model_text 102 = .ok (.ifCond .eq 20, 3) := by decide +kernel
theorem d_Model_text_105 : decode b_Model_text 105 = .ok (.aload_n 0, 1) := by decide +kernel
theorem d_Model_text_106 : decode b_Model_text 106 = .ok (.invokevirtual 119, 3) := by decide +kernel
theorem d_Model_text_109 : decode b_Model_text 109 = .ok (.aload_n 0, 1) := by decide +kernel
theorem d_Model_text_110 : decode b_Model_text 110 = .ok (.getfield 86, 3) := by decide +kernel
theorem d_Model_text_113 : decode b_Model_text 113 = .ok (.ifCond .ne 7, 3) := by decide +kernel
theorem d_Model_text_116 : decode b_Model_text 116 = .ok (.iconst 1, 1) := by decide +kernel
theorem d_Model_text_117 : decode b_Model_text 117 = .ok (.goto 4, 3) := by decide +kernel
theorem d_Model_text_120 : decode b_Model_text 120 = .ok (.iconst 0, 1) := by decide +kernel
theorem d_Model_text_121 : decode b_Model_text 121 = .ok (.istore_n 1, 1) := by decide +kernel
theorem d_Model_text_122 : decode b_Model_text 122 = .ok (.aload_n 0, 1) := by decide +kernel
theorem d_Model_text_123 : decode b_Model_text 123 = .ok (.getfield 25, 3) := by decide +kernel
theorem d_Model_text_126 : decode b_Model_text 126 = .ok (.iconst 4, 1) := by decide +kernel
theorem d_Model_text_127 : decode b_Model_text 127 = .ok (.aload_n 0, 1) := by decide +kernel
theorem d_Model_text_128 : decode b_Model_text 128 = .ok (.getfield 70, 3) := by decide +kernel
theorem d_Model_text_131 : decode b_Model_text 131 = .ok (.imul, 1) := by decide +kernel
theorem d_Model_text_132 : decode b_Model_text 132 = .ok (.iconst 3, 1) := by decide +kernel
theorem d_Model_text_133 : decode b_Model_text 133 = .ok (.iadd, 1) := by decide +kernel
theorem d_Model_text_134 : decode b_Model_text 134 = .ok (.aload_n 0, 1) := by decide +kernel
theorem d_Model_text_135 : decode b_Model_text 135 = .ok (.getfield 96, 3) := by decide +kernel
theorem d_Model_text_138 : decode b_Model_text 138 = .ok (.iastore, 1) := by decide +kernel
theorem d_Model_text_139 : decode b_Model_text 139 = .ok (.aload_n 0, 1) := by decide +kernel
theorem d_Model_text_140 : decode b_Model_text 140 = .ok (.iconst 0, 1) := by decide +kernel
theorem d_Model_text_141 : decode b_Model_text 141 = .ok (.putfield 55, 3) := by decide +kernel
theorem d_Model_text_144 : decode b_Model_text 144 = .ok (.iload_n 1, 1) := by decide +kernel
theorem d_Model_text_145 : decode b_Model_text 145 = .ok (.ifCond .ne 11, 3) := by decide +kernel
theorem d_Model_text_148 : decode b_Model_text 148 = .ok (.bipush (-100), 2) := by decide +kernel
theorem d_Model_text_150 : decode b_Model_text 150 = .ok (.aload_n 0, 1) := by decide +kernel
theorem d_Model_text_151 : decode b_Model_text 151 = .ok (.getfield 83, 3) := by decide +kernel
theorem d_Model_text_154 : decode b_Model_text 154 = .ok (.isub, 1) := by decide +kernel
theorem d_Model_text_155 : decode b_Model_text 155 = .ok (.ireturn, 1) := by decide +kernel
theorem d_Model_text_156 : decode b_Model_text 156 = .ok (.aload_n 0, 1) := by decide +kernel
theorem d_Model_text_157 : decode b_Model_text 157 = .ok (.dup, 1) := by decide +kernel
theorem d_Model_text_158 : decode b_Model_text 158 = .ok (.getfield 70, 3) := by decide +kernel
theorem d_Model_text_161 : decode b_Model_text 161 = .ok (.iconst 1, 1) := by decide +kernel
theorem d_Model_text_162 : decode b_Model_text 162 = .ok (.iadd, 1) := by decide +kernel
theorem d_Model_text_163 : decode b_Model_text 163 = .ok (.putfield 70, 3) := by decide +kernel
theorem d_Model_text_166 : decode b_Model_text 166 = .ok (.aload_n 0, 1) := by decide +kernel
theorem d_Model_text_167 : decode b_Model_text 167 = .ok (.getfield 70, 3) := by decide +kernel
theorem d_Model_text_170 : decode b_Model_text 170 = .ok (.iconst 1, 1) := by decide +kernel
theorem d_Model_text_171 : decode b_Model_text 171 = .ok (.isub, 1) := by decide +kernel
theorem d_Model_text_172 : decode b_Model_text 172 = .ok (.ireturn, 1) := by decide +kernel
abbrev b_Model_two : ByteArray := prog_8_method_21_code
def y_Model_two : MethodName := ⟨"RoundAndRoundModel", "two", "(III)I"⟩
theorem d_Model_two_0 : decode b_Model_two 0 = .ok (.iload_n 0, 1) := by decide +kernel
theorem d_Model_two_1 : decode b_Model_two 1 = .ok (.tableswitch 101 (11) (17) #[43, 57, 101, 71, 82, 93, 97], 43) := by decide +kernel
theorem d_Model_two_44 : decode b_Model_two 44 = .ok (.iload_n 1, 1) := by decide +kernel
theorem d_Model_two_45 : decode b_Model_two 45 = .ok (.ifCond .ne 7, 3) := by decide +kernel
theorem d_Model_two_48 : decode b_Model_two 48 = .ok (.iload_n 2, 1) := by decide +kernel
theorem d_Model_two_49 : decode b_Model_two 49 = .ok (.ifCond .eq 7, 3) := by decide +kernel
theorem d_Model_two_52 : decode b_Model_two 52 = .ok (.iconst 1, 1) := by decide +kernel
theorem d_Model_two_53 : decode b_Model_two 53 = .ok (.goto 4, 3) := by decide +kernel
theorem d_Model_two_56 : decode b_Model_two 56 = .ok (.iconst 0, 1) := by decide +kernel
theorem d_Model_two_57 : decode b_Model_two 57 = .ok (.ireturn, 1) := by decide +kernel
theorem d_Model_two_58 : decode b_Model_two 58 = .ok (.iload_n 1, 1) := by decide +kernel
theorem d_Model_two_59 : decode b_Model_two 59 = .ok (.ifCond .eq 11, 3) := by decide +kernel
theorem d_Model_two_62 : decode b_Model_two 62 = .ok (.iload_n 2, 1) := by decide +kernel
theorem d_Model_two_63 : decode b_Model_two 63 = .ok (.ifCond .eq 7, 3) := by decide +kernel
theorem d_Model_two_66 : decode b_Model_two 66 = .ok (.iconst 1, 1) := by decide +kernel
theorem d_Model_two_67 : decode b_Model_two 67 = .ok (.goto 4, 3) := by decide +kernel
theorem d_Model_two_70 : decode b_Model_two 70 = .ok (.iconst 0, 1) := by decide +kernel
theorem d_Model_two_71 : decode b_Model_two 71 = .ok (.ireturn, 1) := by decide +kernel
theorem d_Model_two_72 : decode b_Model_two 72 = .ok (.iload_n 1, 1) := by decide +kernel
theorem d_Model_two_73 : decode b_Model_two 73 = .ok (.iload_n 2, 1) := by decide +kernel
theorem d_Model_two_74 : decode b_Model_two 74 = .ok (.if_icmp .ge 7, 3) := by decide +kernel
theorem d_Model_two_77 : decode b_Model_two 77 = .ok (.iconst 1, 1) := by decide +kernel
theorem d_Model_two_78 : decode b_Model_two 78 = .ok (.goto 4, 3) := by decide +kernel
theorem d_Model_two_81 : decode b_Model_two 81 = .ok (.iconst 0, 1) := by decide +kernel
theorem d_Model_two_82 : decode b_Model_two 82 = .ok (.ireturn, 1) := by decide +kernel
theorem d_Model_two_83 : decode b_Model_two 83 = .ok (.iload_n 1, 1) := by decide +kernel
theorem d_Model_two_84 : decode b_Model_two 84 = .ok (.iload_n 2, 1) := by decide +kernel
theorem d_Model_two_85 : decode b_Model_two 85 = .ok (.if_icmp .ne 7, 3) := by decide +kernel
theorem d_Model_two_88 : decode b_Model_two 88 = .ok (.iconst 1, 1) := by decide +kernel
theorem d_Model_two_89 : decode b_Model_two 89 = .ok (.goto 4, 3) := by decide +kernel
theorem d_Model_two_92 : decode b_Model_two 92 = .ok (.iconst 0, 1) := by decide +kernel
theorem d_Model_two_93 : decode b_Model_two 93 = .ok (.ireturn, 1) := by decide +kernel
theorem d_Model_two_94 : decode b_Model_two 94 = .ok (.iload_n 1, 1) := by decide +kernel
theorem d_Model_two_95 : decode b_Model_two 95 = .ok (.iload_n 2, 1) := by decide +kernel
theorem d_Model_two_96 : decode b_Model_two 96 = .ok (.iadd, 1) := by decide +kernel
theorem d_Model_two_97 : decode b_Model_two 97 = .ok (.ireturn, 1) := by decide +kernel
theorem d_Model_two_98 : decode b_Model_two 98 = .ok (.iload_n 1, 1) := by decide +kernel
theorem d_Model_two_99 : decode b_Model_two 99 = .ok (.iload_n 2, 1) := by decide +kernel
theorem d_Model_two_100 : decode b_Model_two 100 = .ok (.isub, 1) := by decide +kernel
theorem d_Model_two_101 : decode b_Model_two 101 = .ok (.ireturn, 1) := by decide +kernel
theorem d_Model_two_102 : decode b_Model_two 102 = .ok (.iload_n 1, 1) := by decide +kernel
theorem d_Model_two_103 : decode b_Model_two 103 = .ok (.iload_n 2, 1) := by decide +kernel
theorem d_Model_two_104 : decode b_Model_two 104 = .ok (.imul, 1) := by decide +kernel
theorem d_Model_two_105 : decode b_Model_two 105 = .ok (.ireturn, 1) := by decide +kernel
abbrev b_Model_says : ByteArray := prog_8_method_22_code
def y_Model_says : MethodName := ⟨"RoundAndRoundModel", "says", "(I)I"⟩
theorem d_Model_says_0 : decode b_Model_says 0 = .ok (.iconst 0, 1) := by decide +kernel
theorem d_Model_says_1 : decode b_Model_says 1 = .ok (.istore_n 2, 1) := by decide +kernel
theorem d_Model_says_2 : decode b_Model_says 2 = .ok (.aload_n 0, 1) := by decide +kernel
theorem d_Model_says_3 : decode b_Model_says 3 = .ok (.getfield 25, 3) := by decide +kernel
theorem d_Model_says_6 : decode b_Model_says 6 = .ok (.iconst 4, 1) := by decide +kernel
theorem d_Model_says_7 : decode b_Model_says 7 = .ok (.aload_n 0, 1) := by decide +kernel
theorem d_Model_says_8 : decode b_Model_says 8 = .ok (.getfield 73, 3) := by decide +kernel
theorem d_Model_says_11 : decode b_Model_says 11 = .ok (.imul, 1) := by decide +kernel
theorem d_Model_says_12 : decode b_Model_says 12 = .ok (.iload_n 1, 1) := by decide +kernel
theorem d_Model_says_13 : decode b_Model_says 13 = .ok (.iadd, 1) := by decide +kernel
theorem d_Model_says_14 : decode b_Model_says 14 = .ok (.iaload, 1) := by decide +kernel
theorem d_Model_says_15 : decode b_Model_says 15 = .ok (.istore_n 3, 1) := by decide +kernel
theorem d_Model_says_16 : decode b_Model_says 16 = .ok (.iload_n 3, 1) := by decide +kernel
theorem d_Model_says_17 : decode b_Model_says 17 = .ok (.aload_n 0, 1) := by decide +kernel
theorem d_Model_says_18 : decode b_Model_says 18 = .ok (.getfield 25, 3) := by decide +kernel
theorem d_Model_says_21 : decode b_Model_says 21 = .ok (.iconst 4, 1) := by decide +kernel
theorem d_Model_says_22 : decode b_Model_says 22 = .ok (.aload_n 0, 1) := by decide +kernel
theorem d_Model_says_23 : decode b_Model_says 23 = .ok (.getfield 73, 3) := by decide +kernel
theorem d_Model_says_26 : decode b_Model_says 26 = .ok (.imul, 1) := by decide +kernel
theorem d_Model_says_27 : decode b_Model_says 27 = .ok (.iload_n 1, 1) := by decide +kernel
theorem d_Model_says_28 : decode b_Model_says 28 = .ok (.iadd, 1) := by decide +kernel
theorem d_Model_says_29 : decode b_Model_says 29 = .ok (.iconst 1, 1) := by decide +kernel
theorem d_Model_says_30 : decode b_Model_says 30 = .ok (.iadd, 1) := by decide +kernel
theorem d_Model_says_31 : decode b_Model_says 31 = .ok (.iaload, 1) := by decide +kernel
theorem d_Model_says_32 : decode b_Model_says 32 = .ok (.if_icmp .ge 165, 3) := by decide +kernel
theorem d_Model_says_35 : decode b_Model_says 35 = .ok (.aload_n 0, 1) := by decide +kernel
theorem d_Model_says_36 : decode b_Model_says 36 = .ok (.getfield 22, 3) := by decide +kernel
theorem d_Model_says_39 : decode b_Model_says 39 = .ok (.sipush (200), 3) := by decide +kernel
theorem d_Model_says_42 : decode b_Model_says 42 = .ok (.aload_n 0, 1) := by decide +kernel
theorem d_Model_says_43 : decode b_Model_says 43 = .ok (.getfield 73, 3) := by decide +kernel
theorem d_Model_says_46 : decode b_Model_says 46 = .ok (.imul, 1) := by decide +kernel
theorem d_Model_says_47 : decode b_Model_says 47 = .ok (.iload_n 3, 1) := by decide +kernel
theorem d_Model_says_48 : decode b_Model_says 48 = .ok (.iadd, 1) := by decide +kernel
theorem d_Model_says_49 : decode b_Model_says 49 = .ok (.iaload, 1) := by decide +kernel
theorem d_Model_says_50 : decode b_Model_says 50 = .ok (.istore 4, 2) := by decide +kernel
theorem d_Model_says_52 : decode b_Model_says 52 = .ok (.iload 4, 2) := by decide +kernel
theorem d_Model_says_54 : decode b_Model_says 54 = .ok (.ldc 122, 2) := by decide +kernel
theorem d_Model_says_56 : decode b_Model_says 56 = .ok (.if_icmp .ge 10, 3) := by decide +kernel
theorem d_Model_says_59 : decode b_Model_says 59 = .ok (.iload 4, 2) := by decide +kernel
theorem d_Model_says_61 : decode b_Model_says 61 = .ok (.bipush (11), 2) := by decide +kernel
theorem d_Model_says_63 : decode b_Model_says 63 = .ok (.if_icmp .ge 37, 3) := by decide +kernel
theorem d_Model_says_66 : decode b_Model_says 66 = .ok (.aload_n 0, 1) := by decide +kernel
theorem d_Model_says_67 : decode b_Model_says 67 = .ok (.getfield 49, 3) := by decide +kernel
theorem d_Model_says_70 : decode b_Model_says 70 = .ok (.iload_n 2, 1) := by decide +kernel
theorem d_Model_says_71 : decode b_Model_says 71 = .ok (.iload 4, 2) := by decide +kernel
theorem d_Model_says_73 : decode b_Model_says 73 = .ok (.bipush (11), 2) := by decide +kernel
theorem d_Model_says_75 : decode b_Model_says 75 = .ok (.if_icmp .ge 13, 3) := by decide +kernel
theorem d_Model_says_78 : decode b_Model_says 78 = .ok (.aload_n 0, 1) := by decide +kernel
theorem d_Model_says_79 : decode b_Model_says 79 = .ok (.getfield 52, 3) := by decide +kernel
theorem d_Model_says_82 : decode b_Model_says 82 = .ok (.iload 4, 2) := by decide +kernel
theorem d_Model_says_84 : decode b_Model_says 84 = .ok (.iaload, 1) := by decide +kernel
theorem d_Model_says_85 : decode b_Model_says 85 = .ok (.goto 8, 3) := by decide +kernel
theorem d_Model_says_88 : decode b_Model_says 88 = .ok (.iload 4, 2) := by decide +kernel
theorem d_Model_says_90 : decode b_Model_says 90 = .ok (.ldc 122, 2) := by decide +kernel
theorem d_Model_says_92 : decode b_Model_says 92 = .ok (.isub, 1) := by decide +kernel
theorem d_Model_says_93 : decode b_Model_says 93 = .ok (.iastore, 1) := by decide +kernel
theorem d_Model_says_94 : decode b_Model_says 94 = .ok (.iinc 2 (1), 3) := by decide +kernel
theorem d_Model_says_97 : decode b_Model_says 97 = .ok (.goto 94, 3) := by decide +kernel
theorem d_Model_says_100 : decode b_Model_says 100 = .ok (.iload 4, 2) := by decide +kernel
theorem d_Model_says_102 : decode b_Model_says 102 = .ok (.bipush (13), 2) := by decide +kernel
theorem d_Model_says_104 : decode b_Model_says 104 = .ok (.if_icmp .ne 30, 3) := by decide +kernel
theorem d_Model_says_107 : decode b_Model_says 107 = .ok (.aload_n 0, 1) := by decide +kernel
theorem d_Model_says_108 : decode b_Model_says 108 = .ok (.getfield 49, 3) := by decide +kernel
theorem d_Model_says_111 : decode b_Model_says 111 = .ok (.iload_n 2, 1) := by decide +kernel
theorem d_Model_says_112 : decode b_Model_says 112 = .ok (.iconst 1, 1) := by decide +kernel
theorem d_Model_says_113 : decode b_Model_says 113 = .ok (.isub, 1) := by decide +kernel
theorem d_Model_says_114 : decode b_Model_says 114 = .ok (.aload_n 0, 1) := by decide +kernel
theorem d_Model_says_115 : decode b_Model_says 115 = .ok (.getfield 49, 3) := by decide +kernel
theorem d_Model_says_118 : decode b_Model_says 118 = .ok (.iload_n 2, 1) := by decide +kernel
theorem d_Model_says_119 : decode b_Model_says 119 = .ok (.iconst 1, 1) := by decide +kernel
theorem d_Model_says_120 : decode b_Model_says 120 = .ok (.isub, 1) := by decide +kernel
theorem d_Model_says_121 : decode b_Model_says 121 = .ok (.iaload, 1) := by decide +kernel
theorem d_Model_says_122 : decode b_Model_says 122 = .ok (.ifCond .ne 7, 3) := by decide +kernel
theorem d_Model_says_125 : decode b_Model_says 125 = .ok (.iconst 1, 1) := by decide +kernel
theorem d_Model_says_126 : decode b_Model_says 126 = .ok (.goto 4, 3) := by decide +kernel
theorem d_Model_says_129 : decode b_Model_says 129 = .ok (.iconst 0, 1) := by decide +kernel
theorem d_Model_says_130 : decode b_Model_says 130 = .ok (.iastore, 1) := by decide +kernel
theorem d_Model_says_131 : decode b_Model_says 131 = .ok (.goto 60, 3) := by decide +kernel
theorem d_Model_says_134 : decode b_Model_says 134 = .ok (.iload 4, 2) := by decide +kernel
theorem d_Model_says_136 : decode b_Model_says 136 = .ok (.bipush (19), 2) := by decide +kernel
theorem d_Model_says_138 : decode b_Model_says 138 = .ok (.if_icmp .ne 23, 3) := by decide +kernel
theorem d_Model_says_141 : decode b_Model_says 141 = .ok (.aload_n 0, 1) := by decide +kernel
theorem d_Model_says_142 : decode b_Model_says 142 = .ok (.getfield 49, 3) := by decide +kernel
theorem d_Model_says_145 : decode b_Model_says 145 = .ok (.iload_n 2, 1) := by decide +kernel
theorem d_Model_says_146 : decode b_Model_says 146 = .ok (.iconst 1, 1) := by decide +kernel
theorem d_Model_says_147 : decode b_Model_says 147 = .ok (.isub, 1) := by decide +kernel
theorem d_Model_says_148 : decode b_Model_says 148 = .ok (.aload_n 0, 1) := by decide +kernel
theorem d_Model_says_149 : decode b_Model_says 149 = .ok (.getfield 49, 3) := by decide +kernel
theorem d_Model_says_152 : decode b_Model_says 152 = .ok (.iload_n 2, 1) := by decide +kernel
theorem d_Model_says_153 : decode b_Model_says 153 = .ok (.iconst 1, 1) := by decide +kernel
theorem d_Model_says_154 : decode b_Model_says 154 = .ok (.isub, 1) := by decide +kernel
theorem d_Model_says_155 : decode b_Model_says 155 = .ok (.iaload, 1) := by decide +kernel
theorem d_Model_says_156 : decode b_Model_says 156 = .ok (.ineg, 1) := by decide +kernel
theorem d_Model_says_157 : decode b_Model_says 157 = .ok (.iastore, 1) := by decide +kernel
theorem d_Model_says_158 : decode b_Model_says 158 = .ok (.goto 33, 3) := by decide +kernel
theorem d_Model_says_161 : decode b_Model_says 161 = .ok (.iinc 2 (-1), 3) := by decide +kernel
theorem d_Model_says_164 : decode b_Model_says 164 = .ok (.aload_n 0, 1) := by decide +kernel
theorem d_Model_says_165 : decode b_Model_says 165 = .ok (.getfield 49, 3) := by decide +kernel
theorem d_Model_says_168 : decode b_Model_says 168 = .ok (.iload_n 2, 1) := by decide +kernel
theorem d_Model_says_169 : decode b_Model_says 169 = .ok (.iconst 1, 1) := by decide +kernel
theorem d_Model_says_170 : decode b_Model_says 170 = .ok (.isub, 1) := by decide +kernel
theorem d_Model_says_171 : decode b_Model_says 171 = .ok (.iload 4, 2) := by decide +kernel
theorem d_Model_says_173 : decode b_Model_says 173 = .ok (.aload_n 0, 1) := by decide +kernel
theorem d_Model_says_174 : decode b_Model_says 174 = .ok (.getfield 49, 3) := by decide +kernel
theorem d_Model_says_177 : decode b_Model_says 177 = .ok (.iload_n 2, 1) := by decide +kernel
theorem d_Model_says_178 : decode b_Model_says 178 = .ok (.iconst 1, 1) := by decide +kernel
theorem d_Model_says_179 : decode b_Model_says 179 = .ok (.isub, 1) := by decide +kernel
theorem d_Model_says_180 : decode b_Model_says 180 = .ok (.iaload, 1) := by decide +kernel
theorem d_Model_says_181 : decode b_Model_says 181 = .ok (.aload_n 0, 1) := by decide +kernel
theorem d_Model_says_182 : decode b_Model_says 182 = .ok (.getfield 49, 3) := by decide +kernel
theorem d_Model_says_185 : decode b_Model_says 185 = .ok (.iload_n 2, 1) := by decide +kernel
theorem d_Model_says_186 : decode b_Model_says 186 = .ok (.iaload, 1) := by decide +kernel
theorem d_Model_says_187 : decode b_Model_says 187 = .ok (.invokestatic 136, 3) := by decide +kernel
theorem d_Model_says_190 : decode b_Model_says 190 = .ok (.iastore, 1) := by decide +kernel
theorem d_Model_says_191 : decode b_Model_says 191 = .ok (.iinc 3 (1), 3) := by decide +kernel
theorem d_Model_says_194 : decode b_Model_says 194 = .ok (.goto (-178), 3) := by decide +kernel
theorem d_Model_says_197 : decode b_Model_says 197 = .ok (.aload_n 0, 1) := by decide +kernel
theorem d_Model_says_198 : decode b_Model_says 198 = .ok (.getfield 49, 3) := by decide +kernel
theorem d_Model_says_201 : decode b_Model_says 201 = .ok (.iconst 0, 1) := by decide +kernel
theorem d_Model_says_202 : decode b_Model_says 202 = .ok (.iaload, 1) := by decide +kernel
theorem d_Model_says_203 : decode b_Model_says 203 = .ok (.ireturn, 1) := by decide +kernel
abbrev b_Model_force : ByteArray := prog_8_method_23_code
def y_Model_force : MethodName := ⟨"RoundAndRoundModel", "force", "(I)I"⟩
theorem d_Model_force_0 : decode b_Model_force 0 = .ok (.iload_n 1, 1) := by decide +kernel
theorem d_Model_force_1 : decode b_Model_force 1 = .ok (.iconst 0, 1) := by decide +kernel
theorem d_Model_force_2 : decode b_Model_force 2 = .ok (.aload_n 0, 1) := by decide +kernel
theorem d_Model_force_3 : decode b_Model_force 3 = .ok (.getfield 70, 3) := by decide +kernel
theorem d_Model_force_6 : decode b_Model_force 6 = .ok (.iconst 1, 1) := by decide +kernel
theorem d_Model_force_7 : decode b_Model_force 7 = .ok (.isub, 1) := by decide +kernel
theorem d_Model_force_8 : decode b_Model_force 8 = .ok (.invokestatic 66, 3) := by decide +kernel
theorem d_Model_force_11 : decode b_Model_force 11 = .ok (.ifCond .ne 6, 3) := by decide +kernel
theorem d_Model_force_14 : decode b_Model_force 14 = .ok (.bipush (-2), 2) := by decide +kernel
theorem d_Model_force_16 : decode b_Model_force 16 = .ok (.ireturn, 1) := by decide +kernel
theorem d_Model_force_17 : decode b_Model_force 17 = .ok (.aload_n 0, 1) := by decide +kernel
theorem d_Model_force_18 : decode b_Model_force 18 = .ok (.getfield 73, 3) := by decide +kernel
theorem d_Model_force_21 : decode b_Model_force 21 = .ok (.istore_n 2, 1) := by decide +kernel
theorem d_Model_force_22 : decode b_Model_force 22 = .ok (.aload_n 0, 1) := by decide +kernel
theorem d_Model_force_23 : decode b_Model_force 23 = .ok (.iload_n 1, 1) := by decide +kernel
theorem d_Model_force_24 : decode b_Model_force 24 = .ok (.putfield 73, 3) := by decide +kernel
theorem d_Model_force_27 : decode b_Model_force 27 = .ok (.iload_n 2, 1) := by decide +kernel
theorem d_Model_force_28 : decode b_Model_force 28 = .ok (.ireturn, 1) := by decide +kernel
abbrev b_Model_asksOf : ByteArray := prog_8_method_24_code
def y_Model_asksOf : MethodName := ⟨"RoundAndRoundModel", "asksOf", "(IIII)I"⟩
theorem d_Model_asksOf_0 : decode b_Model_asksOf 0 = .ok (.aload_n 0, 1) := by decide +kernel
theorem d_Model_asksOf_1 : decode b_Model_asksOf 1 = .ok (.getfield 52, 3) := by decide +kernel
theorem d_Model_asksOf_4 : decode b_Model_asksOf 4 = .ok (.iconst 0, 1) := by decide +kernel
theorem d_Model_asksOf_5 : decode b_Model_asksOf 5 = .ok (.iload_n 3, 1) := by decide +kernel
theorem d_Model_asksOf_6 : decode b_Model_asksOf 6 = .ok (.iastore, 1) := by decide +kernel
theorem d_Model_asksOf_7 : decode b_Model_asksOf 7 = .ok (.aload_n 0, 1) := by decide +kernel
theorem d_Model_asksOf_8 : decode b_Model_asksOf 8 = .ok (.getfield 52, 3) := by decide +kernel
theorem d_Model_asksOf_11 : decode b_Model_asksOf 11 = .ok (.iconst 1, 1) := by decide +kernel
theorem d_Model_asksOf_12 : decode b_Model_asksOf 12 = .ok (.aload_n 0, 1) := by decide +kernel
theorem d_Model_asksOf_13 : decode b_Model_asksOf 13 = .ok (.getfield 16, 3) := by decide +kernel
theorem d_Model_asksOf_16 : decode b_Model_asksOf 16 = .ok (.bipush (6), 2) := by decide +kernel
theorem d_Model_asksOf_18 : decode b_Model_asksOf 18 = .ok (.iload_n 2, 1) := by decide +kernel
theorem d_Model_asksOf_19 : decode b_Model_asksOf 19 = .ok (.imul, 1) := by decide +kernel
theorem d_Model_asksOf_20 : decode b_Model_asksOf 20 = .ok (.iconst 1, 1) := by decide +kernel
theorem d_Model_asksOf_21 : decode b_Model_asksOf 21 = .ok (.iadd, 1) := by decide +kernel
theorem d_Model_asksOf_22 : decode b_Model_asksOf 22 = .ok (.iaload, 1) := by decide +kernel
theorem d_Model_asksOf_23 : decode b_Model_asksOf 23 = .ok (.iastore, 1) := by decide +kernel
theorem d_Model_asksOf_24 : decode b_Model_asksOf 24 = .ok (.aload_n 0, 1) := by decide +kernel
theorem d_Model_asksOf_25 : decode b_Model_asksOf 25 = .ok (.getfield 52, 3) := by decide +kernel
theorem d_Model_asksOf_28 : decode b_Model_asksOf 28 = .ok (.iconst 2, 1) := by decide +kernel
theorem d_Model_asksOf_29 : decode b_Model_asksOf 29 = .ok (.aload_n 0, 1) := by decide +kernel
theorem d_Model_asksOf_30 : decode b_Model_asksOf 30 = .ok (.getfield 16, 3) := by decide +kernel
theorem d_Model_asksOf_33 : decode b_Model_asksOf 33 = .ok (.bipush (6), 2) := by decide +kernel
theorem d_Model_asksOf_35 : decode b_Model_asksOf 35 = .ok (.iload_n 2, 1) := by decide +kernel
theorem d_Model_asksOf_36 : decode b_Model_asksOf 36 = .ok (.imul, 1) := by decide +kernel
theorem d_Model_asksOf_37 : decode b_Model_asksOf 37 = .ok (.iconst 2, 1) := by decide +kernel
theorem d_Model_asksOf_38 : decode b_Model_asksOf 38 = .ok (.iadd, 1) := by decide +kernel
theorem d_Model_asksOf_39 : decode b_Model_asksOf 39 = .ok (.iaload, 1) := by decide +kernel
theorem d_Model_asksOf_40 : decode b_Model_asksOf 40 = .ok (.iastore, 1) := by decide +kernel
theorem d_Model_asksOf_41 : decode b_Model_asksOf 41 = .ok (.aload_n 0, 1) := by decide +kernel
theorem d_Model_asksOf_42 : decode b_Model_asksOf 42 = .ok (.getfield 52, 3) := by decide +kernel
theorem d_Model_asksOf_45 : decode b_Model_asksOf 45 = .ok (.iconst 3, 1) := by decide +kernel
theorem d_Model_asksOf_46 : decode b_Model_asksOf 46 = .ok (.aload_n 0, 1) := by decide +kernel
theorem d_Model_asksOf_47 : decode b_Model_asksOf 47 = .ok (.getfield 13, 3) := by decide +kernel
theorem d_Model_asksOf_50 : decode b_Model_asksOf 50 = .ok (.iload_n 2, 1) := by decide +kernel
theorem d_Model_asksOf_51 : decode b_Model_asksOf 51 = .ok (.iaload, 1) := by decide +kernel
theorem d_Model_asksOf_52 : decode b_Model_asksOf 52 = .ok (.iastore, 1) := by decide +kernel
theorem d_Model_asksOf_53 : decode b_Model_asksOf 53 = .ok (.aload_n 0, 1) := by decide +kernel
theorem d_Model_asksOf_54 : decode b_Model_asksOf 54 = .ok (.getfield 52, 3) := by decide +kernel
theorem d_Model_asksOf_57 : decode b_Model_asksOf 57 = .ok (.iconst 4, 1) := by decide +kernel
theorem d_Model_asksOf_58 : decode b_Model_asksOf 58 = .ok (.aload_n 0, 1) := by decide +kernel
theorem d_Model_asksOf_59 : decode b_Model_asksOf 59 = .ok (.getfield 140, 3) := by decide +kernel
theorem d_Model_asksOf_62 : decode b_Model_asksOf 62 = .ok (.iastore, 1) := by decide +kernel
theorem d_Model_asksOf_63 : decode b_Model_asksOf 63 = .ok (.aload_n 0, 1) := by decide +kernel
theorem d_Model_asksOf_64 : decode b_Model_asksOf 64 = .ok (.getfield 52, 3) := by decide +kernel
theorem d_Model_asksOf_67 : decode b_Model_asksOf 67 = .ok (.iconst 5, 1) := by decide +kernel
theorem d_Model_asksOf_68 : decode b_Model_asksOf 68 = .ok (.iload 4, 2) := by decide +kernel
theorem d_Model_asksOf_70 : decode b_Model_asksOf 70 = .ok (.iastore, 1) := by decide +kernel
theorem d_Model_asksOf_71 : decode b_Model_asksOf 71 = .ok (.aload_n 0, 1) := by decide +kernel
theorem d_Model_asksOf_72 : decode b_Model_asksOf 72 = .ok (.iload_n 1, 1) := by decide +kernel
theorem d_Model_asksOf_73 : decode b_Model_asksOf 73 = .ok (.invokevirtual 143, 3) := by decide +kernel
theorem d_Model_asksOf_76 : decode b_Model_asksOf 76 = .ok (.iconst 0, 1) := by decide +kernel
theorem d_Model_asksOf_77 : decode b_Model_asksOf 77 = .ok (.iload_n 1, 1) := by decide +kernel
theorem d_Model_asksOf_78 : decode b_Model_asksOf 78 = .ok (.iconst 1, 1) := by decide +kernel
theorem d_Model_asksOf_79 : decode b_Model_asksOf 79 = .ok (.if_icmp .ne 8, 3) := by decide +kernel
theorem d_Model_asksOf_82 : decode b_Model_asksOf 82 = .ok (.bipush (100), 2) := by decide +kernel
theorem d_Model_asksOf_84 : decode b_Model_asksOf 84 = .ok (.goto 6, 3) := by decide +kernel
theorem d_Model_asksOf_87 : decode b_Model_asksOf 87 = .ok (.sipush (999), 3) := by decide +kernel
theorem d_Model_asksOf_90 : decode b_Model_asksOf 90 = .ok (.invokestatic 146, 3) := by decide +kernel
theorem d_Model_asksOf_93 : decode b_Model_asksOf 93 = .ok (.ireturn, 1) := by decide +kernel
abbrev b_Model_asks : ByteArray := prog_8_method_25_code
def y_Model_asks : MethodName := ⟨"RoundAndRoundModel", "asks", "(III)I"⟩
theorem d_Model_asks_0 : decode b_Model_asks 0 = .ok (.iload_n 1, 1) := by decide +kernel
theorem d_Model_asks_1 : decode b_Model_asks 1 = .ok (.iconst 0, 1) := by decide +kernel
theorem d_Model_asks_2 : decode b_Model_asks 2 = .ok (.iconst 2, 1) := by decide +kernel
theorem d_Model_asks_3 : decode b_Model_asks 3 = .ok (.invokestatic 66, 3) := by decide +kernel
theorem d_Model_asks_6 : decode b_Model_asks 6 = .ok (.ifCond .eq 29, 3) := by decide +kernel
theorem d_Model_asks_9 : decode b_Model_asks 9 = .ok (.aload_n 0, 1) := by decide +kernel
theorem d_Model_asks_10 : decode b_Model_asks 10 = .ok (.iload_n 2, 1) := by decide +kernel
theorem d_Model_asks_11 : decode b_Model_asks 11 = .ok (.invokevirtual 149, 3) := by decide +kernel
theorem d_Model_asks_14 : decode b_Model_asks 14 = .ok (.ifCond .eq 21, 3) := by decide +kernel
theorem d_Model_asks_17 : decode b_Model_asks 17 = .ok (.iload_n 3, 1) := by decide +kernel
theorem d_Model_asks_18 : decode b_Model_asks 18 = .ok (.iconst 0, 1) := by decide +kernel
theorem d_Model_asks_19 : decode b_Model_asks 19 = .ok (.bipush (91), 2) := by decide +kernel
theorem d_Model_asks_21 : decode b_Model_asks 21 = .ok (.invokestatic 66, 3) := by decide +kernel
theorem d_Model_asks_24 : decode b_Model_asks 24 = .ok (.ifCond .eq 11, 3) := by decide +kernel
theorem d_Model_asks_27 : decode b_Model_asks 27 = .ok (.iload_n 3, 1) := by decide +kernel
theorem d_Model_asks_28 : decode b_Model_asks 28 = .ok (.bipush (10), 2) := by decide +kernel
theorem d_Model_asks_30 : decode b_Model_asks 30 = .ok (.irem, 1) := by decide +kernel
theorem d_Model_asks_31 : decode b_Model_asks 31 = .ok (.iconst 1, 1) := by decide +kernel
theorem d_Model_asks_32 : decode b_Model_asks 32 = .ok (.if_icmp .le 6, 3) := by decide +kernel
theorem d_Model_asks_35 : decode b_Model_asks 35 = .ok (.bipush (-2), 2) := by decide +kernel
theorem d_Model_asks_37 : decode b_Model_asks 37 = .ok (.ireturn, 1) := by decide +kernel
theorem d_Model_asks_38 : decode b_Model_asks 38 = .ok (.aload_n 0, 1) := by decide +kernel
theorem d_Model_asks_39 : decode b_Model_asks 39 = .ok (.aload_n 0, 1) := by decide +kernel
theorem d_Model_asks_40 : decode b_Model_asks 40 = .ok (.getfield 16, 3) := by decide +kernel
theorem d_Model_asks_43 : decode b_Model_asks 43 = .ok (.bipush (6), 2) := by decide +kernel
theorem d_Model_asks_45 : decode b_Model_asks 45 = .ok (.iload_n 2, 1) := by decide +kernel
theorem d_Model_asks_46 : decode b_Model_asks 46 = .ok (.imul, 1) := by decide +kernel
theorem d_Model_asks_47 : decode b_Model_asks 47 = .ok (.iaload, 1) := by decide +kernel
theorem d_Model_asks_48 : decode b_Model_asks 48 = .ok (.putfield 140, 3) := by decide +kernel
theorem d_Model_asks_51 : decode b_Model_asks 51 = .ok (.aload_n 0, 1) := by decide +kernel
theorem d_Model_asks_52 : decode b_Model_asks 52 = .ok (.iload_n 1, 1) := by decide +kernel
theorem d_Model_asks_53 : decode b_Model_asks 53 = .ok (.iload_n 2, 1) := by decide +kernel
theorem d_Model_asks_54 : decode b_Model_asks 54 = .ok (.iload_n 3, 1) := by decide +kernel
theorem d_Model_asks_55 : decode b_Model_asks 55 = .ok (.bipush (10), 2) := by decide +kernel
theorem d_Model_asks_57 : decode b_Model_asks 57 = .ok (.idiv, 1) := by decide +kernel
theorem d_Model_asks_58 : decode b_Model_asks 58 = .ok (.iload_n 3, 1) := by decide +kernel
theorem d_Model_asks_59 : decode b_Model_asks 59 = .ok (.bipush (10), 2) := by decide +kernel
theorem d_Model_asks_61 : decode b_Model_asks 61 = .ok (.irem, 1) := by decide +kernel
theorem d_Model_asks_62 : decode b_Model_asks 62 = .ok (.invokevirtual 152, 3) := by decide +kernel
theorem d_Model_asks_65 : decode b_Model_asks 65 = .ok (.ireturn, 1) := by decide +kernel
abbrev b_Model_head : ByteArray := prog_8_method_26_code
def y_Model_head : MethodName := ⟨"RoundAndRoundModel", "head", "(II)I"⟩
theorem d_Model_head_0 : decode b_Model_head 0 = .ok (.iload_n 1, 1) := by decide +kernel
theorem d_Model_head_1 : decode b_Model_head 1 = .ok (.iconst 0, 1) := by decide +kernel
theorem d_Model_head_2 : decode b_Model_head 2 = .ok (.iconst 5, 1) := by decide +kernel
theorem d_Model_head_3 : decode b_Model_head 3 = .ok (.invokestatic 66, 3) := by decide +kernel
theorem d_Model_head_6 : decode b_Model_head 6 = .ok (.ifCond .eq 13, 3) := by decide +kernel
theorem d_Model_head_9 : decode b_Model_head 9 = .ok (.iload_n 2, 1) := by decide +kernel
theorem d_Model_head_10 : decode b_Model_head 10 = .ok (.iconst 0, 1) := by decide +kernel
theorem d_Model_head_11 : decode b_Model_head 11 = .ok (.bipush (9), 2) := by decide +kernel
theorem d_Model_head_13 : decode b_Model_head 13 = .ok (.invokestatic 66, 3) := by decide +kernel
theorem d_Model_head_16 : decode b_Model_head 16 = .ok (.ifCond .ne 6, 3) := by decide +kernel
theorem d_Model_head_19 : decode b_Model_head 19 = .ok (.bipush (-2), 2) := by decide +kernel
theorem d_Model_head_21 : decode b_Model_head 21 = .ok (.ireturn, 1) := by decide +kernel
theorem d_Model_head_22 : decode b_Model_head 22 = .ok (.aload_n 0, 1) := by decide +kernel
theorem d_Model_head_23 : decode b_Model_head 23 = .ok (.getfield 63, 3) := by decide +kernel
theorem d_Model_head_26 : decode b_Model_head 26 = .ok (.iconst 5, 1) := by decide +kernel
theorem d_Model_head_27 : decode b_Model_head 27 = .ok (.if_icmp .ne 6, 3) := by decide +kernel
theorem d_Model_head_30 : decode b_Model_head 30 = .ok (.bipush (-4), 2) := by decide +kernel
theorem d_Model_head_32 : decode b_Model_head 32 = .ok (.ireturn, 1) := by decide +kernel
theorem d_Model_head_33 : decode b_Model_head 33 = .ok (.aload_n 0, 1) := by decide +kernel
theorem d_Model_head_34 : decode b_Model_head 34 = .ok (.getfield 7, 3) := by decide +kernel
theorem d_Model_head_37 : decode b_Model_head 37 = .ok (.aload_n 0, 1) := by decide +kernel
theorem d_Model_head_38 : decode b_Model_head 38 = .ok (.getfield 63, 3) := by decide +kernel
theorem d_Model_head_41 : decode b_Model_head 41 = .ok (.iload_n 1, 1) := by decide +kernel
theorem d_Model_head_42 : decode b_Model_head 42 = .ok (.iastore, 1) := by decide +kernel
theorem d_Model_head_43 : decode b_Model_head 43 = .ok (.aload_n 0, 1) := by decide +kernel
theorem d_Model_head_44 : decode b_Model_head 44 = .ok (.getfield 13, 3) := by decide +kernel
theorem d_Model_head_47 : decode b_Model_head 47 = .ok (.aload_n 0, 1) := by decide +kernel
theorem d_Model_head_48 : decode b_Model_head 48 = .ok (.getfield 63, 3) := by decide +kernel
theorem d_Model_head_51 : decode b_Model_head 51 = .ok (.iload_n 2, 1) := by decide +kernel
theorem d_Model_head_52 : decode b_Model_head 52 = .ok (.iastore, 1) := by decide +kernel
theorem d_Model_head_53 : decode b_Model_head 53 = .ok (.iconst 0, 1) := by decide +kernel
theorem d_Model_head_54 : decode b_Model_head 54 = .ok (.istore_n 3, 1) := by decide +kernel
theorem d_Model_head_55 : decode b_Model_head 55 = .ok (.iload_n 3, 1) := by decide +kernel
theorem d_Model_head_56 : decode b_Model_head 56 = .ok (.bipush (6), 2) := by decide +kernel
theorem d_Model_head_58 : decode b_Model_head 58 = .ok (.if_icmp .ge 24, 3) := by decide +kernel
theorem d_Model_head_61 : decode b_Model_head 61 = .ok (.aload_n 0, 1) := by decide +kernel
theorem d_Model_head_62 : decode b_Model_head 62 = .ok (.getfield 16, 3) := by decide +kernel
theorem d_Model_head_65 : decode b_Model_head 65 = .ok (.bipush (6), 2) := by decide +kernel
theorem d_Model_head_67 : decode b_Model_head 67 = .ok (.aload_n 0, 1) := by decide +kernel
theorem d_Model_head_68 : decode b_Model_head 68 = .ok (.getfield 63, 3) := by decide +kernel
theorem d_Model_head_71 : decode b_Model_head 71 = .ok (.imul, 1) := by decide +kernel
theorem d_Model_head_72 : decode b_Model_head 72 = .ok (.iload_n 3, 1) := by decide +kernel
theorem d_Model_head_73 : decode b_Model_head 73 = .ok (.iadd, 1) := by decide +kernel
theorem d_Model_head_74 : decode b_Model_head 74 = .ok (.iconst 0, 1) := by decide +kernel
theorem d_Model_head_75 : decode b_Model_head 75 = .ok (.iastore, 1) := by decide +kernel
theorem d_Model_head_76 : decode b_Model_head 76 = .ok (.iinc 3 (1), 3) := by decide +kernel
theorem d_Model_head_79 : decode b_Model_head 79 = .ok (.goto (-24), 3) := by decide +kernel
theorem d_Model_head_82 : decode b_Model_head 82 = .ok (.aload_n 0, 1) := by decide +kernel
theorem d_Model_head_83 : decode b_Model_head 83 = .ok (.dup, 1) := by decide +kernel
theorem d_Model_head_84 : decode b_Model_head 84 = .ok (.getfield 63, 3) := by decide +kernel
theorem d_Model_head_87 : decode b_Model_head 87 = .ok (.iconst 1, 1) := by decide +kernel
theorem d_Model_head_88 : decode b_Model_head 88 = .ok (.iadd, 1) := by decide +kernel
theorem d_Model_head_89 : decode b_Model_head 89 = .ok (.putfield 63, 3) := by decide +kernel
theorem d_Model_head_92 : decode b_Model_head 92 = .ok (.aload_n 0, 1) := by decide +kernel
theorem d_Model_head_93 : decode b_Model_head 93 = .ok (.getfield 63, 3) := by decide +kernel
theorem d_Model_head_96 : decode b_Model_head 96 = .ok (.iconst 1, 1) := by decide +kernel
theorem d_Model_head_97 : decode b_Model_head 97 = .ok (.isub, 1) := by decide +kernel
theorem d_Model_head_98 : decode b_Model_head 98 = .ok (.ireturn, 1) := by decide +kernel
abbrev b_Model_set : ByteArray := prog_8_method_27_code
def y_Model_set : MethodName := ⟨"RoundAndRoundModel", "set", "(III)I"⟩
theorem d_Model_set_0 : decode b_Model_set 0 = .ok (.aload_n 0, 1) := by decide +kernel
theorem d_Model_set_1 : decode b_Model_set 1 = .ok (.iload_n 1, 1) := by decide +kernel
theorem d_Model_set_2 : decode b_Model_set 2 = .ok (.invokevirtual 149, 3) := by decide +kernel
theorem d_Model_set_5 : decode b_Model_set 5 = .ok (.ifCond .ne 6, 3) := by decide +kernel
theorem d_Model_set_8 : decode b_Model_set 8 = .ok (.ldc 156, 2) := by decide +kernel
theorem d_Model_set_10 : decode b_Model_set 10 = .ok (.ireturn, 1) := by decide +kernel
theorem d_Model_set_11 : decode b_Model_set 11 = .ok (.iload_n 2, 1) := by decide +kernel
theorem d_Model_set_12 : decode b_Model_set 12 = .ok (.iconst 0, 1) := by decide +kernel
theorem d_Model_set_13 : decode b_Model_set 13 = .ok (.iconst 2, 1) := by decide +kernel
theorem d_Model_set_14 : decode b_Model_set 14 = .ok (.invokestatic 66, 3) := by decide +kernel
theorem d_Model_set_17 : decode b_Model_set 17 = .ok (.ifCond .eq 43, 3) := by decide +kernel
theorem d_Model_set_20 : decode b_Model_set 20 = .ok (.iload_n 3, 1) := by decide +kernel
theorem d_Model_set_21 : decode b_Model_set 21 = .ok (.iload_n 2, 1) := by decide +kernel
theorem d_Model_set_22 : decode b_Model_set 22 = .ok (.ifCond .ne 9, 3) := by decide +kernel
theorem d_Model_set_25 : decode b_Model_set 25 = .ok (.sipush (-9999), 3) := by decide +kernel
theorem d_Model_set_28 : decode b_Model_set 28 = .ok (.goto 4, 3) := by decide +kernel
theorem d_Model_set_31 : decode b_Model_set 31 = .ok (.iconst 0, 1) := by decide +kernel
theorem d_Model_set_32 : decode b_Model_set 32 = .ok (.iload_n 2, 1) := by decide +kernel
theorem d_Model_set_33 : decode b_Model_set 33 = .ok (.ifCond .ne 9, 3) := by decide +kernel
theorem d_Model_set_36 : decode b_Model_set 36 = .ok (.sipush (9999), 3) := by decide +kernel
theorem d_Model_set_39 : decode b_Model_set 39 = .ok (.goto 15, 3) := by decide +kernel
theorem d_Model_set_42 : decode b_Model_set 42 = .ok (.iload_n 2, 1) := by decide +kernel
theorem d_Model_set_43 : decode b_Model_set 43 = .ok (.iconst 1, 1) := by decide +kernel
theorem d_Model_set_44 : decode b_Model_set 44 = .ok (.if_icmp .ne 8, 3) := by decide +kernel
theorem d_Model_set_47 : decode b_Model_set 47 = .ok (.bipush (9), 2) := by decide +kernel
theorem d_Model_set_49 : decode b_Model_set 49 = .ok (.goto 5, 3) := by decide +kernel
theorem d_Model_set_52 : decode b_Model_set 52 = .ok (.bipush (99), 2) := by decide +kernel
theorem d_Model_set_54 : decode b_Model_set 54 = .ok (.invokestatic 66, 3) := by decide +kernel
theorem d_Model_set_57 : decode b_Model_set 57 = .ok (.ifCond .ne 6, 3) := by decide +kernel
theorem d_Model_set_60 : decode b_Model_set 60 = .ok (.ldc 157, 2) := by decide +kernel
theorem d_Model_set_62 : decode b_Model_set 62 = .ok (.ireturn, 1) := by decide +kernel
theorem d_Model_set_63 : decode b_Model_set 63 = .ok (.aload_n 0, 1) := by decide +kernel
theorem d_Model_set_64 : decode b_Model_set 64 = .ok (.getfield 16, 3) := by decide +kernel
theorem d_Model_set_67 : decode b_Model_set 67 = .ok (.bipush (6), 2) := by decide +kernel
theorem d_Model_set_69 : decode b_Model_set 69 = .ok (.iload_n 1, 1) := by decide +kernel
theorem d_Model_set_70 : decode b_Model_set 70 = .ok (.imul, 1) := by decide +kernel
theorem d_Model_set_71 : decode b_Model_set 71 = .ok (.iload_n 2, 1) := by decide +kernel
theorem d_Model_set_72 : decode b_Model_set 72 = .ok (.iadd, 1) := by decide +kernel
theorem d_Model_set_73 : decode b_Model_set 73 = .ok (.iaload, 1) := by decide +kernel
theorem d_Model_set_74 : decode b_Model_set 74 = .ok (.istore 4, 2) := by decide +kernel
theorem d_Model_set_76 : decode b_Model_set 76 = .ok (.aload_n 0, 1) := by decide +kernel
theorem d_Model_set_77 : decode b_Model_set 77 = .ok (.getfield 16, 3) := by decide +kernel
theorem d_Model_set_80 : decode b_Model_set 80 = .ok (.bipush (6), 2) := by decide +kernel
theorem d_Model_set_82 : decode b_Model_set 82 = .ok (.iload_n 1, 1) := by decide +kernel
theorem d_Model_set_83 : decode b_Model_set 83 = .ok (.imul, 1) := by decide +kernel
theorem d_Model_set_84 : decode b_Model_set 84 = .ok (.iload_n 2, 1) := by decide +kernel
theorem d_Model_set_85 : decode b_Model_set 85 = .ok (.iadd, 1) := by decide +kernel
theorem d_Model_set_86 : decode b_Model_set 86 = .ok (.iload_n 3, 1) := by decide +kernel
theorem d_Model_set_87 : decode b_Model_set 87 = .ok (.iastore, 1) := by decide +kernel
theorem d_Model_set_88 : decode b_Model_set 88 = .ok (.iload 4, 2) := by decide +kernel
theorem d_Model_set_90 : decode b_Model_set 90 = .ok (.ireturn, 1) := by decide +kernel
abbrev b_Model_fallsFrom : ByteArray := prog_8_method_28_code
def y_Model_fallsFrom : MethodName := ⟨"RoundAndRoundModel", "fallsFrom", "(I)I"⟩
theorem d_Model_fallsFrom_0 : decode b_Model_fallsFrom 0 = .ok (.aload_n 0, 1) := by decide +kernel
theorem d_Model_fallsFrom_1 : decode b_Model_fallsFrom 1 = .ok (.getfield 7, 3) := by decide +kernel
theorem d_Model_fallsFrom_4 : decode b_Model_fallsFrom 4 = .ok (.iload_n 1, 1) := by decide +kernel
theorem d_Model_fallsFrom_5 : decode b_Model_fallsFrom 5 = .ok (.iaload, 1) := by decide +kernel
theorem d_Model_fallsFrom_6 : decode b_Model_fallsFrom 6 = .ok (.iconst 1, 1) := by decide +kernel
theorem d_Model_fallsFrom_7 : decode b_Model_fallsFrom 7 = .ok (.if_icmp .eq 13, 3) := by decide +kernel
theorem d_Model_fallsFrom_10 : decode b_Model_fallsFrom 10 = .ok (.aload_n 0, 1) := by decide +kernel
theorem d_Model_fallsFrom_11 : decode b_Model_fallsFrom 11 = .ok (.getfield 7, 3) := by decide +kernel
theorem d_Model_fallsFrom_14 : decode b_Model_fallsFrom 14 = .ok (.iload_n 1, 1) := by decide +kernel
theorem d_Model_fallsFrom_15 : decode b_Model_fallsFrom 15 = .ok (.iaload, 1) := by decide +kernel
theorem d_Model_fallsFrom_16 : decode b_Model_fallsFrom 16 = .ok (.iconst 3, 1) := by decide +kernel
theorem d_Model_fallsFrom_17 : decode b_Model_fallsFrom 17 = .ok (.if_icmp .ne 19, 3) := by decide +kernel
theorem d_Model_fallsFrom_20 : decode b_Model_fallsFrom 20 = .ok (.sipush (800), 3) := by decide +kernel
theorem d_Model_fallsFrom_23 : decode b_Model_fallsFrom 23 = .ok (.bipush (20), 2) := by decide +kernel
theorem d_Model_fallsFrom_25 : decode b_Model_fallsFrom 25 = .ok (.aload_n 0, 1) := by decide +kernel
theorem d_Model_fallsFrom_26 : decode b_Model_fallsFrom 26 = .ok (.getfield 13, 3) := by decide +kernel
theorem d_Model_fallsFrom_29 : decode b_Model_fallsFrom 29 = .ok (.iload_n 1, 1) := by decide +kernel
theorem d_Model_fallsFrom_30 : decode b_Model_fallsFrom 30 = .ok (.iaload, 1) := by decide +kernel
theorem d_Model_fallsFrom_31 : decode b_Model_fallsFrom 31 = .ok (.imul, 1) := by decide +kernel
theorem d_Model_fallsFrom_32 : decode b_Model_fallsFrom 32 = .ok (.iadd, 1) := by decide +kernel
theorem d_Model_fallsFrom_33 : decode b_Model_fallsFrom 33 = .ok (.goto 22, 3) := by decide +kernel
theorem d_Model_fallsFrom_36 : decode b_Model_fallsFrom 36 = .ok (.aload_n 0, 1) := by decide +kernel
theorem d_Model_fallsFrom_37 : decode b_Model_fallsFrom 37 = .ok (.getfield 7, 3) := by decide +kernel
theorem d_Model_fallsFrom_40 : decode b_Model_fallsFrom 40 = .ok (.iload_n 1, 1) := by decide +kernel
theorem d_Model_fallsFrom_41 : decode b_Model_fallsFrom 41 = .ok (.iaload, 1) := by decide +kernel
theorem d_Model_fallsFrom_42 : decode b_Model_fallsFrom 42 = .ok (.iconst 4, 1) := by decide +kernel
theorem d_Model_fallsFrom_43 : decode b_Model_fallsFrom 43 = .ok (.if_icmp .ne 9, 3) := by decide +kernel
theorem d_Model_fallsFrom_46 : decode b_Model_fallsFrom 46 = .ok (.sipush (400), 3) := by decide +kernel
theorem d_Model_fallsFrom_49 : decode b_Model_fallsFrom 49 = .ok (.goto 6, 3) := by decide +kernel
theorem d_Model_fallsFrom_52 : decode b_Model_fallsFrom 52 = .ok (.sipush (800), 3) := by decide +kernel
theorem d_Model_fallsFrom_55 : decode b_Model_fallsFrom 55 = .ok (.ireturn, 1) := by decide +kernel
abbrev b_Model_told : ByteArray := prog_8_method_29_code
def y_Model_told : MethodName := ⟨"RoundAndRoundModel", "told", "(II)I"⟩
theorem d_Model_told_0 : decode b_Model_told 0 = .ok (.aload_n 0, 1) := by decide +kernel
theorem d_Model_told_1 : decode b_Model_told 1 = .ok (.iload_n 1, 1) := by decide +kernel
theorem d_Model_told_2 : decode b_Model_told 2 = .ok (.invokevirtual 149, 3) := by decide +kernel
theorem d_Model_told_5 : decode b_Model_told 5 = .ok (.ifCond .ne 6, 3) := by decide +kernel
theorem d_Model_told_8 : decode b_Model_told 8 = .ok (.ldc 156, 2) := by decide +kernel
theorem d_Model_told_10 : decode b_Model_told 10 = .ok (.ireturn, 1) := by decide +kernel
theorem d_Model_told_11 : decode b_Model_told 11 = .ok (.iload_n 2, 1) := by decide +kernel
theorem d_Model_told_12 : decode b_Model_told 12 = .ok (.tableswitch 86 (0) (8) #[52, 59, 66, 66, 66, 66, 66, 66, 80], 52) := by decide +kernel
theorem d_Model_told_64 : decode b_Model_told 64 = .ok (.aload_n 0, 1) := by decide +kernel
theorem d_Model_told_65 : decode b_Model_told 65 = .ok (.getfield 7, 3) := by decide +kernel
theorem d_Model_told_68 : decode b_Model_told 68 = .ok (.iload_n 1, 1) := by decide +kernel
theorem d_Model_told_69 : decode b_Model_told 69 = .ok (.iaload, 1) := by decide +kernel
theorem d_Model_told_70 : decode b_Model_told 70 = .ok (.ireturn, 1) := by decide +kernel
theorem d_Model_told_71 : decode b_Model_told 71 = .ok (.aload_n 0, 1) := by decide +kernel
theorem d_Model_told_72 : decode b_Model_told 72 = .ok (.getfield 13, 3) := by decide +kernel
theorem d_Model_told_75 : decode b_Model_told 75 = .ok (.iload_n 1, 1) := by decide +kernel
theorem d_Model_told_76 : decode b_Model_told 76 = .ok (.iaload, 1) := by decide +kernel
theorem d_Model_told_77 : decode b_Model_told 77 = .ok (.ireturn, 1) := by decide +kernel
theorem d_Model_told_78 : decode b_Model_told 78 = .ok (.aload_n 0, 1) := by decide +kernel
theorem d_Model_told_79 : decode b_Model_told 79 = .ok (.getfield 16, 3) := by decide +kernel
theorem d_Model_told_82 : decode b_Model_told 82 = .ok (.bipush (6), 2) := by decide +kernel
theorem d_Model_told_84 : decode b_Model_told 84 = .ok (.iload_n 1, 1) := by decide +kernel
theorem d_Model_told_85 : decode b_Model_told 85 = .ok (.imul, 1) := by decide +kernel
theorem d_Model_told_86 : decode b_Model_told 86 = .ok (.iload_n 2, 1) := by decide +kernel
theorem d_Model_told_87 : decode b_Model_told 87 = .ok (.iadd, 1) := by decide +kernel
theorem d_Model_told_88 : decode b_Model_told 88 = .ok (.iconst 2, 1) := by decide +kernel
theorem d_Model_told_89 : decode b_Model_told 89 = .ok (.isub, 1) := by decide +kernel
theorem d_Model_told_90 : decode b_Model_told 90 = .ok (.iaload, 1) := by decide +kernel
theorem d_Model_told_91 : decode b_Model_told 91 = .ok (.ireturn, 1) := by decide +kernel
theorem d_Model_told_92 : decode b_Model_told 92 = .ok (.aload_n 0, 1) := by decide +kernel
theorem d_Model_told_93 : decode b_Model_told 93 = .ok (.iload_n 1, 1) := by decide +kernel
theorem d_Model_told_94 : decode b_Model_told 94 = .ok (.invokevirtual 158, 3) := by decide +kernel
theorem d_Model_told_97 : decode b_Model_told 97 = .ok (.ireturn, 1) := by decide +kernel
theorem d_Model_told_98 : decode b_Model_told 98 = .ok (.ldc 157, 2) := by decide +kernel
theorem d_Model_told_100 : decode b_Model_told 100 = .ok (.ireturn, 1) := by decide +kernel
abbrev b_Model_buildsOf : ByteArray := prog_8_method_30_code
def y_Model_buildsOf : MethodName := ⟨"RoundAndRoundModel", "buildsOf", "(II)I"⟩
theorem d_Model_buildsOf_0 : decode b_Model_buildsOf 0 = .ok (.aload_n 0, 1) := by decide +kernel
theorem d_Model_buildsOf_1 : decode b_Model_buildsOf 1 = .ok (.iconst 0, 1) := by decide +kernel
theorem d_Model_buildsOf_2 : decode b_Model_buildsOf 2 = .ok (.iload_n 1, 1) := by decide +kernel
theorem d_Model_buildsOf_3 : decode b_Model_buildsOf 3 = .ok (.iload_n 2, 1) := by decide +kernel
theorem d_Model_buildsOf_4 : decode b_Model_buildsOf 4 = .ok (.iconst 1, 1) := by decide +kernel
theorem d_Model_buildsOf_5 : decode b_Model_buildsOf 5 = .ok (.invokevirtual 152, 3) := by decide +kernel
theorem d_Model_buildsOf_8 : decode b_Model_buildsOf 8 = .ok (.istore_n 3, 1) := by decide +kernel
theorem d_Model_buildsOf_9 : decode b_Model_buildsOf 9 = .ok (.aload_n 0, 1) := by decide +kernel
theorem d_Model_buildsOf_10 : decode b_Model_buildsOf 10 = .ok (.getfield 7, 3) := by decide +kernel
theorem d_Model_buildsOf_13 : decode b_Model_buildsOf 13 = .ok (.iload_n 1, 1) := by decide +kernel
theorem d_Model_buildsOf_14 : decode b_Model_buildsOf 14 = .ok (.iaload, 1) := by decide +kernel
theorem d_Model_buildsOf_15 : decode b_Model_buildsOf 15 = .ok (.tableswitch 88 (1) (5) #[33, 40, 54, 40, 74], 33) := by decide +kernel
theorem d_Model_buildsOf_48 : decode b_Model_buildsOf 48 = .ok (.iload_n 3, 1) := by decide +kernel
theorem d_Model_buildsOf_49 : decode b_Model_buildsOf 49 = .ok (.iconst 2, 1) := by decide +kernel
theorem d_Model_buildsOf_50 : decode b_Model_buildsOf 50 = .ok (.idiv, 1) := by decide +kernel
theorem d_Model_buildsOf_51 : decode b_Model_buildsOf 51 = .ok (.istore_n 3, 1) := by decide +kernel
theorem d_Model_buildsOf_52 : decode b_Model_buildsOf 52 = .ok (.goto 51, 3) := by decide +kernel
theorem d_Model_buildsOf_55 : decode b_Model_buildsOf 55 = .ok (.iload_n 3, 1) := by decide +kernel
theorem d_Model_buildsOf_56 : decode b_Model_buildsOf 56 = .ok (.iconst 5, 1) := by decide +kernel
theorem d_Model_buildsOf_57 : decode b_Model_buildsOf 57 = .ok (.aload_n 0, 1) := by decide +kernel
theorem d_Model_buildsOf_58 : decode b_Model_buildsOf 58 = .ok (.getfield 13, 3) := by decide +kernel
theorem d_Model_buildsOf_61 : decode b_Model_buildsOf 61 = .ok (.iload_n 1, 1) := by decide +kernel
theorem d_Model_buildsOf_62 : decode b_Model_buildsOf 62 = .ok (.iaload, 1) := by decide +kernel
theorem d_Model_buildsOf_63 : decode b_Model_buildsOf 63 = .ok (.imul, 1) := by decide +kernel
theorem d_Model_buildsOf_64 : decode b_Model_buildsOf 64 = .ok (.isub, 1) := by decide +kernel
theorem d_Model_buildsOf_65 : decode b_Model_buildsOf 65 = .ok (.istore_n 3, 1) := by decide +kernel
theorem d_Model_buildsOf_66 : decode b_Model_buildsOf 66 = .ok (.goto 37, 3) := by decide +kernel
theorem d_Model_buildsOf_69 : decode b_Model_buildsOf 69 = .ok (.iload_n 2, 1) := by decide +kernel
theorem d_Model_buildsOf_70 : decode b_Model_buildsOf 70 = .ok (.iconst 4, 1) := by decide +kernel
theorem d_Model_buildsOf_71 : decode b_Model_buildsOf 71 = .ok (.if_icmp .le 11, 3) := by decide +kernel
theorem d_Model_buildsOf_74 : decode b_Model_buildsOf 74 = .ok (.iload_n 3, 1) := by decide +kernel
theorem d_Model_buildsOf_75 : decode b_Model_buildsOf 75 = .ok (.iconst 2, 1) := by decide +kernel
theorem d_Model_buildsOf_76 : decode b_Model_buildsOf 76 = .ok (.idiv, 1) := by decide +kernel
theorem d_Model_buildsOf_77 : decode b_Model_buildsOf 77 = .ok (.iconst 2, 1) := by decide +kernel
theorem d_Model_buildsOf_78 : decode b_Model_buildsOf 78 = .ok (.idiv, 1) := by decide +kernel
theorem d_Model_buildsOf_79 : decode b_Model_buildsOf 79 = .ok (.goto 6, 3) := by decide +kernel
theorem d_Model_buildsOf_82 : decode b_Model_buildsOf 82 = .ok (.iload_n 3, 1) := by decide +kernel
theorem d_Model_buildsOf_83 : decode b_Model_buildsOf 83 = .ok (.iconst 2, 1) := by decide +kernel
theorem d_Model_buildsOf_84 : decode b_Model_buildsOf 84 = .ok (.idiv, 1) := by decide +kernel
theorem d_Model_buildsOf_85 : decode b_Model_buildsOf 85 = .ok (.istore_n 3, 1) := by decide +kernel
theorem d_Model_buildsOf_86 : decode b_Model_buildsOf 86 = .ok (.goto 17, 3) := by decide +kernel
theorem d_Model_buildsOf_89 : decode b_Model_buildsOf 89 = .ok (.iload_n 3, 1) := by decide +kernel
theorem d_Model_buildsOf_90 : decode b_Model_buildsOf 90 = .ok (.iload_n 2, 1) := by decide +kernel
theorem d_Model_buildsOf_91 : decode b_Model_buildsOf 91 = .ok (.aload_n 0, 1) := by decide +kernel
theorem d_Model_buildsOf_92 : decode b_Model_buildsOf 92 = .ok (.getfield 13, 3) := by decide +kernel
theorem d_Model_buildsOf_95 : decode b_Model_buildsOf 95 = .ok (.iload_n 1, 1) := by decide +kernel
theorem d_Model_buildsOf_96 : decode b_Model_buildsOf 96 = .ok (.iaload, 1) := by decide +kernel
theorem d_Model_buildsOf_97 : decode b_Model_buildsOf 97 = .ok (.imul, 1) := by decide +kernel
theorem d_Model_buildsOf_98 : decode b_Model_buildsOf 98 = .ok (.iadd, 1) := by decide +kernel
theorem d_Model_buildsOf_99 : decode b_Model_buildsOf 99 = .ok (.istore_n 3, 1) := by decide +kernel
theorem d_Model_buildsOf_100 : decode b_Model_buildsOf 100 = .ok (.goto 3, 3) := by decide +kernel
theorem d_Model_buildsOf_103 : decode b_Model_buildsOf 103 = .ok (.iload_n 3, 1) := by decide +kernel
theorem d_Model_buildsOf_104 : decode b_Model_buildsOf 104 = .ok (.ifCond .ge 7, 3) := by decide +kernel
theorem d_Model_buildsOf_107 : decode b_Model_buildsOf 107 = .ok (.iconst 0, 1) := by decide +kernel
theorem d_Model_buildsOf_108 : decode b_Model_buildsOf 108 = .ok (.goto 4, 3) := by decide +kernel
theorem d_Model_buildsOf_111 : decode b_Model_buildsOf 111 = .ok (.iload_n 3, 1) := by decide +kernel
theorem d_Model_buildsOf_112 : decode b_Model_buildsOf 112 = .ok (.ireturn, 1) := by decide +kernel
abbrev b_Model_fadesOf : ByteArray := prog_8_method_31_code
def y_Model_fadesOf : MethodName := ⟨"RoundAndRoundModel", "fadesOf", "(II)I"⟩
theorem d_Model_fadesOf_0 : decode b_Model_fadesOf 0 = .ok (.aload_n 0, 1) := by decide +kernel
theorem d_Model_fadesOf_1 : decode b_Model_fadesOf 1 = .ok (.iconst 1, 1) := by decide +kernel
theorem d_Model_fadesOf_2 : decode b_Model_fadesOf 2 = .ok (.iload_n 1, 1) := by decide +kernel
theorem d_Model_fadesOf_3 : decode b_Model_fadesOf 3 = .ok (.iconst 0, 1) := by decide +kernel
theorem d_Model_fadesOf_4 : decode b_Model_fadesOf 4 = .ok (.iload_n 2, 1) := by decide +kernel
theorem d_Model_fadesOf_5 : decode b_Model_fadesOf 5 = .ok (.invokevirtual 152, 3) := by decide +kernel
theorem d_Model_fadesOf_8 : decode b_Model_fadesOf 8 = .ok (.istore_n 3, 1) := by decide +kernel
theorem d_Model_fadesOf_9 : decode b_Model_fadesOf 9 = .ok (.aload_n 0, 1) := by decide +kernel
theorem d_Model_fadesOf_10 : decode b_Model_fadesOf 10 = .ok (.getfield 7, 3) := by decide +kernel
theorem d_Model_fadesOf_13 : decode b_Model_fadesOf 13 = .ok (.iload_n 1, 1) := by decide +kernel
theorem d_Model_fadesOf_14 : decode b_Model_fadesOf 14 = .ok (.iaload, 1) := by decide +kernel
theorem d_Model_fadesOf_15 : decode b_Model_fadesOf 15 = .ok (.iconst 2, 1) := by decide +kernel
theorem d_Model_fadesOf_16 : decode b_Model_fadesOf 16 = .ok (.if_icmp .ne 9, 3) := by decide +kernel
theorem d_Model_fadesOf_19 : decode b_Model_fadesOf 19 = .ok (.iload_n 3, 1) := by decide +kernel
theorem d_Model_fadesOf_20 : decode b_Model_fadesOf 20 = .ok (.iconst 5, 1) := by decide +kernel
theorem d_Model_fadesOf_21 : decode b_Model_fadesOf 21 = .ok (.iadd, 1) := by decide +kernel
theorem d_Model_fadesOf_22 : decode b_Model_fadesOf 22 = .ok (.goto 22, 3) := by decide +kernel
theorem d_Model_fadesOf_25 : decode b_Model_fadesOf 25 = .ok (.aload_n 0, 1) := by decide +kernel
theorem d_Model_fadesOf_26 : decode b_Model_fadesOf 26 = .ok (.getfield 7, 3) := by decide +kernel
theorem d_Model_fadesOf_29 : decode b_Model_fadesOf 29 = .ok (.iload_n 1, 1) := by decide +kernel
theorem d_Model_fadesOf_30 : decode b_Model_fadesOf 30 = .ok (.iaload, 1) := by decide +kernel
theorem d_Model_fadesOf_31 : decode b_Model_fadesOf 31 = .ok (.iconst 4, 1) := by decide +kernel
theorem d_Model_fadesOf_32 : decode b_Model_fadesOf 32 = .ok (.if_icmp .ne 11, 3) := by decide +kernel
theorem d_Model_fadesOf_35 : decode b_Model_fadesOf 35 = .ok (.iload_n 3, 1) := by decide +kernel
theorem d_Model_fadesOf_36 : decode b_Model_fadesOf 36 = .ok (.iconst 5, 1) := by decide +kernel
theorem d_Model_fadesOf_37 : decode b_Model_fadesOf 37 = .ok (.iadd, 1) := by decide +kernel
theorem d_Model_fadesOf_38 : decode b_Model_fadesOf 38 = .ok (.iconst 3, 1) := by decide +kernel
theorem d_Model_fadesOf_39 : decode b_Model_fadesOf 39 = .ok (.idiv, 1) := by decide +kernel
theorem d_Model_fadesOf_40 : decode b_Model_fadesOf 40 = .ok (.goto 4, 3) := by decide +kernel
theorem d_Model_fadesOf_43 : decode b_Model_fadesOf 43 = .ok (.iload_n 3, 1) := by decide +kernel
theorem d_Model_fadesOf_44 : decode b_Model_fadesOf 44 = .ok (.iconst 0, 1) := by decide +kernel
theorem d_Model_fadesOf_45 : decode b_Model_fadesOf 45 = .ok (.bipush (100), 2) := by decide +kernel
theorem d_Model_fadesOf_47 : decode b_Model_fadesOf 47 = .ok (.invokestatic 146, 3) := by decide +kernel
theorem d_Model_fadesOf_50 : decode b_Model_fadesOf 50 = .ok (.ireturn, 1) := by decide +kernel
abbrev b_Model_fade : ByteArray := prog_8_method_32_code
def y_Model_fade : MethodName := ⟨"RoundAndRoundModel", "fade", "(II)V"⟩
theorem d_Model_fade_0 : decode b_Model_fade 0 = .ok (.aload_n 0, 1) := by decide +kernel
theorem d_Model_fade_1 : decode b_Model_fade 1 = .ok (.dup, 1) := by decide +kernel
theorem d_Model_fade_2 : decode b_Model_fade 2 = .ok (.getfield 140, 3) := by decide +kernel
theorem d_Model_fade_5 : decode b_Model_fade 5 = .ok (.aload_n 0, 1) := by decide +kernel
theorem d_Model_fade_6 : decode b_Model_fade 6 = .ok (.getfield 140, 3) := by decide +kernel
theorem d_Model_fade_9 : decode b_Model_fade 9 = .ok (.aload_n 0, 1) := by decide +kernel
theorem d_Model_fade_10 : decode b_Model_fade 10 = .ok (.iload_n 1, 1) := by decide +kernel
theorem d_Model_fade_11 : decode b_Model_fade 11 = .ok (.iload_n 2, 1) := by decide +kernel
theorem d_Model_fade_12 : decode b_Model_fade 12 = .ok (.invokevirtual 161, 3) := by decide +kernel
theorem d_Model_fade_15 : decode b_Model_fade 15 = .ok (.imul, 1) := by decide +kernel
theorem d_Model_fade_16 : decode b_Model_fade 16 = .ok (.bipush (100), 2) := by decide +kernel
theorem d_Model_fade_18 : decode b_Model_fade 18 = .ok (.idiv, 1) := by decide +kernel
theorem d_Model_fade_19 : decode b_Model_fade 19 = .ok (.isub, 1) := by decide +kernel
theorem d_Model_fade_20 : decode b_Model_fade 20 = .ok (.putfield 140, 3) := by decide +kernel
theorem d_Model_fade_23 : decode b_Model_fade 23 = .ok (.return_, 1) := by decide +kernel
abbrev b_Model_turns : ByteArray := prog_8_method_33_code
def y_Model_turns : MethodName := ⟨"RoundAndRoundModel", "turns", "(III)V"⟩
theorem d_Model_turns_0 : decode b_Model_turns 0 = .ok (.iconst 0, 1) := by decide +kernel
theorem d_Model_turns_1 : decode b_Model_turns 1 = .ok (.istore 4, 2) := by decide +kernel
theorem d_Model_turns_3 : decode b_Model_turns 3 = .ok (.iload 4, 2) := by decide +kernel
theorem d_Model_turns_5 : decode b_Model_turns 5 = .ok (.iload_n 2, 1) := by decide +kernel
theorem d_Model_turns_6 : decode b_Model_turns 6 = .ok (.invokestatic 164, 3) := by decide +kernel
theorem d_Model_turns_9 : decode b_Model_turns 9 = .ok (.if_icmp .ge 57, 3) := by decide +kernel
theorem d_Model_turns_12 : decode b_Model_turns 12 = .ok (.aload_n 0, 1) := by decide +kernel
theorem d_Model_turns_13 : decode b_Model_turns 13 = .ok (.iload_n 1, 1) := by decide +kernel
theorem d_Model_turns_14 : decode b_Model_turns 14 = .ok (.iload_n 3, 1) := by decide +kernel
theorem d_Model_turns_15 : decode b_Model_turns 15 = .ok (.invokevirtual 167, 3) := by decide +kernel
theorem d_Model_turns_18 : decode b_Model_turns 18 = .ok (.istore 5, 2) := by decide +kernel
theorem d_Model_turns_20 : decode b_Model_turns 20 = .ok (.aload_n 0, 1) := by decide +kernel
theorem d_Model_turns_21 : decode b_Model_turns 21 = .ok (.iload_n 2, 1) := by decide +kernel
theorem d_Model_turns_22 : decode b_Model_turns 22 = .ok (.ifCond .ge 13, 3) := by decide +kernel
theorem d_Model_turns_25 : decode b_Model_turns 25 = .ok (.aload_n 0, 1) := by decide +kernel
theorem d_Model_turns_26 : decode b_Model_turns 26 = .ok (.getfield 140, 3) := by decide +kernel
theorem d_Model_turns_29 : decode b_Model_turns 29 = .ok (.iload 5, 2) := by decide +kernel
theorem d_Model_turns_31 : decode b_Model_turns 31 = .ok (.isub, 1) := by decide +kernel
theorem d_Model_turns_32 : decode b_Model_turns 32 = .ok (.goto 10, 3) := by decide +kernel
theorem d_Model_turns_35 : decode b_Model_turns 35 = .ok (.aload_n 0, 1) := by decide +kernel
theorem d_Model_turns_36 : decode b_Model_turns 36 = .ok (.getfield 140, 3) := by decide +kernel
theorem d_Model_turns_39 : decode b_Model_turns 39 = .ok (.iload 5, 2) := by decide +kernel
theorem d_Model_turns_41 : decode b_Model_turns 41 = .ok (.iadd, 1) := by decide +kernel
theorem d_Model_turns_42 : decode b_Model_turns 42 = .ok (.sipush (-9999), 3) := by decide +kernel
theorem d_Model_turns_45 : decode b_Model_turns 45 = .ok (.sipush (9999), 3) := by decide +kernel
theorem d_Model_turns_48 : decode b_Model_turns 48 = .ok (.invokestatic 146, 3) := by decide +kernel
theorem d_Model_turns_51 : decode b_Model_turns 51 = .ok (.putfield 140, 3) := by decide +kernel
theorem d_Model_turns_54 : decode b_Model_turns 54 = .ok (.aload_n 0, 1) := by decide +kernel
theorem d_Model_turns_55 : decode b_Model_turns 55 = .ok (.iload_n 1, 1) := by decide +kernel
theorem d_Model_turns_56 : decode b_Model_turns 56 = .ok (.iconst 1, 1) := by decide +kernel
theorem d_Model_turns_57 : decode b_Model_turns 57 = .ok (.invokevirtual 170, 3) := by decide +kernel
theorem d_Model_turns_60 : decode b_Model_turns 60 = .ok (.iinc 4 (1), 3) := by decide +kernel
theorem d_Model_turns_63 : decode b_Model_turns 63 = .ok (.goto (-60), 3) := by decide +kernel
theorem d_Model_turns_66 : decode b_Model_turns 66 = .ok (.return_, 1) := by decide +kernel
abbrev b_Model_waits : ByteArray := prog_8_method_34_code
def y_Model_waits : MethodName := ⟨"RoundAndRoundModel", "waits", "(III)V"⟩
theorem d_Model_waits_0 : decode b_Model_waits 0 = .ok (.iconst 0, 1) := by decide +kernel
theorem d_Model_waits_1 : decode b_Model_waits 1 = .ok (.istore 4, 2) := by decide +kernel
theorem d_Model_waits_3 : decode b_Model_waits 3 = .ok (.iload 4, 2) := by decide +kernel
theorem d_Model_waits_5 : decode b_Model_waits 5 = .ok (.iload_n 2, 1) := by decide +kernel
theorem d_Model_waits_6 : decode b_Model_waits 6 = .ok (.if_icmp .ge 15, 3) := by decide +kernel
theorem d_Model_waits_9 : decode b_Model_waits 9 = .ok (.aload_n 0, 1) := by decide +kernel
theorem d_Model_waits_10 : decode b_Model_waits 10 = .ok (.iload_n 1, 1) := by decide +kernel
theorem d_Model_waits_11 : decode b_Model_waits 11 = .ok (.iload_n 3, 1) := by decide +kernel
theorem d_Model_waits_12 : decode b_Model_waits 12 = .ok (.invokevirtual 170, 3) := by decide +kernel
theorem d_Model_waits_15 : decode b_Model_waits 15 = .ok (.iinc 4 (1), 3) := by decide +kernel
theorem d_Model_waits_18 : decode b_Model_waits 18 = .ok (.goto (-15), 3) := by decide +kernel
theorem d_Model_waits_21 : decode b_Model_waits 21 = .ok (.return_, 1) := by decide +kernel
abbrev b_Model_step : ByteArray := prog_8_method_35_code
def y_Model_step : MethodName := ⟨"RoundAndRoundModel", "step", "(IIII)V"⟩
theorem d_Model_step_0 : decode b_Model_step 0 = .ok (.aload_n 0, 1) := by decide +kernel
theorem d_Model_step_1 : decode b_Model_step 1 = .ok (.getfield 174, 3) := by decide +kernel
theorem d_Model_step_4 : decode b_Model_step 4 = .ok (.ifCond .eq 4, 3) := by decide +kernel
theorem d_Model_step_7 : decode b_Model_step 7 = .ok (.return_, 1) := by decide +kernel
theorem d_Model_step_8 : decode b_Model_step 8 = .ok (.aload_n 0, 1) := by decide +kernel
theorem d_Model_step_9 : decode b_Model_step 9 = .ok (.getfield 140, 3) := by decide +kernel
theorem d_Model_step_12 : decode b_Model_step 12 = .ok (.invokestatic 164, 3) := by decide +kernel
theorem d_Model_step_15 : decode b_Model_step 15 = .ok (.aload_n 0, 1) := by decide +kernel
theorem d_Model_step_16 : decode b_Model_step 16 = .ok (.iload_n 1, 1) := by decide +kernel
theorem d_Model_step_17 : decode b_Model_step 17 = .ok (.invokevirtual 158, 3) := by decide +kernel
theorem d_Model_step_20 : decode b_Model_step 20 = .ok (.if_icmp .lt 15, 3) := by decide +kernel
theorem d_Model_step_23 : decode b_Model_step 23 = .ok (.aload_n 0, 1) := by decide +kernel
theorem d_Model_step_24 : decode b_Model_step 24 = .ok (.iconst 1, 1) := by decide +kernel
theorem d_Model_step_25 : decode b_Model_step 25 = .ok (.putfield 174, 3) := by decide +kernel
theorem d_Model_step_28 : decode b_Model_step 28 = .ok (.aload_n 0, 1) := by decide +kernel
theorem d_Model_step_29 : decode b_Model_step 29 = .ok (.iload 4, 2) := by decide +kernel
theorem d_Model_step_31 : decode b_Model_step 31 = .ok (.putfield 178, 3) := by decide +kernel
theorem d_Model_step_34 : decode b_Model_step 34 = .ok (.return_, 1) := by decide +kernel
theorem d_Model_step_35 : decode b_Model_step 35 = .ok (.aload_n 0, 1) := by decide +kernel
theorem d_Model_step_36 : decode b_Model_step 36 = .ok (.iconst 2, 1) := by decide +kernel
theorem d_Model_step_37 : decode b_Model_step 37 = .ok (.iload_n 1, 1) := by decide +kernel
theorem d_Model_step_38 : decode b_Model_step 38 = .ok (.iload_n 2, 1) := by decide +kernel
theorem d_Model_step_39 : decode b_Model_step 39 = .ok (.iload_n 3, 1) := by decide +kernel
theorem d_Model_step_40 : decode b_Model_step 40 = .ok (.invokevirtual 152, 3) := by decide +kernel
theorem d_Model_step_43 : decode b_Model_step 43 = .ok (.istore 5, 2) := by decide +kernel
theorem d_Model_step_45 : decode b_Model_step 45 = .ok (.aload_n 0, 1) := by decide +kernel
theorem d_Model_step_46 : decode b_Model_step 46 = .ok (.aload_n 0, 1) := by decide +kernel
theorem d_Model_step_47 : decode b_Model_step 47 = .ok (.getfield 181, 3) := by decide +kernel
theorem d_Model_step_50 : decode b_Model_step 50 = .ok (.iload_n 2, 1) := by decide +kernel
theorem d_Model_step_51 : decode b_Model_step 51 = .ok (.iadd, 1) := by decide +kernel
theorem d_Model_step_52 : decode b_Model_step 52 = .ok (.ldc 184, 2) := by decide +kernel
theorem d_Model_step_54 : decode b_Model_step 54 = .ok (.ldc 185, 2) := by decide +kernel
theorem d_Model_step_56 : decode b_Model_step 56 = .ok (.invokestatic 146, 3) := by decide +kernel
theorem d_Model_step_59 : decode b_Model_step 59 = .ok (.putfield 181, 3) := by decide +kernel
theorem d_Model_step_62 : decode b_Model_step 62 = .ok (.aload_n 0, 1) := by decide +kernel
theorem d_Model_step_63 : decode b_Model_step 63 = .ok (.aload_n 0, 1) := by decide +kernel
theorem d_Model_step_64 : decode b_Model_step 64 = .ok (.getfield 186, 3) := by decide +kernel
theorem d_Model_step_67 : decode b_Model_step 67 = .ok (.aload_n 0, 1) := by decide +kernel
theorem d_Model_step_68 : decode b_Model_step 68 = .ok (.getfield 140, 3) := by decide +kernel
theorem d_Model_step_71 : decode b_Model_step 71 = .ok (.iload 5, 2) := by decide +kernel
theorem d_Model_step_73 : decode b_Model_step 73 = .ok (.imul, 1) := by decide +kernel
theorem d_Model_step_74 : decode b_Model_step 74 = .ok (.sipush (1000), 3) := by decide +kernel
theorem d_Model_step_77 : decode b_Model_step 77 = .ok (.idiv, 1) := by decide +kernel
theorem d_Model_step_78 : decode b_Model_step 78 = .ok (.iadd, 1) := by decide +kernel
theorem d_Model_step_79 : decode b_Model_step 79 = .ok (.ldc 184, 2) := by decide +kernel
theorem d_Model_step_81 : decode b_Model_step 81 = .ok (.ldc 185, 2) := by decide +kernel
theorem d_Model_step_83 : decode b_Model_step 83 = .ok (.invokestatic 146, 3) := by decide +kernel
theorem d_Model_step_86 : decode b_Model_step 86 = .ok (.putfield 186, 3) := by decide +kernel
theorem d_Model_step_89 : decode b_Model_step 89 = .ok (.aload_n 0, 1) := by decide +kernel
theorem d_Model_step_90 : decode b_Model_step 90 = .ok (.iload_n 1, 1) := by decide +kernel
theorem d_Model_step_91 : decode b_Model_step 91 = .ok (.iload_n 3, 1) := by decide +kernel
theorem d_Model_step_92 : decode b_Model_step 92 = .ok (.invokevirtual 170, 3) := by decide +kernel
theorem d_Model_step_95 : decode b_Model_step 95 = .ok (.return_, 1) := by decide +kernel
abbrev b_Model_walks : ByteArray := prog_8_method_36_code
def y_Model_walks : MethodName := ⟨"RoundAndRoundModel", "walks", "(IIII)V"⟩
theorem d_Model_walks_0 : decode b_Model_walks 0 = .ok (.iconst 0, 1) := by decide +kernel
theorem d_Model_walks_1 : decode b_Model_walks 1 = .ok (.istore 5, 2) := by decide +kernel
theorem d_Model_walks_3 : decode b_Model_walks 3 = .ok (.iload 5, 2) := by decide +kernel
theorem d_Model_walks_5 : decode b_Model_walks 5 = .ok (.iload_n 2, 1) := by decide +kernel
theorem d_Model_walks_6 : decode b_Model_walks 6 = .ok (.if_icmp .ge 19, 3) := by decide +kernel
theorem d_Model_walks_9 : decode b_Model_walks 9 = .ok (.aload_n 0, 1) := by decide +kernel
theorem d_Model_walks_10 : decode b_Model_walks 10 = .ok (.iload_n 1, 1) := by decide +kernel
theorem d_Model_walks_11 : decode b_Model_walks 11 = .ok (.iload_n 3, 1) := by decide +kernel
theorem d_Model_walks_12 : decode b_Model_walks 12 = .ok (.iload 4, 2) := by decide +kernel
theorem d_Model_walks_14 : decode b_Model_walks 14 = .ok (.iload 5, 2) := by decide +kernel
theorem d_Model_walks_16 : decode b_Model_walks 16 = .ok (.invokevirtual 189, 3) := by decide +kernel
theorem d_Model_walks_19 : decode b_Model_walks 19 = .ok (.iinc 5 (1), 3) := by decide +kernel
theorem d_Model_walks_22 : decode b_Model_walks 22 = .ok (.goto (-19), 3) := by decide +kernel
theorem d_Model_walks_25 : decode b_Model_walks 25 = .ok (.return_, 1) := by decide +kernel
abbrev b_Model_takes : ByteArray := prog_8_method_37_code
def y_Model_takes : MethodName := ⟨"RoundAndRoundModel", "takes", "(I)V"⟩
theorem d_Model_takes_0 : decode b_Model_takes 0 = .ok (.aload_n 0, 1) := by decide +kernel
theorem d_Model_takes_1 : decode b_Model_takes 1 = .ok (.aload_n 0, 1) := by decide +kernel
theorem d_Model_takes_2 : decode b_Model_takes 2 = .ok (.getfield 16, 3) := by decide +kernel
theorem d_Model_takes_5 : decode b_Model_takes 5 = .ok (.bipush (6), 2) := by decide +kernel
theorem d_Model_takes_7 : decode b_Model_takes 7 = .ok (.iload_n 1, 1) := by decide +kernel
theorem d_Model_takes_8 : decode b_Model_takes 8 = .ok (.imul, 1) := by decide +kernel
theorem d_Model_takes_9 : decode b_Model_takes 9 = .ok (.iaload, 1) := by decide +kernel
theorem d_Model_takes_10 : decode b_Model_takes 10 = .ok (.putfield 140, 3) := by decide +kernel
theorem d_Model_takes_13 : decode b_Model_takes 13 = .ok (.aload_n 0, 1) := by decide +kernel
theorem d_Model_takes_14 : decode b_Model_takes 14 = .ok (.aload_n 0, 1) := by decide +kernel
theorem d_Model_takes_15 : decode b_Model_takes 15 = .ok (.getfield 16, 3) := by decide +kernel
theorem d_Model_takes_18 : decode b_Model_takes 18 = .ok (.bipush (6), 2) := by decide +kernel
theorem d_Model_takes_20 : decode b_Model_takes 20 = .ok (.iload_n 1, 1) := by decide +kernel
theorem d_Model_takes_21 : decode b_Model_takes 21 = .ok (.imul, 1) := by decide +kernel
theorem d_Model_takes_22 : decode b_Model_takes 22 = .ok (.iconst 3, 1) := by decide +kernel
theorem d_Model_takes_23 : decode b_Model_takes 23 = .ok (.iadd, 1) := by decide +kernel
theorem d_Model_takes_24 : decode b_Model_takes 24 = .ok (.iaload, 1) := by decide +kernel
theorem d_Model_takes_25 : decode b_Model_takes 25 = .ok (.putfield 181, 3) := by decide +kernel
theorem d_Model_takes_28 : decode b_Model_takes 28 = .ok (.aload_n 0, 1) := by decide +kernel
theorem d_Model_takes_29 : decode b_Model_takes 29 = .ok (.aload_n 0, 1) := by decide +kernel
theorem d_Model_takes_30 : decode b_Model_takes 30 = .ok (.getfield 16, 3) := by decide +kernel
theorem d_Model_takes_33 : decode b_Model_takes 33 = .ok (.bipush (6), 2) := by decide +kernel
theorem d_Model_takes_35 : decode b_Model_takes 35 = .ok (.iload_n 1, 1) := by decide +kernel
theorem d_Model_takes_36 : decode b_Model_takes 36 = .ok (.imul, 1) := by decide +kernel
theorem d_Model_takes_37 : decode b_Model_takes 37 = .ok (.iconst 4, 1) := by decide +kernel
theorem d_Model_takes_38 : decode b_Model_takes 38 = .ok (.iadd, 1) := by decide +kernel
theorem d_Model_takes_39 : decode b_Model_takes 39 = .ok (.iaload, 1) := by decide +kernel
theorem d_Model_takes_40 : decode b_Model_takes 40 = .ok (.putfield 186, 3) := by decide +kernel
theorem d_Model_takes_43 : decode b_Model_takes 43 = .ok (.aload_n 0, 1) := by decide +kernel
theorem d_Model_takes_44 : decode b_Model_takes 44 = .ok (.aload_n 0, 1) := by decide +kernel
theorem d_Model_takes_45 : decode b_Model_takes 45 = .ok (.getfield 16, 3) := by decide +kernel
theorem d_Model_takes_48 : decode b_Model_takes 48 = .ok (.bipush (6), 2) := by decide +kernel
theorem d_Model_takes_50 : decode b_Model_takes 50 = .ok (.iload_n 1, 1) := by decide +kernel
theorem d_Model_takes_51 : decode b_Model_takes 51 = .ok (.imul, 1) := by decide +kernel
theorem d_Model_takes_52 : decode b_Model_takes 52 = .ok (.iconst 5, 1) := by decide +kernel
theorem d_Model_takes_53 : decode b_Model_takes 53 = .ok (.iadd, 1) := by decide +kernel
theorem d_Model_takes_54 : decode b_Model_takes 54 = .ok (.iaload, 1) := by decide +kernel
theorem d_Model_takes_55 : decode b_Model_takes 55 = .ok (.iconst 1, 1) := by decide +kernel
theorem d_Model_takes_56 : decode b_Model_takes 56 = .ok (.if_icmp .ne 7, 3) := by decide +kernel
theorem d_Model_takes_59 : decode b_Model_takes 59 = .ok (.iconst 1, 1) := by decide +kernel
theorem d_Model_takes_60 : decode b_Model_takes 60 = .ok (.goto 4, 3) := by decide +kernel
theorem d_Model_takes_63 : decode b_Model_takes 63 = .ok (.iconst 0, 1) := by decide +kernel
theorem d_Model_takes_64 : decode b_Model_takes 64 = .ok (.putfield 174, 3) := by decide +kernel
theorem d_Model_takes_67 : decode b_Model_takes 67 = .ok (.return_, 1) := by decide +kernel
abbrev b_Model_lays : ByteArray := prog_8_method_38_code
def y_Model_lays : MethodName := ⟨"RoundAndRoundModel", "lays", "(I)V"⟩
theorem d_Model_lays_0 : decode b_Model_lays 0 = .ok (.aload_n 0, 1) := by decide +kernel
theorem d_Model_lays_1 : decode b_Model_lays 1 = .ok (.getfield 16, 3) := by decide +kernel
theorem d_Model_lays_4 : decode b_Model_lays 4 = .ok (.bipush (6), 2) := by decide +kernel
theorem d_Model_lays_6 : decode b_Model_lays 6 = .ok (.iload_n 1, 1) := by decide +kernel
theorem d_Model_lays_7 : decode b_Model_lays 7 = .ok (.imul, 1) := by decide +kernel
theorem d_Model_lays_8 : decode b_Model_lays 8 = .ok (.aload_n 0, 1) := by decide +kernel
theorem d_Model_lays_9 : decode b_Model_lays 9 = .ok (.getfield 140, 3) := by decide +kernel
theorem d_Model_lays_12 : decode b_Model_lays 12 = .ok (.iastore, 1) := by decide +kernel
theorem d_Model_lays_13 : decode b_Model_lays 13 = .ok (.aload_n 0, 1) := by decide +kernel
theorem d_Model_lays_14 : decode b_Model_lays 14 = .ok (.getfield 16, 3) := by decide +kernel
theorem d_Model_lays_17 : decode b_Model_lays 17 = .ok (.bipush (6), 2) := by decide +kernel
theorem d_Model_lays_19 : decode b_Model_lays 19 = .ok (.iload_n 1, 1) := by decide +kernel
theorem d_Model_lays_20 : decode b_Model_lays 20 = .ok (.imul, 1) := by decide +kernel
theorem d_Model_lays_21 : decode b_Model_lays 21 = .ok (.iconst 3, 1) := by decide +kernel
theorem d_Model_lays_22 : decode b_Model_lays 22 = .ok (.iadd, 1) := by decide +kernel
theorem d_Model_lays_23 : decode b_Model_lays 23 = .ok (.aload_n 0, 1) := by decide +kernel
theorem d_Model_lays_24 : decode b_Model_lays 24 = .ok (.getfield 181, 3) := by decide +kernel
theorem d_Model_lays_27 : decode b_Model_lays 27 = .ok (.iastore, 1) := by decide +kernel
theorem d_Model_lays_28 : decode b_Model_lays 28 = .ok (.aload_n 0, 1) := by decide +kernel
theorem d_Model_lays_29 : decode b_Model_lays 29 = .ok (.getfield 16, 3) := by decide +kernel
theorem d_Model_lays_32 : decode b_Model_lays 32 = .ok (.bipush (6), 2) := by decide +kernel
theorem d_Model_lays_34 : decode b_Model_lays 34 = .ok (.iload_n 1, 1) := by decide +kernel
theorem d_Model_lays_35 : decode b_Model_lays 35 = .ok (.imul, 1) := by decide +kernel
theorem d_Model_lays_36 : decode b_Model_lays 36 = .ok (.iconst 4, 1) := by decide +kernel
theorem d_Model_lays_37 : decode b_Model_lays 37 = .ok (.iadd, 1) := by decide +kernel
theorem d_Model_lays_38 : decode b_Model_lays 38 = .ok (.aload_n 0, 1) := by decide +kernel
theorem d_Model_lays_39 : decode b_Model_lays 39 = .ok (.getfield 186, 3) := by decide +kernel
theorem d_Model_lays_42 : decode b_Model_lays 42 = .ok (.iastore, 1) := by decide +kernel
theorem d_Model_lays_43 : decode b_Model_lays 43 = .ok (.aload_n 0, 1) := by decide +kernel
theorem d_Model_lays_44 : decode b_Model_lays 44 = .ok (.getfield 16, 3) := by decide +kernel
theorem d_Model_lays_47 : decode b_Model_lays 47 = .ok (.bipush (6), 2) := by decide +kernel
theorem d_Model_lays_49 : decode b_Model_lays 49 = .ok (.iload_n 1, 1) := by decide +kernel
theorem d_Model_lays_50 : decode b_Model_lays 50 = .ok (.imul, 1) := by decide +kernel
theorem d_Model_lays_51 : decode b_Model_lays 51 = .ok (.iconst 5, 1) := by decide +kernel
theorem d_Model_lays_52 : decode b_Model_lays 52 = .ok (.iadd, 1) := by decide +kernel
theorem d_Model_lays_53 : decode b_Model_lays 53 = .ok (.aload_n 0, 1) := by decide +kernel
theorem d_Model_lays_54 : decode b_Model_lays 54 = .ok (.getfield 174, 3) := by decide +kernel
theorem d_Model_lays_57 : decode b_Model_lays 57 = .ok (.ifCond .eq 7, 3) := by decide +kernel
theorem d_Model_lays_60 : decode b_Model_lays 60 = .ok (.iconst 1, 1) := by decide +kernel
theorem d_Model_lays_61 : decode b_Model_lays 61 = .ok (.goto 4, 3) := by decide +kernel
theorem d_Model_lays_64 : decode b_Model_lays 64 = .ok (.iconst 0, 1) := by decide +kernel
theorem d_Model_lays_65 : decode b_Model_lays 65 = .ok (.iastore, 1) := by decide +kernel
theorem d_Model_lays_66 : decode b_Model_lays 66 = .ok (.return_, 1) := by decide +kernel
abbrev b_Model_isTurned : ByteArray := prog_8_method_39_code
def y_Model_isTurned : MethodName := ⟨"RoundAndRoundModel", "isTurned", "(I)Z"⟩
theorem d_Model_isTurned_0 : decode b_Model_isTurned 0 = .ok (.iload_n 0, 1) := by decide +kernel
theorem d_Model_isTurned_1 : decode b_Model_isTurned 1 = .ok (.bipush (-40), 2) := by decide +kernel
theorem d_Model_isTurned_3 : decode b_Model_isTurned 3 = .ok (.bipush (40), 2) := by decide +kernel
theorem d_Model_isTurned_5 : decode b_Model_isTurned 5 = .ok (.invokestatic 66, 3) := by decide +kernel
theorem d_Model_isTurned_8 : decode b_Model_isTurned 8 = .ok (.ireturn, 1) := by decide +kernel
abbrev b_Model_turn : ByteArray := prog_8_method_40_code
def y_Model_turn : MethodName := ⟨"RoundAndRoundModel", "turn", "(III)I"⟩
theorem d_Model_turn_0 : decode b_Model_turn 0 = .ok (.aload_n 0, 1) := by decide +kernel
theorem d_Model_turn_1 : decode b_Model_turn 1 = .ok (.iload_n 1, 1) := by decide +kernel
theorem d_Model_turn_2 : decode b_Model_turn 2 = .ok (.invokevirtual 149, 3) := by decide +kernel
theorem d_Model_turn_5 : decode b_Model_turn 5 = .ok (.ifCond .ne 6, 3) := by decide +kernel
theorem d_Model_turn_8 : decode b_Model_turn 8 = .ok (.ldc 156, 2) := by decide +kernel
theorem d_Model_turn_10 : decode b_Model_turn 10 = .ok (.ireturn, 1) := by decide +kernel
theorem d_Model_turn_11 : decode b_Model_turn 11 = .ok (.iload_n 2, 1) := by decide +kernel
theorem d_Model_turn_12 : decode b_Model_turn 12 = .ok (.invokestatic 193, 3) := by decide +kernel
theorem d_Model_turn_15 : decode b_Model_turn 15 = .ok (.ifCond .eq 13, 3) := by decide +kernel
theorem d_Model_turn_18 : decode b_Model_turn 18 = .ok (.iload_n 3, 1) := by decide +kernel
theorem d_Model_turn_19 : decode b_Model_turn 19 = .ok (.iconst 1, 1) := by decide +kernel
theorem d_Model_turn_20 : decode b_Model_turn 20 = .ok (.bipush (9), 2) := by decide +kernel
theorem d_Model_turn_22 : decode b_Model_turn 22 = .ok (.invokestatic 66, 3) := by decide +kernel
theorem d_Model_turn_25 : decode b_Model_turn 25 = .ok (.ifCond .ne 6, 3) := by decide +kernel
theorem d_Model_turn_28 : decode b_Model_turn 28 = .ok (.ldc 157, 2) := by decide +kernel
theorem d_Model_turn_30 : decode b_Model_turn 30 = .ok (.ireturn, 1) := by decide +kernel
theorem d_Model_turn_31 : decode b_Model_turn 31 = .ok (.aload_n 0, 1) := by decide +kernel
theorem d_Model_turn_32 : decode b_Model_turn 32 = .ok (.iload_n 1, 1) := by decide +kernel
theorem d_Model_turn_33 : decode b_Model_turn 33 = .ok (.invokevirtual 196, 3) := by decide +kernel
theorem d_Model_turn_36 : decode b_Model_turn 36 = .ok (.aload_n 0, 1) := by decide +kernel
theorem d_Model_turn_37 : decode b_Model_turn 37 = .ok (.iload_n 1, 1) := by decide +kernel
theorem d_Model_turn_38 : decode b_Model_turn 38 = .ok (.iload_n 2, 1) := by decide +kernel
theorem d_Model_turn_39 : decode b_Model_turn 39 = .ok (.iload_n 3, 1) := by decide +kernel
theorem d_Model_turn_40 : decode b_Model_turn 40 = .ok (.invokevirtual 199, 3) := by decide +kernel
theorem d_Model_turn_43 : decode b_Model_turn 43 = .ok (.aload_n 0, 1) := by decide +kernel
theorem d_Model_turn_44 : decode b_Model_turn 44 = .ok (.iload_n 1, 1) := by decide +kernel
theorem d_Model_turn_45 : decode b_Model_turn 45 = .ok (.invokevirtual 203, 3) := by decide +kernel
theorem d_Model_turn_48 : decode b_Model_turn 48 = .ok (.aload_n 0, 1) := by decide +kernel
theorem d_Model_turn_49 : decode b_Model_turn 49 = .ok (.getfield 16, 3) := by decide +kernel
theorem d_Model_turn_52 : decode b_Model_turn 52 = .ok (.bipush (6), 2) := by decide +kernel
theorem d_Model_turn_54 : decode b_Model_turn 54 = .ok (.iload_n 1, 1) := by decide +kernel
theorem d_Model_turn_55 : decode b_Model_turn 55 = .ok (.imul, 1) := by decide +kernel
theorem d_Model_turn_56 : decode b_Model_turn 56 = .ok (.iconst 2, 1) := by decide +kernel
theorem d_Model_turn_57 : decode b_Model_turn 57 = .ok (.iadd, 1) := by decide +kernel
theorem d_Model_turn_58 : decode b_Model_turn 58 = .ok (.aload_n 0, 1) := by decide +kernel
theorem d_Model_turn_59 : decode b_Model_turn 59 = .ok (.getfield 16, 3) := by decide +kernel
theorem d_Model_turn_62 : decode b_Model_turn 62 = .ok (.bipush (6), 2) := by decide +kernel
theorem d_Model_turn_64 : decode b_Model_turn 64 = .ok (.iload_n 1, 1) := by decide +kernel
theorem d_Model_turn_65 : decode b_Model_turn 65 = .ok (.imul, 1) := by decide +kernel
theorem d_Model_turn_66 : decode b_Model_turn 66 = .ok (.iconst 2, 1) := by decide +kernel
theorem d_Model_turn_67 : decode b_Model_turn 67 = .ok (.iadd, 1) := by decide +kernel
theorem d_Model_turn_68 : decode b_Model_turn 68 = .ok (.iaload, 1) := by decide +kernel
theorem d_Model_turn_69 : decode b_Model_turn 69 = .ok (.iconst 1, 1) := by decide +kernel
theorem d_Model_turn_70 : decode b_Model_turn 70 = .ok (.iadd, 1) := by decide +kernel
theorem d_Model_turn_71 : decode b_Model_turn 71 = .ok (.iconst 0, 1) := by decide +kernel
theorem d_Model_turn_72 : decode b_Model_turn 72 = .ok (.bipush (99), 2) := by decide +kernel
theorem d_Model_turn_74 : decode b_Model_turn 74 = .ok (.invokestatic 146, 3) := by decide +kernel
theorem d_Model_turn_77 : decode b_Model_turn 77 = .ok (.iastore, 1) := by decide +kernel
theorem d_Model_turn_78 : decode b_Model_turn 78 = .ok (.aload_n 0, 1) := by decide +kernel
theorem d_Model_turn_79 : decode b_Model_turn 79 = .ok (.getfield 140, 3) := by decide +kernel
theorem d_Model_turn_82 : decode b_Model_turn 82 = .ok (.ireturn, 1) := by decide +kernel
abbrev b_Model_rest : ByteArray := prog_8_method_41_code
def y_Model_rest : MethodName := ⟨"RoundAndRoundModel", "rest", "(III)I"⟩
theorem d_Model_rest_0 : decode b_Model_rest 0 = .ok (.aload_n 0, 1) := by decide +kernel
theorem d_Model_rest_1 : decode b_Model_rest 1 = .ok (.iload_n 1, 1) := by decide +kernel
theorem d_Model_rest_2 : decode b_Model_rest 2 = .ok (.invokevirtual 149, 3) := by decide +kernel
theorem d_Model_rest_5 : decode b_Model_rest 5 = .ok (.ifCond .ne 6, 3) := by decide +kernel
theorem d_Model_rest_8 : decode b_Model_rest 8 = .ok (.ldc 156, 2) := by decide +kernel
theorem d_Model_rest_10 : decode b_Model_rest 10 = .ok (.ireturn, 1) := by decide +kernel
theorem d_Model_rest_11 : decode b_Model_rest 11 = .ok (.iload_n 2, 1) := by decide +kernel
theorem d_Model_rest_12 : decode b_Model_rest 12 = .ok (.iconst 0, 1) := by decide +kernel
theorem d_Model_rest_13 : decode b_Model_rest 13 = .ok (.bipush (60), 2) := by decide +kernel
theorem d_Model_rest_15 : decode b_Model_rest 15 = .ok (.invokestatic 66, 3) := by decide +kernel
theorem d_Model_rest_18 : decode b_Model_rest 18 = .ok (.ifCond .eq 12, 3) := by decide +kernel
theorem d_Model_rest_21 : decode b_Model_rest 21 = .ok (.iload_n 3, 1) := by decide +kernel
theorem d_Model_rest_22 : decode b_Model_rest 22 = .ok (.iconst 0, 1) := by decide +kernel
theorem d_Model_rest_23 : decode b_Model_rest 23 = .ok (.iconst 1, 1) := by decide +kernel
theorem d_Model_rest_24 : decode b_Model_rest 24 = .ok (.invokestatic 66, 3) := by decide +kernel
theorem d_Model_rest_27 : decode b_Model_rest 27 = .ok (.ifCond .ne 6, 3) := by decide +kernel
theorem d_Model_rest_30 : decode b_Model_rest 30 = .ok (.ldc 157, 2) := by decide +kernel
theorem d_Model_rest_32 : decode b_Model_rest 32 = .ok (.ireturn, 1) := by decide +kernel
theorem d_Model_rest_33 : decode b_Model_rest 33 = .ok (.aload_n 0, 1) := by decide +kernel
theorem d_Model_rest_34 : decode b_Model_rest 34 = .ok (.iload_n 1, 1) := by decide +kernel
theorem d_Model_rest_35 : decode b_Model_rest 35 = .ok (.invokevirtual 196, 3) := by decide +kernel
theorem d_Model_rest_38 : decode b_Model_rest 38 = .ok (.aload_n 0, 1) := by decide +kernel
theorem d_Model_rest_39 : decode b_Model_rest 39 = .ok (.iload_n 1, 1) := by decide +kernel
theorem d_Model_rest_40 : decode b_Model_rest 40 = .ok (.iload_n 2, 1) := by decide +kernel
theorem d_Model_rest_41 : decode b_Model_rest 41 = .ok (.iload_n 3, 1) := by decide +kernel
theorem d_Model_rest_42 : decode b_Model_rest 42 = .ok (.invokevirtual 206, 3) := by decide +kernel
theorem d_Model_rest_45 : decode b_Model_rest 45 = .ok (.aload_n 0, 1) := by decide +kernel
theorem d_Model_rest_46 : decode b_Model_rest 46 = .ok (.iload_n 1, 1) := by decide +kernel
theorem d_Model_rest_47 : decode b_Model_rest 47 = .ok (.invokevirtual 203, 3) := by decide +kernel
theorem d_Model_rest_50 : decode b_Model_rest 50 = .ok (.aload_n 0, 1) := by decide +kernel
theorem d_Model_rest_51 : decode b_Model_rest 51 = .ok (.getfield 140, 3) := by decide +kernel
theorem d_Model_rest_54 : decode b_Model_rest 54 = .ok (.ireturn, 1) := by decide +kernel
abbrev b_Model_walk : ByteArray := prog_8_method_42_code
def y_Model_walk : MethodName := ⟨"RoundAndRoundModel", "walk", "(III)I"⟩
theorem d_Model_walk_0 : decode b_Model_walk 0 = .ok (.aload_n 0, 1) := by decide +kernel
theorem d_Model_walk_1 : decode b_Model_walk 1 = .ok (.iload_n 1, 1) := by decide +kernel
theorem d_Model_walk_2 : decode b_Model_walk 2 = .ok (.invokevirtual 149, 3) := by decide +kernel
theorem d_Model_walk_5 : decode b_Model_walk 5 = .ok (.ifCond .ne 6, 3) := by decide +kernel
theorem d_Model_walk_8 : decode b_Model_walk 8 = .ok (.ldc 156, 2) := by decide +kernel
theorem d_Model_walk_10 : decode b_Model_walk 10 = .ok (.ireturn, 1) := by decide +kernel
theorem d_Model_walk_11 : decode b_Model_walk 11 = .ok (.iload_n 2, 1) := by decide +kernel
theorem d_Model_walk_12 : decode b_Model_walk 12 = .ok (.iconst 0, 1) := by decide +kernel
theorem d_Model_walk_13 : decode b_Model_walk 13 = .ok (.bipush (60), 2) := by decide +kernel
theorem d_Model_walk_15 : decode b_Model_walk 15 = .ok (.invokestatic 66, 3) := by decide +kernel
theorem d_Model_walk_18 : decode b_Model_walk 18 = .ok (.ifCond .eq 22, 3) := by decide +kernel
theorem d_Model_walk_21 : decode b_Model_walk 21 = .ok (.iload_n 3, 1) := by decide +kernel
theorem d_Model_walk_22 : decode b_Model_walk 22 = .ok (.bipush (10), 2) := by decide +kernel
theorem d_Model_walk_24 : decode b_Model_walk 24 = .ok (.bipush (91), 2) := by decide +kernel
theorem d_Model_walk_26 : decode b_Model_walk 26 = .ok (.invokestatic 66, 3) := by decide +kernel
theorem d_Model_walk_29 : decode b_Model_walk 29 = .ok (.ifCond .eq 11, 3) := by decide +kernel
theorem d_Model_walk_32 : decode b_Model_walk 32 = .ok (.iload_n 3, 1) := by decide +kernel
theorem d_Model_walk_33 : decode b_Model_walk 33 = .ok (.bipush (10), 2) := by decide +kernel
theorem d_Model_walk_35 : decode b_Model_walk 35 = .ok (.irem, 1) := by decide +kernel
theorem d_Model_walk_36 : decode b_Model_walk 36 = .ok (.iconst 1, 1) := by decide +kernel
theorem d_Model_walk_37 : decode b_Model_walk 37 = .ok (.if_icmp .le 6, 3) := by decide +kernel
theorem d_Model_walk_40 : decode b_Model_walk 40 = .ok (.ldc 157, 2) := by decide +kernel
theorem d_Model_walk_42 : decode b_Model_walk 42 = .ok (.ireturn, 1) := by decide +kernel
theorem d_Model_walk_43 : decode b_Model_walk 43 = .ok (.aload_n 0, 1) := by decide +kernel
theorem d_Model_walk_44 : decode b_Model_walk 44 = .ok (.iload_n 1, 1) := by decide +kernel
theorem d_Model_walk_45 : decode b_Model_walk 45 = .ok (.invokevirtual 196, 3) := by decide +kernel
theorem d_Model_walk_48 : decode b_Model_walk 48 = .ok (.aload_n 0, 1) := by decide +kernel
theorem d_Model_walk_49 : decode b_Model_walk 49 = .ok (.iload_n 1, 1) := by decide +kernel
theorem d_Model_walk_50 : decode b_Model_walk 50 = .ok (.iload_n 2, 1) := by decide +kernel
theorem d_Model_walk_51 : decode b_Model_walk 51 = .ok (.iload_n 3, 1) := by decide +kernel
theorem d_Model_walk_52 : decode b_Model_walk 52 = .ok (.bipush (10), 2) := by decide +kernel
theorem d_Model_walk_54 : decode b_Model_walk 54 = .ok (.idiv, 1) := by decide +kernel
theorem d_Model_walk_55 : decode b_Model_walk 55 = .ok (.iload_n 3, 1) := by decide +kernel
theorem d_Model_walk_56 : decode b_Model_walk 56 = .ok (.bipush (10), 2) := by decide +kernel
theorem d_Model_walk_58 : decode b_Model_walk 58 = .ok (.irem, 1) := by decide +kernel
theorem d_Model_walk_59 : decode b_Model_walk 59 = .ok (.invokevirtual 209, 3) := by decide +kernel
theorem d_Model_walk_62 : decode b_Model_walk 62 = .ok (.aload_n 0, 1) := by decide +kernel
theorem d_Model_walk_63 : decode b_Model_walk 63 = .ok (.iload_n 1, 1) := by decide +kernel
theorem d_Model_walk_64 : decode b_Model_walk 64 = .ok (.invokevirtual 203, 3) := by decide +kernel
theorem d_Model_walk_67 : decode b_Model_walk 67 = .ok (.aload_n 0, 1) := by decide +kernel
theorem d_Model_walk_68 : decode b_Model_walk 68 = .ok (.getfield 186, 3) := by decide +kernel
theorem d_Model_walk_71 : decode b_Model_walk 71 = .ok (.ireturn, 1) := by decide +kernel
abbrev b_Model_up : ByteArray := prog_8_method_43_code
def y_Model_up : MethodName := ⟨"RoundAndRoundModel", "up", "(I)I"⟩
theorem d_Model_up_0 : decode b_Model_up 0 = .ok (.aload_n 0, 1) := by decide +kernel
theorem d_Model_up_1 : decode b_Model_up 1 = .ok (.iload_n 1, 1) := by decide +kernel
theorem d_Model_up_2 : decode b_Model_up 2 = .ok (.invokevirtual 149, 3) := by decide +kernel
theorem d_Model_up_5 : decode b_Model_up 5 = .ok (.ifCond .ne 6, 3) := by decide +kernel
theorem d_Model_up_8 : decode b_Model_up 8 = .ok (.ldc 156, 2) := by decide +kernel
theorem d_Model_up_10 : decode b_Model_up 10 = .ok (.ireturn, 1) := by decide +kernel
theorem d_Model_up_11 : decode b_Model_up 11 = .ok (.aload_n 0, 1) := by decide +kernel
theorem d_Model_up_12 : decode b_Model_up 12 = .ok (.getfield 16, 3) := by decide +kernel
theorem d_Model_up_15 : decode b_Model_up 15 = .ok (.bipush (6), 2) := by decide +kernel
theorem d_Model_up_17 : decode b_Model_up 17 = .ok (.iload_n 1, 1) := by decide +kernel
theorem d_Model_up_18 : decode b_Model_up 18 = .ok (.imul, 1) := by decide +kernel
theorem d_Model_up_19 : decode b_Model_up 19 = .ok (.iconst 4, 1) := by decide +kernel
theorem d_Model_up_20 : decode b_Model_up 20 = .ok (.iadd, 1) := by decide +kernel
theorem d_Model_up_21 : decode b_Model_up 21 = .ok (.iaload, 1) := by decide +kernel
theorem d_Model_up_22 : decode b_Model_up 22 = .ok (.istore_n 2, 1) := by decide +kernel
theorem d_Model_up_23 : decode b_Model_up 23 = .ok (.aload_n 0, 1) := by decide +kernel
theorem d_Model_up_24 : decode b_Model_up 24 = .ok (.getfield 16, 3) := by decide +kernel
theorem d_Model_up_27 : decode b_Model_up 27 = .ok (.bipush (6), 2) := by decide +kernel
theorem d_Model_up_29 : decode b_Model_up 29 = .ok (.iload_n 1, 1) := by decide +kernel
theorem d_Model_up_30 : decode b_Model_up 30 = .ok (.imul, 1) := by decide +kernel
theorem d_Model_up_31 : decode b_Model_up 31 = .ok (.iconst 3, 1) := by decide +kernel
theorem d_Model_up_32 : decode b_Model_up 32 = .ok (.iadd, 1) := by decide +kernel
theorem d_Model_up_33 : decode b_Model_up 33 = .ok (.iconst 0, 1) := by decide +kernel
theorem d_Model_up_34 : decode b_Model_up 34 = .ok (.iastore, 1) := by decide +kernel
theorem d_Model_up_35 : decode b_Model_up 35 = .ok (.aload_n 0, 1) := by decide +kernel
theorem d_Model_up_36 : decode b_Model_up 36 = .ok (.getfield 16, 3) := by decide +kernel
theorem d_Model_up_39 : decode b_Model_up 39 = .ok (.bipush (6), 2) := by decide +kernel
theorem d_Model_up_41 : decode b_Model_up 41 = .ok (.iload_n 1, 1) := by decide +kernel
theorem d_Model_up_42 : decode b_Model_up 42 = .ok (.imul, 1) := by decide +kernel
theorem d_Model_up_43 : decode b_Model_up 43 = .ok (.iconst 4, 1) := by decide +kernel
theorem d_Model_up_44 : decode b_Model_up 44 = .ok (.iadd, 1) := by decide +kernel
theorem d_Model_up_45 : decode b_Model_up 45 = .ok (.iconst 0, 1) := by decide +kernel
theorem d_Model_up_46 : decode b_Model_up 46 = .ok (.iastore, 1) := by decide +kernel
theorem d_Model_up_47 : decode b_Model_up 47 = .ok (.aload_n 0, 1) := by decide +kernel
theorem d_Model_up_48 : decode b_Model_up 48 = .ok (.getfield 16, 3) := by decide +kernel
theorem d_Model_up_51 : decode b_Model_up 51 = .ok (.bipush (6), 2) := by decide +kernel
theorem d_Model_up_53 : decode b_Model_up 53 = .ok (.iload_n 1, 1) := by decide +kernel
theorem d_Model_up_54 : decode b_Model_up 54 = .ok (.imul, 1) := by decide +kernel
theorem d_Model_up_55 : decode b_Model_up 55 = .ok (.iconst 5, 1) := by decide +kernel
theorem d_Model_up_56 : decode b_Model_up 56 = .ok (.iadd, 1) := by decide +kernel
theorem d_Model_up_57 : decode b_Model_up 57 = .ok (.iconst 0, 1) := by decide +kernel
theorem d_Model_up_58 : decode b_Model_up 58 = .ok (.iastore, 1) := by decide +kernel
theorem d_Model_up_59 : decode b_Model_up 59 = .ok (.iload_n 2, 1) := by decide +kernel
theorem d_Model_up_60 : decode b_Model_up 60 = .ok (.ireturn, 1) := by decide +kernel
abbrev b_Model_begins : ByteArray := prog_8_method_44_code
def y_Model_begins : MethodName := ⟨"RoundAndRoundModel", "begins", "(I)V"⟩
theorem d_Model_begins_0 : decode b_Model_begins 0 = .ok (.aload_n 0, 1) := by decide +kernel
theorem d_Model_begins_1 : decode b_Model_begins 1 = .ok (.aload_n 0, 1) := by decide +kernel
theorem d_Model_begins_2 : decode b_Model_begins 2 = .ok (.getfield 16, 3) := by decide +kernel
theorem d_Model_begins_5 : decode b_Model_begins 5 = .ok (.bipush (6), 2) := by decide +kernel
theorem d_Model_begins_7 : decode b_Model_begins 7 = .ok (.iload_n 1, 1) := by decide +kernel
theorem d_Model_begins_8 : decode b_Model_begins 8 = .ok (.imul, 1) := by decide +kernel
theorem d_Model_begins_9 : decode b_Model_begins 9 = .ok (.iaload, 1) := by decide +kernel
theorem d_Model_begins_10 : decode b_Model_begins 10 = .ok (.putfield 140, 3) := by decide +kernel
theorem d_Model_begins_13 : decode b_Model_begins 13 = .ok (.aload_n 0, 1) := by decide +kernel
theorem d_Model_begins_14 : decode b_Model_begins 14 = .ok (.iconst 0, 1) := by decide +kernel
theorem d_Model_begins_15 : decode b_Model_begins 15 = .ok (.putfield 181, 3) := by decide +kernel
theorem d_Model_begins_18 : decode b_Model_begins 18 = .ok (.aload_n 0, 1) := by decide +kernel
theorem d_Model_begins_19 : decode b_Model_begins 19 = .ok (.iconst 0, 1) := by decide +kernel
theorem d_Model_begins_20 : decode b_Model_begins 20 = .ok (.putfield 186, 3) := by decide +kernel
theorem d_Model_begins_23 : decode b_Model_begins 23 = .ok (.aload_n 0, 1) := by decide +kernel
theorem d_Model_begins_24 : decode b_Model_begins 24 = .ok (.iconst 0, 1) := by decide +kernel
theorem d_Model_begins_25 : decode b_Model_begins 25 = .ok (.putfield 174, 3) := by decide +kernel
theorem d_Model_begins_28 : decode b_Model_begins 28 = .ok (.aload_n 0, 1) := by decide +kernel
theorem d_Model_begins_29 : decode b_Model_begins 29 = .ok (.iconst (-1), 1) := by decide +kernel
theorem d_Model_begins_30 : decode b_Model_begins 30 = .ok (.putfield 178, 3) := by decide +kernel
theorem d_Model_begins_33 : decode b_Model_begins 33 = .ok (.return_, 1) := by decide +kernel
abbrev b_Model_tries : ByteArray := prog_8_method_45_code
def y_Model_tries : MethodName := ⟨"RoundAndRoundModel", "tries", "(IIIIII)V"⟩
theorem d_Model_tries_0 : decode b_Model_tries 0 = .ok (.aload_n 0, 1) := by decide +kernel
theorem d_Model_tries_1 : decode b_Model_tries 1 = .ok (.iload_n 1, 1) := by decide +kernel
theorem d_Model_tries_2 : decode b_Model_tries 2 = .ok (.invokevirtual 212, 3) := by decide +kernel
theorem d_Model_tries_5 : decode b_Model_tries 5 = .ok (.aload_n 0, 1) := by decide +kernel
theorem d_Model_tries_6 : decode b_Model_tries 6 = .ok (.iload_n 1, 1) := by decide +kernel
theorem d_Model_tries_7 : decode b_Model_tries 7 = .ok (.iload_n 2, 1) := by decide +kernel
theorem d_Model_tries_8 : decode b_Model_tries 8 = .ok (.iload_n 3, 1) := by decide +kernel
theorem d_Model_tries_9 : decode b_Model_tries 9 = .ok (.invokevirtual 199, 3) := by decide +kernel
theorem d_Model_tries_12 : decode b_Model_tries 12 = .ok (.aload_n 0, 1) := by decide +kernel
theorem d_Model_tries_13 : decode b_Model_tries 13 = .ok (.iload_n 1, 1) := by decide +kernel
theorem d_Model_tries_14 : decode b_Model_tries 14 = .ok (.iload 4, 2) := by decide +kernel
theorem d_Model_tries_16 : decode b_Model_tries 16 = .ok (.iconst 1, 1) := by decide +kernel
theorem d_Model_tries_17 : decode b_Model_tries 17 = .ok (.invokevirtual 206, 3) := by decide +kernel
theorem d_Model_tries_20 : decode b_Model_tries 20 = .ok (.aload_n 0, 1) := by decide +kernel
theorem d_Model_tries_21 : decode b_Model_tries 21 = .ok (.iload_n 1, 1) := by decide +kernel
theorem d_Model_tries_22 : decode b_Model_tries 22 = .ok (.iload 6, 2) := by decide +kernel
theorem d_Model_tries_24 : decode b_Model_tries 24 = .ok (.iload 5, 2) := by decide +kernel
theorem d_Model_tries_26 : decode b_Model_tries 26 = .ok (.iconst 1, 1) := by decide +kernel
theorem d_Model_tries_27 : decode b_Model_tries 27 = .ok (.invokevirtual 209, 3) := by decide +kernel
theorem d_Model_tries_30 : decode b_Model_tries 30 = .ok (.return_, 1) := by decide +kernel
abbrev b_Model_areDigits : ByteArray := prog_8_method_46_code
def y_Model_areDigits : MethodName := ⟨"RoundAndRoundModel", "areDigits", "(I)Z"⟩
theorem d_Model_areDigits_0 : decode b_Model_areDigits 0 = .ok (.iload_n 0, 1) := by decide +kernel
theorem d_Model_areDigits_1 : decode b_Model_areDigits 1 = .ok (.bipush (11), 2) := by decide +kernel
theorem d_Model_areDigits_3 : decode b_Model_areDigits 3 = .ok (.bipush (99), 2) := by decide +kernel
theorem d_Model_areDigits_5 : decode b_Model_areDigits 5 = .ok (.invokestatic 66, 3) := by decide +kernel
theorem d_Model_areDigits_8 : decode b_Model_areDigits 8 = .ok (.ifCond .eq 14, 3) := by decide +kernel
theorem d_Model_areDigits_11 : decode b_Model_areDigits 11 = .ok (.iload_n 0, 1) := by decide +kernel
theorem d_Model_areDigits_12 : decode b_Model_areDigits 12 = .ok (.bipush (10), 2) := by decide +kernel
theorem d_Model_areDigits_14 : decode b_Model_areDigits 14 = .ok (.irem, 1) := by decide +kernel
theorem d_Model_areDigits_15 : decode b_Model_areDigits 15 = .ok (.ifCond .le 7, 3) := by decide +kernel
theorem d_Model_areDigits_18 : decode b_Model_areDigits 18 = .ok (.iconst 1, 1) := by decide +kernel
theorem d_Model_areDigits_19 : decode b_Model_areDigits 19 = .ok (.goto 4, 3) := by decide +kernel
theorem d_Model_areDigits_22 : decode b_Model_areDigits 22 = .ok (.iconst 0, 1) := by decide +kernel
theorem d_Model_areDigits_23 : decode b_Model_areDigits 23 = .ok (.ireturn, 1) := by decide +kernel
abbrev b_Model_ends : ByteArray := prog_8_method_47_code
def y_Model_ends : MethodName := ⟨"RoundAndRoundModel", "ends", "(IIIII)I"⟩
theorem d_Model_ends_0 : decode b_Model_ends 0 = .ok (.aload_n 0, 1) := by decide +kernel
theorem d_Model_ends_1 : decode b_Model_ends 1 = .ok (.iload_n 1, 1) := by decide +kernel
theorem d_Model_ends_2 : decode b_Model_ends 2 = .ok (.invokevirtual 149, 3) := by decide +kernel
theorem d_Model_ends_5 : decode b_Model_ends 5 = .ok (.ifCond .ne 6, 3) := by decide +kernel
theorem d_Model_ends_8 : decode b_Model_ends 8 = .ok (.ldc 156, 2) := by decide +kernel
theorem d_Model_ends_10 : decode b_Model_ends 10 = .ok (.ireturn, 1) := by decide +kernel
theorem d_Model_ends_11 : decode b_Model_ends 11 = .ok (.iload_n 2, 1) := by decide +kernel
theorem d_Model_ends_12 : decode b_Model_ends 12 = .ok (.invokestatic 193, 3) := by decide +kernel
theorem d_Model_ends_15 : decode b_Model_ends 15 = .ok (.ifCond .eq 49, 3) := by decide +kernel
theorem d_Model_ends_18 : decode b_Model_ends 18 = .ok (.iload_n 3, 1) := by decide +kernel
theorem d_Model_ends_19 : decode b_Model_ends 19 = .ok (.iconst 0, 1) := by decide +kernel
theorem d_Model_ends_20 : decode b_Model_ends 20 = .ok (.sipush (6099), 3) := by decide +kernel
theorem d_Model_ends_23 : decode b_Model_ends 23 = .ok (.invokestatic 66, 3) := by decide +kernel
theorem d_Model_ends_26 : decode b_Model_ends 26 = .ok (.ifCond .eq 38, 3) := by decide +kernel
theorem d_Model_ends_29 : decode b_Model_ends 29 = .ok (.iload_n 3, 1) := by decide +kernel
theorem d_Model_ends_30 : decode b_Model_ends 30 = .ok (.bipush (100), 2) := by decide +kernel
theorem d_Model_ends_32 : decode b_Model_ends 32 = .ok (.irem, 1) := by decide +kernel
theorem d_Model_ends_33 : decode b_Model_ends 33 = .ok (.invokestatic 215, 3) := by decide +kernel
theorem d_Model_ends_36 : decode b_Model_ends 36 = .ok (.ifCond .eq 28, 3) := by decide +kernel
theorem d_Model_ends_39 : decode b_Model_ends 39 = .ok (.iload 4, 2) := by decide +kernel
theorem d_Model_ends_41 : decode b_Model_ends 41 = .ok (.iconst 0, 1) := by decide +kernel
theorem d_Model_ends_42 : decode b_Model_ends 42 = .ok (.bipush (60), 2) := by decide +kernel
theorem d_Model_ends_44 : decode b_Model_ends 44 = .ok (.invokestatic 66, 3) := by decide +kernel
theorem d_Model_ends_47 : decode b_Model_ends 47 = .ok (.ifCond .eq 17, 3) := by decide +kernel
theorem d_Model_ends_50 : decode b_Model_ends 50 = .ok (.iload 5, 2) := by decide +kernel
theorem d_Model_ends_52 : decode b_Model_ends 52 = .ok (.iconst 0, 1) := by decide +kernel
theorem d_Model_ends_53 : decode b_Model_ends 53 = .ok (.iconst 3, 1) := by decide +kernel
theorem d_Model_ends_54 : decode b_Model_ends 54 = .ok (.invokestatic 66, 3) := by decide +kernel
theorem d_Model_ends_57 : decode b_Model_ends 57 = .ok (.ifCond .eq 7, 3) := by decide +kernel
theorem d_Model_ends_60 : decode b_Model_ends 60 = .ok (.iconst 1, 1) := by decide +kernel
theorem d_Model_ends_61 : decode b_Model_ends 61 = .ok (.goto 4, 3) := by decide +kernel
theorem d_Model_ends_64 : decode b_Model_ends 64 = .ok (.iconst 0, 1) := by decide +kernel
theorem d_Model_ends_65 : decode b_Model_ends 65 = .ok (.istore 6, 2) := by decide +kernel
theorem d_Model_ends_67 : decode b_Model_ends 67 = .ok (.iload 6, 2) := by decide +kernel
theorem d_Model_ends_69 : decode b_Model_ends 69 = .ok (.ifCond .ne 6, 3) := by decide +kernel
theorem d_Model_ends_72 : decode b_Model_ends 72 = .ok (.ldc 157, 2) := by decide +kernel
theorem d_Model_ends_74 : decode b_Model_ends 74 = .ok (.ireturn, 1) := by decide +kernel
theorem d_Model_ends_75 : decode b_Model_ends 75 = .ok (.aload_n 0, 1) := by decide +kernel
theorem d_Model_ends_76 : decode b_Model_ends 76 = .ok (.iload_n 1, 1) := by decide +kernel
theorem d_Model_ends_77 : decode b_Model_ends 77 = .ok (.iload_n 2, 1) := by decide +kernel
theorem d_Model_ends_78 : decode b_Model_ends 78 = .ok (.iload_n 3, 1) := by decide +kernel
theorem d_Model_ends_79 : decode b_Model_ends 79 = .ok (.bipush (10), 2) := by decide +kernel
theorem d_Model_ends_81 : decode b_Model_ends 81 = .ok (.idiv, 1) := by decide +kernel
theorem d_Model_ends_82 : decode b_Model_ends 82 = .ok (.bipush (10), 2) := by decide +kernel
theorem d_Model_ends_84 : decode b_Model_ends 84 = .ok (.irem, 1) := by decide +kernel
theorem d_Model_ends_85 : decode b_Model_ends 85 = .ok (.iload_n 3, 1) := by decide +kernel
theorem d_Model_ends_86 : decode b_Model_ends 86 = .ok (.bipush (100), 2) := by decide +kernel
theorem d_Model_ends_88 : decode b_Model_ends 88 = .ok (.idiv, 1) := by decide +kernel
theorem d_Model_ends_89 : decode b_Model_ends 89 = .ok (.iload_n 3, 1) := by decide +kernel
theorem d_Model_ends_90 : decode b_Model_ends 90 = .ok (.bipush (10), 2) := by decide +kernel
theorem d_Model_ends_92 : decode b_Model_ends 92 = .ok (.irem, 1) := by decide +kernel
theorem d_Model_ends_93 : decode b_Model_ends 93 = .ok (.iload 4, 2) := by decide +kernel
theorem d_Model_ends_95 : decode b_Model_ends 95 = .ok (.invokevirtual 218, 3) := by decide +kernel
theorem d_Model_ends_98 : decode b_Model_ends 98 = .ok (.iload 5, 2) := by decide +kernel
theorem d_Model_ends_100 : decode b_Model_ends 100 = .ok (.ifCond .ne 10, 3) := by decide +kernel
theorem d_Model_ends_103 : decode b_Model_ends 103 = .ok (.aload_n 0, 1) := by decide +kernel
theorem d_Model_ends_104 : decode b_Model_ends 104 = .ok (.getfield 140, 3) := by decide +kernel
theorem d_Model_ends_107 : decode b_Model_ends 107 = .ok (.goto 33, 3) := by decide +kernel
theorem d_Model_ends_110 : decode b_Model_ends 110 = .ok (.iload 5, 2) := by decide +kernel
theorem d_Model_ends_112 : decode b_Model_ends 112 = .ok (.iconst 1, 1) := by decide +kernel
theorem d_Model_ends_113 : decode b_Model_ends 113 = .ok (.if_icmp .ne 10, 3) := by decide +kernel
theorem d_Model_ends_116 : decode b_Model_ends 116 = .ok (.aload_n 0, 1) := by decide +kernel
theorem d_Model_ends_117 : decode b_Model_ends 117 = .ok (.getfield 186, 3) := by decide +kernel
theorem d_Model_ends_120 : decode b_Model_ends 120 = .ok (.goto 20, 3) := by decide +kernel
theorem d_Model_ends_123 : decode b_Model_ends 123 = .ok (.iload 5, 2) := by decide +kernel
theorem d_Model_ends_125 : decode b_Model_ends 125 = .ok (.iconst 2, 1) := by decide +kernel
theorem d_Model_ends_126 : decode b_Model_ends 126 = .ok (.if_icmp .ne 10, 3) := by decide +kernel
theorem d_Model_ends_129 : decode b_Model_ends 129 = .ok (.aload_n 0, 1) := by decide +kernel
theorem d_Model_ends_130 : decode b_Model_ends 130 = .ok (.getfield 181, 3) := by decide +kernel
theorem d_Model_ends_133 : decode b_Model_ends 133 = .ok (.goto 7, 3) := by decide +kernel
theorem d_Model_ends_136 : decode b_Model_ends 136 = .ok (.aload_n 0, 1) := by decide +kernel
theorem d_Model_ends_137 : decode b_Model_ends 137 = .ok (.getfield 178, 3) := by decide +kernel
theorem d_Model_ends_140 : decode b_Model_ends 140 = .ok (.ireturn, 1) := by decide +kernel
abbrev b_Model_stands : ByteArray := prog_8_method_48_code
def y_Model_stands : MethodName := ⟨"RoundAndRoundModel", "stands", "(II)I"⟩
theorem d_Model_stands_0 : decode b_Model_stands 0 = .ok (.aload_n 0, 1) := by decide +kernel
theorem d_Model_stands_1 : decode b_Model_stands 1 = .ok (.iload_n 1, 1) := by decide +kernel
theorem d_Model_stands_2 : decode b_Model_stands 2 = .ok (.invokevirtual 149, 3) := by decide +kernel
theorem d_Model_stands_5 : decode b_Model_stands 5 = .ok (.ifCond .ne 6, 3) := by decide +kernel
theorem d_Model_stands_8 : decode b_Model_stands 8 = .ok (.ldc 156, 2) := by decide +kernel
theorem d_Model_stands_10 : decode b_Model_stands 10 = .ok (.ireturn, 1) := by decide +kernel
theorem d_Model_stands_11 : decode b_Model_stands 11 = .ok (.iload_n 2, 1) := by decide +kernel
theorem d_Model_stands_12 : decode b_Model_stands 12 = .ok (.iconst 1, 1) := by decide +kernel
theorem d_Model_stands_13 : decode b_Model_stands 13 = .ok (.bipush (9), 2) := by decide +kernel
theorem d_Model_stands_15 : decode b_Model_stands 15 = .ok (.invokestatic 66, 3) := by decide +kernel
theorem d_Model_stands_18 : decode b_Model_stands 18 = .ok (.ifCond .ne 6, 3) := by decide +kernel
theorem d_Model_stands_21 : decode b_Model_stands 21 = .ok (.ldc 157, 2) := by decide +kernel
theorem d_Model_stands_23 : decode b_Model_stands 23 = .ok (.ireturn, 1) := by decide +kernel
theorem d_Model_stands_24 : decode b_Model_stands 24 = .ok (.iconst 0, 1) := by decide +kernel
theorem d_Model_stands_25 : decode b_Model_stands 25 = .ok (.istore_n 3, 1) := by decide +kernel
theorem d_Model_stands_26 : decode b_Model_stands 26 = .ok (.iconst 1, 1) := by decide +kernel
theorem d_Model_stands_27 : decode b_Model_stands 27 = .ok (.istore 4, 2) := by decide +kernel
theorem d_Model_stands_29 : decode b_Model_stands 29 = .ok (.iload 4, 2) := by decide +kernel
theorem d_Model_stands_31 : decode b_Model_stands 31 = .ok (.bipush (40), 2) := by decide +kernel
theorem d_Model_stands_33 : decode b_Model_stands 33 = .ok (.if_icmp .gt 44, 3) := by decide +kernel
theorem d_Model_stands_36 : decode b_Model_stands 36 = .ok (.aload_n 0, 1) := by decide +kernel
theorem d_Model_stands_37 : decode b_Model_stands 37 = .ok (.iload_n 1, 1) := by decide +kernel
theorem d_Model_stands_38 : decode b_Model_stands 38 = .ok (.invokevirtual 212, 3) := by decide +kernel
theorem d_Model_stands_41 : decode b_Model_stands 41 = .ok (.aload_n 0, 1) := by decide +kernel
theorem d_Model_stands_42 : decode b_Model_stands 42 = .ok (.iload_n 1, 1) := by decide +kernel
theorem d_Model_stands_43 : decode b_Model_stands 43 = .ok (.iload 4, 2) := by decide +kernel
theorem d_Model_stands_45 : decode b_Model_stands 45 = .ok (.iload_n 2, 1) := by decide +kernel
theorem d_Model_stands_46 : decode b_Model_stands 46 = .ok (.invokevirtual 199, 3) := by decide +kernel
theorem d_Model_stands_49 : decode b_Model_stands 49 = .ok (.aload_n 0, 1) := by decide +kernel
theorem d_Model_stands_50 : decode b_Model_stands 50 = .ok (.getfield 140, 3) := by decide +kernel
theorem d_Model_stands_53 : decode b_Model_stands 53 = .ok (.invokestatic 164, 3) := by decide +kernel
theorem d_Model_stands_56 : decode b_Model_stands 56 = .ok (.aload_n 0, 1) := by decide +kernel
theorem d_Model_stands_57 : decode b_Model_stands 57 = .ok (.iload_n 1, 1) := by decide +kernel
theorem d_Model_stands_58 : decode b_Model_stands 58 = .ok (.invokevirtual 158, 3) := by decide +kernel
theorem d_Model_stands_61 : decode b_Model_stands 61 = .ok (.if_icmp .ge 8, 3) := by decide +kernel
theorem d_Model_stands_64 : decode b_Model_stands 64 = .ok (.iload 4, 2) := by decide +kernel
theorem d_Model_stands_66 : decode b_Model_stands 66 = .ok (.goto 4, 3) := by decide +kernel
theorem d_Model_stands_69 : decode b_Model_stands 69 = .ok (.iload_n 3, 1) := by decide +kernel
theorem d_Model_stands_70 : decode b_Model_stands 70 = .ok (.istore_n 3, 1) := by decide +kernel
theorem d_Model_stands_71 : decode b_Model_stands 71 = .ok (.iinc 4 (1), 3) := by decide +kernel
theorem d_Model_stands_74 : decode b_Model_stands 74 = .ok (.goto (-45), 3) := by decide +kernel
theorem d_Model_stands_77 : decode b_Model_stands 77 = .ok (.iload_n 3, 1) := by decide +kernel
theorem d_Model_stands_78 : decode b_Model_stands 78 = .ok (.ireturn, 1) := by decide +kernel
abbrev b_Model_undo : ByteArray := prog_8_method_49_code
def y_Model_undo : MethodName := ⟨"RoundAndRoundModel", "undo", "(III)I"⟩
theorem d_Model_undo_0 : decode b_Model_undo 0 = .ok (.aload_n 0, 1) := by decide +kernel
theorem d_Model_undo_1 : decode b_Model_undo 1 = .ok (.iload_n 1, 1) := by decide +kernel
theorem d_Model_undo_2 : decode b_Model_undo 2 = .ok (.invokevirtual 149, 3) := by decide +kernel
theorem d_Model_undo_5 : decode b_Model_undo 5 = .ok (.ifCond .ne 6, 3) := by decide +kernel
theorem d_Model_undo_8 : decode b_Model_undo 8 = .ok (.ldc 156, 2) := by decide +kernel
theorem d_Model_undo_10 : decode b_Model_undo 10 = .ok (.ireturn, 1) := by decide +kernel
theorem d_Model_undo_11 : decode b_Model_undo 11 = .ok (.iload_n 2, 1) := by decide +kernel
theorem d_Model_undo_12 : decode b_Model_undo 12 = .ok (.iconst 1, 1) := by decide +kernel
theorem d_Model_undo_13 : decode b_Model_undo 13 = .ok (.bipush (9), 2) := by decide +kernel
theorem d_Model_undo_15 : decode b_Model_undo 15 = .ok (.invokestatic 66, 3) := by decide +kernel
theorem d_Model_undo_18 : decode b_Model_undo 18 = .ok (.ifCond .eq 12, 3) := by decide +kernel
theorem d_Model_undo_21 : decode b_Model_undo 21 = .ok (.iload_n 3, 1) := by decide +kernel
theorem d_Model_undo_22 : decode b_Model_undo 22 = .ok (.iconst 0, 1) := by decide +kernel
theorem d_Model_undo_23 : decode b_Model_undo 23 = .ok (.iconst 1, 1) := by decide +kernel
theorem d_Model_undo_24 : decode b_Model_undo 24 = .ok (.invokestatic 66, 3) := by decide +kernel
theorem d_Model_undo_27 : decode b_Model_undo 27 = .ok (.ifCond .ne 6, 3) := by decide +kernel
theorem d_Model_undo_30 : decode b_Model_undo 30 = .ok (.ldc 157, 2) := by decide +kernel
theorem d_Model_undo_32 : decode b_Model_undo 32 = .ok (.ireturn, 1) := by decide +kernel
theorem d_Model_undo_33 : decode b_Model_undo 33 = .ok (.iconst (-1), 1) := by decide +kernel
theorem d_Model_undo_34 : decode b_Model_undo 34 = .ok (.istore 4, 2) := by decide +kernel
theorem d_Model_undo_36 : decode b_Model_undo 36 = .ok (.iconst 0, 1) := by decide +kernel
theorem d_Model_undo_37 : decode b_Model_undo 37 = .ok (.istore 5, 2) := by decide +kernel
theorem d_Model_undo_39 : decode b_Model_undo 39 = .ok (.iconst 0, 1) := by decide +kernel
theorem d_Model_undo_40 : decode b_Model_undo 40 = .ok (.istore 6, 2) := by decide +kernel
theorem d_Model_undo_42 : decode b_Model_undo 42 = .ok (.iload 6, 2) := by decide +kernel
theorem d_Model_undo_44 : decode b_Model_undo 44 = .ok (.bipush (40), 2) := by decide +kernel
theorem d_Model_undo_46 : decode b_Model_undo 46 = .ok (.if_icmp .gt 93, 3) := by decide +kernel
theorem d_Model_undo_49 : decode b_Model_undo 49 = .ok (.aload_n 0, 1) := by decide +kernel
theorem d_Model_undo_50 : decode b_Model_undo 50 = .ok (.iload_n 1, 1) := by decide +kernel
theorem d_Model_undo_51 : decode b_Model_undo 51 = .ok (.invokevirtual 212, 3) := by decide +kernel
theorem d_Model_undo_54 : decode b_Model_undo 54 = .ok (.aload_n 0, 1) := by decide +kernel
theorem d_Model_undo_55 : decode b_Model_undo 55 = .ok (.iload_n 1, 1) := by decide +kernel
theorem d_Model_undo_56 : decode b_Model_undo 56 = .ok (.aload_n 0, 1) := by decide +kernel
theorem d_Model_undo_57 : decode b_Model_undo 57 = .ok (.getfield 140, 3) := by decide +kernel
theorem d_Model_undo_60 : decode b_Model_undo 60 = .ok (.ifCond .le 9, 3) := by decide +kernel
theorem d_Model_undo_63 : decode b_Model_undo 63 = .ok (.iload 6, 2) := by decide +kernel
theorem d_Model_undo_65 : decode b_Model_undo 65 = .ok (.ineg, 1) := by decide +kernel
theorem d_Model_undo_66 : decode b_Model_undo 66 = .ok (.goto 5, 3) := by decide +kernel
theorem d_Model_undo_69 : decode b_Model_undo 69 = .ok (.iload 6, 2) := by decide +kernel
theorem d_Model_undo_71 : decode b_Model_undo 71 = .ok (.iload_n 2, 1) := by decide +kernel
theorem d_Model_undo_72 : decode b_Model_undo 72 = .ok (.invokevirtual 199, 3) := by decide +kernel
theorem d_Model_undo_75 : decode b_Model_undo 75 = .ok (.iload 4, 2) := by decide +kernel
theorem d_Model_undo_77 : decode b_Model_undo 77 = .ok (.iconst (-1), 1) := by decide +kernel
theorem d_Model_undo_78 : decode b_Model_undo 78 = .ok (.if_icmp .eq 15, 3) := by decide +kernel
theorem d_Model_undo_81 : decode b_Model_undo 81 = .ok (.aload_n 0, 1) := by decide +kernel
theorem d_Model_undo_82 : decode b_Model_undo 82 = .ok (.getfield 140, 3) := by decide +kernel
theorem d_Model_undo_85 : decode b_Model_undo 85 = .ok (.invokestatic 164, 3) := by decide +kernel
theorem d_Model_undo_88 : decode b_Model_undo 88 = .ok (.iload 5, 2) := by decide +kernel
theorem d_Model_undo_90 : decode b_Model_undo 90 = .ok (.if_icmp .ge 7, 3) := by decide +kernel
theorem d_Model_undo_93 : decode b_Model_undo 93 = .ok (.iconst 1, 1) := by decide +kernel
theorem d_Model_undo_94 : decode b_Model_undo 94 = .ok (.goto 4, 3) := by decide +kernel
theorem d_Model_undo_97 : decode b_Model_undo 97 = .ok (.iconst 0, 1) := by decide +kernel
theorem d_Model_undo_98 : decode b_Model_undo 98 = .ok (.istore 7, 2) := by decide +kernel
theorem d_Model_undo_100 : decode b_Model_undo 100 = .ok (.iload 7, 2) := by decide +kernel
theorem d_Model_undo_102 : decode b_Model_undo 102 = .ok (.ifCond .eq 8, 3) := by decide +kernel
theorem d_Model_undo_105 : decode b_Model_undo 105 = .ok (.iload 6, 2) := by decide +kernel
theorem d_Model_undo_107 : decode b_Model_undo 107 = .ok (.goto 5, 3) := by decide +kernel
theorem d_Model_undo_110 : decode b_Model_undo 110 = .ok (.iload 4, 2) := by decide +kernel
theorem d_Model_undo_112 : decode b_Model_undo 112 = .ok (.istore 4, 2) := by decide +kernel
theorem d_Model_undo_114 : decode b_Model_undo 114 = .ok (.iload 7, 2) := by decide +kernel
theorem d_Model_undo_116 : decode b_Model_undo 116 = .ok (.ifCond .eq 13, 3) := by decide +kernel
theorem d_Model_undo_119 : decode b_Model_undo 119 = .ok (.aload_n 0, 1) := by decide +kernel
theorem d_Model_undo_120 : decode b_Model_undo 120 = .ok (.getfield 140, 3) := by decide +kernel
theorem d_Model_undo_123 : decode b_Model_undo 123 = .ok (.invokestatic 164, 3) := by decide +kernel
theorem d_Model_undo_126 : decode b_Model_undo 126 = .ok (.goto 5, 3) := by decide +kernel
theorem d_Model_undo_129 : decode b_Model_undo 129 = .ok (.iload 5, 2) := by decide +kernel
theorem d_Model_undo_131 : decode b_Model_undo 131 = .ok (.istore 5, 2) := by decide +kernel
theorem d_Model_undo_133 : decode b_Model_undo 133 = .ok (.iinc 6 (1), 3) := by decide +kernel
theorem d_Model_undo_136 : decode b_Model_undo 136 = .ok (.goto (-94), 3) := by decide +kernel
theorem d_Model_undo_139 : decode b_Model_undo 139 = .ok (.iload_n 3, 1) := by decide +kernel
theorem d_Model_undo_140 : decode b_Model_undo 140 = .ok (.ifCond .ne 8, 3) := by decide +kernel
theorem d_Model_undo_143 : decode b_Model_undo 143 = .ok (.iload 4, 2) := by decide +kernel
theorem d_Model_undo_145 : decode b_Model_undo 145 = .ok (.goto 5, 3) := by decide +kernel
theorem d_Model_undo_148 : decode b_Model_undo 148 = .ok (.iload 5, 2) := by decide +kernel
theorem d_Model_undo_150 : decode b_Model_undo 150 = .ok (.ireturn, 1) := by decide +kernel
abbrev b_Model_fine : ByteArray := prog_8_method_50_code
def y_Model_fine : MethodName := ⟨"RoundAndRoundModel", "fine", "(II)I"⟩
theorem d_Model_fine_0 : decode b_Model_fine 0 = .ok (.aload_n 0, 1) := by decide +kernel
theorem d_Model_fine_1 : decode b_Model_fine 1 = .ok (.iload_n 1, 1) := by decide +kernel
theorem d_Model_fine_2 : decode b_Model_fine 2 = .ok (.invokevirtual 149, 3) := by decide +kernel
theorem d_Model_fine_5 : decode b_Model_fine 5 = .ok (.ifCond .ne 6, 3) := by decide +kernel
theorem d_Model_fine_8 : decode b_Model_fine 8 = .ok (.ldc 156, 2) := by decide +kernel
theorem d_Model_fine_10 : decode b_Model_fine 10 = .ok (.ireturn, 1) := by decide +kernel
theorem d_Model_fine_11 : decode b_Model_fine 11 = .ok (.iload_n 2, 1) := by decide +kernel
theorem d_Model_fine_12 : decode b_Model_fine 12 = .ok (.iconst 1, 1) := by decide +kernel
theorem d_Model_fine_13 : decode b_Model_fine 13 = .ok (.sipush (9999), 3) := by decide +kernel
theorem d_Model_fine_16 : decode b_Model_fine 16 = .ok (.invokestatic 66, 3) := by decide +kernel
theorem d_Model_fine_19 : decode b_Model_fine 19 = .ok (.ifCond .ne 6, 3) := by decide +kernel
theorem d_Model_fine_22 : decode b_Model_fine 22 = .ok (.ldc 157, 2) := by decide +kernel
theorem d_Model_fine_24 : decode b_Model_fine 24 = .ok (.ireturn, 1) := by decide +kernel
theorem d_Model_fine_25 : decode b_Model_fine 25 = .ok (.aload_n 0, 1) := by decide +kernel
theorem d_Model_fine_26 : decode b_Model_fine 26 = .ok (.iload_n 1, 1) := by decide +kernel
theorem d_Model_fine_27 : decode b_Model_fine 27 = .ok (.invokevirtual 212, 3) := by decide +kernel
theorem d_Model_fine_30 : decode b_Model_fine 30 = .ok (.iconst 0, 1) := by decide +kernel
theorem d_Model_fine_31 : decode b_Model_fine 31 = .ok (.istore_n 3, 1) := by decide +kernel
theorem d_Model_fine_32 : decode b_Model_fine 32 = .ok (.iload_n 3, 1) := by decide +kernel
theorem d_Model_fine_33 : decode b_Model_fine 33 = .ok (.bipush (60), 2) := by decide +kernel
theorem d_Model_fine_35 : decode b_Model_fine 35 = .ok (.if_icmp .gt 28, 3) := by decide +kernel
theorem d_Model_fine_38 : decode b_Model_fine 38 = .ok (.aload_n 0, 1) := by decide +kernel
theorem d_Model_fine_39 : decode b_Model_fine 39 = .ok (.getfield 140, 3) := by decide +kernel
theorem d_Model_fine_42 : decode b_Model_fine 42 = .ok (.invokestatic 164, 3) := by decide +kernel
theorem d_Model_fine_45 : decode b_Model_fine 45 = .ok (.iload_n 2, 1) := by decide +kernel
theorem d_Model_fine_46 : decode b_Model_fine 46 = .ok (.if_icmp .ge 5, 3) := by decide +kernel
theorem d_Model_fine_49 : decode b_Model_fine 49 = .ok (.iload_n 3, 1) := by decide +kernel
theorem d_Model_fine_50 : decode b_Model_fine 50 = .ok (.ireturn, 1) := by decide +kernel
theorem d_Model_fine_51 : decode b_Model_fine 51 = .ok (.aload_n 0, 1) := by decide +kernel
theorem d_Model_fine_52 : decode b_Model_fine 52 = .ok (.iload_n 1, 1) := by decide +kernel
theorem d_Model_fine_53 : decode b_Model_fine 53 = .ok (.iconst 1, 1) := by decide +kernel
theorem d_Model_fine_54 : decode b_Model_fine 54 = .ok (.invokevirtual 170, 3) := by decide +kernel
theorem d_Model_fine_57 : decode b_Model_fine 57 = .ok (.iinc 3 (1), 3) := by decide +kernel
theorem d_Model_fine_60 : decode b_Model_fine 60 = .ok (.goto (-28), 3) := by decide +kernel
theorem d_Model_fine_63 : decode b_Model_fine 63 = .ok (.iconst (-1), 1) := by decide +kernel
theorem d_Model_fine_64 : decode b_Model_fine 64 = .ok (.ireturn, 1) := by decide +kernel
abbrev b_Model_isRace : ByteArray := prog_8_method_51_code
def y_Model_isRace : MethodName := ⟨"RoundAndRoundModel", "isRace", "(IIII)Z"⟩
theorem d_Model_isRace_0 : decode b_Model_isRace 0 = .ok (.iload_n 0, 1) := by decide +kernel
theorem d_Model_isRace_1 : decode b_Model_isRace 1 = .ok (.invokestatic 193, 3) := by decide +kernel
theorem d_Model_isRace_4 : decode b_Model_isRace 4 = .ok (.ifCond .eq 35, 3) := by decide +kernel
theorem d_Model_isRace_7 : decode b_Model_isRace 7 = .ok (.iload_n 1, 1) := by decide +kernel
theorem d_Model_isRace_8 : decode b_Model_isRace 8 = .ok (.invokestatic 215, 3) := by decide +kernel
theorem d_Model_isRace_11 : decode b_Model_isRace 11 = .ok (.ifCond .eq 28, 3) := by decide +kernel
theorem d_Model_isRace_14 : decode b_Model_isRace 14 = .ok (.iload_n 2, 1) := by decide +kernel
theorem d_Model_isRace_15 : decode b_Model_isRace 15 = .ok (.sipush (1000), 3) := by decide +kernel
theorem d_Model_isRace_18 : decode b_Model_isRace 18 = .ok (.ldc 222, 2) := by decide +kernel
theorem d_Model_isRace_20 : decode b_Model_isRace 20 = .ok (.invokestatic 66, 3) := by decide +kernel
theorem d_Model_isRace_23 : decode b_Model_isRace 23 = .ok (.ifCond .eq 16, 3) := by decide +kernel
theorem d_Model_isRace_26 : decode b_Model_isRace 26 = .ok (.iload_n 3, 1) := by decide +kernel
theorem d_Model_isRace_27 : decode b_Model_isRace 27 = .ok (.iconst 0, 1) := by decide +kernel
theorem d_Model_isRace_28 : decode b_Model_isRace 28 = .ok (.iconst 1, 1) := by decide +kernel
theorem d_Model_isRace_29 : decode b_Model_isRace 29 = .ok (.invokestatic 66, 3) := by decide +kernel
theorem d_Model_isRace_32 : decode b_Model_isRace 32 = .ok (.ifCond .eq 7, 3) := by decide +kernel
theorem d_Model_isRace_35 : decode b_Model_isRace 35 = .ok (.iconst 1, 1) := by decide +kernel
theorem d_Model_isRace_36 : decode b_Model_isRace 36 = .ok (.goto 4, 3) := by decide +kernel
theorem d_Model_isRace_39 : decode b_Model_isRace 39 = .ok (.iconst 0, 1) := by decide +kernel
theorem d_Model_isRace_40 : decode b_Model_isRace 40 = .ok (.ireturn, 1) := by decide +kernel
abbrev b_Model_raceOf : ByteArray := prog_8_method_52_code
def y_Model_raceOf : MethodName := ⟨"RoundAndRoundModel", "raceOf", "(IIIII)I"⟩
theorem d_Model_raceOf_0 : decode b_Model_raceOf 0 = .ok (.iload_n 3, 1) := by decide +kernel
theorem d_Model_raceOf_1 : decode b_Model_raceOf 1 = .ok (.bipush (10), 2) := by decide +kernel
theorem d_Model_raceOf_3 : decode b_Model_raceOf 3 = .ok (.irem, 1) := by decide +kernel
theorem d_Model_raceOf_4 : decode b_Model_raceOf 4 = .ok (.istore 6, 2) := by decide +kernel
theorem d_Model_raceOf_6 : decode b_Model_raceOf 6 = .ok (.iload 4, 2) := by decide +kernel
theorem d_Model_raceOf_8 : decode b_Model_raceOf 8 = .ok (.sipush (1000), 3) := by decide +kernel
theorem d_Model_raceOf_11 : decode b_Model_raceOf 11 = .ok (.idiv, 1) := by decide +kernel
theorem d_Model_raceOf_12 : decode b_Model_raceOf 12 = .ok (.iload 6, 2) := by decide +kernel
theorem d_Model_raceOf_14 : decode b_Model_raceOf 14 = .ok (.iadd, 1) := by decide +kernel
theorem d_Model_raceOf_15 : decode b_Model_raceOf 15 = .ok (.iconst 1, 1) := by decide +kernel
theorem d_Model_raceOf_16 : decode b_Model_raceOf 16 = .ok (.isub, 1) := by decide +kernel
theorem d_Model_raceOf_17 : decode b_Model_raceOf 17 = .ok (.iload 6, 2) := by decide +kernel
theorem d_Model_raceOf_19 : decode b_Model_raceOf 19 = .ok (.idiv, 1) := by decide +kernel
theorem d_Model_raceOf_20 : decode b_Model_raceOf 20 = .ok (.istore 7, 2) := by decide +kernel
theorem d_Model_raceOf_22 : decode b_Model_raceOf 22 = .ok (.iconst 0, 1) := by decide +kernel
theorem d_Model_raceOf_23 : decode b_Model_raceOf 23 = .ok (.istore 8, 2) := by decide +kernel
theorem d_Model_raceOf_25 : decode b_Model_raceOf 25 = .ok (.iload 8, 2) := by decide +kernel
theorem d_Model_raceOf_27 : decode b_Model_raceOf 27 = .ok (.bipush (60), 2) := by decide +kernel
theorem d_Model_raceOf_29 : decode b_Model_raceOf 29 = .ok (.if_icmp .gt 71, 3) := by decide +kernel
theorem d_Model_raceOf_32 : decode b_Model_raceOf 32 = .ok (.iload 7, 2) := by decide +kernel
theorem d_Model_raceOf_34 : decode b_Model_raceOf 34 = .ok (.bipush (60), 2) := by decide +kernel
theorem d_Model_raceOf_36 : decode b_Model_raceOf 36 = .ok (.if_icmp .gt 64, 3) := by decide +kernel
theorem d_Model_raceOf_39 : decode b_Model_raceOf 39 = .ok (.aload_n 0, 1) := by decide +kernel
theorem d_Model_raceOf_40 : decode b_Model_raceOf 40 = .ok (.iload_n 1, 1) := by decide +kernel
theorem d_Model_raceOf_41 : decode b_Model_raceOf 41 = .ok (.iload_n 2, 1) := by decide +kernel
theorem d_Model_raceOf_42 : decode b_Model_raceOf 42 = .ok (.iload_n 3, 1) := by decide +kernel
theorem d_Model_raceOf_43 : decode b_Model_raceOf 43 = .ok (.bipush (10), 2) := by decide +kernel
theorem d_Model_raceOf_45 : decode b_Model_raceOf 45 = .ok (.idiv, 1) := by decide +kernel
theorem d_Model_raceOf_46 : decode b_Model_raceOf 46 = .ok (.iload 8, 2) := by decide +kernel
theorem d_Model_raceOf_48 : decode b_Model_raceOf 48 = .ok (.iload 6, 2) := by decide +kernel
theorem d_Model_raceOf_50 : decode b_Model_raceOf 50 = .ok (.iload 7, 2) := by decide +kernel
theorem d_Model_raceOf_52 : decode b_Model_raceOf 52 = .ok (.invokevirtual 218, 3) := by decide +kernel
theorem d_Model_raceOf_55 : decode b_Model_raceOf 55 = .ok (.aload_n 0, 1) := by decide +kernel
theorem d_Model_raceOf_56 : decode b_Model_raceOf 56 = .ok (.getfield 174, 3) := by decide +kernel
theorem d_Model_raceOf_59 : decode b_Model_raceOf 59 = .ok (.ifCond .ne 35, 3) := by decide +kernel
theorem d_Model_raceOf_62 : decode b_Model_raceOf 62 = .ok (.aload_n 0, 1) := by decide +kernel
theorem d_Model_raceOf_63 : decode b_Model_raceOf 63 = .ok (.getfield 186, 3) := by decide +kernel
theorem d_Model_raceOf_66 : decode b_Model_raceOf 66 = .ok (.invokestatic 164, 3) := by decide +kernel
theorem d_Model_raceOf_69 : decode b_Model_raceOf 69 = .ok (.iload 4, 2) := by decide +kernel
theorem d_Model_raceOf_71 : decode b_Model_raceOf 71 = .ok (.sipush (1000), 3) := by decide +kernel
theorem d_Model_raceOf_74 : decode b_Model_raceOf 74 = .ok (.irem, 1) := by decide +kernel
theorem d_Model_raceOf_75 : decode b_Model_raceOf 75 = .ok (.if_icmp .gt 19, 3) := by decide +kernel
theorem d_Model_raceOf_78 : decode b_Model_raceOf 78 = .ok (.iload 5, 2) := by decide +kernel
theorem d_Model_raceOf_80 : decode b_Model_raceOf 80 = .ok (.ifCond .ne 8, 3) := by decide +kernel
theorem d_Model_raceOf_83 : decode b_Model_raceOf 83 = .ok (.iload 8, 2) := by decide +kernel
theorem d_Model_raceOf_85 : decode b_Model_raceOf 85 = .ok (.goto 8, 3) := by decide +kernel
theorem d_Model_raceOf_88 : decode b_Model_raceOf 88 = .ok (.iload 8, 2) := by decide +kernel
theorem d_Model_raceOf_90 : decode b_Model_raceOf 90 = .ok (.iload 7, 2) := by decide +kernel
theorem d_Model_raceOf_92 : decode b_Model_raceOf 92 = .ok (.iadd, 1) := by decide +kernel
theorem d_Model_raceOf_93 : decode b_Model_raceOf 93 = .ok (.ireturn, 1) := by decide +kernel
theorem d_Model_raceOf_94 : decode b_Model_raceOf 94 = .ok (.iinc 8 (1), 3) := by decide +kernel
theorem d_Model_raceOf_97 : decode b_Model_raceOf 97 = .ok (.goto (-72), 3) := by decide +kernel
theorem d_Model_raceOf_100 : decode b_Model_raceOf 100 = .ok (.iconst (-1), 1) := by decide +kernel
theorem d_Model_raceOf_101 : decode b_Model_raceOf 101 = .ok (.ireturn, 1) := by decide +kernel
abbrev b_Model_race : ByteArray := prog_8_method_53_code
def y_Model_race : MethodName := ⟨"RoundAndRoundModel", "race", "(IIIII)I"⟩
theorem d_Model_race_0 : decode b_Model_race 0 = .ok (.aload_n 0, 1) := by decide +kernel
theorem d_Model_race_1 : decode b_Model_race 1 = .ok (.iload_n 1, 1) := by decide +kernel
theorem d_Model_race_2 : decode b_Model_race 2 = .ok (.invokevirtual 149, 3) := by decide +kernel
theorem d_Model_race_5 : decode b_Model_race 5 = .ok (.ifCond .ne 6, 3) := by decide +kernel
theorem d_Model_race_8 : decode b_Model_race 8 = .ok (.ldc 156, 2) := by decide +kernel
theorem d_Model_race_10 : decode b_Model_race 10 = .ok (.ireturn, 1) := by decide +kernel
theorem d_Model_race_11 : decode b_Model_race 11 = .ok (.iload_n 2, 1) := by decide +kernel
theorem d_Model_race_12 : decode b_Model_race 12 = .ok (.iload_n 3, 1) := by decide +kernel
theorem d_Model_race_13 : decode b_Model_race 13 = .ok (.iload 4, 2) := by decide +kernel
theorem d_Model_race_15 : decode b_Model_race 15 = .ok (.iload 5, 2) := by decide +kernel
theorem d_Model_race_17 : decode b_Model_race 17 = .ok (.invokestatic 223, 3) := by decide +kernel
theorem d_Model_race_20 : decode b_Model_race 20 = .ok (.ifCond .eq 17, 3) := by decide +kernel
theorem d_Model_race_23 : decode b_Model_race 23 = .ok (.aload_n 0, 1) := by decide +kernel
theorem d_Model_race_24 : decode b_Model_race 24 = .ok (.iload_n 1, 1) := by decide +kernel
theorem d_Model_race_25 : decode b_Model_race 25 = .ok (.iload_n 2, 1) := by decide +kernel
theorem d_Model_race_26 : decode b_Model_race 26 = .ok (.iload_n 3, 1) := by decide +kernel
theorem d_Model_race_27 : decode b_Model_race 27 = .ok (.iload 4, 2) := by decide +kernel
theorem d_Model_race_29 : decode b_Model_race 29 = .ok (.iload 5, 2) := by decide +kernel
theorem d_Model_race_31 : decode b_Model_race 31 = .ok (.invokevirtual 227, 3) := by decide +kernel
theorem d_Model_race_34 : decode b_Model_race 34 = .ok (.goto 5, 3) := by decide +kernel
theorem d_Model_race_37 : decode b_Model_race 37 = .ok (.ldc 157, 2) := by decide +kernel
theorem d_Model_race_39 : decode b_Model_race 39 = .ok (.ireturn, 1) := by decide +kernel
abbrev b_Model_wins : ByteArray := prog_8_method_54_code
def y_Model_wins : MethodName := ⟨"RoundAndRoundModel", "wins", "(IIII)I"⟩
theorem d_Model_wins_0 : decode b_Model_wins 0 = .ok (.iload_n 1, 1) := by decide +kernel
theorem d_Model_wins_1 : decode b_Model_wins 1 = .ok (.iload_n 2, 1) := by decide +kernel
theorem d_Model_wins_2 : decode b_Model_wins 2 = .ok (.iload_n 3, 1) := by decide +kernel
theorem d_Model_wins_3 : decode b_Model_wins 3 = .ok (.iload 4, 2) := by decide +kernel
theorem d_Model_wins_5 : decode b_Model_wins 5 = .ok (.invokestatic 223, 3) := by decide +kernel
theorem d_Model_wins_8 : decode b_Model_wins 8 = .ok (.ifCond .ne 6, 3) := by decide +kernel
theorem d_Model_wins_11 : decode b_Model_wins 11 = .ok (.ldc 157, 2) := by decide +kernel
theorem d_Model_wins_13 : decode b_Model_wins 13 = .ok (.ireturn, 1) := by decide +kernel
theorem d_Model_wins_14 : decode b_Model_wins 14 = .ok (.iconst (-1), 1) := by decide +kernel
theorem d_Model_wins_15 : decode b_Model_wins 15 = .ok (.istore 5, 2) := by decide +kernel
theorem d_Model_wins_17 : decode b_Model_wins 17 = .ok (.iconst (-1), 1) := by decide +kernel
theorem d_Model_wins_18 : decode b_Model_wins 18 = .ok (.istore 6, 2) := by decide +kernel
theorem d_Model_wins_20 : decode b_Model_wins 20 = .ok (.iconst 0, 1) := by decide +kernel
theorem d_Model_wins_21 : decode b_Model_wins 21 = .ok (.istore 7, 2) := by decide +kernel
theorem d_Model_wins_23 : decode b_Model_wins 23 = .ok (.iload 7, 2) := by decide +kernel
theorem d_Model_wins_25 : decode b_Model_wins 25 = .ok (.aload_n 0, 1) := by decide +kernel
theorem d_Model_wins_26 : decode b_Model_wins 26 = .ok (.getfield 63, 3) := by decide +kernel
theorem d_Model_wins_29 : decode b_Model_wins 29 = .ok (.if_icmp .ge 75, 3) := by decide +kernel
theorem d_Model_wins_32 : decode b_Model_wins 32 = .ok (.aload_n 0, 1) := by decide +kernel
theorem d_Model_wins_33 : decode b_Model_wins 33 = .ok (.iload 7, 2) := by decide +kernel
theorem d_Model_wins_35 : decode b_Model_wins 35 = .ok (.iload_n 1, 1) := by decide +kernel
theorem d_Model_wins_36 : decode b_Model_wins 36 = .ok (.iload_n 2, 1) := by decide +kernel
theorem d_Model_wins_37 : decode b_Model_wins 37 = .ok (.iload_n 3, 1) := by decide +kernel
theorem d_Model_wins_38 : decode b_Model_wins 38 = .ok (.iconst 1, 1) := by decide +kernel
theorem d_Model_wins_39 : decode b_Model_wins 39 = .ok (.invokevirtual 227, 3) := by decide +kernel
theorem d_Model_wins_42 : decode b_Model_wins 42 = .ok (.istore 8, 2) := by decide +kernel
theorem d_Model_wins_44 : decode b_Model_wins 44 = .ok (.iload 8, 2) := by decide +kernel
theorem d_Model_wins_46 : decode b_Model_wins 46 = .ok (.iconst (-1), 1) := by decide +kernel
theorem d_Model_wins_47 : decode b_Model_wins 47 = .ok (.if_icmp .eq 20, 3) := by decide +kernel
theorem d_Model_wins_50 : decode b_Model_wins 50 = .ok (.iload 5, 2) := by decide +kernel
theorem d_Model_wins_52 : decode b_Model_wins 52 = .ok (.iconst (-1), 1) := by decide +kernel
theorem d_Model_wins_53 : decode b_Model_wins 53 = .ok (.if_icmp .eq 10, 3) := by decide +kernel
theorem d_Model_wins_56 : decode b_Model_wins 56 = .ok (.iload 8, 2) := by decide +kernel
theorem d_Model_wins_58 : decode b_Model_wins 58 = .ok (.iload 6, 2) := by decide +kernel
theorem d_Model_wins_60 : decode b_Model_wins 60 = .ok (.if_icmp .ge 7, 3) := by decide +kernel
theorem d_Model_wins_63 : decode b_Model_wins 63 = .ok (.iconst 1, 1) := by decide +kernel
theorem d_Model_wins_64 : decode b_Model_wins 64 = .ok (.goto 4, 3) := by decide +kernel
theorem d_Model_wins_67 : decode b_Model_wins 67 = .ok (.iconst 0, 1) := by decide +kernel
theorem d_Model_wins_68 : decode b_Model_wins 68 = .ok (.istore 9, 2) := by decide +kernel
theorem d_Model_wins_70 : decode b_Model_wins 70 = .ok (.iload 9, 2) := by decide +kernel
theorem d_Model_wins_72 : decode b_Model_wins 72 = .ok (.ifCond .eq 8, 3) := by decide +kernel
theorem d_Model_wins_75 : decode b_Model_wins 75 = .ok (.iload 7, 2) := by decide +kernel
theorem d_Model_wins_77 : decode b_Model_wins 77 = .ok (.goto 5, 3) := by decide +kernel
theorem d_Model_wins_80 : decode b_Model_wins 80 = .ok (.iload 5, 2) := by decide +kernel
theorem d_Model_wins_82 : decode b_Model_wins 82 = .ok (.istore 5, 2) := by decide +kernel
theorem d_Model_wins_84 : decode b_Model_wins 84 = .ok (.iload 9, 2) := by decide +kernel
theorem d_Model_wins_86 : decode b_Model_wins 86 = .ok (.ifCond .eq 8, 3) := by decide +kernel
theorem d_Model_wins_89 : decode b_Model_wins 89 = .ok (.iload 8, 2) := by decide +kernel
theorem d_Model_wins_91 : decode b_Model_wins 91 = .ok (.goto 5, 3) := by decide +kernel
theorem d_Model_wins_94 : decode b_Model_wins 94 = .ok (.iload 6, 2) := by decide +kernel
theorem d_Model_wins_96 : decode b_Model_wins 96 = .ok (.istore 6, 2) := by decide +kernel
theorem d_Model_wins_98 : decode b_Model_wins 98 = .ok (.iinc 7 (1), 3) := by decide +kernel
theorem d_Model_wins_101 : decode b_Model_wins 101 = .ok (.goto (-78), 3) := by decide +kernel
theorem d_Model_wins_104 : decode b_Model_wins 104 = .ok (.iload 4, 2) := by decide +kernel
theorem d_Model_wins_106 : decode b_Model_wins 106 = .ok (.ifCond .ne 8, 3) := by decide +kernel
theorem d_Model_wins_109 : decode b_Model_wins 109 = .ok (.iload 5, 2) := by decide +kernel
theorem d_Model_wins_111 : decode b_Model_wins 111 = .ok (.goto 5, 3) := by decide +kernel
theorem d_Model_wins_114 : decode b_Model_wins 114 = .ok (.iload 6, 2) := by decide +kernel
theorem d_Model_wins_116 : decode b_Model_wins 116 = .ok (.ireturn, 1) := by decide +kernel
abbrev b_Model_pace : ByteArray := prog_8_method_55_code
def y_Model_pace : MethodName := ⟨"RoundAndRoundModel", "pace", "(IIIII)I"⟩
theorem d_Model_pace_0 : decode b_Model_pace 0 = .ok (.aload_n 0, 1) := by decide +kernel
theorem d_Model_pace_1 : decode b_Model_pace 1 = .ok (.iload_n 1, 1) := by decide +kernel
theorem d_Model_pace_2 : decode b_Model_pace 2 = .ok (.invokevirtual 149, 3) := by decide +kernel
theorem d_Model_pace_5 : decode b_Model_pace 5 = .ok (.ifCond .ne 6, 3) := by decide +kernel
theorem d_Model_pace_8 : decode b_Model_pace 8 = .ok (.ldc 156, 2) := by decide +kernel
theorem d_Model_pace_10 : decode b_Model_pace 10 = .ok (.ireturn, 1) := by decide +kernel
theorem d_Model_pace_11 : decode b_Model_pace 11 = .ok (.iload_n 2, 1) := by decide +kernel
theorem d_Model_pace_12 : decode b_Model_pace 12 = .ok (.invokestatic 193, 3) := by decide +kernel
theorem d_Model_pace_15 : decode b_Model_pace 15 = .ok (.ifCond .eq 34, 3) := by decide +kernel
theorem d_Model_pace_18 : decode b_Model_pace 18 = .ok (.iload_n 3, 1) := by decide +kernel
theorem d_Model_pace_19 : decode b_Model_pace 19 = .ok (.iconst 1, 1) := by decide +kernel
theorem d_Model_pace_20 : decode b_Model_pace 20 = .ok (.bipush (9), 2) := by decide +kernel
theorem d_Model_pace_22 : decode b_Model_pace 22 = .ok (.invokestatic 66, 3) := by decide +kernel
theorem d_Model_pace_25 : decode b_Model_pace 25 = .ok (.ifCond .eq 24, 3) := by decide +kernel
theorem d_Model_pace_28 : decode b_Model_pace 28 = .ok (.iload 4, 2) := by decide +kernel
theorem d_Model_pace_30 : decode b_Model_pace 30 = .ok (.iconst 1, 1) := by decide +kernel
theorem d_Model_pace_31 : decode b_Model_pace 31 = .ok (.bipush (60), 2) := by decide +kernel
theorem d_Model_pace_33 : decode b_Model_pace 33 = .ok (.invokestatic 66, 3) := by decide +kernel
theorem d_Model_pace_36 : decode b_Model_pace 36 = .ok (.ifCond .eq 13, 3) := by decide +kernel
theorem d_Model_pace_39 : decode b_Model_pace 39 = .ok (.iload 5, 2) := by decide +kernel
theorem d_Model_pace_41 : decode b_Model_pace 41 = .ok (.iconst 0, 1) := by decide +kernel
theorem d_Model_pace_42 : decode b_Model_pace 42 = .ok (.iconst 1, 1) := by decide +kernel
theorem d_Model_pace_43 : decode b_Model_pace 43 = .ok (.invokestatic 66, 3) := by decide +kernel
theorem d_Model_pace_46 : decode b_Model_pace 46 = .ok (.ifCond .ne 6, 3) := by decide +kernel
theorem d_Model_pace_49 : decode b_Model_pace 49 = .ok (.ldc 157, 2) := by decide +kernel
theorem d_Model_pace_51 : decode b_Model_pace 51 = .ok (.ireturn, 1) := by decide +kernel
theorem d_Model_pace_52 : decode b_Model_pace 52 = .ok (.iconst (-1), 1) := by decide +kernel
theorem d_Model_pace_53 : decode b_Model_pace 53 = .ok (.istore 6, 2) := by decide +kernel
theorem d_Model_pace_55 : decode b_Model_pace 55 = .ok (.iconst (-1), 1) := by decide +kernel
theorem d_Model_pace_56 : decode b_Model_pace 56 = .ok (.istore 7, 2) := by decide +kernel
theorem d_Model_pace_58 : decode b_Model_pace 58 = .ok (.iconst 1, 1) := by decide +kernel
theorem d_Model_pace_59 : decode b_Model_pace 59 = .ok (.istore 8, 2) := by decide +kernel
theorem d_Model_pace_61 : decode b_Model_pace 61 = .ok (.iload 8, 2) := by decide +kernel
theorem d_Model_pace_63 : decode b_Model_pace 63 = .ok (.bipush (9), 2) := by decide +kernel
theorem d_Model_pace_65 : decode b_Model_pace 65 = .ok (.if_icmp .gt 94, 3) := by decide +kernel
theorem d_Model_pace_68 : decode b_Model_pace 68 = .ok (.aload_n 0, 1) := by decide +kernel
theorem d_Model_pace_69 : decode b_Model_pace 69 = .ok (.iload_n 1, 1) := by decide +kernel
theorem d_Model_pace_70 : decode b_Model_pace 70 = .ok (.iload_n 2, 1) := by decide +kernel
theorem d_Model_pace_71 : decode b_Model_pace 71 = .ok (.iload_n 3, 1) := by decide +kernel
theorem d_Model_pace_72 : decode b_Model_pace 72 = .ok (.iconst 0, 1) := by decide +kernel
theorem d_Model_pace_73 : decode b_Model_pace 73 = .ok (.iload 8, 2) := by decide +kernel
theorem d_Model_pace_75 : decode b_Model_pace 75 = .ok (.iload 4, 2) := by decide +kernel
theorem d_Model_pace_77 : decode b_Model_pace 77 = .ok (.iload 8, 2) := by decide +kernel
theorem d_Model_pace_79 : decode b_Model_pace 79 = .ok (.iadd, 1) := by decide +kernel
theorem d_Model_pace_80 : decode b_Model_pace 80 = .ok (.iconst 1, 1) := by decide +kernel
theorem d_Model_pace_81 : decode b_Model_pace 81 = .ok (.isub, 1) := by decide +kernel
theorem d_Model_pace_82 : decode b_Model_pace 82 = .ok (.iload 8, 2) := by decide +kernel
theorem d_Model_pace_84 : decode b_Model_pace 84 = .ok (.idiv, 1) := by decide +kernel
theorem d_Model_pace_85 : decode b_Model_pace 85 = .ok (.invokevirtual 218, 3) := by decide +kernel
theorem d_Model_pace_88 : decode b_Model_pace 88 = .ok (.aload_n 0, 1) := by decide +kernel
theorem d_Model_pace_89 : decode b_Model_pace 89 = .ok (.getfield 174, 3) := by decide +kernel
theorem d_Model_pace_92 : decode b_Model_pace 92 = .ok (.ifCond .ne 25, 3) := by decide +kernel
theorem d_Model_pace_95 : decode b_Model_pace 95 = .ok (.iload 6, 2) := by decide +kernel
theorem d_Model_pace_97 : decode b_Model_pace 97 = .ok (.iconst (-1), 1) := by decide +kernel
theorem d_Model_pace_98 : decode b_Model_pace 98 = .ok (.if_icmp .eq 15, 3) := by decide +kernel
theorem d_Model_pace_101 : decode b_Model_pace 101 = .ok (.aload_n 0, 1) := by decide +kernel
theorem d_Model_pace_102 : decode b_Model_pace 102 = .ok (.getfield 186, 3) := by decide +kernel
theorem d_Model_pace_105 : decode b_Model_pace 105 = .ok (.invokestatic 164, 3) := by decide +kernel
theorem d_Model_pace_108 : decode b_Model_pace 108 = .ok (.iload 7, 2) := by decide +kernel
theorem d_Model_pace_110 : decode b_Model_pace 110 = .ok (.if_icmp .gt 7, 3) := by decide +kernel
theorem d_Model_pace_113 : decode b_Model_pace 113 = .ok (.iconst 1, 1) := by decide +kernel
theorem d_Model_pace_114 : decode b_Model_pace 114 = .ok (.goto 4, 3) := by decide +kernel
theorem d_Model_pace_117 : decode b_Model_pace 117 = .ok (.iconst 0, 1) := by decide +kernel
theorem d_Model_pace_118 : decode b_Model_pace 118 = .ok (.istore 9, 2) := by decide +kernel
theorem d_Model_pace_120 : decode b_Model_pace 120 = .ok (.iload 9, 2) := by decide +kernel
theorem d_Model_pace_122 : decode b_Model_pace 122 = .ok (.ifCond .eq 8, 3) := by decide +kernel
theorem d_Model_pace_125 : decode b_Model_pace 125 = .ok (.iload 8, 2) := by decide +kernel
theorem d_Model_pace_127 : decode b_Model_pace 127 = .ok (.goto 5, 3) := by decide +kernel
theorem d_Model_pace_130 : decode b_Model_pace 130 = .ok (.iload 6, 2) := by decide +kernel
theorem d_Model_pace_132 : decode b_Model_pace 132 = .ok (.istore 6, 2) := by decide +kernel
theorem d_Model_pace_134 : decode b_Model_pace 134 = .ok (.iload 9, 2) := by decide +kernel
theorem d_Model_pace_136 : decode b_Model_pace 136 = .ok (.ifCond .eq 13, 3) := by decide +kernel
theorem d_Model_pace_139 : decode b_Model_pace 139 = .ok (.aload_n 0, 1) := by decide +kernel
theorem d_Model_pace_140 : decode b_Model_pace 140 = .ok (.getfield 186, 3) := by decide +kernel
theorem d_Model_pace_143 : decode b_Model_pace 143 = .ok (.invokestatic 164, 3) := by decide +kernel
theorem d_Model_pace_146 : decode b_Model_pace 146 = .ok (.goto 5, 3) := by decide +kernel
theorem d_Model_pace_149 : decode b_Model_pace 149 = .ok (.iload 7, 2) := by decide +kernel
theorem d_Model_pace_151 : decode b_Model_pace 151 = .ok (.istore 7, 2) := by decide +kernel
theorem d_Model_pace_153 : decode b_Model_pace 153 = .ok (.iinc 8 (1), 3) := by decide +kernel
theorem d_Model_pace_156 : decode b_Model_pace 156 = .ok (.goto (-95), 3) := by decide +kernel
theorem d_Model_pace_159 : decode b_Model_pace 159 = .ok (.iload 5, 2) := by decide +kernel
theorem d_Model_pace_161 : decode b_Model_pace 161 = .ok (.ifCond .ne 8, 3) := by decide +kernel
theorem d_Model_pace_164 : decode b_Model_pace 164 = .ok (.iload 6, 2) := by decide +kernel
theorem d_Model_pace_166 : decode b_Model_pace 166 = .ok (.goto 5, 3) := by decide +kernel
theorem d_Model_pace_169 : decode b_Model_pace 169 = .ok (.iload 7, 2) := by decide +kernel
theorem d_Model_pace_171 : decode b_Model_pace 171 = .ok (.ireturn, 1) := by decide +kernel
abbrev b_Model_byNumber : ByteArray := prog_8_method_56_code
def y_Model_byNumber : MethodName := ⟨"RoundAndRoundModel", "byNumber", "(I)I"⟩
theorem d_Model_byNumber_0 : decode b_Model_byNumber 0 = .ok (.iload_n 0, 1) := by decide +kernel
theorem d_Model_byNumber_1 : decode b_Model_byNumber 1 = .ok (.iconst 2, 1) := by decide +kernel
theorem d_Model_byNumber_2 : decode b_Model_byNumber 2 = .ok (.irem, 1) := by decide +kernel
theorem d_Model_byNumber_3 : decode b_Model_byNumber 3 = .ok (.iconst 1, 1) := by decide +kernel
theorem d_Model_byNumber_4 : decode b_Model_byNumber 4 = .ok (.if_icmp .ne 11, 3) := by decide +kernel
theorem d_Model_byNumber_7 : decode b_Model_byNumber 7 = .ok (.iload_n 0, 1) := by decide +kernel
theorem d_Model_byNumber_8 : decode b_Model_byNumber 8 = .ok (.iconst 1, 1) := by decide +kernel
theorem d_Model_byNumber_9 : decode b_Model_byNumber 9 = .ok (.iadd, 1) := by decide +kernel
theorem d_Model_byNumber_10 : decode b_Model_byNumber 10 = .ok (.iconst 2, 1) := by decide +kernel
theorem d_Model_byNumber_11 : decode b_Model_byNumber 11 = .ok (.idiv, 1) := by decide +kernel
theorem d_Model_byNumber_12 : decode b_Model_byNumber 12 = .ok (.goto 7, 3) := by decide +kernel
theorem d_Model_byNumber_15 : decode b_Model_byNumber 15 = .ok (.iload_n 0, 1) := by decide +kernel
theorem d_Model_byNumber_16 : decode b_Model_byNumber 16 = .ok (.iconst 2, 1) := by decide +kernel
theorem d_Model_byNumber_17 : decode b_Model_byNumber 17 = .ok (.idiv, 1) := by decide +kernel
theorem d_Model_byNumber_18 : decode b_Model_byNumber 18 = .ok (.ineg, 1) := by decide +kernel
theorem d_Model_byNumber_19 : decode b_Model_byNumber 19 = .ok (.ireturn, 1) := by decide +kernel
abbrev b_Model_roses : ByteArray := prog_8_method_57_code
def y_Model_roses : MethodName := ⟨"RoundAndRoundModel", "roses", "(IIIII)I"⟩
theorem d_Model_roses_0 : decode b_Model_roses 0 = .ok (.aload_n 0, 1) := by decide +kernel
theorem d_Model_roses_1 : decode b_Model_roses 1 = .ok (.iload_n 1, 1) := by decide +kernel
theorem d_Model_roses_2 : decode b_Model_roses 2 = .ok (.invokevirtual 149, 3) := by decide +kernel
theorem d_Model_roses_5 : decode b_Model_roses 5 = .ok (.ifCond .ne 6, 3) := by decide +kernel
theorem d_Model_roses_8 : decode b_Model_roses 8 = .ok (.ldc 156, 2) := by decide +kernel
theorem d_Model_roses_10 : decode b_Model_roses 10 = .ok (.ireturn, 1) := by decide +kernel
theorem d_Model_roses_11 : decode b_Model_roses 11 = .ok (.iload_n 2, 1) := by decide +kernel
theorem d_Model_roses_12 : decode b_Model_roses 12 = .ok (.invokestatic 215, 3) := by decide +kernel
theorem d_Model_roses_15 : decode b_Model_roses 15 = .ok (.ifCond .eq 35, 3) := by decide +kernel
theorem d_Model_roses_18 : decode b_Model_roses 18 = .ok (.iload_n 3, 1) := by decide +kernel
theorem d_Model_roses_19 : decode b_Model_roses 19 = .ok (.iconst 0, 1) := by decide +kernel
theorem d_Model_roses_20 : decode b_Model_roses 20 = .ok (.bipush (60), 2) := by decide +kernel
theorem d_Model_roses_22 : decode b_Model_roses 22 = .ok (.invokestatic 66, 3) := by decide +kernel
theorem d_Model_roses_25 : decode b_Model_roses 25 = .ok (.ifCond .eq 25, 3) := by decide +kernel
theorem d_Model_roses_28 : decode b_Model_roses 28 = .ok (.iload 4, 2) := by decide +kernel
theorem d_Model_roses_30 : decode b_Model_roses 30 = .ok (.ldc 184, 2) := by decide +kernel
theorem d_Model_roses_32 : decode b_Model_roses 32 = .ok (.ldc 185, 2) := by decide +kernel
theorem d_Model_roses_34 : decode b_Model_roses 34 = .ok (.invokestatic 66, 3) := by decide +kernel
theorem d_Model_roses_37 : decode b_Model_roses 37 = .ok (.ifCond .eq 13, 3) := by decide +kernel
theorem d_Model_roses_40 : decode b_Model_roses 40 = .ok (.iload 5, 2) := by decide +kernel
theorem d_Model_roses_42 : decode b_Model_roses 42 = .ok (.iconst 0, 1) := by decide +kernel
theorem d_Model_roses_43 : decode b_Model_roses 43 = .ok (.iconst 1, 1) := by decide +kernel
theorem d_Model_roses_44 : decode b_Model_roses 44 = .ok (.invokestatic 66, 3) := by decide +kernel
theorem d_Model_roses_47 : decode b_Model_roses 47 = .ok (.ifCond .ne 6, 3) := by decide +kernel
theorem d_Model_roses_50 : decode b_Model_roses 50 = .ok (.ldc 157, 2) := by decide +kernel
theorem d_Model_roses_52 : decode b_Model_roses 52 = .ok (.ireturn, 1) := by decide +kernel
theorem d_Model_roses_53 : decode b_Model_roses 53 = .ok (.iconst 0, 1) := by decide +kernel
theorem d_Model_roses_54 : decode b_Model_roses 54 = .ok (.istore 6, 2) := by decide +kernel
theorem d_Model_roses_56 : decode b_Model_roses 56 = .ok (.iconst 0, 1) := by decide +kernel
theorem d_Model_roses_57 : decode b_Model_roses 57 = .ok (.istore 7, 2) := by decide +kernel
theorem d_Model_roses_59 : decode b_Model_roses 59 = .ok (.iconst 0, 1) := by decide +kernel
theorem d_Model_roses_60 : decode b_Model_roses 60 = .ok (.istore 8, 2) := by decide +kernel
theorem d_Model_roses_62 : decode b_Model_roses 62 = .ok (.iconst 0, 1) := by decide +kernel
theorem d_Model_roses_63 : decode b_Model_roses 63 = .ok (.istore 9, 2) := by decide +kernel
theorem d_Model_roses_65 : decode b_Model_roses 65 = .ok (.iload 9, 2) := by decide +kernel
theorem d_Model_roses_67 : decode b_Model_roses 67 = .ok (.bipush (80), 2) := by decide +kernel
theorem d_Model_roses_69 : decode b_Model_roses 69 = .ok (.if_icmp .gt 89, 3) := by decide +kernel
theorem d_Model_roses_72 : decode b_Model_roses 72 = .ok (.aload_n 0, 1) := by decide +kernel
theorem d_Model_roses_73 : decode b_Model_roses 73 = .ok (.iload_n 1, 1) := by decide +kernel
theorem d_Model_roses_74 : decode b_Model_roses 74 = .ok (.iload 9, 2) := by decide +kernel
theorem d_Model_roses_76 : decode b_Model_roses 76 = .ok (.invokestatic 231, 3) := by decide +kernel
theorem d_Model_roses_79 : decode b_Model_roses 79 = .ok (.iload_n 2, 1) := by decide +kernel
theorem d_Model_roses_80 : decode b_Model_roses 80 = .ok (.bipush (10), 2) := by decide +kernel
theorem d_Model_roses_82 : decode b_Model_roses 82 = .ok (.idiv, 1) := by decide +kernel
theorem d_Model_roses_83 : decode b_Model_roses 83 = .ok (.iconst 0, 1) := by decide +kernel
theorem d_Model_roses_84 : decode b_Model_roses 84 = .ok (.iload_n 2, 1) := by decide +kernel
theorem d_Model_roses_85 : decode b_Model_roses 85 = .ok (.bipush (10), 2) := by decide +kernel
theorem d_Model_roses_87 : decode b_Model_roses 87 = .ok (.irem, 1) := by decide +kernel
theorem d_Model_roses_88 : decode b_Model_roses 88 = .ok (.iload_n 3, 1) := by decide +kernel
theorem d_Model_roses_89 : decode b_Model_roses 89 = .ok (.invokevirtual 218, 3) := by decide +kernel
theorem d_Model_roses_92 : decode b_Model_roses 92 = .ok (.aload_n 0, 1) := by decide +kernel
theorem d_Model_roses_93 : decode b_Model_roses 93 = .ok (.getfield 186, 3) := by decide +kernel
theorem d_Model_roses_96 : decode b_Model_roses 96 = .ok (.iload 4, 2) := by decide +kernel
theorem d_Model_roses_98 : decode b_Model_roses 98 = .ok (.isub, 1) := by decide +kernel
theorem d_Model_roses_99 : decode b_Model_roses 99 = .ok (.invokestatic 164, 3) := by decide +kernel
theorem d_Model_roses_102 : decode b_Model_roses 102 = .ok (.istore 10, 2) := by decide +kernel
theorem d_Model_roses_104 : decode b_Model_roses 104 = .ok (.iload 6, 2) := by decide +kernel
theorem d_Model_roses_106 : decode b_Model_roses 106 = .ok (.ifCond .eq 10, 3) := by decide +kernel
theorem d_Model_roses_109 : decode b_Model_roses 109 = .ok (.iload 10, 2) := by decide +kernel
theorem d_Model_roses_111 : decode b_Model_roses 111 = .ok (.iload 8, 2) := by decide +kernel
theorem d_Model_roses_113 : decode b_Model_roses 113 = .ok (.if_icmp .ge 11, 3) := by decide +kernel
theorem d_Model_roses_116 : decode b_Model_roses 116 = .ok (.iload 9, 2) := by decide +kernel
theorem d_Model_roses_118 : decode b_Model_roses 118 = .ok (.invokestatic 231, 3) := by decide +kernel
theorem d_Model_roses_121 : decode b_Model_roses 121 = .ok (.goto 5, 3) := by decide +kernel
theorem d_Model_roses_124 : decode b_Model_roses 124 = .ok (.iload 7, 2) := by decide +kernel
theorem d_Model_roses_126 : decode b_Model_roses 126 = .ok (.istore 7, 2) := by decide +kernel
theorem d_Model_roses_128 : decode b_Model_roses 128 = .ok (.iload 6, 2) := by decide +kernel
theorem d_Model_roses_130 : decode b_Model_roses 130 = .ok (.ifCond .eq 10, 3) := by decide +kernel
theorem d_Model_roses_133 : decode b_Model_roses 133 = .ok (.iload 10, 2) := by decide +kernel
theorem d_Model_roses_135 : decode b_Model_roses 135 = .ok (.iload 8, 2) := by decide +kernel
theorem d_Model_roses_137 : decode b_Model_roses 137 = .ok (.if_icmp .ge 8, 3) := by decide +kernel
theorem d_Model_roses_140 : decode b_Model_roses 140 = .ok (.iload 10, 2) := by decide +kernel
theorem d_Model_roses_142 : decode b_Model_roses 142 = .ok (.goto 5, 3) := by decide +kernel
theorem d_Model_roses_145 : decode b_Model_roses 145 = .ok (.iload 8, 2) := by decide +kernel
theorem d_Model_roses_147 : decode b_Model_roses 147 = .ok (.istore 8, 2) := by decide +kernel
theorem d_Model_roses_149 : decode b_Model_roses 149 = .ok (.iconst 1, 1) := by decide +kernel
theorem d_Model_roses_150 : decode b_Model_roses 150 = .ok (.istore 6, 2) := by decide +kernel
theorem d_Model_roses_152 : decode b_Model_roses 152 = .ok (.iinc 9 (1), 3) := by decide +kernel
theorem d_Model_roses_155 : decode b_Model_roses 155 = .ok (.goto (-90), 3) := by decide +kernel
theorem d_Model_roses_158 : decode b_Model_roses 158 = .ok (.iload 5, 2) := by decide +kernel
theorem d_Model_roses_160 : decode b_Model_roses 160 = .ok (.ifCond .ne 8, 3) := by decide +kernel
theorem d_Model_roses_163 : decode b_Model_roses 163 = .ok (.iload 7, 2) := by decide +kernel
theorem d_Model_roses_165 : decode b_Model_roses 165 = .ok (.goto 5, 3) := by decide +kernel
theorem d_Model_roses_168 : decode b_Model_roses 168 = .ok (.iload 8, 2) := by decide +kernel
theorem d_Model_roses_170 : decode b_Model_roses 170 = .ok (.ireturn, 1) := by decide +kernel
abbrev b_Model_sheetWrong : ByteArray := prog_8_method_58_code
def y_Model_sheetWrong : MethodName := ⟨"RoundAndRoundModel", "sheetWrong", "(I)I"⟩
theorem d_Model_sheetWrong_0 : decode b_Model_sheetWrong 0 = .ok (.iload_n 1, 1) := by decide +kernel
theorem d_Model_sheetWrong_1 : decode b_Model_sheetWrong 1 = .ok (.iconst 0, 1) := by decide +kernel
theorem d_Model_sheetWrong_2 : decode b_Model_sheetWrong 2 = .ok (.iconst 3, 1) := by decide +kernel
theorem d_Model_sheetWrong_3 : decode b_Model_sheetWrong 3 = .ok (.invokestatic 66, 3) := by decide +kernel
theorem d_Model_sheetWrong_6 : decode b_Model_sheetWrong 6 = .ok (.ifCond .ne 6, 3) := by decide +kernel
theorem d_Model_sheetWrong_9 : decode b_Model_sheetWrong 9 = .ok (.bipush (-2), 2) := by decide +kernel
theorem d_Model_sheetWrong_11 : decode b_Model_sheetWrong 11 = .ok (.ireturn, 1) := by decide +kernel
theorem d_Model_sheetWrong_12 : decode b_Model_sheetWrong 12 = .ok (.aload_n 0, 1) := by decide +kernel
theorem d_Model_sheetWrong_13 : decode b_Model_sheetWrong 13 = .ok (.getfield 31, 3) := by decide +kernel
theorem d_Model_sheetWrong_16 : decode b_Model_sheetWrong 16 = .ok (.iload_n 1, 1) := by decide +kernel
theorem d_Model_sheetWrong_17 : decode b_Model_sheetWrong 17 = .ok (.iaload, 1) := by decide +kernel
theorem d_Model_sheetWrong_18 : decode b_Model_sheetWrong 18 = .ok (.iconst (-1), 1) := by decide +kernel
theorem d_Model_sheetWrong_19 : decode b_Model_sheetWrong 19 = .ok (.if_icmp .ne 8, 3) := by decide +kernel
theorem d_Model_sheetWrong_22 : decode b_Model_sheetWrong 22 = .ok (.bipush (-11), 2) := by decide +kernel
theorem d_Model_sheetWrong_24 : decode b_Model_sheetWrong 24 = .ok (.goto 4, 3) := by decide +kernel
theorem d_Model_sheetWrong_27 : decode b_Model_sheetWrong 27 = .ok (.iconst 0, 1) := by decide +kernel
theorem d_Model_sheetWrong_28 : decode b_Model_sheetWrong 28 = .ok (.ireturn, 1) := by decide +kernel
abbrev b_Model_toldWrong : ByteArray := prog_8_method_59_code
def y_Model_toldWrong : MethodName := ⟨"RoundAndRoundModel", "toldWrong", "(IIII)I"⟩
theorem d_Model_toldWrong_0 : decode b_Model_toldWrong 0 = .ok (.aload_n 0, 1) := by decide +kernel
theorem d_Model_toldWrong_1 : decode b_Model_toldWrong 1 = .ok (.iload_n 1, 1) := by decide +kernel
theorem d_Model_toldWrong_2 : decode b_Model_toldWrong 2 = .ok (.invokevirtual 234, 3) := by decide +kernel
theorem d_Model_toldWrong_5 : decode b_Model_toldWrong 5 = .ok (.istore 5, 2) := by decide +kernel
theorem d_Model_toldWrong_7 : decode b_Model_toldWrong 7 = .ok (.iload 5, 2) := by decide +kernel
theorem d_Model_toldWrong_9 : decode b_Model_toldWrong 9 = .ok (.ifCond .eq 6, 3) := by decide +kernel
theorem d_Model_toldWrong_12 : decode b_Model_toldWrong 12 = .ok (.iload 5, 2) := by decide +kernel
theorem d_Model_toldWrong_14 : decode b_Model_toldWrong 14 = .ok (.ireturn, 1) := by decide +kernel
theorem d_Model_toldWrong_15 : decode b_Model_toldWrong 15 = .ok (.aload_n 0, 1) := by decide +kernel
theorem d_Model_toldWrong_16 : decode b_Model_toldWrong 16 = .ok (.iload_n 2, 1) := by decide +kernel
theorem d_Model_toldWrong_17 : decode b_Model_toldWrong 17 = .ok (.invokevirtual 149, 3) := by decide +kernel
theorem d_Model_toldWrong_20 : decode b_Model_toldWrong 20 = .ok (.ifCond .ne 8, 3) := by decide +kernel
theorem d_Model_toldWrong_23 : decode b_Model_toldWrong 23 = .ok (.bipush (-5), 2) := by decide +kernel
theorem d_Model_toldWrong_25 : decode b_Model_toldWrong 25 = .ok (.goto 24, 3) := by decide +kernel
theorem d_Model_toldWrong_28 : decode b_Model_toldWrong 28 = .ok (.iload_n 3, 1) := by decide +kernel
theorem d_Model_toldWrong_29 : decode b_Model_toldWrong 29 = .ok (.invokestatic 193, 3) := by decide +kernel
theorem d_Model_toldWrong_32 : decode b_Model_toldWrong 32 = .ok (.ifCond .eq 15, 3) := by decide +kernel
theorem d_Model_toldWrong_35 : decode b_Model_toldWrong 35 = .ok (.iload 4, 2) := by decide +kernel
theorem d_Model_toldWrong_37 : decode b_Model_toldWrong 37 = .ok (.invokestatic 215, 3) := by decide +kernel
theorem d_Model_toldWrong_40 : decode b_Model_toldWrong 40 = .ok (.ifCond .eq 7, 3) := by decide +kernel
theorem d_Model_toldWrong_43 : decode b_Model_toldWrong 43 = .ok (.iconst 0, 1) := by decide +kernel
theorem d_Model_toldWrong_44 : decode b_Model_toldWrong 44 = .ok (.goto 5, 3) := by decide +kernel
theorem d_Model_toldWrong_47 : decode b_Model_toldWrong 47 = .ok (.bipush (-7), 2) := by decide +kernel
theorem d_Model_toldWrong_49 : decode b_Model_toldWrong 49 = .ok (.ireturn, 1) := by decide +kernel
abbrev b_Model_unlike : ByteArray := prog_8_method_60_code
def y_Model_unlike : MethodName := ⟨"RoundAndRoundModel", "unlike", "(IIII)I"⟩
theorem d_Model_unlike_0 : decode b_Model_unlike 0 = .ok (.aload_n 0, 1) := by decide +kernel
theorem d_Model_unlike_1 : decode b_Model_unlike 1 = .ok (.iload_n 2, 1) := by decide +kernel
theorem d_Model_unlike_2 : decode b_Model_unlike 2 = .ok (.iload_n 3, 1) := by decide +kernel
theorem d_Model_unlike_3 : decode b_Model_unlike 3 = .ok (.iload 4, 2) := by decide +kernel
theorem d_Model_unlike_5 : decode b_Model_unlike 5 = .ok (.bipush (10), 2) := by decide +kernel
theorem d_Model_unlike_7 : decode b_Model_unlike 7 = .ok (.idiv, 1) := by decide +kernel
theorem d_Model_unlike_8 : decode b_Model_unlike 8 = .ok (.iconst 0, 1) := by decide +kernel
theorem d_Model_unlike_9 : decode b_Model_unlike 9 = .ok (.iload 4, 2) := by decide +kernel
theorem d_Model_unlike_11 : decode b_Model_unlike 11 = .ok (.bipush (10), 2) := by decide +kernel
theorem d_Model_unlike_13 : decode b_Model_unlike 13 = .ok (.irem, 1) := by decide +kernel
theorem d_Model_unlike_14 : decode b_Model_unlike 14 = .ok (.iconst 0, 1) := by decide +kernel
theorem d_Model_unlike_15 : decode b_Model_unlike 15 = .ok (.invokevirtual 218, 3) := by decide +kernel
theorem d_Model_unlike_18 : decode b_Model_unlike 18 = .ok (.iconst 0, 1) := by decide +kernel
theorem d_Model_unlike_19 : decode b_Model_unlike 19 = .ok (.istore 5, 2) := by decide +kernel
theorem d_Model_unlike_21 : decode b_Model_unlike 21 = .ok (.iload 5, 2) := by decide +kernel
theorem d_Model_unlike_23 : decode b_Model_unlike 23 = .ok (.aload_n 0, 1) := by decide +kernel
theorem d_Model_unlike_24 : decode b_Model_unlike 24 = .ok (.getfield 34, 3) := by decide +kernel
theorem d_Model_unlike_27 : decode b_Model_unlike 27 = .ok (.iload_n 1, 1) := by decide +kernel
theorem d_Model_unlike_28 : decode b_Model_unlike 28 = .ok (.iaload, 1) := by decide +kernel
theorem d_Model_unlike_29 : decode b_Model_unlike 29 = .ok (.if_icmp .ge 44, 3) := by decide +kernel
theorem d_Model_unlike_32 : decode b_Model_unlike 32 = .ok (.aload_n 0, 1) := by decide +kernel
theorem d_Model_unlike_33 : decode b_Model_unlike 33 = .ok (.iload_n 2, 1) := by decide +kernel
theorem d_Model_unlike_34 : decode b_Model_unlike 34 = .ok (.iload 4, 2) := by decide +kernel
theorem d_Model_unlike_36 : decode b_Model_unlike 36 = .ok (.bipush (10), 2) := by decide +kernel
theorem d_Model_unlike_38 : decode b_Model_unlike 38 = .ok (.irem, 1) := by decide +kernel
theorem d_Model_unlike_39 : decode b_Model_unlike 39 = .ok (.iconst 1, 1) := by decide +kernel
theorem d_Model_unlike_40 : decode b_Model_unlike 40 = .ok (.iload 5, 2) := by decide +kernel
theorem d_Model_unlike_42 : decode b_Model_unlike 42 = .ok (.invokevirtual 189, 3) := by decide +kernel
theorem d_Model_unlike_45 : decode b_Model_unlike 45 = .ok (.aload_n 0, 1) := by decide +kernel
theorem d_Model_unlike_46 : decode b_Model_unlike 46 = .ok (.getfield 37, 3) := by decide +kernel
theorem d_Model_unlike_49 : decode b_Model_unlike 49 = .ok (.bipush (40), 2) := by decide +kernel
theorem d_Model_unlike_51 : decode b_Model_unlike 51 = .ok (.iload_n 1, 1) := by decide +kernel
theorem d_Model_unlike_52 : decode b_Model_unlike 52 = .ok (.imul, 1) := by decide +kernel
theorem d_Model_unlike_53 : decode b_Model_unlike 53 = .ok (.iload 5, 2) := by decide +kernel
theorem d_Model_unlike_55 : decode b_Model_unlike 55 = .ok (.iadd, 1) := by decide +kernel
theorem d_Model_unlike_56 : decode b_Model_unlike 56 = .ok (.iaload, 1) := by decide +kernel
theorem d_Model_unlike_57 : decode b_Model_unlike 57 = .ok (.aload_n 0, 1) := by decide +kernel
theorem d_Model_unlike_58 : decode b_Model_unlike 58 = .ok (.getfield 186, 3) := by decide +kernel
theorem d_Model_unlike_61 : decode b_Model_unlike 61 = .ok (.if_icmp .eq 6, 3) := by decide +kernel
theorem d_Model_unlike_64 : decode b_Model_unlike 64 = .ok (.iload 5, 2) := by decide +kernel
theorem d_Model_unlike_66 : decode b_Model_unlike 66 = .ok (.ireturn, 1) := by decide +kernel
theorem d_Model_unlike_67 : decode b_Model_unlike 67 = .ok (.iinc 5 (1), 3) := by decide +kernel
theorem d_Model_unlike_70 : decode b_Model_unlike 70 = .ok (.goto (-49), 3) := by decide +kernel
theorem d_Model_unlike_73 : decode b_Model_unlike 73 = .ok (.iconst (-1), 1) := by decide +kernel
theorem d_Model_unlike_74 : decode b_Model_unlike 74 = .ok (.ireturn, 1) := by decide +kernel
abbrev b_Model_judge : ByteArray := prog_8_method_61_code
def y_Model_judge : MethodName := ⟨"RoundAndRoundModel", "judge", "(IIII)I"⟩
theorem d_Model_judge_0 : decode b_Model_judge 0 = .ok (.aload_n 0, 1) := by decide +kernel
theorem d_Model_judge_1 : decode b_Model_judge 1 = .ok (.iload_n 1, 1) := by decide +kernel
theorem d_Model_judge_2 : decode b_Model_judge 2 = .ok (.iload_n 2, 1) := by decide +kernel
theorem d_Model_judge_3 : decode b_Model_judge 3 = .ok (.iload_n 3, 1) := by decide +kernel
theorem d_Model_judge_4 : decode b_Model_judge 4 = .ok (.iload 4, 2) := by decide +kernel
theorem d_Model_judge_6 : decode b_Model_judge 6 = .ok (.invokevirtual 237, 3) := by decide +kernel
theorem d_Model_judge_9 : decode b_Model_judge 9 = .ok (.istore 5, 2) := by decide +kernel
theorem d_Model_judge_11 : decode b_Model_judge 11 = .ok (.iload 5, 2) := by decide +kernel
theorem d_Model_judge_13 : decode b_Model_judge 13 = .ok (.ifCond .ne 15, 3) := by decide +kernel
theorem d_Model_judge_16 : decode b_Model_judge 16 = .ok (.aload_n 0, 1) := by decide +kernel
theorem d_Model_judge_17 : decode b_Model_judge 17 = .ok (.iload_n 1, 1) := by decide +kernel
theorem d_Model_judge_18 : decode b_Model_judge 18 = .ok (.iload_n 2, 1) := by decide +kernel
theorem d_Model_judge_19 : decode b_Model_judge 19 = .ok (.iload_n 3, 1) := by decide +kernel
theorem d_Model_judge_20 : decode b_Model_judge 20 = .ok (.iload 4, 2) := by decide +kernel
theorem d_Model_judge_22 : decode b_Model_judge 22 = .ok (.invokevirtual 240, 3) := by decide +kernel
theorem d_Model_judge_25 : decode b_Model_judge 25 = .ok (.goto 5, 3) := by decide +kernel
theorem d_Model_judge_28 : decode b_Model_judge 28 = .ok (.iload 5, 2) := by decide +kernel
theorem d_Model_judge_30 : decode b_Model_judge 30 = .ok (.ireturn, 1) := by decide +kernel
abbrev b_Model_turned : ByteArray := prog_8_method_62_code
def y_Model_turned : MethodName := ⟨"RoundAndRoundModel", "turned", "(IIII)I"⟩
theorem d_Model_turned_0 : decode b_Model_turned 0 = .ok (.aload_n 0, 1) := by decide +kernel
theorem d_Model_turned_1 : decode b_Model_turned 1 = .ok (.iload_n 1, 1) := by decide +kernel
theorem d_Model_turned_2 : decode b_Model_turned 2 = .ok (.iload_n 2, 1) := by decide +kernel
theorem d_Model_turned_3 : decode b_Model_turned 3 = .ok (.iconst 0, 1) := by decide +kernel
theorem d_Model_turned_4 : decode b_Model_turned 4 = .ok (.iload_n 3, 1) := by decide +kernel
theorem d_Model_turned_5 : decode b_Model_turned 5 = .ok (.invokevirtual 237, 3) := by decide +kernel
theorem d_Model_turned_8 : decode b_Model_turned 8 = .ok (.istore 5, 2) := by decide +kernel
theorem d_Model_turned_10 : decode b_Model_turned 10 = .ok (.iload 5, 2) := by decide +kernel
theorem d_Model_turned_12 : decode b_Model_turned 12 = .ok (.ifCond .eq 6, 3) := by decide +kernel
theorem d_Model_turned_15 : decode b_Model_turned 15 = .ok (.iload 5, 2) := by decide +kernel
theorem d_Model_turned_17 : decode b_Model_turned 17 = .ok (.ireturn, 1) := by decide +kernel
theorem d_Model_turned_18 : decode b_Model_turned 18 = .ok (.iload 4, 2) := by decide +kernel
theorem d_Model_turned_20 : decode b_Model_turned 20 = .ok (.iconst 0, 1) := by decide +kernel
theorem d_Model_turned_21 : decode b_Model_turned 21 = .ok (.iconst 1, 1) := by decide +kernel
theorem d_Model_turned_22 : decode b_Model_turned 22 = .ok (.invokestatic 66, 3) := by decide +kernel
theorem d_Model_turned_25 : decode b_Model_turned 25 = .ok (.ifCond .ne 6, 3) := by decide +kernel
theorem d_Model_turned_28 : decode b_Model_turned 28 = .ok (.bipush (-7), 2) := by decide +kernel
theorem d_Model_turned_30 : decode b_Model_turned 30 = .ok (.ireturn, 1) := by decide +kernel
theorem d_Model_turned_31 : decode b_Model_turned 31 = .ok (.iconst 0, 1) := by decide +kernel
theorem d_Model_turned_32 : decode b_Model_turned 32 = .ok (.istore 6, 2) := by decide +kernel
theorem d_Model_turned_34 : decode b_Model_turned 34 = .ok (.bipush (-100), 2) := by decide +kernel
theorem d_Model_turned_36 : decode b_Model_turned 36 = .ok (.istore 7, 2) := by decide +kernel
theorem d_Model_turned_38 : decode b_Model_turned 38 = .ok (.iconst 0, 1) := by decide +kernel
theorem d_Model_turned_39 : decode b_Model_turned 39 = .ok (.istore 8, 2) := by decide +kernel
theorem d_Model_turned_41 : decode b_Model_turned 41 = .ok (.iload 8, 2) := by decide +kernel
theorem d_Model_turned_43 : decode b_Model_turned 43 = .ok (.bipush (80), 2) := by decide +kernel
theorem d_Model_turned_45 : decode b_Model_turned 45 = .ok (.if_icmp .gt 69, 3) := by decide +kernel
theorem d_Model_turned_48 : decode b_Model_turned 48 = .ok (.aload_n 0, 1) := by decide +kernel
theorem d_Model_turned_49 : decode b_Model_turned 49 = .ok (.iload_n 1, 1) := by decide +kernel
theorem d_Model_turned_50 : decode b_Model_turned 50 = .ok (.iload_n 2, 1) := by decide +kernel
theorem d_Model_turned_51 : decode b_Model_turned 51 = .ok (.iload 8, 2) := by decide +kernel
theorem d_Model_turned_53 : decode b_Model_turned 53 = .ok (.invokestatic 231, 3) := by decide +kernel
theorem d_Model_turned_56 : decode b_Model_turned 56 = .ok (.iload_n 3, 1) := by decide +kernel
theorem d_Model_turned_57 : decode b_Model_turned 57 = .ok (.invokevirtual 240, 3) := by decide +kernel
theorem d_Model_turned_60 : decode b_Model_turned 60 = .ok (.iconst (-1), 1) := by decide +kernel
theorem d_Model_turned_61 : decode b_Model_turned 61 = .ok (.if_icmp .ne 7, 3) := by decide +kernel
theorem d_Model_turned_64 : decode b_Model_turned 64 = .ok (.iconst 1, 1) := by decide +kernel
theorem d_Model_turned_65 : decode b_Model_turned 65 = .ok (.goto 4, 3) := by decide +kernel
theorem d_Model_turned_68 : decode b_Model_turned 68 = .ok (.iconst 0, 1) := by decide +kernel
theorem d_Model_turned_69 : decode b_Model_turned 69 = .ok (.istore 9, 2) := by decide +kernel
theorem d_Model_turned_71 : decode b_Model_turned 71 = .ok (.iload 9, 2) := by decide +kernel
theorem d_Model_turned_73 : decode b_Model_turned 73 = .ok (.ifCond .eq 16, 3) := by decide +kernel
theorem d_Model_turned_76 : decode b_Model_turned 76 = .ok (.iload 6, 2) := by decide +kernel
theorem d_Model_turned_78 : decode b_Model_turned 78 = .ok (.ifCond .ne 11, 3) := by decide +kernel
theorem d_Model_turned_81 : decode b_Model_turned 81 = .ok (.iload 8, 2) := by decide +kernel
theorem d_Model_turned_83 : decode b_Model_turned 83 = .ok (.invokestatic 231, 3) := by decide +kernel
theorem d_Model_turned_86 : decode b_Model_turned 86 = .ok (.goto 5, 3) := by decide +kernel
theorem d_Model_turned_89 : decode b_Model_turned 89 = .ok (.iload 7, 2) := by decide +kernel
theorem d_Model_turned_91 : decode b_Model_turned 91 = .ok (.istore 7, 2) := by decide +kernel
theorem d_Model_turned_93 : decode b_Model_turned 93 = .ok (.iload 6, 2) := by decide +kernel
theorem d_Model_turned_95 : decode b_Model_turned 95 = .ok (.iload 9, 2) := by decide +kernel
theorem d_Model_turned_97 : decode b_Model_turned 97 = .ok (.ifCond .eq 7, 3) := by decide +kernel
theorem d_Model_turned_100 : decode b_Model_turned 100 = .ok (.iconst 1, 1) := by decide +kernel
theorem d_Model_turned_101 : decode b_Model_turned 101 = .ok (.goto 4, 3) := by decide +kernel
theorem d_Model_turned_104 : decode b_Model_turned 104 = .ok (.iconst 0, 1) := by decide +kernel
theorem d_Model_turned_105 : decode b_Model_turned 105 = .ok (.iadd, 1) := by decide +kernel
theorem d_Model_turned_106 : decode b_Model_turned 106 = .ok (.istore 6, 2) := by decide +kernel
theorem d_Model_turned_108 : decode b_Model_turned 108 = .ok (.iinc 8 (1), 3) := by decide +kernel
theorem d_Model_turned_111 : decode b_Model_turned 111 = .ok (.goto (-70), 3) := by decide +kernel
theorem d_Model_turned_114 : decode b_Model_turned 114 = .ok (.iload 4, 2) := by decide +kernel
theorem d_Model_turned_116 : decode b_Model_turned 116 = .ok (.ifCond .ne 8, 3) := by decide +kernel
theorem d_Model_turned_119 : decode b_Model_turned 119 = .ok (.iload 6, 2) := by decide +kernel
theorem d_Model_turned_121 : decode b_Model_turned 121 = .ok (.goto 5, 3) := by decide +kernel
theorem d_Model_turned_124 : decode b_Model_turned 124 = .ok (.iload 7, 2) := by decide +kernel
theorem d_Model_turned_126 : decode b_Model_turned 126 = .ok (.ireturn, 1) := by decide +kernel
abbrev b_Model_kinds : ByteArray := prog_8_method_63_code
def y_Model_kinds : MethodName := ⟨"RoundAndRoundModel", "kinds", "(IIIII)I"⟩
theorem d_Model_kinds_0 : decode b_Model_kinds 0 = .ok (.aload_n 0, 1) := by decide +kernel
theorem d_Model_kinds_1 : decode b_Model_kinds 1 = .ok (.iload_n 1, 1) := by decide +kernel
theorem d_Model_kinds_2 : decode b_Model_kinds 2 = .ok (.iload_n 2, 1) := by decide +kernel
theorem d_Model_kinds_3 : decode b_Model_kinds 3 = .ok (.iload_n 3, 1) := by decide +kernel
theorem d_Model_kinds_4 : decode b_Model_kinds 4 = .ok (.iload 4, 2) := by decide +kernel
theorem d_Model_kinds_6 : decode b_Model_kinds 6 = .ok (.invokevirtual 237, 3) := by decide +kernel
theorem d_Model_kinds_9 : decode b_Model_kinds 9 = .ok (.istore 6, 2) := by decide +kernel
theorem d_Model_kinds_11 : decode b_Model_kinds 11 = .ok (.iload 6, 2) := by decide +kernel
theorem d_Model_kinds_13 : decode b_Model_kinds 13 = .ok (.ifCond .eq 6, 3) := by decide +kernel
theorem d_Model_kinds_16 : decode b_Model_kinds 16 = .ok (.iload 6, 2) := by decide +kernel
theorem d_Model_kinds_18 : decode b_Model_kinds 18 = .ok (.ireturn, 1) := by decide +kernel
theorem d_Model_kinds_19 : decode b_Model_kinds 19 = .ok (.iload 5, 2) := by decide +kernel
theorem d_Model_kinds_21 : decode b_Model_kinds 21 = .ok (.iconst 0, 1) := by decide +kernel
theorem d_Model_kinds_22 : decode b_Model_kinds 22 = .ok (.iconst 2, 1) := by decide +kernel
theorem d_Model_kinds_23 : decode b_Model_kinds 23 = .ok (.invokestatic 66, 3) := by decide +kernel
theorem d_Model_kinds_26 : decode b_Model_kinds 26 = .ok (.ifCond .ne 6, 3) := by decide +kernel
theorem d_Model_kinds_29 : decode b_Model_kinds 29 = .ok (.bipush (-7), 2) := by decide +kernel
theorem d_Model_kinds_31 : decode b_Model_kinds 31 = .ok (.ireturn, 1) := by decide +kernel
theorem d_Model_kinds_32 : decode b_Model_kinds 32 = .ok (.aload_n 0, 1) := by decide +kernel
theorem d_Model_kinds_33 : decode b_Model_kinds 33 = .ok (.getfield 7, 3) := by decide +kernel
theorem d_Model_kinds_36 : decode b_Model_kinds 36 = .ok (.iload_n 2, 1) := by decide +kernel
theorem d_Model_kinds_37 : decode b_Model_kinds 37 = .ok (.iaload, 1) := by decide +kernel
theorem d_Model_kinds_38 : decode b_Model_kinds 38 = .ok (.istore 7, 2) := by decide +kernel
theorem d_Model_kinds_40 : decode b_Model_kinds 40 = .ok (.aload_n 0, 1) := by decide +kernel
theorem d_Model_kinds_41 : decode b_Model_kinds 41 = .ok (.getfield 13, 3) := by decide +kernel
theorem d_Model_kinds_44 : decode b_Model_kinds 44 = .ok (.iload_n 2, 1) := by decide +kernel
theorem d_Model_kinds_45 : decode b_Model_kinds 45 = .ok (.iaload, 1) := by decide +kernel
theorem d_Model_kinds_46 : decode b_Model_kinds 46 = .ok (.istore 8, 2) := by decide +kernel
theorem d_Model_kinds_48 : decode b_Model_kinds 48 = .ok (.aload_n 0, 1) := by decide +kernel
theorem d_Model_kinds_49 : decode b_Model_kinds 49 = .ok (.getfield 16, 3) := by decide +kernel
theorem d_Model_kinds_52 : decode b_Model_kinds 52 = .ok (.bipush (6), 2) := by decide +kernel
theorem d_Model_kinds_54 : decode b_Model_kinds 54 = .ok (.iload_n 2, 1) := by decide +kernel
theorem d_Model_kinds_55 : decode b_Model_kinds 55 = .ok (.imul, 1) := by decide +kernel
theorem d_Model_kinds_56 : decode b_Model_kinds 56 = .ok (.iconst 1, 1) := by decide +kernel
theorem d_Model_kinds_57 : decode b_Model_kinds 57 = .ok (.iadd, 1) := by decide +kernel
theorem d_Model_kinds_58 : decode b_Model_kinds 58 = .ok (.iaload, 1) := by decide +kernel
theorem d_Model_kinds_59 : decode b_Model_kinds 59 = .ok (.istore 9, 2) := by decide +kernel
theorem d_Model_kinds_61 : decode b_Model_kinds 61 = .ok (.iconst 0, 1) := by decide +kernel
theorem d_Model_kinds_62 : decode b_Model_kinds 62 = .ok (.istore 10, 2) := by decide +kernel
theorem d_Model_kinds_64 : decode b_Model_kinds 64 = .ok (.iconst 0, 1) := by decide +kernel
theorem d_Model_kinds_65 : decode b_Model_kinds 65 = .ok (.istore 11, 2) := by decide +kernel
theorem d_Model_kinds_67 : decode b_Model_kinds 67 = .ok (.iload 11, 2) := by decide +kernel
theorem d_Model_kinds_69 : decode b_Model_kinds 69 = .ok (.iload 5, 2) := by decide +kernel
theorem d_Model_kinds_71 : decode b_Model_kinds 71 = .ok (.ifCond .ne 8, 3) := by decide +kernel
theorem d_Model_kinds_74 : decode b_Model_kinds 74 = .ok (.bipush (6), 2) := by decide +kernel
theorem d_Model_kinds_76 : decode b_Model_kinds 76 = .ok (.goto 5, 3) := by decide +kernel
theorem d_Model_kinds_79 : decode b_Model_kinds 79 = .ok (.bipush (10), 2) := by decide +kernel
theorem d_Model_kinds_81 : decode b_Model_kinds 81 = .ok (.if_icmp .ge 96, 3) := by decide +kernel
theorem d_Model_kinds_84 : decode b_Model_kinds 84 = .ok (.aload_n 0, 1) := by decide +kernel
theorem d_Model_kinds_85 : decode b_Model_kinds 85 = .ok (.getfield 7, 3) := by decide +kernel
theorem d_Model_kinds_88 : decode b_Model_kinds 88 = .ok (.iload_n 2, 1) := by decide +kernel
theorem d_Model_kinds_89 : decode b_Model_kinds 89 = .ok (.iload 5, 2) := by decide +kernel
theorem d_Model_kinds_91 : decode b_Model_kinds 91 = .ok (.ifCond .ne 8, 3) := by decide +kernel
theorem d_Model_kinds_94 : decode b_Model_kinds 94 = .ok (.iload 11, 2) := by decide +kernel
theorem d_Model_kinds_96 : decode b_Model_kinds 96 = .ok (.goto 5, 3) := by decide +kernel
theorem d_Model_kinds_99 : decode b_Model_kinds 99 = .ok (.iload 7, 2) := by decide +kernel
theorem d_Model_kinds_101 : decode b_Model_kinds 101 = .ok (.iastore, 1) := by decide +kernel
theorem d_Model_kinds_102 : decode b_Model_kinds 102 = .ok (.aload_n 0, 1) := by decide +kernel
theorem d_Model_kinds_103 : decode b_Model_kinds 103 = .ok (.getfield 13, 3) := by decide +kernel
theorem d_Model_kinds_106 : decode b_Model_kinds 106 = .ok (.iload_n 2, 1) := by decide +kernel
theorem d_Model_kinds_107 : decode b_Model_kinds 107 = .ok (.iload 5, 2) := by decide +kernel
theorem d_Model_kinds_109 : decode b_Model_kinds 109 = .ok (.iconst 1, 1) := by decide +kernel
theorem d_Model_kinds_110 : decode b_Model_kinds 110 = .ok (.if_icmp .ne 8, 3) := by decide +kernel
theorem d_Model_kinds_113 : decode b_Model_kinds 113 = .ok (.iload 11, 2) := by decide +kernel
theorem d_Model_kinds_115 : decode b_Model_kinds 115 = .ok (.goto 5, 3) := by decide +kernel
theorem d_Model_kinds_118 : decode b_Model_kinds 118 = .ok (.iload 8, 2) := by decide +kernel
theorem d_Model_kinds_120 : decode b_Model_kinds 120 = .ok (.iastore, 1) := by decide +kernel
theorem d_Model_kinds_121 : decode b_Model_kinds 121 = .ok (.aload_n 0, 1) := by decide +kernel
theorem d_Model_kinds_122 : decode b_Model_kinds 122 = .ok (.getfield 16, 3) := by decide +kernel
theorem d_Model_kinds_125 : decode b_Model_kinds 125 = .ok (.bipush (6), 2) := by decide +kernel
theorem d_Model_kinds_127 : decode b_Model_kinds 127 = .ok (.iload_n 2, 1) := by decide +kernel
theorem d_Model_kinds_128 : decode b_Model_kinds 128 = .ok (.imul, 1) := by decide +kernel
theorem d_Model_kinds_129 : decode b_Model_kinds 129 = .ok (.iconst 1, 1) := by decide +kernel
theorem d_Model_kinds_130 : decode b_Model_kinds 130 = .ok (.iadd, 1) := by decide +kernel
theorem d_Model_kinds_131 : decode b_Model_kinds 131 = .ok (.iload 5, 2) := by decide +kernel
theorem d_Model_kinds_133 : decode b_Model_kinds 133 = .ok (.iconst 2, 1) := by decide +kernel
theorem d_Model_kinds_134 : decode b_Model_kinds 134 = .ok (.if_icmp .ne 8, 3) := by decide +kernel
theorem d_Model_kinds_137 : decode b_Model_kinds 137 = .ok (.iload 11, 2) := by decide +kernel
theorem d_Model_kinds_139 : decode b_Model_kinds 139 = .ok (.goto 5, 3) := by decide +kernel
theorem d_Model_kinds_142 : decode b_Model_kinds 142 = .ok (.iload 9, 2) := by decide +kernel
theorem d_Model_kinds_144 : decode b_Model_kinds 144 = .ok (.iastore, 1) := by decide +kernel
theorem d_Model_kinds_145 : decode b_Model_kinds 145 = .ok (.iload 10, 2) := by decide +kernel
theorem d_Model_kinds_147 : decode b_Model_kinds 147 = .ok (.aload_n 0, 1) := by decide +kernel
theorem d_Model_kinds_148 : decode b_Model_kinds 148 = .ok (.iload_n 1, 1) := by decide +kernel
theorem d_Model_kinds_149 : decode b_Model_kinds 149 = .ok (.iload_n 2, 1) := by decide +kernel
theorem d_Model_kinds_150 : decode b_Model_kinds 150 = .ok (.iload_n 3, 1) := by decide +kernel
theorem d_Model_kinds_151 : decode b_Model_kinds 151 = .ok (.iload 4, 2) := by decide +kernel
theorem d_Model_kinds_153 : decode b_Model_kinds 153 = .ok (.invokevirtual 240, 3) := by decide +kernel
theorem d_Model_kinds_156 : decode b_Model_kinds 156 = .ok (.iconst (-1), 1) := by decide +kernel
theorem d_Model_kinds_157 : decode b_Model_kinds 157 = .ok (.if_icmp .ne 10, 3) := by decide +kernel
theorem d_Model_kinds_160 : decode b_Model_kinds 160 = .ok (.iconst 1, 1) := by decide +kernel
theorem d_Model_kinds_161 : decode b_Model_kinds 161 = .ok (.iload 11, 2) := by decide +kernel
theorem d_Model_kinds_163 : decode b_Model_kinds 163 = .ok (.ishl, 1) := by decide +kernel
theorem d_Model_kinds_164 : decode b_Model_kinds 164 = .ok (.goto 4, 3) := by decide +kernel
theorem d_Model_kinds_167 : decode b_Model_kinds 167 = .ok (.iconst 0, 1) := by decide +kernel
theorem d_Model_kinds_168 : decode b_Model_kinds 168 = .ok (.ior, 1) := by decide +kernel
theorem d_Model_kinds_169 : decode b_Model_kinds 169 = .ok (.istore 10, 2) := by decide +kernel
theorem d_Model_kinds_171 : decode b_Model_kinds 171 = .ok (.iinc 11 (1), 3) := by decide +kernel
theorem d_Model_kinds_174 : decode b_Model_kinds 174 = .ok (.goto (-107), 3) := by decide +kernel
theorem d_Model_kinds_177 : decode b_Model_kinds 177 = .ok (.aload_n 0, 1) := by decide +kernel
theorem d_Model_kinds_178 : decode b_Model_kinds 178 = .ok (.getfield 7, 3) := by decide +kernel
theorem d_Model_kinds_181 : decode b_Model_kinds 181 = .ok (.iload_n 2, 1) := by decide +kernel
theorem d_Model_kinds_182 : decode b_Model_kinds 182 = .ok (.iload 7, 2) := by decide +kernel
theorem d_Model_kinds_184 : decode b_Model_kinds 184 = .ok (.iastore, 1) := by decide +kernel
theorem d_Model_kinds_185 : decode b_Model_kinds 185 = .ok (.aload_n 0, 1) := by decide +kernel
theorem d_Model_kinds_186 : decode b_Model_kinds 186 = .ok (.getfield 13, 3) := by decide +kernel
theorem d_Model_kinds_189 : decode b_Model_kinds 189 = .ok (.iload_n 2, 1) := by decide +kernel
theorem d_Model_kinds_190 : decode b_Model_kinds 190 = .ok (.iload 8, 2) := by decide +kernel
theorem d_Model_kinds_192 : decode b_Model_kinds 192 = .ok (.iastore, 1) := by decide +kernel
theorem d_Model_kinds_193 : decode b_Model_kinds 193 = .ok (.aload_n 0, 1) := by decide +kernel
theorem d_Model_kinds_194 : decode b_Model_kinds 194 = .ok (.getfield 16, 3) := by decide +kernel
theorem d_Model_kinds_197 : decode b_Model_kinds 197 = .ok (.bipush (6), 2) := by decide +kernel
theorem d_Model_kinds_199 : decode b_Model_kinds 199 = .ok (.iload_n 2, 1) := by decide +kernel
theorem d_Model_kinds_200 : decode b_Model_kinds 200 = .ok (.imul, 1) := by decide +kernel
theorem d_Model_kinds_201 : decode b_Model_kinds 201 = .ok (.iconst 1, 1) := by decide +kernel
theorem d_Model_kinds_202 : decode b_Model_kinds 202 = .ok (.iadd, 1) := by decide +kernel
theorem d_Model_kinds_203 : decode b_Model_kinds 203 = .ok (.iload 9, 2) := by decide +kernel
theorem d_Model_kinds_205 : decode b_Model_kinds 205 = .ok (.iastore, 1) := by decide +kernel
theorem d_Model_kinds_206 : decode b_Model_kinds 206 = .ok (.iload 10, 2) := by decide +kernel
theorem d_Model_kinds_208 : decode b_Model_kinds 208 = .ok (.ireturn, 1) := by decide +kernel
abbrev b_Model_laws : ByteArray := prog_8_method_64_code
def y_Model_laws : MethodName := ⟨"RoundAndRoundModel", "laws", "(IIII)I"⟩
theorem d_Model_laws_0 : decode b_Model_laws 0 = .ok (.aload_n 0, 1) := by decide +kernel
theorem d_Model_laws_1 : decode b_Model_laws 1 = .ok (.iload_n 1, 1) := by decide +kernel
theorem d_Model_laws_2 : decode b_Model_laws 2 = .ok (.iload_n 2, 1) := by decide +kernel
theorem d_Model_laws_3 : decode b_Model_laws 3 = .ok (.iload_n 3, 1) := by decide +kernel
theorem d_Model_laws_4 : decode b_Model_laws 4 = .ok (.iload 4, 2) := by decide +kernel
theorem d_Model_laws_6 : decode b_Model_laws 6 = .ok (.invokevirtual 237, 3) := by decide +kernel
theorem d_Model_laws_9 : decode b_Model_laws 9 = .ok (.istore 5, 2) := by decide +kernel
theorem d_Model_laws_11 : decode b_Model_laws 11 = .ok (.iload 5, 2) := by decide +kernel
theorem d_Model_laws_13 : decode b_Model_laws 13 = .ok (.ifCond .eq 6, 3) := by decide +kernel
theorem d_Model_laws_16 : decode b_Model_laws 16 = .ok (.iload 5, 2) := by decide +kernel
theorem d_Model_laws_18 : decode b_Model_laws 18 = .ok (.ireturn, 1) := by decide +kernel
theorem d_Model_laws_19 : decode b_Model_laws 19 = .ok (.aload_n 0, 1) := by decide +kernel
theorem d_Model_laws_20 : decode b_Model_laws 20 = .ok (.getfield 73, 3) := by decide +kernel
theorem d_Model_laws_23 : decode b_Model_laws 23 = .ok (.istore 6, 2) := by decide +kernel
theorem d_Model_laws_25 : decode b_Model_laws 25 = .ok (.iconst 0, 1) := by decide +kernel
theorem d_Model_laws_26 : decode b_Model_laws 26 = .ok (.istore 7, 2) := by decide +kernel
theorem d_Model_laws_28 : decode b_Model_laws 28 = .ok (.iconst 0, 1) := by decide +kernel
theorem d_Model_laws_29 : decode b_Model_laws 29 = .ok (.istore 8, 2) := by decide +kernel
theorem d_Model_laws_31 : decode b_Model_laws 31 = .ok (.iload 8, 2) := by decide +kernel
theorem d_Model_laws_33 : decode b_Model_laws 33 = .ok (.aload_n 0, 1) := by decide +kernel
theorem d_Model_laws_34 : decode b_Model_laws 34 = .ok (.getfield 70, 3) := by decide +kernel
theorem d_Model_laws_37 : decode b_Model_laws 37 = .ok (.if_icmp .ge 41, 3) := by decide +kernel
theorem d_Model_laws_40 : decode b_Model_laws 40 = .ok (.aload_n 0, 1) := by decide +kernel
theorem d_Model_laws_41 : decode b_Model_laws 41 = .ok (.iload 8, 2) := by decide +kernel
theorem d_Model_laws_43 : decode b_Model_laws 43 = .ok (.putfield 73, 3) := by decide +kernel
theorem d_Model_laws_46 : decode b_Model_laws 46 = .ok (.iload 7, 2) := by decide +kernel
theorem d_Model_laws_48 : decode b_Model_laws 48 = .ok (.aload_n 0, 1) := by decide +kernel
theorem d_Model_laws_49 : decode b_Model_laws 49 = .ok (.iload_n 1, 1) := by decide +kernel
theorem d_Model_laws_50 : decode b_Model_laws 50 = .ok (.iload_n 2, 1) := by decide +kernel
theorem d_Model_laws_51 : decode b_Model_laws 51 = .ok (.iload_n 3, 1) := by decide +kernel
theorem d_Model_laws_52 : decode b_Model_laws 52 = .ok (.iload 4, 2) := by decide +kernel
theorem d_Model_laws_54 : decode b_Model_laws 54 = .ok (.invokevirtual 240, 3) := by decide +kernel
theorem d_Model_laws_57 : decode b_Model_laws 57 = .ok (.iconst (-1), 1) := by decide +kernel
theorem d_Model_laws_58 : decode b_Model_laws 58 = .ok (.if_icmp .ne 10, 3) := by decide +kernel
theorem d_Model_laws_61 : decode b_Model_laws 61 = .ok (.iconst 1, 1) := by decide +kernel
theorem d_Model_laws_62 : decode b_Model_laws 62 = .ok (.iload 8, 2) := by decide +kernel
theorem d_Model_laws_64 : decode b_Model_laws 64 = .ok (.ishl, 1) := by decide +kernel
theorem d_Model_laws_65 : decode b_Model_laws 65 = .ok (.goto 4, 3) := by decide +kernel
theorem d_Model_laws_68 : decode b_Model_laws 68 = .ok (.iconst 0, 1) := by decide +kernel
theorem d_Model_laws_69 : decode b_Model_laws 69 = .ok (.ior, 1) := by decide +kernel
theorem d_Model_laws_70 : decode b_Model_laws 70 = .ok (.istore 7, 2) := by decide +kernel
theorem d_Model_laws_72 : decode b_Model_laws 72 = .ok (.iinc 8 (1), 3) := by decide +kernel
theorem d_Model_laws_75 : decode b_Model_laws 75 = .ok (.goto (-44), 3) := by decide +kernel
theorem d_Model_laws_78 : decode b_Model_laws 78 = .ok (.aload_n 0, 1) := by decide +kernel
theorem d_Model_laws_79 : decode b_Model_laws 79 = .ok (.iload 6, 2) := by decide +kernel
theorem d_Model_laws_81 : decode b_Model_laws 81 = .ok (.putfield 73, 3) := by decide +kernel
theorem d_Model_laws_84 : decode b_Model_laws 84 = .ok (.iload 7, 2) := by decide +kernel
theorem d_Model_laws_86 : decode b_Model_laws 86 = .ok (.ireturn, 1) := by decide +kernel
abbrev b_Model_whose : ByteArray := prog_8_method_65_code
def y_Model_whose : MethodName := ⟨"RoundAndRoundModel", "whose", "(III)I"⟩
theorem d_Model_whose_0 : decode b_Model_whose 0 = .ok (.aload_n 0, 1) := by decide +kernel
theorem d_Model_whose_1 : decode b_Model_whose 1 = .ok (.iload_n 1, 1) := by decide +kernel
theorem d_Model_whose_2 : decode b_Model_whose 2 = .ok (.invokevirtual 234, 3) := by decide +kernel
theorem d_Model_whose_5 : decode b_Model_whose 5 = .ok (.istore 4, 2) := by decide +kernel
theorem d_Model_whose_7 : decode b_Model_whose 7 = .ok (.iload 4, 2) := by decide +kernel
theorem d_Model_whose_9 : decode b_Model_whose 9 = .ok (.ifCond .eq 6, 3) := by decide +kernel
theorem d_Model_whose_12 : decode b_Model_whose 12 = .ok (.iload 4, 2) := by decide +kernel
theorem d_Model_whose_14 : decode b_Model_whose 14 = .ok (.ireturn, 1) := by decide +kernel
theorem d_Model_whose_15 : decode b_Model_whose 15 = .ok (.iload_n 2, 1) := by decide +kernel
theorem d_Model_whose_16 : decode b_Model_whose 16 = .ok (.invokestatic 193, 3) := by decide +kernel
theorem d_Model_whose_19 : decode b_Model_whose 19 = .ok (.ifCond .eq 10, 3) := by decide +kernel
theorem d_Model_whose_22 : decode b_Model_whose 22 = .ok (.iload_n 3, 1) := by decide +kernel
theorem d_Model_whose_23 : decode b_Model_whose 23 = .ok (.invokestatic 215, 3) := by decide +kernel
theorem d_Model_whose_26 : decode b_Model_whose 26 = .ok (.ifCond .ne 6, 3) := by decide +kernel
theorem d_Model_whose_29 : decode b_Model_whose 29 = .ok (.bipush (-7), 2) := by decide +kernel
theorem d_Model_whose_31 : decode b_Model_whose 31 = .ok (.ireturn, 1) := by decide +kernel
theorem d_Model_whose_32 : decode b_Model_whose 32 = .ok (.iconst 0, 1) := by decide +kernel
theorem d_Model_whose_33 : decode b_Model_whose 33 = .ok (.istore 5, 2) := by decide +kernel
theorem d_Model_whose_35 : decode b_Model_whose 35 = .ok (.iconst 0, 1) := by decide +kernel
theorem d_Model_whose_36 : decode b_Model_whose 36 = .ok (.istore 6, 2) := by decide +kernel
theorem d_Model_whose_38 : decode b_Model_whose 38 = .ok (.iload 6, 2) := by decide +kernel
theorem d_Model_whose_40 : decode b_Model_whose 40 = .ok (.aload_n 0, 1) := by decide +kernel
theorem d_Model_whose_41 : decode b_Model_whose 41 = .ok (.getfield 63, 3) := by decide +kernel
theorem d_Model_whose_44 : decode b_Model_whose 44 = .ok (.if_icmp .ge 35, 3) := by decide +kernel
theorem d_Model_whose_47 : decode b_Model_whose 47 = .ok (.iload 5, 2) := by decide +kernel
theorem d_Model_whose_49 : decode b_Model_whose 49 = .ok (.aload_n 0, 1) := by decide +kernel
theorem d_Model_whose_50 : decode b_Model_whose 50 = .ok (.iload_n 1, 1) := by decide +kernel
theorem d_Model_whose_51 : decode b_Model_whose 51 = .ok (.iload 6, 2) := by decide +kernel
theorem d_Model_whose_53 : decode b_Model_whose 53 = .ok (.iload_n 2, 1) := by decide +kernel
theorem d_Model_whose_54 : decode b_Model_whose 54 = .ok (.iload_n 3, 1) := by decide +kernel
theorem d_Model_whose_55 : decode b_Model_whose 55 = .ok (.invokevirtual 240, 3) := by decide +kernel
theorem d_Model_whose_58 : decode b_Model_whose 58 = .ok (.iconst (-1), 1) := by decide +kernel
theorem d_Model_whose_59 : decode b_Model_whose 59 = .ok (.if_icmp .ne 10, 3) := by decide +kernel
theorem d_Model_whose_62 : decode b_Model_whose 62 = .ok (.iconst 1, 1) := by decide +kernel
theorem d_Model_whose_63 : decode b_Model_whose 63 = .ok (.iload 6, 2) := by decide +kernel
theorem d_Model_whose_65 : decode b_Model_whose 65 = .ok (.ishl, 1) := by decide +kernel
theorem d_Model_whose_66 : decode b_Model_whose 66 = .ok (.goto 4, 3) := by decide +kernel
theorem d_Model_whose_69 : decode b_Model_whose 69 = .ok (.iconst 0, 1) := by decide +kernel
theorem d_Model_whose_70 : decode b_Model_whose 70 = .ok (.ior, 1) := by decide +kernel
theorem d_Model_whose_71 : decode b_Model_whose 71 = .ok (.istore 5, 2) := by decide +kernel
theorem d_Model_whose_73 : decode b_Model_whose 73 = .ok (.iinc 6 (1), 3) := by decide +kernel
theorem d_Model_whose_76 : decode b_Model_whose 76 = .ok (.goto (-38), 3) := by decide +kernel
theorem d_Model_whose_79 : decode b_Model_whose 79 = .ok (.iload 5, 2) := by decide +kernel
theorem d_Model_whose_81 : decode b_Model_whose 81 = .ok (.ireturn, 1) := by decide +kernel
abbrev b_Model_film : ByteArray := prog_8_method_66_code
def y_Model_film : MethodName := ⟨"RoundAndRoundModel", "film", "(IIIII)I"⟩
theorem d_Model_film_0 : decode b_Model_film 0 = .ok (.iload_n 1, 1) := by decide +kernel
theorem d_Model_film_1 : decode b_Model_film 1 = .ok (.iconst 0, 1) := by decide +kernel
theorem d_Model_film_2 : decode b_Model_film 2 = .ok (.iconst 3, 1) := by decide +kernel
theorem d_Model_film_3 : decode b_Model_film 3 = .ok (.invokestatic 66, 3) := by decide +kernel
theorem d_Model_film_6 : decode b_Model_film 6 = .ok (.ifCond .ne 6, 3) := by decide +kernel
theorem d_Model_film_9 : decode b_Model_film 9 = .ok (.bipush (-2), 2) := by decide +kernel
theorem d_Model_film_11 : decode b_Model_film 11 = .ok (.ireturn, 1) := by decide +kernel
theorem d_Model_film_12 : decode b_Model_film 12 = .ok (.aload_n 0, 1) := by decide +kernel
theorem d_Model_film_13 : decode b_Model_film 13 = .ok (.iload_n 2, 1) := by decide +kernel
theorem d_Model_film_14 : decode b_Model_film 14 = .ok (.invokevirtual 149, 3) := by decide +kernel
theorem d_Model_film_17 : decode b_Model_film 17 = .ok (.ifCond .ne 6, 3) := by decide +kernel
theorem d_Model_film_20 : decode b_Model_film 20 = .ok (.bipush (-5), 2) := by decide +kernel
theorem d_Model_film_22 : decode b_Model_film 22 = .ok (.ireturn, 1) := by decide +kernel
theorem d_Model_film_23 : decode b_Model_film 23 = .ok (.iload_n 3, 1) := by decide +kernel
theorem d_Model_film_24 : decode b_Model_film 24 = .ok (.invokestatic 193, 3) := by decide +kernel
theorem d_Model_film_27 : decode b_Model_film 27 = .ok (.ifCond .eq 22, 3) := by decide +kernel
theorem d_Model_film_30 : decode b_Model_film 30 = .ok (.iload 4, 2) := by decide +kernel
theorem d_Model_film_32 : decode b_Model_film 32 = .ok (.invokestatic 215, 3) := by decide +kernel
theorem d_Model_film_35 : decode b_Model_film 35 = .ok (.ifCond .eq 14, 3) := by decide +kernel
theorem d_Model_film_38 : decode b_Model_film 38 = .ok (.iload 5, 2) := by decide +kernel
theorem d_Model_film_40 : decode b_Model_film 40 = .ok (.iconst 0, 1) := by decide +kernel
theorem d_Model_film_41 : decode b_Model_film 41 = .ok (.bipush (40), 2) := by decide +kernel
theorem d_Model_film_43 : decode b_Model_film 43 = .ok (.invokestatic 66, 3) := by decide +kernel
theorem d_Model_film_46 : decode b_Model_film 46 = .ok (.ifCond .ne 6, 3) := by decide +kernel
theorem d_Model_film_49 : decode b_Model_film 49 = .ok (.bipush (-7), 2) := by decide +kernel
theorem d_Model_film_51 : decode b_Model_film 51 = .ok (.ireturn, 1) := by decide +kernel
theorem d_Model_film_52 : decode b_Model_film 52 = .ok (.aload_n 0, 1) := by decide +kernel
theorem d_Model_film_53 : decode b_Model_film 53 = .ok (.getfield 31, 3) := by decide +kernel
theorem d_Model_film_56 : decode b_Model_film 56 = .ok (.iload_n 1, 1) := by decide +kernel
theorem d_Model_film_57 : decode b_Model_film 57 = .ok (.iconst 2, 1) := by decide +kernel
theorem d_Model_film_58 : decode b_Model_film 58 = .ok (.iastore, 1) := by decide +kernel
theorem d_Model_film_59 : decode b_Model_film 59 = .ok (.aload_n 0, 1) := by decide +kernel
theorem d_Model_film_60 : decode b_Model_film 60 = .ok (.getfield 34, 3) := by decide +kernel
theorem d_Model_film_63 : decode b_Model_film 63 = .ok (.iload_n 1, 1) := by decide +kernel
theorem d_Model_film_64 : decode b_Model_film 64 = .ok (.iload 5, 2) := by decide +kernel
theorem d_Model_film_66 : decode b_Model_film 66 = .ok (.iastore, 1) := by decide +kernel
theorem d_Model_film_67 : decode b_Model_film 67 = .ok (.aload_n 0, 1) := by decide +kernel
theorem d_Model_film_68 : decode b_Model_film 68 = .ok (.iload_n 2, 1) := by decide +kernel
theorem d_Model_film_69 : decode b_Model_film 69 = .ok (.iload_n 3, 1) := by decide +kernel
theorem d_Model_film_70 : decode b_Model_film 70 = .ok (.iload 4, 2) := by decide +kernel
theorem d_Model_film_72 : decode b_Model_film 72 = .ok (.bipush (10), 2) := by decide +kernel
theorem d_Model_film_74 : decode b_Model_film 74 = .ok (.idiv, 1) := by decide +kernel
theorem d_Model_film_75 : decode b_Model_film 75 = .ok (.iconst 0, 1) := by decide +kernel
theorem d_Model_film_76 : decode b_Model_film 76 = .ok (.iload 4, 2) := by decide +kernel
theorem d_Model_film_78 : decode b_Model_film 78 = .ok (.bipush (10), 2) := by decide +kernel
theorem d_Model_film_80 : decode b_Model_film 80 = .ok (.irem, 1) := by decide +kernel
theorem d_Model_film_81 : decode b_Model_film 81 = .ok (.iconst 0, 1) := by decide +kernel
theorem d_Model_film_82 : decode b_Model_film 82 = .ok (.invokevirtual 218, 3) := by decide +kernel
theorem d_Model_film_85 : decode b_Model_film 85 = .ok (.iconst 0, 1) := by decide +kernel
theorem d_Model_film_86 : decode b_Model_film 86 = .ok (.istore 6, 2) := by decide +kernel
theorem d_Model_film_88 : decode b_Model_film 88 = .ok (.iload 6, 2) := by decide +kernel
theorem d_Model_film_90 : decode b_Model_film 90 = .ok (.bipush (40), 2) := by decide +kernel
theorem d_Model_film_92 : decode b_Model_film 92 = .ok (.if_icmp .ge 49, 3) := by decide +kernel
theorem d_Model_film_95 : decode b_Model_film 95 = .ok (.aload_n 0, 1) := by decide +kernel
theorem d_Model_film_96 : decode b_Model_film 96 = .ok (.iload_n 2, 1) := by decide +kernel
theorem d_Model_film_97 : decode b_Model_film 97 = .ok (.iload 4, 2) := by decide +kernel
theorem d_Model_film_99 : decode b_Model_film 99 = .ok (.bipush (10), 2) := by decide +kernel
theorem d_Model_film_101 : decode b_Model_film 101 = .ok (.irem, 1) := by decide +kernel
theorem d_Model_film_102 : decode b_Model_film 102 = .ok (.iconst 1, 1) := by decide +kernel
theorem d_Model_film_103 : decode b_Model_film 103 = .ok (.iload 6, 2) := by decide +kernel
theorem d_Model_film_105 : decode b_Model_film 105 = .ok (.invokevirtual 189, 3) := by decide +kernel
theorem d_Model_film_108 : decode b_Model_film 108 = .ok (.aload_n 0, 1) := by decide +kernel
theorem d_Model_film_109 : decode b_Model_film 109 = .ok (.getfield 37, 3) := by decide +kernel
theorem d_Model_film_112 : decode b_Model_film 112 = .ok (.bipush (40), 2) := by decide +kernel
theorem d_Model_film_114 : decode b_Model_film 114 = .ok (.iload_n 1, 1) := by decide +kernel
theorem d_Model_film_115 : decode b_Model_film 115 = .ok (.imul, 1) := by decide +kernel
theorem d_Model_film_116 : decode b_Model_film 116 = .ok (.iload 6, 2) := by decide +kernel
theorem d_Model_film_118 : decode b_Model_film 118 = .ok (.iadd, 1) := by decide +kernel
theorem d_Model_film_119 : decode b_Model_film 119 = .ok (.iload 6, 2) := by decide +kernel
theorem d_Model_film_121 : decode b_Model_film 121 = .ok (.iload 5, 2) := by decide +kernel
theorem d_Model_film_123 : decode b_Model_film 123 = .ok (.if_icmp .ge 10, 3) := by decide +kernel
theorem d_Model_film_126 : decode b_Model_film 126 = .ok (.aload_n 0, 1) := by decide +kernel
theorem d_Model_film_127 : decode b_Model_film 127 = .ok (.getfield 186, 3) := by decide +kernel
theorem d_Model_film_130 : decode b_Model_film 130 = .ok (.goto 4, 3) := by decide +kernel
theorem d_Model_film_133 : decode b_Model_film 133 = .ok (.iconst 0, 1) := by decide +kernel
theorem d_Model_film_134 : decode b_Model_film 134 = .ok (.iastore, 1) := by decide +kernel
theorem d_Model_film_135 : decode b_Model_film 135 = .ok (.iinc 6 (1), 3) := by decide +kernel
theorem d_Model_film_138 : decode b_Model_film 138 = .ok (.goto (-50), 3) := by decide +kernel
theorem d_Model_film_141 : decode b_Model_film 141 = .ok (.iload 5, 2) := by decide +kernel
theorem d_Model_film_143 : decode b_Model_film 143 = .ok (.ireturn, 1) := by decide +kernel
abbrev b_Model_areOdds : ByteArray := prog_8_method_67_code
def y_Model_areOdds : MethodName := ⟨"RoundAndRoundModel", "areOdds", "(I)Z"⟩
theorem d_Model_areOdds_0 : decode b_Model_areOdds 0 = .ok (.iload_n 0, 1) := by decide +kernel
theorem d_Model_areOdds_1 : decode b_Model_areOdds 1 = .ok (.iconst 1, 1) := by decide +kernel
theorem d_Model_areOdds_2 : decode b_Model_areOdds 2 = .ok (.sipush (1009), 3) := by decide +kernel
theorem d_Model_areOdds_5 : decode b_Model_areOdds 5 = .ok (.invokestatic 66, 3) := by decide +kernel
theorem d_Model_areOdds_8 : decode b_Model_areOdds 8 = .ok (.ifCond .eq 14, 3) := by decide +kernel
theorem d_Model_areOdds_11 : decode b_Model_areOdds 11 = .ok (.iload_n 0, 1) := by decide +kernel
theorem d_Model_areOdds_12 : decode b_Model_areOdds 12 = .ok (.bipush (10), 2) := by decide +kernel
theorem d_Model_areOdds_14 : decode b_Model_areOdds 14 = .ok (.irem, 1) := by decide +kernel
theorem d_Model_areOdds_15 : decode b_Model_areOdds 15 = .ok (.ifCond .le 7, 3) := by decide +kernel
theorem d_Model_areOdds_18 : decode b_Model_areOdds 18 = .ok (.iconst 1, 1) := by decide +kernel
theorem d_Model_areOdds_19 : decode b_Model_areOdds 19 = .ok (.goto 4, 3) := by decide +kernel
theorem d_Model_areOdds_22 : decode b_Model_areOdds 22 = .ok (.iconst 0, 1) := by decide +kernel
theorem d_Model_areOdds_23 : decode b_Model_areOdds 23 = .ok (.ireturn, 1) := by decide +kernel
abbrev b_Model_walkBy : ByteArray := prog_8_method_68_code
def y_Model_walkBy : MethodName := ⟨"RoundAndRoundModel", "walkBy", "(IIII)V"⟩
theorem d_Model_walkBy_0 : decode b_Model_walkBy 0 = .ok (.iload_n 1, 1) := by decide +kernel
theorem d_Model_walkBy_1 : decode b_Model_walkBy 1 = .ok (.i2l, 1) := by decide +kernel
theorem d_Model_walkBy_2 : decode b_Model_walkBy 2 = .ok (.lconst 1, 1) := by decide +kernel
theorem d_Model_walkBy_3 : decode b_Model_walkBy 3 = .ok (.ladd, 1) := by decide +kernel
theorem d_Model_walkBy_4 : decode b_Model_walkBy 4 = .ok (.lstore 5, 2) := by decide +kernel
theorem d_Model_walkBy_6 : decode b_Model_walkBy 6 = .ok (.aload_n 0, 1) := by decide +kernel
theorem d_Model_walkBy_7 : decode b_Model_walkBy 7 = .ok (.iload_n 2, 1) := by decide +kernel
theorem d_Model_walkBy_8 : decode b_Model_walkBy 8 = .ok (.invokevirtual 212, 3) := by decide +kernel
theorem d_Model_walkBy_11 : decode b_Model_walkBy 11 = .ok (.iconst 0, 1) := by decide +kernel
theorem d_Model_walkBy_12 : decode b_Model_walkBy 12 = .ok (.istore 7, 2) := by decide +kernel
theorem d_Model_walkBy_14 : decode b_Model_walkBy 14 = .ok (.iload 7, 2) := by decide +kernel
theorem d_Model_walkBy_16 : decode b_Model_walkBy 16 = .ok (.iload_n 3, 1) := by decide +kernel
theorem d_Model_walkBy_17 : decode b_Model_walkBy 17 = .ok (.if_icmp .ge 54, 3) := by decide +kernel
theorem d_Model_walkBy_20 : decode b_Model_walkBy 20 = .ok (.lload 5, 2) := by decide +kernel
theorem d_Model_walkBy_22 : decode b_Model_walkBy 22 = .ok (.ldc2_w 243, 3) := by decide +kernel
theorem d_Model_walkBy_25 : decode b_Model_walkBy 25 = .ok (.lmul, 1) := by decide +kernel
theorem d_Model_walkBy_26 : decode b_Model_walkBy 26 = .ok (.ldc2_w 245, 3) := by decide +kernel
theorem d_Model_walkBy_29 : decode b_Model_walkBy 29 = .ok (.lrem, 1) := by decide +kernel
theorem d_Model_walkBy_30 : decode b_Model_walkBy 30 = .ok (.lstore 5, 2) := by decide +kernel
theorem d_Model_walkBy_32 : decode b_Model_walkBy 32 = .ok (.aload_n 0, 1) := by decide +kernel
theorem d_Model_walkBy_33 : decode b_Model_walkBy 33 = .ok (.iload_n 2, 1) := by decide +kernel
theorem d_Model_walkBy_34 : decode b_Model_walkBy 34 = .ok (.iload 4, 2) := by decide +kernel
theorem d_Model_walkBy_36 : decode b_Model_walkBy 36 = .ok (.bipush (10), 2) := by decide +kernel
theorem d_Model_walkBy_38 : decode b_Model_walkBy 38 = .ok (.irem, 1) := by decide +kernel
theorem d_Model_walkBy_39 : decode b_Model_walkBy 39 = .ok (.lload 5, 2) := by decide +kernel
theorem d_Model_walkBy_41 : decode b_Model_walkBy 41 = .ok (.ldc2_w 247, 3) := by decide +kernel
theorem d_Model_walkBy_44 : decode b_Model_walkBy 44 = .ok (.lrem, 1) := by decide +kernel
theorem d_Model_walkBy_45 : decode b_Model_walkBy 45 = .ok (.iload 4, 2) := by decide +kernel
theorem d_Model_walkBy_47 : decode b_Model_walkBy 47 = .ok (.bipush (10), 2) := by decide +kernel
theorem d_Model_walkBy_49 : decode b_Model_walkBy 49 = .ok (.idiv, 1) := by decide +kernel
theorem d_Model_walkBy_50 : decode b_Model_walkBy 50 = .ok (.i2l, 1) := by decide +kernel
theorem d_Model_walkBy_51 : decode b_Model_walkBy 51 = .ok (.lcmp, 1) := by decide +kernel
theorem d_Model_walkBy_52 : decode b_Model_walkBy 52 = .ok (.ifCond .ge 7, 3) := by decide +kernel
theorem d_Model_walkBy_55 : decode b_Model_walkBy 55 = .ok (.iconst 0, 1) := by decide +kernel
theorem d_Model_walkBy_56 : decode b_Model_walkBy 56 = .ok (.goto 4, 3) := by decide +kernel
theorem d_Model_walkBy_59 : decode b_Model_walkBy 59 = .ok (.iconst 1, 1) := by decide +kernel
theorem d_Model_walkBy_60 : decode b_Model_walkBy 60 = .ok (.iload 7, 2) := by decide +kernel
theorem d_Model_walkBy_62 : decode b_Model_walkBy 62 = .ok (.invokevirtual 189, 3) := by decide +kernel
theorem d_Model_walkBy_65 : decode b_Model_walkBy 65 = .ok (.iinc 7 (1), 3) := by decide +kernel
theorem d_Model_walkBy_68 : decode b_Model_walkBy 68 = .ok (.goto (-54), 3) := by decide +kernel
theorem d_Model_walkBy_71 : decode b_Model_walkBy 71 = .ok (.return_, 1) := by decide +kernel
abbrev b_Model_drawn : ByteArray := prog_8_method_69_code
def y_Model_drawn : MethodName := ⟨"RoundAndRoundModel", "drawn", "(IIIII)I"⟩
theorem d_Model_drawn_0 : decode b_Model_drawn 0 = .ok (.aload_n 0, 1) := by decide +kernel
theorem d_Model_drawn_1 : decode b_Model_drawn 1 = .ok (.iload_n 2, 1) := by decide +kernel
theorem d_Model_drawn_2 : decode b_Model_drawn 2 = .ok (.invokevirtual 149, 3) := by decide +kernel
theorem d_Model_drawn_5 : decode b_Model_drawn 5 = .ok (.ifCond .ne 6, 3) := by decide +kernel
theorem d_Model_drawn_8 : decode b_Model_drawn 8 = .ok (.ldc 156, 2) := by decide +kernel
theorem d_Model_drawn_10 : decode b_Model_drawn 10 = .ok (.ireturn, 1) := by decide +kernel
theorem d_Model_drawn_11 : decode b_Model_drawn 11 = .ok (.iload_n 1, 1) := by decide +kernel
theorem d_Model_drawn_12 : decode b_Model_drawn 12 = .ok (.iconst 0, 1) := by decide +kernel
theorem d_Model_drawn_13 : decode b_Model_drawn 13 = .ok (.ldc 185, 2) := by decide +kernel
theorem d_Model_drawn_15 : decode b_Model_drawn 15 = .ok (.invokestatic 66, 3) := by decide +kernel
theorem d_Model_drawn_18 : decode b_Model_drawn 18 = .ok (.ifCond .eq 31, 3) := by decide +kernel
theorem d_Model_drawn_21 : decode b_Model_drawn 21 = .ok (.iload_n 3, 1) := by decide +kernel
theorem d_Model_drawn_22 : decode b_Model_drawn 22 = .ok (.iconst 0, 1) := by decide +kernel
theorem d_Model_drawn_23 : decode b_Model_drawn 23 = .ok (.bipush (60), 2) := by decide +kernel
theorem d_Model_drawn_25 : decode b_Model_drawn 25 = .ok (.invokestatic 66, 3) := by decide +kernel
theorem d_Model_drawn_28 : decode b_Model_drawn 28 = .ok (.ifCond .eq 21, 3) := by decide +kernel
theorem d_Model_drawn_31 : decode b_Model_drawn 31 = .ok (.iload 4, 2) := by decide +kernel
theorem d_Model_drawn_33 : decode b_Model_drawn 33 = .ok (.invokestatic 249, 3) := by decide +kernel
theorem d_Model_drawn_36 : decode b_Model_drawn 36 = .ok (.ifCond .eq 13, 3) := by decide +kernel
theorem d_Model_drawn_39 : decode b_Model_drawn 39 = .ok (.iload 5, 2) := by decide +kernel
theorem d_Model_drawn_41 : decode b_Model_drawn 41 = .ok (.iconst 0, 1) := by decide +kernel
theorem d_Model_drawn_42 : decode b_Model_drawn 42 = .ok (.iconst 2, 1) := by decide +kernel
theorem d_Model_drawn_43 : decode b_Model_drawn 43 = .ok (.invokestatic 66, 3) := by decide +kernel
theorem d_Model_drawn_46 : decode b_Model_drawn 46 = .ok (.ifCond .ne 6, 3) := by decide +kernel
theorem d_Model_drawn_49 : decode b_Model_drawn 49 = .ok (.ldc 157, 2) := by decide +kernel
theorem d_Model_drawn_51 : decode b_Model_drawn 51 = .ok (.ireturn, 1) := by decide +kernel
theorem d_Model_drawn_52 : decode b_Model_drawn 52 = .ok (.aload_n 0, 1) := by decide +kernel
theorem d_Model_drawn_53 : decode b_Model_drawn 53 = .ok (.iload_n 1, 1) := by decide +kernel
theorem d_Model_drawn_54 : decode b_Model_drawn 54 = .ok (.iload_n 2, 1) := by decide +kernel
theorem d_Model_drawn_55 : decode b_Model_drawn 55 = .ok (.iload_n 3, 1) := by decide +kernel
theorem d_Model_drawn_56 : decode b_Model_drawn 56 = .ok (.iload 4, 2) := by decide +kernel
theorem d_Model_drawn_58 : decode b_Model_drawn 58 = .ok (.invokevirtual 252, 3) := by decide +kernel
theorem d_Model_drawn_61 : decode b_Model_drawn 61 = .ok (.iload 5, 2) := by decide +kernel
theorem d_Model_drawn_63 : decode b_Model_drawn 63 = .ok (.ifCond .ne 10, 3) := by decide +kernel
theorem d_Model_drawn_66 : decode b_Model_drawn 66 = .ok (.aload_n 0, 1) := by decide +kernel
theorem d_Model_drawn_67 : decode b_Model_drawn 67 = .ok (.getfield 186, 3) := by decide +kernel
theorem d_Model_drawn_70 : decode b_Model_drawn 70 = .ok (.goto 28, 3) := by decide +kernel
theorem d_Model_drawn_73 : decode b_Model_drawn 73 = .ok (.iload 5, 2) := by decide +kernel
theorem d_Model_drawn_75 : decode b_Model_drawn 75 = .ok (.iconst 1, 1) := by decide +kernel
theorem d_Model_drawn_76 : decode b_Model_drawn 76 = .ok (.if_icmp .ne 10, 3) := by decide +kernel
theorem d_Model_drawn_79 : decode b_Model_drawn 79 = .ok (.aload_n 0, 1) := by decide +kernel
theorem d_Model_drawn_80 : decode b_Model_drawn 80 = .ok (.getfield 181, 3) := by decide +kernel
theorem d_Model_drawn_83 : decode b_Model_drawn 83 = .ok (.goto 15, 3) := by decide +kernel
theorem d_Model_drawn_86 : decode b_Model_drawn 86 = .ok (.aload_n 0, 1) := by decide +kernel
theorem d_Model_drawn_87 : decode b_Model_drawn 87 = .ok (.getfield 174, 3) := by decide +kernel
theorem d_Model_drawn_90 : decode b_Model_drawn 90 = .ok (.ifCond .eq 7, 3) := by decide +kernel
theorem d_Model_drawn_93 : decode b_Model_drawn 93 = .ok (.iconst 1, 1) := by decide +kernel
theorem d_Model_drawn_94 : decode b_Model_drawn 94 = .ok (.goto 4, 3) := by decide +kernel
theorem d_Model_drawn_97 : decode b_Model_drawn 97 = .ok (.iconst 0, 1) := by decide +kernel
theorem d_Model_drawn_98 : decode b_Model_drawn 98 = .ok (.ireturn, 1) := by decide +kernel
abbrev b_Model_lowest : ByteArray := prog_8_method_70_code
def y_Model_lowest : MethodName := ⟨"RoundAndRoundModel", "lowest", "(JJI)J"⟩
theorem d_Model_lowest_0 : decode b_Model_lowest 0 = .ok (.lload_n 0, 1) := by decide +kernel
theorem d_Model_lowest_1 : decode b_Model_lowest 1 = .ok (.lconst 0, 1) := by decide +kernel
theorem d_Model_lowest_2 : decode b_Model_lowest 2 = .ok (.lcmp, 1) := by decide +kernel
theorem d_Model_lowest_3 : decode b_Model_lowest 3 = .ok (.ifCond .ne 7, 3) := by decide +kernel
theorem d_Model_lowest_6 : decode b_Model_lowest 6 = .ok (.iload 4, 2) := by decide +kernel
theorem d_Model_lowest_8 : decode b_Model_lowest 8 = .ok (.i2l, 1) := by decide +kernel
theorem d_Model_lowest_9 : decode b_Model_lowest 9 = .ok (.lreturn, 1) := by decide +kernel
theorem d_Model_lowest_10 : decode b_Model_lowest 10 = .ok (.lload_n 0, 1) := by decide +kernel
theorem d_Model_lowest_11 : decode b_Model_lowest 11 = .ok (.lstore 5, 2) := by decide +kernel
theorem d_Model_lowest_13 : decode b_Model_lowest 13 = .ok (.lload_n 2, 1) := by decide +kernel
theorem d_Model_lowest_14 : decode b_Model_lowest 14 = .ok (.lstore 7, 2) := by decide +kernel
theorem d_Model_lowest_16 : decode b_Model_lowest 16 = .ok (.lload 7, 2) := by decide +kernel
theorem d_Model_lowest_18 : decode b_Model_lowest 18 = .ok (.lconst 0, 1) := by decide +kernel
theorem d_Model_lowest_19 : decode b_Model_lowest 19 = .ok (.lcmp, 1) := by decide +kernel
theorem d_Model_lowest_20 : decode b_Model_lowest 20 = .ok (.ifCond .eq 21, 3) := by decide +kernel
theorem d_Model_lowest_23 : decode b_Model_lowest 23 = .ok (.lload 5, 2) := by decide +kernel
theorem d_Model_lowest_25 : decode b_Model_lowest 25 = .ok (.lload 7, 2) := by decide +kernel
theorem d_Model_lowest_27 : decode b_Model_lowest 27 = .ok (.lrem, 1) := by decide +kernel
theorem d_Model_lowest_28 : decode b_Model_lowest 28 = .ok (.lstore 9, 2) := by decide +kernel
theorem d_Model_lowest_30 : decode b_Model_lowest 30 = .ok (.lload 7, 2) := by decide +kernel
theorem d_Model_lowest_32 : decode b_Model_lowest 32 = .ok (.lstore 5, 2) := by decide +kernel
theorem d_Model_lowest_34 : decode b_Model_lowest 34 = .ok (.lload 9, 2) := by decide +kernel
theorem d_Model_lowest_36 : decode b_Model_lowest 36 = .ok (.lstore 7, 2) := by decide +kernel
theorem d_Model_lowest_38 : decode b_Model_lowest 38 = .ok (.goto (-22), 3) := by decide +kernel
theorem d_Model_lowest_41 : decode b_Model_lowest 41 = .ok (.iload 4, 2) := by decide +kernel
theorem d_Model_lowest_43 : decode b_Model_lowest 43 = .ok (.ifCond .ne 7, 3) := by decide +kernel
theorem d_Model_lowest_46 : decode b_Model_lowest 46 = .ok (.lload_n 0, 1) := by decide +kernel
theorem d_Model_lowest_47 : decode b_Model_lowest 47 = .ok (.goto 4, 3) := by decide +kernel
theorem d_Model_lowest_50 : decode b_Model_lowest 50 = .ok (.lload_n 2, 1) := by decide +kernel
theorem d_Model_lowest_51 : decode b_Model_lowest 51 = .ok (.lload 5, 2) := by decide +kernel
theorem d_Model_lowest_53 : decode b_Model_lowest 53 = .ok (.ldiv, 1) := by decide +kernel
theorem d_Model_lowest_54 : decode b_Model_lowest 54 = .ok (.lreturn, 1) := by decide +kernel
abbrev b_Model_odds : ByteArray := prog_8_method_71_code
def y_Model_odds : MethodName := ⟨"RoundAndRoundModel", "odds", "(IIIIII)J"⟩
theorem d_Model_odds_0 : decode b_Model_odds 0 = .ok (.iload_n 1, 1) := by decide +kernel
theorem d_Model_odds_1 : decode b_Model_odds 1 = .ok (.iconst 0, 1) := by decide +kernel
theorem d_Model_odds_2 : decode b_Model_odds 2 = .ok (.ldc 185, 2) := by decide +kernel
theorem d_Model_odds_4 : decode b_Model_odds 4 = .ok (.invokestatic 66, 3) := by decide +kernel
theorem d_Model_odds_7 : decode b_Model_odds 7 = .ok (.ifCond .eq 68, 3) := by decide +kernel
theorem d_Model_odds_10 : decode b_Model_odds 10 = .ok (.iload_n 2, 1) := by decide +kernel
theorem d_Model_odds_11 : decode b_Model_odds 11 = .ok (.iconst 0, 1) := by decide +kernel
theorem d_Model_odds_12 : decode b_Model_odds 12 = .ok (.sipush (6040), 3) := by decide +kernel
theorem d_Model_odds_15 : decode b_Model_odds 15 = .ok (.invokestatic 66, 3) := by decide +kernel
theorem d_Model_odds_18 : decode b_Model_odds 18 = .ok (.ifCond .eq 57, 3) := by decide +kernel
theorem d_Model_odds_21 : decode b_Model_odds 21 = .ok (.iload_n 2, 1) := by decide +kernel
theorem d_Model_odds_22 : decode b_Model_odds 22 = .ok (.bipush (100), 2) := by decide +kernel
theorem d_Model_odds_24 : decode b_Model_odds 24 = .ok (.irem, 1) := by decide +kernel
theorem d_Model_odds_25 : decode b_Model_odds 25 = .ok (.iconst 1, 1) := by decide +kernel
theorem d_Model_odds_26 : decode b_Model_odds 26 = .ok (.bipush (40), 2) := by decide +kernel
theorem d_Model_odds_28 : decode b_Model_odds 28 = .ok (.invokestatic 66, 3) := by decide +kernel
theorem d_Model_odds_31 : decode b_Model_odds 31 = .ok (.ifCond .eq 44, 3) := by decide +kernel
theorem d_Model_odds_34 : decode b_Model_odds 34 = .ok (.aload_n 0, 1) := by decide +kernel
theorem d_Model_odds_35 : decode b_Model_odds 35 = .ok (.iload_n 3, 1) := by decide +kernel
theorem d_Model_odds_36 : decode b_Model_odds 36 = .ok (.invokevirtual 149, 3) := by decide +kernel
theorem d_Model_odds_39 : decode b_Model_odds 39 = .ok (.ifCond .eq 36, 3) := by decide +kernel
theorem d_Model_odds_42 : decode b_Model_odds 42 = .ok (.iload 4, 2) := by decide +kernel
theorem d_Model_odds_44 : decode b_Model_odds 44 = .ok (.invokestatic 249, 3) := by decide +kernel
theorem d_Model_odds_47 : decode b_Model_odds 47 = .ok (.ifCond .eq 28, 3) := by decide +kernel
theorem d_Model_odds_50 : decode b_Model_odds 50 = .ok (.iload 5, 2) := by decide +kernel
theorem d_Model_odds_52 : decode b_Model_odds 52 = .ok (.iconst 0, 1) := by decide +kernel
theorem d_Model_odds_53 : decode b_Model_odds 53 = .ok (.ldc 185, 2) := by decide +kernel
theorem d_Model_odds_55 : decode b_Model_odds 55 = .ok (.invokestatic 66, 3) := by decide +kernel
theorem d_Model_odds_58 : decode b_Model_odds 58 = .ok (.ifCond .eq 17, 3) := by decide +kernel
theorem d_Model_odds_61 : decode b_Model_odds 61 = .ok (.iload 6, 2) := by decide +kernel
theorem d_Model_odds_63 : decode b_Model_odds 63 = .ok (.iconst 0, 1) := by decide +kernel
theorem d_Model_odds_64 : decode b_Model_odds 64 = .ok (.iconst 1, 1) := by decide +kernel
theorem d_Model_odds_65 : decode b_Model_odds 65 = .ok (.invokestatic 66, 3) := by decide +kernel
theorem d_Model_odds_68 : decode b_Model_odds 68 = .ok (.ifCond .eq 7, 3) := by decide +kernel
theorem d_Model_odds_71 : decode b_Model_odds 71 = .ok (.iconst 1, 1) := by decide +kernel
theorem d_Model_odds_72 : decode b_Model_odds 72 = .ok (.goto 4, 3) := by decide +kernel
theorem d_Model_odds_75 : decode b_Model_odds 75 = .ok (.iconst 0, 1) := by decide +kernel
theorem d_Model_odds_76 : decode b_Model_odds 76 = .ok (.istore 7, 2) := by decide +kernel
theorem d_Model_odds_78 : decode b_Model_odds 78 = .ok (.iload 7, 2) := by decide +kernel
theorem d_Model_odds_80 : decode b_Model_odds 80 = .ok (.ifCond .ne 7, 3) := by decide +kernel
theorem d_Model_odds_83 : decode b_Model_odds 83 = .ok (.ldc2_w 255, 3) := by decide +kernel
theorem d_Model_odds_86 : decode b_Model_odds 86 = .ok (.lreturn, 1) := by decide +kernel
theorem d_Model_odds_87 : decode b_Model_odds 87 = .ok (.lconst 0, 1) := by decide +kernel
theorem d_Model_odds_88 : decode b_Model_odds 88 = .ok (.lstore 8, 2) := by decide +kernel
theorem d_Model_odds_90 : decode b_Model_odds 90 = .ok (.iconst 0, 1) := by decide +kernel
theorem d_Model_odds_91 : decode b_Model_odds 91 = .ok (.istore 10, 2) := by decide +kernel
theorem d_Model_odds_93 : decode b_Model_odds 93 = .ok (.iload 10, 2) := by decide +kernel
theorem d_Model_odds_95 : decode b_Model_odds 95 = .ok (.iload_n 2, 1) := by decide +kernel
theorem d_Model_odds_96 : decode b_Model_odds 96 = .ok (.bipush (100), 2) := by decide +kernel
theorem d_Model_odds_98 : decode b_Model_odds 98 = .ok (.irem, 1) := by decide +kernel
theorem d_Model_odds_99 : decode b_Model_odds 99 = .ok (.if_icmp .ge 46, 3) := by decide +kernel
theorem d_Model_odds_102 : decode b_Model_odds 102 = .ok (.aload_n 0, 1) := by decide +kernel
theorem d_Model_odds_103 : decode b_Model_odds 103 = .ok (.iload_n 1, 1) := by decide +kernel
theorem d_Model_odds_104 : decode b_Model_odds 104 = .ok (.iload 10, 2) := by decide +kernel
theorem d_Model_odds_106 : decode b_Model_odds 106 = .ok (.iadd, 1) := by decide +kernel
theorem d_Model_odds_107 : decode b_Model_odds 107 = .ok (.iload_n 3, 1) := by decide +kernel
theorem d_Model_odds_108 : decode b_Model_odds 108 = .ok (.iload_n 2, 1) := by decide +kernel
theorem d_Model_odds_109 : decode b_Model_odds 109 = .ok (.bipush (100), 2) := by decide +kernel
theorem d_Model_odds_111 : decode b_Model_odds 111 = .ok (.idiv, 1) := by decide +kernel
theorem d_Model_odds_112 : decode b_Model_odds 112 = .ok (.iload 4, 2) := by decide +kernel
theorem d_Model_odds_114 : decode b_Model_odds 114 = .ok (.invokevirtual 252, 3) := by decide +kernel
theorem d_Model_odds_117 : decode b_Model_odds 117 = .ok (.lload 8, 2) := by decide +kernel
theorem d_Model_odds_119 : decode b_Model_odds 119 = .ok (.aload_n 0, 1) := by decide +kernel
theorem d_Model_odds_120 : decode b_Model_odds 120 = .ok (.getfield 186, 3) := by decide +kernel
theorem d_Model_odds_123 : decode b_Model_odds 123 = .ok (.invokestatic 164, 3) := by decide +kernel
theorem d_Model_odds_126 : decode b_Model_odds 126 = .ok (.iload 5, 2) := by decide +kernel
theorem d_Model_odds_128 : decode b_Model_odds 128 = .ok (.if_icmp .gt 7, 3) := by decide +kernel
theorem d_Model_odds_131 : decode b_Model_odds 131 = .ok (.lconst 1, 1) := by decide +kernel
theorem d_Model_odds_132 : decode b_Model_odds 132 = .ok (.goto 4, 3) := by decide +kernel
theorem d_Model_odds_135 : decode b_Model_odds 135 = .ok (.lconst 0, 1) := by decide +kernel
theorem d_Model_odds_136 : decode b_Model_odds 136 = .ok (.ladd, 1) := by decide +kernel
theorem d_Model_odds_137 : decode b_Model_odds 137 = .ok (.lstore 8, 2) := by decide +kernel
theorem d_Model_odds_139 : decode b_Model_odds 139 = .ok (.iinc 10 (1), 3) := by decide +kernel
theorem d_Model_odds_142 : decode b_Model_odds 142 = .ok (.goto (-49), 3) := by decide +kernel
theorem d_Model_odds_145 : decode b_Model_odds 145 = .ok (.lload 8, 2) := by decide +kernel
theorem d_Model_odds_147 : decode b_Model_odds 147 = .ok (.iload_n 2, 1) := by decide +kernel
theorem d_Model_odds_148 : decode b_Model_odds 148 = .ok (.bipush (100), 2) := by decide +kernel
theorem d_Model_odds_150 : decode b_Model_odds 150 = .ok (.irem, 1) := by decide +kernel
theorem d_Model_odds_151 : decode b_Model_odds 151 = .ok (.i2l, 1) := by decide +kernel
theorem d_Model_odds_152 : decode b_Model_odds 152 = .ok (.iload 6, 2) := by decide +kernel
theorem d_Model_odds_154 : decode b_Model_odds 154 = .ok (.invokestatic 257, 3) := by decide +kernel
theorem d_Model_odds_157 : decode b_Model_odds 157 = .ok (.lreturn, 1) := by decide +kernel
abbrev b_Model_image : ByteArray := prog_8_method_72_code
def y_Model_image : MethodName := ⟨"RoundAndRoundModel", "image", "()I"⟩
theorem d_Model_image_0 : decode b_Model_image 0 = .ok (.aload_n 0, 1) := by decide +kernel
theorem d_Model_image_1 : decode b_Model_image 1 = .ok (.iconst 1, 1) := by decide +kernel
theorem d_Model_image_2 : decode b_Model_image 2 = .ok (.putfield 261, 3) := by decide +kernel
theorem d_Model_image_5 : decode b_Model_image 5 = .ok (.aload_n 0, 1) := by decide +kernel
theorem d_Model_image_6 : decode b_Model_image 6 = .ok (.aload_n 0, 1) := by decide +kernel
theorem d_Model_image_7 : decode b_Model_image 7 = .ok (.getfield 63, 3) := by decide +kernel
theorem d_Model_image_10 : decode b_Model_image 10 = .ok (.putfield 264, 3) := by decide +kernel
theorem d_Model_image_13 : decode b_Model_image 13 = .ok (.aload_n 0, 1) := by decide +kernel
theorem d_Model_image_14 : decode b_Model_image 14 = .ok (.aload_n 0, 1) := by decide +kernel
theorem d_Model_image_15 : decode b_Model_image 15 = .ok (.getfield 73, 3) := by decide +kernel
theorem d_Model_image_18 : decode b_Model_image 18 = .ok (.putfield 267, 3) := by decide +kernel
theorem d_Model_image_21 : decode b_Model_image 21 = .ok (.iconst 0, 1) := by decide +kernel
theorem d_Model_image_22 : decode b_Model_image 22 = .ok (.istore_n 1, 1) := by decide +kernel
theorem d_Model_image_23 : decode b_Model_image 23 = .ok (.iload_n 1, 1) := by decide +kernel
theorem d_Model_image_24 : decode b_Model_image 24 = .ok (.bipush (30), 2) := by decide +kernel
theorem d_Model_image_26 : decode b_Model_image 26 = .ok (.if_icmp .ge 21, 3) := by decide +kernel
theorem d_Model_image_29 : decode b_Model_image 29 = .ok (.aload_n 0, 1) := by decide +kernel
theorem d_Model_image_30 : decode b_Model_image 30 = .ok (.getfield 28, 3) := by decide +kernel
theorem d_Model_image_33 : decode b_Model_image 33 = .ok (.iload_n 1, 1) := by decide +kernel
theorem d_Model_image_34 : decode b_Model_image 34 = .ok (.aload_n 0, 1) := by decide +kernel
theorem d_Model_image_35 : decode b_Model_image 35 = .ok (.getfield 16, 3) := by decide +kernel
theorem d_Model_image_38 : decode b_Model_image 38 = .ok (.iload_n 1, 1) := by decide +kernel
theorem d_Model_image_39 : decode b_Model_image 39 = .ok (.iaload, 1) := by decide +kernel
theorem d_Model_image_40 : decode b_Model_image 40 = .ok (.iastore, 1) := by decide +kernel
theorem d_Model_image_41 : decode b_Model_image 41 = .ok (.iinc 1 (1), 3) := by decide +kernel
theorem d_Model_image_44 : decode b_Model_image 44 = .ok (.goto (-21), 3) := by decide +kernel
theorem d_Model_image_47 : decode b_Model_image 47 = .ok (.aload_n 0, 1) := by decide +kernel
theorem d_Model_image_48 : decode b_Model_image 48 = .ok (.getfield 63, 3) := by decide +kernel
theorem d_Model_image_51 : decode b_Model_image 51 = .ok (.ireturn, 1) := by decide +kernel
abbrev b_Model_back : ByteArray := prog_8_method_73_code
def y_Model_back : MethodName := ⟨"RoundAndRoundModel", "back", "()I"⟩
theorem d_Model_back_0 : decode b_Model_back 0 = .ok (.aload_n 0, 1) := by decide +kernel
theorem d_Model_back_1 : decode b_Model_back 1 = .ok (.getfield 261, 3) := by decide +kernel
theorem d_Model_back_4 : decode b_Model_back 4 = .ok (.ifCond .ne 6, 3) := by decide +kernel
theorem d_Model_back_7 : decode b_Model_back 7 = .ok (.bipush (-3), 2) := by decide +kernel
theorem d_Model_back_9 : decode b_Model_back 9 = .ok (.ireturn, 1) := by decide +kernel
theorem d_Model_back_10 : decode b_Model_back 10 = .ok (.aload_n 0, 1) := by decide +kernel
theorem d_Model_back_11 : decode b_Model_back 11 = .ok (.aload_n 0, 1) := by decide +kernel
theorem d_Model_back_12 : decode b_Model_back 12 = .ok (.getfield 264, 3) := by decide +kernel
theorem d_Model_back_15 : decode b_Model_back 15 = .ok (.putfield 63, 3) := by decide +kernel
theorem d_Model_back_18 : decode b_Model_back 18 = .ok (.aload_n 0, 1) := by decide +kernel
theorem d_Model_back_19 : decode b_Model_back 19 = .ok (.aload_n 0, 1) := by decide +kernel
theorem d_Model_back_20 : decode b_Model_back 20 = .ok (.getfield 267, 3) := by decide +kernel
theorem d_Model_back_23 : decode b_Model_back 23 = .ok (.putfield 73, 3) := by decide +kernel
theorem d_Model_back_26 : decode b_Model_back 26 = .ok (.iconst 0, 1) := by decide +kernel
theorem d_Model_back_27 : decode b_Model_back 27 = .ok (.istore_n 1, 1) := by decide +kernel
theorem d_Model_back_28 : decode b_Model_back 28 = .ok (.iload_n 1, 1) := by decide +kernel
theorem d_Model_back_29 : decode b_Model_back 29 = .ok (.bipush (30), 2) := by decide +kernel
theorem d_Model_back_31 : decode b_Model_back 31 = .ok (.if_icmp .ge 21, 3) := by decide +kernel
theorem d_Model_back_34 : decode b_Model_back 34 = .ok (.aload_n 0, 1) := by decide +kernel
theorem d_Model_back_35 : decode b_Model_back 35 = .ok (.getfield 16, 3) := by decide +kernel
theorem d_Model_back_38 : decode b_Model_back 38 = .ok (.iload_n 1, 1) := by decide +kernel
theorem d_Model_back_39 : decode b_Model_back 39 = .ok (.aload_n 0, 1) := by decide +kernel
theorem d_Model_back_40 : decode b_Model_back 40 = .ok (.getfield 28, 3) := by decide +kernel
theorem d_Model_back_43 : decode b_Model_back 43 = .ok (.iload_n 1, 1) := by decide +kernel
theorem d_Model_back_44 : decode b_Model_back 44 = .ok (.iaload, 1) := by decide +kernel
theorem d_Model_back_45 : decode b_Model_back 45 = .ok (.iastore, 1) := by decide +kernel
theorem d_Model_back_46 : decode b_Model_back 46 = .ok (.iinc 1 (1), 3) := by decide +kernel
theorem d_Model_back_49 : decode b_Model_back 49 = .ok (.goto (-21), 3) := by decide +kernel
theorem d_Model_back_52 : decode b_Model_back 52 = .ok (.aload_n 0, 1) := by decide +kernel
theorem d_Model_back_53 : decode b_Model_back 53 = .ok (.getfield 63, 3) := by decide +kernel
theorem d_Model_back_56 : decode b_Model_back 56 = .ok (.ireturn, 1) := by decide +kernel
abbrev b_Model_sheet : ByteArray := prog_8_method_74_code
def y_Model_sheet : MethodName := ⟨"RoundAndRoundModel", "sheet", "(III)I"⟩
theorem d_Model_sheet_0 : decode b_Model_sheet 0 = .ok (.iload_n 1, 1) := by decide +kernel
theorem d_Model_sheet_1 : decode b_Model_sheet 1 = .ok (.iconst 0, 1) := by decide +kernel
theorem d_Model_sheet_2 : decode b_Model_sheet 2 = .ok (.iconst 3, 1) := by decide +kernel
theorem d_Model_sheet_3 : decode b_Model_sheet 3 = .ok (.invokestatic 66, 3) := by decide +kernel
theorem d_Model_sheet_6 : decode b_Model_sheet 6 = .ok (.ifCond .eq 23, 3) := by decide +kernel
theorem d_Model_sheet_9 : decode b_Model_sheet 9 = .ok (.iload_n 2, 1) := by decide +kernel
theorem d_Model_sheet_10 : decode b_Model_sheet 10 = .ok (.iconst (-1), 1) := by decide +kernel
theorem d_Model_sheet_11 : decode b_Model_sheet 11 = .ok (.iconst 2, 1) := by decide +kernel
theorem d_Model_sheet_12 : decode b_Model_sheet 12 = .ok (.invokestatic 66, 3) := by decide +kernel
theorem d_Model_sheet_15 : decode b_Model_sheet 15 = .ok (.ifCond .eq 14, 3) := by decide +kernel
theorem d_Model_sheet_18 : decode b_Model_sheet 18 = .ok (.iload_n 2, 1) := by decide +kernel
theorem d_Model_sheet_19 : decode b_Model_sheet 19 = .ok (.iconst (-1), 1) := by decide +kernel
theorem d_Model_sheet_20 : decode b_Model_sheet 20 = .ok (.if_icmp .eq 12, 3) := by decide +kernel
theorem d_Model_sheet_23 : decode b_Model_sheet 23 = .ok (.iload_n 3, 1) := by decide +kernel
theorem d_Model_sheet_24 : decode b_Model_sheet 24 = .ok (.bipush (40), 2) := by decide +kernel
theorem d_Model_sheet_26 : decode b_Model_sheet 26 = .ok (.if_icmp .le 6, 3) := by decide +kernel
theorem d_Model_sheet_29 : decode b_Model_sheet 29 = .ok (.bipush (-2), 2) := by decide +kernel
theorem d_Model_sheet_31 : decode b_Model_sheet 31 = .ok (.ireturn, 1) := by decide +kernel
theorem d_Model_sheet_32 : decode b_Model_sheet 32 = .ok (.iload_n 2, 1) := by decide +kernel
theorem d_Model_sheet_33 : decode b_Model_sheet 33 = .ok (.iconst (-1), 1) := by decide +kernel
theorem d_Model_sheet_34 : decode b_Model_sheet 34 = .ok (.if_icmp .eq 10, 3) := by decide +kernel
theorem d_Model_sheet_37 : decode b_Model_sheet 37 = .ok (.iload_n 3, 1) := by decide +kernel
theorem d_Model_sheet_38 : decode b_Model_sheet 38 = .ok (.ifCond .ge 6, 3) := by decide +kernel
theorem d_Model_sheet_41 : decode b_Model_sheet 41 = .ok (.bipush (-14), 2) := by decide +kernel
theorem d_Model_sheet_43 : decode b_Model_sheet 43 = .ok (.ireturn, 1) := by decide +kernel
theorem d_Model_sheet_44 : decode b_Model_sheet 44 = .ok (.aload_n 0, 1) := by decide +kernel
theorem d_Model_sheet_45 : decode b_Model_sheet 45 = .ok (.getfield 31, 3) := by decide +kernel
theorem d_Model_sheet_48 : decode b_Model_sheet 48 = .ok (.iload_n 1, 1) := by decide +kernel
theorem d_Model_sheet_49 : decode b_Model_sheet 49 = .ok (.iload_n 2, 1) := by decide +kernel
theorem d_Model_sheet_50 : decode b_Model_sheet 50 = .ok (.iastore, 1) := by decide +kernel
theorem d_Model_sheet_51 : decode b_Model_sheet 51 = .ok (.aload_n 0, 1) := by decide +kernel
theorem d_Model_sheet_52 : decode b_Model_sheet 52 = .ok (.getfield 34, 3) := by decide +kernel
theorem d_Model_sheet_55 : decode b_Model_sheet 55 = .ok (.iload_n 1, 1) := by decide +kernel
theorem d_Model_sheet_56 : decode b_Model_sheet 56 = .ok (.iload_n 2, 1) := by decide +kernel
theorem d_Model_sheet_57 : decode b_Model_sheet 57 = .ok (.iconst (-1), 1) := by decide +kernel
theorem d_Model_sheet_58 : decode b_Model_sheet 58 = .ok (.if_icmp .ne 7, 3) := by decide +kernel
theorem d_Model_sheet_61 : decode b_Model_sheet 61 = .ok (.iconst 0, 1) := by decide +kernel
theorem d_Model_sheet_62 : decode b_Model_sheet 62 = .ok (.goto 4, 3) := by decide +kernel
theorem d_Model_sheet_65 : decode b_Model_sheet 65 = .ok (.iload_n 3, 1) := by decide +kernel
theorem d_Model_sheet_66 : decode b_Model_sheet 66 = .ok (.iastore, 1) := by decide +kernel
theorem d_Model_sheet_67 : decode b_Model_sheet 67 = .ok (.iconst 0, 1) := by decide +kernel
theorem d_Model_sheet_68 : decode b_Model_sheet 68 = .ok (.istore 4, 2) := by decide +kernel
theorem d_Model_sheet_70 : decode b_Model_sheet 70 = .ok (.iload 4, 2) := by decide +kernel
theorem d_Model_sheet_72 : decode b_Model_sheet 72 = .ok (.bipush (40), 2) := by decide +kernel
theorem d_Model_sheet_74 : decode b_Model_sheet 74 = .ok (.if_icmp .ge 22, 3) := by decide +kernel
theorem d_Model_sheet_77 : decode b_Model_sheet 77 = .ok (.aload_n 0, 1) := by decide +kernel
theorem d_Model_sheet_78 : decode b_Model_sheet 78 = .ok (.getfield 37, 3) := by decide +kernel
theorem d_Model_sheet_81 : decode b_Model_sheet 81 = .ok (.bipush (40), 2) := by decide +kernel
theorem d_Model_sheet_83 : decode b_Model_sheet 83 = .ok (.iload_n 1, 1) := by decide +kernel
theorem d_Model_sheet_84 : decode b_Model_sheet 84 = .ok (.imul, 1) := by decide +kernel
theorem d_Model_sheet_85 : decode b_Model_sheet 85 = .ok (.iload 4, 2) := by decide +kernel
theorem d_Model_sheet_87 : decode b_Model_sheet 87 = .ok (.iadd, 1) := by decide +kernel
theorem d_Model_sheet_88 : decode b_Model_sheet 88 = .ok (.iconst 0, 1) := by decide +kernel
theorem d_Model_sheet_89 : decode b_Model_sheet 89 = .ok (.iastore, 1) := by decide +kernel
theorem d_Model_sheet_90 : decode b_Model_sheet 90 = .ok (.iinc 4 (1), 3) := by decide +kernel
theorem d_Model_sheet_93 : decode b_Model_sheet 93 = .ok (.goto (-23), 3) := by decide +kernel
theorem d_Model_sheet_96 : decode b_Model_sheet 96 = .ok (.iconst 1, 1) := by decide +kernel
theorem d_Model_sheet_97 : decode b_Model_sheet 97 = .ok (.ireturn, 1) := by decide +kernel
abbrev b_Model_cell : ByteArray := prog_8_method_75_code
def y_Model_cell : MethodName := ⟨"RoundAndRoundModel", "cell", "(III)I"⟩
theorem d_Model_cell_0 : decode b_Model_cell 0 = .ok (.iload_n 1, 1) := by decide +kernel
theorem d_Model_cell_1 : decode b_Model_cell 1 = .ok (.iconst 0, 1) := by decide +kernel
theorem d_Model_cell_2 : decode b_Model_cell 2 = .ok (.iconst 3, 1) := by decide +kernel
theorem d_Model_cell_3 : decode b_Model_cell 3 = .ok (.invokestatic 66, 3) := by decide +kernel
theorem d_Model_cell_6 : decode b_Model_cell 6 = .ok (.ifCond .ne 6, 3) := by decide +kernel
theorem d_Model_cell_9 : decode b_Model_cell 9 = .ok (.bipush (-2), 2) := by decide +kernel
theorem d_Model_cell_11 : decode b_Model_cell 11 = .ok (.ireturn, 1) := by decide +kernel
theorem d_Model_cell_12 : decode b_Model_cell 12 = .ok (.aload_n 0, 1) := by decide +kernel
theorem d_Model_cell_13 : decode b_Model_cell 13 = .ok (.getfield 31, 3) := by decide +kernel
theorem d_Model_cell_16 : decode b_Model_cell 16 = .ok (.iload_n 1, 1) := by decide +kernel
theorem d_Model_cell_17 : decode b_Model_cell 17 = .ok (.iaload, 1) := by decide +kernel
theorem d_Model_cell_18 : decode b_Model_cell 18 = .ok (.iconst (-1), 1) := by decide +kernel
theorem d_Model_cell_19 : decode b_Model_cell 19 = .ok (.if_icmp .ne 6, 3) := by decide +kernel
theorem d_Model_cell_22 : decode b_Model_cell 22 = .ok (.bipush (-11), 2) := by decide +kernel
theorem d_Model_cell_24 : decode b_Model_cell 24 = .ok (.ireturn, 1) := by decide +kernel
theorem d_Model_cell_25 : decode b_Model_cell 25 = .ok (.iload_n 2, 1) := by decide +kernel
theorem d_Model_cell_26 : decode b_Model_cell 26 = .ok (.iconst 0, 1) := by decide +kernel
theorem d_Model_cell_27 : decode b_Model_cell 27 = .ok (.aload_n 0, 1) := by decide +kernel
theorem d_Model_cell_28 : decode b_Model_cell 28 = .ok (.getfield 34, 3) := by decide +kernel
theorem d_Model_cell_31 : decode b_Model_cell 31 = .ok (.iload_n 1, 1) := by decide +kernel
theorem d_Model_cell_32 : decode b_Model_cell 32 = .ok (.iaload, 1) := by decide +kernel
theorem d_Model_cell_33 : decode b_Model_cell 33 = .ok (.iconst 1, 1) := by decide +kernel
theorem d_Model_cell_34 : decode b_Model_cell 34 = .ok (.isub, 1) := by decide +kernel
theorem d_Model_cell_35 : decode b_Model_cell 35 = .ok (.invokestatic 66, 3) := by decide +kernel
theorem d_Model_cell_38 : decode b_Model_cell 38 = .ok (.ifCond .ne 6, 3) := by decide +kernel
theorem d_Model_cell_41 : decode b_Model_cell 41 = .ok (.bipush (-12), 2) := by decide +kernel
theorem d_Model_cell_43 : decode b_Model_cell 43 = .ok (.ireturn, 1) := by decide +kernel
theorem d_Model_cell_44 : decode b_Model_cell 44 = .ok (.aload_n 0, 1) := by decide +kernel
theorem d_Model_cell_45 : decode b_Model_cell 45 = .ok (.getfield 37, 3) := by decide +kernel
theorem d_Model_cell_48 : decode b_Model_cell 48 = .ok (.bipush (40), 2) := by decide +kernel
theorem d_Model_cell_50 : decode b_Model_cell 50 = .ok (.iload_n 1, 1) := by decide +kernel
theorem d_Model_cell_51 : decode b_Model_cell 51 = .ok (.imul, 1) := by decide +kernel
theorem d_Model_cell_52 : decode b_Model_cell 52 = .ok (.iload_n 2, 1) := by decide +kernel
theorem d_Model_cell_53 : decode b_Model_cell 53 = .ok (.iadd, 1) := by decide +kernel
theorem d_Model_cell_54 : decode b_Model_cell 54 = .ok (.aload_n 0, 1) := by decide +kernel
theorem d_Model_cell_55 : decode b_Model_cell 55 = .ok (.getfield 31, 3) := by decide +kernel
theorem d_Model_cell_58 : decode b_Model_cell 58 = .ok (.iload_n 1, 1) := by decide +kernel
theorem d_Model_cell_59 : decode b_Model_cell 59 = .ok (.iaload, 1) := by decide +kernel
theorem d_Model_cell_60 : decode b_Model_cell 60 = .ok (.ifCond .ne 8, 3) := by decide +kernel
theorem d_Model_cell_63 : decode b_Model_cell 63 = .ok (.iload_n 3, 1) := by decide +kernel
theorem d_Model_cell_64 : decode b_Model_cell 64 = .ok (.i2b, 1) := by decide +kernel
theorem d_Model_cell_65 : decode b_Model_cell 65 = .ok (.goto 19, 3) := by decide +kernel
theorem d_Model_cell_68 : decode b_Model_cell 68 = .ok (.aload_n 0, 1) := by decide +kernel
theorem d_Model_cell_69 : decode b_Model_cell 69 = .ok (.getfield 31, 3) := by decide +kernel
theorem d_Model_cell_72 : decode b_Model_cell 72 = .ok (.iload_n 1, 1) := by decide +kernel
theorem d_Model_cell_73 : decode b_Model_cell 73 = .ok (.iaload, 1) := by decide +kernel
theorem d_Model_cell_74 : decode b_Model_cell 74 = .ok (.iconst 1, 1) := by decide +kernel
theorem d_Model_cell_75 : decode b_Model_cell 75 = .ok (.if_icmp .ne 8, 3) := by decide +kernel
theorem d_Model_cell_78 : decode b_Model_cell 78 = .ok (.iload_n 3, 1) := by decide +kernel
theorem d_Model_cell_79 : decode b_Model_cell 79 = .ok (.i2s, 1) := by decide +kernel
theorem d_Model_cell_80 : decode b_Model_cell 80 = .ok (.goto 4, 3) := by decide +kernel
theorem d_Model_cell_83 : decode b_Model_cell 83 = .ok (.iload_n 3, 1) := by decide +kernel
theorem d_Model_cell_84 : decode b_Model_cell 84 = .ok (.iastore, 1) := by decide +kernel
theorem d_Model_cell_85 : decode b_Model_cell 85 = .ok (.iconst 1, 1) := by decide +kernel
theorem d_Model_cell_86 : decode b_Model_cell 86 = .ok (.ireturn, 1) := by decide +kernel
abbrev b_Model_copy : ByteArray := prog_8_method_76_code
def y_Model_copy : MethodName := ⟨"RoundAndRoundModel", "copy", "(IIIII)I"⟩
theorem d_Model_copy_0 : decode b_Model_copy 0 = .ok (.iload_n 1, 1) := by decide +kernel
theorem d_Model_copy_1 : decode b_Model_copy 1 = .ok (.iconst 0, 1) := by decide +kernel
theorem d_Model_copy_2 : decode b_Model_copy 2 = .ok (.iconst 3, 1) := by decide +kernel
theorem d_Model_copy_3 : decode b_Model_copy 3 = .ok (.invokestatic 66, 3) := by decide +kernel
theorem d_Model_copy_6 : decode b_Model_copy 6 = .ok (.ifCond .eq 12, 3) := by decide +kernel
theorem d_Model_copy_9 : decode b_Model_copy 9 = .ok (.iload_n 3, 1) := by decide +kernel
theorem d_Model_copy_10 : decode b_Model_copy 10 = .ok (.iconst 0, 1) := by decide +kernel
theorem d_Model_copy_11 : decode b_Model_copy 11 = .ok (.iconst 3, 1) := by decide +kernel
theorem d_Model_copy_12 : decode b_Model_copy 12 = .ok (.invokestatic 66, 3) := by decide +kernel
theorem d_Model_copy_15 : decode b_Model_copy 15 = .ok (.ifCond .ne 6, 3) := by decide +kernel
theorem d_Model_copy_18 : decode b_Model_copy 18 = .ok (.bipush (-2), 2) := by decide +kernel
theorem d_Model_copy_20 : decode b_Model_copy 20 = .ok (.ireturn, 1) := by decide +kernel
theorem d_Model_copy_21 : decode b_Model_copy 21 = .ok (.aload_n 0, 1) := by decide +kernel
theorem d_Model_copy_22 : decode b_Model_copy 22 = .ok (.getfield 31, 3) := by decide +kernel
theorem d_Model_copy_25 : decode b_Model_copy 25 = .ok (.iload_n 1, 1) := by decide +kernel
theorem d_Model_copy_26 : decode b_Model_copy 26 = .ok (.iaload, 1) := by decide +kernel
theorem d_Model_copy_27 : decode b_Model_copy 27 = .ok (.iconst (-1), 1) := by decide +kernel
theorem d_Model_copy_28 : decode b_Model_copy 28 = .ok (.if_icmp .eq 13, 3) := by decide +kernel
theorem d_Model_copy_31 : decode b_Model_copy 31 = .ok (.aload_n 0, 1) := by decide +kernel
theorem d_Model_copy_32 : decode b_Model_copy 32 = .ok (.getfield 31, 3) := by decide +kernel
theorem d_Model_copy_35 : decode b_Model_copy 35 = .ok (.iload_n 3, 1) := by decide +kernel
theorem d_Model_copy_36 : decode b_Model_copy 36 = .ok (.iaload, 1) := by decide +kernel
theorem d_Model_copy_37 : decode b_Model_copy 37 = .ok (.iconst (-1), 1) := by decide +kernel
theorem d_Model_copy_38 : decode b_Model_copy 38 = .ok (.if_icmp .ne 6, 3) := by decide +kernel
theorem d_Model_copy_41 : decode b_Model_copy 41 = .ok (.bipush (-11), 2) := by decide +kernel
theorem d_Model_copy_43 : decode b_Model_copy 43 = .ok (.ireturn, 1) := by decide +kernel
theorem d_Model_copy_44 : decode b_Model_copy 44 = .ok (.aload_n 0, 1) := by decide +kernel
theorem d_Model_copy_45 : decode b_Model_copy 45 = .ok (.getfield 31, 3) := by decide +kernel
theorem d_Model_copy_48 : decode b_Model_copy 48 = .ok (.iload_n 1, 1) := by decide +kernel
theorem d_Model_copy_49 : decode b_Model_copy 49 = .ok (.iaload, 1) := by decide +kernel
theorem d_Model_copy_50 : decode b_Model_copy 50 = .ok (.aload_n 0, 1) := by decide +kernel
theorem d_Model_copy_51 : decode b_Model_copy 51 = .ok (.getfield 31, 3) := by decide +kernel
theorem d_Model_copy_54 : decode b_Model_copy 54 = .ok (.iload_n 3, 1) := by decide +kernel
theorem d_Model_copy_55 : decode b_Model_copy 55 = .ok (.iaload, 1) := by decide +kernel
theorem d_Model_copy_56 : decode b_Model_copy 56 = .ok (.if_icmp .eq 6, 3) := by decide +kernel
theorem d_Model_copy_59 : decode b_Model_copy 59 = .ok (.bipush (-13), 2) := by decide +kernel
theorem d_Model_copy_61 : decode b_Model_copy 61 = .ok (.ireturn, 1) := by decide +kernel
theorem d_Model_copy_62 : decode b_Model_copy 62 = .ok (.iload 5, 2) := by decide +kernel
theorem d_Model_copy_64 : decode b_Model_copy 64 = .ok (.ifCond .lt 60, 3) := by decide +kernel
theorem d_Model_copy_67 : decode b_Model_copy 67 = .ok (.iload_n 2, 1) := by decide +kernel
theorem d_Model_copy_68 : decode b_Model_copy 68 = .ok (.ifCond .lt 56, 3) := by decide +kernel
theorem d_Model_copy_71 : decode b_Model_copy 71 = .ok (.iload 4, 2) := by decide +kernel
theorem d_Model_copy_73 : decode b_Model_copy 73 = .ok (.ifCond .lt 51, 3) := by decide +kernel
theorem d_Model_copy_76 : decode b_Model_copy 76 = .ok (.iload_n 2, 1) := by decide +kernel
theorem d_Model_copy_77 : decode b_Model_copy 77 = .ok (.aload_n 0, 1) := by decide +kernel
theorem d_Model_copy_78 : decode b_Model_copy 78 = .ok (.getfield 34, 3) := by decide +kernel
theorem d_Model_copy_81 : decode b_Model_copy 81 = .ok (.iload_n 1, 1) := by decide +kernel
theorem d_Model_copy_82 : decode b_Model_copy 82 = .ok (.iaload, 1) := by decide +kernel
theorem d_Model_copy_83 : decode b_Model_copy 83 = .ok (.if_icmp .gt 41, 3) := by decide +kernel
theorem d_Model_copy_86 : decode b_Model_copy 86 = .ok (.iload 4, 2) := by decide +kernel
theorem d_Model_copy_88 : decode b_Model_copy 88 = .ok (.aload_n 0, 1) := by decide +kernel
theorem d_Model_copy_89 : decode b_Model_copy 89 = .ok (.getfield 34, 3) := by decide +kernel
theorem d_Model_copy_92 : decode b_Model_copy 92 = .ok (.iload_n 3, 1) := by decide +kernel
theorem d_Model_copy_93 : decode b_Model_copy 93 = .ok (.iaload, 1) := by decide +kernel
theorem d_Model_copy_94 : decode b_Model_copy 94 = .ok (.if_icmp .gt 30, 3) := by decide +kernel
theorem d_Model_copy_97 : decode b_Model_copy 97 = .ok (.iload 5, 2) := by decide +kernel
theorem d_Model_copy_99 : decode b_Model_copy 99 = .ok (.aload_n 0, 1) := by decide +kernel
theorem d_Model_copy_100 : decode b_Model_copy 100 = .ok (.getfield 34, 3) := by decide +kernel
theorem d_Model_copy_103 : decode b_Model_copy 103 = .ok (.iload_n 1, 1) := by decide +kernel
theorem d_Model_copy_104 : decode b_Model_copy 104 = .ok (.iaload, 1) := by decide +kernel
theorem d_Model_copy_105 : decode b_Model_copy 105 = .ok (.iload_n 2, 1) := by decide +kernel
theorem d_Model_copy_106 : decode b_Model_copy 106 = .ok (.isub, 1) := by decide +kernel
theorem d_Model_copy_107 : decode b_Model_copy 107 = .ok (.if_icmp .gt 17, 3) := by decide +kernel
theorem d_Model_copy_110 : decode b_Model_copy 110 = .ok (.iload 5, 2) := by decide +kernel
theorem d_Model_copy_112 : decode b_Model_copy 112 = .ok (.aload_n 0, 1) := by decide +kernel
theorem d_Model_copy_113 : decode b_Model_copy 113 = .ok (.getfield 34, 3) := by decide +kernel
theorem d_Model_copy_116 : decode b_Model_copy 116 = .ok (.iload_n 3, 1) := by decide +kernel
theorem d_Model_copy_117 : decode b_Model_copy 117 = .ok (.iaload, 1) := by decide +kernel
theorem d_Model_copy_118 : decode b_Model_copy 118 = .ok (.iload 4, 2) := by decide +kernel
theorem d_Model_copy_120 : decode b_Model_copy 120 = .ok (.isub, 1) := by decide +kernel
theorem d_Model_copy_121 : decode b_Model_copy 121 = .ok (.if_icmp .le 6, 3) := by decide +kernel
theorem d_Model_copy_124 : decode b_Model_copy 124 = .ok (.bipush (-12), 2) := by decide +kernel
theorem d_Model_copy_126 : decode b_Model_copy 126 = .ok (.ireturn, 1) := by decide +kernel
theorem d_Model_copy_127 : decode b_Model_copy 127 = .ok (.bipush (40), 2) := by decide +kernel
theorem d_Model_copy_129 : decode b_Model_copy 129 = .ok (.iload_n 1, 1) := by decide +kernel
theorem d_Model_copy_130 : decode b_Model_copy 130 = .ok (.imul, 1) := by decide +kernel
theorem d_Model_copy_131 : decode b_Model_copy 131 = .ok (.iload_n 2, 1) := by decide +kernel
theorem d_Model_copy_132 : decode b_Model_copy 132 = .ok (.iadd, 1) := by decide +kernel
theorem d_Model_copy_133 : decode b_Model_copy 133 = .ok (.istore 6, 2) := by decide +kernel
theorem d_Model_copy_135 : decode b_Model_copy 135 = .ok (.bipush (40), 2) := by decide +kernel
theorem d_Model_copy_137 : decode b_Model_copy 137 = .ok (.iload_n 3, 1) := by decide +kernel
theorem d_Model_copy_138 : decode b_Model_copy 138 = .ok (.imul, 1) := by decide +kernel
theorem d_Model_copy_139 : decode b_Model_copy 139 = .ok (.iload 4, 2) := by decide +kernel
theorem d_Model_copy_141 : decode b_Model_copy 141 = .ok (.iadd, 1) := by decide +kernel
theorem d_Model_copy_142 : decode b_Model_copy 142 = .ok (.istore 7, 2) := by decide +kernel
theorem d_Model_copy_144 : decode b_Model_copy 144 = .ok (.iconst 0, 1) := by decide +kernel
theorem d_Model_copy_145 : decode b_Model_copy 145 = .ok (.istore 8, 2) := by decide +kernel
theorem d_Model_copy_147 : decode b_Model_copy 147 = .ok (.iload 8, 2) := by decide +kernel
theorem d_Model_copy_149 : decode b_Model_copy 149 = .ok (.iload 5, 2) := by decide +kernel
theorem d_Model_copy_151 : decode b_Model_copy 151 = .ok (.if_icmp .ge 50, 3) := by decide +kernel
theorem d_Model_copy_154 : decode b_Model_copy 154 = .ok (.iload 6, 2) := by decide +kernel
theorem d_Model_copy_156 : decode b_Model_copy 156 = .ok (.iload 7, 2) := by decide +kernel
theorem d_Model_copy_158 : decode b_Model_copy 158 = .ok (.if_icmp .ge 13, 3) := by decide +kernel
theorem d_Model_copy_161 : decode b_Model_copy 161 = .ok (.iload 5, 2) := by decide +kernel
theorem d_Model_copy_163 : decode b_Model_copy 163 = .ok (.iconst 1, 1) := by decide +kernel
theorem d_Model_copy_164 : decode b_Model_copy 164 = .ok (.isub, 1) := by decide +kernel
theorem d_Model_copy_165 : decode b_Model_copy 165 = .ok (.iload 8, 2) := by decide +kernel
theorem d_Model_copy_167 : decode b_Model_copy 167 = .ok (.isub, 1) := by decide +kernel
theorem d_Model_copy_168 : decode b_Model_copy 168 = .ok (.goto 5, 3) := by decide +kernel
theorem d_Model_copy_171 : decode b_Model_copy 171 = .ok (.iload 8, 2) := by decide +kernel
theorem d_Model_copy_173 : decode b_Model_copy 173 = .ok (.istore 9, 2) := by decide +kernel
theorem d_Model_copy_175 : decode b_Model_copy 175 = .ok (.aload_n 0, 1) := by decide +kernel
theorem d_Model_copy_176 : decode b_Model_copy 176 = .ok (.getfield 37, 3) := by decide +kernel
theorem d_Model_copy_179 : decode b_Model_copy 179 = .ok (.iload 7, 2) := by decide +kernel
theorem d_Model_copy_181 : decode b_Model_copy 181 = .ok (.iload 9, 2) := by decide +kernel
theorem d_Model_copy_183 : decode b_Model_copy 183 = .ok (.iadd, 1) := by decide +kernel
theorem d_Model_copy_184 : decode b_Model_copy 184 = .ok (.aload_n 0, 1) := by decide +kernel
theorem d_Model_copy_185 : decode b_Model_copy 185 = .ok (.getfield 37, 3) := by decide +kernel
theorem d_Model_copy_188 : decode b_Model_copy 188 = .ok (.iload 6, 2) := by decide +kernel
theorem d_Model_copy_190 : decode b_Model_copy 190 = .ok (.iload 9, 2) := by decide +kernel
theorem d_Model_copy_192 : decode b_Model_copy 192 = .ok (.iadd, 1) := by decide +kernel
theorem d_Model_copy_193 : decode b_Model_copy 193 = .ok (.iaload, 1) := by decide +kernel
theorem d_Model_copy_194 : decode b_Model_copy 194 = .ok (.iastore, 1) := by decide +kernel
theorem d_Model_copy_195 : decode b_Model_copy 195 = .ok (.iinc 8 (1), 3) := by decide +kernel
theorem d_Model_copy_198 : decode b_Model_copy 198 = .ok (.goto (-51), 3) := by decide +kernel
theorem d_Model_copy_201 : decode b_Model_copy 201 = .ok (.iload 5, 2) := by decide +kernel
theorem d_Model_copy_203 : decode b_Model_copy 203 = .ok (.ireturn, 1) := by decide +kernel
abbrev b_Model_headsBy : ByteArray := prog_8_method_77_code
def y_Model_headsBy : MethodName := ⟨"RoundAndRoundModel", "headsBy", "(IIII)I"⟩
theorem d_Model_headsBy_0 : decode b_Model_headsBy 0 = .ok (.iload_n 1, 1) := by decide +kernel
theorem d_Model_headsBy_1 : decode b_Model_headsBy 1 = .ok (.iconst 0, 1) := by decide +kernel
theorem d_Model_headsBy_2 : decode b_Model_headsBy 2 = .ok (.iconst 3, 1) := by decide +kernel
theorem d_Model_headsBy_3 : decode b_Model_headsBy 3 = .ok (.invokestatic 66, 3) := by decide +kernel
theorem d_Model_headsBy_6 : decode b_Model_headsBy 6 = .ok (.ifCond .eq 22, 3) := by decide +kernel
theorem d_Model_headsBy_9 : decode b_Model_headsBy 9 = .ok (.iload_n 2, 1) := by decide +kernel
theorem d_Model_headsBy_10 : decode b_Model_headsBy 10 = .ok (.iconst 0, 1) := by decide +kernel
theorem d_Model_headsBy_11 : decode b_Model_headsBy 11 = .ok (.iconst 2, 1) := by decide +kernel
theorem d_Model_headsBy_12 : decode b_Model_headsBy 12 = .ok (.invokestatic 66, 3) := by decide +kernel
theorem d_Model_headsBy_15 : decode b_Model_headsBy 15 = .ok (.ifCond .eq 13, 3) := by decide +kernel
theorem d_Model_headsBy_18 : decode b_Model_headsBy 18 = .ok (.iload 4, 2) := by decide +kernel
theorem d_Model_headsBy_20 : decode b_Model_headsBy 20 = .ok (.iconst 0, 1) := by decide +kernel
theorem d_Model_headsBy_21 : decode b_Model_headsBy 21 = .ok (.iconst 5, 1) := by decide +kernel
theorem d_Model_headsBy_22 : decode b_Model_headsBy 22 = .ok (.invokestatic 66, 3) := by decide +kernel
theorem d_Model_headsBy_25 : decode b_Model_headsBy 25 = .ok (.ifCond .ne 6, 3) := by decide +kernel
theorem d_Model_headsBy_28 : decode b_Model_headsBy 28 = .ok (.bipush (-2), 2) := by decide +kernel
theorem d_Model_headsBy_30 : decode b_Model_headsBy 30 = .ok (.ireturn, 1) := by decide +kernel
theorem d_Model_headsBy_31 : decode b_Model_headsBy 31 = .ok (.aload_n 0, 1) := by decide +kernel
theorem d_Model_headsBy_32 : decode b_Model_headsBy 32 = .ok (.getfield 31, 3) := by decide +kernel
theorem d_Model_headsBy_35 : decode b_Model_headsBy 35 = .ok (.iload_n 1, 1) := by decide +kernel
theorem d_Model_headsBy_36 : decode b_Model_headsBy 36 = .ok (.iaload, 1) := by decide +kernel
theorem d_Model_headsBy_37 : decode b_Model_headsBy 37 = .ok (.iconst (-1), 1) := by decide +kernel
theorem d_Model_headsBy_38 : decode b_Model_headsBy 38 = .ok (.if_icmp .ne 6, 3) := by decide +kernel
theorem d_Model_headsBy_41 : decode b_Model_headsBy 41 = .ok (.bipush (-11), 2) := by decide +kernel
theorem d_Model_headsBy_43 : decode b_Model_headsBy 43 = .ok (.ireturn, 1) := by decide +kernel
theorem d_Model_headsBy_44 : decode b_Model_headsBy 44 = .ok (.aload_n 0, 1) := by decide +kernel
theorem d_Model_headsBy_45 : decode b_Model_headsBy 45 = .ok (.getfield 31, 3) := by decide +kernel
theorem d_Model_headsBy_48 : decode b_Model_headsBy 48 = .ok (.iload_n 1, 1) := by decide +kernel
theorem d_Model_headsBy_49 : decode b_Model_headsBy 49 = .ok (.iaload, 1) := by decide +kernel
theorem d_Model_headsBy_50 : decode b_Model_headsBy 50 = .ok (.iload_n 2, 1) := by decide +kernel
theorem d_Model_headsBy_51 : decode b_Model_headsBy 51 = .ok (.if_icmp .eq 6, 3) := by decide +kernel
theorem d_Model_headsBy_54 : decode b_Model_headsBy 54 = .ok (.bipush (-13), 2) := by decide +kernel
theorem d_Model_headsBy_56 : decode b_Model_headsBy 56 = .ok (.ireturn, 1) := by decide +kernel
theorem d_Model_headsBy_57 : decode b_Model_headsBy 57 = .ok (.iconst 0, 1) := by decide +kernel
theorem d_Model_headsBy_58 : decode b_Model_headsBy 58 = .ok (.istore 5, 2) := by decide +kernel
theorem d_Model_headsBy_60 : decode b_Model_headsBy 60 = .ok (.iconst 0, 1) := by decide +kernel
theorem d_Model_headsBy_61 : decode b_Model_headsBy 61 = .ok (.istore 6, 2) := by decide +kernel
theorem d_Model_headsBy_63 : decode b_Model_headsBy 63 = .ok (.iload 6, 2) := by decide +kernel
theorem d_Model_headsBy_65 : decode b_Model_headsBy 65 = .ok (.iload 4, 2) := by decide +kernel
theorem d_Model_headsBy_67 : decode b_Model_headsBy 67 = .ok (.if_icmp .ge 85, 3) := by decide +kernel
theorem d_Model_headsBy_70 : decode b_Model_headsBy 70 = .ok (.iload_n 3, 1) := by decide +kernel
theorem d_Model_headsBy_71 : decode b_Model_headsBy 71 = .ok (.iconst 2, 1) := by decide +kernel
theorem d_Model_headsBy_72 : decode b_Model_headsBy 72 = .ok (.iload 6, 2) := by decide +kernel
theorem d_Model_headsBy_74 : decode b_Model_headsBy 74 = .ok (.imul, 1) := by decide +kernel
theorem d_Model_headsBy_75 : decode b_Model_headsBy 75 = .ok (.iadd, 1) := by decide +kernel
theorem d_Model_headsBy_76 : decode b_Model_headsBy 76 = .ok (.istore 7, 2) := by decide +kernel
theorem d_Model_headsBy_78 : decode b_Model_headsBy 78 = .ok (.iload_n 3, 1) := by decide +kernel
theorem d_Model_headsBy_79 : decode b_Model_headsBy 79 = .ok (.ifCond .lt 22, 3) := by decide +kernel
theorem d_Model_headsBy_82 : decode b_Model_headsBy 82 = .ok (.iload 7, 2) := by decide +kernel
theorem d_Model_headsBy_84 : decode b_Model_headsBy 84 = .ok (.iload_n 3, 1) := by decide +kernel
theorem d_Model_headsBy_85 : decode b_Model_headsBy 85 = .ok (.if_icmp .lt 16, 3) := by decide +kernel
theorem d_Model_headsBy_88 : decode b_Model_headsBy 88 = .ok (.iload 7, 2) := by decide +kernel
theorem d_Model_headsBy_90 : decode b_Model_headsBy 90 = .ok (.aload_n 0, 1) := by decide +kernel
theorem d_Model_headsBy_91 : decode b_Model_headsBy 91 = .ok (.getfield 34, 3) := by decide +kernel
theorem d_Model_headsBy_94 : decode b_Model_headsBy 94 = .ok (.iload_n 1, 1) := by decide +kernel
theorem d_Model_headsBy_95 : decode b_Model_headsBy 95 = .ok (.iaload, 1) := by decide +kernel
theorem d_Model_headsBy_96 : decode b_Model_headsBy 96 = .ok (.iconst 2, 1) := by decide +kernel
theorem d_Model_headsBy_97 : decode b_Model_headsBy 97 = .ok (.isub, 1) := by decide +kernel
theorem d_Model_headsBy_98 : decode b_Model_headsBy 98 = .ok (.if_icmp .le 6, 3) := by decide +kernel
theorem d_Model_headsBy_101 : decode b_Model_headsBy 101 = .ok (.bipush (-12), 2) := by decide +kernel
theorem d_Model_headsBy_103 : decode b_Model_headsBy 103 = .ok (.ireturn, 1) := by decide +kernel
theorem d_Model_headsBy_104 : decode b_Model_headsBy 104 = .ok (.bipush (40), 2) := by decide +kernel
theorem d_Model_headsBy_106 : decode b_Model_headsBy 106 = .ok (.iload_n 1, 1) := by decide +kernel
theorem d_Model_headsBy_107 : decode b_Model_headsBy 107 = .ok (.imul, 1) := by decide +kernel
theorem d_Model_headsBy_108 : decode b_Model_headsBy 108 = .ok (.iload 7, 2) := by decide +kernel
theorem d_Model_headsBy_110 : decode b_Model_headsBy 110 = .ok (.iadd, 1) := by decide +kernel
theorem d_Model_headsBy_111 : decode b_Model_headsBy 111 = .ok (.istore 8, 2) := by decide +kernel
theorem d_Model_headsBy_113 : decode b_Model_headsBy 113 = .ok (.iload 5, 2) := by decide +kernel
theorem d_Model_headsBy_115 : decode b_Model_headsBy 115 = .ok (.aload_n 0, 1) := by decide +kernel
theorem d_Model_headsBy_116 : decode b_Model_headsBy 116 = .ok (.aload_n 0, 1) := by decide +kernel
theorem d_Model_headsBy_117 : decode b_Model_headsBy 117 = .ok (.getfield 37, 3) := by decide +kernel
theorem d_Model_headsBy_120 : decode b_Model_headsBy 120 = .ok (.iload 8, 2) := by decide +kernel
theorem d_Model_headsBy_122 : decode b_Model_headsBy 122 = .ok (.iaload, 1) := by decide +kernel
theorem d_Model_headsBy_123 : decode b_Model_headsBy 123 = .ok (.aload_n 0, 1) := by decide +kernel
theorem d_Model_headsBy_124 : decode b_Model_headsBy 124 = .ok (.getfield 37, 3) := by decide +kernel
theorem d_Model_headsBy_127 : decode b_Model_headsBy 127 = .ok (.iload 8, 2) := by decide +kernel
theorem d_Model_headsBy_129 : decode b_Model_headsBy 129 = .ok (.iconst 1, 1) := by decide +kernel
theorem d_Model_headsBy_130 : decode b_Model_headsBy 130 = .ok (.iadd, 1) := by decide +kernel
theorem d_Model_headsBy_131 : decode b_Model_headsBy 131 = .ok (.iaload, 1) := by decide +kernel
theorem d_Model_headsBy_132 : decode b_Model_headsBy 132 = .ok (.invokevirtual 270, 3) := by decide +kernel
theorem d_Model_headsBy_135 : decode b_Model_headsBy 135 = .ok (.ifCond .lt 7, 3) := by decide +kernel
theorem d_Model_headsBy_138 : decode b_Model_headsBy 138 = .ok (.iconst 1, 1) := by decide +kernel
theorem d_Model_headsBy_139 : decode b_Model_headsBy 139 = .ok (.goto 4, 3) := by decide +kernel
theorem d_Model_headsBy_142 : decode b_Model_headsBy 142 = .ok (.iconst 0, 1) := by decide +kernel
theorem d_Model_headsBy_143 : decode b_Model_headsBy 143 = .ok (.iadd, 1) := by decide +kernel
theorem d_Model_headsBy_144 : decode b_Model_headsBy 144 = .ok (.istore 5, 2) := by decide +kernel
theorem d_Model_headsBy_146 : decode b_Model_headsBy 146 = .ok (.iinc 6 (1), 3) := by decide +kernel
theorem d_Model_headsBy_149 : decode b_Model_headsBy 149 = .ok (.goto (-86), 3) := by decide +kernel
theorem d_Model_headsBy_152 : decode b_Model_headsBy 152 = .ok (.iload 5, 2) := by decide +kernel
theorem d_Model_headsBy_154 : decode b_Model_headsBy 154 = .ok (.ireturn, 1) := by decide +kernel
abbrev b_Model_isUnder : ByteArray := prog_8_method_78_code
def y_Model_isUnder : MethodName := ⟨"RoundAndRoundModel", "isUnder", "(II)Z"⟩
theorem d_Model_isUnder_0 : decode b_Model_isUnder 0 = .ok (.iload_n 1, 1) := by decide +kernel
theorem d_Model_isUnder_1 : decode b_Model_isUnder 1 = .ok (.ifCond .eq 28, 3) := by decide +kernel
theorem d_Model_isUnder_4 : decode b_Model_isUnder 4 = .ok (.iload_n 0, 1) := by decide +kernel
theorem d_Model_isUnder_5 : decode b_Model_isUnder 5 = .ok (.iload_n 1, 1) := by decide +kernel
theorem d_Model_isUnder_6 : decode b_Model_isUnder 6 = .ok (.if_icmp .eq 23, 3) := by decide +kernel
theorem d_Model_isUnder_9 : decode b_Model_isUnder 9 = .ok (.iload_n 1, 1) := by decide +kernel
theorem d_Model_isUnder_10 : decode b_Model_isUnder 10 = .ok (.iconst 1, 1) := by decide +kernel
theorem d_Model_isUnder_11 : decode b_Model_isUnder 11 = .ok (.if_icmp .ne 8, 3) := by decide +kernel
theorem d_Model_isUnder_14 : decode b_Model_isUnder 14 = .ok (.iload_n 0, 1) := by decide +kernel
theorem d_Model_isUnder_15 : decode b_Model_isUnder 15 = .ok (.iconst 3, 1) := by decide +kernel
theorem d_Model_isUnder_16 : decode b_Model_isUnder 16 = .ok (.if_icmp .eq 13, 3) := by decide +kernel
theorem d_Model_isUnder_19 : decode b_Model_isUnder 19 = .ok (.iload_n 1, 1) := by decide +kernel
theorem d_Model_isUnder_20 : decode b_Model_isUnder 20 = .ok (.iconst 2, 1) := by decide +kernel
theorem d_Model_isUnder_21 : decode b_Model_isUnder 21 = .ok (.if_icmp .ne 12, 3) := by decide +kernel
theorem d_Model_isUnder_24 : decode b_Model_isUnder 24 = .ok (.iload_n 0, 1) := by decide +kernel
theorem d_Model_isUnder_25 : decode b_Model_isUnder 25 = .ok (.iconst 4, 1) := by decide +kernel
theorem d_Model_isUnder_26 : decode b_Model_isUnder 26 = .ok (.if_icmp .ne 7, 3) := by decide +kernel
theorem d_Model_isUnder_29 : decode b_Model_isUnder 29 = .ok (.iconst 1, 1) := by decide +kernel
theorem d_Model_isUnder_30 : decode b_Model_isUnder 30 = .ok (.goto 4, 3) := by decide +kernel
theorem d_Model_isUnder_33 : decode b_Model_isUnder 33 = .ok (.iconst 0, 1) := by decide +kernel
theorem d_Model_isUnder_34 : decode b_Model_isUnder 34 = .ok (.ireturn, 1) := by decide +kernel
abbrev b_Model_taken : ByteArray := prog_8_method_79_code
def y_Model_taken : MethodName := ⟨"RoundAndRoundModel", "taken", "(II)I"⟩
theorem d_Model_taken_0 : decode b_Model_taken 0 = .ok (.iload_n 2, 1) := by decide +kernel
theorem d_Model_taken_1 : decode b_Model_taken 1 = .ok (.iconst 0, 1) := by decide +kernel
theorem d_Model_taken_2 : decode b_Model_taken 2 = .ok (.bipush (6), 2) := by decide +kernel
theorem d_Model_taken_4 : decode b_Model_taken 4 = .ok (.invokestatic 66, 3) := by decide +kernel
theorem d_Model_taken_7 : decode b_Model_taken 7 = .ok (.ifCond .ne 6, 3) := by decide +kernel
theorem d_Model_taken_10 : decode b_Model_taken 10 = .ok (.bipush (-2), 2) := by decide +kernel
theorem d_Model_taken_12 : decode b_Model_taken 12 = .ok (.ireturn, 1) := by decide +kernel
theorem d_Model_taken_13 : decode b_Model_taken 13 = .ok (.iload_n 1, 1) := by decide +kernel
theorem d_Model_taken_14 : decode b_Model_taken 14 = .ok (.iconst 0, 1) := by decide +kernel
theorem d_Model_taken_15 : decode b_Model_taken 15 = .ok (.bipush (9), 2) := by decide +kernel
theorem d_Model_taken_17 : decode b_Model_taken 17 = .ok (.invokestatic 66, 3) := by decide +kernel
theorem d_Model_taken_20 : decode b_Model_taken 20 = .ok (.ifCond .ne 6, 3) := by decide +kernel
theorem d_Model_taken_23 : decode b_Model_taken 23 = .ok (.bipush (-12), 2) := by decide +kernel
theorem d_Model_taken_25 : decode b_Model_taken 25 = .ok (.ireturn, 1) := by decide +kernel
theorem d_Model_taken_26 : decode b_Model_taken 26 = .ok (.iload_n 1, 1) := by decide +kernel
theorem d_Model_taken_27 : decode b_Model_taken 27 = .ok (.iconst 5, 1) := by decide +kernel
theorem d_Model_taken_28 : decode b_Model_taken 28 = .ok (.irem, 1) := by decide +kernel
theorem d_Model_taken_29 : decode b_Model_taken 29 = .ok (.aload_n 0, 1) := by decide +kernel
theorem d_Model_taken_30 : decode b_Model_taken 30 = .ok (.getfield 63, 3) := by decide +kernel
theorem d_Model_taken_33 : decode b_Model_taken 33 = .ok (.if_icmp .lt 6, 3) := by decide +kernel
theorem d_Model_taken_36 : decode b_Model_taken 36 = .ok (.bipush (-11), 2) := by decide +kernel
theorem d_Model_taken_38 : decode b_Model_taken 38 = .ok (.ireturn, 1) := by decide +kernel
theorem d_Model_taken_39 : decode b_Model_taken 39 = .ok (.iload_n 1, 1) := by decide +kernel
theorem d_Model_taken_40 : decode b_Model_taken 40 = .ok (.iconst 5, 1) := by decide +kernel
theorem d_Model_taken_41 : decode b_Model_taken 41 = .ok (.if_icmp .lt 30, 3) := by decide +kernel
theorem d_Model_taken_44 : decode b_Model_taken 44 = .ok (.iload_n 2, 1) := by decide +kernel
theorem d_Model_taken_45 : decode b_Model_taken 45 = .ok (.bipush (6), 2) := by decide +kernel
theorem d_Model_taken_47 : decode b_Model_taken 47 = .ok (.if_icmp .ne 19, 3) := by decide +kernel
theorem d_Model_taken_50 : decode b_Model_taken 50 = .ok (.aload_n 0, 1) := by decide +kernel
theorem d_Model_taken_51 : decode b_Model_taken 51 = .ok (.getfield 16, 3) := by decide +kernel
theorem d_Model_taken_54 : decode b_Model_taken 54 = .ok (.bipush (6), 2) := by decide +kernel
theorem d_Model_taken_56 : decode b_Model_taken 56 = .ok (.iload_n 1, 1) := by decide +kernel
theorem d_Model_taken_57 : decode b_Model_taken 57 = .ok (.iconst 5, 1) := by decide +kernel
theorem d_Model_taken_58 : decode b_Model_taken 58 = .ok (.isub, 1) := by decide +kernel
theorem d_Model_taken_59 : decode b_Model_taken 59 = .ok (.imul, 1) := by decide +kernel
theorem d_Model_taken_60 : decode b_Model_taken 60 = .ok (.iconst 5, 1) := by decide +kernel
theorem d_Model_taken_61 : decode b_Model_taken 61 = .ok (.iadd, 1) := by decide +kernel
theorem d_Model_taken_62 : decode b_Model_taken 62 = .ok (.iaload, 1) := by decide +kernel
theorem d_Model_taken_63 : decode b_Model_taken 63 = .ok (.goto 33, 3) := by decide +kernel
theorem d_Model_taken_66 : decode b_Model_taken 66 = .ok (.bipush (-13), 2) := by decide +kernel
theorem d_Model_taken_68 : decode b_Model_taken 68 = .ok (.goto 28, 3) := by decide +kernel
theorem d_Model_taken_71 : decode b_Model_taken 71 = .ok (.iload_n 2, 1) := by decide +kernel
theorem d_Model_taken_72 : decode b_Model_taken 72 = .ok (.bipush (6), 2) := by decide +kernel
theorem d_Model_taken_74 : decode b_Model_taken 74 = .ok (.if_icmp .ge 20, 3) := by decide +kernel
theorem d_Model_taken_77 : decode b_Model_taken 77 = .ok (.aload_n 0, 1) := by decide +kernel
theorem d_Model_taken_78 : decode b_Model_taken 78 = .ok (.getfield 7, 3) := by decide +kernel
theorem d_Model_taken_81 : decode b_Model_taken 81 = .ok (.iload_n 1, 1) := by decide +kernel
theorem d_Model_taken_82 : decode b_Model_taken 82 = .ok (.iaload, 1) := by decide +kernel
theorem d_Model_taken_83 : decode b_Model_taken 83 = .ok (.iload_n 2, 1) := by decide +kernel
theorem d_Model_taken_84 : decode b_Model_taken 84 = .ok (.invokestatic 273, 3) := by decide +kernel
theorem d_Model_taken_87 : decode b_Model_taken 87 = .ok (.ifCond .eq 7, 3) := by decide +kernel
theorem d_Model_taken_90 : decode b_Model_taken 90 = .ok (.iload_n 1, 1) := by decide +kernel
theorem d_Model_taken_91 : decode b_Model_taken 91 = .ok (.goto 5, 3) := by decide +kernel
theorem d_Model_taken_94 : decode b_Model_taken 94 = .ok (.bipush (-13), 2) := by decide +kernel
theorem d_Model_taken_96 : decode b_Model_taken 96 = .ok (.ireturn, 1) := by decide +kernel
end
section
abbrev b_Reader_init : ByteArray := prog_4_method_1_code
def y_Reader_init : MethodName := ⟨"RoundAndRound$Reader", "<init>", "()V"⟩
theorem d_Reader_init_0 : decode b_Reader_init 0 = .ok (.aload_n 0, 1) := by decide +kernel
theorem d_Reader_init_1 : decode b_Reader_init 1 = .ok (.invokespecial 5, 3) := by decide +kernel
theorem d_Reader_init_4 : decode b_Reader_init 4 = .ok (.aload_n 0, 1) := by decide +kernel
theorem d_Reader_init_5 : decode b_Reader_init 5 = .ok (.sipush (160), 3) := by decide +kernel
theorem d_Reader_init_8 : decode b_Reader_init 8 = .ok (.newarray .int, 2) := by decide +kernel
theorem d_Reader_init_10 : decode b_Reader_init 10 = .ok (.putfield 11, 3) := by decide +kernel
theorem d_Reader_init_13 : decode b_Reader_init 13 = .ok (.aload_n 0, 1) := by decide +kernel
theorem d_Reader_init_14 : decode b_Reader_init 14 = .ok (.bipush (12), 2) := by decide +kernel
theorem d_Reader_init_16 : decode b_Reader_init 16 = .ok (.newarray .long, 2) := by decide +kernel
theorem d_Reader_init_18 : decode b_Reader_init 18 = .ok (.putfield 15, 3) := by decide +kernel
theorem d_Reader_init_21 : decode b_Reader_init 21 = .ok (.iconst 0, 1) := by decide +kernel
theorem d_Reader_init_22 : decode b_Reader_init 22 = .ok (.istore_n 1, 1) := by decide +kernel
theorem d_Reader_init_23 : decode b_Reader_init 23 = .ok (.iconst 0, 1) := by decide +kernel
theorem d_Reader_init_24 : decode b_Reader_init 24 = .ok (.istore_n 2, 1) := by decide +kernel
theorem d_Reader_init_25 : decode b_Reader_init 25 = .ok (.iload_n 2, 1) := by decide +kernel
theorem d_Reader_init_26 : decode b_Reader_init 26 = .ok (.ldc 19, 2) := by decide +kernel
theorem d_Reader_init_28 : decode b_Reader_init 28 = .ok (.invokevirtual 21, 3) := by decide +kernel
theorem d_Reader_init_31 : decode b_Reader_init 31 = .ok (.if_icmp .ge 65, 3) := by decide +kernel
theorem d_Reader_init_34 : decode b_Reader_init 34 = .ok (.ldc 19, 2) := by decide +kernel
theorem d_Reader_init_36 : decode b_Reader_init 36 = .ok (.iload_n 2, 1) := by decide +kernel
theorem d_Reader_init_37 : decode b_Reader_init 37 = .ok (.invokevirtual 27, 3) := by decide +kernel
theorem d_Reader_init_40 : decode b_Reader_init 40 = .ok (.bipush (32), 2) := by decide +kernel
theorem d_Reader_init_42 : decode b_Reader_init 42 = .ok (.if_icmp .ne 9, 3) := by decide +kernel
theorem d_Reader_init_45 : decode b_Reader_init 45 = .ok (.iinc 1 (1), 3) := by decide +kernel
theorem d_Reader_init_48 : decode b_Reader_init 48 = .ok (.goto 42, 3) := by decide +kernel
theorem d_Reader_init_51 : decode b_Reader_init 51 = .ok (.iload_n 1, 1) := by decide +kernel
theorem d_Reader_init_52 : decode b_Reader_init 52 = .ok (.aload_n 0, 1) := by decide +kernel
theorem d_Reader_init_53 : decode b_Reader_init 53 = .ok (.getfield 15, 3) := by decide +kernel
theorem d_Reader_init_56 : decode b_Reader_init 56 = .ok (.arraylength, 1) := by decide +kernel
theorem d_Reader_init_57 : decode b_Reader_init 57 = .ok (.if_icmp .ge 33, 3) := by decide +kernel
theorem d_Reader_init_60 : decode b_Reader_init 60 = .ok (.aload_n 0, 1) := by decide +kernel
theorem d_Reader_init_61 : decode b_Reader_init 61 = .ok (.getfield 15, 3) := by decide +kernel
theorem d_Reader_init_64 : decode b_Reader_init 64 = .ok (.iload_n 1, 1) := by decide +kernel
theorem d_Reader_init_65 : decode b_Reader_init 65 = .ok (.aload_n 0, 1) := by decide +kernel
theorem d_Reader_init_66 : decode b_Reader_init 66 = .ok (.getfield 15, 3) := by decide +kernel
theorem d_Reader_init_69 : decode b_Reader_init 69 = .ok (.iload_n 1, 1) := by decide +kernel
theorem d_Reader_init_70 : decode b_Reader_init 70 = .ok (.laload, 1) := by decide +kernel
theorem d_Reader_init_71 : decode b_Reader_init 71 = .ok (.ldc2_w 31, 3) := by decide +kernel
theorem d_Reader_init_74 : decode b_Reader_init 74 = .ok (.lmul, 1) := by decide +kernel
theorem d_Reader_init_75 : decode b_Reader_init 75 = .ok (.ldc 19, 2) := by decide +kernel
theorem d_Reader_init_77 : decode b_Reader_init 77 = .ok (.iload_n 2, 1) := by decide +kernel
theorem d_Reader_init_78 : decode b_Reader_init 78 = .ok (.invokevirtual 27, 3) := by decide +kernel
theorem d_Reader_init_81 : decode b_Reader_init 81 = .ok (.i2l, 1) := by decide +kernel
theorem d_Reader_init_82 : decode b_Reader_init 82 = .ok (.ladd, 1) := by decide +kernel
theorem d_Reader_init_83 : decode b_Reader_init 83 = .ok (.ldc2_w 33, 3) := by decide +kernel
theorem d_Reader_init_86 : decode b_Reader_init 86 = .ok (.lsub, 1) := by decide +kernel
theorem d_Reader_init_87 : decode b_Reader_init 87 = .ok (.lconst 1, 1) := by decide +kernel
theorem d_Reader_init_88 : decode b_Reader_init 88 = .ok (.ladd, 1) := by decide +kernel
theorem d_Reader_init_89 : decode b_Reader_init 89 = .ok (.lastore, 1) := by decide +kernel
theorem d_Reader_init_90 : decode b_Reader_init 90 = .ok (.iinc 2 (1), 3) := by decide +kernel
theorem d_Reader_init_93 : decode b_Reader_init 93 = .ok (.goto (-68), 3) := by decide +kernel
theorem d_Reader_init_96 : decode b_Reader_init 96 = .ok (.return_, 1) := by decide +kernel
abbrev b_Reader_take : ByteArray := prog_4_method_2_code
def y_Reader_take : MethodName := ⟨"RoundAndRound$Reader", "take", "(I)V"⟩
theorem d_Reader_take_0 : decode b_Reader_take 0 = .ok (.aload_n 0, 1) := by decide +kernel
theorem d_Reader_take_1 : decode b_Reader_take 1 = .ok (.getfield 35, 3) := by decide +kernel
theorem d_Reader_take_4 : decode b_Reader_take 4 = .ok (.ifCond .lt 35, 3) := by decide +kernel
theorem d_Reader_take_7 : decode b_Reader_take 7 = .ok (.aload_n 0, 1) := by decide +kernel
theorem d_Reader_take_8 : decode b_Reader_take 8 = .ok (.getfield 35, 3) := by decide +kernel
theorem d_Reader_take_11 : decode b_Reader_take 11 = .ok (.aload_n 0, 1) := by decide +kernel
theorem d_Reader_take_12 : decode b_Reader_take 12 = .ok (.getfield 11, 3) := by decide +kernel
theorem d_Reader_take_15 : decode b_Reader_take 15 = .ok (.arraylength, 1) := by decide +kernel
theorem d_Reader_take_16 : decode b_Reader_take 16 = .ok (.if_icmp .ge 23, 3) := by decide +kernel
theorem d_Reader_take_19 : decode b_Reader_take 19 = .ok (.aload_n 0, 1) := by decide +kernel
theorem d_Reader_take_20 : decode b_Reader_take 20 = .ok (.getfield 11, 3) := by decide +kernel
theorem d_Reader_take_23 : decode b_Reader_take 23 = .ok (.aload_n 0, 1) := by decide +kernel
theorem d_Reader_take_24 : decode b_Reader_take 24 = .ok (.getfield 35, 3) := by decide +kernel
theorem d_Reader_take_27 : decode b_Reader_take 27 = .ok (.iload_n 1, 1) := by decide +kernel
theorem d_Reader_take_28 : decode b_Reader_take 28 = .ok (.iastore, 1) := by decide +kernel
theorem d_Reader_take_29 : decode b_Reader_take 29 = .ok (.aload_n 0, 1) := by decide +kernel
theorem d_Reader_take_30 : decode b_Reader_take 30 = .ok (.dup, 1) := by decide +kernel
theorem d_Reader_take_31 : decode b_Reader_take 31 = .ok (.getfield 35, 3) := by decide +kernel
theorem d_Reader_take_34 : decode b_Reader_take 34 = .ok (.iconst 1, 1) := by decide +kernel
theorem d_Reader_take_35 : decode b_Reader_take 35 = .ok (.iadd, 1) := by decide +kernel
theorem d_Reader_take_36 : decode b_Reader_take 36 = .ok (.putfield 35, 3) := by decide +kernel
theorem d_Reader_take_39 : decode b_Reader_take 39 = .ok (.return_, 1) := by decide +kernel
abbrev b_Reader_empty : ByteArray := prog_4_method_3_code
def y_Reader_empty : MethodName := ⟨"RoundAndRound$Reader", "empty", "()V"⟩
theorem d_Reader_empty_0 : decode b_Reader_empty 0 = .ok (.aload_n 0, 1) := by decide +kernel
theorem d_Reader_empty_1 : decode b_Reader_empty 1 = .ok (.iconst 0, 1) := by decide +kernel
theorem d_Reader_empty_2 : decode b_Reader_empty 2 = .ok (.putfield 35, 3) := by decide +kernel
theorem d_Reader_empty_5 : decode b_Reader_empty 5 = .ok (.return_, 1) := by decide +kernel
abbrev b_Reader_byteAt : ByteArray := prog_4_method_4_code
def y_Reader_byteAt : MethodName := ⟨"RoundAndRound$Reader", "byteAt", "(I)I"⟩
theorem d_Reader_byteAt_0 : decode b_Reader_byteAt 0 = .ok (.iload_n 1, 1) := by decide +kernel
theorem d_Reader_byteAt_1 : decode b_Reader_byteAt 1 = .ok (.ifCond .lt 29, 3) := by decide +kernel
theorem d_Reader_byteAt_4 : decode b_Reader_byteAt 4 = .ok (.iload_n 1, 1) := by decide +kernel
theorem d_Reader_byteAt_5 : decode b_Reader_byteAt 5 = .ok (.aload_n 0, 1) := by decide +kernel
theorem d_Reader_byteAt_6 : decode b_Reader_byteAt 6 = .ok (.getfield 35, 3) := by decide +kernel
theorem d_Reader_byteAt_9 : decode b_Reader_byteAt 9 = .ok (.if_icmp .ge 21, 3) := by decide +kernel
theorem d_Reader_byteAt_12 : decode b_Reader_byteAt 12 = .ok (.iload_n 1, 1) := by decide +kernel
theorem d_Reader_byteAt_13 : decode b_Reader_byteAt 13 = .ok (.aload_n 0, 1) := by decide +kernel
theorem d_Reader_byteAt_14 : decode b_Reader_byteAt 14 = .ok (.getfield 11, 3) := by decide +kernel
theorem d_Reader_byteAt_17 : decode b_Reader_byteAt 17 = .ok (.arraylength, 1) := by decide +kernel
theorem d_Reader_byteAt_18 : decode b_Reader_byteAt 18 = .ok (.if_icmp .ge 12, 3) := by decide +kernel
theorem d_Reader_byteAt_21 : decode b_Reader_byteAt 21 = .ok (.aload_n 0, 1) := by decide +kernel
theorem d_Reader_byteAt_22 : decode b_Reader_byteAt 22 = .ok (.getfield 11, 3) := by decide +kernel
theorem d_Reader_byteAt_25 : decode b_Reader_byteAt 25 = .ok (.iload_n 1, 1) := by decide +kernel
theorem d_Reader_byteAt_26 : decode b_Reader_byteAt 26 = .ok (.iaload, 1) := by decide +kernel
theorem d_Reader_byteAt_27 : decode b_Reader_byteAt 27 = .ok (.goto 4, 3) := by decide +kernel
theorem d_Reader_byteAt_30 : decode b_Reader_byteAt 30 = .ok (.iconst (-1), 1) := by decide +kernel
theorem d_Reader_byteAt_31 : decode b_Reader_byteAt 31 = .ok (.ireturn, 1) := by decide +kernel
abbrev b_Reader_read : ByteArray := prog_4_method_5_code
def y_Reader_read : MethodName := ⟨"RoundAndRound$Reader", "read", "(LRoundAndRound$Text;)I"⟩
theorem d_Reader_read_0 : decode b_Reader_read 0 = .ok (.aload_n 1, 1) := by decide +kernel
theorem d_Reader_read_1 : decode b_Reader_read 1 = .ok (.invokevirtual 39, 3) := by decide +kernel
theorem d_Reader_read_4 : decode b_Reader_read 4 = .ok (.aload_n 0, 1) := by decide +kernel
theorem d_Reader_read_5 : decode b_Reader_read 5 = .ok (.iconst 0, 1) := by decide +kernel
theorem d_Reader_read_6 : decode b_Reader_read 6 = .ok (.putfield 44, 3) := by decide +kernel
theorem d_Reader_read_9 : decode b_Reader_read 9 = .ok (.aload_n 0, 1) := by decide +kernel
theorem d_Reader_read_10 : decode b_Reader_read 10 = .ok (.iconst 0, 1) := by decide +kernel
theorem d_Reader_read_11 : decode b_Reader_read 11 = .ok (.putfield 47, 3) := by decide +kernel
theorem d_Reader_read_14 : decode b_Reader_read 14 = .ok (.aload_n 0, 1) := by decide +kernel
theorem d_Reader_read_15 : decode b_Reader_read 15 = .ok (.iconst (-1), 1) := by decide +kernel
theorem d_Reader_read_16 : decode b_Reader_read 16 = .ok (.putfield 50, 3) := by decide +kernel
theorem d_Reader_read_19 : decode b_Reader_read 19 = .ok (.aload_n 0, 1) := by decide +kernel
theorem d_Reader_read_20 : decode b_Reader_read 20 = .ok (.invokevirtual 53, 3) := by decide +kernel
theorem d_Reader_read_23 : decode b_Reader_read 23 = .ok (.iconst 0, 1) := by decide +kernel
theorem d_Reader_read_24 : decode b_Reader_read 24 = .ok (.istore_n 2, 1) := by decide +kernel
theorem d_Reader_read_25 : decode b_Reader_read 25 = .ok (.iload_n 2, 1) := by decide +kernel
theorem d_Reader_read_26 : decode b_Reader_read 26 = .ok (.iconst 3, 1) := by decide +kernel
theorem d_Reader_read_27 : decode b_Reader_read 27 = .ok (.if_icmp .ge 33, 3) := by decide +kernel
theorem d_Reader_read_30 : decode b_Reader_read 30 = .ok (.aload_n 0, 1) := by decide +kernel
theorem d_Reader_read_31 : decode b_Reader_read 31 = .ok (.sipush (128), 3) := by decide +kernel
theorem d_Reader_read_34 : decode b_Reader_read 34 = .ok (.iload_n 2, 1) := by decide +kernel
theorem d_Reader_read_35 : decode b_Reader_read 35 = .ok (.iadd, 1) := by decide +kernel
theorem d_Reader_read_36 : decode b_Reader_read 36 = .ok (.invokevirtual 56, 3) := by decide +kernel
theorem d_Reader_read_39 : decode b_Reader_read 39 = .ok (.aload_n 0, 1) := by decide +kernel
theorem d_Reader_read_40 : decode b_Reader_read 40 = .ok (.aload_n 1, 1) := by decide +kernel
theorem d_Reader_read_41 : decode b_Reader_read 41 = .ok (.invokevirtual 60, 3) := by decide +kernel
theorem d_Reader_read_44 : decode b_Reader_read 44 = .ok (.aload_n 0, 1) := by decide +kernel
theorem d_Reader_read_45 : decode b_Reader_read 45 = .ok (.bipush (59), 2) := by decide +kernel
theorem d_Reader_read_47 : decode b_Reader_read 47 = .ok (.invokevirtual 56, 3) := by decide +kernel
theorem d_Reader_read_50 : decode b_Reader_read 50 = .ok (.aload_n 1, 1) := by decide +kernel
theorem d_Reader_read_51 : decode b_Reader_read 51 = .ok (.invokevirtual 64, 3) := by decide +kernel
theorem d_Reader_read_54 : decode b_Reader_read 54 = .ok (.iinc 2 (1), 3) := by decide +kernel
theorem d_Reader_read_57 : decode b_Reader_read 57 = .ok (.goto (-32), 3) := by decide +kernel
theorem d_Reader_read_60 : decode b_Reader_read 60 = .ok (.aload_n 0, 1) := by decide +kernel
theorem d_Reader_read_61 : decode b_Reader_read 61 = .ok (.iconst 0, 1) := by decide +kernel
theorem d_Reader_read_62 : decode b_Reader_read 62 = .ok (.invokevirtual 56, 3) := by decide +kernel
theorem d_Reader_read_65 : decode b_Reader_read 65 = .ok (.aload_n 0, 1) := by decide +kernel
theorem d_Reader_read_66 : decode b_Reader_read 66 = .ok (.getfield 50, 3) := by decide +kernel
theorem d_Reader_read_69 : decode b_Reader_read 69 = .ok (.ireturn, 1) := by decide +kernel
abbrev b_Reader_failed : ByteArray := prog_4_method_6_code
def y_Reader_failed : MethodName := ⟨"RoundAndRound$Reader", "failed", "()Z"⟩
theorem d_Reader_failed_0 : decode b_Reader_failed 0 = .ok (.aload_n 0, 1) := by decide +kernel
theorem d_Reader_failed_1 : decode b_Reader_failed 1 = .ok (.getfield 50, 3) := by decide +kernel
theorem d_Reader_failed_4 : decode b_Reader_failed 4 = .ok (.ifCond .lt 7, 3) := by decide +kernel
theorem d_Reader_failed_7 : decode b_Reader_failed 7 = .ok (.iconst 1, 1) := by decide +kernel
theorem d_Reader_failed_8 : decode b_Reader_failed 8 = .ok (.goto 4, 3) := by decide +kernel
theorem d_Reader_failed_11 : decode b_Reader_failed 11 = .ok (.iconst 0, 1) := by decide +kernel
theorem d_Reader_failed_12 : decode b_Reader_failed 12 = .ok (.ireturn, 1) := by decide +kernel
abbrev b_Reader_fail : ByteArray := prog_4_method_7_code
def y_Reader_fail : MethodName := ⟨"RoundAndRound$Reader", "fail", "()V"⟩
theorem d_Reader_fail_0 : decode b_Reader_fail 0 = .ok (.aload_n 0, 1) := by decide +kernel
theorem d_Reader_fail_1 : decode b_Reader_fail 1 = .ok (.aload_n 0, 1) := by decide +kernel
theorem d_Reader_fail_2 : decode b_Reader_fail 2 = .ok (.invokevirtual 67, 3) := by decide +kernel
theorem d_Reader_fail_5 : decode b_Reader_fail 5 = .ok (.ifCond .eq 10, 3) := by decide +kernel
theorem d_Reader_fail_8 : decode b_Reader_fail 8 = .ok (.aload_n 0, 1) := by decide +kernel
theorem d_Reader_fail_9 : decode b_Reader_fail 9 = .ok (.getfield 50, 3) := by decide +kernel
theorem d_Reader_fail_12 : decode b_Reader_fail 12 = .ok (.goto 7, 3) := by decide +kernel
theorem d_Reader_fail_15 : decode b_Reader_fail 15 = .ok (.aload_n 0, 1) := by decide +kernel
theorem d_Reader_fail_16 : decode b_Reader_fail 16 = .ok (.getfield 71, 3) := by decide +kernel
theorem d_Reader_fail_19 : decode b_Reader_fail 19 = .ok (.putfield 50, 3) := by decide +kernel
theorem d_Reader_fail_22 : decode b_Reader_fail 22 = .ok (.return_, 1) := by decide +kernel
abbrev b_Reader_expect : ByteArray := prog_4_method_8_code
def y_Reader_expect : MethodName := ⟨"RoundAndRound$Reader", "expect", "(I)V"⟩
theorem d_Reader_expect_0 : decode b_Reader_expect 0 = .ok (.aload_n 0, 1) := by decide +kernel
theorem d_Reader_expect_1 : decode b_Reader_expect 1 = .ok (.getfield 74, 3) := by decide +kernel
theorem d_Reader_expect_4 : decode b_Reader_expect 4 = .ok (.iload_n 1, 1) := by decide +kernel
theorem d_Reader_expect_5 : decode b_Reader_expect 5 = .ok (.if_icmp .eq 7, 3) := by decide +kernel
theorem d_Reader_expect_8 : decode b_Reader_expect 8 = .ok (.aload_n 0, 1) := by decide +kernel
theorem d_Reader_expect_9 : decode b_Reader_expect 9 = .ok (.invokevirtual 77, 3) := by decide +kernel
theorem d_Reader_expect_12 : decode b_Reader_expect 12 = .ok (.aload_n 0, 1) := by decide +kernel
theorem d_Reader_expect_13 : decode b_Reader_expect 13 = .ok (.invokevirtual 67, 3) := by decide +kernel
theorem d_Reader_expect_16 : decode b_Reader_expect 16 = .ok (.ifCond .ne 7, 3) := by decide +kernel
theorem d_Reader_expect_19 : decode b_Reader_expect 19 = .ok (.aload_n 0, 1) := by decide +kernel
theorem d_Reader_expect_20 : decode b_Reader_expect 20 = .ok (.invokevirtual 53, 3) := by decide +kernel
theorem d_Reader_expect_23 : decode b_Reader_expect 23 = .ok (.return_, 1) := by decide +kernel
abbrev b_Reader_at : ByteArray := prog_4_method_9_code
def y_Reader_at : MethodName := ⟨"RoundAndRound$Reader", "at", "(I)Z"⟩
theorem d_Reader_at_0 : decode b_Reader_at 0 = .ok (.aload_n 0, 1) := by decide +kernel
theorem d_Reader_at_1 : decode b_Reader_at 1 = .ok (.invokevirtual 67, 3) := by decide +kernel
theorem d_Reader_at_4 : decode b_Reader_at 4 = .ok (.ifCond .ne 15, 3) := by decide +kernel
theorem d_Reader_at_7 : decode b_Reader_at 7 = .ok (.aload_n 0, 1) := by decide +kernel
theorem d_Reader_at_8 : decode b_Reader_at 8 = .ok (.getfield 74, 3) := by decide +kernel
theorem d_Reader_at_11 : decode b_Reader_at 11 = .ok (.iload_n 1, 1) := by decide +kernel
theorem d_Reader_at_12 : decode b_Reader_at 12 = .ok (.if_icmp .ne 7, 3) := by decide +kernel
theorem d_Reader_at_15 : decode b_Reader_at 15 = .ok (.iconst 1, 1) := by decide +kernel
theorem d_Reader_at_16 : decode b_Reader_at 16 = .ok (.goto 4, 3) := by decide +kernel
theorem d_Reader_at_19 : decode b_Reader_at 19 = .ok (.iconst 0, 1) := by decide +kernel
theorem d_Reader_at_20 : decode b_Reader_at 20 = .ok (.ireturn, 1) := by decide +kernel
abbrev b_Reader_readOr : ByteArray := prog_4_method_10_code
def y_Reader_readOr : MethodName := ⟨"RoundAndRound$Reader", "readOr", "(LRoundAndRound$Text;)V"⟩
theorem d_Reader_readOr_0 : decode b_Reader_readOr 0 = .ok (.aload_n 0, 1) := by decide +kernel
theorem d_Reader_readOr_1 : decode b_Reader_readOr 1 = .ok (.aload_n 1, 1) := by decide +kernel
theorem d_Reader_readOr_2 : decode b_Reader_readOr 2 = .ok (.invokevirtual 80, 3) := by decide +kernel
theorem d_Reader_readOr_5 : decode b_Reader_readOr 5 = .ok (.iconst 0, 1) := by decide +kernel
theorem d_Reader_readOr_6 : decode b_Reader_readOr 6 = .ok (.istore_n 2, 1) := by decide +kernel
theorem d_Reader_readOr_7 : decode b_Reader_readOr 7 = .ok (.iload_n 2, 1) := by decide +kernel
theorem d_Reader_readOr_8 : decode b_Reader_readOr 8 = .ok (.sipush (160), 3) := by decide +kernel
theorem d_Reader_readOr_11 : decode b_Reader_readOr 11 = .ok (.if_icmp .ge 35, 3) := by decide +kernel
theorem d_Reader_readOr_14 : decode b_Reader_readOr 14 = .ok (.aload_n 0, 1) := by decide +kernel
theorem d_Reader_readOr_15 : decode b_Reader_readOr 15 = .ok (.sipush (131), 3) := by decide +kernel
theorem d_Reader_readOr_18 : decode b_Reader_readOr 18 = .ok (.invokevirtual 83, 3) := by decide +kernel
theorem d_Reader_readOr_21 : decode b_Reader_readOr 21 = .ok (.ifCond .eq 25, 3) := by decide +kernel
theorem d_Reader_readOr_24 : decode b_Reader_readOr 24 = .ok (.aload_n 0, 1) := by decide +kernel
theorem d_Reader_readOr_25 : decode b_Reader_readOr 25 = .ok (.invokevirtual 53, 3) := by decide +kernel
theorem d_Reader_readOr_28 : decode b_Reader_readOr 28 = .ok (.aload_n 0, 1) := by decide +kernel
theorem d_Reader_readOr_29 : decode b_Reader_readOr 29 = .ok (.aload_n 1, 1) := by decide +kernel
theorem d_Reader_readOr_30 : decode b_Reader_readOr 30 = .ok (.invokevirtual 80, 3) := by decide +kernel
theorem d_Reader_readOr_33 : decode b_Reader_readOr 33 = .ok (.aload_n 1, 1) := by decide +kernel
theorem d_Reader_readOr_34 : decode b_Reader_readOr 34 = .ok (.sipush (20000), 3) := by decide +kernel
theorem d_Reader_readOr_37 : decode b_Reader_readOr 37 = .ok (.invokevirtual 87, 3) := by decide +kernel
theorem d_Reader_readOr_40 : decode b_Reader_readOr 40 = .ok (.iinc 2 (1), 3) := by decide +kernel
theorem d_Reader_readOr_43 : decode b_Reader_readOr 43 = .ok (.goto (-36), 3) := by decide +kernel
theorem d_Reader_readOr_46 : decode b_Reader_readOr 46 = .ok (.return_, 1) := by decide +kernel
abbrev b_Reader_readAnd : ByteArray := prog_4_method_11_code
def y_Reader_readAnd : MethodName := ⟨"RoundAndRound$Reader", "readAnd", "(LRoundAndRound$Text;)V"⟩
theorem d_Reader_readAnd_0 : decode b_Reader_readAnd 0 = .ok (.aload_n 0, 1) := by decide +kernel
theorem d_Reader_readAnd_1 : decode b_Reader_readAnd 1 = .ok (.aload_n 1, 1) := by decide +kernel
theorem d_Reader_readAnd_2 : decode b_Reader_readAnd 2 = .ok (.invokevirtual 90, 3) := by decide +kernel
theorem d_Reader_readAnd_5 : decode b_Reader_readAnd 5 = .ok (.iconst 0, 1) := by decide +kernel
theorem d_Reader_readAnd_6 : decode b_Reader_readAnd 6 = .ok (.istore_n 2, 1) := by decide +kernel
theorem d_Reader_readAnd_7 : decode b_Reader_readAnd 7 = .ok (.iload_n 2, 1) := by decide +kernel
theorem d_Reader_readAnd_8 : decode b_Reader_readAnd 8 = .ok (.sipush (160), 3) := by decide +kernel
theorem d_Reader_readAnd_11 : decode b_Reader_readAnd 11 = .ok (.if_icmp .ge 35, 3) := by decide +kernel
theorem d_Reader_readAnd_14 : decode b_Reader_readAnd 14 = .ok (.aload_n 0, 1) := by decide +kernel
theorem d_Reader_readAnd_15 : decode b_Reader_readAnd 15 = .ok (.sipush (132), 3) := by decide +kernel
theorem d_Reader_readAnd_18 : decode b_Reader_readAnd 18 = .ok (.invokevirtual 83, 3) := by decide +kernel
theorem d_Reader_readAnd_21 : decode b_Reader_readAnd 21 = .ok (.ifCond .eq 25, 3) := by decide +kernel
theorem d_Reader_readAnd_24 : decode b_Reader_readAnd 24 = .ok (.aload_n 0, 1) := by decide +kernel
theorem d_Reader_readAnd_25 : decode b_Reader_readAnd 25 = .ok (.invokevirtual 53, 3) := by decide +kernel
theorem d_Reader_readAnd_28 : decode b_Reader_readAnd 28 = .ok (.aload_n 0, 1) := by decide +kernel
theorem d_Reader_readAnd_29 : decode b_Reader_readAnd 29 = .ok (.aload_n 1, 1) := by decide +kernel
theorem d_Reader_readAnd_30 : decode b_Reader_readAnd 30 = .ok (.invokevirtual 90, 3) := by decide +kernel
theorem d_Reader_readAnd_33 : decode b_Reader_readAnd 33 = .ok (.aload_n 1, 1) := by decide +kernel
theorem d_Reader_readAnd_34 : decode b_Reader_readAnd 34 = .ok (.sipush (20001), 3) := by decide +kernel
theorem d_Reader_readAnd_37 : decode b_Reader_readAnd 37 = .ok (.invokevirtual 87, 3) := by decide +kernel
theorem d_Reader_readAnd_40 : decode b_Reader_readAnd 40 = .ok (.iinc 2 (1), 3) := by decide +kernel
theorem d_Reader_readAnd_43 : decode b_Reader_readAnd 43 = .ok (.goto (-36), 3) := by decide +kernel
theorem d_Reader_readAnd_46 : decode b_Reader_readAnd 46 = .ok (.return_, 1) := by decide +kernel
abbrev b_Reader_readNot : ByteArray := prog_4_method_12_code
def y_Reader_readNot : MethodName := ⟨"RoundAndRound$Reader", "readNot", "(LRoundAndRound$Text;)V"⟩
theorem d_Reader_readNot_0 : decode b_Reader_readNot 0 = .ok (.aload_n 0, 1) := by decide +kernel
theorem d_Reader_readNot_1 : decode b_Reader_readNot 1 = .ok (.sipush (133), 3) := by decide +kernel
theorem d_Reader_readNot_4 : decode b_Reader_readNot 4 = .ok (.invokevirtual 83, 3) := by decide +kernel
theorem d_Reader_readNot_7 : decode b_Reader_readNot 7 = .ok (.ifCond .eq 33, 3) := by decide +kernel
theorem d_Reader_readNot_10 : decode b_Reader_readNot 10 = .ok (.aload_n 0, 1) := by decide +kernel
theorem d_Reader_readNot_11 : decode b_Reader_readNot 11 = .ok (.invokevirtual 93, 3) := by decide +kernel
theorem d_Reader_readNot_14 : decode b_Reader_readNot 14 = .ok (.ifCond .eq 25, 3) := by decide +kernel
theorem d_Reader_readNot_17 : decode b_Reader_readNot 17 = .ok (.aload_n 0, 1) := by decide +kernel
theorem d_Reader_readNot_18 : decode b_Reader_readNot 18 = .ok (.aload_n 1, 1) := by decide +kernel
theorem d_Reader_readNot_19 : decode b_Reader_readNot 19 = .ok (.invokevirtual 90, 3) := by decide +kernel
theorem d_Reader_readNot_22 : decode b_Reader_readNot 22 = .ok (.aload_n 0, 1) := by decide +kernel
theorem d_Reader_readNot_23 : decode b_Reader_readNot 23 = .ok (.dup, 1) := by decide +kernel
theorem d_Reader_readNot_24 : decode b_Reader_readNot 24 = .ok (.getfield 47, 3) := by decide +kernel
theorem d_Reader_readNot_27 : decode b_Reader_readNot 27 = .ok (.iconst 1, 1) := by decide +kernel
theorem d_Reader_readNot_28 : decode b_Reader_readNot 28 = .ok (.isub, 1) := by decide +kernel
theorem d_Reader_readNot_29 : decode b_Reader_readNot 29 = .ok (.putfield 47, 3) := by decide +kernel
theorem d_Reader_readNot_32 : decode b_Reader_readNot 32 = .ok (.aload_n 1, 1) := by decide +kernel
theorem d_Reader_readNot_33 : decode b_Reader_readNot 33 = .ok (.sipush (30000), 3) := by decide +kernel
theorem d_Reader_readNot_36 : decode b_Reader_readNot 36 = .ok (.invokevirtual 87, 3) := by decide +kernel
theorem d_Reader_readNot_39 : decode b_Reader_readNot 39 = .ok (.return_, 1) := by decide +kernel
theorem d_Reader_readNot_40 : decode b_Reader_readNot 40 = .ok (.aload_n 0, 1) := by decide +kernel
theorem d_Reader_readNot_41 : decode b_Reader_readNot 41 = .ok (.aload_n 1, 1) := by decide +kernel
theorem d_Reader_readNot_42 : decode b_Reader_readNot 42 = .ok (.invokevirtual 96, 3) := by decide +kernel
theorem d_Reader_readNot_45 : decode b_Reader_readNot 45 = .ok (.aload_n 0, 1) := by decide +kernel
theorem d_Reader_readNot_46 : decode b_Reader_readNot 46 = .ok (.bipush (60), 2) := by decide +kernel
theorem d_Reader_readNot_48 : decode b_Reader_readNot 48 = .ok (.invokevirtual 83, 3) := by decide +kernel
theorem d_Reader_readNot_51 : decode b_Reader_readNot 51 = .ok (.ifCond .ne 12, 3) := by decide +kernel
theorem d_Reader_readNot_54 : decode b_Reader_readNot 54 = .ok (.aload_n 0, 1) := by decide +kernel
theorem d_Reader_readNot_55 : decode b_Reader_readNot 55 = .ok (.bipush (61), 2) := by decide +kernel
theorem d_Reader_readNot_57 : decode b_Reader_readNot 57 = .ok (.invokevirtual 83, 3) := by decide +kernel
theorem d_Reader_readNot_60 : decode b_Reader_readNot 60 = .ok (.ifCond .eq 36, 3) := by decide +kernel
theorem d_Reader_readNot_63 : decode b_Reader_readNot 63 = .ok (.aload_n 0, 1) := by decide +kernel
theorem d_Reader_readNot_64 : decode b_Reader_readNot 64 = .ok (.getfield 74, 3) := by decide +kernel
theorem d_Reader_readNot_67 : decode b_Reader_readNot 67 = .ok (.bipush (60), 2) := by decide +kernel
theorem d_Reader_readNot_69 : decode b_Reader_readNot 69 = .ok (.if_icmp .ne 9, 3) := by decide +kernel
theorem d_Reader_readNot_72 : decode b_Reader_readNot 72 = .ok (.sipush (20002), 3) := by decide +kernel
theorem d_Reader_readNot_75 : decode b_Reader_readNot 75 = .ok (.goto 6, 3) := by decide +kernel
theorem d_Reader_readNot_78 : decode b_Reader_readNot 78 = .ok (.sipush (20003), 3) := by decide +kernel
theorem d_Reader_readNot_81 : decode b_Reader_readNot 81 = .ok (.istore_n 2, 1) := by decide +kernel
theorem d_Reader_readNot_82 : decode b_Reader_readNot 82 = .ok (.aload_n 0, 1) := by decide +kernel
theorem d_Reader_readNot_83 : decode b_Reader_readNot 83 = .ok (.invokevirtual 53, 3) := by decide +kernel
theorem d_Reader_readNot_86 : decode b_Reader_readNot 86 = .ok (.aload_n 0, 1) := by decide +kernel
theorem d_Reader_readNot_87 : decode b_Reader_readNot 87 = .ok (.aload_n 1, 1) := by decide +kernel
theorem d_Reader_readNot_88 : decode b_Reader_readNot 88 = .ok (.invokevirtual 96, 3) := by decide +kernel
theorem d_Reader_readNot_91 : decode b_Reader_readNot 91 = .ok (.aload_n 1, 1) := by decide +kernel
theorem d_Reader_readNot_92 : decode b_Reader_readNot 92 = .ok (.iload_n 2, 1) := by decide +kernel
theorem d_Reader_readNot_93 : decode b_Reader_readNot 93 = .ok (.invokevirtual 87, 3) := by decide +kernel
theorem d_Reader_readNot_96 : decode b_Reader_readNot 96 = .ok (.return_, 1) := by decide +kernel
abbrev b_Reader_readSum : ByteArray := prog_4_method_13_code
def y_Reader_readSum : MethodName := ⟨"RoundAndRound$Reader", "readSum", "(LRoundAndRound$Text;)V"⟩
theorem d_Reader_readSum_0 : decode b_Reader_readSum 0 = .ok (.aload_n 0, 1) := by decide +kernel
theorem d_Reader_readSum_1 : decode b_Reader_readSum 1 = .ok (.aload_n 1, 1) := by decide +kernel
theorem d_Reader_readSum_2 : decode b_Reader_readSum 2 = .ok (.invokevirtual 99, 3) := by decide +kernel
theorem d_Reader_readSum_5 : decode b_Reader_readSum 5 = .ok (.iconst 0, 1) := by decide +kernel
theorem d_Reader_readSum_6 : decode b_Reader_readSum 6 = .ok (.istore_n 2, 1) := by decide +kernel
theorem d_Reader_readSum_7 : decode b_Reader_readSum 7 = .ok (.iload_n 2, 1) := by decide +kernel
theorem d_Reader_readSum_8 : decode b_Reader_readSum 8 = .ok (.sipush (160), 3) := by decide +kernel
theorem d_Reader_readSum_11 : decode b_Reader_readSum 11 = .ok (.if_icmp .ge 60, 3) := by decide +kernel
theorem d_Reader_readSum_14 : decode b_Reader_readSum 14 = .ok (.aload_n 0, 1) := by decide +kernel
theorem d_Reader_readSum_15 : decode b_Reader_readSum 15 = .ok (.bipush (43), 2) := by decide +kernel
theorem d_Reader_readSum_17 : decode b_Reader_readSum 17 = .ok (.invokevirtual 83, 3) := by decide +kernel
theorem d_Reader_readSum_20 : decode b_Reader_readSum 20 = .ok (.ifCond .ne 12, 3) := by decide +kernel
theorem d_Reader_readSum_23 : decode b_Reader_readSum 23 = .ok (.aload_n 0, 1) := by decide +kernel
theorem d_Reader_readSum_24 : decode b_Reader_readSum 24 = .ok (.bipush (45), 2) := by decide +kernel
theorem d_Reader_readSum_26 : decode b_Reader_readSum 26 = .ok (.invokevirtual 83, 3) := by decide +kernel
theorem d_Reader_readSum_29 : decode b_Reader_readSum 29 = .ok (.ifCond .eq 42, 3) := by decide +kernel
theorem d_Reader_readSum_32 : decode b_Reader_readSum 32 = .ok (.aload_n 0, 1) := by decide +kernel
theorem d_Reader_readSum_33 : decode b_Reader_readSum 33 = .ok (.getfield 74, 3) := by decide +kernel
theorem d_Reader_readSum_36 : decode b_Reader_readSum 36 = .ok (.bipush (43), 2) := by decide +kernel
theorem d_Reader_readSum_38 : decode b_Reader_readSum 38 = .ok (.if_icmp .ne 9, 3) := by decide +kernel
theorem d_Reader_readSum_41 : decode b_Reader_readSum 41 = .ok (.sipush (20004), 3) := by decide +kernel
theorem d_Reader_readSum_44 : decode b_Reader_readSum 44 = .ok (.goto 6, 3) := by decide +kernel
theorem d_Reader_readSum_47 : decode b_Reader_readSum 47 = .ok (.sipush (20005), 3) := by decide +kernel
theorem d_Reader_readSum_50 : decode b_Reader_readSum 50 = .ok (.istore_n 3, 1) := by decide +kernel
theorem d_Reader_readSum_51 : decode b_Reader_readSum 51 = .ok (.aload_n 0, 1) := by decide +kernel
theorem d_Reader_readSum_52 : decode b_Reader_readSum 52 = .ok (.invokevirtual 53, 3) := by decide +kernel
theorem d_Reader_readSum_55 : decode b_Reader_readSum 55 = .ok (.aload_n 0, 1) := by decide +kernel
theorem d_Reader_readSum_56 : decode b_Reader_readSum 56 = .ok (.aload_n 1, 1) := by decide +kernel
theorem d_Reader_readSum_57 : decode b_Reader_readSum 57 = .ok (.invokevirtual 99, 3) := by decide +kernel
theorem d_Reader_readSum_60 : decode b_Reader_readSum 60 = .ok (.aload_n 1, 1) := by decide +kernel
theorem d_Reader_readSum_61 : decode b_Reader_readSum 61 = .ok (.iload_n 3, 1) := by decide +kernel
theorem d_Reader_readSum_62 : decode b_Reader_readSum 62 = .ok (.invokevirtual 87, 3) := by decide +kernel
theorem d_Reader_readSum_65 : decode b_Reader_readSum 65 = .ok (.iinc 2 (1), 3) := by decide +kernel
theorem d_Reader_readSum_68 : decode b_Reader_readSum 68 = .ok (.goto (-61), 3) := by decide +kernel
theorem d_Reader_readSum_71 : decode b_Reader_readSum 71 = .ok (.return_, 1) := by decide +kernel
abbrev b_Reader_readTerm : ByteArray := prog_4_method_14_code
def y_Reader_readTerm : MethodName := ⟨"RoundAndRound$Reader", "readTerm", "(LRoundAndRound$Text;)V"⟩
theorem d_Reader_readTerm_0 : decode b_Reader_readTerm 0 = .ok (.aload_n 0, 1) := by decide +kernel
theorem d_Reader_readTerm_1 : decode b_Reader_readTerm 1 = .ok (.aload_n 1, 1) := by decide +kernel
theorem d_Reader_readTerm_2 : decode b_Reader_readTerm 2 = .ok (.invokevirtual 102, 3) := by decide +kernel
theorem d_Reader_readTerm_5 : decode b_Reader_readTerm 5 = .ok (.iconst 0, 1) := by decide +kernel
theorem d_Reader_readTerm_6 : decode b_Reader_readTerm 6 = .ok (.istore_n 2, 1) := by decide +kernel
theorem d_Reader_readTerm_7 : decode b_Reader_readTerm 7 = .ok (.iload_n 2, 1) := by decide +kernel
theorem d_Reader_readTerm_8 : decode b_Reader_readTerm 8 = .ok (.sipush (160), 3) := by decide +kernel
theorem d_Reader_readTerm_11 : decode b_Reader_readTerm 11 = .ok (.if_icmp .ge 34, 3) := by decide +kernel
theorem d_Reader_readTerm_14 : decode b_Reader_readTerm 14 = .ok (.aload_n 0, 1) := by decide +kernel
theorem d_Reader_readTerm_15 : decode b_Reader_readTerm 15 = .ok (.bipush (42), 2) := by decide +kernel
theorem d_Reader_readTerm_17 : decode b_Reader_readTerm 17 = .ok (.invokevirtual 83, 3) := by decide +kernel
theorem d_Reader_readTerm_20 : decode b_Reader_readTerm 20 = .ok (.ifCond .eq 25, 3) := by decide +kernel
theorem d_Reader_readTerm_23 : decode b_Reader_readTerm 23 = .ok (.aload_n 0, 1) := by decide +kernel
theorem d_Reader_readTerm_24 : decode b_Reader_readTerm 24 = .ok (.invokevirtual 53, 3) := by decide +kernel
theorem d_Reader_readTerm_27 : decode b_Reader_readTerm 27 = .ok (.aload_n 0, 1) := by decide +kernel
theorem d_Reader_readTerm_28 : decode b_Reader_readTerm 28 = .ok (.aload_n 1, 1) := by decide +kernel
theorem d_Reader_readTerm_29 : decode b_Reader_readTerm 29 = .ok (.invokevirtual 102, 3) := by decide +kernel
theorem d_Reader_readTerm_32 : decode b_Reader_readTerm 32 = .ok (.aload_n 1, 1) := by decide +kernel
theorem d_Reader_readTerm_33 : decode b_Reader_readTerm 33 = .ok (.sipush (20006), 3) := by decide +kernel
theorem d_Reader_readTerm_36 : decode b_Reader_readTerm 36 = .ok (.invokevirtual 87, 3) := by decide +kernel
theorem d_Reader_readTerm_39 : decode b_Reader_readTerm 39 = .ok (.iinc 2 (1), 3) := by decide +kernel
theorem d_Reader_readTerm_42 : decode b_Reader_readTerm 42 = .ok (.goto (-35), 3) := by decide +kernel
theorem d_Reader_readTerm_45 : decode b_Reader_readTerm 45 = .ok (.return_, 1) := by decide +kernel
abbrev b_Reader_readOne : ByteArray := prog_4_method_15_code
def y_Reader_readOne : MethodName := ⟨"RoundAndRound$Reader", "readOne", "(LRoundAndRound$Text;)V"⟩
theorem d_Reader_readOne_0 : decode b_Reader_readOne 0 = .ok (.aload_n 0, 1) := by decide +kernel
theorem d_Reader_readOne_1 : decode b_Reader_readOne 1 = .ok (.invokevirtual 67, 3) := by decide +kernel
theorem d_Reader_readOne_4 : decode b_Reader_readOne 4 = .ok (.ifCond .eq 4, 3) := by decide +kernel
theorem d_Reader_readOne_7 : decode b_Reader_readOne 7 = .ok (.return_, 1) := by decide +kernel
theorem d_Reader_readOne_8 : decode b_Reader_readOne 8 = .ok (.aload_n 0, 1) := by decide +kernel
theorem d_Reader_readOne_9 : decode b_Reader_readOne 9 = .ok (.getfield 74, 3) := by decide +kernel
theorem d_Reader_readOne_12 : decode b_Reader_readOne 12 = .ok (.iconst 1, 1) := by decide +kernel
theorem d_Reader_readOne_13 : decode b_Reader_readOne 13 = .ok (.if_icmp .ne 18, 3) := by decide +kernel
theorem d_Reader_readOne_16 : decode b_Reader_readOne 16 = .ok (.aload_n 1, 1) := by decide +kernel
theorem d_Reader_readOne_17 : decode b_Reader_readOne 17 = .ok (.aload_n 0, 1) := by decide +kernel
theorem d_Reader_readOne_18 : decode b_Reader_readOne 18 = .ok (.getfield 105, 3) := by decide +kernel
theorem d_Reader_readOne_21 : decode b_Reader_readOne 21 = .ok (.invokevirtual 87, 3) := by decide +kernel
theorem d_Reader_readOne_24 : decode b_Reader_readOne 24 = .ok (.aload_n 0, 1) := by decide +kernel
theorem d_Reader_readOne_25 : decode b_Reader_readOne 25 = .ok (.invokevirtual 53, 3) := by decide +kernel
theorem d_Reader_readOne_28 : decode b_Reader_readOne 28 = .ok (.goto 131, 3) := by decide +kernel
theorem d_Reader_readOne_31 : decode b_Reader_readOne 31 = .ok (.aload_n 0, 1) := by decide +kernel
theorem d_Reader_readOne_32 : decode b_Reader_readOne 32 = .ok (.getfield 74, 3) := by decide +kernel
theorem d_Reader_readOne_35 : decode b_Reader_readOne 35 = .ok (.sipush (134), 3) := by decide +kernel
theorem d_Reader_readOne_38 : decode b_Reader_readOne 38 = .ok (.if_icmp .lt 36, 3) := by decide +kernel
theorem d_Reader_readOne_41 : decode b_Reader_readOne 41 = .ok (.aload_n 0, 1) := by decide +kernel
theorem d_Reader_readOne_42 : decode b_Reader_readOne 42 = .ok (.getfield 74, 3) := by decide +kernel
theorem d_Reader_readOne_45 : decode b_Reader_readOne 45 = .ok (.sipush (139), 3) := by decide +kernel
theorem d_Reader_readOne_48 : decode b_Reader_readOne 48 = .ok (.if_icmp .gt 26, 3) := by decide +kernel
theorem d_Reader_readOne_51 : decode b_Reader_readOne 51 = .ok (.aload_n 1, 1) := by decide +kernel
theorem d_Reader_readOne_52 : decode b_Reader_readOne 52 = .ok (.sipush (10000), 3) := by decide +kernel
theorem d_Reader_readOne_55 : decode b_Reader_readOne 55 = .ok (.aload_n 0, 1) := by decide +kernel
theorem d_Reader_readOne_56 : decode b_Reader_readOne 56 = .ok (.getfield 74, 3) := by decide +kernel
theorem d_Reader_readOne_59 : decode b_Reader_readOne 59 = .ok (.iadd, 1) := by decide +kernel
theorem d_Reader_readOne_60 : decode b_Reader_readOne 60 = .ok (.sipush (134), 3) := by decide +kernel
theorem d_Reader_readOne_63 : decode b_Reader_readOne 63 = .ok (.isub, 1) := by decide +kernel
theorem d_Reader_readOne_64 : decode b_Reader_readOne 64 = .ok (.invokevirtual 87, 3) := by decide +kernel
theorem d_Reader_readOne_67 : decode b_Reader_readOne 67 = .ok (.aload_n 0, 1) := by decide +kernel
theorem d_Reader_readOne_68 : decode b_Reader_readOne 68 = .ok (.invokevirtual 53, 3) := by decide +kernel
theorem d_Reader_readOne_71 : decode b_Reader_readOne 71 = .ok (.goto 88, 3) := by decide +kernel
theorem d_Reader_readOne_74 : decode b_Reader_readOne 74 = .ok (.aload_n 0, 1) := by decide +kernel
theorem d_Reader_readOne_75 : decode b_Reader_readOne 75 = .ok (.getfield 74, 3) := by decide +kernel
theorem d_Reader_readOne_78 : decode b_Reader_readOne 78 = .ok (.bipush (45), 2) := by decide +kernel
theorem d_Reader_readOne_80 : decode b_Reader_readOne 80 = .ok (.if_icmp .ne 35, 3) := by decide +kernel
theorem d_Reader_readOne_83 : decode b_Reader_readOne 83 = .ok (.aload_n 0, 1) := by decide +kernel
theorem d_Reader_readOne_84 : decode b_Reader_readOne 84 = .ok (.invokevirtual 93, 3) := by decide +kernel
theorem d_Reader_readOne_87 : decode b_Reader_readOne 87 = .ok (.ifCond .eq 72, 3) := by decide +kernel
theorem d_Reader_readOne_90 : decode b_Reader_readOne 90 = .ok (.aload_n 0, 1) := by decide +kernel
theorem d_Reader_readOne_91 : decode b_Reader_readOne 91 = .ok (.aload_n 1, 1) := by decide +kernel
theorem d_Reader_readOne_92 : decode b_Reader_readOne 92 = .ok (.invokevirtual 102, 3) := by decide +kernel
theorem d_Reader_readOne_95 : decode b_Reader_readOne 95 = .ok (.aload_n 0, 1) := by decide +kernel
theorem d_Reader_readOne_96 : decode b_Reader_readOne 96 = .ok (.dup, 1) := by decide +kernel
theorem d_Reader_readOne_97 : decode b_Reader_readOne 97 = .ok (.getfield 47, 3) := by decide +kernel
theorem d_Reader_readOne_100 : decode b_Reader_readOne 100 = .ok (.iconst 1, 1) := by decide +kernel
theorem d_Reader_readOne_101 : decode b_Reader_readOne 101 = .ok (.isub, 1) := by decide +kernel
theorem d_Reader_readOne_102 : decode b_Reader_readOne 102 = .ok (.putfield 47, 3) := by decide +kernel
theorem d_Reader_readOne_105 : decode b_Reader_readOne 105 = .ok (.aload_n 1, 1) := by decide +kernel
theorem d_Reader_readOne_106 : decode b_Reader_readOne 106 = .ok (.sipush (30001), 3) := by decide +kernel
theorem d_Reader_readOne_109 : decode b_Reader_readOne 109 = .ok (.invokevirtual 87, 3) := by decide +kernel
theorem d_Reader_readOne_112 : decode b_Reader_readOne 112 = .ok (.goto 47, 3) := by decide +kernel
theorem d_Reader_readOne_115 : decode b_Reader_readOne 115 = .ok (.aload_n 0, 1) := by decide +kernel
theorem d_Reader_readOne_116 : decode b_Reader_readOne 116 = .ok (.getfield 74, 3) := by decide +kernel
theorem d_Reader_readOne_119 : decode b_Reader_readOne 119 = .ok (.bipush (40), 2) := by decide +kernel
theorem d_Reader_readOne_121 : decode b_Reader_readOne 121 = .ok (.if_icmp .ne 34, 3) := by decide +kernel
theorem d_Reader_readOne_124 : decode b_Reader_readOne 124 = .ok (.aload_n 0, 1) := by decide +kernel
theorem d_Reader_readOne_125 : decode b_Reader_readOne 125 = .ok (.invokevirtual 93, 3) := by decide +kernel
theorem d_Reader_readOne_128 : decode b_Reader_readOne 128 = .ok (.ifCond .eq 31, 3) := by decide +kernel
theorem d_Reader_readOne_131 : decode b_Reader_readOne 131 = .ok (.aload_n 0, 1) := by decide +kernel
theorem d_Reader_readOne_132 : decode b_Reader_readOne 132 = .ok (.aload_n 1, 1) := by decide +kernel
theorem d_Reader_readOne_133 : decode b_Reader_readOne 133 = .ok (.invokevirtual 60, 3) := by decide +kernel
theorem d_Reader_readOne_136 : decode b_Reader_readOne 136 = .ok (.aload_n 0, 1) := by decide +kernel
theorem d_Reader_readOne_137 : decode b_Reader_readOne 137 = .ok (.dup, 1) := by decide +kernel
theorem d_Reader_readOne_138 : decode b_Reader_readOne 138 = .ok (.getfield 47, 3) := by decide +kernel
theorem d_Reader_readOne_141 : decode b_Reader_readOne 141 = .ok (.iconst 1, 1) := by decide +kernel
theorem d_Reader_readOne_142 : decode b_Reader_readOne 142 = .ok (.isub, 1) := by decide +kernel
theorem d_Reader_readOne_143 : decode b_Reader_readOne 143 = .ok (.putfield 47, 3) := by decide +kernel
theorem d_Reader_readOne_146 : decode b_Reader_readOne 146 = .ok (.aload_n 0, 1) := by decide +kernel
theorem d_Reader_readOne_147 : decode b_Reader_readOne 147 = .ok (.bipush (41), 2) := by decide +kernel
theorem d_Reader_readOne_149 : decode b_Reader_readOne 149 = .ok (.invokevirtual 56, 3) := by decide +kernel
theorem d_Reader_readOne_152 : decode b_Reader_readOne 152 = .ok (.goto 7, 3) := by decide +kernel
theorem d_Reader_readOne_155 : decode b_Reader_readOne 155 = .ok (.aload_n 0, 1) := by decide +kernel
theorem d_Reader_readOne_156 : decode b_Reader_readOne 156 = .ok (.invokevirtual 77, 3) := by decide +kernel
theorem d_Reader_readOne_159 : decode b_Reader_readOne 159 = .ok (.return_, 1) := by decide +kernel
abbrev b_Reader_opened : ByteArray := prog_4_method_16_code
def y_Reader_opened : MethodName := ⟨"RoundAndRound$Reader", "opened", "()Z"⟩
theorem d_Reader_opened_0 : decode b_Reader_opened 0 = .ok (.aload_n 0, 1) := by decide +kernel
theorem d_Reader_opened_1 : decode b_Reader_opened 1 = .ok (.getfield 47, 3) := by decide +kernel
theorem d_Reader_opened_4 : decode b_Reader_opened 4 = .ok (.iconst 5, 1) := by decide +kernel
theorem d_Reader_opened_5 : decode b_Reader_opened 5 = .ok (.if_icmp .lt 9, 3) := by decide +kernel
theorem d_Reader_opened_8 : decode b_Reader_opened 8 = .ok (.aload_n 0, 1) := by decide +kernel
theorem d_Reader_opened_9 : decode b_Reader_opened 9 = .ok (.invokevirtual 77, 3) := by decide +kernel
theorem d_Reader_opened_12 : decode b_Reader_opened 12 = .ok (.iconst 0, 1) := by decide +kernel
theorem d_Reader_opened_13 : decode b_Reader_opened 13 = .ok (.ireturn, 1) := by decide +kernel
theorem d_Reader_opened_14 : decode b_Reader_opened 14 = .ok (.aload_n 0, 1) := by decide +kernel
theorem d_Reader_opened_15 : decode b_Reader_opened 15 = .ok (.dup, 1) := by decide +kernel
theorem d_Reader_opened_16 : decode b_Reader_opened 16 = .ok (.getfield 47, 3) := by decide +kernel
theorem d_Reader_opened_19 : decode b_Reader_opened 19 = .ok (.iconst 1, 1) := by decide +kernel
theorem d_Reader_opened_20 : decode b_Reader_opened 20 = .ok (.iadd, 1) := by decide +kernel
theorem d_Reader_opened_21 : decode b_Reader_opened 21 = .ok (.putfield 47, 3) := by decide +kernel
theorem d_Reader_opened_24 : decode b_Reader_opened 24 = .ok (.aload_n 0, 1) := by decide +kernel
theorem d_Reader_opened_25 : decode b_Reader_opened 25 = .ok (.invokevirtual 53, 3) := by decide +kernel
theorem d_Reader_opened_28 : decode b_Reader_opened 28 = .ok (.iconst 1, 1) := by decide +kernel
theorem d_Reader_opened_29 : decode b_Reader_opened 29 = .ok (.ireturn, 1) := by decide +kernel
abbrev b_Reader_advance : ByteArray := prog_4_method_17_code
def y_Reader_advance : MethodName := ⟨"RoundAndRound$Reader", "advance", "()V"⟩
theorem d_Reader_advance_0 : decode b_Reader_advance 0 = .ok (.iconst 0, 1) := by decide +kernel
theorem d_Reader_advance_1 : decode b_Reader_advance 1 = .ok (.istore_n 1, 1) := by decide +kernel
theorem d_Reader_advance_2 : decode b_Reader_advance 2 = .ok (.iload_n 1, 1) := by decide +kernel
theorem d_Reader_advance_3 : decode b_Reader_advance 3 = .ok (.sipush (160), 3) := by decide +kernel
theorem d_Reader_advance_6 : decode b_Reader_advance 6 = .ok (.if_icmp .ge 33, 3) := by decide +kernel
theorem d_Reader_advance_9 : decode b_Reader_advance 9 = .ok (.aload_n 0, 1) := by decide +kernel
theorem d_Reader_advance_10 : decode b_Reader_advance 10 = .ok (.aload_n 0, 1) := by decide +kernel
theorem d_Reader_advance_11 : decode b_Reader_advance 11 = .ok (.getfield 44, 3) := by decide +kernel
theorem d_Reader_advance_14 : decode b_Reader_advance 14 = .ok (.invokevirtual 108, 3) := by decide +kernel
theorem d_Reader_advance_17 : decode b_Reader_advance 17 = .ok (.invokestatic 112, 3) := by decide +kernel
theorem d_Reader_advance_20 : decode b_Reader_advance 20 = .ok (.ifCond .eq 19, 3) := by decide +kernel
theorem d_Reader_advance_23 : decode b_Reader_advance 23 = .ok (.aload_n 0, 1) := by decide +kernel
theorem d_Reader_advance_24 : decode b_Reader_advance 24 = .ok (.dup, 1) := by decide +kernel
theorem d_Reader_advance_25 : decode b_Reader_advance 25 = .ok (.getfield 44, 3) := by decide +kernel
theorem d_Reader_advance_28 : decode b_Reader_advance 28 = .ok (.iconst 1, 1) := by decide +kernel
theorem d_Reader_advance_29 : decode b_Reader_advance 29 = .ok (.iadd, 1) := by decide +kernel
theorem d_Reader_advance_30 : decode b_Reader_advance 30 = .ok (.putfield 44, 3) := by decide +kernel
theorem d_Reader_advance_33 : decode b_Reader_advance 33 = .ok (.iinc 1 (1), 3) := by decide +kernel
theorem d_Reader_advance_36 : decode b_Reader_advance 36 = .ok (.goto (-34), 3) := by decide +kernel
theorem d_Reader_advance_39 : decode b_Reader_advance 39 = .ok (.aload_n 0, 1) := by decide +kernel
theorem d_Reader_advance_40 : decode b_Reader_advance 40 = .ok (.aload_n 0, 1) := by decide +kernel
theorem d_Reader_advance_41 : decode b_Reader_advance 41 = .ok (.getfield 44, 3) := by decide +kernel
theorem d_Reader_advance_44 : decode b_Reader_advance 44 = .ok (.putfield 71, 3) := by decide +kernel
theorem d_Reader_advance_47 : decode b_Reader_advance 47 = .ok (.aload_n 0, 1) := by decide +kernel
theorem d_Reader_advance_48 : decode b_Reader_advance 48 = .ok (.aload_n 0, 1) := by decide +kernel
theorem d_Reader_advance_49 : decode b_Reader_advance 49 = .ok (.getfield 44, 3) := by decide +kernel
theorem d_Reader_advance_52 : decode b_Reader_advance 52 = .ok (.invokevirtual 108, 3) := by decide +kernel
theorem d_Reader_advance_55 : decode b_Reader_advance 55 = .ok (.istore_n 1, 1) := by decide +kernel
theorem d_Reader_advance_56 : decode b_Reader_advance 56 = .ok (.iload_n 1, 1) := by decide +kernel
theorem d_Reader_advance_57 : decode b_Reader_advance 57 = .ok (.ifCond .ge 11, 3) := by decide +kernel
theorem d_Reader_advance_60 : decode b_Reader_advance 60 = .ok (.aload_n 0, 1) := by decide +kernel
theorem d_Reader_advance_61 : decode b_Reader_advance 61 = .ok (.iconst 0, 1) := by decide +kernel
theorem d_Reader_advance_62 : decode b_Reader_advance 62 = .ok (.putfield 74, 3) := by decide +kernel
theorem d_Reader_advance_65 : decode b_Reader_advance 65 = .ok (.goto 57, 3) := by decide +kernel
theorem d_Reader_advance_68 : decode b_Reader_advance 68 = .ok (.iload_n 1, 1) := by decide +kernel
theorem d_Reader_advance_69 : decode b_Reader_advance 69 = .ok (.invokestatic 115, 3) := by decide +kernel
theorem d_Reader_advance_72 : decode b_Reader_advance 72 = .ok (.ifCond .eq 10, 3) := by decide +kernel
theorem d_Reader_advance_75 : decode b_Reader_advance 75 = .ok (.aload_n 0, 1) := by decide +kernel
theorem d_Reader_advance_76 : decode b_Reader_advance 76 = .ok (.invokevirtual 118, 3) := by decide +kernel
theorem d_Reader_advance_79 : decode b_Reader_advance 79 = .ok (.goto 43, 3) := by decide +kernel
theorem d_Reader_advance_82 : decode b_Reader_advance 82 = .ok (.iload_n 1, 1) := by decide +kernel
theorem d_Reader_advance_83 : decode b_Reader_advance 83 = .ok (.invokestatic 121, 3) := by decide +kernel
theorem d_Reader_advance_86 : decode b_Reader_advance 86 = .ok (.ifCond .eq 10, 3) := by decide +kernel
theorem d_Reader_advance_89 : decode b_Reader_advance 89 = .ok (.aload_n 0, 1) := by decide +kernel
theorem d_Reader_advance_90 : decode b_Reader_advance 90 = .ok (.invokevirtual 124, 3) := by decide +kernel
theorem d_Reader_advance_93 : decode b_Reader_advance 93 = .ok (.goto 29, 3) := by decide +kernel
theorem d_Reader_advance_96 : decode b_Reader_advance 96 = .ok (.aload_n 0, 1) := by decide +kernel
theorem d_Reader_advance_97 : decode b_Reader_advance 97 = .ok (.dup, 1) := by decide +kernel
theorem d_Reader_advance_98 : decode b_Reader_advance 98 = .ok (.getfield 44, 3) := by decide +kernel
theorem d_Reader_advance_101 : decode b_Reader_advance 101 = .ok (.iconst 1, 1) := by decide +kernel
theorem d_Reader_advance_102 : decode b_Reader_advance 102 = .ok (.iadd, 1) := by decide +kernel
theorem d_Reader_advance_103 : decode b_Reader_advance 103 = .ok (.putfield 44, 3) := by decide +kernel
theorem d_Reader_advance_106 : decode b_Reader_advance 106 = .ok (.aload_n 0, 1) := by decide +kernel
theorem d_Reader_advance_107 : decode b_Reader_advance 107 = .ok (.iload_n 1, 1) := by decide +kernel
theorem d_Reader_advance_108 : decode b_Reader_advance 108 = .ok (.invokestatic 127, 3) := by decide +kernel
theorem d_Reader_advance_111 : decode b_Reader_advance 111 = .ok (.ifCond .eq 7, 3) := by decide +kernel
theorem d_Reader_advance_114 : decode b_Reader_advance 114 = .ok (.iload_n 1, 1) := by decide +kernel
theorem d_Reader_advance_115 : decode b_Reader_advance 115 = .ok (.goto 4, 3) := by decide +kernel
theorem d_Reader_advance_118 : decode b_Reader_advance 118 = .ok (.iconst (-1), 1) := by decide +kernel
theorem d_Reader_advance_119 : decode b_Reader_advance 119 = .ok (.putfield 74, 3) := by decide +kernel
theorem d_Reader_advance_122 : decode b_Reader_advance 122 = .ok (.return_, 1) := by decide +kernel
abbrev b_Reader_takeWord : ByteArray := prog_4_method_18_code
def y_Reader_takeWord : MethodName := ⟨"RoundAndRound$Reader", "takeWord", "()V"⟩
theorem d_Reader_takeWord_0 : decode b_Reader_takeWord 0 = .ok (.lconst 0, 1) := by decide +kernel
theorem d_Reader_takeWord_1 : decode b_Reader_takeWord 1 = .ok (.lstore_n 1, 1) := by decide +kernel
theorem d_Reader_takeWord_2 : decode b_Reader_takeWord 2 = .ok (.iconst 0, 1) := by decide +kernel
theorem d_Reader_takeWord_3 : decode b_Reader_takeWord 3 = .ok (.istore_n 3, 1) := by decide +kernel
theorem d_Reader_takeWord_4 : decode b_Reader_takeWord 4 = .ok (.iload_n 3, 1) := by decide +kernel
theorem d_Reader_takeWord_5 : decode b_Reader_takeWord 5 = .ok (.sipush (160), 3) := by decide +kernel
theorem d_Reader_takeWord_8 : decode b_Reader_takeWord 8 = .ok (.if_icmp .ge 67, 3) := by decide +kernel
theorem d_Reader_takeWord_11 : decode b_Reader_takeWord 11 = .ok (.aload_n 0, 1) := by decide +kernel
theorem d_Reader_takeWord_12 : decode b_Reader_takeWord 12 = .ok (.aload_n 0, 1) := by decide +kernel
theorem d_Reader_takeWord_13 : decode b_Reader_takeWord 13 = .ok (.getfield 44, 3) := by decide +kernel
theorem d_Reader_takeWord_16 : decode b_Reader_takeWord 16 = .ok (.invokevirtual 108, 3) := by decide +kernel
theorem d_Reader_takeWord_19 : decode b_Reader_takeWord 19 = .ok (.invokestatic 115, 3) := by decide +kernel
theorem d_Reader_takeWord_22 : decode b_Reader_takeWord 22 = .ok (.ifCond .eq 53, 3) := by decide +kernel
theorem d_Reader_takeWord_25 : decode b_Reader_takeWord 25 = .ok (.iload_n 3, 1) := by decide +kernel
theorem d_Reader_takeWord_26 : decode b_Reader_takeWord 26 = .ok (.bipush (6), 2) := by decide +kernel
theorem d_Reader_takeWord_28 : decode b_Reader_takeWord 28 = .ok (.if_icmp .ge 27, 3) := by decide +kernel
theorem d_Reader_takeWord_31 : decode b_Reader_takeWord 31 = .ok (.lload_n 1, 1) := by decide +kernel
theorem d_Reader_takeWord_32 : decode b_Reader_takeWord 32 = .ok (.ldc2_w 31, 3) := by decide +kernel
theorem d_Reader_takeWord_35 : decode b_Reader_takeWord 35 = .ok (.lmul, 1) := by decide +kernel
theorem d_Reader_takeWord_36 : decode b_Reader_takeWord 36 = .ok (.aload_n 0, 1) := by decide +kernel
theorem d_Reader_takeWord_37 : decode b_Reader_takeWord 37 = .ok (.aload_n 0, 1) := by decide +kernel
theorem d_Reader_takeWord_38 : decode b_Reader_takeWord 38 = .ok (.getfield 44, 3) := by decide +kernel
theorem d_Reader_takeWord_41 : decode b_Reader_takeWord 41 = .ok (.invokevirtual 108, 3) := by decide +kernel
theorem d_Reader_takeWord_44 : decode b_Reader_takeWord 44 = .ok (.i2l, 1) := by decide +kernel
theorem d_Reader_takeWord_45 : decode b_Reader_takeWord 45 = .ok (.ladd, 1) := by decide +kernel
theorem d_Reader_takeWord_46 : decode b_Reader_takeWord 46 = .ok (.ldc2_w 33, 3) := by decide +kernel
theorem d_Reader_takeWord_49 : decode b_Reader_takeWord 49 = .ok (.lsub, 1) := by decide +kernel
theorem d_Reader_takeWord_50 : decode b_Reader_takeWord 50 = .ok (.lconst 1, 1) := by decide +kernel
theorem d_Reader_takeWord_51 : decode b_Reader_takeWord 51 = .ok (.ladd, 1) := by decide +kernel
theorem d_Reader_takeWord_52 : decode b_Reader_takeWord 52 = .ok (.goto 6, 3) := by decide +kernel
theorem d_Reader_takeWord_55 : decode b_Reader_takeWord 55 = .ok (.ldc2_w 130, 3) := by decide +kernel
theorem d_Reader_takeWord_58 : decode b_Reader_takeWord 58 = .ok (.lstore_n 1, 1) := by decide +kernel
theorem d_Reader_takeWord_59 : decode b_Reader_takeWord 59 = .ok (.aload_n 0, 1) := by decide +kernel
theorem d_Reader_takeWord_60 : decode b_Reader_takeWord 60 = .ok (.dup, 1) := by decide +kernel
theorem d_Reader_takeWord_61 : decode b_Reader_takeWord 61 = .ok (.getfield 44, 3) := by decide +kernel
theorem d_Reader_takeWord_64 : decode b_Reader_takeWord 64 = .ok (.iconst 1, 1) := by decide +kernel
theorem d_Reader_takeWord_65 : decode b_Reader_takeWord 65 = .ok (.iadd, 1) := by decide +kernel
theorem d_Reader_takeWord_66 : decode b_Reader_takeWord 66 = .ok (.putfield 44, 3) := by decide +kernel
theorem d_Reader_takeWord_69 : decode b_Reader_takeWord 69 = .ok (.iinc 3 (1), 3) := by decide +kernel
theorem d_Reader_takeWord_72 : decode b_Reader_takeWord 72 = .ok (.goto (-68), 3) := by decide +kernel
theorem d_Reader_takeWord_75 : decode b_Reader_takeWord 75 = .ok (.aload_n 0, 1) := by decide +kernel
theorem d_Reader_takeWord_76 : decode b_Reader_takeWord 76 = .ok (.iconst (-1), 1) := by decide +kernel
theorem d_Reader_takeWord_77 : decode b_Reader_takeWord 77 = .ok (.putfield 74, 3) := by decide +kernel
theorem d_Reader_takeWord_80 : decode b_Reader_takeWord 80 = .ok (.iconst 0, 1) := by decide +kernel
theorem d_Reader_takeWord_81 : decode b_Reader_takeWord 81 = .ok (.istore_n 3, 1) := by decide +kernel
theorem d_Reader_takeWord_82 : decode b_Reader_takeWord 82 = .ok (.iload_n 3, 1) := by decide +kernel
theorem d_Reader_takeWord_83 : decode b_Reader_takeWord 83 = .ok (.aload_n 0, 1) := by decide +kernel
theorem d_Reader_takeWord_84 : decode b_Reader_takeWord 84 = .ok (.getfield 15, 3) := by decide +kernel
theorem d_Reader_takeWord_87 : decode b_Reader_takeWord 87 = .ok (.arraylength, 1) := by decide +kernel
theorem d_Reader_takeWord_88 : decode b_Reader_takeWord 88 = .ok (.if_icmp .ge 36, 3) := by decide +kernel
theorem d_Reader_takeWord_91 : decode b_Reader_takeWord 91 = .ok (.aload_n 0, 1) := by decide +kernel
theorem d_Reader_takeWord_92 : decode b_Reader_takeWord 92 = .ok (.aload_n 0, 1) := by decide +kernel
theorem d_Reader_takeWord_93 : decode b_Reader_takeWord 93 = .ok (.getfield 15, 3) := by decide +kernel
theorem d_Reader_takeWord_96 : decode b_Reader_takeWord 96 = .ok (.iload_n 3, 1) := by decide +kernel
theorem d_Reader_takeWord_97 : decode b_Reader_takeWord 97 = .ok (.laload, 1) := by decide +kernel
theorem d_Reader_takeWord_98 : decode b_Reader_takeWord 98 = .ok (.lload_n 1, 1) := by decide +kernel
theorem d_Reader_takeWord_99 : decode b_Reader_takeWord 99 = .ok (.lcmp, 1) := by decide +kernel
theorem d_Reader_takeWord_100 : decode b_Reader_takeWord 100 = .ok (.ifCond .ne 11, 3) := by decide +kernel
theorem d_Reader_takeWord_103 : decode b_Reader_takeWord 103 = .ok (.sipush (128), 3) := by decide +kernel
theorem d_Reader_takeWord_106 : decode b_Reader_takeWord 106 = .ok (.iload_n 3, 1) := by decide +kernel
theorem d_Reader_takeWord_107 : decode b_Reader_takeWord 107 = .ok (.iadd, 1) := by decide +kernel
theorem d_Reader_takeWord_108 : decode b_Reader_takeWord 108 = .ok (.goto 7, 3) := by decide +kernel
theorem d_Reader_takeWord_111 : decode b_Reader_takeWord 111 = .ok (.aload_n 0, 1) := by decide +kernel
theorem d_Reader_takeWord_112 : decode b_Reader_takeWord 112 = .ok (.getfield 74, 3) := by decide +kernel
theorem d_Reader_takeWord_115 : decode b_Reader_takeWord 115 = .ok (.putfield 74, 3) := by decide +kernel
theorem d_Reader_takeWord_118 : decode b_Reader_takeWord 118 = .ok (.iinc 3 (1), 3) := by decide +kernel
theorem d_Reader_takeWord_121 : decode b_Reader_takeWord 121 = .ok (.goto (-39), 3) := by decide +kernel
theorem d_Reader_takeWord_124 : decode b_Reader_takeWord 124 = .ok (.return_, 1) := by decide +kernel
abbrev b_Reader_takeNumber : ByteArray := prog_4_method_19_code
def y_Reader_takeNumber : MethodName := ⟨"RoundAndRound$Reader", "takeNumber", "()V"⟩
theorem d_Reader_takeNumber_0 : decode b_Reader_takeNumber 0 = .ok (.aload_n 0, 1) := by decide +kernel
theorem d_Reader_takeNumber_1 : decode b_Reader_takeNumber 1 = .ok (.iconst 0, 1) := by decide +kernel
theorem d_Reader_takeNumber_2 : decode b_Reader_takeNumber 2 = .ok (.putfield 105, 3) := by decide +kernel
theorem d_Reader_takeNumber_5 : decode b_Reader_takeNumber 5 = .ok (.iconst 0, 1) := by decide +kernel
theorem d_Reader_takeNumber_6 : decode b_Reader_takeNumber 6 = .ok (.istore_n 1, 1) := by decide +kernel
theorem d_Reader_takeNumber_7 : decode b_Reader_takeNumber 7 = .ok (.iload_n 1, 1) := by decide +kernel
theorem d_Reader_takeNumber_8 : decode b_Reader_takeNumber 8 = .ok (.sipush (160), 3) := by decide +kernel
theorem d_Reader_takeNumber_11 : decode b_Reader_takeNumber 11 = .ok (.if_icmp .ge 68, 3) := by decide +kernel
theorem d_Reader_takeNumber_14 : decode b_Reader_takeNumber 14 = .ok (.aload_n 0, 1) := by decide +kernel
theorem d_Reader_takeNumber_15 : decode b_Reader_takeNumber 15 = .ok (.aload_n 0, 1) := by decide +kernel
theorem d_Reader_takeNumber_16 : decode b_Reader_takeNumber 16 = .ok (.getfield 44, 3) := by decide +kernel
theorem d_Reader_takeNumber_19 : decode b_Reader_takeNumber 19 = .ok (.invokevirtual 108, 3) := by decide +kernel
theorem d_Reader_takeNumber_22 : decode b_Reader_takeNumber 22 = .ok (.invokestatic 121, 3) := by decide +kernel
theorem d_Reader_takeNumber_25 : decode b_Reader_takeNumber 25 = .ok (.ifCond .eq 54, 3) := by decide +kernel
theorem d_Reader_takeNumber_28 : decode b_Reader_takeNumber 28 = .ok (.aload_n 0, 1) := by decide +kernel
theorem d_Reader_takeNumber_29 : decode b_Reader_takeNumber 29 = .ok (.iload_n 1, 1) := by decide +kernel
theorem d_Reader_takeNumber_30 : decode b_Reader_takeNumber 30 = .ok (.iconst 4, 1) := by decide +kernel
theorem d_Reader_takeNumber_31 : decode b_Reader_takeNumber 31 = .ok (.if_icmp .ge 25, 3) := by decide +kernel
theorem d_Reader_takeNumber_34 : decode b_Reader_takeNumber 34 = .ok (.bipush (10), 2) := by decide +kernel
theorem d_Reader_takeNumber_36 : decode b_Reader_takeNumber 36 = .ok (.aload_n 0, 1) := by decide +kernel
theorem d_Reader_takeNumber_37 : decode b_Reader_takeNumber 37 = .ok (.getfield 105, 3) := by decide +kernel
theorem d_Reader_takeNumber_40 : decode b_Reader_takeNumber 40 = .ok (.imul, 1) := by decide +kernel
theorem d_Reader_takeNumber_41 : decode b_Reader_takeNumber 41 = .ok (.aload_n 0, 1) := by decide +kernel
theorem d_Reader_takeNumber_42 : decode b_Reader_takeNumber 42 = .ok (.aload_n 0, 1) := by decide +kernel
theorem d_Reader_takeNumber_43 : decode b_Reader_takeNumber 43 = .ok (.getfield 44, 3) := by decide +kernel
theorem d_Reader_takeNumber_46 : decode b_Reader_takeNumber 46 = .ok (.invokevirtual 108, 3) := by decide +kernel
theorem d_Reader_takeNumber_49 : decode b_Reader_takeNumber 49 = .ok (.iadd, 1) := by decide +kernel
theorem d_Reader_takeNumber_50 : decode b_Reader_takeNumber 50 = .ok (.bipush (48), 2) := by decide +kernel
theorem d_Reader_takeNumber_52 : decode b_Reader_takeNumber 52 = .ok (.isub, 1) := by decide +kernel
theorem d_Reader_takeNumber_53 : decode b_Reader_takeNumber 53 = .ok (.goto 7, 3) := by decide +kernel
theorem d_Reader_takeNumber_56 : decode b_Reader_takeNumber 56 = .ok (.aload_n 0, 1) := by decide +kernel
theorem d_Reader_takeNumber_57 : decode b_Reader_takeNumber 57 = .ok (.getfield 105, 3) := by decide +kernel
theorem d_Reader_takeNumber_60 : decode b_Reader_takeNumber 60 = .ok (.putfield 105, 3) := by decide +kernel
theorem d_Reader_takeNumber_63 : decode b_Reader_takeNumber 63 = .ok (.aload_n 0, 1) := by decide +kernel
theorem d_Reader_takeNumber_64 : decode b_Reader_takeNumber 64 = .ok (.dup, 1) := by decide +kernel
theorem d_Reader_takeNumber_65 : decode b_Reader_takeNumber 65 = .ok (.getfield 44, 3) := by decide +kernel
theorem d_Reader_takeNumber_68 : decode b_Reader_takeNumber 68 = .ok (.iconst 1, 1) := by decide +kernel
theorem d_Reader_takeNumber_69 : decode b_Reader_takeNumber 69 = .ok (.iadd, 1) := by decide +kernel
theorem d_Reader_takeNumber_70 : decode b_Reader_takeNumber 70 = .ok (.putfield 44, 3) := by decide +kernel
theorem d_Reader_takeNumber_73 : decode b_Reader_takeNumber 73 = .ok (.iinc 1 (1), 3) := by decide +kernel
theorem d_Reader_takeNumber_76 : decode b_Reader_takeNumber 76 = .ok (.goto (-69), 3) := by decide +kernel
theorem d_Reader_takeNumber_79 : decode b_Reader_takeNumber 79 = .ok (.aload_n 0, 1) := by decide +kernel
theorem d_Reader_takeNumber_80 : decode b_Reader_takeNumber 80 = .ok (.aload_n 0, 1) := by decide +kernel
theorem d_Reader_takeNumber_81 : decode b_Reader_takeNumber 81 = .ok (.getfield 44, 3) := by decide +kernel
theorem d_Reader_takeNumber_84 : decode b_Reader_takeNumber 84 = .ok (.aload_n 0, 1) := by decide +kernel
theorem d_Reader_takeNumber_85 : decode b_Reader_takeNumber 85 = .ok (.getfield 71, 3) := by decide +kernel
theorem d_Reader_takeNumber_88 : decode b_Reader_takeNumber 88 = .ok (.isub, 1) := by decide +kernel
theorem d_Reader_takeNumber_89 : decode b_Reader_takeNumber 89 = .ok (.iconst 4, 1) := by decide +kernel
theorem d_Reader_takeNumber_90 : decode b_Reader_takeNumber 90 = .ok (.if_icmp .le 7, 3) := by decide +kernel
theorem d_Reader_takeNumber_93 : decode b_Reader_takeNumber 93 = .ok (.iconst (-1), 1) := by decide +kernel
theorem d_Reader_takeNumber_94 : decode b_Reader_takeNumber 94 = .ok (.goto 4, 3) := by decide +kernel
theorem d_Reader_takeNumber_97 : decode b_Reader_takeNumber 97 = .ok (.iconst 1, 1) := by decide +kernel
theorem d_Reader_takeNumber_98 : decode b_Reader_takeNumber 98 = .ok (.putfield 74, 3) := by decide +kernel
theorem d_Reader_takeNumber_101 : decode b_Reader_takeNumber 101 = .ok (.return_, 1) := by decide +kernel
abbrev b_Reader_isBlank : ByteArray := prog_4_method_20_code
def y_Reader_isBlank : MethodName := ⟨"RoundAndRound$Reader", "isBlank", "(I)Z"⟩
theorem d_Reader_isBlank_0 : decode b_Reader_isBlank 0 = .ok (.iload_n 0, 1) := by decide +kernel
theorem d_Reader_isBlank_1 : decode b_Reader_isBlank 1 = .ok (.bipush (32), 2) := by decide +kernel
theorem d_Reader_isBlank_3 : decode b_Reader_isBlank 3 = .ok (.if_icmp .eq 9, 3) := by decide +kernel
theorem d_Reader_isBlank_6 : decode b_Reader_isBlank 6 = .ok (.iload_n 0, 1) := by decide +kernel
theorem d_Reader_isBlank_7 : decode b_Reader_isBlank 7 = .ok (.bipush (10), 2) := by decide +kernel
theorem d_Reader_isBlank_9 : decode b_Reader_isBlank 9 = .ok (.if_icmp .ne 7, 3) := by decide +kernel
theorem d_Reader_isBlank_12 : decode b_Reader_isBlank 12 = .ok (.iconst 1, 1) := by decide +kernel
theorem d_Reader_isBlank_13 : decode b_Reader_isBlank 13 = .ok (.goto 4, 3) := by decide +kernel
theorem d_Reader_isBlank_16 : decode b_Reader_isBlank 16 = .ok (.iconst 0, 1) := by decide +kernel
theorem d_Reader_isBlank_17 : decode b_Reader_isBlank 17 = .ok (.ireturn, 1) := by decide +kernel
abbrev b_Reader_isLetter : ByteArray := prog_4_method_21_code
def y_Reader_isLetter : MethodName := ⟨"RoundAndRound$Reader", "isLetter", "(I)Z"⟩
theorem d_Reader_isLetter_0 : decode b_Reader_isLetter 0 = .ok (.iload_n 0, 1) := by decide +kernel
theorem d_Reader_isLetter_1 : decode b_Reader_isLetter 1 = .ok (.bipush (97), 2) := by decide +kernel
theorem d_Reader_isLetter_3 : decode b_Reader_isLetter 3 = .ok (.if_icmp .lt 13, 3) := by decide +kernel
theorem d_Reader_isLetter_6 : decode b_Reader_isLetter 6 = .ok (.iload_n 0, 1) := by decide +kernel
theorem d_Reader_isLetter_7 : decode b_Reader_isLetter 7 = .ok (.bipush (122), 2) := by decide +kernel
theorem d_Reader_isLetter_9 : decode b_Reader_isLetter 9 = .ok (.if_icmp .gt 7, 3) := by decide +kernel
theorem d_Reader_isLetter_12 : decode b_Reader_isLetter 12 = .ok (.iconst 1, 1) := by decide +kernel
theorem d_Reader_isLetter_13 : decode b_Reader_isLetter 13 = .ok (.goto 4, 3) := by decide +kernel
theorem d_Reader_isLetter_16 : decode b_Reader_isLetter 16 = .ok (.iconst 0, 1) := by decide +kernel
theorem d_Reader_isLetter_17 : decode b_Reader_isLetter 17 = .ok (.ireturn, 1) := by decide +kernel
abbrev b_Reader_isDigit : ByteArray := prog_4_method_22_code
def y_Reader_isDigit : MethodName := ⟨"RoundAndRound$Reader", "isDigit", "(I)Z"⟩
theorem d_Reader_isDigit_0 : decode b_Reader_isDigit 0 = .ok (.iload_n 0, 1) := by decide +kernel
theorem d_Reader_isDigit_1 : decode b_Reader_isDigit 1 = .ok (.bipush (48), 2) := by decide +kernel
theorem d_Reader_isDigit_3 : decode b_Reader_isDigit 3 = .ok (.if_icmp .lt 13, 3) := by decide +kernel
theorem d_Reader_isDigit_6 : decode b_Reader_isDigit 6 = .ok (.iload_n 0, 1) := by decide +kernel
theorem d_Reader_isDigit_7 : decode b_Reader_isDigit 7 = .ok (.bipush (57), 2) := by decide +kernel
theorem d_Reader_isDigit_9 : decode b_Reader_isDigit 9 = .ok (.if_icmp .gt 7, 3) := by decide +kernel
theorem d_Reader_isDigit_12 : decode b_Reader_isDigit 12 = .ok (.iconst 1, 1) := by decide +kernel
theorem d_Reader_isDigit_13 : decode b_Reader_isDigit 13 = .ok (.goto 4, 3) := by decide +kernel
theorem d_Reader_isDigit_16 : decode b_Reader_isDigit 16 = .ok (.iconst 0, 1) := by decide +kernel
theorem d_Reader_isDigit_17 : decode b_Reader_isDigit 17 = .ok (.ireturn, 1) := by decide +kernel
abbrev b_Reader_isSign : ByteArray := prog_4_method_23_code
def y_Reader_isSign : MethodName := ⟨"RoundAndRound$Reader", "isSign", "(I)Z"⟩
theorem d_Reader_isSign_0 : decode b_Reader_isSign 0 = .ok (.iload_n 0, 1) := by decide +kernel
theorem d_Reader_isSign_1 : decode b_Reader_isSign 1 = .ok (.bipush (40), 2) := by decide +kernel
theorem d_Reader_isSign_3 : decode b_Reader_isSign 3 = .ok (.if_icmp .eq 45, 3) := by decide +kernel
theorem d_Reader_isSign_6 : decode b_Reader_isSign 6 = .ok (.iload_n 0, 1) := by decide +kernel
theorem d_Reader_isSign_7 : decode b_Reader_isSign 7 = .ok (.bipush (41), 2) := by decide +kernel
theorem d_Reader_isSign_9 : decode b_Reader_isSign 9 = .ok (.if_icmp .eq 39, 3) := by decide +kernel
theorem d_Reader_isSign_12 : decode b_Reader_isSign 12 = .ok (.iload_n 0, 1) := by decide +kernel
theorem d_Reader_isSign_13 : decode b_Reader_isSign 13 = .ok (.bipush (59), 2) := by decide +kernel
theorem d_Reader_isSign_15 : decode b_Reader_isSign 15 = .ok (.if_icmp .eq 33, 3) := by decide +kernel
theorem d_Reader_isSign_18 : decode b_Reader_isSign 18 = .ok (.iload_n 0, 1) := by decide +kernel
theorem d_Reader_isSign_19 : decode b_Reader_isSign 19 = .ok (.bipush (43), 2) := by decide +kernel
theorem d_Reader_isSign_21 : decode b_Reader_isSign 21 = .ok (.if_icmp .eq 27, 3) := by decide +kernel
theorem d_Reader_isSign_24 : decode b_Reader_isSign 24 = .ok (.iload_n 0, 1) := by decide +kernel
theorem d_Reader_isSign_25 : decode b_Reader_isSign 25 = .ok (.bipush (45), 2) := by decide +kernel
theorem d_Reader_isSign_27 : decode b_Reader_isSign 27 = .ok (.if_icmp .eq 21, 3) := by decide +kernel
theorem d_Reader_isSign_30 : decode b_Reader_isSign 30 = .ok (.iload_n 0, 1) := by decide +kernel
theorem d_Reader_isSign_31 : decode b_Reader_isSign 31 = .ok (.bipush (42), 2) := by decide +kernel
theorem d_Reader_isSign_33 : decode b_Reader_isSign 33 = .ok (.if_icmp .eq 15, 3) := by decide +kernel
theorem d_Reader_isSign_36 : decode b_Reader_isSign 36 = .ok (.iload_n 0, 1) := by decide +kernel
theorem d_Reader_isSign_37 : decode b_Reader_isSign 37 = .ok (.bipush (60), 2) := by decide +kernel
theorem d_Reader_isSign_39 : decode b_Reader_isSign 39 = .ok (.if_icmp .eq 9, 3) := by decide +kernel
theorem d_Reader_isSign_42 : decode b_Reader_isSign 42 = .ok (.iload_n 0, 1) := by decide +kernel
theorem d_Reader_isSign_43 : decode b_Reader_isSign 43 = .ok (.bipush (61), 2) := by decide +kernel
theorem d_Reader_isSign_45 : decode b_Reader_isSign 45 = .ok (.if_icmp .ne 7, 3) := by decide +kernel
theorem d_Reader_isSign_48 : decode b_Reader_isSign 48 = .ok (.iconst 1, 1) := by decide +kernel
theorem d_Reader_isSign_49 : decode b_Reader_isSign 49 = .ok (.goto 4, 3) := by decide +kernel
theorem d_Reader_isSign_52 : decode b_Reader_isSign 52 = .ok (.iconst 0, 1) := by decide +kernel
theorem d_Reader_isSign_53 : decode b_Reader_isSign 53 = .ok (.ireturn, 1) := by decide +kernel
end
section
abbrev b_Sheet_init : ByteArray := prog_5_method_1_code
def y_Sheet_init : MethodName := ⟨"RoundAndRound$Sheet", "<init>", "()V"⟩
theorem d_Sheet_init_0 : decode b_Sheet_init 0 = .ok (.aload_n 0, 1) := by decide +kernel
theorem d_Sheet_init_1 : decode b_Sheet_init 1 = .ok (.invokespecial 3, 3) := by decide +kernel
theorem d_Sheet_init_4 : decode b_Sheet_init 4 = .ok (.aload_n 0, 1) := by decide +kernel
theorem d_Sheet_init_5 : decode b_Sheet_init 5 = .ok (.bipush (40), 2) := by decide +kernel
theorem d_Sheet_init_7 : decode b_Sheet_init 7 = .ok (.newarray .int, 2) := by decide +kernel
theorem d_Sheet_init_9 : decode b_Sheet_init 9 = .ok (.putfield 9, 3) := by decide +kernel
theorem d_Sheet_init_12 : decode b_Sheet_init 12 = .ok (.aload_n 0, 1) := by decide +kernel
theorem d_Sheet_init_13 : decode b_Sheet_init 13 = .ok (.iconst (-1), 1) := by decide +kernel
theorem d_Sheet_init_14 : decode b_Sheet_init 14 = .ok (.putfield 15, 3) := by decide +kernel
theorem d_Sheet_init_17 : decode b_Sheet_init 17 = .ok (.aload_n 0, 1) := by decide +kernel
theorem d_Sheet_init_18 : decode b_Sheet_init 18 = .ok (.iconst 0, 1) := by decide +kernel
theorem d_Sheet_init_19 : decode b_Sheet_init 19 = .ok (.putfield 19, 3) := by decide +kernel
theorem d_Sheet_init_22 : decode b_Sheet_init 22 = .ok (.return_, 1) := by decide +kernel
abbrev b_Sheet_begin : ByteArray := prog_5_method_2_code
def y_Sheet_begin : MethodName := ⟨"RoundAndRound$Sheet", "begin", "(II)V"⟩
theorem d_Sheet_begin_0 : decode b_Sheet_begin 0 = .ok (.aload_n 0, 1) := by decide +kernel
theorem d_Sheet_begin_1 : decode b_Sheet_begin 1 = .ok (.iload_n 1, 1) := by decide +kernel
theorem d_Sheet_begin_2 : decode b_Sheet_begin 2 = .ok (.putfield 15, 3) := by decide +kernel
theorem d_Sheet_begin_5 : decode b_Sheet_begin 5 = .ok (.aload_n 0, 1) := by decide +kernel
theorem d_Sheet_begin_6 : decode b_Sheet_begin 6 = .ok (.iload_n 2, 1) := by decide +kernel
theorem d_Sheet_begin_7 : decode b_Sheet_begin 7 = .ok (.iconst 0, 1) := by decide +kernel
theorem d_Sheet_begin_8 : decode b_Sheet_begin 8 = .ok (.aload_n 0, 1) := by decide +kernel
theorem d_Sheet_begin_9 : decode b_Sheet_begin 9 = .ok (.getfield 9, 3) := by decide +kernel
theorem d_Sheet_begin_12 : decode b_Sheet_begin 12 = .ok (.arraylength, 1) := by decide +kernel
theorem d_Sheet_begin_13 : decode b_Sheet_begin 13 = .ok (.invokestatic 22, 3) := by decide +kernel
theorem d_Sheet_begin_16 : decode b_Sheet_begin 16 = .ok (.putfield 19, 3) := by decide +kernel
theorem d_Sheet_begin_19 : decode b_Sheet_begin 19 = .ok (.iconst 0, 1) := by decide +kernel
theorem d_Sheet_begin_20 : decode b_Sheet_begin 20 = .ok (.istore_n 3, 1) := by decide +kernel
theorem d_Sheet_begin_21 : decode b_Sheet_begin 21 = .ok (.iload_n 3, 1) := by decide +kernel
theorem d_Sheet_begin_22 : decode b_Sheet_begin 22 = .ok (.aload_n 0, 1) := by decide +kernel
theorem d_Sheet_begin_23 : decode b_Sheet_begin 23 = .ok (.getfield 9, 3) := by decide +kernel
theorem d_Sheet_begin_26 : decode b_Sheet_begin 26 = .ok (.arraylength, 1) := by decide +kernel
theorem d_Sheet_begin_27 : decode b_Sheet_begin 27 = .ok (.if_icmp .ge 16, 3) := by decide +kernel
theorem d_Sheet_begin_30 : decode b_Sheet_begin 30 = .ok (.aload_n 0, 1) := by decide +kernel
theorem d_Sheet_begin_31 : decode b_Sheet_begin 31 = .ok (.getfield 9, 3) := by decide +kernel
theorem d_Sheet_begin_34 : decode b_Sheet_begin 34 = .ok (.iload_n 3, 1) := by decide +kernel
theorem d_Sheet_begin_35 : decode b_Sheet_begin 35 = .ok (.iconst 0, 1) := by decide +kernel
theorem d_Sheet_begin_36 : decode b_Sheet_begin 36 = .ok (.iastore, 1) := by decide +kernel
theorem d_Sheet_begin_37 : decode b_Sheet_begin 37 = .ok (.iinc 3 (1), 3) := by decide +kernel
theorem d_Sheet_begin_40 : decode b_Sheet_begin 40 = .ok (.goto (-19), 3) := by decide +kernel
theorem d_Sheet_begin_43 : decode b_Sheet_begin 43 = .ok (.return_, 1) := by decide +kernel
abbrev b_Sheet_isMissing : ByteArray := prog_5_method_3_code
def y_Sheet_isMissing : MethodName := ⟨"RoundAndRound$Sheet", "isMissing", "()Z"⟩
theorem d_Sheet_isMissing_0 : decode b_Sheet_isMissing 0 = .ok (.aload_n 0, 1) := by decide +kernel
theorem d_Sheet_isMissing_1 : decode b_Sheet_isMissing 1 = .ok (.getfield 15, 3) := by decide +kernel
theorem d_Sheet_isMissing_4 : decode b_Sheet_isMissing 4 = .ok (.iconst (-1), 1) := by decide +kernel
theorem d_Sheet_isMissing_5 : decode b_Sheet_isMissing 5 = .ok (.if_icmp .ne 7, 3) := by decide +kernel
theorem d_Sheet_isMissing_8 : decode b_Sheet_isMissing 8 = .ok (.iconst 1, 1) := by decide +kernel
theorem d_Sheet_isMissing_9 : decode b_Sheet_isMissing 9 = .ok (.goto 4, 3) := by decide +kernel
theorem d_Sheet_isMissing_12 : decode b_Sheet_isMissing 12 = .ok (.iconst 0, 1) := by decide +kernel
theorem d_Sheet_isMissing_13 : decode b_Sheet_isMissing 13 = .ok (.ireturn, 1) := by decide +kernel
abbrev b_Sheet_has : ByteArray := prog_5_method_4_code
def y_Sheet_has : MethodName := ⟨"RoundAndRound$Sheet", "has", "(I)Z"⟩
theorem d_Sheet_has_0 : decode b_Sheet_has 0 = .ok (.iload_n 1, 1) := by decide +kernel
theorem d_Sheet_has_1 : decode b_Sheet_has 1 = .ok (.ifCond .lt 24, 3) := by decide +kernel
theorem d_Sheet_has_4 : decode b_Sheet_has 4 = .ok (.iload_n 1, 1) := by decide +kernel
theorem d_Sheet_has_5 : decode b_Sheet_has 5 = .ok (.aload_n 0, 1) := by decide +kernel
theorem d_Sheet_has_6 : decode b_Sheet_has 6 = .ok (.getfield 19, 3) := by decide +kernel
theorem d_Sheet_has_9 : decode b_Sheet_has 9 = .ok (.if_icmp .ge 16, 3) := by decide +kernel
theorem d_Sheet_has_12 : decode b_Sheet_has 12 = .ok (.iload_n 1, 1) := by decide +kernel
theorem d_Sheet_has_13 : decode b_Sheet_has 13 = .ok (.aload_n 0, 1) := by decide +kernel
theorem d_Sheet_has_14 : decode b_Sheet_has 14 = .ok (.getfield 9, 3) := by decide +kernel
theorem d_Sheet_has_17 : decode b_Sheet_has 17 = .ok (.arraylength, 1) := by decide +kernel
theorem d_Sheet_has_18 : decode b_Sheet_has 18 = .ok (.if_icmp .ge 7, 3) := by decide +kernel
theorem d_Sheet_has_21 : decode b_Sheet_has 21 = .ok (.iconst 1, 1) := by decide +kernel
theorem d_Sheet_has_22 : decode b_Sheet_has 22 = .ok (.goto 4, 3) := by decide +kernel
theorem d_Sheet_has_25 : decode b_Sheet_has 25 = .ok (.iconst 0, 1) := by decide +kernel
theorem d_Sheet_has_26 : decode b_Sheet_has 26 = .ok (.ireturn, 1) := by decide +kernel
abbrev b_Sheet_hasRow : ByteArray := prog_5_method_5_code
def y_Sheet_hasRow : MethodName := ⟨"RoundAndRound$Sheet", "hasRow", "(II)Z"⟩
theorem d_Sheet_hasRow_0 : decode b_Sheet_hasRow 0 = .ok (.iload_n 2, 1) := by decide +kernel
theorem d_Sheet_hasRow_1 : decode b_Sheet_hasRow 1 = .ok (.ifCond .lt 29, 3) := by decide +kernel
theorem d_Sheet_hasRow_4 : decode b_Sheet_hasRow 4 = .ok (.iload_n 2, 1) := by decide +kernel
theorem d_Sheet_hasRow_5 : decode b_Sheet_hasRow 5 = .ok (.aload_n 0, 1) := by decide +kernel
theorem d_Sheet_hasRow_6 : decode b_Sheet_hasRow 6 = .ok (.getfield 19, 3) := by decide +kernel
theorem d_Sheet_hasRow_9 : decode b_Sheet_hasRow 9 = .ok (.if_icmp .gt 21, 3) := by decide +kernel
theorem d_Sheet_hasRow_12 : decode b_Sheet_hasRow 12 = .ok (.iload_n 1, 1) := by decide +kernel
theorem d_Sheet_hasRow_13 : decode b_Sheet_hasRow 13 = .ok (.ifCond .lt 17, 3) := by decide +kernel
theorem d_Sheet_hasRow_16 : decode b_Sheet_hasRow 16 = .ok (.iload_n 1, 1) := by decide +kernel
theorem d_Sheet_hasRow_17 : decode b_Sheet_hasRow 17 = .ok (.aload_n 0, 1) := by decide +kernel
theorem d_Sheet_hasRow_18 : decode b_Sheet_hasRow 18 = .ok (.getfield 19, 3) := by decide +kernel
theorem d_Sheet_hasRow_21 : decode b_Sheet_hasRow 21 = .ok (.iload_n 2, 1) := by decide +kernel
theorem d_Sheet_hasRow_22 : decode b_Sheet_hasRow 22 = .ok (.isub, 1) := by decide +kernel
theorem d_Sheet_hasRow_23 : decode b_Sheet_hasRow 23 = .ok (.if_icmp .gt 7, 3) := by decide +kernel
theorem d_Sheet_hasRow_26 : decode b_Sheet_hasRow 26 = .ok (.iconst 1, 1) := by decide +kernel
theorem d_Sheet_hasRow_27 : decode b_Sheet_hasRow 27 = .ok (.goto 4, 3) := by decide +kernel
theorem d_Sheet_hasRow_30 : decode b_Sheet_hasRow 30 = .ok (.iconst 0, 1) := by decide +kernel
theorem d_Sheet_hasRow_31 : decode b_Sheet_hasRow 31 = .ok (.ireturn, 1) := by decide +kernel
abbrev b_Sheet_get : ByteArray := prog_5_method_6_code
def y_Sheet_get : MethodName := ⟨"RoundAndRound$Sheet", "get", "(I)I"⟩
theorem d_Sheet_get_0 : decode b_Sheet_get 0 = .ok (.aload_n 0, 1) := by decide +kernel
theorem d_Sheet_get_1 : decode b_Sheet_get 1 = .ok (.iload_n 1, 1) := by decide +kernel
theorem d_Sheet_get_2 : decode b_Sheet_get 2 = .ok (.invokevirtual 26, 3) := by decide +kernel
theorem d_Sheet_get_5 : decode b_Sheet_get 5 = .ok (.ifCond .eq 12, 3) := by decide +kernel
theorem d_Sheet_get_8 : decode b_Sheet_get 8 = .ok (.aload_n 0, 1) := by decide +kernel
theorem d_Sheet_get_9 : decode b_Sheet_get 9 = .ok (.getfield 9, 3) := by decide +kernel
theorem d_Sheet_get_12 : decode b_Sheet_get 12 = .ok (.iload_n 1, 1) := by decide +kernel
theorem d_Sheet_get_13 : decode b_Sheet_get 13 = .ok (.iaload, 1) := by decide +kernel
theorem d_Sheet_get_14 : decode b_Sheet_get 14 = .ok (.goto 4, 3) := by decide +kernel
theorem d_Sheet_get_17 : decode b_Sheet_get 17 = .ok (.iconst 0, 1) := by decide +kernel
theorem d_Sheet_get_18 : decode b_Sheet_get 18 = .ok (.ireturn, 1) := by decide +kernel
abbrev b_Sheet_put : ByteArray := prog_5_method_7_code
def y_Sheet_put : MethodName := ⟨"RoundAndRound$Sheet", "put", "(II)V"⟩
theorem d_Sheet_put_0 : decode b_Sheet_put 0 = .ok (.aload_n 0, 1) := by decide +kernel
theorem d_Sheet_put_1 : decode b_Sheet_put 1 = .ok (.iload_n 1, 1) := by decide +kernel
theorem d_Sheet_put_2 : decode b_Sheet_put 2 = .ok (.invokevirtual 26, 3) := by decide +kernel
theorem d_Sheet_put_5 : decode b_Sheet_put 5 = .ok (.ifCond .eq 35, 3) := by decide +kernel
theorem d_Sheet_put_8 : decode b_Sheet_put 8 = .ok (.aload_n 0, 1) := by decide +kernel
theorem d_Sheet_put_9 : decode b_Sheet_put 9 = .ok (.getfield 9, 3) := by decide +kernel
theorem d_Sheet_put_12 : decode b_Sheet_put 12 = .ok (.iload_n 1, 1) := by decide +kernel
theorem d_Sheet_put_13 : decode b_Sheet_put 13 = .ok (.aload_n 0, 1) := by decide +kernel
theorem d_Sheet_put_14 : decode b_Sheet_put 14 = .ok (.getfield 15, 3) := by decide +kernel
theorem d_Sheet_put_17 : decode b_Sheet_put 17 = .ok (.ifCond .ne 8, 3) := by decide +kernel
theorem d_Sheet_put_20 : decode b_Sheet_put 20 = .ok (.iload_n 2, 1) := by decide +kernel
theorem d_Sheet_put_21 : decode b_Sheet_put 21 = .ok (.i2b, 1) := by decide +kernel
theorem d_Sheet_put_22 : decode b_Sheet_put 22 = .ok (.goto 17, 3) := by decide +kernel
theorem d_Sheet_put_25 : decode b_Sheet_put 25 = .ok (.aload_n 0, 1) := by decide +kernel
theorem d_Sheet_put_26 : decode b_Sheet_put 26 = .ok (.getfield 15, 3) := by decide +kernel
theorem d_Sheet_put_29 : decode b_Sheet_put 29 = .ok (.iconst 1, 1) := by decide +kernel
theorem d_Sheet_put_30 : decode b_Sheet_put 30 = .ok (.if_icmp .ne 8, 3) := by decide +kernel
theorem d_Sheet_put_33 : decode b_Sheet_put 33 = .ok (.iload_n 2, 1) := by decide +kernel
theorem d_Sheet_put_34 : decode b_Sheet_put 34 = .ok (.i2s, 1) := by decide +kernel
theorem d_Sheet_put_35 : decode b_Sheet_put 35 = .ok (.goto 4, 3) := by decide +kernel
theorem d_Sheet_put_38 : decode b_Sheet_put 38 = .ok (.iload_n 2, 1) := by decide +kernel
theorem d_Sheet_put_39 : decode b_Sheet_put 39 = .ok (.iastore, 1) := by decide +kernel
theorem d_Sheet_put_40 : decode b_Sheet_put 40 = .ok (.return_, 1) := by decide +kernel
end
section
abbrev b_Text_init : ByteArray := prog_6_method_1_code
def y_Text_init : MethodName := ⟨"RoundAndRound$Text", "<init>", "()V"⟩
theorem d_Text_init_0 : decode b_Text_init 0 = .ok (.aload_n 0, 1) := by decide +kernel
theorem d_Text_init_1 : decode b_Text_init 1 = .ok (.invokespecial 3, 3) := by decide +kernel
theorem d_Text_init_4 : decode b_Text_init 4 = .ok (.aload_n 0, 1) := by decide +kernel
theorem d_Text_init_5 : decode b_Text_init 5 = .ok (.sipush (160), 3) := by decide +kernel
theorem d_Text_init_8 : decode b_Text_init 8 = .ok (.newarray .int, 2) := by decide +kernel
theorem d_Text_init_10 : decode b_Text_init 10 = .ok (.putfield 9, 3) := by decide +kernel
theorem d_Text_init_13 : decode b_Text_init 13 = .ok (.aload_n 0, 1) := by decide +kernel
theorem d_Text_init_14 : decode b_Text_init 14 = .ok (.iconst 3, 1) := by decide +kernel
theorem d_Text_init_15 : decode b_Text_init 15 = .ok (.newarray .int, 2) := by decide +kernel
theorem d_Text_init_17 : decode b_Text_init 17 = .ok (.putfield 15, 3) := by decide +kernel
theorem d_Text_init_20 : decode b_Text_init 20 = .ok (.aload_n 0, 1) := by decide +kernel
theorem d_Text_init_21 : decode b_Text_init 21 = .ok (.bipush (40), 2) := by decide +kernel
theorem d_Text_init_23 : decode b_Text_init 23 = .ok (.newarray .int, 2) := by decide +kernel
theorem d_Text_init_25 : decode b_Text_init 25 = .ok (.putfield 18, 3) := by decide +kernel
theorem d_Text_init_28 : decode b_Text_init 28 = .ok (.return_, 1) := by decide +kernel
abbrev b_Text_clear : ByteArray := prog_6_method_2_code
def y_Text_clear : MethodName := ⟨"RoundAndRound$Text", "clear", "()V"⟩
theorem d_Text_clear_0 : decode b_Text_clear 0 = .ok (.aload_n 0, 1) := by decide +kernel
theorem d_Text_clear_1 : decode b_Text_clear 1 = .ok (.iconst 0, 1) := by decide +kernel
theorem d_Text_clear_2 : decode b_Text_clear 2 = .ok (.putfield 21, 3) := by decide +kernel
theorem d_Text_clear_5 : decode b_Text_clear 5 = .ok (.aload_n 0, 1) := by decide +kernel
theorem d_Text_clear_6 : decode b_Text_clear 6 = .ok (.iconst 0, 1) := by decide +kernel
theorem d_Text_clear_7 : decode b_Text_clear 7 = .ok (.putfield 25, 3) := by decide +kernel
theorem d_Text_clear_10 : decode b_Text_clear 10 = .ok (.return_, 1) := by decide +kernel
abbrev b_Text_add : ByteArray := prog_6_method_3_code
def y_Text_add : MethodName := ⟨"RoundAndRound$Text", "add", "(I)V"⟩
theorem d_Text_add_0 : decode b_Text_add 0 = .ok (.aload_n 0, 1) := by decide +kernel
theorem d_Text_add_1 : decode b_Text_add 1 = .ok (.getfield 21, 3) := by decide +kernel
theorem d_Text_add_4 : decode b_Text_add 4 = .ok (.ifCond .lt 35, 3) := by decide +kernel
theorem d_Text_add_7 : decode b_Text_add 7 = .ok (.aload_n 0, 1) := by decide +kernel
theorem d_Text_add_8 : decode b_Text_add 8 = .ok (.getfield 21, 3) := by decide +kernel
theorem d_Text_add_11 : decode b_Text_add 11 = .ok (.aload_n 0, 1) := by decide +kernel
theorem d_Text_add_12 : decode b_Text_add 12 = .ok (.getfield 9, 3) := by decide +kernel
theorem d_Text_add_15 : decode b_Text_add 15 = .ok (.arraylength, 1) := by decide +kernel
theorem d_Text_add_16 : decode b_Text_add 16 = .ok (.if_icmp .ge 23, 3) := by decide +kernel
theorem d_Text_add_19 : decode b_Text_add 19 = .ok (.aload_n 0, 1) := by decide +kernel
theorem d_Text_add_20 : decode b_Text_add 20 = .ok (.getfield 9, 3) := by decide +kernel
theorem d_Text_add_23 : decode b_Text_add 23 = .ok (.aload_n 0, 1) := by decide +kernel
theorem d_Text_add_24 : decode b_Text_add 24 = .ok (.getfield 21, 3) := by decide +kernel
theorem d_Text_add_27 : decode b_Text_add 27 = .ok (.iload_n 1, 1) := by decide +kernel
theorem d_Text_add_28 : decode b_Text_add 28 = .ok (.iastore, 1) := by decide +kernel
theorem d_Text_add_29 : decode b_Text_add 29 = .ok (.aload_n 0, 1) := by decide +kernel
theorem d_Text_add_30 : decode b_Text_add 30 = .ok (.dup, 1) := by decide +kernel
theorem d_Text_add_31 : decode b_Text_add 31 = .ok (.getfield 21, 3) := by decide +kernel
theorem d_Text_add_34 : decode b_Text_add 34 = .ok (.iconst 1, 1) := by decide +kernel
theorem d_Text_add_35 : decode b_Text_add 35 = .ok (.iadd, 1) := by decide +kernel
theorem d_Text_add_36 : decode b_Text_add 36 = .ok (.putfield 21, 3) := by decide +kernel
theorem d_Text_add_39 : decode b_Text_add 39 = .ok (.return_, 1) := by decide +kernel
abbrev b_Text_endPart : ByteArray := prog_6_method_4_code
def y_Text_endPart : MethodName := ⟨"RoundAndRound$Text", "endPart", "()V"⟩
theorem d_Text_endPart_0 : decode b_Text_endPart 0 = .ok (.aload_n 0, 1) := by decide +kernel
theorem d_Text_endPart_1 : decode b_Text_endPart 1 = .ok (.getfield 25, 3) := by decide +kernel
theorem d_Text_endPart_4 : decode b_Text_endPart 4 = .ok (.ifCond .lt 38, 3) := by decide +kernel
theorem d_Text_endPart_7 : decode b_Text_endPart 7 = .ok (.aload_n 0, 1) := by decide +kernel
theorem d_Text_endPart_8 : decode b_Text_endPart 8 = .ok (.getfield 25, 3) := by decide +kernel
theorem d_Text_endPart_11 : decode b_Text_endPart 11 = .ok (.aload_n 0, 1) := by decide +kernel
theorem d_Text_endPart_12 : decode b_Text_endPart 12 = .ok (.getfield 15, 3) := by decide +kernel
theorem d_Text_endPart_15 : decode b_Text_endPart 15 = .ok (.arraylength, 1) := by decide +kernel
theorem d_Text_endPart_16 : decode b_Text_endPart 16 = .ok (.if_icmp .ge 26, 3) := by decide +kernel
theorem d_Text_endPart_19 : decode b_Text_endPart 19 = .ok (.aload_n 0, 1) := by decide +kernel
theorem d_Text_endPart_20 : decode b_Text_endPart 20 = .ok (.getfield 15, 3) := by decide +kernel
theorem d_Text_endPart_23 : decode b_Text_endPart 23 = .ok (.aload_n 0, 1) := by decide +kernel
theorem d_Text_endPart_24 : decode b_Text_endPart 24 = .ok (.getfield 25, 3) := by decide +kernel
theorem d_Text_endPart_27 : decode b_Text_endPart 27 = .ok (.aload_n 0, 1) := by decide +kernel
theorem d_Text_endPart_28 : decode b_Text_endPart 28 = .ok (.getfield 21, 3) := by decide +kernel
theorem d_Text_endPart_31 : decode b_Text_endPart 31 = .ok (.iastore, 1) := by decide +kernel
theorem d_Text_endPart_32 : decode b_Text_endPart 32 = .ok (.aload_n 0, 1) := by decide +kernel
theorem d_Text_endPart_33 : decode b_Text_endPart 33 = .ok (.dup, 1) := by decide +kernel
theorem d_Text_endPart_34 : decode b_Text_endPart 34 = .ok (.getfield 25, 3) := by decide +kernel
theorem d_Text_endPart_37 : decode b_Text_endPart 37 = .ok (.iconst 1, 1) := by decide +kernel
theorem d_Text_endPart_38 : decode b_Text_endPart 38 = .ok (.iadd, 1) := by decide +kernel
theorem d_Text_endPart_39 : decode b_Text_endPart 39 = .ok (.putfield 25, 3) := by decide +kernel
theorem d_Text_endPart_42 : decode b_Text_endPart 42 = .ok (.return_, 1) := by decide +kernel
abbrev b_Text_partEnd : ByteArray := prog_6_method_5_code
def y_Text_partEnd : MethodName := ⟨"RoundAndRound$Text", "partEnd", "(I)I"⟩
theorem d_Text_partEnd_0 : decode b_Text_partEnd 0 = .ok (.iload_n 1, 1) := by decide +kernel
theorem d_Text_partEnd_1 : decode b_Text_partEnd 1 = .ok (.ifCond .lt 29, 3) := by decide +kernel
theorem d_Text_partEnd_4 : decode b_Text_partEnd 4 = .ok (.iload_n 1, 1) := by decide +kernel
theorem d_Text_partEnd_5 : decode b_Text_partEnd 5 = .ok (.aload_n 0, 1) := by decide +kernel
theorem d_Text_partEnd_6 : decode b_Text_partEnd 6 = .ok (.getfield 25, 3) := by decide +kernel
theorem d_Text_partEnd_9 : decode b_Text_partEnd 9 = .ok (.if_icmp .ge 21, 3) := by decide +kernel
theorem d_Text_partEnd_12 : decode b_Text_partEnd 12 = .ok (.iload_n 1, 1) := by decide +kernel
theorem d_Text_partEnd_13 : decode b_Text_partEnd 13 = .ok (.aload_n 0, 1) := by decide +kernel
theorem d_Text_partEnd_14 : decode b_Text_partEnd 14 = .ok (.getfield 15, 3) := by decide +kernel
theorem d_Text_partEnd_17 : decode b_Text_partEnd 17 = .ok (.arraylength, 1) := by decide +kernel
theorem d_Text_partEnd_18 : decode b_Text_partEnd 18 = .ok (.if_icmp .ge 12, 3) := by decide +kernel
theorem d_Text_partEnd_21 : decode b_Text_partEnd 21 = .ok (.aload_n 0, 1) := by decide +kernel
theorem d_Text_partEnd_22 : decode b_Text_partEnd 22 = .ok (.getfield 15, 3) := by decide +kernel
theorem d_Text_partEnd_25 : decode b_Text_partEnd 25 = .ok (.iload_n 1, 1) := by decide +kernel
theorem d_Text_partEnd_26 : decode b_Text_partEnd 26 = .ok (.iaload, 1) := by decide +kernel
theorem d_Text_partEnd_27 : decode b_Text_partEnd 27 = .ok (.goto 4, 3) := by decide +kernel
theorem d_Text_partEnd_30 : decode b_Text_partEnd 30 = .ok (.iconst 0, 1) := by decide +kernel
theorem d_Text_partEnd_31 : decode b_Text_partEnd 31 = .ok (.ireturn, 1) := by decide +kernel
abbrev b_Text_says : ByteArray := prog_6_method_6_code
def y_Text_says : MethodName := ⟨"RoundAndRound$Text", "says", "(ILRoundAndRound$Head;II)I"⟩
theorem d_Text_says_0 : decode b_Text_says 0 = .ok (.aload_n 0, 1) := by decide +kernel
theorem d_Text_says_1 : decode b_Text_says 1 = .ok (.iload_n 1, 1) := by decide +kernel
theorem d_Text_says_2 : decode b_Text_says 2 = .ok (.invokevirtual 28, 3) := by decide +kernel
theorem d_Text_says_5 : decode b_Text_says 5 = .ok (.aload_n 0, 1) := by decide +kernel
theorem d_Text_says_6 : decode b_Text_says 6 = .ok (.getfield 9, 3) := by decide +kernel
theorem d_Text_says_9 : decode b_Text_says 9 = .ok (.arraylength, 1) := by decide +kernel
theorem d_Text_says_10 : decode b_Text_says 10 = .ok (.invokestatic 32, 3) := by decide +kernel
theorem d_Text_says_13 : decode b_Text_says 13 = .ok (.istore 5, 2) := by decide +kernel
theorem d_Text_says_15 : decode b_Text_says 15 = .ok (.iconst 0, 1) := by decide +kernel
theorem d_Text_says_16 : decode b_Text_says 16 = .ok (.istore 6, 2) := by decide +kernel
theorem d_Text_says_18 : decode b_Text_says 18 = .ok (.iconst 0, 1) := by decide +kernel
theorem d_Text_says_19 : decode b_Text_says 19 = .ok (.aload_n 0, 1) := by decide +kernel
theorem d_Text_says_20 : decode b_Text_says 20 = .ok (.iload_n 1, 1) := by decide +kernel
theorem d_Text_says_21 : decode b_Text_says 21 = .ok (.iconst 1, 1) := by decide +kernel
theorem d_Text_says_22 : decode b_Text_says 22 = .ok (.isub, 1) := by decide +kernel
theorem d_Text_says_23 : decode b_Text_says 23 = .ok (.invokevirtual 28, 3) := by decide +kernel
theorem d_Text_says_26 : decode b_Text_says 26 = .ok (.invokestatic 38, 3) := by decide +kernel
theorem d_Text_says_29 : decode b_Text_says 29 = .ok (.istore 7, 2) := by decide +kernel
theorem d_Text_says_31 : decode b_Text_says 31 = .ok (.iload 7, 2) := by decide +kernel
theorem d_Text_says_33 : decode b_Text_says 33 = .ok (.iload 5, 2) := by decide +kernel
theorem d_Text_says_35 : decode b_Text_says 35 = .ok (.if_icmp .ge 179, 3) := by decide +kernel
theorem d_Text_says_38 : decode b_Text_says 38 = .ok (.aload_n 0, 1) := by decide +kernel
theorem d_Text_says_39 : decode b_Text_says 39 = .ok (.getfield 9, 3) := by decide +kernel
theorem d_Text_says_42 : decode b_Text_says 42 = .ok (.iload 7, 2) := by decide +kernel
theorem d_Text_says_44 : decode b_Text_says 44 = .ok (.iaload, 1) := by decide +kernel
theorem d_Text_says_45 : decode b_Text_says 45 = .ok (.istore 8, 2) := by decide +kernel
theorem d_Text_says_47 : decode b_Text_says 47 = .ok (.iload 8, 2) := by decide +kernel
theorem d_Text_says_49 : decode b_Text_says 49 = .ok (.sipush (20000), 3) := by decide +kernel
theorem d_Text_says_52 : decode b_Text_says 52 = .ok (.if_icmp .ge 48, 3) := by decide +kernel
theorem d_Text_says_55 : decode b_Text_says 55 = .ok (.iload 6, 2) := by decide +kernel
theorem d_Text_says_57 : decode b_Text_says 57 = .ok (.aload_n 0, 1) := by decide +kernel
theorem d_Text_says_58 : decode b_Text_says 58 = .ok (.getfield 18, 3) := by decide +kernel
theorem d_Text_says_61 : decode b_Text_says 61 = .ok (.arraylength, 1) := by decide +kernel
theorem d_Text_says_62 : decode b_Text_says 62 = .ok (.if_icmp .ge 38, 3) := by decide +kernel
theorem d_Text_says_65 : decode b_Text_says 65 = .ok (.aload_n 0, 1) := by decide +kernel
theorem d_Text_says_66 : decode b_Text_says 66 = .ok (.getfield 18, 3) := by decide +kernel
theorem d_Text_says_69 : decode b_Text_says 69 = .ok (.iload 6, 2) := by decide +kernel
theorem d_Text_says_71 : decode b_Text_says 71 = .ok (.iload 8, 2) := by decide +kernel
theorem d_Text_says_73 : decode b_Text_says 73 = .ok (.sipush (10000), 3) := by decide +kernel
theorem d_Text_says_76 : decode b_Text_says 76 = .ok (.if_icmp .ge 8, 3) := by decide +kernel
theorem d_Text_says_79 : decode b_Text_says 79 = .ok (.iload 8, 2) := by decide +kernel
theorem d_Text_says_81 : decode b_Text_says 81 = .ok (.goto 12, 3) := by decide +kernel
theorem d_Text_says_84 : decode b_Text_says 84 = .ok (.iload 8, 2) := by decide +kernel
theorem d_Text_says_86 : decode b_Text_says 86 = .ok (.aload_n 2, 1) := by decide +kernel
theorem d_Text_says_87 : decode b_Text_says 87 = .ok (.iload_n 3, 1) := by decide +kernel
theorem d_Text_says_88 : decode b_Text_says 88 = .ok (.iload 4, 2) := by decide +kernel
theorem d_Text_says_90 : decode b_Text_says 90 = .ok (.invokestatic 41, 3) := by decide +kernel
theorem d_Text_says_93 : decode b_Text_says 93 = .ok (.iastore, 1) := by decide +kernel
theorem d_Text_says_94 : decode b_Text_says 94 = .ok (.iinc 6 (1), 3) := by decide +kernel
theorem d_Text_says_97 : decode b_Text_says 97 = .ok (.goto 111, 3) := by decide +kernel
theorem d_Text_says_100 : decode b_Text_says 100 = .ok (.iload 8, 2) := by decide +kernel
theorem d_Text_says_102 : decode b_Text_says 102 = .ok (.sipush (30000), 3) := by decide +kernel
theorem d_Text_says_105 : decode b_Text_says 105 = .ok (.if_icmp .lt 56, 3) := by decide +kernel
theorem d_Text_says_108 : decode b_Text_says 108 = .ok (.iload 6, 2) := by decide +kernel
theorem d_Text_says_110 : decode b_Text_says 110 = .ok (.iconst 1, 1) := by decide +kernel
theorem d_Text_says_111 : decode b_Text_says 111 = .ok (.if_icmp .lt 50, 3) := by decide +kernel
theorem d_Text_says_114 : decode b_Text_says 114 = .ok (.aload_n 0, 1) := by decide +kernel
theorem d_Text_says_115 : decode b_Text_says 115 = .ok (.getfield 18, 3) := by decide +kernel
theorem d_Text_says_118 : decode b_Text_says 118 = .ok (.iload 6, 2) := by decide +kernel
theorem d_Text_says_120 : decode b_Text_says 120 = .ok (.iconst 1, 1) := by decide +kernel
theorem d_Text_says_121 : decode b_Text_says 121 = .ok (.isub, 1) := by decide +kernel
theorem d_Text_says_122 : decode b_Text_says 122 = .ok (.iaload, 1) := by decide +kernel
theorem d_Text_says_123 : decode b_Text_says 123 = .ok (.istore 9, 2) := by decide +kernel
theorem d_Text_says_125 : decode b_Text_says 125 = .ok (.aload_n 0, 1) := by decide +kernel
theorem d_Text_says_126 : decode b_Text_says 126 = .ok (.getfield 18, 3) := by decide +kernel
theorem d_Text_says_129 : decode b_Text_says 129 = .ok (.iload 6, 2) := by decide +kernel
theorem d_Text_says_131 : decode b_Text_says 131 = .ok (.iconst 1, 1) := by decide +kernel
theorem d_Text_says_132 : decode b_Text_says 132 = .ok (.isub, 1) := by decide +kernel
theorem d_Text_says_133 : decode b_Text_says 133 = .ok (.iload 8, 2) := by decide +kernel
theorem d_Text_says_135 : decode b_Text_says 135 = .ok (.sipush (30001), 3) := by decide +kernel
theorem d_Text_says_138 : decode b_Text_says 138 = .ok (.if_icmp .ne 9, 3) := by decide +kernel
theorem d_Text_says_141 : decode b_Text_says 141 = .ok (.iload 9, 2) := by decide +kernel
theorem d_Text_says_143 : decode b_Text_says 143 = .ok (.ineg, 1) := by decide +kernel
theorem d_Text_says_144 : decode b_Text_says 144 = .ok (.goto 13, 3) := by decide +kernel
theorem d_Text_says_147 : decode b_Text_says 147 = .ok (.iload 9, 2) := by decide +kernel
theorem d_Text_says_149 : decode b_Text_says 149 = .ok (.ifCond .ne 7, 3) := by decide +kernel
theorem d_Text_says_152 : decode b_Text_says 152 = .ok (.iconst 1, 1) := by decide +kernel
theorem d_Text_says_153 : decode b_Text_says 153 = .ok (.goto 4, 3) := by decide +kernel
theorem d_Text_says_156 : decode b_Text_says 156 = .ok (.iconst 0, 1) := by decide +kernel
theorem d_Text_says_157 : decode b_Text_says 157 = .ok (.iastore, 1) := by decide +kernel
theorem d_Text_says_158 : decode b_Text_says 158 = .ok (.goto 50, 3) := by decide +kernel
theorem d_Text_says_161 : decode b_Text_says 161 = .ok (.iload 8, 2) := by decide +kernel
theorem d_Text_says_163 : decode b_Text_says 163 = .ok (.sipush (20000), 3) := by decide +kernel
theorem d_Text_says_166 : decode b_Text_says 166 = .ok (.if_icmp .lt 42, 3) := by decide +kernel
theorem d_Text_says_169 : decode b_Text_says 169 = .ok (.iload 6, 2) := by decide +kernel
theorem d_Text_says_171 : decode b_Text_says 171 = .ok (.iconst 2, 1) := by decide +kernel
theorem d_Text_says_172 : decode b_Text_says 172 = .ok (.if_icmp .lt 36, 3) := by decide +kernel
theorem d_Text_says_175 : decode b_Text_says 175 = .ok (.iinc 6 (-1), 3) := by decide +kernel
theorem d_Text_says_178 : decode b_Text_says 178 = .ok (.aload_n 0, 1) := by decide +kernel
theorem d_Text_says_179 : decode b_Text_says 179 = .ok (.getfield 18, 3) := by decide +kernel
theorem d_Text_says_182 : decode b_Text_says 182 = .ok (.iload 6, 2) := by decide +kernel
theorem d_Text_says_184 : decode b_Text_says 184 = .ok (.iconst 1, 1) := by decide +kernel
theorem d_Text_says_185 : decode b_Text_says 185 = .ok (.isub, 1) := by decide +kernel
theorem d_Text_says_186 : decode b_Text_says 186 = .ok (.iload 8, 2) := by decide +kernel
theorem d_Text_says_188 : decode b_Text_says 188 = .ok (.aload_n 0, 1) := by decide +kernel
theorem d_Text_says_189 : decode b_Text_says 189 = .ok (.getfield 18, 3) := by decide +kernel
theorem d_Text_says_192 : decode b_Text_says 192 = .ok (.iload 6, 2) := by decide +kernel
theorem d_Text_says_194 : decode b_Text_says 194 = .ok (.iconst 1, 1) := by decide +kernel
theorem d_Text_says_195 : decode b_Text_says 195 = .ok (.isub, 1) := by decide +kernel
theorem d_Text_says_196 : decode b_Text_says 196 = .ok (.iaload, 1) := by decide +kernel
theorem d_Text_says_197 : decode b_Text_says 197 = .ok (.aload_n 0, 1) := by decide +kernel
theorem d_Text_says_198 : decode b_Text_says 198 = .ok (.getfield 18, 3) := by decide +kernel
theorem d_Text_says_201 : decode b_Text_says 201 = .ok (.iload 6, 2) := by decide +kernel
theorem d_Text_says_203 : decode b_Text_says 203 = .ok (.iaload, 1) := by decide +kernel
theorem d_Text_says_204 : decode b_Text_says 204 = .ok (.invokestatic 45, 3) := by decide +kernel
theorem d_Text_says_207 : decode b_Text_says 207 = .ok (.iastore, 1) := by decide +kernel
theorem d_Text_says_208 : decode b_Text_says 208 = .ok (.iinc 7 (1), 3) := by decide +kernel
theorem d_Text_says_211 : decode b_Text_says 211 = .ok (.goto (-180), 3) := by decide +kernel
theorem d_Text_says_214 : decode b_Text_says 214 = .ok (.aload_n 0, 1) := by decide +kernel
theorem d_Text_says_215 : decode b_Text_says 215 = .ok (.getfield 18, 3) := by decide +kernel
theorem d_Text_says_218 : decode b_Text_says 218 = .ok (.iconst 0, 1) := by decide +kernel
theorem d_Text_says_219 : decode b_Text_says 219 = .ok (.iaload, 1) := by decide +kernel
theorem d_Text_says_220 : decode b_Text_says 220 = .ok (.iconst 0, 1) := by decide +kernel
theorem d_Text_says_221 : decode b_Text_says 221 = .ok (.iload_n 1, 1) := by decide +kernel
theorem d_Text_says_222 : decode b_Text_says 222 = .ok (.iconst 1, 1) := by decide +kernel
theorem d_Text_says_223 : decode b_Text_says 223 = .ok (.if_icmp .ne 8, 3) := by decide +kernel
theorem d_Text_says_226 : decode b_Text_says 226 = .ok (.bipush (100), 2) := by decide +kernel
theorem d_Text_says_228 : decode b_Text_says 228 = .ok (.goto 6, 3) := by decide +kernel
theorem d_Text_says_231 : decode b_Text_says 231 = .ok (.sipush (999), 3) := by decide +kernel
theorem d_Text_says_234 : decode b_Text_says 234 = .ok (.invokestatic 49, 3) := by decide +kernel
theorem d_Text_says_237 : decode b_Text_says 237 = .ok (.ireturn, 1) := by decide +kernel
abbrev b_Text_named : ByteArray := prog_6_method_7_code
def y_Text_named : MethodName := ⟨"RoundAndRound$Text", "named", "(ILRoundAndRound$Head;II)I"⟩
theorem d_Text_named_0 : decode b_Text_named 0 = .ok (.iload_n 0, 1) := by decide +kernel
theorem d_Text_named_1 : decode b_Text_named 1 = .ok (.tableswitch 57 (10000) (10004) #[35, 37, 42, 47, 52], 35) := by decide +kernel
theorem d_Text_named_36 : decode b_Text_named 36 = .ok (.iload_n 2, 1) := by decide +kernel
theorem d_Text_named_37 : decode b_Text_named 37 = .ok (.ireturn, 1) := by decide +kernel
theorem d_Text_named_38 : decode b_Text_named 38 = .ok (.aload_n 1, 1) := by decide +kernel
theorem d_Text_named_39 : decode b_Text_named 39 = .ok (.getfield 52, 3) := by decide +kernel
theorem d_Text_named_42 : decode b_Text_named 42 = .ok (.ireturn, 1) := by decide +kernel
theorem d_Text_named_43 : decode b_Text_named 43 = .ok (.aload_n 1, 1) := by decide +kernel
theorem d_Text_named_44 : decode b_Text_named 44 = .ok (.getfield 57, 3) := by decide +kernel
theorem d_Text_named_47 : decode b_Text_named 47 = .ok (.ireturn, 1) := by decide +kernel
theorem d_Text_named_48 : decode b_Text_named 48 = .ok (.aload_n 1, 1) := by decide +kernel
theorem d_Text_named_49 : decode b_Text_named 49 = .ok (.getfield 60, 3) := by decide +kernel
theorem d_Text_named_52 : decode b_Text_named 52 = .ok (.ireturn, 1) := by decide +kernel
theorem d_Text_named_53 : decode b_Text_named 53 = .ok (.aload_n 1, 1) := by decide +kernel
theorem d_Text_named_54 : decode b_Text_named 54 = .ok (.getfield 63, 3) := by decide +kernel
theorem d_Text_named_57 : decode b_Text_named 57 = .ok (.ireturn, 1) := by decide +kernel
theorem d_Text_named_58 : decode b_Text_named 58 = .ok (.iload_n 3, 1) := by decide +kernel
theorem d_Text_named_59 : decode b_Text_named 59 = .ok (.ireturn, 1) := by decide +kernel
abbrev b_Text_joined : ByteArray := prog_6_method_8_code
def y_Text_joined : MethodName := ⟨"RoundAndRound$Text", "joined", "(III)I"⟩
theorem d_Text_joined_0 : decode b_Text_joined 0 = .ok (.iload_n 0, 1) := by decide +kernel
theorem d_Text_joined_1 : decode b_Text_joined 1 = .ok (.tableswitch 97 (20000) (20005) #[39, 53, 67, 78, 89, 93], 39) := by decide +kernel
theorem d_Text_joined_40 : decode b_Text_joined 40 = .ok (.iload_n 1, 1) := by decide +kernel
theorem d_Text_joined_41 : decode b_Text_joined 41 = .ok (.ifCond .ne 7, 3) := by decide +kernel
theorem d_Text_joined_44 : decode b_Text_joined 44 = .ok (.iload_n 2, 1) := by decide +kernel
theorem d_Text_joined_45 : decode b_Text_joined 45 = .ok (.ifCond .eq 7, 3) := by decide +kernel
theorem d_Text_joined_48 : decode b_Text_joined 48 = .ok (.iconst 1, 1) := by decide +kernel
theorem d_Text_joined_49 : decode b_Text_joined 49 = .ok (.goto 4, 3) := by decide +kernel
theorem d_Text_joined_52 : decode b_Text_joined 52 = .ok (.iconst 0, 1) := by decide +kernel
theorem d_Text_joined_53 : decode b_Text_joined 53 = .ok (.ireturn, 1) := by decide +kernel
theorem d_Text_joined_54 : decode b_Text_joined 54 = .ok (.iload_n 1, 1) := by decide +kernel
theorem d_Text_joined_55 : decode b_Text_joined 55 = .ok (.ifCond .eq 11, 3) := by decide +kernel
theorem d_Text_joined_58 : decode b_Text_joined 58 = .ok (.iload_n 2, 1) := by decide +kernel
theorem d_Text_joined_59 : decode b_Text_joined 59 = .ok (.ifCond .eq 7, 3) := by decide +kernel
theorem d_Text_joined_62 : decode b_Text_joined 62 = .ok (.iconst 1, 1) := by decide +kernel
theorem d_Text_joined_63 : decode b_Text_joined 63 = .ok (.goto 4, 3) := by decide +kernel
theorem d_Text_joined_66 : decode b_Text_joined 66 = .ok (.iconst 0, 1) := by decide +kernel
theorem d_Text_joined_67 : decode b_Text_joined 67 = .ok (.ireturn, 1) := by decide +kernel
theorem d_Text_joined_68 : decode b_Text_joined 68 = .ok (.iload_n 1, 1) := by decide +kernel
theorem d_Text_joined_69 : decode b_Text_joined 69 = .ok (.iload_n 2, 1) := by decide +kernel
theorem d_Text_joined_70 : decode b_Text_joined 70 = .ok (.if_icmp .ge 7, 3) := by decide +kernel
theorem d_Text_joined_73 : decode b_Text_joined 73 = .ok (.iconst 1, 1) := by decide +kernel
theorem d_Text_joined_74 : decode b_Text_joined 74 = .ok (.goto 4, 3) := by decide +kernel
theorem d_Text_joined_77 : decode b_Text_joined 77 = .ok (.iconst 0, 1) := by decide +kernel
theorem d_Text_joined_78 : decode b_Text_joined 78 = .ok (.ireturn, 1) := by decide +kernel
theorem d_Text_joined_79 : decode b_Text_joined 79 = .ok (.iload_n 1, 1) := by decide +kernel
theorem d_Text_joined_80 : decode b_Text_joined 80 = .ok (.iload_n 2, 1) := by decide +kernel
theorem d_Text_joined_81 : decode b_Text_joined 81 = .ok (.if_icmp .ne 7, 3) := by decide +kernel
theorem d_Text_joined_84 : decode b_Text_joined 84 = .ok (.iconst 1, 1) := by decide +kernel
theorem d_Text_joined_85 : decode b_Text_joined 85 = .ok (.goto 4, 3) := by decide +kernel
theorem d_Text_joined_88 : decode b_Text_joined 88 = .ok (.iconst 0, 1) := by decide +kernel
theorem d_Text_joined_89 : decode b_Text_joined 89 = .ok (.ireturn, 1) := by decide +kernel
theorem d_Text_joined_90 : decode b_Text_joined 90 = .ok (.iload_n 1, 1) := by decide +kernel
theorem d_Text_joined_91 : decode b_Text_joined 91 = .ok (.iload_n 2, 1) := by decide +kernel
theorem d_Text_joined_92 : decode b_Text_joined 92 = .ok (.iadd, 1) := by decide +kernel
theorem d_Text_joined_93 : decode b_Text_joined 93 = .ok (.ireturn, 1) := by decide +kernel
theorem d_Text_joined_94 : decode b_Text_joined 94 = .ok (.iload_n 1, 1) := by decide +kernel
theorem d_Text_joined_95 : decode b_Text_joined 95 = .ok (.iload_n 2, 1) := by decide +kernel
theorem d_Text_joined_96 : decode b_Text_joined 96 = .ok (.isub, 1) := by decide +kernel
theorem d_Text_joined_97 : decode b_Text_joined 97 = .ok (.ireturn, 1) := by decide +kernel
theorem d_Text_joined_98 : decode b_Text_joined 98 = .ok (.iload_n 1, 1) := by decide +kernel
theorem d_Text_joined_99 : decode b_Text_joined 99 = .ok (.iload_n 2, 1) := by decide +kernel
theorem d_Text_joined_100 : decode b_Text_joined 100 = .ok (.imul, 1) := by decide +kernel
theorem d_Text_joined_101 : decode b_Text_joined 101 = .ok (.ireturn, 1) := by decide +kernel
end
section
abbrev b_X_init : ByteArray := prog_1_method_1_code
def y_X_init : MethodName := ⟨"RoundAndRound", "<init>", "()V"⟩
theorem d_X_init_0 : decode b_X_init 0 = .ok (.aload_n 0, 1) := by decide +kernel
theorem d_X_init_1 : decode b_X_init 1 = .ok (.invokespecial 1, 3) := by decide +kernel
theorem d_X_init_4 : decode b_X_init 4 = .ok (.aload_n 0, 1) := by decide +kernel
theorem d_X_init_5 : decode b_X_init 5 = .ok (.iconst 5, 1) := by decide +kernel
theorem d_X_init_6 : decode b_X_init 6 = .ok (.anewarray 9, 3) := by decide +kernel
theorem d_X_init_9 : decode b_X_init 9 = .ok (.putfield 11, 3) := by decide +kernel
theorem d_X_init_12 : decode b_X_init 12 = .ok (.aload_n 0, 1) := by decide +kernel
theorem d_X_init_13 : decode b_X_init 13 = .ok (.iconst 5, 1) := by decide +kernel
theorem d_X_init_14 : decode b_X_init 14 = .ok (.anewarray 9, 3) := by decide +kernel
theorem d_X_init_17 : decode b_X_init 17 = .ok (.putfield 15, 3) := by decide +kernel
theorem d_X_init_20 : decode b_X_init 20 = .ok (.aload_n 0, 1) := by decide +kernel
theorem d_X_init_21 : decode b_X_init 21 = .ok (.new 9, 3) := by decide +kernel
theorem d_X_init_24 : decode b_X_init 24 = .ok (.dup, 1) := by decide +kernel
theorem d_X_init_25 : decode b_X_init 25 = .ok (.invokespecial 18, 3) := by decide +kernel
theorem d_X_init_28 : decode b_X_init 28 = .ok (.putfield 19, 3) := by decide +kernel
theorem d_X_init_31 : decode b_X_init 31 = .ok (.aload_n 0, 1) := by decide +kernel
theorem d_X_init_32 : decode b_X_init 32 = .ok (.new 9, 3) := by decide +kernel
theorem d_X_init_35 : decode b_X_init 35 = .ok (.dup, 1) := by decide +kernel
theorem d_X_init_36 : decode b_X_init 36 = .ok (.invokespecial 18, 3) := by decide +kernel
theorem d_X_init_39 : decode b_X_init 39 = .ok (.putfield 23, 3) := by decide +kernel
theorem d_X_init_42 : decode b_X_init 42 = .ok (.aload_n 0, 1) := by decide +kernel
theorem d_X_init_43 : decode b_X_init 43 = .ok (.bipush (81), 2) := by decide +kernel
theorem d_X_init_45 : decode b_X_init 45 = .ok (.newarray .int, 2) := by decide +kernel
theorem d_X_init_47 : decode b_X_init 47 = .ok (.putfield 26, 3) := by decide +kernel
theorem d_X_init_50 : decode b_X_init 50 = .ok (.aload_n 0, 1) := by decide +kernel
theorem d_X_init_51 : decode b_X_init 51 = .ok (.bipush (6), 2) := by decide +kernel
theorem d_X_init_53 : decode b_X_init 53 = .ok (.anewarray 30, 3) := by decide +kernel
theorem d_X_init_56 : decode b_X_init 56 = .ok (.putfield 32, 3) := by decide +kernel
theorem d_X_init_59 : decode b_X_init 59 = .ok (.aload_n 0, 1) := by decide +kernel
theorem d_X_init_60 : decode b_X_init 60 = .ok (.new 30, 3) := by decide +kernel
theorem d_X_init_63 : decode b_X_init 63 = .ok (.dup, 1) := by decide +kernel
theorem d_X_init_64 : decode b_X_init 64 = .ok (.invokespecial 36, 3) := by decide +kernel
theorem d_X_init_67 : decode b_X_init 67 = .ok (.putfield 37, 3) := by decide +kernel
theorem d_X_init_70 : decode b_X_init 70 = .ok (.aload_n 0, 1) := by decide +kernel
theorem d_X_init_71 : decode b_X_init 71 = .ok (.new 41, 3) := by decide +kernel
theorem d_X_init_74 : decode b_X_init 74 = .ok (.dup, 1) := by decide +kernel
theorem d_X_init_75 : decode b_X_init 75 = .ok (.invokespecial 43, 3) := by decide +kernel
theorem d_X_init_78 : decode b_X_init 78 = .ok (.putfield 44, 3) := by decide +kernel
theorem d_X_init_81 : decode b_X_init 81 = .ok (.aload_n 0, 1) := by decide +kernel
theorem d_X_init_82 : decode b_X_init 82 = .ok (.iconst 4, 1) := by decide +kernel
theorem d_X_init_83 : decode b_X_init 83 = .ok (.anewarray 48, 3) := by decide +kernel
theorem d_X_init_86 : decode b_X_init 86 = .ok (.putfield 50, 3) := by decide +kernel
theorem d_X_init_89 : decode b_X_init 89 = .ok (.aload_n 0, 1) := by decide +kernel
theorem d_X_init_90 : decode b_X_init 90 = .ok (.new 48, 3) := by decide +kernel
theorem d_X_init_93 : decode b_X_init 93 = .ok (.dup, 1) := by decide +kernel
theorem d_X_init_94 : decode b_X_init 94 = .ok (.invokespecial 54, 3) := by decide +kernel
theorem d_X_init_97 : decode b_X_init 97 = .ok (.putfield 55, 3) := by decide +kernel
theorem d_X_init_100 : decode b_X_init 100 = .ok (.aload_n 0, 1) := by decide +kernel
theorem d_X_init_101 : decode b_X_init 101 = .ok (.iconst 0, 1) := by decide +kernel
theorem d_X_init_102 : decode b_X_init 102 = .ok (.putfield 59, 3) := by decide +kernel
theorem d_X_init_105 : decode b_X_init 105 = .ok (.aload_n 0, 1) := by decide +kernel
theorem d_X_init_106 : decode b_X_init 106 = .ok (.iconst 0, 1) := by decide +kernel
theorem d_X_init_107 : decode b_X_init 107 = .ok (.putfield 63, 3) := by decide +kernel
theorem d_X_init_110 : decode b_X_init 110 = .ok (.aload_n 0, 1) := by decide +kernel
theorem d_X_init_111 : decode b_X_init 111 = .ok (.iconst 0, 1) := by decide +kernel
theorem d_X_init_112 : decode b_X_init 112 = .ok (.putfield 66, 3) := by decide +kernel
theorem d_X_init_115 : decode b_X_init 115 = .ok (.aload_n 0, 1) := by decide +kernel
theorem d_X_init_116 : decode b_X_init 116 = .ok (.iconst (-1), 1) := by decide +kernel
theorem d_X_init_117 : decode b_X_init 117 = .ok (.putfield 69, 3) := by decide +kernel
theorem d_X_init_120 : decode b_X_init 120 = .ok (.aload_n 0, 1) := by decide +kernel
theorem d_X_init_121 : decode b_X_init 121 = .ok (.iconst 0, 1) := by decide +kernel
theorem d_X_init_122 : decode b_X_init 122 = .ok (.putfield 72, 3) := by decide +kernel
theorem d_X_init_125 : decode b_X_init 125 = .ok (.iconst 0, 1) := by decide +kernel
theorem d_X_init_126 : decode b_X_init 126 = .ok (.istore_n 1, 1) := by decide +kernel
theorem d_X_init_127 : decode b_X_init 127 = .ok (.iload_n 1, 1) := by decide +kernel
theorem d_X_init_128 : decode b_X_init 128 = .ok (.iconst 5, 1) := by decide +kernel
theorem d_X_init_129 : decode b_X_init 129 = .ok (.if_icmp .ge 35, 3) := by decide +kernel
theorem d_X_init_132 : decode b_X_init 132 = .ok (.aload_n 0, 1) := by decide +kernel
theorem d_X_init_133 : decode b_X_init 133 = .ok (.getfield 11, 3) := by decide +kernel
theorem d_X_init_136 : decode b_X_init 136 = .ok (.iload_n 1, 1) := by decide +kernel
theorem d_X_init_137 : decode b_X_init 137 = .ok (.new 9, 3) := by decide +kernel
theorem d_X_init_140 : decode b_X_init 140 = .ok (.dup, 1) := by decide +kernel
theorem d_X_init_141 : decode b_X_init 141 = .ok (.invokespecial 18, 3) := by decide +kernel
theorem d_X_init_144 : decode b_X_init 144 = .ok (.aastore, 1) := by decide +kernel
theorem d_X_init_145 : decode b_X_init 145 = .ok (.aload_n 0, 1) := by decide +kernel
theorem d_X_init_146 : decode b_X_init 146 = .ok (.getfield 15, 3) := by decide +kernel
theorem d_X_init_149 : decode b_X_init 149 = .ok (.iload_n 1, 1) := by decide +kernel
theorem d_X_init_150 : decode b_X_init 150 = .ok (.new 9, 3) := by decide +kernel
theorem d_X_init_153 : decode b_X_init 153 = .ok (.dup, 1) := by decide +kernel
theorem d_X_init_154 : decode b_X_init 154 = .ok (.invokespecial 18, 3) := by decide +kernel
theorem d_X_init_157 : decode b_X_init 157 = .ok (.aastore, 1) := by decide +kernel
theorem d_X_init_158 : decode b_X_init 158 = .ok (.iinc 1 (1), 3) := by decide +kernel
theorem d_X_init_161 : decode b_X_init 161 = .ok (.goto (-34), 3) := by decide +kernel
theorem d_X_init_164 : decode b_X_init 164 = .ok (.iconst 0, 1) := by decide +kernel
theorem d_X_init_165 : decode b_X_init 165 = .ok (.istore_n 1, 1) := by decide +kernel
theorem d_X_init_166 : decode b_X_init 166 = .ok (.iload_n 1, 1) := by decide +kernel
theorem d_X_init_167 : decode b_X_init 167 = .ok (.bipush (6), 2) := by decide +kernel
theorem d_X_init_169 : decode b_X_init 169 = .ok (.if_icmp .ge 22, 3) := by decide +kernel
theorem d_X_init_172 : decode b_X_init 172 = .ok (.aload_n 0, 1) := by decide +kernel
theorem d_X_init_173 : decode b_X_init 173 = .ok (.getfield 32, 3) := by decide +kernel
theorem d_X_init_176 : decode b_X_init 176 = .ok (.iload_n 1, 1) := by decide +kernel
theorem d_X_init_177 : decode b_X_init 177 = .ok (.new 30, 3) := by decide +kernel
theorem d_X_init_180 : decode b_X_init 180 = .ok (.dup, 1) := by decide +kernel
theorem d_X_init_181 : decode b_X_init 181 = .ok (.invokespecial 36, 3) := by decide +kernel
theorem d_X_init_184 : decode b_X_init 184 = .ok (.aastore, 1) := by decide +kernel
theorem d_X_init_185 : decode b_X_init 185 = .ok (.iinc 1 (1), 3) := by decide +kernel
theorem d_X_init_188 : decode b_X_init 188 = .ok (.goto (-22), 3) := by decide +kernel
theorem d_X_init_191 : decode b_X_init 191 = .ok (.iconst 0, 1) := by decide +kernel
theorem d_X_init_192 : decode b_X_init 192 = .ok (.istore_n 1, 1) := by decide +kernel
theorem d_X_init_193 : decode b_X_init 193 = .ok (.iload_n 1, 1) := by decide +kernel
theorem d_X_init_194 : decode b_X_init 194 = .ok (.iconst 4, 1) := by decide +kernel
theorem d_X_init_195 : decode b_X_init 195 = .ok (.if_icmp .ge 22, 3) := by decide +kernel
theorem d_X_init_198 : decode b_X_init 198 = .ok (.aload_n 0, 1) := by decide +kernel
theorem d_X_init_199 : decode b_X_init 199 = .ok (.getfield 50, 3) := by decide +kernel
theorem d_X_init_202 : decode b_X_init 202 = .ok (.iload_n 1, 1) := by decide +kernel
theorem d_X_init_203 : decode b_X_init 203 = .ok (.new 48, 3) := by decide +kernel
theorem d_X_init_206 : decode b_X_init 206 = .ok (.dup, 1) := by decide +kernel
theorem d_X_init_207 : decode b_X_init 207 = .ok (.invokespecial 54, 3) := by decide +kernel
theorem d_X_init_210 : decode b_X_init 210 = .ok (.aastore, 1) := by decide +kernel
theorem d_X_init_211 : decode b_X_init 211 = .ok (.iinc 1 (1), 3) := by decide +kernel
theorem d_X_init_214 : decode b_X_init 214 = .ok (.goto (-21), 3) := by decide +kernel
theorem d_X_init_217 : decode b_X_init 217 = .ok (.iconst 0, 1) := by decide +kernel
theorem d_X_init_218 : decode b_X_init 218 = .ok (.istore_n 1, 1) := by decide +kernel
theorem d_X_init_219 : decode b_X_init 219 = .ok (.iload_n 1, 1) := by decide +kernel
theorem d_X_init_220 : decode b_X_init 220 = .ok (.ldc 75, 2) := by decide +kernel
theorem d_X_init_222 : decode b_X_init 222 = .ok (.invokevirtual 77, 3) := by decide +kernel
theorem d_X_init_225 : decode b_X_init 225 = .ok (.if_icmp .ge 22, 3) := by decide +kernel
theorem d_X_init_228 : decode b_X_init 228 = .ok (.aload_n 0, 1) := by decide +kernel
theorem d_X_init_229 : decode b_X_init 229 = .ok (.getfield 44, 3) := by decide +kernel
theorem d_X_init_232 : decode b_X_init 232 = .ok (.ldc 75, 2) := by decide +kernel
theorem d_X_init_234 : decode b_X_init 234 = .ok (.iload_n 1, 1) := by decide +kernel
theorem d_X_init_235 : decode b_X_init 235 = .ok (.invokevirtual 83, 3) := by decide +kernel
theorem d_X_init_238 : decode b_X_init 238 = .ok (.invokevirtual 87, 3) := by decide +kernel
theorem d_X_init_241 : decode b_X_init 241 = .ok (.iinc 1 (1), 3) := by decide +kernel
theorem d_X_init_244 : decode b_X_init 244 = .ok (.goto (-25), 3) := by decide +kernel
theorem d_X_init_247 : decode b_X_init 247 = .ok (.aload_n 0, 1) := by decide +kernel
theorem d_X_init_248 : decode b_X_init 248 = .ok (.getfield 44, 3) := by decide +kernel
theorem d_X_init_251 : decode b_X_init 251 = .ok (.aload_n 0, 1) := by decide +kernel
theorem d_X_init_252 : decode b_X_init 252 = .ok (.iconst 0, 1) := by decide +kernel
theorem d_X_init_253 : decode b_X_init 253 = .ok (.invokevirtual 91, 3) := by decide +kernel
theorem d_X_init_256 : decode b_X_init 256 = .ok (.invokevirtual 95, 3) := by decide +kernel
theorem d_X_init_259 : decode b_X_init 259 = .ok (.pop, 1) := by decide +kernel
theorem d_X_init_260 : decode b_X_init 260 = .ok (.aload_n 0, 1) := by decide +kernel
theorem d_X_init_261 : decode b_X_init 261 = .ok (.getfield 44, 3) := by decide +kernel
theorem d_X_init_264 : decode b_X_init 264 = .ok (.invokevirtual 99, 3) := by decide +kernel
theorem d_X_init_267 : decode b_X_init 267 = .ok (.aload_n 0, 1) := by decide +kernel
theorem d_X_init_268 : decode b_X_init 268 = .ok (.iconst 1, 1) := by decide +kernel
theorem d_X_init_269 : decode b_X_init 269 = .ok (.putfield 63, 3) := by decide +kernel
theorem d_X_init_272 : decode b_X_init 272 = .ok (.return_, 1) := by decide +kernel
abbrev b_X_count : ByteArray := prog_1_method_2_code
def y_X_count : MethodName := ⟨"RoundAndRound", "count", "(I)I"⟩
theorem d_X_count_0 : decode b_X_count 0 = .ok (.iload_n 1, 1) := by decide +kernel
theorem d_X_count_1 : decode b_X_count 1 = .ok (.tableswitch 54 (0) (3) #[31, 36, 41, 46], 31) := by decide +kernel
theorem d_X_count_32 : decode b_X_count 32 = .ok (.aload_n 0, 1) := by decide +kernel
theorem d_X_count_33 : decode b_X_count 33 = .ok (.getfield 59, 3) := by decide +kernel
theorem d_X_count_36 : decode b_X_count 36 = .ok (.ireturn, 1) := by decide +kernel
theorem d_X_count_37 : decode b_X_count 37 = .ok (.aload_n 0, 1) := by decide +kernel
theorem d_X_count_38 : decode b_X_count 38 = .ok (.getfield 63, 3) := by decide +kernel
theorem d_X_count_41 : decode b_X_count 41 = .ok (.ireturn, 1) := by decide +kernel
theorem d_X_count_42 : decode b_X_count 42 = .ok (.aload_n 0, 1) := by decide +kernel
theorem d_X_count_43 : decode b_X_count 43 = .ok (.getfield 66, 3) := by decide +kernel
theorem d_X_count_46 : decode b_X_count 46 = .ok (.ireturn, 1) := by decide +kernel
theorem d_X_count_47 : decode b_X_count 47 = .ok (.aload_n 0, 1) := by decide +kernel
theorem d_X_count_48 : decode b_X_count 48 = .ok (.getfield 44, 3) := by decide +kernel
theorem d_X_count_51 : decode b_X_count 51 = .ok (.getfield 102, 3) := by decide +kernel
theorem d_X_count_54 : decode b_X_count 54 = .ok (.ireturn, 1) := by decide +kernel
theorem d_X_count_55 : decode b_X_count 55 = .ok (.bipush (-2), 2) := by decide +kernel
theorem d_X_count_57 : decode b_X_count 57 = .ok (.ireturn, 1) := by decide +kernel
abbrev b_X_feed : ByteArray := prog_1_method_3_code
def y_X_feed : MethodName := ⟨"RoundAndRound", "feed", "(IIIIII)I"⟩
theorem d_X_feed_0 : decode b_X_feed 0 = .ok (.iload_n 1, 1) := by decide +kernel
theorem d_X_feed_1 : decode b_X_feed 1 = .ok (.iconst 1, 1) := by decide +kernel
theorem d_X_feed_2 : decode b_X_feed 2 = .ok (.iconst 5, 1) := by decide +kernel
theorem d_X_feed_3 : decode b_X_feed 3 = .ok (.invokestatic 105, 3) := by decide +kernel
theorem d_X_feed_6 : decode b_X_feed 6 = .ok (.ifCond .eq 41, 3) := by decide +kernel
theorem d_X_feed_9 : decode b_X_feed 9 = .ok (.iload_n 2, 1) := by decide +kernel
theorem d_X_feed_10 : decode b_X_feed 10 = .ok (.invokestatic 109, 3) := by decide +kernel
theorem d_X_feed_13 : decode b_X_feed 13 = .ok (.ifCond .eq 34, 3) := by decide +kernel
theorem d_X_feed_16 : decode b_X_feed 16 = .ok (.iload_n 3, 1) := by decide +kernel
theorem d_X_feed_17 : decode b_X_feed 17 = .ok (.invokestatic 109, 3) := by decide +kernel
theorem d_X_feed_20 : decode b_X_feed 20 = .ok (.ifCond .eq 27, 3) := by decide +kernel
theorem d_X_feed_23 : decode b_X_feed 23 = .ok (.iload 4, 2) := by decide +kernel
theorem d_X_feed_25 : decode b_X_feed 25 = .ok (.invokestatic 109, 3) := by decide +kernel
theorem d_X_feed_28 : decode b_X_feed 28 = .ok (.ifCond .eq 19, 3) := by decide +kernel
theorem d_X_feed_31 : decode b_X_feed 31 = .ok (.iload 5, 2) := by decide +kernel
theorem d_X_feed_33 : decode b_X_feed 33 = .ok (.invokestatic 109, 3) := by decide +kernel
theorem d_X_feed_36 : decode b_X_feed 36 = .ok (.ifCond .eq 11, 3) := by decide +kernel
theorem d_X_feed_39 : decode b_X_feed 39 = .ok (.iload 6, 2) := by decide +kernel
theorem d_X_feed_41 : decode b_X_feed 41 = .ok (.invokestatic 109, 3) := by decide +kernel
theorem d_X_feed_44 : decode b_X_feed 44 = .ok (.ifCond .ne 6, 3) := by decide +kernel
theorem d_X_feed_47 : decode b_X_feed 47 = .ok (.bipush (-2), 2) := by decide +kernel
theorem d_X_feed_49 : decode b_X_feed 49 = .ok (.ireturn, 1) := by decide +kernel
theorem d_X_feed_50 : decode b_X_feed 50 = .ok (.aload_n 0, 1) := by decide +kernel
theorem d_X_feed_51 : decode b_X_feed 51 = .ok (.getfield 44, 3) := by decide +kernel
theorem d_X_feed_54 : decode b_X_feed 54 = .ok (.getfield 102, 3) := by decide +kernel
theorem d_X_feed_57 : decode b_X_feed 57 = .ok (.iload_n 1, 1) := by decide +kernel
theorem d_X_feed_58 : decode b_X_feed 58 = .ok (.iadd, 1) := by decide +kernel
theorem d_X_feed_59 : decode b_X_feed 59 = .ok (.sipush (160), 3) := by decide +kernel
theorem d_X_feed_62 : decode b_X_feed 62 = .ok (.if_icmp .le 6, 3) := by decide +kernel
theorem d_X_feed_65 : decode b_X_feed 65 = .ok (.bipush (-4), 2) := by decide +kernel
theorem d_X_feed_67 : decode b_X_feed 67 = .ok (.ireturn, 1) := by decide +kernel
theorem d_X_feed_68 : decode b_X_feed 68 = .ok (.iconst 0, 1) := by decide +kernel
theorem d_X_feed_69 : decode b_X_feed 69 = .ok (.istore 7, 2) := by decide +kernel
theorem d_X_feed_71 : decode b_X_feed 71 = .ok (.iload 7, 2) := by decide +kernel
theorem d_X_feed_73 : decode b_X_feed 73 = .ok (.iload_n 1, 1) := by decide +kernel
theorem d_X_feed_74 : decode b_X_feed 74 = .ok (.if_icmp .ge 59, 3) := by decide +kernel
theorem d_X_feed_77 : decode b_X_feed 77 = .ok (.aload_n 0, 1) := by decide +kernel
theorem d_X_feed_78 : decode b_X_feed 78 = .ok (.getfield 44, 3) := by decide +kernel
theorem d_X_feed_81 : decode b_X_feed 81 = .ok (.iload 7, 2) := by decide +kernel
theorem d_X_feed_83 : decode b_X_feed 83 = .ok (.ifCond .ne 7, 3) := by decide +kernel
theorem d_X_feed_86 : decode b_X_feed 86 = .ok (.iload_n 2, 1) := by decide +kernel
theorem d_X_feed_87 : decode b_X_feed 87 = .ok (.goto 37, 3) := by decide +kernel
theorem d_X_feed_90 : decode b_X_feed 90 = .ok (.iload 7, 2) := by decide +kernel
theorem d_X_feed_92 : decode b_X_feed 92 = .ok (.iconst 1, 1) := by decide +kernel
theorem d_X_feed_93 : decode b_X_feed 93 = .ok (.if_icmp .ne 7, 3) := by decide +kernel
theorem d_X_feed_96 : decode b_X_feed 96 = .ok (.iload_n 3, 1) := by decide +kernel
theorem d_X_feed_97 : decode b_X_feed 97 = .ok (.goto 27, 3) := by decide +kernel
theorem d_X_feed_100 : decode b_X_feed 100 = .ok (.iload 7, 2) := by decide +kernel
theorem d_X_feed_102 : decode b_X_feed 102 = .ok (.iconst 2, 1) := by decide +kernel
theorem d_X_feed_103 : decode b_X_feed 103 = .ok (.if_icmp .ne 8, 3) := by decide +kernel
theorem d_X_feed_106 : decode b_X_feed 106 = .ok (.iload 4, 2) := by decide +kernel
theorem d_X_feed_108 : decode b_X_feed 108 = .ok (.goto 16, 3) := by decide +kernel
theorem d_X_feed_111 : decode b_X_feed 111 = .ok (.iload 7, 2) := by decide +kernel
theorem d_X_feed_113 : decode b_X_feed 113 = .ok (.iconst 3, 1) := by decide +kernel
theorem d_X_feed_114 : decode b_X_feed 114 = .ok (.if_icmp .ne 8, 3) := by decide +kernel
theorem d_X_feed_117 : decode b_X_feed 117 = .ok (.iload 5, 2) := by decide +kernel
theorem d_X_feed_119 : decode b_X_feed 119 = .ok (.goto 5, 3) := by decide +kernel
theorem d_X_feed_122 : decode b_X_feed 122 = .ok (.iload 6, 2) := by decide +kernel
theorem d_X_feed_124 : decode b_X_feed 124 = .ok (.invokevirtual 87, 3) := by decide +kernel
theorem d_X_feed_127 : decode b_X_feed 127 = .ok (.iinc 7 (1), 3) := by decide +kernel
theorem d_X_feed_130 : decode b_X_feed 130 = .ok (.goto (-59), 3) := by decide +kernel
theorem d_X_feed_133 : decode b_X_feed 133 = .ok (.aload_n 0, 1) := by decide +kernel
theorem d_X_feed_134 : decode b_X_feed 134 = .ok (.getfield 44, 3) := by decide +kernel
theorem d_X_feed_137 : decode b_X_feed 137 = .ok (.getfield 102, 3) := by decide +kernel
theorem d_X_feed_140 : decode b_X_feed 140 = .ok (.ireturn, 1) := by decide +kernel
abbrev b_X_text : ByteArray := prog_1_method_4_code
def y_X_text : MethodName := ⟨"RoundAndRound", "text", "()I"⟩
theorem d_X_text_0 : decode b_X_text 0 = .ok (.aload_n 0, 1) := by decide +kernel
theorem d_X_text_1 : decode b_X_text 1 = .ok (.getfield 63, 3) := by decide +kernel
theorem d_X_text_4 : decode b_X_text 4 = .ok (.bipush (6), 2) := by decide +kernel
theorem d_X_text_6 : decode b_X_text 6 = .ok (.if_icmp .lt 6, 3) := by decide +kernel
theorem d_X_text_9 : decode b_X_text 9 = .ok (.bipush (-4), 2) := by decide +kernel
theorem d_X_text_11 : decode b_X_text 11 = .ok (.ireturn, 1) := by decide +kernel
theorem d_X_text_12 : decode b_X_text 12 = .ok (.aload_n 0, 1) := by decide +kernel
theorem d_X_text_13 : decode b_X_text 13 = .ok (.getfield 44, 3) := by decide +kernel
theorem d_X_text_16 : decode b_X_text 16 = .ok (.aload_n 0, 1) := by decide +kernel
theorem d_X_text_17 : decode b_X_text 17 = .ok (.aload_n 0, 1) := by decide +kernel
theorem d_X_text_18 : decode b_X_text 18 = .ok (.getfield 63, 3) := by decide +kernel
theorem d_X_text_21 : decode b_X_text 21 = .ok (.invokevirtual 91, 3) := by decide +kernel
theorem d_X_text_24 : decode b_X_text 24 = .ok (.invokevirtual 95, 3) := by decide +kernel
theorem d_X_text_27 : decode b_X_text 27 = .ok (.istore_n 1, 1) := by decide +kernel
theorem d_X_text_28 : decode b_X_text 28 = .ok (.aload_n 0, 1) := by decide +kernel
theorem d_X_text_29 : decode b_X_text 29 = .ok (.getfield 44, 3) := by decide +kernel
theorem d_X_text_32 : decode b_X_text 32 = .ok (.invokevirtual 99, 3) := by decide +kernel
theorem d_X_text_35 : decode b_X_text 35 = .ok (.iload_n 1, 1) := by decide +kernel
theorem d_X_text_36 : decode b_X_text 36 = .ok (.ifCond .lt 8, 3) := by decide +kernel
theorem d_X_text_39 : decode b_X_text 39 = .ok (.bipush (-100), 2) := by decide +kernel
theorem d_X_text_41 : decode b_X_text 41 = .ok (.iload_n 1, 1) := by decide +kernel
theorem d_X_text_42 : decode b_X_text 42 = .ok (.isub, 1) := by decide +kernel
theorem d_X_text_43 : decode b_X_text 43 = .ok (.ireturn, 1) := by decide +kernel
theorem d_X_text_44 : decode b_X_text 44 = .ok (.aload_n 0, 1) := by decide +kernel
theorem d_X_text_45 : decode b_X_text 45 = .ok (.dup, 1) := by decide +kernel
theorem d_X_text_46 : decode b_X_text 46 = .ok (.getfield 63, 3) := by decide +kernel
theorem d_X_text_49 : decode b_X_text 49 = .ok (.iconst 1, 1) := by decide +kernel
theorem d_X_text_50 : decode b_X_text 50 = .ok (.iadd, 1) := by decide +kernel
theorem d_X_text_51 : decode b_X_text 51 = .ok (.putfield 63, 3) := by decide +kernel
theorem d_X_text_54 : decode b_X_text 54 = .ok (.aload_n 0, 1) := by decide +kernel
theorem d_X_text_55 : decode b_X_text 55 = .ok (.getfield 63, 3) := by decide +kernel
theorem d_X_text_58 : decode b_X_text 58 = .ok (.iconst 1, 1) := by decide +kernel
theorem d_X_text_59 : decode b_X_text 59 = .ok (.isub, 1) := by decide +kernel
theorem d_X_text_60 : decode b_X_text 60 = .ok (.ireturn, 1) := by decide +kernel
abbrev b_X_force : ByteArray := prog_1_method_5_code
def y_X_force : MethodName := ⟨"RoundAndRound", "force", "(I)I"⟩
theorem d_X_force_0 : decode b_X_force 0 = .ok (.iload_n 1, 1) := by decide +kernel
theorem d_X_force_1 : decode b_X_force 1 = .ok (.iconst 0, 1) := by decide +kernel
theorem d_X_force_2 : decode b_X_force 2 = .ok (.aload_n 0, 1) := by decide +kernel
theorem d_X_force_3 : decode b_X_force 3 = .ok (.getfield 63, 3) := by decide +kernel
theorem d_X_force_6 : decode b_X_force 6 = .ok (.iconst 1, 1) := by decide +kernel
theorem d_X_force_7 : decode b_X_force 7 = .ok (.isub, 1) := by decide +kernel
theorem d_X_force_8 : decode b_X_force 8 = .ok (.invokestatic 105, 3) := by decide +kernel
theorem d_X_force_11 : decode b_X_force 11 = .ok (.ifCond .ne 6, 3) := by decide +kernel
theorem d_X_force_14 : decode b_X_force 14 = .ok (.bipush (-2), 2) := by decide +kernel
theorem d_X_force_16 : decode b_X_force 16 = .ok (.ireturn, 1) := by decide +kernel
theorem d_X_force_17 : decode b_X_force 17 = .ok (.aload_n 0, 1) := by decide +kernel
theorem d_X_force_18 : decode b_X_force 18 = .ok (.getfield 66, 3) := by decide +kernel
theorem d_X_force_21 : decode b_X_force 21 = .ok (.istore_n 2, 1) := by decide +kernel
theorem d_X_force_22 : decode b_X_force 22 = .ok (.aload_n 0, 1) := by decide +kernel
theorem d_X_force_23 : decode b_X_force 23 = .ok (.iload_n 1, 1) := by decide +kernel
theorem d_X_force_24 : decode b_X_force 24 = .ok (.putfield 66, 3) := by decide +kernel
theorem d_X_force_27 : decode b_X_force 27 = .ok (.iload_n 2, 1) := by decide +kernel
theorem d_X_force_28 : decode b_X_force 28 = .ok (.ireturn, 1) := by decide +kernel
abbrev b_X_asks : ByteArray := prog_1_method_6_code
def y_X_asks : MethodName := ⟨"RoundAndRound", "asks", "(III)I"⟩
theorem d_X_asks_0 : decode b_X_asks 0 = .ok (.iload_n 1, 1) := by decide +kernel
theorem d_X_asks_1 : decode b_X_asks 1 = .ok (.iconst 0, 1) := by decide +kernel
theorem d_X_asks_2 : decode b_X_asks 2 = .ok (.iconst 2, 1) := by decide +kernel
theorem d_X_asks_3 : decode b_X_asks 3 = .ok (.invokestatic 105, 3) := by decide +kernel
theorem d_X_asks_6 : decode b_X_asks 6 = .ok (.ifCond .eq 19, 3) := by decide +kernel
theorem d_X_asks_9 : decode b_X_asks 9 = .ok (.aload_n 0, 1) := by decide +kernel
theorem d_X_asks_10 : decode b_X_asks 10 = .ok (.iload_n 2, 1) := by decide +kernel
theorem d_X_asks_11 : decode b_X_asks 11 = .ok (.invokevirtual 113, 3) := by decide +kernel
theorem d_X_asks_14 : decode b_X_asks 14 = .ok (.ifCond .eq 11, 3) := by decide +kernel
theorem d_X_asks_17 : decode b_X_asks 17 = .ok (.iload_n 3, 1) := by decide +kernel
theorem d_X_asks_18 : decode b_X_asks 18 = .ok (.iconst 0, 1) := by decide +kernel
theorem d_X_asks_19 : decode b_X_asks 19 = .ok (.invokestatic 116, 3) := by decide +kernel
theorem d_X_asks_22 : decode b_X_asks 22 = .ok (.ifCond .ne 6, 3) := by decide +kernel
theorem d_X_asks_25 : decode b_X_asks 25 = .ok (.bipush (-2), 2) := by decide +kernel
theorem d_X_asks_27 : decode b_X_asks 27 = .ok (.ireturn, 1) := by decide +kernel
theorem d_X_asks_28 : decode b_X_asks 28 = .ok (.aload_n 0, 1) := by decide +kernel
theorem d_X_asks_29 : decode b_X_asks 29 = .ok (.invokevirtual 120, 3) := by decide +kernel
theorem d_X_asks_32 : decode b_X_asks 32 = .ok (.iload_n 1, 1) := by decide +kernel
theorem d_X_asks_33 : decode b_X_asks 33 = .ok (.aload_n 0, 1) := by decide +kernel
theorem d_X_asks_34 : decode b_X_asks 34 = .ok (.iload_n 2, 1) := by decide +kernel
theorem d_X_asks_35 : decode b_X_asks 35 = .ok (.invokevirtual 124, 3) := by decide +kernel
theorem d_X_asks_38 : decode b_X_asks 38 = .ok (.iload_n 3, 1) := by decide +kernel
theorem d_X_asks_39 : decode b_X_asks 39 = .ok (.bipush (10), 2) := by decide +kernel
theorem d_X_asks_41 : decode b_X_asks 41 = .ok (.idiv, 1) := by decide +kernel
theorem d_X_asks_42 : decode b_X_asks 42 = .ok (.iload_n 3, 1) := by decide +kernel
theorem d_X_asks_43 : decode b_X_asks 43 = .ok (.bipush (10), 2) := by decide +kernel
theorem d_X_asks_45 : decode b_X_asks 45 = .ok (.irem, 1) := by decide +kernel
theorem d_X_asks_46 : decode b_X_asks 46 = .ok (.invokevirtual 128, 3) := by decide +kernel
theorem d_X_asks_49 : decode b_X_asks 49 = .ok (.ireturn, 1) := by decide +kernel
abbrev b_X_head : ByteArray := prog_1_method_7_code
def y_X_head : MethodName := ⟨"RoundAndRound", "head", "(II)I"⟩
theorem d_X_head_0 : decode b_X_head 0 = .ok (.iload_n 1, 1) := by decide +kernel
theorem d_X_head_1 : decode b_X_head 1 = .ok (.invokestatic 132, 3) := by decide +kernel
theorem d_X_head_4 : decode b_X_head 4 = .ok (.ifCond .eq 13, 3) := by decide +kernel
theorem d_X_head_7 : decode b_X_head 7 = .ok (.iload_n 2, 1) := by decide +kernel
theorem d_X_head_8 : decode b_X_head 8 = .ok (.iconst 0, 1) := by decide +kernel
theorem d_X_head_9 : decode b_X_head 9 = .ok (.bipush (9), 2) := by decide +kernel
theorem d_X_head_11 : decode b_X_head 11 = .ok (.invokestatic 105, 3) := by decide +kernel
theorem d_X_head_14 : decode b_X_head 14 = .ok (.ifCond .ne 6, 3) := by decide +kernel
theorem d_X_head_17 : decode b_X_head 17 = .ok (.bipush (-2), 2) := by decide +kernel
theorem d_X_head_19 : decode b_X_head 19 = .ok (.ireturn, 1) := by decide +kernel
theorem d_X_head_20 : decode b_X_head 20 = .ok (.aload_n 0, 1) := by decide +kernel
theorem d_X_head_21 : decode b_X_head 21 = .ok (.getfield 59, 3) := by decide +kernel
theorem d_X_head_24 : decode b_X_head 24 = .ok (.iconst 5, 1) := by decide +kernel
theorem d_X_head_25 : decode b_X_head 25 = .ok (.if_icmp .lt 6, 3) := by decide +kernel
theorem d_X_head_28 : decode b_X_head 28 = .ok (.bipush (-4), 2) := by decide +kernel
theorem d_X_head_30 : decode b_X_head 30 = .ok (.ireturn, 1) := by decide +kernel
theorem d_X_head_31 : decode b_X_head 31 = .ok (.aload_n 0, 1) := by decide +kernel
theorem d_X_head_32 : decode b_X_head 32 = .ok (.aload_n 0, 1) := by decide +kernel
theorem d_X_head_33 : decode b_X_head 33 = .ok (.getfield 59, 3) := by decide +kernel
theorem d_X_head_36 : decode b_X_head 36 = .ok (.invokevirtual 124, 3) := by decide +kernel
theorem d_X_head_39 : decode b_X_head 39 = .ok (.iload_n 1, 1) := by decide +kernel
theorem d_X_head_40 : decode b_X_head 40 = .ok (.iload_n 2, 1) := by decide +kernel
theorem d_X_head_41 : decode b_X_head 41 = .ok (.invokevirtual 135, 3) := by decide +kernel
theorem d_X_head_44 : decode b_X_head 44 = .ok (.aload_n 0, 1) := by decide +kernel
theorem d_X_head_45 : decode b_X_head 45 = .ok (.dup, 1) := by decide +kernel
theorem d_X_head_46 : decode b_X_head 46 = .ok (.getfield 59, 3) := by decide +kernel
theorem d_X_head_49 : decode b_X_head 49 = .ok (.iconst 1, 1) := by decide +kernel
theorem d_X_head_50 : decode b_X_head 50 = .ok (.iadd, 1) := by decide +kernel
theorem d_X_head_51 : decode b_X_head 51 = .ok (.putfield 59, 3) := by decide +kernel
theorem d_X_head_54 : decode b_X_head 54 = .ok (.aload_n 0, 1) := by decide +kernel
theorem d_X_head_55 : decode b_X_head 55 = .ok (.getfield 59, 3) := by decide +kernel
theorem d_X_head_58 : decode b_X_head 58 = .ok (.iconst 1, 1) := by decide +kernel
theorem d_X_head_59 : decode b_X_head 59 = .ok (.isub, 1) := by decide +kernel
theorem d_X_head_60 : decode b_X_head 60 = .ok (.ireturn, 1) := by decide +kernel
abbrev b_X_set : ByteArray := prog_1_method_8_code
def y_X_set : MethodName := ⟨"RoundAndRound", "set", "(III)I"⟩
theorem d_X_set_0 : decode b_X_set 0 = .ok (.aload_n 0, 1) := by decide +kernel
theorem d_X_set_1 : decode b_X_set 1 = .ok (.iload_n 1, 1) := by decide +kernel
theorem d_X_set_2 : decode b_X_set 2 = .ok (.invokevirtual 113, 3) := by decide +kernel
theorem d_X_set_5 : decode b_X_set 5 = .ok (.ifCond .ne 6, 3) := by decide +kernel
theorem d_X_set_8 : decode b_X_set 8 = .ok (.ldc 139, 2) := by decide +kernel
theorem d_X_set_10 : decode b_X_set 10 = .ok (.ireturn, 1) := by decide +kernel
theorem d_X_set_11 : decode b_X_set 11 = .ok (.aload_n 0, 1) := by decide +kernel
theorem d_X_set_12 : decode b_X_set 12 = .ok (.iload_n 1, 1) := by decide +kernel
theorem d_X_set_13 : decode b_X_set 13 = .ok (.invokevirtual 124, 3) := by decide +kernel
theorem d_X_set_16 : decode b_X_set 16 = .ok (.astore 4, 2) := by decide +kernel
theorem d_X_set_18 : decode b_X_set 18 = .ok (.iload_n 2, 1) := by decide +kernel
theorem d_X_set_19 : decode b_X_set 19 = .ok (.ifCond .ne 32, 3) := by decide +kernel
theorem d_X_set_22 : decode b_X_set 22 = .ok (.iload_n 3, 1) := by decide +kernel
theorem d_X_set_23 : decode b_X_set 23 = .ok (.sipush (-9999), 3) := by decide +kernel
theorem d_X_set_26 : decode b_X_set 26 = .ok (.sipush (9999), 3) := by decide +kernel
theorem d_X_set_29 : decode b_X_set 29 = .ok (.invokestatic 105, 3) := by decide +kernel
theorem d_X_set_32 : decode b_X_set 32 = .ok (.ifCond .eq 19, 3) := by decide +kernel
theorem d_X_set_35 : decode b_X_set 35 = .ok (.aload 4, 2) := by decide +kernel
theorem d_X_set_37 : decode b_X_set 37 = .ok (.getfield 140, 3) := by decide +kernel
theorem d_X_set_40 : decode b_X_set 40 = .ok (.istore 5, 2) := by decide +kernel
theorem d_X_set_42 : decode b_X_set 42 = .ok (.aload 4, 2) := by decide +kernel
theorem d_X_set_44 : decode b_X_set 44 = .ok (.iload_n 3, 1) := by decide +kernel
theorem d_X_set_45 : decode b_X_set 45 = .ok (.putfield 140, 3) := by decide +kernel
theorem d_X_set_48 : decode b_X_set 48 = .ok (.goto 68, 3) := by decide +kernel
theorem d_X_set_51 : decode b_X_set 51 = .ok (.iload_n 2, 1) := by decide +kernel
theorem d_X_set_52 : decode b_X_set 52 = .ok (.iconst 1, 1) := by decide +kernel
theorem d_X_set_53 : decode b_X_set 53 = .ok (.if_icmp .ne 29, 3) := by decide +kernel
theorem d_X_set_56 : decode b_X_set 56 = .ok (.iload_n 3, 1) := by decide +kernel
theorem d_X_set_57 : decode b_X_set 57 = .ok (.iconst 0, 1) := by decide +kernel
theorem d_X_set_58 : decode b_X_set 58 = .ok (.bipush (9), 2) := by decide +kernel
theorem d_X_set_60 : decode b_X_set 60 = .ok (.invokestatic 105, 3) := by decide +kernel
theorem d_X_set_63 : decode b_X_set 63 = .ok (.ifCond .eq 19, 3) := by decide +kernel
theorem d_X_set_66 : decode b_X_set 66 = .ok (.aload 4, 2) := by decide +kernel
theorem d_X_set_68 : decode b_X_set 68 = .ok (.getfield 143, 3) := by decide +kernel
theorem d_X_set_71 : decode b_X_set 71 = .ok (.istore 5, 2) := by decide +kernel
theorem d_X_set_73 : decode b_X_set 73 = .ok (.aload 4, 2) := by decide +kernel
theorem d_X_set_75 : decode b_X_set 75 = .ok (.iload_n 3, 1) := by decide +kernel
theorem d_X_set_76 : decode b_X_set 76 = .ok (.putfield 143, 3) := by decide +kernel
theorem d_X_set_79 : decode b_X_set 79 = .ok (.goto 37, 3) := by decide +kernel
theorem d_X_set_82 : decode b_X_set 82 = .ok (.iload_n 2, 1) := by decide +kernel
theorem d_X_set_83 : decode b_X_set 83 = .ok (.iconst 2, 1) := by decide +kernel
theorem d_X_set_84 : decode b_X_set 84 = .ok (.if_icmp .ne 29, 3) := by decide +kernel
theorem d_X_set_87 : decode b_X_set 87 = .ok (.iload_n 3, 1) := by decide +kernel
theorem d_X_set_88 : decode b_X_set 88 = .ok (.iconst 0, 1) := by decide +kernel
theorem d_X_set_89 : decode b_X_set 89 = .ok (.bipush (99), 2) := by decide +kernel
theorem d_X_set_91 : decode b_X_set 91 = .ok (.invokestatic 105, 3) := by decide +kernel
theorem d_X_set_94 : decode b_X_set 94 = .ok (.ifCond .eq 19, 3) := by decide +kernel
theorem d_X_set_97 : decode b_X_set 97 = .ok (.aload 4, 2) := by decide +kernel
theorem d_X_set_99 : decode b_X_set 99 = .ok (.getfield 146, 3) := by decide +kernel
theorem d_X_set_102 : decode b_X_set 102 = .ok (.istore 5, 2) := by decide +kernel
theorem d_X_set_104 : decode b_X_set 104 = .ok (.aload 4, 2) := by decide +kernel
theorem d_X_set_106 : decode b_X_set 106 = .ok (.iload_n 3, 1) := by decide +kernel
theorem d_X_set_107 : decode b_X_set 107 = .ok (.putfield 146, 3) := by decide +kernel
theorem d_X_set_110 : decode b_X_set 110 = .ok (.goto 6, 3) := by decide +kernel
theorem d_X_set_113 : decode b_X_set 113 = .ok (.ldc 149, 2) := by decide +kernel
theorem d_X_set_115 : decode b_X_set 115 = .ok (.ireturn, 1) := by decide +kernel
theorem d_X_set_116 : decode b_X_set 116 = .ok (.iload 5, 2) := by decide +kernel
theorem d_X_set_118 : decode b_X_set 118 = .ok (.ireturn, 1) := by decide +kernel
abbrev b_X_told : ByteArray := prog_1_method_9_code
def y_X_told : MethodName := ⟨"RoundAndRound", "told", "(II)I"⟩
theorem d_X_told_0 : decode b_X_told 0 = .ok (.aload_n 0, 1) := by decide +kernel
theorem d_X_told_1 : decode b_X_told 1 = .ok (.iload_n 1, 1) := by decide +kernel
theorem d_X_told_2 : decode b_X_told 2 = .ok (.invokevirtual 113, 3) := by decide +kernel
theorem d_X_told_5 : decode b_X_told 5 = .ok (.ifCond .ne 6, 3) := by decide +kernel
theorem d_X_told_8 : decode b_X_told 8 = .ok (.ldc 139, 2) := by decide +kernel
theorem d_X_told_10 : decode b_X_told 10 = .ok (.ireturn, 1) := by decide +kernel
theorem d_X_told_11 : decode b_X_told 11 = .ok (.aload_n 0, 1) := by decide +kernel
theorem d_X_told_12 : decode b_X_told 12 = .ok (.iload_n 1, 1) := by decide +kernel
theorem d_X_told_13 : decode b_X_told 13 = .ok (.invokevirtual 124, 3) := by decide +kernel
theorem d_X_told_16 : decode b_X_told 16 = .ok (.astore_n 3, 1) := by decide +kernel
theorem d_X_told_17 : decode b_X_told 17 = .ok (.iload_n 2, 1) := by decide +kernel
theorem d_X_told_18 : decode b_X_told 18 = .ok (.tableswitch 103 (0) (8) #[50, 55, 60, 65, 70, 75, 80, 85, 98], 50) := by decide +kernel
theorem d_X_told_68 : decode b_X_told 68 = .ok (.aload_n 3, 1) := by decide +kernel
theorem d_X_told_69 : decode b_X_told 69 = .ok (.getfield 150, 3) := by decide +kernel
theorem d_X_told_72 : decode b_X_told 72 = .ok (.ireturn, 1) := by decide +kernel
theorem d_X_told_73 : decode b_X_told 73 = .ok (.aload_n 3, 1) := by decide +kernel
theorem d_X_told_74 : decode b_X_told 74 = .ok (.getfield 153, 3) := by decide +kernel
theorem d_X_told_77 : decode b_X_told 77 = .ok (.ireturn, 1) := by decide +kernel
theorem d_X_told_78 : decode b_X_told 78 = .ok (.aload_n 3, 1) := by decide +kernel
theorem d_X_told_79 : decode b_X_told 79 = .ok (.getfield 140, 3) := by decide +kernel
theorem d_X_told_82 : decode b_X_told 82 = .ok (.ireturn, 1) := by decide +kernel
theorem d_X_told_83 : decode b_X_told 83 = .ok (.aload_n 3, 1) := by decide +kernel
theorem d_X_told_84 : decode b_X_told 84 = .ok (.getfield 143, 3) := by decide +kernel
theorem d_X_told_87 : decode b_X_told 87 = .ok (.ireturn, 1) := by decide +kernel
theorem d_X_told_88 : decode b_X_told 88 = .ok (.aload_n 3, 1) := by decide +kernel
theorem d_X_told_89 : decode b_X_told 89 = .ok (.getfield 146, 3) := by decide +kernel
theorem d_X_told_92 : decode b_X_told 92 = .ok (.ireturn, 1) := by decide +kernel
theorem d_X_told_93 : decode b_X_told 93 = .ok (.aload_n 3, 1) := by decide +kernel
theorem d_X_told_94 : decode b_X_told 94 = .ok (.getfield 156, 3) := by decide +kernel
theorem d_X_told_97 : decode b_X_told 97 = .ok (.ireturn, 1) := by decide +kernel
theorem d_X_told_98 : decode b_X_told 98 = .ok (.aload_n 3, 1) := by decide +kernel
theorem d_X_told_99 : decode b_X_told 99 = .ok (.getfield 159, 3) := by decide +kernel
theorem d_X_told_102 : decode b_X_told 102 = .ok (.ireturn, 1) := by decide +kernel
theorem d_X_told_103 : decode b_X_told 103 = .ok (.aload_n 3, 1) := by decide +kernel
theorem d_X_told_104 : decode b_X_told 104 = .ok (.getfield 162, 3) := by decide +kernel
theorem d_X_told_107 : decode b_X_told 107 = .ok (.ifCond .eq 7, 3) := by decide +kernel
theorem d_X_told_110 : decode b_X_told 110 = .ok (.iconst 1, 1) := by decide +kernel
theorem d_X_told_111 : decode b_X_told 111 = .ok (.goto 4, 3) := by decide +kernel
theorem d_X_told_114 : decode b_X_told 114 = .ok (.iconst 0, 1) := by decide +kernel
theorem d_X_told_115 : decode b_X_told 115 = .ok (.ireturn, 1) := by decide +kernel
theorem d_X_told_116 : decode b_X_told 116 = .ok (.aload_n 3, 1) := by decide +kernel
theorem d_X_told_117 : decode b_X_told 117 = .ok (.invokevirtual 166, 3) := by decide +kernel
theorem d_X_told_120 : decode b_X_told 120 = .ok (.ireturn, 1) := by decide +kernel
theorem d_X_told_121 : decode b_X_told 121 = .ok (.ldc 149, 2) := by decide +kernel
theorem d_X_told_123 : decode b_X_told 123 = .ok (.ireturn, 1) := by decide +kernel
abbrev b_X_turn : ByteArray := prog_1_method_10_code
def y_X_turn : MethodName := ⟨"RoundAndRound", "turn", "(III)I"⟩
theorem d_X_turn_0 : decode b_X_turn 0 = .ok (.aload_n 0, 1) := by decide +kernel
theorem d_X_turn_1 : decode b_X_turn 1 = .ok (.iload_n 1, 1) := by decide +kernel
theorem d_X_turn_2 : decode b_X_turn 2 = .ok (.invokevirtual 113, 3) := by decide +kernel
theorem d_X_turn_5 : decode b_X_turn 5 = .ok (.ifCond .ne 6, 3) := by decide +kernel
theorem d_X_turn_8 : decode b_X_turn 8 = .ok (.ldc 139, 2) := by decide +kernel
theorem d_X_turn_10 : decode b_X_turn 10 = .ok (.ireturn, 1) := by decide +kernel
theorem d_X_turn_11 : decode b_X_turn 11 = .ok (.iload_n 2, 1) := by decide +kernel
theorem d_X_turn_12 : decode b_X_turn 12 = .ok (.invokestatic 169, 3) := by decide +kernel
theorem d_X_turn_15 : decode b_X_turn 15 = .ok (.ifCond .eq 10, 3) := by decide +kernel
theorem d_X_turn_18 : decode b_X_turn 18 = .ok (.iload_n 3, 1) := by decide +kernel
theorem d_X_turn_19 : decode b_X_turn 19 = .ok (.invokestatic 172, 3) := by decide +kernel
theorem d_X_turn_22 : decode b_X_turn 22 = .ok (.ifCond .ne 6, 3) := by decide +kernel
theorem d_X_turn_25 : decode b_X_turn 25 = .ok (.ldc 149, 2) := by decide +kernel
theorem d_X_turn_27 : decode b_X_turn 27 = .ok (.ireturn, 1) := by decide +kernel
theorem d_X_turn_28 : decode b_X_turn 28 = .ok (.aload_n 0, 1) := by decide +kernel
theorem d_X_turn_29 : decode b_X_turn 29 = .ok (.iload_n 1, 1) := by decide +kernel
theorem d_X_turn_30 : decode b_X_turn 30 = .ok (.invokevirtual 124, 3) := by decide +kernel
theorem d_X_turn_33 : decode b_X_turn 33 = .ok (.astore 4, 2) := by decide +kernel
theorem d_X_turn_35 : decode b_X_turn 35 = .ok (.aload 4, 2) := by decide +kernel
theorem d_X_turn_37 : decode b_X_turn 37 = .ok (.aload_n 0, 1) := by decide +kernel
theorem d_X_turn_38 : decode b_X_turn 38 = .ok (.invokevirtual 120, 3) := by decide +kernel
theorem d_X_turn_41 : decode b_X_turn 41 = .ok (.iload_n 2, 1) := by decide +kernel
theorem d_X_turn_42 : decode b_X_turn 42 = .ok (.iload_n 3, 1) := by decide +kernel
theorem d_X_turn_43 : decode b_X_turn 43 = .ok (.invokevirtual 175, 3) := by decide +kernel
theorem d_X_turn_46 : decode b_X_turn 46 = .ok (.aload 4, 2) := by decide +kernel
theorem d_X_turn_48 : decode b_X_turn 48 = .ok (.aload 4, 2) := by decide +kernel
theorem d_X_turn_50 : decode b_X_turn 50 = .ok (.getfield 146, 3) := by decide +kernel
theorem d_X_turn_53 : decode b_X_turn 53 = .ok (.iconst 1, 1) := by decide +kernel
theorem d_X_turn_54 : decode b_X_turn 54 = .ok (.iadd, 1) := by decide +kernel
theorem d_X_turn_55 : decode b_X_turn 55 = .ok (.bipush (99), 2) := by decide +kernel
theorem d_X_turn_57 : decode b_X_turn 57 = .ok (.invokestatic 179, 3) := by decide +kernel
theorem d_X_turn_60 : decode b_X_turn 60 = .ok (.putfield 146, 3) := by decide +kernel
theorem d_X_turn_63 : decode b_X_turn 63 = .ok (.aload 4, 2) := by decide +kernel
theorem d_X_turn_65 : decode b_X_turn 65 = .ok (.getfield 140, 3) := by decide +kernel
theorem d_X_turn_68 : decode b_X_turn 68 = .ok (.ireturn, 1) := by decide +kernel
abbrev b_X_rest : ByteArray := prog_1_method_11_code
def y_X_rest : MethodName := ⟨"RoundAndRound", "rest", "(III)I"⟩
theorem d_X_rest_0 : decode b_X_rest 0 = .ok (.aload_n 0, 1) := by decide +kernel
theorem d_X_rest_1 : decode b_X_rest 1 = .ok (.iload_n 1, 1) := by decide +kernel
theorem d_X_rest_2 : decode b_X_rest 2 = .ok (.invokevirtual 113, 3) := by decide +kernel
theorem d_X_rest_5 : decode b_X_rest 5 = .ok (.ifCond .ne 6, 3) := by decide +kernel
theorem d_X_rest_8 : decode b_X_rest 8 = .ok (.ldc 139, 2) := by decide +kernel
theorem d_X_rest_10 : decode b_X_rest 10 = .ok (.ireturn, 1) := by decide +kernel
theorem d_X_rest_11 : decode b_X_rest 11 = .ok (.iload_n 2, 1) := by decide +kernel
theorem d_X_rest_12 : decode b_X_rest 12 = .ok (.invokestatic 185, 3) := by decide +kernel
theorem d_X_rest_15 : decode b_X_rest 15 = .ok (.ifCond .eq 12, 3) := by decide +kernel
theorem d_X_rest_18 : decode b_X_rest 18 = .ok (.iload_n 3, 1) := by decide +kernel
theorem d_X_rest_19 : decode b_X_rest 19 = .ok (.iconst 0, 1) := by decide +kernel
theorem d_X_rest_20 : decode b_X_rest 20 = .ok (.iconst 1, 1) := by decide +kernel
theorem d_X_rest_21 : decode b_X_rest 21 = .ok (.invokestatic 105, 3) := by decide +kernel
theorem d_X_rest_24 : decode b_X_rest 24 = .ok (.ifCond .ne 6, 3) := by decide +kernel
theorem d_X_rest_27 : decode b_X_rest 27 = .ok (.ldc 149, 2) := by decide +kernel
theorem d_X_rest_29 : decode b_X_rest 29 = .ok (.ireturn, 1) := by decide +kernel
theorem d_X_rest_30 : decode b_X_rest 30 = .ok (.aload_n 0, 1) := by decide +kernel
theorem d_X_rest_31 : decode b_X_rest 31 = .ok (.iload_n 1, 1) := by decide +kernel
theorem d_X_rest_32 : decode b_X_rest 32 = .ok (.invokevirtual 124, 3) := by decide +kernel
theorem d_X_rest_35 : decode b_X_rest 35 = .ok (.astore 4, 2) := by decide +kernel
theorem d_X_rest_37 : decode b_X_rest 37 = .ok (.aload 4, 2) := by decide +kernel
theorem d_X_rest_39 : decode b_X_rest 39 = .ok (.aload_n 0, 1) := by decide +kernel
theorem d_X_rest_40 : decode b_X_rest 40 = .ok (.invokevirtual 120, 3) := by decide +kernel
theorem d_X_rest_43 : decode b_X_rest 43 = .ok (.iload_n 2, 1) := by decide +kernel
theorem d_X_rest_44 : decode b_X_rest 44 = .ok (.iload_n 3, 1) := by decide +kernel
theorem d_X_rest_45 : decode b_X_rest 45 = .ok (.invokevirtual 188, 3) := by decide +kernel
theorem d_X_rest_48 : decode b_X_rest 48 = .ok (.aload 4, 2) := by decide +kernel
theorem d_X_rest_50 : decode b_X_rest 50 = .ok (.getfield 140, 3) := by decide +kernel
theorem d_X_rest_53 : decode b_X_rest 53 = .ok (.ireturn, 1) := by decide +kernel
abbrev b_X_walk : ByteArray := prog_1_method_12_code
def y_X_walk : MethodName := ⟨"RoundAndRound", "walk", "(III)I"⟩
theorem d_X_walk_0 : decode b_X_walk 0 = .ok (.aload_n 0, 1) := by decide +kernel
theorem d_X_walk_1 : decode b_X_walk 1 = .ok (.iload_n 1, 1) := by decide +kernel
theorem d_X_walk_2 : decode b_X_walk 2 = .ok (.invokevirtual 113, 3) := by decide +kernel
theorem d_X_walk_5 : decode b_X_walk 5 = .ok (.ifCond .ne 6, 3) := by decide +kernel
theorem d_X_walk_8 : decode b_X_walk 8 = .ok (.ldc 139, 2) := by decide +kernel
theorem d_X_walk_10 : decode b_X_walk 10 = .ok (.ireturn, 1) := by decide +kernel
theorem d_X_walk_11 : decode b_X_walk 11 = .ok (.iload_n 2, 1) := by decide +kernel
theorem d_X_walk_12 : decode b_X_walk 12 = .ok (.invokestatic 185, 3) := by decide +kernel
theorem d_X_walk_15 : decode b_X_walk 15 = .ok (.ifCond .eq 11, 3) := by decide +kernel
theorem d_X_walk_18 : decode b_X_walk 18 = .ok (.iload_n 3, 1) := by decide +kernel
theorem d_X_walk_19 : decode b_X_walk 19 = .ok (.iconst 1, 1) := by decide +kernel
theorem d_X_walk_20 : decode b_X_walk 20 = .ok (.invokestatic 116, 3) := by decide +kernel
theorem d_X_walk_23 : decode b_X_walk 23 = .ok (.ifCond .ne 6, 3) := by decide +kernel
theorem d_X_walk_26 : decode b_X_walk 26 = .ok (.ldc 149, 2) := by decide +kernel
theorem d_X_walk_28 : decode b_X_walk 28 = .ok (.ireturn, 1) := by decide +kernel
theorem d_X_walk_29 : decode b_X_walk 29 = .ok (.aload_n 0, 1) := by decide +kernel
theorem d_X_walk_30 : decode b_X_walk 30 = .ok (.iload_n 1, 1) := by decide +kernel
theorem d_X_walk_31 : decode b_X_walk 31 = .ok (.invokevirtual 124, 3) := by decide +kernel
theorem d_X_walk_34 : decode b_X_walk 34 = .ok (.astore 4, 2) := by decide +kernel
theorem d_X_walk_36 : decode b_X_walk 36 = .ok (.aload 4, 2) := by decide +kernel
theorem d_X_walk_38 : decode b_X_walk 38 = .ok (.aload_n 0, 1) := by decide +kernel
theorem d_X_walk_39 : decode b_X_walk 39 = .ok (.invokevirtual 120, 3) := by decide +kernel
theorem d_X_walk_42 : decode b_X_walk 42 = .ok (.iload_n 2, 1) := by decide +kernel
theorem d_X_walk_43 : decode b_X_walk 43 = .ok (.iload_n 3, 1) := by decide +kernel
theorem d_X_walk_44 : decode b_X_walk 44 = .ok (.bipush (10), 2) := by decide +kernel
theorem d_X_walk_46 : decode b_X_walk 46 = .ok (.idiv, 1) := by decide +kernel
theorem d_X_walk_47 : decode b_X_walk 47 = .ok (.iload_n 3, 1) := by decide +kernel
theorem d_X_walk_48 : decode b_X_walk 48 = .ok (.bipush (10), 2) := by decide +kernel
theorem d_X_walk_50 : decode b_X_walk 50 = .ok (.irem, 1) := by decide +kernel
theorem d_X_walk_51 : decode b_X_walk 51 = .ok (.invokevirtual 191, 3) := by decide +kernel
theorem d_X_walk_54 : decode b_X_walk 54 = .ok (.pop, 1) := by decide +kernel
theorem d_X_walk_55 : decode b_X_walk 55 = .ok (.aload 4, 2) := by decide +kernel
theorem d_X_walk_57 : decode b_X_walk 57 = .ok (.getfield 159, 3) := by decide +kernel
theorem d_X_walk_60 : decode b_X_walk 60 = .ok (.ireturn, 1) := by decide +kernel
abbrev b_X_up : ByteArray := prog_1_method_13_code
def y_X_up : MethodName := ⟨"RoundAndRound", "up", "(I)I"⟩
theorem d_X_up_0 : decode b_X_up 0 = .ok (.aload_n 0, 1) := by decide +kernel
theorem d_X_up_1 : decode b_X_up 1 = .ok (.iload_n 1, 1) := by decide +kernel
theorem d_X_up_2 : decode b_X_up 2 = .ok (.invokevirtual 113, 3) := by decide +kernel
theorem d_X_up_5 : decode b_X_up 5 = .ok (.ifCond .ne 6, 3) := by decide +kernel
theorem d_X_up_8 : decode b_X_up 8 = .ok (.ldc 139, 2) := by decide +kernel
theorem d_X_up_10 : decode b_X_up 10 = .ok (.ireturn, 1) := by decide +kernel
theorem d_X_up_11 : decode b_X_up 11 = .ok (.aload_n 0, 1) := by decide +kernel
theorem d_X_up_12 : decode b_X_up 12 = .ok (.iload_n 1, 1) := by decide +kernel
theorem d_X_up_13 : decode b_X_up 13 = .ok (.invokevirtual 124, 3) := by decide +kernel
theorem d_X_up_16 : decode b_X_up 16 = .ok (.astore_n 2, 1) := by decide +kernel
theorem d_X_up_17 : decode b_X_up 17 = .ok (.aload_n 2, 1) := by decide +kernel
theorem d_X_up_18 : decode b_X_up 18 = .ok (.getfield 159, 3) := by decide +kernel
theorem d_X_up_21 : decode b_X_up 21 = .ok (.istore_n 3, 1) := by decide +kernel
theorem d_X_up_22 : decode b_X_up 22 = .ok (.aload_n 2, 1) := by decide +kernel
theorem d_X_up_23 : decode b_X_up 23 = .ok (.invokevirtual 195, 3) := by decide +kernel
theorem d_X_up_26 : decode b_X_up 26 = .ok (.iload_n 3, 1) := by decide +kernel
theorem d_X_up_27 : decode b_X_up 27 = .ok (.ireturn, 1) := by decide +kernel
abbrev b_X_ends : ByteArray := prog_1_method_14_code
def y_X_ends : MethodName := ⟨"RoundAndRound", "ends", "(IIIII)I"⟩
theorem d_X_ends_0 : decode b_X_ends 0 = .ok (.aload_n 0, 1) := by decide +kernel
theorem d_X_ends_1 : decode b_X_ends 1 = .ok (.iload_n 1, 1) := by decide +kernel
theorem d_X_ends_2 : decode b_X_ends 2 = .ok (.invokevirtual 113, 3) := by decide +kernel
theorem d_X_ends_5 : decode b_X_ends 5 = .ok (.ifCond .ne 6, 3) := by decide +kernel
theorem d_X_ends_8 : decode b_X_ends 8 = .ok (.ldc 139, 2) := by decide +kernel
theorem d_X_ends_10 : decode b_X_ends 10 = .ok (.ireturn, 1) := by decide +kernel
theorem d_X_ends_11 : decode b_X_ends 11 = .ok (.iload_n 2, 1) := by decide +kernel
theorem d_X_ends_12 : decode b_X_ends 12 = .ok (.invokestatic 169, 3) := by decide +kernel
theorem d_X_ends_15 : decode b_X_ends 15 = .ok (.ifCond .eq 28, 3) := by decide +kernel
theorem d_X_ends_18 : decode b_X_ends 18 = .ok (.iload_n 3, 1) := by decide +kernel
theorem d_X_ends_19 : decode b_X_ends 19 = .ok (.invokestatic 198, 3) := by decide +kernel
theorem d_X_ends_22 : decode b_X_ends 22 = .ok (.ifCond .eq 21, 3) := by decide +kernel
theorem d_X_ends_25 : decode b_X_ends 25 = .ok (.iload 4, 2) := by decide +kernel
theorem d_X_ends_27 : decode b_X_ends 27 = .ok (.invokestatic 185, 3) := by decide +kernel
theorem d_X_ends_30 : decode b_X_ends 30 = .ok (.ifCond .eq 13, 3) := by decide +kernel
theorem d_X_ends_33 : decode b_X_ends 33 = .ok (.iload 5, 2) := by decide +kernel
theorem d_X_ends_35 : decode b_X_ends 35 = .ok (.iconst 0, 1) := by decide +kernel
theorem d_X_ends_36 : decode b_X_ends 36 = .ok (.iconst 3, 1) := by decide +kernel
theorem d_X_ends_37 : decode b_X_ends 37 = .ok (.invokestatic 105, 3) := by decide +kernel
theorem d_X_ends_40 : decode b_X_ends 40 = .ok (.ifCond .ne 6, 3) := by decide +kernel
theorem d_X_ends_43 : decode b_X_ends 43 = .ok (.ldc 149, 2) := by decide +kernel
theorem d_X_ends_45 : decode b_X_ends 45 = .ok (.ireturn, 1) := by decide +kernel
theorem d_X_ends_46 : decode b_X_ends 46 = .ok (.aload_n 0, 1) := by decide +kernel
theorem d_X_ends_47 : decode b_X_ends 47 = .ok (.aload_n 0, 1) := by decide +kernel
theorem d_X_ends_48 : decode b_X_ends 48 = .ok (.iload_n 1, 1) := by decide +kernel
theorem d_X_ends_49 : decode b_X_ends 49 = .ok (.invokevirtual 124, 3) := by decide +kernel
theorem d_X_ends_52 : decode b_X_ends 52 = .ok (.aload_n 0, 1) := by decide +kernel
theorem d_X_ends_53 : decode b_X_ends 53 = .ok (.invokevirtual 120, 3) := by decide +kernel
theorem d_X_ends_56 : decode b_X_ends 56 = .ok (.iload_n 2, 1) := by decide +kernel
theorem d_X_ends_57 : decode b_X_ends 57 = .ok (.iload_n 3, 1) := by decide +kernel
theorem d_X_ends_58 : decode b_X_ends 58 = .ok (.bipush (10), 2) := by decide +kernel
theorem d_X_ends_60 : decode b_X_ends 60 = .ok (.idiv, 1) := by decide +kernel
theorem d_X_ends_61 : decode b_X_ends 61 = .ok (.bipush (10), 2) := by decide +kernel
theorem d_X_ends_63 : decode b_X_ends 63 = .ok (.irem, 1) := by decide +kernel
theorem d_X_ends_64 : decode b_X_ends 64 = .ok (.invokevirtual 201, 3) := by decide +kernel
theorem d_X_ends_67 : decode b_X_ends 67 = .ok (.aload_n 0, 1) := by decide +kernel
theorem d_X_ends_68 : decode b_X_ends 68 = .ok (.getfield 19, 3) := by decide +kernel
theorem d_X_ends_71 : decode b_X_ends 71 = .ok (.aload_n 0, 1) := by decide +kernel
theorem d_X_ends_72 : decode b_X_ends 72 = .ok (.invokevirtual 120, 3) := by decide +kernel
theorem d_X_ends_75 : decode b_X_ends 75 = .ok (.iload_n 3, 1) := by decide +kernel
theorem d_X_ends_76 : decode b_X_ends 76 = .ok (.bipush (100), 2) := by decide +kernel
theorem d_X_ends_78 : decode b_X_ends 78 = .ok (.idiv, 1) := by decide +kernel
theorem d_X_ends_79 : decode b_X_ends 79 = .ok (.iconst 1, 1) := by decide +kernel
theorem d_X_ends_80 : decode b_X_ends 80 = .ok (.invokevirtual 188, 3) := by decide +kernel
theorem d_X_ends_83 : decode b_X_ends 83 = .ok (.aload_n 0, 1) := by decide +kernel
theorem d_X_ends_84 : decode b_X_ends 84 = .ok (.getfield 19, 3) := by decide +kernel
theorem d_X_ends_87 : decode b_X_ends 87 = .ok (.aload_n 0, 1) := by decide +kernel
theorem d_X_ends_88 : decode b_X_ends 88 = .ok (.invokevirtual 120, 3) := by decide +kernel
theorem d_X_ends_91 : decode b_X_ends 91 = .ok (.iload 4, 2) := by decide +kernel
theorem d_X_ends_93 : decode b_X_ends 93 = .ok (.iload_n 3, 1) := by decide +kernel
theorem d_X_ends_94 : decode b_X_ends 94 = .ok (.bipush (10), 2) := by decide +kernel
theorem d_X_ends_96 : decode b_X_ends 96 = .ok (.irem, 1) := by decide +kernel
theorem d_X_ends_97 : decode b_X_ends 97 = .ok (.iconst 1, 1) := by decide +kernel
theorem d_X_ends_98 : decode b_X_ends 98 = .ok (.invokevirtual 191, 3) := by decide +kernel
theorem d_X_ends_101 : decode b_X_ends 101 = .ok (.istore 6, 2) := by decide +kernel
theorem d_X_ends_103 : decode b_X_ends 103 = .ok (.iload 5, 2) := by decide +kernel
theorem d_X_ends_105 : decode b_X_ends 105 = .ok (.tableswitch 51 (0) (2) #[27, 35, 43], 27) := by decide +kernel
theorem d_X_ends_132 : decode b_X_ends 132 = .ok (.aload_n 0, 1) := by decide +kernel
theorem d_X_ends_133 : decode b_X_ends 133 = .ok (.getfield 19, 3) := by decide +kernel
theorem d_X_ends_136 : decode b_X_ends 136 = .ok (.getfield 140, 3) := by decide +kernel
theorem d_X_ends_139 : decode b_X_ends 139 = .ok (.ireturn, 1) := by decide +kernel
theorem d_X_ends_140 : decode b_X_ends 140 = .ok (.aload_n 0, 1) := by decide +kernel
theorem d_X_ends_141 : decode b_X_ends 141 = .ok (.getfield 19, 3) := by decide +kernel
theorem d_X_ends_144 : decode b_X_ends 144 = .ok (.getfield 159, 3) := by decide +kernel
theorem d_X_ends_147 : decode b_X_ends 147 = .ok (.ireturn, 1) := by decide +kernel
theorem d_X_ends_148 : decode b_X_ends 148 = .ok (.aload_n 0, 1) := by decide +kernel
theorem d_X_ends_149 : decode b_X_ends 149 = .ok (.getfield 19, 3) := by decide +kernel
theorem d_X_ends_152 : decode b_X_ends 152 = .ok (.getfield 156, 3) := by decide +kernel
theorem d_X_ends_155 : decode b_X_ends 155 = .ok (.ireturn, 1) := by decide +kernel
theorem d_X_ends_156 : decode b_X_ends 156 = .ok (.iload 6, 2) := by decide +kernel
theorem d_X_ends_158 : decode b_X_ends 158 = .ok (.ireturn, 1) := by decide +kernel
abbrev b_X_stands : ByteArray := prog_1_method_15_code
def y_X_stands : MethodName := ⟨"RoundAndRound", "stands", "(II)I"⟩
theorem d_X_stands_0 : decode b_X_stands 0 = .ok (.aload_n 0, 1) := by decide +kernel
theorem d_X_stands_1 : decode b_X_stands 1 = .ok (.iload_n 1, 1) := by decide +kernel
theorem d_X_stands_2 : decode b_X_stands 2 = .ok (.invokevirtual 113, 3) := by decide +kernel
theorem d_X_stands_5 : decode b_X_stands 5 = .ok (.ifCond .ne 6, 3) := by decide +kernel
theorem d_X_stands_8 : decode b_X_stands 8 = .ok (.ldc 139, 2) := by decide +kernel
theorem d_X_stands_10 : decode b_X_stands 10 = .ok (.ireturn, 1) := by decide +kernel
theorem d_X_stands_11 : decode b_X_stands 11 = .ok (.iload_n 2, 1) := by decide +kernel
theorem d_X_stands_12 : decode b_X_stands 12 = .ok (.invokestatic 172, 3) := by decide +kernel
theorem d_X_stands_15 : decode b_X_stands 15 = .ok (.ifCond .ne 6, 3) := by decide +kernel
theorem d_X_stands_18 : decode b_X_stands 18 = .ok (.ldc 149, 2) := by decide +kernel
theorem d_X_stands_20 : decode b_X_stands 20 = .ok (.ireturn, 1) := by decide +kernel
theorem d_X_stands_21 : decode b_X_stands 21 = .ok (.aload_n 0, 1) := by decide +kernel
theorem d_X_stands_22 : decode b_X_stands 22 = .ok (.aload_n 0, 1) := by decide +kernel
theorem d_X_stands_23 : decode b_X_stands 23 = .ok (.iload_n 1, 1) := by decide +kernel
theorem d_X_stands_24 : decode b_X_stands 24 = .ok (.invokevirtual 124, 3) := by decide +kernel
theorem d_X_stands_27 : decode b_X_stands 27 = .ok (.invokevirtual 205, 3) := by decide +kernel
theorem d_X_stands_30 : decode b_X_stands 30 = .ok (.iconst 0, 1) := by decide +kernel
theorem d_X_stands_31 : decode b_X_stands 31 = .ok (.istore_n 3, 1) := by decide +kernel
theorem d_X_stands_32 : decode b_X_stands 32 = .ok (.iconst 1, 1) := by decide +kernel
theorem d_X_stands_33 : decode b_X_stands 33 = .ok (.istore 4, 2) := by decide +kernel
theorem d_X_stands_35 : decode b_X_stands 35 = .ok (.iload 4, 2) := by decide +kernel
theorem d_X_stands_37 : decode b_X_stands 37 = .ok (.bipush (40), 2) := by decide +kernel
theorem d_X_stands_39 : decode b_X_stands 39 = .ok (.if_icmp .gt 35, 3) := by decide +kernel
theorem d_X_stands_42 : decode b_X_stands 42 = .ok (.aload_n 0, 1) := by decide +kernel
theorem d_X_stands_43 : decode b_X_stands 43 = .ok (.getfield 19, 3) := by decide +kernel
theorem d_X_stands_46 : decode b_X_stands 46 = .ok (.aload_n 0, 1) := by decide +kernel
theorem d_X_stands_47 : decode b_X_stands 47 = .ok (.invokevirtual 120, 3) := by decide +kernel
theorem d_X_stands_50 : decode b_X_stands 50 = .ok (.iload_n 2, 1) := by decide +kernel
theorem d_X_stands_51 : decode b_X_stands 51 = .ok (.iconst 1, 1) := by decide +kernel
theorem d_X_stands_52 : decode b_X_stands 52 = .ok (.invokevirtual 209, 3) := by decide +kernel
theorem d_X_stands_55 : decode b_X_stands 55 = .ok (.aload_n 0, 1) := by decide +kernel
theorem d_X_stands_56 : decode b_X_stands 56 = .ok (.getfield 19, 3) := by decide +kernel
theorem d_X_stands_59 : decode b_X_stands 59 = .ok (.invokevirtual 212, 3) := by decide +kernel
theorem d_X_stands_62 : decode b_X_stands 62 = .ok (.ifCond .ne 6, 3) := by decide +kernel
theorem d_X_stands_65 : decode b_X_stands 65 = .ok (.iload 4, 2) := by decide +kernel
theorem d_X_stands_67 : decode b_X_stands 67 = .ok (.istore_n 3, 1) := by decide +kernel
theorem d_X_stands_68 : decode b_X_stands 68 = .ok (.iinc 4 (1), 3) := by decide +kernel
theorem d_X_stands_71 : decode b_X_stands 71 = .ok (.goto (-36), 3) := by decide +kernel
theorem d_X_stands_74 : decode b_X_stands 74 = .ok (.iload_n 3, 1) := by decide +kernel
theorem d_X_stands_75 : decode b_X_stands 75 = .ok (.ireturn, 1) := by decide +kernel
abbrev b_X_undo : ByteArray := prog_1_method_16_code
def y_X_undo : MethodName := ⟨"RoundAndRound", "undo", "(III)I"⟩
theorem d_X_undo_0 : decode b_X_undo 0 = .ok (.aload_n 0, 1) := by decide +kernel
theorem d_X_undo_1 : decode b_X_undo 1 = .ok (.iload_n 1, 1) := by decide +kernel
theorem d_X_undo_2 : decode b_X_undo 2 = .ok (.invokevirtual 113, 3) := by decide +kernel
theorem d_X_undo_5 : decode b_X_undo 5 = .ok (.ifCond .ne 6, 3) := by decide +kernel
theorem d_X_undo_8 : decode b_X_undo 8 = .ok (.ldc 139, 2) := by decide +kernel
theorem d_X_undo_10 : decode b_X_undo 10 = .ok (.ireturn, 1) := by decide +kernel
theorem d_X_undo_11 : decode b_X_undo 11 = .ok (.iload_n 2, 1) := by decide +kernel
theorem d_X_undo_12 : decode b_X_undo 12 = .ok (.invokestatic 172, 3) := by decide +kernel
theorem d_X_undo_15 : decode b_X_undo 15 = .ok (.ifCond .eq 12, 3) := by decide +kernel
theorem d_X_undo_18 : decode b_X_undo 18 = .ok (.iload_n 3, 1) := by decide +kernel
theorem d_X_undo_19 : decode b_X_undo 19 = .ok (.iconst 0, 1) := by decide +kernel
theorem d_X_undo_20 : decode b_X_undo 20 = .ok (.iconst 1, 1) := by decide +kernel
theorem d_X_undo_21 : decode b_X_undo 21 = .ok (.invokestatic 105, 3) := by decide +kernel
theorem d_X_undo_24 : decode b_X_undo 24 = .ok (.ifCond .ne 6, 3) := by decide +kernel
theorem d_X_undo_27 : decode b_X_undo 27 = .ok (.ldc 149, 2) := by decide +kernel
theorem d_X_undo_29 : decode b_X_undo 29 = .ok (.ireturn, 1) := by decide +kernel
theorem d_X_undo_30 : decode b_X_undo 30 = .ok (.aload_n 0, 1) := by decide +kernel
theorem d_X_undo_31 : decode b_X_undo 31 = .ok (.aload_n 0, 1) := by decide +kernel
theorem d_X_undo_32 : decode b_X_undo 32 = .ok (.iload_n 1, 1) := by decide +kernel
theorem d_X_undo_33 : decode b_X_undo 33 = .ok (.invokevirtual 124, 3) := by decide +kernel
theorem d_X_undo_36 : decode b_X_undo 36 = .ok (.invokevirtual 205, 3) := by decide +kernel
theorem d_X_undo_39 : decode b_X_undo 39 = .ok (.aload_n 0, 1) := by decide +kernel
theorem d_X_undo_40 : decode b_X_undo 40 = .ok (.getfield 19, 3) := by decide +kernel
theorem d_X_undo_43 : decode b_X_undo 43 = .ok (.getfield 140, 3) := by decide +kernel
theorem d_X_undo_46 : decode b_X_undo 46 = .ok (.ifCond .le 7, 3) := by decide +kernel
theorem d_X_undo_49 : decode b_X_undo 49 = .ok (.iconst (-1), 1) := by decide +kernel
theorem d_X_undo_50 : decode b_X_undo 50 = .ok (.goto 4, 3) := by decide +kernel
theorem d_X_undo_53 : decode b_X_undo 53 = .ok (.iconst 1, 1) := by decide +kernel
theorem d_X_undo_54 : decode b_X_undo 54 = .ok (.istore 4, 2) := by decide +kernel
theorem d_X_undo_56 : decode b_X_undo 56 = .ok (.iconst 0, 1) := by decide +kernel
theorem d_X_undo_57 : decode b_X_undo 57 = .ok (.istore 5, 2) := by decide +kernel
theorem d_X_undo_59 : decode b_X_undo 59 = .ok (.aload_n 0, 1) := by decide +kernel
theorem d_X_undo_60 : decode b_X_undo 60 = .ok (.getfield 19, 3) := by decide +kernel
theorem d_X_undo_63 : decode b_X_undo 63 = .ok (.getfield 140, 3) := by decide +kernel
theorem d_X_undo_66 : decode b_X_undo 66 = .ok (.invokestatic 216, 3) := by decide +kernel
theorem d_X_undo_69 : decode b_X_undo 69 = .ok (.istore 6, 2) := by decide +kernel
theorem d_X_undo_71 : decode b_X_undo 71 = .ok (.iconst 1, 1) := by decide +kernel
theorem d_X_undo_72 : decode b_X_undo 72 = .ok (.istore 7, 2) := by decide +kernel
theorem d_X_undo_74 : decode b_X_undo 74 = .ok (.iload 7, 2) := by decide +kernel
theorem d_X_undo_76 : decode b_X_undo 76 = .ok (.bipush (40), 2) := by decide +kernel
theorem d_X_undo_78 : decode b_X_undo 78 = .ok (.if_icmp .gt 54, 3) := by decide +kernel
theorem d_X_undo_81 : decode b_X_undo 81 = .ok (.aload_n 0, 1) := by decide +kernel
theorem d_X_undo_82 : decode b_X_undo 82 = .ok (.getfield 19, 3) := by decide +kernel
theorem d_X_undo_85 : decode b_X_undo 85 = .ok (.aload_n 0, 1) := by decide +kernel
theorem d_X_undo_86 : decode b_X_undo 86 = .ok (.invokevirtual 120, 3) := by decide +kernel
theorem d_X_undo_89 : decode b_X_undo 89 = .ok (.iload_n 2, 1) := by decide +kernel
theorem d_X_undo_90 : decode b_X_undo 90 = .ok (.iload 4, 2) := by decide +kernel
theorem d_X_undo_92 : decode b_X_undo 92 = .ok (.invokevirtual 209, 3) := by decide +kernel
theorem d_X_undo_95 : decode b_X_undo 95 = .ok (.aload_n 0, 1) := by decide +kernel
theorem d_X_undo_96 : decode b_X_undo 96 = .ok (.getfield 19, 3) := by decide +kernel
theorem d_X_undo_99 : decode b_X_undo 99 = .ok (.getfield 140, 3) := by decide +kernel
theorem d_X_undo_102 : decode b_X_undo 102 = .ok (.invokestatic 216, 3) := by decide +kernel
theorem d_X_undo_105 : decode b_X_undo 105 = .ok (.iload 6, 2) := by decide +kernel
theorem d_X_undo_107 : decode b_X_undo 107 = .ok (.if_icmp .ge 19, 3) := by decide +kernel
theorem d_X_undo_110 : decode b_X_undo 110 = .ok (.aload_n 0, 1) := by decide +kernel
theorem d_X_undo_111 : decode b_X_undo 111 = .ok (.getfield 19, 3) := by decide +kernel
theorem d_X_undo_114 : decode b_X_undo 114 = .ok (.getfield 140, 3) := by decide +kernel
theorem d_X_undo_117 : decode b_X_undo 117 = .ok (.invokestatic 216, 3) := by decide +kernel
theorem d_X_undo_120 : decode b_X_undo 120 = .ok (.istore 6, 2) := by decide +kernel
theorem d_X_undo_122 : decode b_X_undo 122 = .ok (.iload 7, 2) := by decide +kernel
theorem d_X_undo_124 : decode b_X_undo 124 = .ok (.istore 5, 2) := by decide +kernel
theorem d_X_undo_126 : decode b_X_undo 126 = .ok (.iinc 7 (1), 3) := by decide +kernel
theorem d_X_undo_129 : decode b_X_undo 129 = .ok (.goto (-55), 3) := by decide +kernel
theorem d_X_undo_132 : decode b_X_undo 132 = .ok (.iload_n 3, 1) := by decide +kernel
theorem d_X_undo_133 : decode b_X_undo 133 = .ok (.ifCond .ne 8, 3) := by decide +kernel
theorem d_X_undo_136 : decode b_X_undo 136 = .ok (.iload 5, 2) := by decide +kernel
theorem d_X_undo_138 : decode b_X_undo 138 = .ok (.goto 5, 3) := by decide +kernel
theorem d_X_undo_141 : decode b_X_undo 141 = .ok (.iload 6, 2) := by decide +kernel
theorem d_X_undo_143 : decode b_X_undo 143 = .ok (.ireturn, 1) := by decide +kernel
abbrev b_X_fine : ByteArray := prog_1_method_17_code
def y_X_fine : MethodName := ⟨"RoundAndRound", "fine", "(II)I"⟩
theorem d_X_fine_0 : decode b_X_fine 0 = .ok (.aload_n 0, 1) := by decide +kernel
theorem d_X_fine_1 : decode b_X_fine 1 = .ok (.iload_n 1, 1) := by decide +kernel
theorem d_X_fine_2 : decode b_X_fine 2 = .ok (.invokevirtual 113, 3) := by decide +kernel
theorem d_X_fine_5 : decode b_X_fine 5 = .ok (.ifCond .ne 6, 3) := by decide +kernel
theorem d_X_fine_8 : decode b_X_fine 8 = .ok (.ldc 139, 2) := by decide +kernel
theorem d_X_fine_10 : decode b_X_fine 10 = .ok (.ireturn, 1) := by decide +kernel
theorem d_X_fine_11 : decode b_X_fine 11 = .ok (.iload_n 2, 1) := by decide +kernel
theorem d_X_fine_12 : decode b_X_fine 12 = .ok (.iconst 1, 1) := by decide +kernel
theorem d_X_fine_13 : decode b_X_fine 13 = .ok (.sipush (9999), 3) := by decide +kernel
theorem d_X_fine_16 : decode b_X_fine 16 = .ok (.invokestatic 105, 3) := by decide +kernel
theorem d_X_fine_19 : decode b_X_fine 19 = .ok (.ifCond .ne 6, 3) := by decide +kernel
theorem d_X_fine_22 : decode b_X_fine 22 = .ok (.ldc 149, 2) := by decide +kernel
theorem d_X_fine_24 : decode b_X_fine 24 = .ok (.ireturn, 1) := by decide +kernel
theorem d_X_fine_25 : decode b_X_fine 25 = .ok (.aload_n 0, 1) := by decide +kernel
theorem d_X_fine_26 : decode b_X_fine 26 = .ok (.aload_n 0, 1) := by decide +kernel
theorem d_X_fine_27 : decode b_X_fine 27 = .ok (.iload_n 1, 1) := by decide +kernel
theorem d_X_fine_28 : decode b_X_fine 28 = .ok (.invokevirtual 124, 3) := by decide +kernel
theorem d_X_fine_31 : decode b_X_fine 31 = .ok (.invokevirtual 205, 3) := by decide +kernel
theorem d_X_fine_34 : decode b_X_fine 34 = .ok (.iconst 0, 1) := by decide +kernel
theorem d_X_fine_35 : decode b_X_fine 35 = .ok (.istore_n 3, 1) := by decide +kernel
theorem d_X_fine_36 : decode b_X_fine 36 = .ok (.iload_n 3, 1) := by decide +kernel
theorem d_X_fine_37 : decode b_X_fine 37 = .ok (.bipush (60), 2) := by decide +kernel
theorem d_X_fine_39 : decode b_X_fine 39 = .ok (.if_icmp .gt 37, 3) := by decide +kernel
theorem d_X_fine_42 : decode b_X_fine 42 = .ok (.aload_n 0, 1) := by decide +kernel
theorem d_X_fine_43 : decode b_X_fine 43 = .ok (.getfield 19, 3) := by decide +kernel
theorem d_X_fine_46 : decode b_X_fine 46 = .ok (.getfield 140, 3) := by decide +kernel
theorem d_X_fine_49 : decode b_X_fine 49 = .ok (.invokestatic 216, 3) := by decide +kernel
theorem d_X_fine_52 : decode b_X_fine 52 = .ok (.iload_n 2, 1) := by decide +kernel
theorem d_X_fine_53 : decode b_X_fine 53 = .ok (.if_icmp .ge 5, 3) := by decide +kernel
theorem d_X_fine_56 : decode b_X_fine 56 = .ok (.iload_n 3, 1) := by decide +kernel
theorem d_X_fine_57 : decode b_X_fine 57 = .ok (.ireturn, 1) := by decide +kernel
theorem d_X_fine_58 : decode b_X_fine 58 = .ok (.aload_n 0, 1) := by decide +kernel
theorem d_X_fine_59 : decode b_X_fine 59 = .ok (.getfield 19, 3) := by decide +kernel
theorem d_X_fine_62 : decode b_X_fine 62 = .ok (.aload_n 0, 1) := by decide +kernel
theorem d_X_fine_63 : decode b_X_fine 63 = .ok (.invokevirtual 120, 3) := by decide +kernel
theorem d_X_fine_66 : decode b_X_fine 66 = .ok (.iconst 1, 1) := by decide +kernel
theorem d_X_fine_67 : decode b_X_fine 67 = .ok (.invokevirtual 220, 3) := by decide +kernel
theorem d_X_fine_70 : decode b_X_fine 70 = .ok (.iinc 3 (1), 3) := by decide +kernel
theorem d_X_fine_73 : decode b_X_fine 73 = .ok (.goto (-37), 3) := by decide +kernel
theorem d_X_fine_76 : decode b_X_fine 76 = .ok (.iconst (-1), 1) := by decide +kernel
theorem d_X_fine_77 : decode b_X_fine 77 = .ok (.ireturn, 1) := by decide +kernel
abbrev b_X_race : ByteArray := prog_1_method_18_code
def y_X_race : MethodName := ⟨"RoundAndRound", "race", "(IIIII)I"⟩
theorem d_X_race_0 : decode b_X_race 0 = .ok (.aload_n 0, 1) := by decide +kernel
theorem d_X_race_1 : decode b_X_race 1 = .ok (.iload_n 1, 1) := by decide +kernel
theorem d_X_race_2 : decode b_X_race 2 = .ok (.invokevirtual 113, 3) := by decide +kernel
theorem d_X_race_5 : decode b_X_race 5 = .ok (.ifCond .ne 6, 3) := by decide +kernel
theorem d_X_race_8 : decode b_X_race 8 = .ok (.ldc 139, 2) := by decide +kernel
theorem d_X_race_10 : decode b_X_race 10 = .ok (.ireturn, 1) := by decide +kernel
theorem d_X_race_11 : decode b_X_race 11 = .ok (.iload_n 2, 1) := by decide +kernel
theorem d_X_race_12 : decode b_X_race 12 = .ok (.iload_n 3, 1) := by decide +kernel
theorem d_X_race_13 : decode b_X_race 13 = .ok (.iload 4, 2) := by decide +kernel
theorem d_X_race_15 : decode b_X_race 15 = .ok (.iload 5, 2) := by decide +kernel
theorem d_X_race_17 : decode b_X_race 17 = .ok (.invokestatic 224, 3) := by decide +kernel
theorem d_X_race_20 : decode b_X_race 20 = .ok (.ifCond .ne 6, 3) := by decide +kernel
theorem d_X_race_23 : decode b_X_race 23 = .ok (.ldc 149, 2) := by decide +kernel
theorem d_X_race_25 : decode b_X_race 25 = .ok (.ireturn, 1) := by decide +kernel
theorem d_X_race_26 : decode b_X_race 26 = .ok (.aload_n 0, 1) := by decide +kernel
theorem d_X_race_27 : decode b_X_race 27 = .ok (.aload_n 0, 1) := by decide +kernel
theorem d_X_race_28 : decode b_X_race 28 = .ok (.iload_n 1, 1) := by decide +kernel
theorem d_X_race_29 : decode b_X_race 29 = .ok (.invokevirtual 124, 3) := by decide +kernel
theorem d_X_race_32 : decode b_X_race 32 = .ok (.iload_n 2, 1) := by decide +kernel
theorem d_X_race_33 : decode b_X_race 33 = .ok (.iload_n 3, 1) := by decide +kernel
theorem d_X_race_34 : decode b_X_race 34 = .ok (.iload 4, 2) := by decide +kernel
theorem d_X_race_36 : decode b_X_race 36 = .ok (.invokevirtual 228, 3) := by decide +kernel
theorem d_X_race_39 : decode b_X_race 39 = .ok (.istore 6, 2) := by decide +kernel
theorem d_X_race_41 : decode b_X_race 41 = .ok (.iload 6, 2) := by decide +kernel
theorem d_X_race_43 : decode b_X_race 43 = .ok (.ifCond .lt 8, 3) := by decide +kernel
theorem d_X_race_46 : decode b_X_race 46 = .ok (.iload 5, 2) := by decide +kernel
theorem d_X_race_48 : decode b_X_race 48 = .ok (.ifCond .ne 8, 3) := by decide +kernel
theorem d_X_race_51 : decode b_X_race 51 = .ok (.iload 6, 2) := by decide +kernel
theorem d_X_race_53 : decode b_X_race 53 = .ok (.goto 12, 3) := by decide +kernel
theorem d_X_race_56 : decode b_X_race 56 = .ok (.iload 6, 2) := by decide +kernel
theorem d_X_race_58 : decode b_X_race 58 = .ok (.iload_n 3, 1) := by decide +kernel
theorem d_X_race_59 : decode b_X_race 59 = .ok (.iload 4, 2) := by decide +kernel
theorem d_X_race_61 : decode b_X_race 61 = .ok (.invokestatic 232, 3) := by decide +kernel
theorem d_X_race_64 : decode b_X_race 64 = .ok (.iadd, 1) := by decide +kernel
theorem d_X_race_65 : decode b_X_race 65 = .ok (.ireturn, 1) := by decide +kernel
abbrev b_X_wins : ByteArray := prog_1_method_19_code
def y_X_wins : MethodName := ⟨"RoundAndRound", "wins", "(IIII)I"⟩
theorem d_X_wins_0 : decode b_X_wins 0 = .ok (.iload_n 1, 1) := by decide +kernel
theorem d_X_wins_1 : decode b_X_wins 1 = .ok (.iload_n 2, 1) := by decide +kernel
theorem d_X_wins_2 : decode b_X_wins 2 = .ok (.iload_n 3, 1) := by decide +kernel
theorem d_X_wins_3 : decode b_X_wins 3 = .ok (.iload 4, 2) := by decide +kernel
theorem d_X_wins_5 : decode b_X_wins 5 = .ok (.invokestatic 224, 3) := by decide +kernel
theorem d_X_wins_8 : decode b_X_wins 8 = .ok (.ifCond .ne 6, 3) := by decide +kernel
theorem d_X_wins_11 : decode b_X_wins 11 = .ok (.ldc 149, 2) := by decide +kernel
theorem d_X_wins_13 : decode b_X_wins 13 = .ok (.ireturn, 1) := by decide +kernel
theorem d_X_wins_14 : decode b_X_wins 14 = .ok (.iconst (-1), 1) := by decide +kernel
theorem d_X_wins_15 : decode b_X_wins 15 = .ok (.istore 5, 2) := by decide +kernel
theorem d_X_wins_17 : decode b_X_wins 17 = .ok (.iconst (-1), 1) := by decide +kernel
theorem d_X_wins_18 : decode b_X_wins 18 = .ok (.istore 6, 2) := by decide +kernel
theorem d_X_wins_20 : decode b_X_wins 20 = .ok (.iconst 0, 1) := by decide +kernel
theorem d_X_wins_21 : decode b_X_wins 21 = .ok (.istore 7, 2) := by decide +kernel
theorem d_X_wins_23 : decode b_X_wins 23 = .ok (.iload 7, 2) := by decide +kernel
theorem d_X_wins_25 : decode b_X_wins 25 = .ok (.aload_n 0, 1) := by decide +kernel
theorem d_X_wins_26 : decode b_X_wins 26 = .ok (.getfield 59, 3) := by decide +kernel
theorem d_X_wins_29 : decode b_X_wins 29 = .ok (.if_icmp .ge 49, 3) := by decide +kernel
theorem d_X_wins_32 : decode b_X_wins 32 = .ok (.aload_n 0, 1) := by decide +kernel
theorem d_X_wins_33 : decode b_X_wins 33 = .ok (.aload_n 0, 1) := by decide +kernel
theorem d_X_wins_34 : decode b_X_wins 34 = .ok (.iload 7, 2) := by decide +kernel
theorem d_X_wins_36 : decode b_X_wins 36 = .ok (.invokevirtual 124, 3) := by decide +kernel
theorem d_X_wins_39 : decode b_X_wins 39 = .ok (.iload_n 1, 1) := by decide +kernel
theorem d_X_wins_40 : decode b_X_wins 40 = .ok (.iload_n 2, 1) := by decide +kernel
theorem d_X_wins_41 : decode b_X_wins 41 = .ok (.iload_n 3, 1) := by decide +kernel
theorem d_X_wins_42 : decode b_X_wins 42 = .ok (.invokevirtual 228, 3) := by decide +kernel
theorem d_X_wins_45 : decode b_X_wins 45 = .ok (.istore 8, 2) := by decide +kernel
theorem d_X_wins_47 : decode b_X_wins 47 = .ok (.iload 8, 2) := by decide +kernel
theorem d_X_wins_49 : decode b_X_wins 49 = .ok (.ifCond .lt 23, 3) := by decide +kernel
theorem d_X_wins_52 : decode b_X_wins 52 = .ok (.iload 5, 2) := by decide +kernel
theorem d_X_wins_54 : decode b_X_wins 54 = .ok (.ifCond .lt 10, 3) := by decide +kernel
theorem d_X_wins_57 : decode b_X_wins 57 = .ok (.iload 8, 2) := by decide +kernel
theorem d_X_wins_59 : decode b_X_wins 59 = .ok (.iload 6, 2) := by decide +kernel
theorem d_X_wins_61 : decode b_X_wins 61 = .ok (.if_icmp .ge 11, 3) := by decide +kernel
theorem d_X_wins_64 : decode b_X_wins 64 = .ok (.iload 7, 2) := by decide +kernel
theorem d_X_wins_66 : decode b_X_wins 66 = .ok (.istore 5, 2) := by decide +kernel
theorem d_X_wins_68 : decode b_X_wins 68 = .ok (.iload 8, 2) := by decide +kernel
theorem d_X_wins_70 : decode b_X_wins 70 = .ok (.istore 6, 2) := by decide +kernel
theorem d_X_wins_72 : decode b_X_wins 72 = .ok (.iinc 7 (1), 3) := by decide +kernel
theorem d_X_wins_75 : decode b_X_wins 75 = .ok (.goto (-52), 3) := by decide +kernel
theorem d_X_wins_78 : decode b_X_wins 78 = .ok (.iload 5, 2) := by decide +kernel
theorem d_X_wins_80 : decode b_X_wins 80 = .ok (.ifCond .lt 8, 3) := by decide +kernel
theorem d_X_wins_83 : decode b_X_wins 83 = .ok (.iload 4, 2) := by decide +kernel
theorem d_X_wins_85 : decode b_X_wins 85 = .ok (.ifCond .ne 8, 3) := by decide +kernel
theorem d_X_wins_88 : decode b_X_wins 88 = .ok (.iload 5, 2) := by decide +kernel
theorem d_X_wins_90 : decode b_X_wins 90 = .ok (.goto 11, 3) := by decide +kernel
theorem d_X_wins_93 : decode b_X_wins 93 = .ok (.iload 6, 2) := by decide +kernel
theorem d_X_wins_95 : decode b_X_wins 95 = .ok (.iload_n 2, 1) := by decide +kernel
theorem d_X_wins_96 : decode b_X_wins 96 = .ok (.iload_n 3, 1) := by decide +kernel
theorem d_X_wins_97 : decode b_X_wins 97 = .ok (.invokestatic 232, 3) := by decide +kernel
theorem d_X_wins_100 : decode b_X_wins 100 = .ok (.iadd, 1) := by decide +kernel
theorem d_X_wins_101 : decode b_X_wins 101 = .ok (.ireturn, 1) := by decide +kernel
abbrev b_X_pace : ByteArray := prog_1_method_20_code
def y_X_pace : MethodName := ⟨"RoundAndRound", "pace", "(IIIII)I"⟩
theorem d_X_pace_0 : decode b_X_pace 0 = .ok (.aload_n 0, 1) := by decide +kernel
theorem d_X_pace_1 : decode b_X_pace 1 = .ok (.iload_n 1, 1) := by decide +kernel
theorem d_X_pace_2 : decode b_X_pace 2 = .ok (.invokevirtual 113, 3) := by decide +kernel
theorem d_X_pace_5 : decode b_X_pace 5 = .ok (.ifCond .ne 6, 3) := by decide +kernel
theorem d_X_pace_8 : decode b_X_pace 8 = .ok (.ldc 139, 2) := by decide +kernel
theorem d_X_pace_10 : decode b_X_pace 10 = .ok (.ireturn, 1) := by decide +kernel
theorem d_X_pace_11 : decode b_X_pace 11 = .ok (.iload_n 2, 1) := by decide +kernel
theorem d_X_pace_12 : decode b_X_pace 12 = .ok (.invokestatic 169, 3) := by decide +kernel
theorem d_X_pace_15 : decode b_X_pace 15 = .ok (.ifCond .eq 31, 3) := by decide +kernel
theorem d_X_pace_18 : decode b_X_pace 18 = .ok (.iload_n 3, 1) := by decide +kernel
theorem d_X_pace_19 : decode b_X_pace 19 = .ok (.invokestatic 172, 3) := by decide +kernel
theorem d_X_pace_22 : decode b_X_pace 22 = .ok (.ifCond .eq 24, 3) := by decide +kernel
theorem d_X_pace_25 : decode b_X_pace 25 = .ok (.iload 4, 2) := by decide +kernel
theorem d_X_pace_27 : decode b_X_pace 27 = .ok (.iconst 1, 1) := by decide +kernel
theorem d_X_pace_28 : decode b_X_pace 28 = .ok (.bipush (60), 2) := by decide +kernel
theorem d_X_pace_30 : decode b_X_pace 30 = .ok (.invokestatic 105, 3) := by decide +kernel
theorem d_X_pace_33 : decode b_X_pace 33 = .ok (.ifCond .eq 13, 3) := by decide +kernel
theorem d_X_pace_36 : decode b_X_pace 36 = .ok (.iload 5, 2) := by decide +kernel
theorem d_X_pace_38 : decode b_X_pace 38 = .ok (.iconst 0, 1) := by decide +kernel
theorem d_X_pace_39 : decode b_X_pace 39 = .ok (.iconst 1, 1) := by decide +kernel
theorem d_X_pace_40 : decode b_X_pace 40 = .ok (.invokestatic 105, 3) := by decide +kernel
theorem d_X_pace_43 : decode b_X_pace 43 = .ok (.ifCond .ne 6, 3) := by decide +kernel
theorem d_X_pace_46 : decode b_X_pace 46 = .ok (.ldc 149, 2) := by decide +kernel
theorem d_X_pace_48 : decode b_X_pace 48 = .ok (.ireturn, 1) := by decide +kernel
theorem d_X_pace_49 : decode b_X_pace 49 = .ok (.aload_n 0, 1) := by decide +kernel
theorem d_X_pace_50 : decode b_X_pace 50 = .ok (.aload_n 0, 1) := by decide +kernel
theorem d_X_pace_51 : decode b_X_pace 51 = .ok (.iload_n 1, 1) := by decide +kernel
theorem d_X_pace_52 : decode b_X_pace 52 = .ok (.invokevirtual 124, 3) := by decide +kernel
theorem d_X_pace_55 : decode b_X_pace 55 = .ok (.aload_n 0, 1) := by decide +kernel
theorem d_X_pace_56 : decode b_X_pace 56 = .ok (.invokevirtual 120, 3) := by decide +kernel
theorem d_X_pace_59 : decode b_X_pace 59 = .ok (.iload_n 2, 1) := by decide +kernel
theorem d_X_pace_60 : decode b_X_pace 60 = .ok (.iload_n 3, 1) := by decide +kernel
theorem d_X_pace_61 : decode b_X_pace 61 = .ok (.invokevirtual 201, 3) := by decide +kernel
theorem d_X_pace_64 : decode b_X_pace 64 = .ok (.aload_n 0, 1) := by decide +kernel
theorem d_X_pace_65 : decode b_X_pace 65 = .ok (.getfield 23, 3) := by decide +kernel
theorem d_X_pace_68 : decode b_X_pace 68 = .ok (.aload_n 0, 1) := by decide +kernel
theorem d_X_pace_69 : decode b_X_pace 69 = .ok (.getfield 19, 3) := by decide +kernel
theorem d_X_pace_72 : decode b_X_pace 72 = .ok (.invokevirtual 235, 3) := by decide +kernel
theorem d_X_pace_75 : decode b_X_pace 75 = .ok (.iconst (-1), 1) := by decide +kernel
theorem d_X_pace_76 : decode b_X_pace 76 = .ok (.istore 6, 2) := by decide +kernel
theorem d_X_pace_78 : decode b_X_pace 78 = .ok (.iconst (-1), 1) := by decide +kernel
theorem d_X_pace_79 : decode b_X_pace 79 = .ok (.istore 7, 2) := by decide +kernel
theorem d_X_pace_81 : decode b_X_pace 81 = .ok (.bipush (9), 2) := by decide +kernel
theorem d_X_pace_83 : decode b_X_pace 83 = .ok (.istore 8, 2) := by decide +kernel
theorem d_X_pace_85 : decode b_X_pace 85 = .ok (.iload 8, 2) := by decide +kernel
theorem d_X_pace_87 : decode b_X_pace 87 = .ok (.iconst 1, 1) := by decide +kernel
theorem d_X_pace_88 : decode b_X_pace 88 = .ok (.if_icmp .lt 84, 3) := by decide +kernel
theorem d_X_pace_91 : decode b_X_pace 91 = .ok (.aload_n 0, 1) := by decide +kernel
theorem d_X_pace_92 : decode b_X_pace 92 = .ok (.getfield 19, 3) := by decide +kernel
theorem d_X_pace_95 : decode b_X_pace 95 = .ok (.aload_n 0, 1) := by decide +kernel
theorem d_X_pace_96 : decode b_X_pace 96 = .ok (.getfield 23, 3) := by decide +kernel
theorem d_X_pace_99 : decode b_X_pace 99 = .ok (.invokevirtual 235, 3) := by decide +kernel
theorem d_X_pace_102 : decode b_X_pace 102 = .ok (.aload_n 0, 1) := by decide +kernel
theorem d_X_pace_103 : decode b_X_pace 103 = .ok (.getfield 19, 3) := by decide +kernel
theorem d_X_pace_106 : decode b_X_pace 106 = .ok (.aload_n 0, 1) := by decide +kernel
theorem d_X_pace_107 : decode b_X_pace 107 = .ok (.invokevirtual 120, 3) := by decide +kernel
theorem d_X_pace_110 : decode b_X_pace 110 = .ok (.iload 4, 2) := by decide +kernel
theorem d_X_pace_112 : decode b_X_pace 112 = .ok (.iload 8, 2) := by decide +kernel
theorem d_X_pace_114 : decode b_X_pace 114 = .ok (.invokestatic 238, 3) := by decide +kernel
theorem d_X_pace_117 : decode b_X_pace 117 = .ok (.iload 8, 2) := by decide +kernel
theorem d_X_pace_119 : decode b_X_pace 119 = .ok (.iconst 1, 1) := by decide +kernel
theorem d_X_pace_120 : decode b_X_pace 120 = .ok (.invokevirtual 191, 3) := by decide +kernel
theorem d_X_pace_123 : decode b_X_pace 123 = .ok (.pop, 1) := by decide +kernel
theorem d_X_pace_124 : decode b_X_pace 124 = .ok (.aload_n 0, 1) := by decide +kernel
theorem d_X_pace_125 : decode b_X_pace 125 = .ok (.getfield 19, 3) := by decide +kernel
theorem d_X_pace_128 : decode b_X_pace 128 = .ok (.getfield 159, 3) := by decide +kernel
theorem d_X_pace_131 : decode b_X_pace 131 = .ok (.invokestatic 216, 3) := by decide +kernel
theorem d_X_pace_134 : decode b_X_pace 134 = .ok (.istore 9, 2) := by decide +kernel
theorem d_X_pace_136 : decode b_X_pace 136 = .ok (.aload_n 0, 1) := by decide +kernel
theorem d_X_pace_137 : decode b_X_pace 137 = .ok (.getfield 19, 3) := by decide +kernel
theorem d_X_pace_140 : decode b_X_pace 140 = .ok (.getfield 162, 3) := by decide +kernel
theorem d_X_pace_143 : decode b_X_pace 143 = .ok (.ifCond .ne 23, 3) := by decide +kernel
theorem d_X_pace_146 : decode b_X_pace 146 = .ok (.iload 6, 2) := by decide +kernel
theorem d_X_pace_148 : decode b_X_pace 148 = .ok (.ifCond .lt 10, 3) := by decide +kernel
theorem d_X_pace_151 : decode b_X_pace 151 = .ok (.iload 9, 2) := by decide +kernel
theorem d_X_pace_153 : decode b_X_pace 153 = .ok (.iload 7, 2) := by decide +kernel
theorem d_X_pace_155 : decode b_X_pace 155 = .ok (.if_icmp .ge 11, 3) := by decide +kernel
theorem d_X_pace_158 : decode b_X_pace 158 = .ok (.iload 8, 2) := by decide +kernel
theorem d_X_pace_160 : decode b_X_pace 160 = .ok (.istore 6, 2) := by decide +kernel
theorem d_X_pace_162 : decode b_X_pace 162 = .ok (.iload 9, 2) := by decide +kernel
theorem d_X_pace_164 : decode b_X_pace 164 = .ok (.istore 7, 2) := by decide +kernel
theorem d_X_pace_166 : decode b_X_pace 166 = .ok (.iinc 8 (-1), 3) := by decide +kernel
theorem d_X_pace_169 : decode b_X_pace 169 = .ok (.goto (-84), 3) := by decide +kernel
theorem d_X_pace_172 : decode b_X_pace 172 = .ok (.iload 5, 2) := by decide +kernel
theorem d_X_pace_174 : decode b_X_pace 174 = .ok (.ifCond .ne 8, 3) := by decide +kernel
theorem d_X_pace_177 : decode b_X_pace 177 = .ok (.iload 6, 2) := by decide +kernel
theorem d_X_pace_179 : decode b_X_pace 179 = .ok (.goto 5, 3) := by decide +kernel
theorem d_X_pace_182 : decode b_X_pace 182 = .ok (.iload 7, 2) := by decide +kernel
theorem d_X_pace_184 : decode b_X_pace 184 = .ok (.ireturn, 1) := by decide +kernel
abbrev b_X_roses : ByteArray := prog_1_method_21_code
def y_X_roses : MethodName := ⟨"RoundAndRound", "roses", "(IIIII)I"⟩
theorem d_X_roses_0 : decode b_X_roses 0 = .ok (.aload_n 0, 1) := by decide +kernel
theorem d_X_roses_1 : decode b_X_roses 1 = .ok (.iload_n 1, 1) := by decide +kernel
theorem d_X_roses_2 : decode b_X_roses 2 = .ok (.invokevirtual 113, 3) := by decide +kernel
theorem d_X_roses_5 : decode b_X_roses 5 = .ok (.ifCond .ne 6, 3) := by decide +kernel
theorem d_X_roses_8 : decode b_X_roses 8 = .ok (.ldc 139, 2) := by decide +kernel
theorem d_X_roses_10 : decode b_X_roses 10 = .ok (.ireturn, 1) := by decide +kernel
theorem d_X_roses_11 : decode b_X_roses 11 = .ok (.iload_n 2, 1) := by decide +kernel
theorem d_X_roses_12 : decode b_X_roses 12 = .ok (.invokestatic 241, 3) := by decide +kernel
theorem d_X_roses_15 : decode b_X_roses 15 = .ok (.ifCond .eq 32, 3) := by decide +kernel
theorem d_X_roses_18 : decode b_X_roses 18 = .ok (.iload_n 3, 1) := by decide +kernel
theorem d_X_roses_19 : decode b_X_roses 19 = .ok (.invokestatic 185, 3) := by decide +kernel
theorem d_X_roses_22 : decode b_X_roses 22 = .ok (.ifCond .eq 25, 3) := by decide +kernel
theorem d_X_roses_25 : decode b_X_roses 25 = .ok (.iload 4, 2) := by decide +kernel
theorem d_X_roses_27 : decode b_X_roses 27 = .ok (.ldc 244, 2) := by decide +kernel
theorem d_X_roses_29 : decode b_X_roses 29 = .ok (.ldc 245, 2) := by decide +kernel
theorem d_X_roses_31 : decode b_X_roses 31 = .ok (.invokestatic 105, 3) := by decide +kernel
theorem d_X_roses_34 : decode b_X_roses 34 = .ok (.ifCond .eq 13, 3) := by decide +kernel
theorem d_X_roses_37 : decode b_X_roses 37 = .ok (.iload 5, 2) := by decide +kernel
theorem d_X_roses_39 : decode b_X_roses 39 = .ok (.iconst 0, 1) := by decide +kernel
theorem d_X_roses_40 : decode b_X_roses 40 = .ok (.iconst 1, 1) := by decide +kernel
theorem d_X_roses_41 : decode b_X_roses 41 = .ok (.invokestatic 105, 3) := by decide +kernel
theorem d_X_roses_44 : decode b_X_roses 44 = .ok (.ifCond .ne 6, 3) := by decide +kernel
theorem d_X_roses_47 : decode b_X_roses 47 = .ok (.ldc 149, 2) := by decide +kernel
theorem d_X_roses_49 : decode b_X_roses 49 = .ok (.ireturn, 1) := by decide +kernel
theorem d_X_roses_50 : decode b_X_roses 50 = .ok (.aload_n 0, 1) := by decide +kernel
theorem d_X_roses_51 : decode b_X_roses 51 = .ok (.iload_n 1, 1) := by decide +kernel
theorem d_X_roses_52 : decode b_X_roses 52 = .ok (.invokevirtual 124, 3) := by decide +kernel
theorem d_X_roses_55 : decode b_X_roses 55 = .ok (.astore 6, 2) := by decide +kernel
theorem d_X_roses_57 : decode b_X_roses 57 = .ok (.aload_n 0, 1) := by decide +kernel
theorem d_X_roses_58 : decode b_X_roses 58 = .ok (.aload 6, 2) := by decide +kernel
theorem d_X_roses_60 : decode b_X_roses 60 = .ok (.iload_n 2, 1) := by decide +kernel
theorem d_X_roses_61 : decode b_X_roses 61 = .ok (.bipush (10), 2) := by decide +kernel
theorem d_X_roses_63 : decode b_X_roses 63 = .ok (.idiv, 1) := by decide +kernel
theorem d_X_roses_64 : decode b_X_roses 64 = .ok (.invokevirtual 246, 3) := by decide +kernel
theorem d_X_roses_67 : decode b_X_roses 67 = .ok (.iconst 0, 1) := by decide +kernel
theorem d_X_roses_68 : decode b_X_roses 68 = .ok (.istore 7, 2) := by decide +kernel
theorem d_X_roses_70 : decode b_X_roses 70 = .ok (.iconst 0, 1) := by decide +kernel
theorem d_X_roses_71 : decode b_X_roses 71 = .ok (.istore 8, 2) := by decide +kernel
theorem d_X_roses_73 : decode b_X_roses 73 = .ok (.iconst 0, 1) := by decide +kernel
theorem d_X_roses_74 : decode b_X_roses 74 = .ok (.istore 9, 2) := by decide +kernel
theorem d_X_roses_76 : decode b_X_roses 76 = .ok (.iload 9, 2) := by decide +kernel
theorem d_X_roses_78 : decode b_X_roses 78 = .ok (.aload_n 0, 1) := by decide +kernel
theorem d_X_roses_79 : decode b_X_roses 79 = .ok (.getfield 26, 3) := by decide +kernel
theorem d_X_roses_82 : decode b_X_roses 82 = .ok (.arraylength, 1) := by decide +kernel
theorem d_X_roses_83 : decode b_X_roses 83 = .ok (.if_icmp .ge 85, 3) := by decide +kernel
theorem d_X_roses_86 : decode b_X_roses 86 = .ok (.aload_n 0, 1) := by decide +kernel
theorem d_X_roses_87 : decode b_X_roses 87 = .ok (.aload 6, 2) := by decide +kernel
theorem d_X_roses_89 : decode b_X_roses 89 = .ok (.invokevirtual 205, 3) := by decide +kernel
theorem d_X_roses_92 : decode b_X_roses 92 = .ok (.aload_n 0, 1) := by decide +kernel
theorem d_X_roses_93 : decode b_X_roses 93 = .ok (.getfield 19, 3) := by decide +kernel
theorem d_X_roses_96 : decode b_X_roses 96 = .ok (.aload_n 0, 1) := by decide +kernel
theorem d_X_roses_97 : decode b_X_roses 97 = .ok (.getfield 26, 3) := by decide +kernel
theorem d_X_roses_100 : decode b_X_roses 100 = .ok (.iload 9, 2) := by decide +kernel
theorem d_X_roses_102 : decode b_X_roses 102 = .ok (.iaload, 1) := by decide +kernel
theorem d_X_roses_103 : decode b_X_roses 103 = .ok (.putfield 140, 3) := by decide +kernel
theorem d_X_roses_106 : decode b_X_roses 106 = .ok (.aload_n 0, 1) := by decide +kernel
theorem d_X_roses_107 : decode b_X_roses 107 = .ok (.getfield 19, 3) := by decide +kernel
theorem d_X_roses_110 : decode b_X_roses 110 = .ok (.aload_n 0, 1) := by decide +kernel
theorem d_X_roses_111 : decode b_X_roses 111 = .ok (.invokevirtual 120, 3) := by decide +kernel
theorem d_X_roses_114 : decode b_X_roses 114 = .ok (.iload_n 3, 1) := by decide +kernel
theorem d_X_roses_115 : decode b_X_roses 115 = .ok (.iload_n 2, 1) := by decide +kernel
theorem d_X_roses_116 : decode b_X_roses 116 = .ok (.bipush (10), 2) := by decide +kernel
theorem d_X_roses_118 : decode b_X_roses 118 = .ok (.irem, 1) := by decide +kernel
theorem d_X_roses_119 : decode b_X_roses 119 = .ok (.iconst 1, 1) := by decide +kernel
theorem d_X_roses_120 : decode b_X_roses 120 = .ok (.invokevirtual 191, 3) := by decide +kernel
theorem d_X_roses_123 : decode b_X_roses 123 = .ok (.pop, 1) := by decide +kernel
theorem d_X_roses_124 : decode b_X_roses 124 = .ok (.aload_n 0, 1) := by decide +kernel
theorem d_X_roses_125 : decode b_X_roses 125 = .ok (.getfield 19, 3) := by decide +kernel
theorem d_X_roses_128 : decode b_X_roses 128 = .ok (.getfield 159, 3) := by decide +kernel
theorem d_X_roses_131 : decode b_X_roses 131 = .ok (.iload 4, 2) := by decide +kernel
theorem d_X_roses_133 : decode b_X_roses 133 = .ok (.isub, 1) := by decide +kernel
theorem d_X_roses_134 : decode b_X_roses 134 = .ok (.invokestatic 216, 3) := by decide +kernel
theorem d_X_roses_137 : decode b_X_roses 137 = .ok (.istore 10, 2) := by decide +kernel
theorem d_X_roses_139 : decode b_X_roses 139 = .ok (.iload 9, 2) := by decide +kernel
theorem d_X_roses_141 : decode b_X_roses 141 = .ok (.ifCond .eq 10, 3) := by decide +kernel
theorem d_X_roses_144 : decode b_X_roses 144 = .ok (.iload 10, 2) := by decide +kernel
theorem d_X_roses_146 : decode b_X_roses 146 = .ok (.iload 8, 2) := by decide +kernel
theorem d_X_roses_148 : decode b_X_roses 148 = .ok (.if_icmp .ge 14, 3) := by decide +kernel
theorem d_X_roses_151 : decode b_X_roses 151 = .ok (.iload 9, 2) := by decide +kernel
theorem d_X_roses_153 : decode b_X_roses 153 = .ok (.invokestatic 250, 3) := by decide +kernel
theorem d_X_roses_156 : decode b_X_roses 156 = .ok (.istore 7, 2) := by decide +kernel
theorem d_X_roses_158 : decode b_X_roses 158 = .ok (.iload 10, 2) := by decide +kernel
theorem d_X_roses_160 : decode b_X_roses 160 = .ok (.istore 8, 2) := by decide +kernel
theorem d_X_roses_162 : decode b_X_roses 162 = .ok (.iinc 9 (1), 3) := by decide +kernel
theorem d_X_roses_165 : decode b_X_roses 165 = .ok (.goto (-89), 3) := by decide +kernel
theorem d_X_roses_168 : decode b_X_roses 168 = .ok (.iload 5, 2) := by decide +kernel
theorem d_X_roses_170 : decode b_X_roses 170 = .ok (.ifCond .ne 8, 3) := by decide +kernel
theorem d_X_roses_173 : decode b_X_roses 173 = .ok (.iload 7, 2) := by decide +kernel
theorem d_X_roses_175 : decode b_X_roses 175 = .ok (.goto 5, 3) := by decide +kernel
theorem d_X_roses_178 : decode b_X_roses 178 = .ok (.iload 8, 2) := by decide +kernel
theorem d_X_roses_180 : decode b_X_roses 180 = .ok (.ireturn, 1) := by decide +kernel
abbrev b_X_judge : ByteArray := prog_1_method_22_code
def y_X_judge : MethodName := ⟨"RoundAndRound", "judge", "(IIII)I"⟩
theorem d_X_judge_0 : decode b_X_judge 0 = .ok (.aload_n 0, 1) := by decide +kernel
theorem d_X_judge_1 : decode b_X_judge 1 = .ok (.iload_n 1, 1) := by decide +kernel
theorem d_X_judge_2 : decode b_X_judge 2 = .ok (.iload_n 2, 1) := by decide +kernel
theorem d_X_judge_3 : decode b_X_judge 3 = .ok (.invokevirtual 253, 3) := by decide +kernel
theorem d_X_judge_6 : decode b_X_judge 6 = .ok (.istore 5, 2) := by decide +kernel
theorem d_X_judge_8 : decode b_X_judge 8 = .ok (.iload 5, 2) := by decide +kernel
theorem d_X_judge_10 : decode b_X_judge 10 = .ok (.ifCond .eq 6, 3) := by decide +kernel
theorem d_X_judge_13 : decode b_X_judge 13 = .ok (.iload 5, 2) := by decide +kernel
theorem d_X_judge_15 : decode b_X_judge 15 = .ok (.ireturn, 1) := by decide +kernel
theorem d_X_judge_16 : decode b_X_judge 16 = .ok (.iload_n 3, 1) := by decide +kernel
theorem d_X_judge_17 : decode b_X_judge 17 = .ok (.invokestatic 169, 3) := by decide +kernel
theorem d_X_judge_20 : decode b_X_judge 20 = .ok (.ifCond .eq 11, 3) := by decide +kernel
theorem d_X_judge_23 : decode b_X_judge 23 = .ok (.iload 4, 2) := by decide +kernel
theorem d_X_judge_25 : decode b_X_judge 25 = .ok (.invokestatic 241, 3) := by decide +kernel
theorem d_X_judge_28 : decode b_X_judge 28 = .ok (.ifCond .ne 6, 3) := by decide +kernel
theorem d_X_judge_31 : decode b_X_judge 31 = .ok (.bipush (-7), 2) := by decide +kernel
theorem d_X_judge_33 : decode b_X_judge 33 = .ok (.ireturn, 1) := by decide +kernel
theorem d_X_judge_34 : decode b_X_judge 34 = .ok (.aload_n 0, 1) := by decide +kernel
theorem d_X_judge_35 : decode b_X_judge 35 = .ok (.aload_n 0, 1) := by decide +kernel
theorem d_X_judge_36 : decode b_X_judge 36 = .ok (.iload_n 2, 1) := by decide +kernel
theorem d_X_judge_37 : decode b_X_judge 37 = .ok (.invokevirtual 124, 3) := by decide +kernel
theorem d_X_judge_40 : decode b_X_judge 40 = .ok (.aload_n 0, 1) := by decide +kernel
theorem d_X_judge_41 : decode b_X_judge 41 = .ok (.invokevirtual 120, 3) := by decide +kernel
theorem d_X_judge_44 : decode b_X_judge 44 = .ok (.iload_n 3, 1) := by decide +kernel
theorem d_X_judge_45 : decode b_X_judge 45 = .ok (.iload 4, 2) := by decide +kernel
theorem d_X_judge_47 : decode b_X_judge 47 = .ok (.bipush (10), 2) := by decide +kernel
theorem d_X_judge_49 : decode b_X_judge 49 = .ok (.idiv, 1) := by decide +kernel
theorem d_X_judge_50 : decode b_X_judge 50 = .ok (.invokevirtual 201, 3) := by decide +kernel
theorem d_X_judge_53 : decode b_X_judge 53 = .ok (.aload_n 0, 1) := by decide +kernel
theorem d_X_judge_54 : decode b_X_judge 54 = .ok (.aload_n 0, 1) := by decide +kernel
theorem d_X_judge_55 : decode b_X_judge 55 = .ok (.iload_n 1, 1) := by decide +kernel
theorem d_X_judge_56 : decode b_X_judge 56 = .ok (.invokevirtual 256, 3) := by decide +kernel
theorem d_X_judge_59 : decode b_X_judge 59 = .ok (.aload_n 0, 1) := by decide +kernel
theorem d_X_judge_60 : decode b_X_judge 60 = .ok (.invokevirtual 120, 3) := by decide +kernel
theorem d_X_judge_63 : decode b_X_judge 63 = .ok (.iload 4, 2) := by decide +kernel
theorem d_X_judge_65 : decode b_X_judge 65 = .ok (.bipush (10), 2) := by decide +kernel
theorem d_X_judge_67 : decode b_X_judge 67 = .ok (.irem, 1) := by decide +kernel
theorem d_X_judge_68 : decode b_X_judge 68 = .ok (.invokevirtual 260, 3) := by decide +kernel
theorem d_X_judge_71 : decode b_X_judge 71 = .ok (.ireturn, 1) := by decide +kernel
abbrev b_X_turned : ByteArray := prog_1_method_23_code
def y_X_turned : MethodName := ⟨"RoundAndRound", "turned", "(IIII)I"⟩
theorem d_X_turned_0 : decode b_X_turned 0 = .ok (.aload_n 0, 1) := by decide +kernel
theorem d_X_turned_1 : decode b_X_turned 1 = .ok (.iload_n 1, 1) := by decide +kernel
theorem d_X_turned_2 : decode b_X_turned 2 = .ok (.iload_n 2, 1) := by decide +kernel
theorem d_X_turned_3 : decode b_X_turned 3 = .ok (.invokevirtual 253, 3) := by decide +kernel
theorem d_X_turned_6 : decode b_X_turned 6 = .ok (.istore 5, 2) := by decide +kernel
theorem d_X_turned_8 : decode b_X_turned 8 = .ok (.iload 5, 2) := by decide +kernel
theorem d_X_turned_10 : decode b_X_turned 10 = .ok (.ifCond .eq 6, 3) := by decide +kernel
theorem d_X_turned_13 : decode b_X_turned 13 = .ok (.iload 5, 2) := by decide +kernel
theorem d_X_turned_15 : decode b_X_turned 15 = .ok (.ireturn, 1) := by decide +kernel
theorem d_X_turned_16 : decode b_X_turned 16 = .ok (.iload_n 3, 1) := by decide +kernel
theorem d_X_turned_17 : decode b_X_turned 17 = .ok (.invokestatic 241, 3) := by decide +kernel
theorem d_X_turned_20 : decode b_X_turned 20 = .ok (.ifCond .eq 13, 3) := by decide +kernel
theorem d_X_turned_23 : decode b_X_turned 23 = .ok (.iload 4, 2) := by decide +kernel
theorem d_X_turned_25 : decode b_X_turned 25 = .ok (.iconst 0, 1) := by decide +kernel
theorem d_X_turned_26 : decode b_X_turned 26 = .ok (.iconst 1, 1) := by decide +kernel
theorem d_X_turned_27 : decode b_X_turned 27 = .ok (.invokestatic 105, 3) := by decide +kernel
theorem d_X_turned_30 : decode b_X_turned 30 = .ok (.ifCond .ne 6, 3) := by decide +kernel
theorem d_X_turned_33 : decode b_X_turned 33 = .ok (.bipush (-7), 2) := by decide +kernel
theorem d_X_turned_35 : decode b_X_turned 35 = .ok (.ireturn, 1) := by decide +kernel
theorem d_X_turned_36 : decode b_X_turned 36 = .ok (.aload_n 0, 1) := by decide +kernel
theorem d_X_turned_37 : decode b_X_turned 37 = .ok (.iload_n 2, 1) := by decide +kernel
theorem d_X_turned_38 : decode b_X_turned 38 = .ok (.invokevirtual 124, 3) := by decide +kernel
theorem d_X_turned_41 : decode b_X_turned 41 = .ok (.astore 6, 2) := by decide +kernel
theorem d_X_turned_43 : decode b_X_turned 43 = .ok (.aload_n 0, 1) := by decide +kernel
theorem d_X_turned_44 : decode b_X_turned 44 = .ok (.aload 6, 2) := by decide +kernel
theorem d_X_turned_46 : decode b_X_turned 46 = .ok (.iload_n 3, 1) := by decide +kernel
theorem d_X_turned_47 : decode b_X_turned 47 = .ok (.bipush (10), 2) := by decide +kernel
theorem d_X_turned_49 : decode b_X_turned 49 = .ok (.idiv, 1) := by decide +kernel
theorem d_X_turned_50 : decode b_X_turned 50 = .ok (.invokevirtual 246, 3) := by decide +kernel
theorem d_X_turned_53 : decode b_X_turned 53 = .ok (.iconst 0, 1) := by decide +kernel
theorem d_X_turned_54 : decode b_X_turned 54 = .ok (.istore 7, 2) := by decide +kernel
theorem d_X_turned_56 : decode b_X_turned 56 = .ok (.bipush (-100), 2) := by decide +kernel
theorem d_X_turned_58 : decode b_X_turned 58 = .ok (.istore 8, 2) := by decide +kernel
theorem d_X_turned_60 : decode b_X_turned 60 = .ok (.iconst 0, 1) := by decide +kernel
theorem d_X_turned_61 : decode b_X_turned 61 = .ok (.istore 9, 2) := by decide +kernel
theorem d_X_turned_63 : decode b_X_turned 63 = .ok (.iload 9, 2) := by decide +kernel
theorem d_X_turned_65 : decode b_X_turned 65 = .ok (.aload_n 0, 1) := by decide +kernel
theorem d_X_turned_66 : decode b_X_turned 66 = .ok (.getfield 26, 3) := by decide +kernel
theorem d_X_turned_69 : decode b_X_turned 69 = .ok (.arraylength, 1) := by decide +kernel
theorem d_X_turned_70 : decode b_X_turned 70 = .ok (.if_icmp .ge 69, 3) := by decide +kernel
theorem d_X_turned_73 : decode b_X_turned 73 = .ok (.aload_n 0, 1) := by decide +kernel
theorem d_X_turned_74 : decode b_X_turned 74 = .ok (.aload 6, 2) := by decide +kernel
theorem d_X_turned_76 : decode b_X_turned 76 = .ok (.invokevirtual 205, 3) := by decide +kernel
theorem d_X_turned_79 : decode b_X_turned 79 = .ok (.aload_n 0, 1) := by decide +kernel
theorem d_X_turned_80 : decode b_X_turned 80 = .ok (.getfield 19, 3) := by decide +kernel
theorem d_X_turned_83 : decode b_X_turned 83 = .ok (.aload_n 0, 1) := by decide +kernel
theorem d_X_turned_84 : decode b_X_turned 84 = .ok (.getfield 26, 3) := by decide +kernel
theorem d_X_turned_87 : decode b_X_turned 87 = .ok (.iload 9, 2) := by decide +kernel
theorem d_X_turned_89 : decode b_X_turned 89 = .ok (.iaload, 1) := by decide +kernel
theorem d_X_turned_90 : decode b_X_turned 90 = .ok (.putfield 140, 3) := by decide +kernel
theorem d_X_turned_93 : decode b_X_turned 93 = .ok (.aload_n 0, 1) := by decide +kernel
theorem d_X_turned_94 : decode b_X_turned 94 = .ok (.aload_n 0, 1) := by decide +kernel
theorem d_X_turned_95 : decode b_X_turned 95 = .ok (.iload_n 1, 1) := by decide +kernel
theorem d_X_turned_96 : decode b_X_turned 96 = .ok (.invokevirtual 256, 3) := by decide +kernel
theorem d_X_turned_99 : decode b_X_turned 99 = .ok (.aload_n 0, 1) := by decide +kernel
theorem d_X_turned_100 : decode b_X_turned 100 = .ok (.invokevirtual 120, 3) := by decide +kernel
theorem d_X_turned_103 : decode b_X_turned 103 = .ok (.iload_n 3, 1) := by decide +kernel
theorem d_X_turned_104 : decode b_X_turned 104 = .ok (.bipush (10), 2) := by decide +kernel
theorem d_X_turned_106 : decode b_X_turned 106 = .ok (.irem, 1) := by decide +kernel
theorem d_X_turned_107 : decode b_X_turned 107 = .ok (.invokevirtual 260, 3) := by decide +kernel
theorem d_X_turned_110 : decode b_X_turned 110 = .ok (.ifCond .ge 23, 3) := by decide +kernel
theorem d_X_turned_113 : decode b_X_turned 113 = .ok (.iload 7, 2) := by decide +kernel
theorem d_X_turned_115 : decode b_X_turned 115 = .ok (.ifCond .ne 11, 3) := by decide +kernel
theorem d_X_turned_118 : decode b_X_turned 118 = .ok (.iload 9, 2) := by decide +kernel
theorem d_X_turned_120 : decode b_X_turned 120 = .ok (.invokestatic 250, 3) := by decide +kernel
theorem d_X_turned_123 : decode b_X_turned 123 = .ok (.goto 5, 3) := by decide +kernel
theorem d_X_turned_126 : decode b_X_turned 126 = .ok (.iload 8, 2) := by decide +kernel
theorem d_X_turned_128 : decode b_X_turned 128 = .ok (.istore 8, 2) := by decide +kernel
theorem d_X_turned_130 : decode b_X_turned 130 = .ok (.iinc 7 (1), 3) := by decide +kernel
theorem d_X_turned_133 : decode b_X_turned 133 = .ok (.iinc 9 (1), 3) := by decide +kernel
theorem d_X_turned_136 : decode b_X_turned 136 = .ok (.goto (-73), 3) := by decide +kernel
theorem d_X_turned_139 : decode b_X_turned 139 = .ok (.iload 4, 2) := by decide +kernel
theorem d_X_turned_141 : decode b_X_turned 141 = .ok (.ifCond .ne 8, 3) := by decide +kernel
theorem d_X_turned_144 : decode b_X_turned 144 = .ok (.iload 7, 2) := by decide +kernel
theorem d_X_turned_146 : decode b_X_turned 146 = .ok (.goto 5, 3) := by decide +kernel
theorem d_X_turned_149 : decode b_X_turned 149 = .ok (.iload 8, 2) := by decide +kernel
theorem d_X_turned_151 : decode b_X_turned 151 = .ok (.ireturn, 1) := by decide +kernel
abbrev b_X_kinds : ByteArray := prog_1_method_24_code
def y_X_kinds : MethodName := ⟨"RoundAndRound", "kinds", "(IIIII)I"⟩
theorem d_X_kinds_0 : decode b_X_kinds 0 = .ok (.aload_n 0, 1) := by decide +kernel
theorem d_X_kinds_1 : decode b_X_kinds 1 = .ok (.iload_n 1, 1) := by decide +kernel
theorem d_X_kinds_2 : decode b_X_kinds 2 = .ok (.iload_n 2, 1) := by decide +kernel
theorem d_X_kinds_3 : decode b_X_kinds 3 = .ok (.invokevirtual 253, 3) := by decide +kernel
theorem d_X_kinds_6 : decode b_X_kinds 6 = .ok (.istore 6, 2) := by decide +kernel
theorem d_X_kinds_8 : decode b_X_kinds 8 = .ok (.iload 6, 2) := by decide +kernel
theorem d_X_kinds_10 : decode b_X_kinds 10 = .ok (.ifCond .eq 6, 3) := by decide +kernel
theorem d_X_kinds_13 : decode b_X_kinds 13 = .ok (.iload 6, 2) := by decide +kernel
theorem d_X_kinds_15 : decode b_X_kinds 15 = .ok (.ireturn, 1) := by decide +kernel
theorem d_X_kinds_16 : decode b_X_kinds 16 = .ok (.iload_n 3, 1) := by decide +kernel
theorem d_X_kinds_17 : decode b_X_kinds 17 = .ok (.invokestatic 169, 3) := by decide +kernel
theorem d_X_kinds_20 : decode b_X_kinds 20 = .ok (.ifCond .eq 21, 3) := by decide +kernel
theorem d_X_kinds_23 : decode b_X_kinds 23 = .ok (.iload 4, 2) := by decide +kernel
theorem d_X_kinds_25 : decode b_X_kinds 25 = .ok (.invokestatic 241, 3) := by decide +kernel
theorem d_X_kinds_28 : decode b_X_kinds 28 = .ok (.ifCond .eq 13, 3) := by decide +kernel
theorem d_X_kinds_31 : decode b_X_kinds 31 = .ok (.iload 5, 2) := by decide +kernel
theorem d_X_kinds_33 : decode b_X_kinds 33 = .ok (.iconst 0, 1) := by decide +kernel
theorem d_X_kinds_34 : decode b_X_kinds 34 = .ok (.iconst 2, 1) := by decide +kernel
theorem d_X_kinds_35 : decode b_X_kinds 35 = .ok (.invokestatic 105, 3) := by decide +kernel
theorem d_X_kinds_38 : decode b_X_kinds 38 = .ok (.ifCond .ne 6, 3) := by decide +kernel
theorem d_X_kinds_41 : decode b_X_kinds 41 = .ok (.bipush (-7), 2) := by decide +kernel
theorem d_X_kinds_43 : decode b_X_kinds 43 = .ok (.ireturn, 1) := by decide +kernel
theorem d_X_kinds_44 : decode b_X_kinds 44 = .ok (.iload 5, 2) := by decide +kernel
theorem d_X_kinds_46 : decode b_X_kinds 46 = .ok (.ifCond .ne 8, 3) := by decide +kernel
theorem d_X_kinds_49 : decode b_X_kinds 49 = .ok (.bipush (6), 2) := by decide +kernel
theorem d_X_kinds_51 : decode b_X_kinds 51 = .ok (.goto 16, 3) := by decide +kernel
theorem d_X_kinds_54 : decode b_X_kinds 54 = .ok (.iload 5, 2) := by decide +kernel
theorem d_X_kinds_56 : decode b_X_kinds 56 = .ok (.iconst 1, 1) := by decide +kernel
theorem d_X_kinds_57 : decode b_X_kinds 57 = .ok (.if_icmp .ne 8, 3) := by decide +kernel
theorem d_X_kinds_60 : decode b_X_kinds 60 = .ok (.bipush (10), 2) := by decide +kernel
theorem d_X_kinds_62 : decode b_X_kinds 62 = .ok (.goto 5, 3) := by decide +kernel
theorem d_X_kinds_65 : decode b_X_kinds 65 = .ok (.bipush (10), 2) := by decide +kernel
theorem d_X_kinds_67 : decode b_X_kinds 67 = .ok (.istore 7, 2) := by decide +kernel
theorem d_X_kinds_69 : decode b_X_kinds 69 = .ok (.iconst 0, 1) := by decide +kernel
theorem d_X_kinds_70 : decode b_X_kinds 70 = .ok (.istore 8, 2) := by decide +kernel
theorem d_X_kinds_72 : decode b_X_kinds 72 = .ok (.iconst 0, 1) := by decide +kernel
theorem d_X_kinds_73 : decode b_X_kinds 73 = .ok (.istore 9, 2) := by decide +kernel
theorem d_X_kinds_75 : decode b_X_kinds 75 = .ok (.iload 9, 2) := by decide +kernel
theorem d_X_kinds_77 : decode b_X_kinds 77 = .ok (.iload 7, 2) := by decide +kernel
theorem d_X_kinds_79 : decode b_X_kinds 79 = .ok (.if_icmp .ge 139, 3) := by decide +kernel
theorem d_X_kinds_82 : decode b_X_kinds 82 = .ok (.aload_n 0, 1) := by decide +kernel
theorem d_X_kinds_83 : decode b_X_kinds 83 = .ok (.aload_n 0, 1) := by decide +kernel
theorem d_X_kinds_84 : decode b_X_kinds 84 = .ok (.iload_n 2, 1) := by decide +kernel
theorem d_X_kinds_85 : decode b_X_kinds 85 = .ok (.invokevirtual 124, 3) := by decide +kernel
theorem d_X_kinds_88 : decode b_X_kinds 88 = .ok (.invokevirtual 205, 3) := by decide +kernel
theorem d_X_kinds_91 : decode b_X_kinds 91 = .ok (.aload_n 0, 1) := by decide +kernel
theorem d_X_kinds_92 : decode b_X_kinds 92 = .ok (.getfield 19, 3) := by decide +kernel
theorem d_X_kinds_95 : decode b_X_kinds 95 = .ok (.iload 5, 2) := by decide +kernel
theorem d_X_kinds_97 : decode b_X_kinds 97 = .ok (.ifCond .ne 8, 3) := by decide +kernel
theorem d_X_kinds_100 : decode b_X_kinds 100 = .ok (.iload 9, 2) := by decide +kernel
theorem d_X_kinds_102 : decode b_X_kinds 102 = .ok (.goto 10, 3) := by decide +kernel
theorem d_X_kinds_105 : decode b_X_kinds 105 = .ok (.aload_n 0, 1) := by decide +kernel
theorem d_X_kinds_106 : decode b_X_kinds 106 = .ok (.getfield 19, 3) := by decide +kernel
theorem d_X_kinds_109 : decode b_X_kinds 109 = .ok (.getfield 150, 3) := by decide +kernel
theorem d_X_kinds_112 : decode b_X_kinds 112 = .ok (.putfield 150, 3) := by decide +kernel
theorem d_X_kinds_115 : decode b_X_kinds 115 = .ok (.aload_n 0, 1) := by decide +kernel
theorem d_X_kinds_116 : decode b_X_kinds 116 = .ok (.getfield 19, 3) := by decide +kernel
theorem d_X_kinds_119 : decode b_X_kinds 119 = .ok (.iload 5, 2) := by decide +kernel
theorem d_X_kinds_121 : decode b_X_kinds 121 = .ok (.iconst 1, 1) := by decide +kernel
theorem d_X_kinds_122 : decode b_X_kinds 122 = .ok (.if_icmp .ne 8, 3) := by decide +kernel
theorem d_X_kinds_125 : decode b_X_kinds 125 = .ok (.iload 9, 2) := by decide +kernel
theorem d_X_kinds_127 : decode b_X_kinds 127 = .ok (.goto 10, 3) := by decide +kernel
theorem d_X_kinds_130 : decode b_X_kinds 130 = .ok (.aload_n 0, 1) := by decide +kernel
theorem d_X_kinds_131 : decode b_X_kinds 131 = .ok (.getfield 19, 3) := by decide +kernel
theorem d_X_kinds_134 : decode b_X_kinds 134 = .ok (.getfield 153, 3) := by decide +kernel
theorem d_X_kinds_137 : decode b_X_kinds 137 = .ok (.putfield 153, 3) := by decide +kernel
theorem d_X_kinds_140 : decode b_X_kinds 140 = .ok (.aload_n 0, 1) := by decide +kernel
theorem d_X_kinds_141 : decode b_X_kinds 141 = .ok (.getfield 19, 3) := by decide +kernel
theorem d_X_kinds_144 : decode b_X_kinds 144 = .ok (.iload 5, 2) := by decide +kernel
theorem d_X_kinds_146 : decode b_X_kinds 146 = .ok (.iconst 2, 1) := by decide +kernel
theorem d_X_kinds_147 : decode b_X_kinds 147 = .ok (.if_icmp .ne 8, 3) := by decide +kernel
theorem d_X_kinds_150 : decode b_X_kinds 150 = .ok (.iload 9, 2) := by decide +kernel
theorem d_X_kinds_152 : decode b_X_kinds 152 = .ok (.goto 10, 3) := by decide +kernel
theorem d_X_kinds_155 : decode b_X_kinds 155 = .ok (.aload_n 0, 1) := by decide +kernel
theorem d_X_kinds_156 : decode b_X_kinds 156 = .ok (.getfield 19, 3) := by decide +kernel
theorem d_X_kinds_159 : decode b_X_kinds 159 = .ok (.getfield 143, 3) := by decide +kernel
theorem d_X_kinds_162 : decode b_X_kinds 162 = .ok (.putfield 143, 3) := by decide +kernel
theorem d_X_kinds_165 : decode b_X_kinds 165 = .ok (.aload_n 0, 1) := by decide +kernel
theorem d_X_kinds_166 : decode b_X_kinds 166 = .ok (.getfield 19, 3) := by decide +kernel
theorem d_X_kinds_169 : decode b_X_kinds 169 = .ok (.aload_n 0, 1) := by decide +kernel
theorem d_X_kinds_170 : decode b_X_kinds 170 = .ok (.invokevirtual 120, 3) := by decide +kernel
theorem d_X_kinds_173 : decode b_X_kinds 173 = .ok (.iload_n 3, 1) := by decide +kernel
theorem d_X_kinds_174 : decode b_X_kinds 174 = .ok (.iload 4, 2) := by decide +kernel
theorem d_X_kinds_176 : decode b_X_kinds 176 = .ok (.bipush (10), 2) := by decide +kernel
theorem d_X_kinds_178 : decode b_X_kinds 178 = .ok (.idiv, 1) := by decide +kernel
theorem d_X_kinds_179 : decode b_X_kinds 179 = .ok (.invokevirtual 175, 3) := by decide +kernel
theorem d_X_kinds_182 : decode b_X_kinds 182 = .ok (.aload_n 0, 1) := by decide +kernel
theorem d_X_kinds_183 : decode b_X_kinds 183 = .ok (.aload_n 0, 1) := by decide +kernel
theorem d_X_kinds_184 : decode b_X_kinds 184 = .ok (.iload_n 1, 1) := by decide +kernel
theorem d_X_kinds_185 : decode b_X_kinds 185 = .ok (.invokevirtual 256, 3) := by decide +kernel
theorem d_X_kinds_188 : decode b_X_kinds 188 = .ok (.aload_n 0, 1) := by decide +kernel
theorem d_X_kinds_189 : decode b_X_kinds 189 = .ok (.invokevirtual 120, 3) := by decide +kernel
theorem d_X_kinds_192 : decode b_X_kinds 192 = .ok (.iload 4, 2) := by decide +kernel
theorem d_X_kinds_194 : decode b_X_kinds 194 = .ok (.bipush (10), 2) := by decide +kernel
theorem d_X_kinds_196 : decode b_X_kinds 196 = .ok (.irem, 1) := by decide +kernel
theorem d_X_kinds_197 : decode b_X_kinds 197 = .ok (.invokevirtual 260, 3) := by decide +kernel
theorem d_X_kinds_200 : decode b_X_kinds 200 = .ok (.ifCond .ge 12, 3) := by decide +kernel
theorem d_X_kinds_203 : decode b_X_kinds 203 = .ok (.iload 8, 2) := by decide +kernel
theorem d_X_kinds_205 : decode b_X_kinds 205 = .ok (.iconst 1, 1) := by decide +kernel
theorem d_X_kinds_206 : decode b_X_kinds 206 = .ok (.iload 9, 2) := by decide +kernel
theorem d_X_kinds_208 : decode b_X_kinds 208 = .ok (.ishl, 1) := by decide +kernel
theorem d_X_kinds_209 : decode b_X_kinds 209 = .ok (.ior, 1) := by decide +kernel
theorem d_X_kinds_210 : decode b_X_kinds 210 = .ok (.istore 8, 2) := by decide +kernel
theorem d_X_kinds_212 : decode b_X_kinds 212 = .ok (.iinc 9 (1), 3) := by decide +kernel
theorem d_X_kinds_215 : decode b_X_kinds 215 = .ok (.goto (-140), 3) := by decide +kernel
theorem d_X_kinds_218 : decode b_X_kinds 218 = .ok (.iload 8, 2) := by decide +kernel
theorem d_X_kinds_220 : decode b_X_kinds 220 = .ok (.ireturn, 1) := by decide +kernel
abbrev b_X_laws : ByteArray := prog_1_method_25_code
def y_X_laws : MethodName := ⟨"RoundAndRound", "laws", "(IIII)I"⟩
theorem d_X_laws_0 : decode b_X_laws 0 = .ok (.aload_n 0, 1) := by decide +kernel
theorem d_X_laws_1 : decode b_X_laws 1 = .ok (.iload_n 1, 1) := by decide +kernel
theorem d_X_laws_2 : decode b_X_laws 2 = .ok (.iload_n 2, 1) := by decide +kernel
theorem d_X_laws_3 : decode b_X_laws 3 = .ok (.invokevirtual 253, 3) := by decide +kernel
theorem d_X_laws_6 : decode b_X_laws 6 = .ok (.istore 5, 2) := by decide +kernel
theorem d_X_laws_8 : decode b_X_laws 8 = .ok (.iload 5, 2) := by decide +kernel
theorem d_X_laws_10 : decode b_X_laws 10 = .ok (.ifCond .eq 6, 3) := by decide +kernel
theorem d_X_laws_13 : decode b_X_laws 13 = .ok (.iload 5, 2) := by decide +kernel
theorem d_X_laws_15 : decode b_X_laws 15 = .ok (.ireturn, 1) := by decide +kernel
theorem d_X_laws_16 : decode b_X_laws 16 = .ok (.iload_n 3, 1) := by decide +kernel
theorem d_X_laws_17 : decode b_X_laws 17 = .ok (.invokestatic 169, 3) := by decide +kernel
theorem d_X_laws_20 : decode b_X_laws 20 = .ok (.ifCond .eq 11, 3) := by decide +kernel
theorem d_X_laws_23 : decode b_X_laws 23 = .ok (.iload 4, 2) := by decide +kernel
theorem d_X_laws_25 : decode b_X_laws 25 = .ok (.invokestatic 241, 3) := by decide +kernel
theorem d_X_laws_28 : decode b_X_laws 28 = .ok (.ifCond .ne 6, 3) := by decide +kernel
theorem d_X_laws_31 : decode b_X_laws 31 = .ok (.bipush (-7), 2) := by decide +kernel
theorem d_X_laws_33 : decode b_X_laws 33 = .ok (.ireturn, 1) := by decide +kernel
theorem d_X_laws_34 : decode b_X_laws 34 = .ok (.iconst 0, 1) := by decide +kernel
theorem d_X_laws_35 : decode b_X_laws 35 = .ok (.istore 6, 2) := by decide +kernel
theorem d_X_laws_37 : decode b_X_laws 37 = .ok (.iconst 0, 1) := by decide +kernel
theorem d_X_laws_38 : decode b_X_laws 38 = .ok (.istore 7, 2) := by decide +kernel
theorem d_X_laws_40 : decode b_X_laws 40 = .ok (.iload 7, 2) := by decide +kernel
theorem d_X_laws_42 : decode b_X_laws 42 = .ok (.aload_n 0, 1) := by decide +kernel
theorem d_X_laws_43 : decode b_X_laws 43 = .ok (.getfield 63, 3) := by decide +kernel
theorem d_X_laws_46 : decode b_X_laws 46 = .ok (.if_icmp .ge 62, 3) := by decide +kernel
theorem d_X_laws_49 : decode b_X_laws 49 = .ok (.aload_n 0, 1) := by decide +kernel
theorem d_X_laws_50 : decode b_X_laws 50 = .ok (.aload_n 0, 1) := by decide +kernel
theorem d_X_laws_51 : decode b_X_laws 51 = .ok (.iload_n 2, 1) := by decide +kernel
theorem d_X_laws_52 : decode b_X_laws 52 = .ok (.invokevirtual 124, 3) := by decide +kernel
theorem d_X_laws_55 : decode b_X_laws 55 = .ok (.aload_n 0, 1) := by decide +kernel
theorem d_X_laws_56 : decode b_X_laws 56 = .ok (.iload 7, 2) := by decide +kernel
theorem d_X_laws_58 : decode b_X_laws 58 = .ok (.invokevirtual 91, 3) := by decide +kernel
theorem d_X_laws_61 : decode b_X_laws 61 = .ok (.iload_n 3, 1) := by decide +kernel
theorem d_X_laws_62 : decode b_X_laws 62 = .ok (.iload 4, 2) := by decide +kernel
theorem d_X_laws_64 : decode b_X_laws 64 = .ok (.bipush (10), 2) := by decide +kernel
theorem d_X_laws_66 : decode b_X_laws 66 = .ok (.idiv, 1) := by decide +kernel
theorem d_X_laws_67 : decode b_X_laws 67 = .ok (.invokevirtual 201, 3) := by decide +kernel
theorem d_X_laws_70 : decode b_X_laws 70 = .ok (.aload_n 0, 1) := by decide +kernel
theorem d_X_laws_71 : decode b_X_laws 71 = .ok (.aload_n 0, 1) := by decide +kernel
theorem d_X_laws_72 : decode b_X_laws 72 = .ok (.iload_n 1, 1) := by decide +kernel
theorem d_X_laws_73 : decode b_X_laws 73 = .ok (.invokevirtual 256, 3) := by decide +kernel
theorem d_X_laws_76 : decode b_X_laws 76 = .ok (.aload_n 0, 1) := by decide +kernel
theorem d_X_laws_77 : decode b_X_laws 77 = .ok (.iload 7, 2) := by decide +kernel
theorem d_X_laws_79 : decode b_X_laws 79 = .ok (.invokevirtual 91, 3) := by decide +kernel
theorem d_X_laws_82 : decode b_X_laws 82 = .ok (.iload 4, 2) := by decide +kernel
theorem d_X_laws_84 : decode b_X_laws 84 = .ok (.bipush (10), 2) := by decide +kernel
theorem d_X_laws_86 : decode b_X_laws 86 = .ok (.irem, 1) := by decide +kernel
theorem d_X_laws_87 : decode b_X_laws 87 = .ok (.invokevirtual 260, 3) := by decide +kernel
theorem d_X_laws_90 : decode b_X_laws 90 = .ok (.ifCond .ge 12, 3) := by decide +kernel
theorem d_X_laws_93 : decode b_X_laws 93 = .ok (.iload 6, 2) := by decide +kernel
theorem d_X_laws_95 : decode b_X_laws 95 = .ok (.iconst 1, 1) := by decide +kernel
theorem d_X_laws_96 : decode b_X_laws 96 = .ok (.iload 7, 2) := by decide +kernel
theorem d_X_laws_98 : decode b_X_laws 98 = .ok (.ishl, 1) := by decide +kernel
theorem d_X_laws_99 : decode b_X_laws 99 = .ok (.ior, 1) := by decide +kernel
theorem d_X_laws_100 : decode b_X_laws 100 = .ok (.istore 6, 2) := by decide +kernel
theorem d_X_laws_102 : decode b_X_laws 102 = .ok (.iinc 7 (1), 3) := by decide +kernel
theorem d_X_laws_105 : decode b_X_laws 105 = .ok (.goto (-65), 3) := by decide +kernel
theorem d_X_laws_108 : decode b_X_laws 108 = .ok (.iload 6, 2) := by decide +kernel
theorem d_X_laws_110 : decode b_X_laws 110 = .ok (.ireturn, 1) := by decide +kernel
abbrev b_X_whose : ByteArray := prog_1_method_26_code
def y_X_whose : MethodName := ⟨"RoundAndRound", "whose", "(III)I"⟩
theorem d_X_whose_0 : decode b_X_whose 0 = .ok (.aload_n 0, 1) := by decide +kernel
theorem d_X_whose_1 : decode b_X_whose 1 = .ok (.iload_n 1, 1) := by decide +kernel
theorem d_X_whose_2 : decode b_X_whose 2 = .ok (.invokevirtual 264, 3) := by decide +kernel
theorem d_X_whose_5 : decode b_X_whose 5 = .ok (.istore 4, 2) := by decide +kernel
theorem d_X_whose_7 : decode b_X_whose 7 = .ok (.iload 4, 2) := by decide +kernel
theorem d_X_whose_9 : decode b_X_whose 9 = .ok (.ifCond .eq 6, 3) := by decide +kernel
theorem d_X_whose_12 : decode b_X_whose 12 = .ok (.iload 4, 2) := by decide +kernel
theorem d_X_whose_14 : decode b_X_whose 14 = .ok (.ireturn, 1) := by decide +kernel
theorem d_X_whose_15 : decode b_X_whose 15 = .ok (.iload_n 2, 1) := by decide +kernel
theorem d_X_whose_16 : decode b_X_whose 16 = .ok (.invokestatic 169, 3) := by decide +kernel
theorem d_X_whose_19 : decode b_X_whose 19 = .ok (.ifCond .eq 10, 3) := by decide +kernel
theorem d_X_whose_22 : decode b_X_whose 22 = .ok (.iload_n 3, 1) := by decide +kernel
theorem d_X_whose_23 : decode b_X_whose 23 = .ok (.invokestatic 241, 3) := by decide +kernel
theorem d_X_whose_26 : decode b_X_whose 26 = .ok (.ifCond .ne 6, 3) := by decide +kernel
theorem d_X_whose_29 : decode b_X_whose 29 = .ok (.bipush (-7), 2) := by decide +kernel
theorem d_X_whose_31 : decode b_X_whose 31 = .ok (.ireturn, 1) := by decide +kernel
theorem d_X_whose_32 : decode b_X_whose 32 = .ok (.iconst 0, 1) := by decide +kernel
theorem d_X_whose_33 : decode b_X_whose 33 = .ok (.istore 5, 2) := by decide +kernel
theorem d_X_whose_35 : decode b_X_whose 35 = .ok (.iconst 0, 1) := by decide +kernel
theorem d_X_whose_36 : decode b_X_whose 36 = .ok (.istore 6, 2) := by decide +kernel
theorem d_X_whose_38 : decode b_X_whose 38 = .ok (.iload 6, 2) := by decide +kernel
theorem d_X_whose_40 : decode b_X_whose 40 = .ok (.aload_n 0, 1) := by decide +kernel
theorem d_X_whose_41 : decode b_X_whose 41 = .ok (.getfield 59, 3) := by decide +kernel
theorem d_X_whose_44 : decode b_X_whose 44 = .ok (.if_icmp .ge 57, 3) := by decide +kernel
theorem d_X_whose_47 : decode b_X_whose 47 = .ok (.aload_n 0, 1) := by decide +kernel
theorem d_X_whose_48 : decode b_X_whose 48 = .ok (.aload_n 0, 1) := by decide +kernel
theorem d_X_whose_49 : decode b_X_whose 49 = .ok (.iload 6, 2) := by decide +kernel
theorem d_X_whose_51 : decode b_X_whose 51 = .ok (.invokevirtual 124, 3) := by decide +kernel
theorem d_X_whose_54 : decode b_X_whose 54 = .ok (.aload_n 0, 1) := by decide +kernel
theorem d_X_whose_55 : decode b_X_whose 55 = .ok (.invokevirtual 120, 3) := by decide +kernel
theorem d_X_whose_58 : decode b_X_whose 58 = .ok (.iload_n 2, 1) := by decide +kernel
theorem d_X_whose_59 : decode b_X_whose 59 = .ok (.iload_n 3, 1) := by decide +kernel
theorem d_X_whose_60 : decode b_X_whose 60 = .ok (.bipush (10), 2) := by decide +kernel
theorem d_X_whose_62 : decode b_X_whose 62 = .ok (.idiv, 1) := by decide +kernel
theorem d_X_whose_63 : decode b_X_whose 63 = .ok (.invokevirtual 201, 3) := by decide +kernel
theorem d_X_whose_66 : decode b_X_whose 66 = .ok (.aload_n 0, 1) := by decide +kernel
theorem d_X_whose_67 : decode b_X_whose 67 = .ok (.aload_n 0, 1) := by decide +kernel
theorem d_X_whose_68 : decode b_X_whose 68 = .ok (.iload_n 1, 1) := by decide +kernel
theorem d_X_whose_69 : decode b_X_whose 69 = .ok (.invokevirtual 256, 3) := by decide +kernel
theorem d_X_whose_72 : decode b_X_whose 72 = .ok (.aload_n 0, 1) := by decide +kernel
theorem d_X_whose_73 : decode b_X_whose 73 = .ok (.invokevirtual 120, 3) := by decide +kernel
theorem d_X_whose_76 : decode b_X_whose 76 = .ok (.iload_n 3, 1) := by decide +kernel
theorem d_X_whose_77 : decode b_X_whose 77 = .ok (.bipush (10), 2) := by decide +kernel
theorem d_X_whose_79 : decode b_X_whose 79 = .ok (.irem, 1) := by decide +kernel
theorem d_X_whose_80 : decode b_X_whose 80 = .ok (.invokevirtual 260, 3) := by decide +kernel
theorem d_X_whose_83 : decode b_X_whose 83 = .ok (.ifCond .ge 12, 3) := by decide +kernel
theorem d_X_whose_86 : decode b_X_whose 86 = .ok (.iload 5, 2) := by decide +kernel
theorem d_X_whose_88 : decode b_X_whose 88 = .ok (.iconst 1, 1) := by decide +kernel
theorem d_X_whose_89 : decode b_X_whose 89 = .ok (.iload 6, 2) := by decide +kernel
theorem d_X_whose_91 : decode b_X_whose 91 = .ok (.ishl, 1) := by decide +kernel
theorem d_X_whose_92 : decode b_X_whose 92 = .ok (.ior, 1) := by decide +kernel
theorem d_X_whose_93 : decode b_X_whose 93 = .ok (.istore 5, 2) := by decide +kernel
theorem d_X_whose_95 : decode b_X_whose 95 = .ok (.iinc 6 (1), 3) := by decide +kernel
theorem d_X_whose_98 : decode b_X_whose 98 = .ok (.goto (-60), 3) := by decide +kernel
theorem d_X_whose_101 : decode b_X_whose 101 = .ok (.iload 5, 2) := by decide +kernel
theorem d_X_whose_103 : decode b_X_whose 103 = .ok (.ireturn, 1) := by decide +kernel
abbrev b_X_film : ByteArray := prog_1_method_27_code
def y_X_film : MethodName := ⟨"RoundAndRound", "film", "(IIIII)I"⟩
theorem d_X_film_0 : decode b_X_film 0 = .ok (.iload_n 1, 1) := by decide +kernel
theorem d_X_film_1 : decode b_X_film 1 = .ok (.invokestatic 267, 3) := by decide +kernel
theorem d_X_film_4 : decode b_X_film 4 = .ok (.ifCond .ne 6, 3) := by decide +kernel
theorem d_X_film_7 : decode b_X_film 7 = .ok (.bipush (-2), 2) := by decide +kernel
theorem d_X_film_9 : decode b_X_film 9 = .ok (.ireturn, 1) := by decide +kernel
theorem d_X_film_10 : decode b_X_film 10 = .ok (.aload_n 0, 1) := by decide +kernel
theorem d_X_film_11 : decode b_X_film 11 = .ok (.iload_n 2, 1) := by decide +kernel
theorem d_X_film_12 : decode b_X_film 12 = .ok (.invokevirtual 113, 3) := by decide +kernel
theorem d_X_film_15 : decode b_X_film 15 = .ok (.ifCond .ne 6, 3) := by decide +kernel
theorem d_X_film_18 : decode b_X_film 18 = .ok (.bipush (-5), 2) := by decide +kernel
theorem d_X_film_20 : decode b_X_film 20 = .ok (.ireturn, 1) := by decide +kernel
theorem d_X_film_21 : decode b_X_film 21 = .ok (.iload_n 3, 1) := by decide +kernel
theorem d_X_film_22 : decode b_X_film 22 = .ok (.invokestatic 169, 3) := by decide +kernel
theorem d_X_film_25 : decode b_X_film 25 = .ok (.ifCond .eq 22, 3) := by decide +kernel
theorem d_X_film_28 : decode b_X_film 28 = .ok (.iload 4, 2) := by decide +kernel
theorem d_X_film_30 : decode b_X_film 30 = .ok (.invokestatic 241, 3) := by decide +kernel
theorem d_X_film_33 : decode b_X_film 33 = .ok (.ifCond .eq 14, 3) := by decide +kernel
theorem d_X_film_36 : decode b_X_film 36 = .ok (.iload 5, 2) := by decide +kernel
theorem d_X_film_38 : decode b_X_film 38 = .ok (.iconst 0, 1) := by decide +kernel
theorem d_X_film_39 : decode b_X_film 39 = .ok (.bipush (40), 2) := by decide +kernel
theorem d_X_film_41 : decode b_X_film 41 = .ok (.invokestatic 105, 3) := by decide +kernel
theorem d_X_film_44 : decode b_X_film 44 = .ok (.ifCond .ne 6, 3) := by decide +kernel
theorem d_X_film_47 : decode b_X_film 47 = .ok (.bipush (-7), 2) := by decide +kernel
theorem d_X_film_49 : decode b_X_film 49 = .ok (.ireturn, 1) := by decide +kernel
theorem d_X_film_50 : decode b_X_film 50 = .ok (.aload_n 0, 1) := by decide +kernel
theorem d_X_film_51 : decode b_X_film 51 = .ok (.iload_n 1, 1) := by decide +kernel
theorem d_X_film_52 : decode b_X_film 52 = .ok (.invokevirtual 256, 3) := by decide +kernel
theorem d_X_film_55 : decode b_X_film 55 = .ok (.astore 6, 2) := by decide +kernel
theorem d_X_film_57 : decode b_X_film 57 = .ok (.aload 6, 2) := by decide +kernel
theorem d_X_film_59 : decode b_X_film 59 = .ok (.iconst 2, 1) := by decide +kernel
theorem d_X_film_60 : decode b_X_film 60 = .ok (.iload 5, 2) := by decide +kernel
theorem d_X_film_62 : decode b_X_film 62 = .ok (.invokevirtual 270, 3) := by decide +kernel
theorem d_X_film_65 : decode b_X_film 65 = .ok (.aload_n 0, 1) := by decide +kernel
theorem d_X_film_66 : decode b_X_film 66 = .ok (.aload_n 0, 1) := by decide +kernel
theorem d_X_film_67 : decode b_X_film 67 = .ok (.iload_n 2, 1) := by decide +kernel
theorem d_X_film_68 : decode b_X_film 68 = .ok (.invokevirtual 124, 3) := by decide +kernel
theorem d_X_film_71 : decode b_X_film 71 = .ok (.aload_n 0, 1) := by decide +kernel
theorem d_X_film_72 : decode b_X_film 72 = .ok (.invokevirtual 120, 3) := by decide +kernel
theorem d_X_film_75 : decode b_X_film 75 = .ok (.iload_n 3, 1) := by decide +kernel
theorem d_X_film_76 : decode b_X_film 76 = .ok (.iload 4, 2) := by decide +kernel
theorem d_X_film_78 : decode b_X_film 78 = .ok (.bipush (10), 2) := by decide +kernel
theorem d_X_film_80 : decode b_X_film 80 = .ok (.idiv, 1) := by decide +kernel
theorem d_X_film_81 : decode b_X_film 81 = .ok (.invokevirtual 201, 3) := by decide +kernel
theorem d_X_film_84 : decode b_X_film 84 = .ok (.iconst 0, 1) := by decide +kernel
theorem d_X_film_85 : decode b_X_film 85 = .ok (.istore 7, 2) := by decide +kernel
theorem d_X_film_87 : decode b_X_film 87 = .ok (.iload 7, 2) := by decide +kernel
theorem d_X_film_89 : decode b_X_film 89 = .ok (.iload 5, 2) := by decide +kernel
theorem d_X_film_91 : decode b_X_film 91 = .ok (.if_icmp .ge 40, 3) := by decide +kernel
theorem d_X_film_94 : decode b_X_film 94 = .ok (.aload_n 0, 1) := by decide +kernel
theorem d_X_film_95 : decode b_X_film 95 = .ok (.getfield 19, 3) := by decide +kernel
theorem d_X_film_98 : decode b_X_film 98 = .ok (.aload_n 0, 1) := by decide +kernel
theorem d_X_film_99 : decode b_X_film 99 = .ok (.invokevirtual 120, 3) := by decide +kernel
theorem d_X_film_102 : decode b_X_film 102 = .ok (.iload 4, 2) := by decide +kernel
theorem d_X_film_104 : decode b_X_film 104 = .ok (.bipush (10), 2) := by decide +kernel
theorem d_X_film_106 : decode b_X_film 106 = .ok (.irem, 1) := by decide +kernel
theorem d_X_film_107 : decode b_X_film 107 = .ok (.iconst 1, 1) := by decide +kernel
theorem d_X_film_108 : decode b_X_film 108 = .ok (.invokevirtual 271, 3) := by decide +kernel
theorem d_X_film_111 : decode b_X_film 111 = .ok (.aload 6, 2) := by decide +kernel
theorem d_X_film_113 : decode b_X_film 113 = .ok (.iload 7, 2) := by decide +kernel
theorem d_X_film_115 : decode b_X_film 115 = .ok (.aload_n 0, 1) := by decide +kernel
theorem d_X_film_116 : decode b_X_film 116 = .ok (.getfield 19, 3) := by decide +kernel
theorem d_X_film_119 : decode b_X_film 119 = .ok (.getfield 159, 3) := by decide +kernel
theorem d_X_film_122 : decode b_X_film 122 = .ok (.invokevirtual 274, 3) := by decide +kernel
theorem d_X_film_125 : decode b_X_film 125 = .ok (.iinc 7 (1), 3) := by decide +kernel
theorem d_X_film_128 : decode b_X_film 128 = .ok (.goto (-41), 3) := by decide +kernel
theorem d_X_film_131 : decode b_X_film 131 = .ok (.iload 5, 2) := by decide +kernel
theorem d_X_film_133 : decode b_X_film 133 = .ok (.ireturn, 1) := by decide +kernel
abbrev b_X_drawn : ByteArray := prog_1_method_28_code
def y_X_drawn : MethodName := ⟨"RoundAndRound", "drawn", "(IIIII)I"⟩
theorem d_X_drawn_0 : decode b_X_drawn 0 = .ok (.aload_n 0, 1) := by decide +kernel
theorem d_X_drawn_1 : decode b_X_drawn 1 = .ok (.iload_n 2, 1) := by decide +kernel
theorem d_X_drawn_2 : decode b_X_drawn 2 = .ok (.invokevirtual 113, 3) := by decide +kernel
theorem d_X_drawn_5 : decode b_X_drawn 5 = .ok (.ifCond .ne 6, 3) := by decide +kernel
theorem d_X_drawn_8 : decode b_X_drawn 8 = .ok (.ldc 139, 2) := by decide +kernel
theorem d_X_drawn_10 : decode b_X_drawn 10 = .ok (.ireturn, 1) := by decide +kernel
theorem d_X_drawn_11 : decode b_X_drawn 11 = .ok (.iload_n 1, 1) := by decide +kernel
theorem d_X_drawn_12 : decode b_X_drawn 12 = .ok (.iconst 0, 1) := by decide +kernel
theorem d_X_drawn_13 : decode b_X_drawn 13 = .ok (.ldc 245, 2) := by decide +kernel
theorem d_X_drawn_15 : decode b_X_drawn 15 = .ok (.invokestatic 105, 3) := by decide +kernel
theorem d_X_drawn_18 : decode b_X_drawn 18 = .ok (.ifCond .eq 28, 3) := by decide +kernel
theorem d_X_drawn_21 : decode b_X_drawn 21 = .ok (.iload_n 3, 1) := by decide +kernel
theorem d_X_drawn_22 : decode b_X_drawn 22 = .ok (.invokestatic 185, 3) := by decide +kernel
theorem d_X_drawn_25 : decode b_X_drawn 25 = .ok (.ifCond .eq 21, 3) := by decide +kernel
theorem d_X_drawn_28 : decode b_X_drawn 28 = .ok (.iload 4, 2) := by decide +kernel
theorem d_X_drawn_30 : decode b_X_drawn 30 = .ok (.invokestatic 277, 3) := by decide +kernel
theorem d_X_drawn_33 : decode b_X_drawn 33 = .ok (.ifCond .eq 13, 3) := by decide +kernel
theorem d_X_drawn_36 : decode b_X_drawn 36 = .ok (.iload 5, 2) := by decide +kernel
theorem d_X_drawn_38 : decode b_X_drawn 38 = .ok (.iconst 0, 1) := by decide +kernel
theorem d_X_drawn_39 : decode b_X_drawn 39 = .ok (.iconst 2, 1) := by decide +kernel
theorem d_X_drawn_40 : decode b_X_drawn 40 = .ok (.invokestatic 105, 3) := by decide +kernel
theorem d_X_drawn_43 : decode b_X_drawn 43 = .ok (.ifCond .ne 6, 3) := by decide +kernel
theorem d_X_drawn_46 : decode b_X_drawn 46 = .ok (.ldc 149, 2) := by decide +kernel
theorem d_X_drawn_48 : decode b_X_drawn 48 = .ok (.ireturn, 1) := by decide +kernel
theorem d_X_drawn_49 : decode b_X_drawn 49 = .ok (.aload_n 0, 1) := by decide +kernel
theorem d_X_drawn_50 : decode b_X_drawn 50 = .ok (.aload_n 0, 1) := by decide +kernel
theorem d_X_drawn_51 : decode b_X_drawn 51 = .ok (.iload_n 2, 1) := by decide +kernel
theorem d_X_drawn_52 : decode b_X_drawn 52 = .ok (.invokevirtual 124, 3) := by decide +kernel
theorem d_X_drawn_55 : decode b_X_drawn 55 = .ok (.iload_n 1, 1) := by decide +kernel
theorem d_X_drawn_56 : decode b_X_drawn 56 = .ok (.iload_n 3, 1) := by decide +kernel
theorem d_X_drawn_57 : decode b_X_drawn 57 = .ok (.iload 4, 2) := by decide +kernel
theorem d_X_drawn_59 : decode b_X_drawn 59 = .ok (.invokevirtual 280, 3) := by decide +kernel
theorem d_X_drawn_62 : decode b_X_drawn 62 = .ok (.iload 5, 2) := by decide +kernel
theorem d_X_drawn_64 : decode b_X_drawn 64 = .ok (.lookupswitch 44 #[(0, 28), (1, 36)], 28) := by decide +kernel
theorem d_X_drawn_92 : decode b_X_drawn 92 = .ok (.aload_n 0, 1) := by decide +kernel
theorem d_X_drawn_93 : decode b_X_drawn 93 = .ok (.getfield 19, 3) := by decide +kernel
theorem d_X_drawn_96 : decode b_X_drawn 96 = .ok (.getfield 159, 3) := by decide +kernel
theorem d_X_drawn_99 : decode b_X_drawn 99 = .ok (.ireturn, 1) := by decide +kernel
theorem d_X_drawn_100 : decode b_X_drawn 100 = .ok (.aload_n 0, 1) := by decide +kernel
theorem d_X_drawn_101 : decode b_X_drawn 101 = .ok (.getfield 19, 3) := by decide +kernel
theorem d_X_drawn_104 : decode b_X_drawn 104 = .ok (.getfield 156, 3) := by decide +kernel
theorem d_X_drawn_107 : decode b_X_drawn 107 = .ok (.ireturn, 1) := by decide +kernel
theorem d_X_drawn_108 : decode b_X_drawn 108 = .ok (.aload_n 0, 1) := by decide +kernel
theorem d_X_drawn_109 : decode b_X_drawn 109 = .ok (.getfield 19, 3) := by decide +kernel
theorem d_X_drawn_112 : decode b_X_drawn 112 = .ok (.getfield 162, 3) := by decide +kernel
theorem d_X_drawn_115 : decode b_X_drawn 115 = .ok (.ifCond .eq 7, 3) := by decide +kernel
theorem d_X_drawn_118 : decode b_X_drawn 118 = .ok (.iconst 1, 1) := by decide +kernel
theorem d_X_drawn_119 : decode b_X_drawn 119 = .ok (.goto 4, 3) := by decide +kernel
theorem d_X_drawn_122 : decode b_X_drawn 122 = .ok (.iconst 0, 1) := by decide +kernel
theorem d_X_drawn_123 : decode b_X_drawn 123 = .ok (.ireturn, 1) := by decide +kernel
abbrev b_X_odds : ByteArray := prog_1_method_29_code
def y_X_odds : MethodName := ⟨"RoundAndRound", "odds", "(IIIIII)J"⟩
theorem d_X_odds_0 : decode b_X_odds 0 = .ok (.aload_n 0, 1) := by decide +kernel
theorem d_X_odds_1 : decode b_X_odds 1 = .ok (.iload_n 3, 1) := by decide +kernel
theorem d_X_odds_2 : decode b_X_odds 2 = .ok (.invokevirtual 113, 3) := by decide +kernel
theorem d_X_odds_5 : decode b_X_odds 5 = .ok (.ifCond .eq 20, 3) := by decide +kernel
theorem d_X_odds_8 : decode b_X_odds 8 = .ok (.iload_n 1, 1) := by decide +kernel
theorem d_X_odds_9 : decode b_X_odds 9 = .ok (.iconst 0, 1) := by decide +kernel
theorem d_X_odds_10 : decode b_X_odds 10 = .ok (.ldc 245, 2) := by decide +kernel
theorem d_X_odds_12 : decode b_X_odds 12 = .ok (.invokestatic 105, 3) := by decide +kernel
theorem d_X_odds_15 : decode b_X_odds 15 = .ok (.ifCond .eq 10, 3) := by decide +kernel
theorem d_X_odds_18 : decode b_X_odds 18 = .ok (.iload_n 2, 1) := by decide +kernel
theorem d_X_odds_19 : decode b_X_odds 19 = .ok (.invokestatic 284, 3) := by decide +kernel
theorem d_X_odds_22 : decode b_X_odds 22 = .ok (.ifCond .ne 7, 3) := by decide +kernel
theorem d_X_odds_25 : decode b_X_odds 25 = .ok (.ldc2_w 287, 3) := by decide +kernel
theorem d_X_odds_28 : decode b_X_odds 28 = .ok (.lreturn, 1) := by decide +kernel
theorem d_X_odds_29 : decode b_X_odds 29 = .ok (.iload 4, 2) := by decide +kernel
theorem d_X_odds_31 : decode b_X_odds 31 = .ok (.invokestatic 277, 3) := by decide +kernel
theorem d_X_odds_34 : decode b_X_odds 34 = .ok (.ifCond .eq 24, 3) := by decide +kernel
theorem d_X_odds_37 : decode b_X_odds 37 = .ok (.iload 5, 2) := by decide +kernel
theorem d_X_odds_39 : decode b_X_odds 39 = .ok (.iconst 0, 1) := by decide +kernel
theorem d_X_odds_40 : decode b_X_odds 40 = .ok (.ldc 245, 2) := by decide +kernel
theorem d_X_odds_42 : decode b_X_odds 42 = .ok (.invokestatic 105, 3) := by decide +kernel
theorem d_X_odds_45 : decode b_X_odds 45 = .ok (.ifCond .eq 13, 3) := by decide +kernel
theorem d_X_odds_48 : decode b_X_odds 48 = .ok (.iload 6, 2) := by decide +kernel
theorem d_X_odds_50 : decode b_X_odds 50 = .ok (.iconst 0, 1) := by decide +kernel
theorem d_X_odds_51 : decode b_X_odds 51 = .ok (.iconst 1, 1) := by decide +kernel
theorem d_X_odds_52 : decode b_X_odds 52 = .ok (.invokestatic 105, 3) := by decide +kernel
theorem d_X_odds_55 : decode b_X_odds 55 = .ok (.ifCond .ne 7, 3) := by decide +kernel
theorem d_X_odds_58 : decode b_X_odds 58 = .ok (.ldc2_w 287, 3) := by decide +kernel
theorem d_X_odds_61 : decode b_X_odds 61 = .ok (.lreturn, 1) := by decide +kernel
theorem d_X_odds_62 : decode b_X_odds 62 = .ok (.iload_n 2, 1) := by decide +kernel
theorem d_X_odds_63 : decode b_X_odds 63 = .ok (.bipush (100), 2) := by decide +kernel
theorem d_X_odds_65 : decode b_X_odds 65 = .ok (.irem, 1) := by decide +kernel
theorem d_X_odds_66 : decode b_X_odds 66 = .ok (.istore 7, 2) := by decide +kernel
theorem d_X_odds_68 : decode b_X_odds 68 = .ok (.iconst 0, 1) := by decide +kernel
theorem d_X_odds_69 : decode b_X_odds 69 = .ok (.istore 8, 2) := by decide +kernel
theorem d_X_odds_71 : decode b_X_odds 71 = .ok (.iconst 0, 1) := by decide +kernel
theorem d_X_odds_72 : decode b_X_odds 72 = .ok (.istore 9, 2) := by decide +kernel
theorem d_X_odds_74 : decode b_X_odds 74 = .ok (.iload 9, 2) := by decide +kernel
theorem d_X_odds_76 : decode b_X_odds 76 = .ok (.iload 7, 2) := by decide +kernel
theorem d_X_odds_78 : decode b_X_odds 78 = .ok (.if_icmp .ge 46, 3) := by decide +kernel
theorem d_X_odds_81 : decode b_X_odds 81 = .ok (.aload_n 0, 1) := by decide +kernel
theorem d_X_odds_82 : decode b_X_odds 82 = .ok (.aload_n 0, 1) := by decide +kernel
theorem d_X_odds_83 : decode b_X_odds 83 = .ok (.iload_n 3, 1) := by decide +kernel
theorem d_X_odds_84 : decode b_X_odds 84 = .ok (.invokevirtual 124, 3) := by decide +kernel
theorem d_X_odds_87 : decode b_X_odds 87 = .ok (.iload_n 1, 1) := by decide +kernel
theorem d_X_odds_88 : decode b_X_odds 88 = .ok (.iload 9, 2) := by decide +kernel
theorem d_X_odds_90 : decode b_X_odds 90 = .ok (.iadd, 1) := by decide +kernel
theorem d_X_odds_91 : decode b_X_odds 91 = .ok (.iload_n 2, 1) := by decide +kernel
theorem d_X_odds_92 : decode b_X_odds 92 = .ok (.bipush (100), 2) := by decide +kernel
theorem d_X_odds_94 : decode b_X_odds 94 = .ok (.idiv, 1) := by decide +kernel
theorem d_X_odds_95 : decode b_X_odds 95 = .ok (.iload 4, 2) := by decide +kernel
theorem d_X_odds_97 : decode b_X_odds 97 = .ok (.invokevirtual 280, 3) := by decide +kernel
theorem d_X_odds_100 : decode b_X_odds 100 = .ok (.aload_n 0, 1) := by decide +kernel
theorem d_X_odds_101 : decode b_X_odds 101 = .ok (.getfield 19, 3) := by decide +kernel
theorem d_X_odds_104 : decode b_X_odds 104 = .ok (.getfield 159, 3) := by decide +kernel
theorem d_X_odds_107 : decode b_X_odds 107 = .ok (.invokestatic 216, 3) := by decide +kernel
theorem d_X_odds_110 : decode b_X_odds 110 = .ok (.iload 5, 2) := by decide +kernel
theorem d_X_odds_112 : decode b_X_odds 112 = .ok (.if_icmp .gt 6, 3) := by decide +kernel
theorem d_X_odds_115 : decode b_X_odds 115 = .ok (.iinc 8 (1), 3) := by decide +kernel
theorem d_X_odds_118 : decode b_X_odds 118 = .ok (.iinc 9 (1), 3) := by decide +kernel
theorem d_X_odds_121 : decode b_X_odds 121 = .ok (.goto (-47), 3) := by decide +kernel
theorem d_X_odds_124 : decode b_X_odds 124 = .ok (.iload 8, 2) := by decide +kernel
theorem d_X_odds_126 : decode b_X_odds 126 = .ok (.iload 7, 2) := by decide +kernel
theorem d_X_odds_128 : decode b_X_odds 128 = .ok (.invokestatic 289, 3) := by decide +kernel
theorem d_X_odds_131 : decode b_X_odds 131 = .ok (.istore 9, 2) := by decide +kernel
theorem d_X_odds_133 : decode b_X_odds 133 = .ok (.iload 6, 2) := by decide +kernel
theorem d_X_odds_135 : decode b_X_odds 135 = .ok (.ifCond .ne 8, 3) := by decide +kernel
theorem d_X_odds_138 : decode b_X_odds 138 = .ok (.iload 8, 2) := by decide +kernel
theorem d_X_odds_140 : decode b_X_odds 140 = .ok (.goto 5, 3) := by decide +kernel
theorem d_X_odds_143 : decode b_X_odds 143 = .ok (.iload 7, 2) := by decide +kernel
theorem d_X_odds_145 : decode b_X_odds 145 = .ok (.iload 9, 2) := by decide +kernel
theorem d_X_odds_147 : decode b_X_odds 147 = .ok (.idiv, 1) := by decide +kernel
theorem d_X_odds_148 : decode b_X_odds 148 = .ok (.i2l, 1) := by decide +kernel
theorem d_X_odds_149 : decode b_X_odds 149 = .ok (.lreturn, 1) := by decide +kernel
abbrev b_X_image : ByteArray := prog_1_method_30_code
def y_X_image : MethodName := ⟨"RoundAndRound", "image", "()I"⟩
theorem d_X_image_0 : decode b_X_image 0 = .ok (.iconst 0, 1) := by decide +kernel
theorem d_X_image_1 : decode b_X_image 1 = .ok (.istore_n 1, 1) := by decide +kernel
theorem d_X_image_2 : decode b_X_image 2 = .ok (.iload_n 1, 1) := by decide +kernel
theorem d_X_image_3 : decode b_X_image 3 = .ok (.aload_n 0, 1) := by decide +kernel
theorem d_X_image_4 : decode b_X_image 4 = .ok (.getfield 59, 3) := by decide +kernel
theorem d_X_image_7 : decode b_X_image 7 = .ok (.if_icmp .ge 22, 3) := by decide +kernel
theorem d_X_image_10 : decode b_X_image 10 = .ok (.aload_n 0, 1) := by decide +kernel
theorem d_X_image_11 : decode b_X_image 11 = .ok (.iload_n 1, 1) := by decide +kernel
theorem d_X_image_12 : decode b_X_image 12 = .ok (.invokevirtual 292, 3) := by decide +kernel
theorem d_X_image_15 : decode b_X_image 15 = .ok (.aload_n 0, 1) := by decide +kernel
theorem d_X_image_16 : decode b_X_image 16 = .ok (.iload_n 1, 1) := by decide +kernel
theorem d_X_image_17 : decode b_X_image 17 = .ok (.invokevirtual 124, 3) := by decide +kernel
theorem d_X_image_20 : decode b_X_image 20 = .ok (.invokevirtual 235, 3) := by decide +kernel
theorem d_X_image_23 : decode b_X_image 23 = .ok (.iinc 1 (1), 3) := by decide +kernel
theorem d_X_image_26 : decode b_X_image 26 = .ok (.goto (-24), 3) := by decide +kernel
theorem d_X_image_29 : decode b_X_image 29 = .ok (.aload_n 0, 1) := by decide +kernel
theorem d_X_image_30 : decode b_X_image 30 = .ok (.aload_n 0, 1) := by decide +kernel
theorem d_X_image_31 : decode b_X_image 31 = .ok (.getfield 59, 3) := by decide +kernel
theorem d_X_image_34 : decode b_X_image 34 = .ok (.putfield 69, 3) := by decide +kernel
theorem d_X_image_37 : decode b_X_image 37 = .ok (.aload_n 0, 1) := by decide +kernel
theorem d_X_image_38 : decode b_X_image 38 = .ok (.aload_n 0, 1) := by decide +kernel
theorem d_X_image_39 : decode b_X_image 39 = .ok (.getfield 66, 3) := by decide +kernel
theorem d_X_image_42 : decode b_X_image 42 = .ok (.putfield 72, 3) := by decide +kernel
theorem d_X_image_45 : decode b_X_image 45 = .ok (.aload_n 0, 1) := by decide +kernel
theorem d_X_image_46 : decode b_X_image 46 = .ok (.getfield 59, 3) := by decide +kernel
theorem d_X_image_49 : decode b_X_image 49 = .ok (.ireturn, 1) := by decide +kernel
abbrev b_X_back : ByteArray := prog_1_method_31_code
def y_X_back : MethodName := ⟨"RoundAndRound", "back", "()I"⟩
theorem d_X_back_0 : decode b_X_back 0 = .ok (.aload_n 0, 1) := by decide +kernel
theorem d_X_back_1 : decode b_X_back 1 = .ok (.getfield 69, 3) := by decide +kernel
theorem d_X_back_4 : decode b_X_back 4 = .ok (.ifCond .ge 6, 3) := by decide +kernel
theorem d_X_back_7 : decode b_X_back 7 = .ok (.bipush (-3), 2) := by decide +kernel
theorem d_X_back_9 : decode b_X_back 9 = .ok (.ireturn, 1) := by decide +kernel
theorem d_X_back_10 : decode b_X_back 10 = .ok (.iconst 0, 1) := by decide +kernel
theorem d_X_back_11 : decode b_X_back 11 = .ok (.istore_n 1, 1) := by decide +kernel
theorem d_X_back_12 : decode b_X_back 12 = .ok (.iload_n 1, 1) := by decide +kernel
theorem d_X_back_13 : decode b_X_back 13 = .ok (.aload_n 0, 1) := by decide +kernel
theorem d_X_back_14 : decode b_X_back 14 = .ok (.getfield 69, 3) := by decide +kernel
theorem d_X_back_17 : decode b_X_back 17 = .ok (.if_icmp .ge 22, 3) := by decide +kernel
theorem d_X_back_20 : decode b_X_back 20 = .ok (.aload_n 0, 1) := by decide +kernel
theorem d_X_back_21 : decode b_X_back 21 = .ok (.iload_n 1, 1) := by decide +kernel
theorem d_X_back_22 : decode b_X_back 22 = .ok (.invokevirtual 124, 3) := by decide +kernel
theorem d_X_back_25 : decode b_X_back 25 = .ok (.aload_n 0, 1) := by decide +kernel
theorem d_X_back_26 : decode b_X_back 26 = .ok (.iload_n 1, 1) := by decide +kernel
theorem d_X_back_27 : decode b_X_back 27 = .ok (.invokevirtual 292, 3) := by decide +kernel
theorem d_X_back_30 : decode b_X_back 30 = .ok (.invokevirtual 235, 3) := by decide +kernel
theorem d_X_back_33 : decode b_X_back 33 = .ok (.iinc 1 (1), 3) := by decide +kernel
theorem d_X_back_36 : decode b_X_back 36 = .ok (.goto (-24), 3) := by decide +kernel
theorem d_X_back_39 : decode b_X_back 39 = .ok (.aload_n 0, 1) := by decide +kernel
theorem d_X_back_40 : decode b_X_back 40 = .ok (.aload_n 0, 1) := by decide +kernel
theorem d_X_back_41 : decode b_X_back 41 = .ok (.getfield 69, 3) := by decide +kernel
theorem d_X_back_44 : decode b_X_back 44 = .ok (.putfield 59, 3) := by decide +kernel
theorem d_X_back_47 : decode b_X_back 47 = .ok (.aload_n 0, 1) := by decide +kernel
theorem d_X_back_48 : decode b_X_back 48 = .ok (.aload_n 0, 1) := by decide +kernel
theorem d_X_back_49 : decode b_X_back 49 = .ok (.getfield 72, 3) := by decide +kernel
theorem d_X_back_52 : decode b_X_back 52 = .ok (.putfield 66, 3) := by decide +kernel
theorem d_X_back_55 : decode b_X_back 55 = .ok (.aload_n 0, 1) := by decide +kernel
theorem d_X_back_56 : decode b_X_back 56 = .ok (.getfield 59, 3) := by decide +kernel
theorem d_X_back_59 : decode b_X_back 59 = .ok (.ireturn, 1) := by decide +kernel
abbrev b_X_sheet : ByteArray := prog_1_method_32_code
def y_X_sheet : MethodName := ⟨"RoundAndRound", "sheet", "(III)I"⟩
theorem d_X_sheet_0 : decode b_X_sheet 0 = .ok (.iload_n 1, 1) := by decide +kernel
theorem d_X_sheet_1 : decode b_X_sheet 1 = .ok (.invokestatic 267, 3) := by decide +kernel
theorem d_X_sheet_4 : decode b_X_sheet 4 = .ok (.ifCond .eq 12, 3) := by decide +kernel
theorem d_X_sheet_7 : decode b_X_sheet 7 = .ok (.iload_n 2, 1) := by decide +kernel
theorem d_X_sheet_8 : decode b_X_sheet 8 = .ok (.iconst (-1), 1) := by decide +kernel
theorem d_X_sheet_9 : decode b_X_sheet 9 = .ok (.iconst 2, 1) := by decide +kernel
theorem d_X_sheet_10 : decode b_X_sheet 10 = .ok (.invokestatic 105, 3) := by decide +kernel
theorem d_X_sheet_13 : decode b_X_sheet 13 = .ok (.ifCond .ne 6, 3) := by decide +kernel
theorem d_X_sheet_16 : decode b_X_sheet 16 = .ok (.bipush (-2), 2) := by decide +kernel
theorem d_X_sheet_18 : decode b_X_sheet 18 = .ok (.ireturn, 1) := by decide +kernel
theorem d_X_sheet_19 : decode b_X_sheet 19 = .ok (.iload_n 2, 1) := by decide +kernel
theorem d_X_sheet_20 : decode b_X_sheet 20 = .ok (.iconst (-1), 1) := by decide +kernel
theorem d_X_sheet_21 : decode b_X_sheet 21 = .ok (.if_icmp .ne 15, 3) := by decide +kernel
theorem d_X_sheet_24 : decode b_X_sheet 24 = .ok (.aload_n 0, 1) := by decide +kernel
theorem d_X_sheet_25 : decode b_X_sheet 25 = .ok (.iload_n 1, 1) := by decide +kernel
theorem d_X_sheet_26 : decode b_X_sheet 26 = .ok (.invokevirtual 256, 3) := by decide +kernel
theorem d_X_sheet_29 : decode b_X_sheet 29 = .ok (.iconst (-1), 1) := by decide +kernel
theorem d_X_sheet_30 : decode b_X_sheet 30 = .ok (.iconst 0, 1) := by decide +kernel
theorem d_X_sheet_31 : decode b_X_sheet 31 = .ok (.invokevirtual 270, 3) := by decide +kernel
theorem d_X_sheet_34 : decode b_X_sheet 34 = .ok (.iconst 1, 1) := by decide +kernel
theorem d_X_sheet_35 : decode b_X_sheet 35 = .ok (.ireturn, 1) := by decide +kernel
theorem d_X_sheet_36 : decode b_X_sheet 36 = .ok (.iload_n 3, 1) := by decide +kernel
theorem d_X_sheet_37 : decode b_X_sheet 37 = .ok (.bipush (40), 2) := by decide +kernel
theorem d_X_sheet_39 : decode b_X_sheet 39 = .ok (.if_icmp .le 6, 3) := by decide +kernel
theorem d_X_sheet_42 : decode b_X_sheet 42 = .ok (.bipush (-2), 2) := by decide +kernel
theorem d_X_sheet_44 : decode b_X_sheet 44 = .ok (.ireturn, 1) := by decide +kernel
theorem d_X_sheet_45 : decode b_X_sheet 45 = .ok (.iload_n 3, 1) := by decide +kernel
theorem d_X_sheet_46 : decode b_X_sheet 46 = .ok (.ifCond .ge 6, 3) := by decide +kernel
theorem d_X_sheet_49 : decode b_X_sheet 49 = .ok (.bipush (-14), 2) := by decide +kernel
theorem d_X_sheet_51 : decode b_X_sheet 51 = .ok (.ireturn, 1) := by decide +kernel
theorem d_X_sheet_52 : decode b_X_sheet 52 = .ok (.aload_n 0, 1) := by decide +kernel
theorem d_X_sheet_53 : decode b_X_sheet 53 = .ok (.iload_n 1, 1) := by decide +kernel
theorem d_X_sheet_54 : decode b_X_sheet 54 = .ok (.invokevirtual 256, 3) := by decide +kernel
theorem d_X_sheet_57 : decode b_X_sheet 57 = .ok (.iload_n 2, 1) := by decide +kernel
theorem d_X_sheet_58 : decode b_X_sheet 58 = .ok (.iload_n 3, 1) := by decide +kernel
theorem d_X_sheet_59 : decode b_X_sheet 59 = .ok (.invokevirtual 270, 3) := by decide +kernel
theorem d_X_sheet_62 : decode b_X_sheet 62 = .ok (.iconst 1, 1) := by decide +kernel
theorem d_X_sheet_63 : decode b_X_sheet 63 = .ok (.ireturn, 1) := by decide +kernel
abbrev b_X_cell : ByteArray := prog_1_method_33_code
def y_X_cell : MethodName := ⟨"RoundAndRound", "cell", "(III)I"⟩
theorem d_X_cell_0 : decode b_X_cell 0 = .ok (.aload_n 0, 1) := by decide +kernel
theorem d_X_cell_1 : decode b_X_cell 1 = .ok (.iload_n 1, 1) := by decide +kernel
theorem d_X_cell_2 : decode b_X_cell 2 = .ok (.invokevirtual 264, 3) := by decide +kernel
theorem d_X_cell_5 : decode b_X_cell 5 = .ok (.istore 4, 2) := by decide +kernel
theorem d_X_cell_7 : decode b_X_cell 7 = .ok (.iload 4, 2) := by decide +kernel
theorem d_X_cell_9 : decode b_X_cell 9 = .ok (.ifCond .eq 6, 3) := by decide +kernel
theorem d_X_cell_12 : decode b_X_cell 12 = .ok (.iload 4, 2) := by decide +kernel
theorem d_X_cell_14 : decode b_X_cell 14 = .ok (.ireturn, 1) := by decide +kernel
theorem d_X_cell_15 : decode b_X_cell 15 = .ok (.aload_n 0, 1) := by decide +kernel
theorem d_X_cell_16 : decode b_X_cell 16 = .ok (.iload_n 1, 1) := by decide +kernel
theorem d_X_cell_17 : decode b_X_cell 17 = .ok (.invokevirtual 256, 3) := by decide +kernel
theorem d_X_cell_20 : decode b_X_cell 20 = .ok (.iload_n 2, 1) := by decide +kernel
theorem d_X_cell_21 : decode b_X_cell 21 = .ok (.invokevirtual 295, 3) := by decide +kernel
theorem d_X_cell_24 : decode b_X_cell 24 = .ok (.ifCond .ne 6, 3) := by decide +kernel
theorem d_X_cell_27 : decode b_X_cell 27 = .ok (.bipush (-12), 2) := by decide +kernel
theorem d_X_cell_29 : decode b_X_cell 29 = .ok (.ireturn, 1) := by decide +kernel
theorem d_X_cell_30 : decode b_X_cell 30 = .ok (.aload_n 0, 1) := by decide +kernel
theorem d_X_cell_31 : decode b_X_cell 31 = .ok (.iload_n 1, 1) := by decide +kernel
theorem d_X_cell_32 : decode b_X_cell 32 = .ok (.invokevirtual 256, 3) := by decide +kernel
theorem d_X_cell_35 : decode b_X_cell 35 = .ok (.iload_n 2, 1) := by decide +kernel
theorem d_X_cell_36 : decode b_X_cell 36 = .ok (.iload_n 3, 1) := by decide +kernel
theorem d_X_cell_37 : decode b_X_cell 37 = .ok (.invokevirtual 274, 3) := by decide +kernel
theorem d_X_cell_40 : decode b_X_cell 40 = .ok (.iconst 1, 1) := by decide +kernel
theorem d_X_cell_41 : decode b_X_cell 41 = .ok (.ireturn, 1) := by decide +kernel
abbrev b_X_copy : ByteArray := prog_1_method_34_code
def y_X_copy : MethodName := ⟨"RoundAndRound", "copy", "(IIIII)I"⟩
theorem d_X_copy_0 : decode b_X_copy 0 = .ok (.iload_n 1, 1) := by decide +kernel
theorem d_X_copy_1 : decode b_X_copy 1 = .ok (.invokestatic 267, 3) := by decide +kernel
theorem d_X_copy_4 : decode b_X_copy 4 = .ok (.ifCond .eq 10, 3) := by decide +kernel
theorem d_X_copy_7 : decode b_X_copy 7 = .ok (.iload_n 3, 1) := by decide +kernel
theorem d_X_copy_8 : decode b_X_copy 8 = .ok (.invokestatic 267, 3) := by decide +kernel
theorem d_X_copy_11 : decode b_X_copy 11 = .ok (.ifCond .ne 6, 3) := by decide +kernel
theorem d_X_copy_14 : decode b_X_copy 14 = .ok (.bipush (-2), 2) := by decide +kernel
theorem d_X_copy_16 : decode b_X_copy 16 = .ok (.ireturn, 1) := by decide +kernel
theorem d_X_copy_17 : decode b_X_copy 17 = .ok (.aload_n 0, 1) := by decide +kernel
theorem d_X_copy_18 : decode b_X_copy 18 = .ok (.iload_n 1, 1) := by decide +kernel
theorem d_X_copy_19 : decode b_X_copy 19 = .ok (.invokevirtual 256, 3) := by decide +kernel
theorem d_X_copy_22 : decode b_X_copy 22 = .ok (.astore 6, 2) := by decide +kernel
theorem d_X_copy_24 : decode b_X_copy 24 = .ok (.aload_n 0, 1) := by decide +kernel
theorem d_X_copy_25 : decode b_X_copy 25 = .ok (.iload_n 3, 1) := by decide +kernel
theorem d_X_copy_26 : decode b_X_copy 26 = .ok (.invokevirtual 256, 3) := by decide +kernel
theorem d_X_copy_29 : decode b_X_copy 29 = .ok (.astore 7, 2) := by decide +kernel
theorem d_X_copy_31 : decode b_X_copy 31 = .ok (.aload 6, 2) := by decide +kernel
theorem d_X_copy_33 : decode b_X_copy 33 = .ok (.invokevirtual 298, 3) := by decide +kernel
theorem d_X_copy_36 : decode b_X_copy 36 = .ok (.ifCond .ne 11, 3) := by decide +kernel
theorem d_X_copy_39 : decode b_X_copy 39 = .ok (.aload 7, 2) := by decide +kernel
theorem d_X_copy_41 : decode b_X_copy 41 = .ok (.invokevirtual 298, 3) := by decide +kernel
theorem d_X_copy_44 : decode b_X_copy 44 = .ok (.ifCond .eq 6, 3) := by decide +kernel
theorem d_X_copy_47 : decode b_X_copy 47 = .ok (.bipush (-11), 2) := by decide +kernel
theorem d_X_copy_49 : decode b_X_copy 49 = .ok (.ireturn, 1) := by decide +kernel
theorem d_X_copy_50 : decode b_X_copy 50 = .ok (.aload 6, 2) := by decide +kernel
theorem d_X_copy_52 : decode b_X_copy 52 = .ok (.getfield 301, 3) := by decide +kernel
theorem d_X_copy_55 : decode b_X_copy 55 = .ok (.aload 7, 2) := by decide +kernel
theorem d_X_copy_57 : decode b_X_copy 57 = .ok (.getfield 301, 3) := by decide +kernel
theorem d_X_copy_60 : decode b_X_copy 60 = .ok (.if_icmp .eq 6, 3) := by decide +kernel
theorem d_X_copy_63 : decode b_X_copy 63 = .ok (.bipush (-13), 2) := by decide +kernel
theorem d_X_copy_65 : decode b_X_copy 65 = .ok (.ireturn, 1) := by decide +kernel
theorem d_X_copy_66 : decode b_X_copy 66 = .ok (.aload 6, 2) := by decide +kernel
theorem d_X_copy_68 : decode b_X_copy 68 = .ok (.iload_n 2, 1) := by decide +kernel
theorem d_X_copy_69 : decode b_X_copy 69 = .ok (.iload 5, 2) := by decide +kernel
theorem d_X_copy_71 : decode b_X_copy 71 = .ok (.invokevirtual 304, 3) := by decide +kernel
theorem d_X_copy_74 : decode b_X_copy 74 = .ok (.ifCond .eq 15, 3) := by decide +kernel
theorem d_X_copy_77 : decode b_X_copy 77 = .ok (.aload 7, 2) := by decide +kernel
theorem d_X_copy_79 : decode b_X_copy 79 = .ok (.iload 4, 2) := by decide +kernel
theorem d_X_copy_81 : decode b_X_copy 81 = .ok (.iload 5, 2) := by decide +kernel
theorem d_X_copy_83 : decode b_X_copy 83 = .ok (.invokevirtual 304, 3) := by decide +kernel
theorem d_X_copy_86 : decode b_X_copy 86 = .ok (.ifCond .ne 6, 3) := by decide +kernel
theorem d_X_copy_89 : decode b_X_copy 89 = .ok (.bipush (-12), 2) := by decide +kernel
theorem d_X_copy_91 : decode b_X_copy 91 = .ok (.ireturn, 1) := by decide +kernel
theorem d_X_copy_92 : decode b_X_copy 92 = .ok (.aload 6, 2) := by decide +kernel
theorem d_X_copy_94 : decode b_X_copy 94 = .ok (.getfield 307, 3) := by decide +kernel
theorem d_X_copy_97 : decode b_X_copy 97 = .ok (.iload_n 2, 1) := by decide +kernel
theorem d_X_copy_98 : decode b_X_copy 98 = .ok (.aload 7, 2) := by decide +kernel
theorem d_X_copy_100 : decode b_X_copy 100 = .ok (.getfield 307, 3) := by decide +kernel
theorem d_X_copy_103 : decode b_X_copy 103 = .ok (.iload 4, 2) := by decide +kernel
theorem d_X_copy_105 : decode b_X_copy 105 = .ok (.iload 5, 2) := by decide +kernel
theorem d_X_copy_107 : decode b_X_copy 107 = .ok (.invokestatic 310, 3) := by decide +kernel
theorem d_X_copy_110 : decode b_X_copy 110 = .ok (.iload 5, 2) := by decide +kernel
theorem d_X_copy_112 : decode b_X_copy 112 = .ok (.ireturn, 1) := by decide +kernel
abbrev b_X_headsBy : ByteArray := prog_1_method_35_code
def y_X_headsBy : MethodName := ⟨"RoundAndRound", "headsBy", "(IIII)I"⟩
theorem d_X_headsBy_0 : decode b_X_headsBy 0 = .ok (.iload_n 1, 1) := by decide +kernel
theorem d_X_headsBy_1 : decode b_X_headsBy 1 = .ok (.invokestatic 267, 3) := by decide +kernel
theorem d_X_headsBy_4 : decode b_X_headsBy 4 = .ok (.ifCond .eq 22, 3) := by decide +kernel
theorem d_X_headsBy_7 : decode b_X_headsBy 7 = .ok (.iload_n 2, 1) := by decide +kernel
theorem d_X_headsBy_8 : decode b_X_headsBy 8 = .ok (.iconst 0, 1) := by decide +kernel
theorem d_X_headsBy_9 : decode b_X_headsBy 9 = .ok (.iconst 2, 1) := by decide +kernel
theorem d_X_headsBy_10 : decode b_X_headsBy 10 = .ok (.invokestatic 105, 3) := by decide +kernel
theorem d_X_headsBy_13 : decode b_X_headsBy 13 = .ok (.ifCond .eq 13, 3) := by decide +kernel
theorem d_X_headsBy_16 : decode b_X_headsBy 16 = .ok (.iload 4, 2) := by decide +kernel
theorem d_X_headsBy_18 : decode b_X_headsBy 18 = .ok (.iconst 0, 1) := by decide +kernel
theorem d_X_headsBy_19 : decode b_X_headsBy 19 = .ok (.iconst 5, 1) := by decide +kernel
theorem d_X_headsBy_20 : decode b_X_headsBy 20 = .ok (.invokestatic 105, 3) := by decide +kernel
theorem d_X_headsBy_23 : decode b_X_headsBy 23 = .ok (.ifCond .ne 6, 3) := by decide +kernel
theorem d_X_headsBy_26 : decode b_X_headsBy 26 = .ok (.bipush (-2), 2) := by decide +kernel
theorem d_X_headsBy_28 : decode b_X_headsBy 28 = .ok (.ireturn, 1) := by decide +kernel
theorem d_X_headsBy_29 : decode b_X_headsBy 29 = .ok (.aload_n 0, 1) := by decide +kernel
theorem d_X_headsBy_30 : decode b_X_headsBy 30 = .ok (.iload_n 1, 1) := by decide +kernel
theorem d_X_headsBy_31 : decode b_X_headsBy 31 = .ok (.invokevirtual 256, 3) := by decide +kernel
theorem d_X_headsBy_34 : decode b_X_headsBy 34 = .ok (.astore 5, 2) := by decide +kernel
theorem d_X_headsBy_36 : decode b_X_headsBy 36 = .ok (.aload 5, 2) := by decide +kernel
theorem d_X_headsBy_38 : decode b_X_headsBy 38 = .ok (.invokevirtual 298, 3) := by decide +kernel
theorem d_X_headsBy_41 : decode b_X_headsBy 41 = .ok (.ifCond .eq 6, 3) := by decide +kernel
theorem d_X_headsBy_44 : decode b_X_headsBy 44 = .ok (.bipush (-11), 2) := by decide +kernel
theorem d_X_headsBy_46 : decode b_X_headsBy 46 = .ok (.ireturn, 1) := by decide +kernel
theorem d_X_headsBy_47 : decode b_X_headsBy 47 = .ok (.aload 5, 2) := by decide +kernel
theorem d_X_headsBy_49 : decode b_X_headsBy 49 = .ok (.getfield 301, 3) := by decide +kernel
theorem d_X_headsBy_52 : decode b_X_headsBy 52 = .ok (.iload_n 2, 1) := by decide +kernel
theorem d_X_headsBy_53 : decode b_X_headsBy 53 = .ok (.if_icmp .eq 6, 3) := by decide +kernel
theorem d_X_headsBy_56 : decode b_X_headsBy 56 = .ok (.bipush (-13), 2) := by decide +kernel
theorem d_X_headsBy_58 : decode b_X_headsBy 58 = .ok (.ireturn, 1) := by decide +kernel
theorem d_X_headsBy_59 : decode b_X_headsBy 59 = .ok (.iconst 0, 1) := by decide +kernel
theorem d_X_headsBy_60 : decode b_X_headsBy 60 = .ok (.istore 6, 2) := by decide +kernel
theorem d_X_headsBy_62 : decode b_X_headsBy 62 = .ok (.iconst 0, 1) := by decide +kernel
theorem d_X_headsBy_63 : decode b_X_headsBy 63 = .ok (.istore 7, 2) := by decide +kernel
theorem d_X_headsBy_65 : decode b_X_headsBy 65 = .ok (.iload 7, 2) := by decide +kernel
theorem d_X_headsBy_67 : decode b_X_headsBy 67 = .ok (.iload 4, 2) := by decide +kernel
theorem d_X_headsBy_69 : decode b_X_headsBy 69 = .ok (.if_icmp .ge 61, 3) := by decide +kernel
theorem d_X_headsBy_72 : decode b_X_headsBy 72 = .ok (.aload 5, 2) := by decide +kernel
theorem d_X_headsBy_74 : decode b_X_headsBy 74 = .ok (.iload_n 3, 1) := by decide +kernel
theorem d_X_headsBy_75 : decode b_X_headsBy 75 = .ok (.iconst 2, 1) := by decide +kernel
theorem d_X_headsBy_76 : decode b_X_headsBy 76 = .ok (.iload 7, 2) := by decide +kernel
theorem d_X_headsBy_78 : decode b_X_headsBy 78 = .ok (.imul, 1) := by decide +kernel
theorem d_X_headsBy_79 : decode b_X_headsBy 79 = .ok (.iconst 2, 1) := by decide +kernel
theorem d_X_headsBy_80 : decode b_X_headsBy 80 = .ok (.iadd, 1) := by decide +kernel
theorem d_X_headsBy_81 : decode b_X_headsBy 81 = .ok (.invokevirtual 304, 3) := by decide +kernel
theorem d_X_headsBy_84 : decode b_X_headsBy 84 = .ok (.ifCond .ne 6, 3) := by decide +kernel
theorem d_X_headsBy_87 : decode b_X_headsBy 87 = .ok (.bipush (-12), 2) := by decide +kernel
theorem d_X_headsBy_89 : decode b_X_headsBy 89 = .ok (.ireturn, 1) := by decide +kernel
theorem d_X_headsBy_90 : decode b_X_headsBy 90 = .ok (.aload_n 0, 1) := by decide +kernel
theorem d_X_headsBy_91 : decode b_X_headsBy 91 = .ok (.aload 5, 2) := by decide +kernel
theorem d_X_headsBy_93 : decode b_X_headsBy 93 = .ok (.iload_n 3, 1) := by decide +kernel
theorem d_X_headsBy_94 : decode b_X_headsBy 94 = .ok (.iconst 2, 1) := by decide +kernel
theorem d_X_headsBy_95 : decode b_X_headsBy 95 = .ok (.iload 7, 2) := by decide +kernel
theorem d_X_headsBy_97 : decode b_X_headsBy 97 = .ok (.imul, 1) := by decide +kernel
theorem d_X_headsBy_98 : decode b_X_headsBy 98 = .ok (.iadd, 1) := by decide +kernel
theorem d_X_headsBy_99 : decode b_X_headsBy 99 = .ok (.invokevirtual 316, 3) := by decide +kernel
theorem d_X_headsBy_102 : decode b_X_headsBy 102 = .ok (.aload 5, 2) := by decide +kernel
theorem d_X_headsBy_104 : decode b_X_headsBy 104 = .ok (.iload_n 3, 1) := by decide +kernel
theorem d_X_headsBy_105 : decode b_X_headsBy 105 = .ok (.iconst 2, 1) := by decide +kernel
theorem d_X_headsBy_106 : decode b_X_headsBy 106 = .ok (.iload 7, 2) := by decide +kernel
theorem d_X_headsBy_108 : decode b_X_headsBy 108 = .ok (.imul, 1) := by decide +kernel
theorem d_X_headsBy_109 : decode b_X_headsBy 109 = .ok (.iadd, 1) := by decide +kernel
theorem d_X_headsBy_110 : decode b_X_headsBy 110 = .ok (.iconst 1, 1) := by decide +kernel
theorem d_X_headsBy_111 : decode b_X_headsBy 111 = .ok (.iadd, 1) := by decide +kernel
theorem d_X_headsBy_112 : decode b_X_headsBy 112 = .ok (.invokevirtual 316, 3) := by decide +kernel
theorem d_X_headsBy_115 : decode b_X_headsBy 115 = .ok (.invokevirtual 319, 3) := by decide +kernel
theorem d_X_headsBy_118 : decode b_X_headsBy 118 = .ok (.ifCond .lt 6, 3) := by decide +kernel
theorem d_X_headsBy_121 : decode b_X_headsBy 121 = .ok (.iinc 6 (1), 3) := by decide +kernel
theorem d_X_headsBy_124 : decode b_X_headsBy 124 = .ok (.iinc 7 (1), 3) := by decide +kernel
theorem d_X_headsBy_127 : decode b_X_headsBy 127 = .ok (.goto (-62), 3) := by decide +kernel
theorem d_X_headsBy_130 : decode b_X_headsBy 130 = .ok (.iload 6, 2) := by decide +kernel
theorem d_X_headsBy_132 : decode b_X_headsBy 132 = .ok (.ireturn, 1) := by decide +kernel
abbrev b_X_taken : ByteArray := prog_1_method_36_code
def y_X_taken : MethodName := ⟨"RoundAndRound", "taken", "(II)I"⟩
theorem d_X_taken_0 : decode b_X_taken 0 = .ok (.iload_n 2, 1) := by decide +kernel
theorem d_X_taken_1 : decode b_X_taken 1 = .ok (.iconst 0, 1) := by decide +kernel
theorem d_X_taken_2 : decode b_X_taken 2 = .ok (.bipush (6), 2) := by decide +kernel
theorem d_X_taken_4 : decode b_X_taken 4 = .ok (.invokestatic 105, 3) := by decide +kernel
theorem d_X_taken_7 : decode b_X_taken 7 = .ok (.ifCond .ne 6, 3) := by decide +kernel
theorem d_X_taken_10 : decode b_X_taken 10 = .ok (.bipush (-2), 2) := by decide +kernel
theorem d_X_taken_12 : decode b_X_taken 12 = .ok (.ireturn, 1) := by decide +kernel
theorem d_X_taken_13 : decode b_X_taken 13 = .ok (.iload_n 1, 1) := by decide +kernel
theorem d_X_taken_14 : decode b_X_taken 14 = .ok (.iconst 0, 1) := by decide +kernel
theorem d_X_taken_15 : decode b_X_taken 15 = .ok (.bipush (9), 2) := by decide +kernel
theorem d_X_taken_17 : decode b_X_taken 17 = .ok (.invokestatic 105, 3) := by decide +kernel
theorem d_X_taken_20 : decode b_X_taken 20 = .ok (.ifCond .ne 6, 3) := by decide +kernel
theorem d_X_taken_23 : decode b_X_taken 23 = .ok (.bipush (-12), 2) := by decide +kernel
theorem d_X_taken_25 : decode b_X_taken 25 = .ok (.ireturn, 1) := by decide +kernel
theorem d_X_taken_26 : decode b_X_taken 26 = .ok (.iload_n 1, 1) := by decide +kernel
theorem d_X_taken_27 : decode b_X_taken 27 = .ok (.iconst 5, 1) := by decide +kernel
theorem d_X_taken_28 : decode b_X_taken 28 = .ok (.if_icmp .lt 7, 3) := by decide +kernel
theorem d_X_taken_31 : decode b_X_taken 31 = .ok (.iconst 1, 1) := by decide +kernel
theorem d_X_taken_32 : decode b_X_taken 32 = .ok (.goto 4, 3) := by decide +kernel
theorem d_X_taken_35 : decode b_X_taken 35 = .ok (.iconst 0, 1) := by decide +kernel
theorem d_X_taken_36 : decode b_X_taken 36 = .ok (.istore_n 3, 1) := by decide +kernel
theorem d_X_taken_37 : decode b_X_taken 37 = .ok (.iload_n 3, 1) := by decide +kernel
theorem d_X_taken_38 : decode b_X_taken 38 = .ok (.ifCond .eq 9, 3) := by decide +kernel
theorem d_X_taken_41 : decode b_X_taken 41 = .ok (.iload_n 1, 1) := by decide +kernel
theorem d_X_taken_42 : decode b_X_taken 42 = .ok (.iconst 5, 1) := by decide +kernel
theorem d_X_taken_43 : decode b_X_taken 43 = .ok (.isub, 1) := by decide +kernel
theorem d_X_taken_44 : decode b_X_taken 44 = .ok (.goto 4, 3) := by decide +kernel
theorem d_X_taken_47 : decode b_X_taken 47 = .ok (.iload_n 1, 1) := by decide +kernel
theorem d_X_taken_48 : decode b_X_taken 48 = .ok (.istore 4, 2) := by decide +kernel
theorem d_X_taken_50 : decode b_X_taken 50 = .ok (.aload_n 0, 1) := by decide +kernel
theorem d_X_taken_51 : decode b_X_taken 51 = .ok (.iload 4, 2) := by decide +kernel
theorem d_X_taken_53 : decode b_X_taken 53 = .ok (.invokevirtual 113, 3) := by decide +kernel
theorem d_X_taken_56 : decode b_X_taken 56 = .ok (.ifCond .ne 6, 3) := by decide +kernel
theorem d_X_taken_59 : decode b_X_taken 59 = .ok (.bipush (-11), 2) := by decide +kernel
theorem d_X_taken_61 : decode b_X_taken 61 = .ok (.ireturn, 1) := by decide +kernel
theorem d_X_taken_62 : decode b_X_taken 62 = .ok (.iload_n 3, 1) := by decide +kernel
theorem d_X_taken_63 : decode b_X_taken 63 = .ok (.iload_n 2, 1) := by decide +kernel
theorem d_X_taken_64 : decode b_X_taken 64 = .ok (.bipush (6), 2) := by decide +kernel
theorem d_X_taken_66 : decode b_X_taken 66 = .ok (.if_icmp .ne 7, 3) := by decide +kernel
theorem d_X_taken_69 : decode b_X_taken 69 = .ok (.iconst 1, 1) := by decide +kernel
theorem d_X_taken_70 : decode b_X_taken 70 = .ok (.goto 4, 3) := by decide +kernel
theorem d_X_taken_73 : decode b_X_taken 73 = .ok (.iconst 0, 1) := by decide +kernel
theorem d_X_taken_74 : decode b_X_taken 74 = .ok (.if_icmp .eq 6, 3) := by decide +kernel
theorem d_X_taken_77 : decode b_X_taken 77 = .ok (.bipush (-13), 2) := by decide +kernel
theorem d_X_taken_79 : decode b_X_taken 79 = .ok (.ireturn, 1) := by decide +kernel
theorem d_X_taken_80 : decode b_X_taken 80 = .ok (.iload_n 3, 1) := by decide +kernel
theorem d_X_taken_81 : decode b_X_taken 81 = .ok (.ifCond .eq 21, 3) := by decide +kernel
theorem d_X_taken_84 : decode b_X_taken 84 = .ok (.aload_n 0, 1) := by decide +kernel
theorem d_X_taken_85 : decode b_X_taken 85 = .ok (.iload 4, 2) := by decide +kernel
theorem d_X_taken_87 : decode b_X_taken 87 = .ok (.invokevirtual 124, 3) := by decide +kernel
theorem d_X_taken_90 : decode b_X_taken 90 = .ok (.getfield 162, 3) := by decide +kernel
theorem d_X_taken_93 : decode b_X_taken 93 = .ok (.ifCond .eq 7, 3) := by decide +kernel
theorem d_X_taken_96 : decode b_X_taken 96 = .ok (.iconst 1, 1) := by decide +kernel
theorem d_X_taken_97 : decode b_X_taken 97 = .ok (.goto 4, 3) := by decide +kernel
theorem d_X_taken_100 : decode b_X_taken 100 = .ok (.iconst 0, 1) := by decide +kernel
theorem d_X_taken_101 : decode b_X_taken 101 = .ok (.ireturn, 1) := by decide +kernel
theorem d_X_taken_102 : decode b_X_taken 102 = .ok (.aload_n 0, 1) := by decide +kernel
theorem d_X_taken_103 : decode b_X_taken 103 = .ok (.iload 4, 2) := by decide +kernel
theorem d_X_taken_105 : decode b_X_taken 105 = .ok (.invokevirtual 124, 3) := by decide +kernel
theorem d_X_taken_108 : decode b_X_taken 108 = .ok (.getfield 150, 3) := by decide +kernel
theorem d_X_taken_111 : decode b_X_taken 111 = .ok (.iload_n 2, 1) := by decide +kernel
theorem d_X_taken_112 : decode b_X_taken 112 = .ok (.invokestatic 322, 3) := by decide +kernel
theorem d_X_taken_115 : decode b_X_taken 115 = .ok (.ifCond .eq 8, 3) := by decide +kernel
theorem d_X_taken_118 : decode b_X_taken 118 = .ok (.iload 4, 2) := by decide +kernel
theorem d_X_taken_120 : decode b_X_taken 120 = .ok (.goto 5, 3) := by decide +kernel
theorem d_X_taken_123 : decode b_X_taken 123 = .ok (.bipush (-13), 2) := by decide +kernel
theorem d_X_taken_125 : decode b_X_taken 125 = .ok (.ireturn, 1) := by decide +kernel
abbrev b_X_think : ByteArray := prog_1_method_37_code
def y_X_think : MethodName := ⟨"RoundAndRound", "think", "(LRoundAndRound$Head;)V"⟩
theorem d_X_think_0 : decode b_X_think 0 = .ok (.aload_n 0, 1) := by decide +kernel
theorem d_X_think_1 : decode b_X_think 1 = .ok (.getfield 19, 3) := by decide +kernel
theorem d_X_think_4 : decode b_X_think 4 = .ok (.aload_n 1, 1) := by decide +kernel
theorem d_X_think_5 : decode b_X_think 5 = .ok (.invokevirtual 235, 3) := by decide +kernel
theorem d_X_think_8 : decode b_X_think 8 = .ok (.aload_n 0, 1) := by decide +kernel
theorem d_X_think_9 : decode b_X_think 9 = .ok (.getfield 19, 3) := by decide +kernel
theorem d_X_think_12 : decode b_X_think 12 = .ok (.invokevirtual 195, 3) := by decide +kernel
theorem d_X_think_15 : decode b_X_think 15 = .ok (.return_, 1) := by decide +kernel
abbrev b_X_thinkTurned : ByteArray := prog_1_method_38_code
def y_X_thinkTurned : MethodName := ⟨"RoundAndRound", "thinkTurned", "(LRoundAndRound$Head;LRoundAndRound$Text;II)V"⟩
theorem d_X_thinkTurned_0 : decode b_X_thinkTurned 0 = .ok (.aload_n 0, 1) := by decide +kernel
theorem d_X_thinkTurned_1 : decode b_X_thinkTurned 1 = .ok (.aload_n 1, 1) := by decide +kernel
theorem d_X_thinkTurned_2 : decode b_X_thinkTurned 2 = .ok (.invokevirtual 205, 3) := by decide +kernel
theorem d_X_thinkTurned_5 : decode b_X_thinkTurned 5 = .ok (.aload_n 0, 1) := by decide +kernel
theorem d_X_thinkTurned_6 : decode b_X_thinkTurned 6 = .ok (.getfield 19, 3) := by decide +kernel
theorem d_X_thinkTurned_9 : decode b_X_thinkTurned 9 = .ok (.aload_n 2, 1) := by decide +kernel
theorem d_X_thinkTurned_10 : decode b_X_thinkTurned 10 = .ok (.iload_n 3, 1) := by decide +kernel
theorem d_X_thinkTurned_11 : decode b_X_thinkTurned 11 = .ok (.iload 4, 2) := by decide +kernel
theorem d_X_thinkTurned_13 : decode b_X_thinkTurned 13 = .ok (.invokevirtual 175, 3) := by decide +kernel
theorem d_X_thinkTurned_16 : decode b_X_thinkTurned 16 = .ok (.return_, 1) := by decide +kernel
abbrev b_X_thinkDrawn : ByteArray := prog_1_method_39_code
def y_X_thinkDrawn : MethodName := ⟨"RoundAndRound", "thinkDrawn", "(LRoundAndRound$Head;III)V"⟩
theorem d_X_thinkDrawn_0 : decode b_X_thinkDrawn 0 = .ok (.aload_n 0, 1) := by decide +kernel
theorem d_X_thinkDrawn_1 : decode b_X_thinkDrawn 1 = .ok (.aload_n 1, 1) := by decide +kernel
theorem d_X_thinkDrawn_2 : decode b_X_thinkDrawn 2 = .ok (.invokevirtual 205, 3) := by decide +kernel
theorem d_X_thinkDrawn_5 : decode b_X_thinkDrawn 5 = .ok (.iload_n 2, 1) := by decide +kernel
theorem d_X_thinkDrawn_6 : decode b_X_thinkDrawn 6 = .ok (.iconst 1, 1) := by decide +kernel
theorem d_X_thinkDrawn_7 : decode b_X_thinkDrawn 7 = .ok (.iadd, 1) := by decide +kernel
theorem d_X_thinkDrawn_8 : decode b_X_thinkDrawn 8 = .ok (.i2l, 1) := by decide +kernel
theorem d_X_thinkDrawn_9 : decode b_X_thinkDrawn 9 = .ok (.lstore 5, 2) := by decide +kernel
theorem d_X_thinkDrawn_11 : decode b_X_thinkDrawn 11 = .ok (.iconst 0, 1) := by decide +kernel
theorem d_X_thinkDrawn_12 : decode b_X_thinkDrawn 12 = .ok (.istore 7, 2) := by decide +kernel
theorem d_X_thinkDrawn_14 : decode b_X_thinkDrawn 14 = .ok (.iload 7, 2) := by decide +kernel
theorem d_X_thinkDrawn_16 : decode b_X_thinkDrawn 16 = .ok (.iload_n 3, 1) := by decide +kernel
theorem d_X_thinkDrawn_17 : decode b_X_thinkDrawn 17 = .ok (.if_icmp .ge 58, 3) := by decide +kernel
theorem d_X_thinkDrawn_20 : decode b_X_thinkDrawn 20 = .ok (.lload 5, 2) := by decide +kernel
theorem d_X_thinkDrawn_22 : decode b_X_thinkDrawn 22 = .ok (.ldc2_w 327, 3) := by decide +kernel
theorem d_X_thinkDrawn_25 : decode b_X_thinkDrawn 25 = .ok (.lmul, 1) := by decide +kernel
theorem d_X_thinkDrawn_26 : decode b_X_thinkDrawn 26 = .ok (.ldc2_w 329, 3) := by decide +kernel
theorem d_X_thinkDrawn_29 : decode b_X_thinkDrawn 29 = .ok (.lrem, 1) := by decide +kernel
theorem d_X_thinkDrawn_30 : decode b_X_thinkDrawn 30 = .ok (.lstore 5, 2) := by decide +kernel
theorem d_X_thinkDrawn_32 : decode b_X_thinkDrawn 32 = .ok (.aload_n 0, 1) := by decide +kernel
theorem d_X_thinkDrawn_33 : decode b_X_thinkDrawn 33 = .ok (.getfield 19, 3) := by decide +kernel
theorem d_X_thinkDrawn_36 : decode b_X_thinkDrawn 36 = .ok (.aload_n 0, 1) := by decide +kernel
theorem d_X_thinkDrawn_37 : decode b_X_thinkDrawn 37 = .ok (.invokevirtual 120, 3) := by decide +kernel
theorem d_X_thinkDrawn_40 : decode b_X_thinkDrawn 40 = .ok (.iload 4, 2) := by decide +kernel
theorem d_X_thinkDrawn_42 : decode b_X_thinkDrawn 42 = .ok (.bipush (10), 2) := by decide +kernel
theorem d_X_thinkDrawn_44 : decode b_X_thinkDrawn 44 = .ok (.irem, 1) := by decide +kernel
theorem d_X_thinkDrawn_45 : decode b_X_thinkDrawn 45 = .ok (.lload 5, 2) := by decide +kernel
theorem d_X_thinkDrawn_47 : decode b_X_thinkDrawn 47 = .ok (.ldc2_w 331, 3) := by decide +kernel
theorem d_X_thinkDrawn_50 : decode b_X_thinkDrawn 50 = .ok (.lrem, 1) := by decide +kernel
theorem d_X_thinkDrawn_51 : decode b_X_thinkDrawn 51 = .ok (.iload 4, 2) := by decide +kernel
theorem d_X_thinkDrawn_53 : decode b_X_thinkDrawn 53 = .ok (.bipush (10), 2) := by decide +kernel
theorem d_X_thinkDrawn_55 : decode b_X_thinkDrawn 55 = .ok (.idiv, 1) := by decide +kernel
theorem d_X_thinkDrawn_56 : decode b_X_thinkDrawn 56 = .ok (.i2l, 1) := by decide +kernel
theorem d_X_thinkDrawn_57 : decode b_X_thinkDrawn 57 = .ok (.lcmp, 1) := by decide +kernel
theorem d_X_thinkDrawn_58 : decode b_X_thinkDrawn 58 = .ok (.ifCond .ge 7, 3) := by decide +kernel
theorem d_X_thinkDrawn_61 : decode b_X_thinkDrawn 61 = .ok (.iconst 0, 1) := by decide +kernel
theorem d_X_thinkDrawn_62 : decode b_X_thinkDrawn 62 = .ok (.goto 4, 3) := by decide +kernel
theorem d_X_thinkDrawn_65 : decode b_X_thinkDrawn 65 = .ok (.iconst 1, 1) := by decide +kernel
theorem d_X_thinkDrawn_66 : decode b_X_thinkDrawn 66 = .ok (.invokevirtual 271, 3) := by decide +kernel
theorem d_X_thinkDrawn_69 : decode b_X_thinkDrawn 69 = .ok (.iinc 7 (1), 3) := by decide +kernel
theorem d_X_thinkDrawn_72 : decode b_X_thinkDrawn 72 = .ok (.goto (-58), 3) := by decide +kernel
theorem d_X_thinkDrawn_75 : decode b_X_thinkDrawn 75 = .ok (.return_, 1) := by decide +kernel
abbrev b_X_fillTurnedSenses : ByteArray := prog_1_method_40_code
def y_X_fillTurnedSenses : MethodName := ⟨"RoundAndRound", "fillTurnedSenses", "(LRoundAndRound$Head;I)V"⟩
theorem d_X_fillTurnedSenses_0 : decode b_X_fillTurnedSenses 0 = .ok (.aload_n 0, 1) := by decide +kernel
theorem d_X_fillTurnedSenses_1 : decode b_X_fillTurnedSenses 1 = .ok (.aload_n 1, 1) := by decide +kernel
theorem d_X_fillTurnedSenses_2 : decode b_X_fillTurnedSenses 2 = .ok (.invokevirtual 205, 3) := by decide +kernel
theorem d_X_fillTurnedSenses_5 : decode b_X_fillTurnedSenses 5 = .ok (.aload_n 0, 1) := by decide +kernel
theorem d_X_fillTurnedSenses_6 : decode b_X_fillTurnedSenses 6 = .ok (.getfield 23, 3) := by decide +kernel
theorem d_X_fillTurnedSenses_9 : decode b_X_fillTurnedSenses 9 = .ok (.aload_n 0, 1) := by decide +kernel
theorem d_X_fillTurnedSenses_10 : decode b_X_fillTurnedSenses 10 = .ok (.getfield 19, 3) := by decide +kernel
theorem d_X_fillTurnedSenses_13 : decode b_X_fillTurnedSenses 13 = .ok (.invokevirtual 235, 3) := by decide +kernel
theorem d_X_fillTurnedSenses_16 : decode b_X_fillTurnedSenses 16 = .ok (.iconst 0, 1) := by decide +kernel
theorem d_X_fillTurnedSenses_17 : decode b_X_fillTurnedSenses 17 = .ok (.istore_n 3, 1) := by decide +kernel
theorem d_X_fillTurnedSenses_18 : decode b_X_fillTurnedSenses 18 = .ok (.iload_n 3, 1) := by decide +kernel
theorem d_X_fillTurnedSenses_19 : decode b_X_fillTurnedSenses 19 = .ok (.aload_n 0, 1) := by decide +kernel
theorem d_X_fillTurnedSenses_20 : decode b_X_fillTurnedSenses 20 = .ok (.getfield 26, 3) := by decide +kernel
theorem d_X_fillTurnedSenses_23 : decode b_X_fillTurnedSenses 23 = .ok (.arraylength, 1) := by decide +kernel
theorem d_X_fillTurnedSenses_24 : decode b_X_fillTurnedSenses 24 = .ok (.if_icmp .ge 79, 3) := by decide +kernel
theorem d_X_fillTurnedSenses_27 : decode b_X_fillTurnedSenses 27 = .ok (.iload_n 3, 1) := by decide +kernel
theorem d_X_fillTurnedSenses_28 : decode b_X_fillTurnedSenses 28 = .ok (.iconst 2, 1) := by decide +kernel
theorem d_X_fillTurnedSenses_29 : decode b_X_fillTurnedSenses 29 = .ok (.irem, 1) := by decide +kernel
theorem d_X_fillTurnedSenses_30 : decode b_X_fillTurnedSenses 30 = .ok (.iconst 1, 1) := by decide +kernel
theorem d_X_fillTurnedSenses_31 : decode b_X_fillTurnedSenses 31 = .ok (.if_icmp .ne 19, 3) := by decide +kernel
theorem d_X_fillTurnedSenses_34 : decode b_X_fillTurnedSenses 34 = .ok (.aload_n 0, 1) := by decide +kernel
theorem d_X_fillTurnedSenses_35 : decode b_X_fillTurnedSenses 35 = .ok (.getfield 19, 3) := by decide +kernel
theorem d_X_fillTurnedSenses_38 : decode b_X_fillTurnedSenses 38 = .ok (.aload_n 0, 1) := by decide +kernel
theorem d_X_fillTurnedSenses_39 : decode b_X_fillTurnedSenses 39 = .ok (.invokevirtual 120, 3) := by decide +kernel
theorem d_X_fillTurnedSenses_42 : decode b_X_fillTurnedSenses 42 = .ok (.iload_n 2, 1) := by decide +kernel
theorem d_X_fillTurnedSenses_43 : decode b_X_fillTurnedSenses 43 = .ok (.iconst 1, 1) := by decide +kernel
theorem d_X_fillTurnedSenses_44 : decode b_X_fillTurnedSenses 44 = .ok (.invokevirtual 209, 3) := by decide +kernel
theorem d_X_fillTurnedSenses_47 : decode b_X_fillTurnedSenses 47 = .ok (.goto 20, 3) := by decide +kernel
theorem d_X_fillTurnedSenses_50 : decode b_X_fillTurnedSenses 50 = .ok (.iload_n 3, 1) := by decide +kernel
theorem d_X_fillTurnedSenses_51 : decode b_X_fillTurnedSenses 51 = .ok (.ifCond .le 16, 3) := by decide +kernel
theorem d_X_fillTurnedSenses_54 : decode b_X_fillTurnedSenses 54 = .ok (.aload_n 0, 1) := by decide +kernel
theorem d_X_fillTurnedSenses_55 : decode b_X_fillTurnedSenses 55 = .ok (.getfield 23, 3) := by decide +kernel
theorem d_X_fillTurnedSenses_58 : decode b_X_fillTurnedSenses 58 = .ok (.aload_n 0, 1) := by decide +kernel
theorem d_X_fillTurnedSenses_59 : decode b_X_fillTurnedSenses 59 = .ok (.invokevirtual 120, 3) := by decide +kernel
theorem d_X_fillTurnedSenses_62 : decode b_X_fillTurnedSenses 62 = .ok (.iload_n 2, 1) := by decide +kernel
theorem d_X_fillTurnedSenses_63 : decode b_X_fillTurnedSenses 63 = .ok (.iconst (-1), 1) := by decide +kernel
theorem d_X_fillTurnedSenses_64 : decode b_X_fillTurnedSenses 64 = .ok (.invokevirtual 209, 3) := by decide +kernel
theorem d_X_fillTurnedSenses_67 : decode b_X_fillTurnedSenses 67 = .ok (.aload_n 0, 1) := by decide +kernel
theorem d_X_fillTurnedSenses_68 : decode b_X_fillTurnedSenses 68 = .ok (.getfield 26, 3) := by decide +kernel
theorem d_X_fillTurnedSenses_71 : decode b_X_fillTurnedSenses 71 = .ok (.iload_n 3, 1) := by decide +kernel
theorem d_X_fillTurnedSenses_72 : decode b_X_fillTurnedSenses 72 = .ok (.iload_n 3, 1) := by decide +kernel
theorem d_X_fillTurnedSenses_73 : decode b_X_fillTurnedSenses 73 = .ok (.iconst 2, 1) := by decide +kernel
theorem d_X_fillTurnedSenses_74 : decode b_X_fillTurnedSenses 74 = .ok (.irem, 1) := by decide +kernel
theorem d_X_fillTurnedSenses_75 : decode b_X_fillTurnedSenses 75 = .ok (.iconst 1, 1) := by decide +kernel
theorem d_X_fillTurnedSenses_76 : decode b_X_fillTurnedSenses 76 = .ok (.if_icmp .ne 13, 3) := by decide +kernel
theorem d_X_fillTurnedSenses_79 : decode b_X_fillTurnedSenses 79 = .ok (.aload_n 0, 1) := by decide +kernel
theorem d_X_fillTurnedSenses_80 : decode b_X_fillTurnedSenses 80 = .ok (.getfield 19, 3) := by decide +kernel
theorem d_X_fillTurnedSenses_83 : decode b_X_fillTurnedSenses 83 = .ok (.getfield 140, 3) := by decide +kernel
theorem d_X_fillTurnedSenses_86 : decode b_X_fillTurnedSenses 86 = .ok (.goto 10, 3) := by decide +kernel
theorem d_X_fillTurnedSenses_89 : decode b_X_fillTurnedSenses 89 = .ok (.aload_n 0, 1) := by decide +kernel
theorem d_X_fillTurnedSenses_90 : decode b_X_fillTurnedSenses 90 = .ok (.getfield 23, 3) := by decide +kernel
theorem d_X_fillTurnedSenses_93 : decode b_X_fillTurnedSenses 93 = .ok (.getfield 140, 3) := by decide +kernel
theorem d_X_fillTurnedSenses_96 : decode b_X_fillTurnedSenses 96 = .ok (.iastore, 1) := by decide +kernel
theorem d_X_fillTurnedSenses_97 : decode b_X_fillTurnedSenses 97 = .ok (.iinc 3 (1), 3) := by decide +kernel
theorem d_X_fillTurnedSenses_100 : decode b_X_fillTurnedSenses 100 = .ok (.goto (-82), 3) := by decide +kernel
theorem d_X_fillTurnedSenses_103 : decode b_X_fillTurnedSenses 103 = .ok (.return_, 1) := by decide +kernel
abbrev b_X_turnsAt : ByteArray := prog_1_method_41_code
def y_X_turnsAt : MethodName := ⟨"RoundAndRound", "turnsAt", "(I)I"⟩
theorem d_X_turnsAt_0 : decode b_X_turnsAt 0 = .ok (.iload_n 0, 1) := by decide +kernel
theorem d_X_turnsAt_1 : decode b_X_turnsAt 1 = .ok (.iconst 2, 1) := by decide +kernel
theorem d_X_turnsAt_2 : decode b_X_turnsAt 2 = .ok (.irem, 1) := by decide +kernel
theorem d_X_turnsAt_3 : decode b_X_turnsAt 3 = .ok (.iconst 1, 1) := by decide +kernel
theorem d_X_turnsAt_4 : decode b_X_turnsAt 4 = .ok (.if_icmp .ne 11, 3) := by decide +kernel
theorem d_X_turnsAt_7 : decode b_X_turnsAt 7 = .ok (.iload_n 0, 1) := by decide +kernel
theorem d_X_turnsAt_8 : decode b_X_turnsAt 8 = .ok (.iconst 1, 1) := by decide +kernel
theorem d_X_turnsAt_9 : decode b_X_turnsAt 9 = .ok (.iadd, 1) := by decide +kernel
theorem d_X_turnsAt_10 : decode b_X_turnsAt 10 = .ok (.iconst 2, 1) := by decide +kernel
theorem d_X_turnsAt_11 : decode b_X_turnsAt 11 = .ok (.idiv, 1) := by decide +kernel
theorem d_X_turnsAt_12 : decode b_X_turnsAt 12 = .ok (.goto 7, 3) := by decide +kernel
theorem d_X_turnsAt_15 : decode b_X_turnsAt 15 = .ok (.iload_n 0, 1) := by decide +kernel
theorem d_X_turnsAt_16 : decode b_X_turnsAt 16 = .ok (.iconst 2, 1) := by decide +kernel
theorem d_X_turnsAt_17 : decode b_X_turnsAt 17 = .ok (.idiv, 1) := by decide +kernel
theorem d_X_turnsAt_18 : decode b_X_turnsAt 18 = .ok (.ineg, 1) := by decide +kernel
theorem d_X_turnsAt_19 : decode b_X_turnsAt 19 = .ok (.ireturn, 1) := by decide +kernel
abbrev b_X_firstOtherwise : ByteArray := prog_1_method_42_code
def y_X_firstOtherwise : MethodName := ⟨"RoundAndRound", "firstOtherwise", "(LRoundAndRound$Sheet;LRoundAndRound$Text;I)I"⟩
theorem d_X_firstOtherwise_0 : decode b_X_firstOtherwise 0 = .ok (.iconst 0, 1) := by decide +kernel
theorem d_X_firstOtherwise_1 : decode b_X_firstOtherwise 1 = .ok (.istore 4, 2) := by decide +kernel
theorem d_X_firstOtherwise_3 : decode b_X_firstOtherwise 3 = .ok (.iload 4, 2) := by decide +kernel
theorem d_X_firstOtherwise_5 : decode b_X_firstOtherwise 5 = .ok (.aload_n 1, 1) := by decide +kernel
theorem d_X_firstOtherwise_6 : decode b_X_firstOtherwise 6 = .ok (.getfield 333, 3) := by decide +kernel
theorem d_X_firstOtherwise_9 : decode b_X_firstOtherwise 9 = .ok (.if_icmp .ge 38, 3) := by decide +kernel
theorem d_X_firstOtherwise_12 : decode b_X_firstOtherwise 12 = .ok (.aload_n 0, 1) := by decide +kernel
theorem d_X_firstOtherwise_13 : decode b_X_firstOtherwise 13 = .ok (.getfield 19, 3) := by decide +kernel
theorem d_X_firstOtherwise_16 : decode b_X_firstOtherwise 16 = .ok (.aload_n 2, 1) := by decide +kernel
theorem d_X_firstOtherwise_17 : decode b_X_firstOtherwise 17 = .ok (.iload_n 3, 1) := by decide +kernel
theorem d_X_firstOtherwise_18 : decode b_X_firstOtherwise 18 = .ok (.iconst 1, 1) := by decide +kernel
theorem d_X_firstOtherwise_19 : decode b_X_firstOtherwise 19 = .ok (.invokevirtual 271, 3) := by decide +kernel
theorem d_X_firstOtherwise_22 : decode b_X_firstOtherwise 22 = .ok (.aload_n 1, 1) := by decide +kernel
theorem d_X_firstOtherwise_23 : decode b_X_firstOtherwise 23 = .ok (.iload 4, 2) := by decide +kernel
theorem d_X_firstOtherwise_25 : decode b_X_firstOtherwise 25 = .ok (.invokevirtual 316, 3) := by decide +kernel
theorem d_X_firstOtherwise_28 : decode b_X_firstOtherwise 28 = .ok (.aload_n 0, 1) := by decide +kernel
theorem d_X_firstOtherwise_29 : decode b_X_firstOtherwise 29 = .ok (.getfield 19, 3) := by decide +kernel
theorem d_X_firstOtherwise_32 : decode b_X_firstOtherwise 32 = .ok (.getfield 159, 3) := by decide +kernel
theorem d_X_firstOtherwise_35 : decode b_X_firstOtherwise 35 = .ok (.if_icmp .eq 6, 3) := by decide +kernel
theorem d_X_firstOtherwise_38 : decode b_X_firstOtherwise 38 = .ok (.iload 4, 2) := by decide +kernel
theorem d_X_firstOtherwise_40 : decode b_X_firstOtherwise 40 = .ok (.ireturn, 1) := by decide +kernel
theorem d_X_firstOtherwise_41 : decode b_X_firstOtherwise 41 = .ok (.iinc 4 (1), 3) := by decide +kernel
theorem d_X_firstOtherwise_44 : decode b_X_firstOtherwise 44 = .ok (.goto (-41), 3) := by decide +kernel
theorem d_X_firstOtherwise_47 : decode b_X_firstOtherwise 47 = .ok (.iconst (-1), 1) := by decide +kernel
theorem d_X_firstOtherwise_48 : decode b_X_firstOtherwise 48 = .ok (.ireturn, 1) := by decide +kernel
abbrev b_X_raceSeconds : ByteArray := prog_1_method_43_code
def y_X_raceSeconds : MethodName := ⟨"RoundAndRound", "raceSeconds", "(II)I"⟩
theorem d_X_raceSeconds_0 : decode b_X_raceSeconds 0 = .ok (.iload_n 1, 1) := by decide +kernel
theorem d_X_raceSeconds_1 : decode b_X_raceSeconds 1 = .ok (.sipush (1000), 3) := by decide +kernel
theorem d_X_raceSeconds_4 : decode b_X_raceSeconds 4 = .ok (.idiv, 1) := by decide +kernel
theorem d_X_raceSeconds_5 : decode b_X_raceSeconds 5 = .ok (.iload_n 0, 1) := by decide +kernel
theorem d_X_raceSeconds_6 : decode b_X_raceSeconds 6 = .ok (.bipush (10), 2) := by decide +kernel
theorem d_X_raceSeconds_8 : decode b_X_raceSeconds 8 = .ok (.irem, 1) := by decide +kernel
theorem d_X_raceSeconds_9 : decode b_X_raceSeconds 9 = .ok (.invokestatic 238, 3) := by decide +kernel
theorem d_X_raceSeconds_12 : decode b_X_raceSeconds 12 = .ok (.ireturn, 1) := by decide +kernel
abbrev b_X_raceWait : ByteArray := prog_1_method_44_code
def y_X_raceWait : MethodName := ⟨"RoundAndRound", "raceWait", "(LRoundAndRound$Head;III)I"⟩
theorem d_X_raceWait_0 : decode b_X_raceWait 0 = .ok (.iload_n 3, 1) := by decide +kernel
theorem d_X_raceWait_1 : decode b_X_raceWait 1 = .ok (.iload 4, 2) := by decide +kernel
theorem d_X_raceWait_3 : decode b_X_raceWait 3 = .ok (.invokestatic 232, 3) := by decide +kernel
theorem d_X_raceWait_6 : decode b_X_raceWait 6 = .ok (.istore 5, 2) := by decide +kernel
theorem d_X_raceWait_8 : decode b_X_raceWait 8 = .ok (.iload 5, 2) := by decide +kernel
theorem d_X_raceWait_10 : decode b_X_raceWait 10 = .ok (.invokestatic 185, 3) := by decide +kernel
theorem d_X_raceWait_13 : decode b_X_raceWait 13 = .ok (.ifCond .ne 5, 3) := by decide +kernel
theorem d_X_raceWait_16 : decode b_X_raceWait 16 = .ok (.iconst (-1), 1) := by decide +kernel
theorem d_X_raceWait_17 : decode b_X_raceWait 17 = .ok (.ireturn, 1) := by decide +kernel
theorem d_X_raceWait_18 : decode b_X_raceWait 18 = .ok (.aload_n 0, 1) := by decide +kernel
theorem d_X_raceWait_19 : decode b_X_raceWait 19 = .ok (.getfield 23, 3) := by decide +kernel
theorem d_X_raceWait_22 : decode b_X_raceWait 22 = .ok (.aload_n 1, 1) := by decide +kernel
theorem d_X_raceWait_23 : decode b_X_raceWait 23 = .ok (.invokevirtual 235, 3) := by decide +kernel
theorem d_X_raceWait_26 : decode b_X_raceWait 26 = .ok (.aload_n 0, 1) := by decide +kernel
theorem d_X_raceWait_27 : decode b_X_raceWait 27 = .ok (.getfield 23, 3) := by decide +kernel
theorem d_X_raceWait_30 : decode b_X_raceWait 30 = .ok (.invokevirtual 195, 3) := by decide +kernel
theorem d_X_raceWait_33 : decode b_X_raceWait 33 = .ok (.aload_n 0, 1) := by decide +kernel
theorem d_X_raceWait_34 : decode b_X_raceWait 34 = .ok (.getfield 23, 3) := by decide +kernel
theorem d_X_raceWait_37 : decode b_X_raceWait 37 = .ok (.aload_n 0, 1) := by decide +kernel
theorem d_X_raceWait_38 : decode b_X_raceWait 38 = .ok (.invokevirtual 120, 3) := by decide +kernel
theorem d_X_raceWait_41 : decode b_X_raceWait 41 = .ok (.iload_n 2, 1) := by decide +kernel
theorem d_X_raceWait_42 : decode b_X_raceWait 42 = .ok (.iload_n 3, 1) := by decide +kernel
theorem d_X_raceWait_43 : decode b_X_raceWait 43 = .ok (.bipush (10), 2) := by decide +kernel
theorem d_X_raceWait_45 : decode b_X_raceWait 45 = .ok (.idiv, 1) := by decide +kernel
theorem d_X_raceWait_46 : decode b_X_raceWait 46 = .ok (.invokevirtual 175, 3) := by decide +kernel
theorem d_X_raceWait_49 : decode b_X_raceWait 49 = .ok (.iconst 0, 1) := by decide +kernel
theorem d_X_raceWait_50 : decode b_X_raceWait 50 = .ok (.istore 6, 2) := by decide +kernel
theorem d_X_raceWait_52 : decode b_X_raceWait 52 = .ok (.iload 6, 2) := by decide +kernel
theorem d_X_raceWait_54 : decode b_X_raceWait 54 = .ok (.bipush (60), 2) := by decide +kernel
theorem d_X_raceWait_56 : decode b_X_raceWait 56 = .ok (.if_icmp .gt 83, 3) := by decide +kernel
theorem d_X_raceWait_59 : decode b_X_raceWait 59 = .ok (.aload_n 0, 1) := by decide +kernel
theorem d_X_raceWait_60 : decode b_X_raceWait 60 = .ok (.getfield 19, 3) := by decide +kernel
theorem d_X_raceWait_63 : decode b_X_raceWait 63 = .ok (.aload_n 0, 1) := by decide +kernel
theorem d_X_raceWait_64 : decode b_X_raceWait 64 = .ok (.getfield 23, 3) := by decide +kernel
theorem d_X_raceWait_67 : decode b_X_raceWait 67 = .ok (.invokevirtual 235, 3) := by decide +kernel
theorem d_X_raceWait_70 : decode b_X_raceWait 70 = .ok (.aload_n 0, 1) := by decide +kernel
theorem d_X_raceWait_71 : decode b_X_raceWait 71 = .ok (.getfield 19, 3) := by decide +kernel
theorem d_X_raceWait_74 : decode b_X_raceWait 74 = .ok (.aload_n 0, 1) := by decide +kernel
theorem d_X_raceWait_75 : decode b_X_raceWait 75 = .ok (.invokevirtual 120, 3) := by decide +kernel
theorem d_X_raceWait_78 : decode b_X_raceWait 78 = .ok (.iload 5, 2) := by decide +kernel
theorem d_X_raceWait_80 : decode b_X_raceWait 80 = .ok (.iload_n 3, 1) := by decide +kernel
theorem d_X_raceWait_81 : decode b_X_raceWait 81 = .ok (.bipush (10), 2) := by decide +kernel
theorem d_X_raceWait_83 : decode b_X_raceWait 83 = .ok (.irem, 1) := by decide +kernel
theorem d_X_raceWait_84 : decode b_X_raceWait 84 = .ok (.iconst 1, 1) := by decide +kernel
theorem d_X_raceWait_85 : decode b_X_raceWait 85 = .ok (.invokevirtual 191, 3) := by decide +kernel
theorem d_X_raceWait_88 : decode b_X_raceWait 88 = .ok (.pop, 1) := by decide +kernel
theorem d_X_raceWait_89 : decode b_X_raceWait 89 = .ok (.aload_n 0, 1) := by decide +kernel
theorem d_X_raceWait_90 : decode b_X_raceWait 90 = .ok (.getfield 19, 3) := by decide +kernel
theorem d_X_raceWait_93 : decode b_X_raceWait 93 = .ok (.getfield 162, 3) := by decide +kernel
theorem d_X_raceWait_96 : decode b_X_raceWait 96 = .ok (.ifCond .ne 25, 3) := by decide +kernel
theorem d_X_raceWait_99 : decode b_X_raceWait 99 = .ok (.aload_n 0, 1) := by decide +kernel
theorem d_X_raceWait_100 : decode b_X_raceWait 100 = .ok (.getfield 19, 3) := by decide +kernel
theorem d_X_raceWait_103 : decode b_X_raceWait 103 = .ok (.getfield 159, 3) := by decide +kernel
theorem d_X_raceWait_106 : decode b_X_raceWait 106 = .ok (.invokestatic 216, 3) := by decide +kernel
theorem d_X_raceWait_109 : decode b_X_raceWait 109 = .ok (.iload 4, 2) := by decide +kernel
theorem d_X_raceWait_111 : decode b_X_raceWait 111 = .ok (.sipush (1000), 3) := by decide +kernel
theorem d_X_raceWait_114 : decode b_X_raceWait 114 = .ok (.irem, 1) := by decide +kernel
theorem d_X_raceWait_115 : decode b_X_raceWait 115 = .ok (.if_icmp .gt 6, 3) := by decide +kernel
theorem d_X_raceWait_118 : decode b_X_raceWait 118 = .ok (.iload 6, 2) := by decide +kernel
theorem d_X_raceWait_120 : decode b_X_raceWait 120 = .ok (.ireturn, 1) := by decide +kernel
theorem d_X_raceWait_121 : decode b_X_raceWait 121 = .ok (.aload_n 0, 1) := by decide +kernel
theorem d_X_raceWait_122 : decode b_X_raceWait 122 = .ok (.getfield 23, 3) := by decide +kernel
theorem d_X_raceWait_125 : decode b_X_raceWait 125 = .ok (.aload_n 0, 1) := by decide +kernel
theorem d_X_raceWait_126 : decode b_X_raceWait 126 = .ok (.invokevirtual 120, 3) := by decide +kernel
theorem d_X_raceWait_129 : decode b_X_raceWait 129 = .ok (.iconst 1, 1) := by decide +kernel
theorem d_X_raceWait_130 : decode b_X_raceWait 130 = .ok (.invokevirtual 220, 3) := by decide +kernel
theorem d_X_raceWait_133 : decode b_X_raceWait 133 = .ok (.iinc 6 (1), 3) := by decide +kernel
theorem d_X_raceWait_136 : decode b_X_raceWait 136 = .ok (.goto (-84), 3) := by decide +kernel
theorem d_X_raceWait_139 : decode b_X_raceWait 139 = .ok (.iconst (-1), 1) := by decide +kernel
theorem d_X_raceWait_140 : decode b_X_raceWait 140 = .ok (.ireturn, 1) := by decide +kernel
abbrev b_X_roundedUp : ByteArray := prog_1_method_45_code
def y_X_roundedUp : MethodName := ⟨"RoundAndRound", "roundedUp", "(II)I"⟩
theorem d_X_roundedUp_0 : decode b_X_roundedUp 0 = .ok (.iload_n 1, 1) := by decide +kernel
theorem d_X_roundedUp_1 : decode b_X_roundedUp 1 = .ok (.iconst 1, 1) := by decide +kernel
theorem d_X_roundedUp_2 : decode b_X_roundedUp 2 = .ok (.if_icmp .ge 7, 3) := by decide +kernel
theorem d_X_roundedUp_5 : decode b_X_roundedUp 5 = .ok (.iconst 0, 1) := by decide +kernel
theorem d_X_roundedUp_6 : decode b_X_roundedUp 6 = .ok (.goto 10, 3) := by decide +kernel
theorem d_X_roundedUp_9 : decode b_X_roundedUp 9 = .ok (.iload_n 0, 1) := by decide +kernel
theorem d_X_roundedUp_10 : decode b_X_roundedUp 10 = .ok (.iload_n 1, 1) := by decide +kernel
theorem d_X_roundedUp_11 : decode b_X_roundedUp 11 = .ok (.iadd, 1) := by decide +kernel
theorem d_X_roundedUp_12 : decode b_X_roundedUp 12 = .ok (.iconst 1, 1) := by decide +kernel
theorem d_X_roundedUp_13 : decode b_X_roundedUp 13 = .ok (.isub, 1) := by decide +kernel
theorem d_X_roundedUp_14 : decode b_X_roundedUp 14 = .ok (.iload_n 1, 1) := by decide +kernel
theorem d_X_roundedUp_15 : decode b_X_roundedUp 15 = .ok (.idiv, 1) := by decide +kernel
theorem d_X_roundedUp_16 : decode b_X_roundedUp 16 = .ok (.ireturn, 1) := by decide +kernel
abbrev b_X_greatestShared : ByteArray := prog_1_method_46_code
def y_X_greatestShared : MethodName := ⟨"RoundAndRound", "greatestShared", "(II)I"⟩
theorem d_X_greatestShared_0 : decode b_X_greatestShared 0 = .ok (.iload_n 0, 1) := by decide +kernel
theorem d_X_greatestShared_1 : decode b_X_greatestShared 1 = .ok (.istore_n 2, 1) := by decide +kernel
theorem d_X_greatestShared_2 : decode b_X_greatestShared 2 = .ok (.iload_n 1, 1) := by decide +kernel
theorem d_X_greatestShared_3 : decode b_X_greatestShared 3 = .ok (.istore_n 3, 1) := by decide +kernel
theorem d_X_greatestShared_4 : decode b_X_greatestShared 4 = .ok (.iconst 0, 1) := by decide +kernel
theorem d_X_greatestShared_5 : decode b_X_greatestShared 5 = .ok (.istore 4, 2) := by decide +kernel
theorem d_X_greatestShared_7 : decode b_X_greatestShared 7 = .ok (.iload 4, 2) := by decide +kernel
theorem d_X_greatestShared_9 : decode b_X_greatestShared 9 = .ok (.bipush (100), 2) := by decide +kernel
theorem d_X_greatestShared_11 : decode b_X_greatestShared 11 = .ok (.if_icmp .ge 23, 3) := by decide +kernel
theorem d_X_greatestShared_14 : decode b_X_greatestShared 14 = .ok (.iload_n 3, 1) := by decide +kernel
theorem d_X_greatestShared_15 : decode b_X_greatestShared 15 = .ok (.ifCond .eq 19, 3) := by decide +kernel
theorem d_X_greatestShared_18 : decode b_X_greatestShared 18 = .ok (.iload_n 2, 1) := by decide +kernel
theorem d_X_greatestShared_19 : decode b_X_greatestShared 19 = .ok (.iload_n 3, 1) := by decide +kernel
theorem d_X_greatestShared_20 : decode b_X_greatestShared 20 = .ok (.irem, 1) := by decide +kernel
theorem d_X_greatestShared_21 : decode b_X_greatestShared 21 = .ok (.istore 5, 2) := by decide +kernel
theorem d_X_greatestShared_23 : decode b_X_greatestShared 23 = .ok (.iload_n 3, 1) := by decide +kernel
theorem d_X_greatestShared_24 : decode b_X_greatestShared 24 = .ok (.istore_n 2, 1) := by decide +kernel
theorem d_X_greatestShared_25 : decode b_X_greatestShared 25 = .ok (.iload 5, 2) := by decide +kernel
theorem d_X_greatestShared_27 : decode b_X_greatestShared 27 = .ok (.istore_n 3, 1) := by decide +kernel
theorem d_X_greatestShared_28 : decode b_X_greatestShared 28 = .ok (.iinc 4 (1), 3) := by decide +kernel
theorem d_X_greatestShared_31 : decode b_X_greatestShared 31 = .ok (.goto (-24), 3) := by decide +kernel
theorem d_X_greatestShared_34 : decode b_X_greatestShared 34 = .ok (.iconst 1, 1) := by decide +kernel
theorem d_X_greatestShared_35 : decode b_X_greatestShared 35 = .ok (.iload_n 2, 1) := by decide +kernel
theorem d_X_greatestShared_36 : decode b_X_greatestShared 36 = .ok (.invokestatic 334, 3) := by decide +kernel
theorem d_X_greatestShared_39 : decode b_X_greatestShared 39 = .ok (.ireturn, 1) := by decide +kernel
abbrev b_X_headAt : ByteArray := prog_1_method_47_code
def y_X_headAt : MethodName := ⟨"RoundAndRound", "headAt", "(I)LRoundAndRound$Head;"⟩
theorem d_X_headAt_0 : decode b_X_headAt 0 = .ok (.iload_n 1, 1) := by decide +kernel
theorem d_X_headAt_1 : decode b_X_headAt 1 = .ok (.ifCond .lt 21, 3) := by decide +kernel
theorem d_X_headAt_4 : decode b_X_headAt 4 = .ok (.iload_n 1, 1) := by decide +kernel
theorem d_X_headAt_5 : decode b_X_headAt 5 = .ok (.aload_n 0, 1) := by decide +kernel
theorem d_X_headAt_6 : decode b_X_headAt 6 = .ok (.getfield 11, 3) := by decide +kernel
theorem d_X_headAt_9 : decode b_X_headAt 9 = .ok (.arraylength, 1) := by decide +kernel
theorem d_X_headAt_10 : decode b_X_headAt 10 = .ok (.if_icmp .ge 12, 3) := by decide +kernel
theorem d_X_headAt_13 : decode b_X_headAt 13 = .ok (.aload_n 0, 1) := by decide +kernel
theorem d_X_headAt_14 : decode b_X_headAt 14 = .ok (.getfield 11, 3) := by decide +kernel
theorem d_X_headAt_17 : decode b_X_headAt 17 = .ok (.iload_n 1, 1) := by decide +kernel
theorem d_X_headAt_18 : decode b_X_headAt 18 = .ok (.aaload, 1) := by decide +kernel
theorem d_X_headAt_19 : decode b_X_headAt 19 = .ok (.goto 4, 3) := by decide +kernel
theorem d_X_headAt_22 : decode b_X_headAt 22 = .ok (.aconst_null, 1) := by decide +kernel
theorem d_X_headAt_23 : decode b_X_headAt 23 = .ok (.astore_n 2, 1) := by decide +kernel
theorem d_X_headAt_24 : decode b_X_headAt 24 = .ok (.aload_n 2, 1) := by decide +kernel
theorem d_X_headAt_25 : decode b_X_headAt 25 = .ok (.ifnonnull 10, 3) := by decide +kernel
theorem d_X_headAt_28 : decode b_X_headAt 28 = .ok (.aload_n 0, 1) := by decide +kernel
theorem d_X_headAt_29 : decode b_X_headAt 29 = .ok (.getfield 19, 3) := by decide +kernel
theorem d_X_headAt_32 : decode b_X_headAt 32 = .ok (.goto 4, 3) := by decide +kernel
theorem d_X_headAt_35 : decode b_X_headAt 35 = .ok (.aload_n 2, 1) := by decide +kernel
theorem d_X_headAt_36 : decode b_X_headAt 36 = .ok (.areturn, 1) := by decide +kernel
abbrev b_X_imageHeadAt : ByteArray := prog_1_method_48_code
def y_X_imageHeadAt : MethodName := ⟨"RoundAndRound", "imageHeadAt", "(I)LRoundAndRound$Head;"⟩
theorem d_X_imageHeadAt_0 : decode b_X_imageHeadAt 0 = .ok (.iload_n 1, 1) := by decide +kernel
theorem d_X_imageHeadAt_1 : decode b_X_imageHeadAt 1 = .ok (.ifCond .lt 21, 3) := by decide +kernel
theorem d_X_imageHeadAt_4 : decode b_X_imageHeadAt 4 = .ok (.iload_n 1, 1) := by decide +kernel
theorem d_X_imageHeadAt_5 : decode b_X_imageHeadAt 5 = .ok (.aload_n 0, 1) := by decide +kernel
theorem d_X_imageHeadAt_6 : decode b_X_imageHeadAt 6 = .ok (.getfield 15, 3) := by decide +kernel
theorem d_X_imageHeadAt_9 : decode b_X_imageHeadAt 9 = .ok (.arraylength, 1) := by decide +kernel
theorem d_X_imageHeadAt_10 : decode b_X_imageHeadAt 10 = .ok (.if_icmp .ge 12, 3) := by decide +kernel
theorem d_X_imageHeadAt_13 : decode b_X_imageHeadAt 13 = .ok (.aload_n 0, 1) := by decide +kernel
theorem d_X_imageHeadAt_14 : decode b_X_imageHeadAt 14 = .ok (.getfield 15, 3) := by decide +kernel
theorem d_X_imageHeadAt_17 : decode b_X_imageHeadAt 17 = .ok (.iload_n 1, 1) := by decide +kernel
theorem d_X_imageHeadAt_18 : decode b_X_imageHeadAt 18 = .ok (.aaload, 1) := by decide +kernel
theorem d_X_imageHeadAt_19 : decode b_X_imageHeadAt 19 = .ok (.goto 4, 3) := by decide +kernel
theorem d_X_imageHeadAt_22 : decode b_X_imageHeadAt 22 = .ok (.aconst_null, 1) := by decide +kernel
theorem d_X_imageHeadAt_23 : decode b_X_imageHeadAt 23 = .ok (.astore_n 2, 1) := by decide +kernel
theorem d_X_imageHeadAt_24 : decode b_X_imageHeadAt 24 = .ok (.aload_n 2, 1) := by decide +kernel
theorem d_X_imageHeadAt_25 : decode b_X_imageHeadAt 25 = .ok (.ifnonnull 10, 3) := by decide +kernel
theorem d_X_imageHeadAt_28 : decode b_X_imageHeadAt 28 = .ok (.aload_n 0, 1) := by decide +kernel
theorem d_X_imageHeadAt_29 : decode b_X_imageHeadAt 29 = .ok (.getfield 19, 3) := by decide +kernel
theorem d_X_imageHeadAt_32 : decode b_X_imageHeadAt 32 = .ok (.goto 4, 3) := by decide +kernel
theorem d_X_imageHeadAt_35 : decode b_X_imageHeadAt 35 = .ok (.aload_n 2, 1) := by decide +kernel
theorem d_X_imageHeadAt_36 : decode b_X_imageHeadAt 36 = .ok (.areturn, 1) := by decide +kernel
abbrev b_X_textAt : ByteArray := prog_1_method_49_code
def y_X_textAt : MethodName := ⟨"RoundAndRound", "textAt", "(I)LRoundAndRound$Text;"⟩
theorem d_X_textAt_0 : decode b_X_textAt 0 = .ok (.iload_n 1, 1) := by decide +kernel
theorem d_X_textAt_1 : decode b_X_textAt 1 = .ok (.ifCond .lt 21, 3) := by decide +kernel
theorem d_X_textAt_4 : decode b_X_textAt 4 = .ok (.iload_n 1, 1) := by decide +kernel
theorem d_X_textAt_5 : decode b_X_textAt 5 = .ok (.aload_n 0, 1) := by decide +kernel
theorem d_X_textAt_6 : decode b_X_textAt 6 = .ok (.getfield 32, 3) := by decide +kernel
theorem d_X_textAt_9 : decode b_X_textAt 9 = .ok (.arraylength, 1) := by decide +kernel
theorem d_X_textAt_10 : decode b_X_textAt 10 = .ok (.if_icmp .ge 12, 3) := by decide +kernel
theorem d_X_textAt_13 : decode b_X_textAt 13 = .ok (.aload_n 0, 1) := by decide +kernel
theorem d_X_textAt_14 : decode b_X_textAt 14 = .ok (.getfield 32, 3) := by decide +kernel
theorem d_X_textAt_17 : decode b_X_textAt 17 = .ok (.iload_n 1, 1) := by decide +kernel
theorem d_X_textAt_18 : decode b_X_textAt 18 = .ok (.aaload, 1) := by decide +kernel
theorem d_X_textAt_19 : decode b_X_textAt 19 = .ok (.goto 4, 3) := by decide +kernel
theorem d_X_textAt_22 : decode b_X_textAt 22 = .ok (.aconst_null, 1) := by decide +kernel
theorem d_X_textAt_23 : decode b_X_textAt 23 = .ok (.astore_n 2, 1) := by decide +kernel
theorem d_X_textAt_24 : decode b_X_textAt 24 = .ok (.aload_n 2, 1) := by decide +kernel
theorem d_X_textAt_25 : decode b_X_textAt 25 = .ok (.ifnonnull 10, 3) := by decide +kernel
theorem d_X_textAt_28 : decode b_X_textAt 28 = .ok (.aload_n 0, 1) := by decide +kernel
theorem d_X_textAt_29 : decode b_X_textAt 29 = .ok (.getfield 37, 3) := by decide +kernel
theorem d_X_textAt_32 : decode b_X_textAt 32 = .ok (.goto 4, 3) := by decide +kernel
theorem d_X_textAt_35 : decode b_X_textAt 35 = .ok (.aload_n 2, 1) := by decide +kernel
theorem d_X_textAt_36 : decode b_X_textAt 36 = .ok (.areturn, 1) := by decide +kernel
abbrev b_X_law : ByteArray := prog_1_method_50_code
def y_X_law : MethodName := ⟨"RoundAndRound", "law", "()LRoundAndRound$Text;"⟩
theorem d_X_law_0 : decode b_X_law 0 = .ok (.aload_n 0, 1) := by decide +kernel
theorem d_X_law_1 : decode b_X_law 1 = .ok (.aload_n 0, 1) := by decide +kernel
theorem d_X_law_2 : decode b_X_law 2 = .ok (.getfield 66, 3) := by decide +kernel
theorem d_X_law_5 : decode b_X_law 5 = .ok (.invokevirtual 91, 3) := by decide +kernel
theorem d_X_law_8 : decode b_X_law 8 = .ok (.areturn, 1) := by decide +kernel
abbrev b_X_sheetAt : ByteArray := prog_1_method_51_code
def y_X_sheetAt : MethodName := ⟨"RoundAndRound", "sheetAt", "(I)LRoundAndRound$Sheet;"⟩
theorem d_X_sheetAt_0 : decode b_X_sheetAt 0 = .ok (.iload_n 1, 1) := by decide +kernel
theorem d_X_sheetAt_1 : decode b_X_sheetAt 1 = .ok (.ifCond .lt 21, 3) := by decide +kernel
theorem d_X_sheetAt_4 : decode b_X_sheetAt 4 = .ok (.iload_n 1, 1) := by decide +kernel
theorem d_X_sheetAt_5 : decode b_X_sheetAt 5 = .ok (.aload_n 0, 1) := by decide +kernel
theorem d_X_sheetAt_6 : decode b_X_sheetAt 6 = .ok (.getfield 50, 3) := by decide +kernel
theorem d_X_sheetAt_9 : decode b_X_sheetAt 9 = .ok (.arraylength, 1) := by decide +kernel
theorem d_X_sheetAt_10 : decode b_X_sheetAt 10 = .ok (.if_icmp .ge 12, 3) := by decide +kernel
theorem d_X_sheetAt_13 : decode b_X_sheetAt 13 = .ok (.aload_n 0, 1) := by decide +kernel
theorem d_X_sheetAt_14 : decode b_X_sheetAt 14 = .ok (.getfield 50, 3) := by decide +kernel
theorem d_X_sheetAt_17 : decode b_X_sheetAt 17 = .ok (.iload_n 1, 1) := by decide +kernel
theorem d_X_sheetAt_18 : decode b_X_sheetAt 18 = .ok (.aaload, 1) := by decide +kernel
theorem d_X_sheetAt_19 : decode b_X_sheetAt 19 = .ok (.goto 4, 3) := by decide +kernel
theorem d_X_sheetAt_22 : decode b_X_sheetAt 22 = .ok (.aconst_null, 1) := by decide +kernel
theorem d_X_sheetAt_23 : decode b_X_sheetAt 23 = .ok (.astore_n 2, 1) := by decide +kernel
theorem d_X_sheetAt_24 : decode b_X_sheetAt 24 = .ok (.aload_n 2, 1) := by decide +kernel
theorem d_X_sheetAt_25 : decode b_X_sheetAt 25 = .ok (.ifnonnull 10, 3) := by decide +kernel
theorem d_X_sheetAt_28 : decode b_X_sheetAt 28 = .ok (.aload_n 0, 1) := by decide +kernel
theorem d_X_sheetAt_29 : decode b_X_sheetAt 29 = .ok (.getfield 55, 3) := by decide +kernel
theorem d_X_sheetAt_32 : decode b_X_sheetAt 32 = .ok (.goto 4, 3) := by decide +kernel
theorem d_X_sheetAt_35 : decode b_X_sheetAt 35 = .ok (.aload_n 2, 1) := by decide +kernel
theorem d_X_sheetAt_36 : decode b_X_sheetAt 36 = .ok (.areturn, 1) := by decide +kernel
abbrev b_X_within : ByteArray := prog_1_method_52_code
def y_X_within : MethodName := ⟨"RoundAndRound", "within", "(III)Z"⟩
theorem d_X_within_0 : decode b_X_within 0 = .ok (.iload_n 0, 1) := by decide +kernel
theorem d_X_within_1 : decode b_X_within 1 = .ok (.iload_n 1, 1) := by decide +kernel
theorem d_X_within_2 : decode b_X_within 2 = .ok (.if_icmp .lt 12, 3) := by decide +kernel
theorem d_X_within_5 : decode b_X_within 5 = .ok (.iload_n 0, 1) := by decide +kernel
theorem d_X_within_6 : decode b_X_within 6 = .ok (.iload_n 2, 1) := by decide +kernel
theorem d_X_within_7 : decode b_X_within 7 = .ok (.if_icmp .gt 7, 3) := by decide +kernel
theorem d_X_within_10 : decode b_X_within 10 = .ok (.iconst 1, 1) := by decide +kernel
theorem d_X_within_11 : decode b_X_within 11 = .ok (.goto 4, 3) := by decide +kernel
theorem d_X_within_14 : decode b_X_within 14 = .ok (.iconst 0, 1) := by decide +kernel
theorem d_X_within_15 : decode b_X_within 15 = .ok (.ireturn, 1) := by decide +kernel
abbrev b_X_bounded : ByteArray := prog_1_method_53_code
def y_X_bounded : MethodName := ⟨"RoundAndRound", "bounded", "(III)I"⟩
theorem d_X_bounded_0 : decode b_X_bounded 0 = .ok (.iload_n 1, 1) := by decide +kernel
theorem d_X_bounded_1 : decode b_X_bounded 1 = .ok (.iload_n 2, 1) := by decide +kernel
theorem d_X_bounded_2 : decode b_X_bounded 2 = .ok (.iload_n 0, 1) := by decide +kernel
theorem d_X_bounded_3 : decode b_X_bounded 3 = .ok (.invokestatic 179, 3) := by decide +kernel
theorem d_X_bounded_6 : decode b_X_bounded 6 = .ok (.invokestatic 334, 3) := by decide +kernel
theorem d_X_bounded_9 : decode b_X_bounded 9 = .ok (.ireturn, 1) := by decide +kernel
abbrev b_X_isByte : ByteArray := prog_1_method_54_code
def y_X_isByte : MethodName := ⟨"RoundAndRound", "isByte", "(I)Z"⟩
theorem d_X_isByte_0 : decode b_X_isByte 0 = .ok (.iload_n 0, 1) := by decide +kernel
theorem d_X_isByte_1 : decode b_X_isByte 1 = .ok (.iconst 0, 1) := by decide +kernel
theorem d_X_isByte_2 : decode b_X_isByte 2 = .ok (.sipush (255), 3) := by decide +kernel
theorem d_X_isByte_5 : decode b_X_isByte 5 = .ok (.invokestatic 105, 3) := by decide +kernel
theorem d_X_isByte_8 : decode b_X_isByte 8 = .ok (.ireturn, 1) := by decide +kernel
abbrev b_X_isHead : ByteArray := prog_1_method_55_code
def y_X_isHead : MethodName := ⟨"RoundAndRound", "isHead", "(I)Z"⟩
theorem d_X_isHead_0 : decode b_X_isHead 0 = .ok (.iload_n 1, 1) := by decide +kernel
theorem d_X_isHead_1 : decode b_X_isHead 1 = .ok (.iconst 0, 1) := by decide +kernel
theorem d_X_isHead_2 : decode b_X_isHead 2 = .ok (.aload_n 0, 1) := by decide +kernel
theorem d_X_isHead_3 : decode b_X_isHead 3 = .ok (.getfield 59, 3) := by decide +kernel
theorem d_X_isHead_6 : decode b_X_isHead 6 = .ok (.iconst 1, 1) := by decide +kernel
theorem d_X_isHead_7 : decode b_X_isHead 7 = .ok (.isub, 1) := by decide +kernel
theorem d_X_isHead_8 : decode b_X_isHead 8 = .ok (.invokestatic 105, 3) := by decide +kernel
theorem d_X_isHead_11 : decode b_X_isHead 11 = .ok (.ireturn, 1) := by decide +kernel
abbrev b_X_isKind : ByteArray := prog_1_method_56_code
def y_X_isKind : MethodName := ⟨"RoundAndRound", "isKind", "(I)Z"⟩
theorem d_X_isKind_0 : decode b_X_isKind 0 = .ok (.iload_n 0, 1) := by decide +kernel
theorem d_X_isKind_1 : decode b_X_isKind 1 = .ok (.iconst 0, 1) := by decide +kernel
theorem d_X_isKind_2 : decode b_X_isKind 2 = .ok (.iconst 5, 1) := by decide +kernel
theorem d_X_isKind_3 : decode b_X_isKind 3 = .ok (.invokestatic 105, 3) := by decide +kernel
theorem d_X_isKind_6 : decode b_X_isKind 6 = .ok (.ireturn, 1) := by decide +kernel
abbrev b_X_isSheet : ByteArray := prog_1_method_57_code
def y_X_isSheet : MethodName := ⟨"RoundAndRound", "isSheet", "(I)Z"⟩
theorem d_X_isSheet_0 : decode b_X_isSheet 0 = .ok (.iload_n 0, 1) := by decide +kernel
theorem d_X_isSheet_1 : decode b_X_isSheet 1 = .ok (.iconst 0, 1) := by decide +kernel
theorem d_X_isSheet_2 : decode b_X_isSheet 2 = .ok (.iconst 3, 1) := by decide +kernel
theorem d_X_isSheet_3 : decode b_X_isSheet 3 = .ok (.invokestatic 105, 3) := by decide +kernel
theorem d_X_isSheet_6 : decode b_X_isSheet 6 = .ok (.ireturn, 1) := by decide +kernel
abbrev b_X_isTurns : ByteArray := prog_1_method_58_code
def y_X_isTurns : MethodName := ⟨"RoundAndRound", "isTurns", "(I)Z"⟩
theorem d_X_isTurns_0 : decode b_X_isTurns 0 = .ok (.iload_n 0, 1) := by decide +kernel
theorem d_X_isTurns_1 : decode b_X_isTurns 1 = .ok (.bipush (-40), 2) := by decide +kernel
theorem d_X_isTurns_3 : decode b_X_isTurns 3 = .ok (.bipush (40), 2) := by decide +kernel
theorem d_X_isTurns_5 : decode b_X_isTurns 5 = .ok (.invokestatic 105, 3) := by decide +kernel
theorem d_X_isTurns_8 : decode b_X_isTurns 8 = .ok (.ireturn, 1) := by decide +kernel
abbrev b_X_isSeconds : ByteArray := prog_1_method_59_code
def y_X_isSeconds : MethodName := ⟨"RoundAndRound", "isSeconds", "(I)Z"⟩
theorem d_X_isSeconds_0 : decode b_X_isSeconds 0 = .ok (.iload_n 0, 1) := by decide +kernel
theorem d_X_isSeconds_1 : decode b_X_isSeconds 1 = .ok (.iconst 0, 1) := by decide +kernel
theorem d_X_isSeconds_2 : decode b_X_isSeconds 2 = .ok (.bipush (60), 2) := by decide +kernel
theorem d_X_isSeconds_4 : decode b_X_isSeconds 4 = .ok (.invokestatic 105, 3) := by decide +kernel
theorem d_X_isSeconds_7 : decode b_X_isSeconds 7 = .ok (.ireturn, 1) := by decide +kernel
abbrev b_X_isPace : ByteArray := prog_1_method_60_code
def y_X_isPace : MethodName := ⟨"RoundAndRound", "isPace", "(I)Z"⟩
theorem d_X_isPace_0 : decode b_X_isPace 0 = .ok (.iload_n 0, 1) := by decide +kernel
theorem d_X_isPace_1 : decode b_X_isPace 1 = .ok (.iconst 1, 1) := by decide +kernel
theorem d_X_isPace_2 : decode b_X_isPace 2 = .ok (.bipush (9), 2) := by decide +kernel
theorem d_X_isPace_4 : decode b_X_isPace 4 = .ok (.invokestatic 105, 3) := by decide +kernel
theorem d_X_isPace_7 : decode b_X_isPace 7 = .ok (.ireturn, 1) := by decide +kernel
abbrev b_X_isSpeedPace : ByteArray := prog_1_method_61_code
def y_X_isSpeedPace : MethodName := ⟨"RoundAndRound", "isSpeedPace", "(I)Z"⟩
theorem d_X_isSpeedPace_0 : decode b_X_isSpeedPace 0 = .ok (.iload_n 0, 1) := by decide +kernel
theorem d_X_isSpeedPace_1 : decode b_X_isSpeedPace 1 = .ok (.ifCond .le 27, 3) := by decide +kernel
theorem d_X_isSpeedPace_4 : decode b_X_isSpeedPace 4 = .ok (.iload_n 0, 1) := by decide +kernel
theorem d_X_isSpeedPace_5 : decode b_X_isSpeedPace 5 = .ok (.bipush (10), 2) := by decide +kernel
theorem d_X_isSpeedPace_7 : decode b_X_isSpeedPace 7 = .ok (.idiv, 1) := by decide +kernel
theorem d_X_isSpeedPace_8 : decode b_X_isSpeedPace 8 = .ok (.invokestatic 172, 3) := by decide +kernel
theorem d_X_isSpeedPace_11 : decode b_X_isSpeedPace 11 = .ok (.ifCond .eq 17, 3) := by decide +kernel
theorem d_X_isSpeedPace_14 : decode b_X_isSpeedPace 14 = .ok (.iload_n 0, 1) := by decide +kernel
theorem d_X_isSpeedPace_15 : decode b_X_isSpeedPace 15 = .ok (.bipush (10), 2) := by decide +kernel
theorem d_X_isSpeedPace_17 : decode b_X_isSpeedPace 17 = .ok (.irem, 1) := by decide +kernel
theorem d_X_isSpeedPace_18 : decode b_X_isSpeedPace 18 = .ok (.invokestatic 172, 3) := by decide +kernel
theorem d_X_isSpeedPace_21 : decode b_X_isSpeedPace 21 = .ok (.ifCond .eq 7, 3) := by decide +kernel
theorem d_X_isSpeedPace_24 : decode b_X_isSpeedPace 24 = .ok (.iconst 1, 1) := by decide +kernel
theorem d_X_isSpeedPace_25 : decode b_X_isSpeedPace 25 = .ok (.goto 4, 3) := by decide +kernel
theorem d_X_isSpeedPace_28 : decode b_X_isSpeedPace 28 = .ok (.iconst 0, 1) := by decide +kernel
theorem d_X_isSpeedPace_29 : decode b_X_isSpeedPace 29 = .ok (.ireturn, 1) := by decide +kernel
abbrev b_X_isNumberAndEyes : ByteArray := prog_1_method_62_code
def y_X_isNumberAndEyes : MethodName := ⟨"RoundAndRound", "isNumberAndEyes", "(II)Z"⟩
theorem d_X_isNumberAndEyes_0 : decode b_X_isNumberAndEyes 0 = .ok (.iload_n 0, 1) := by decide +kernel
theorem d_X_isNumberAndEyes_1 : decode b_X_isNumberAndEyes 1 = .ok (.ifCond .lt 32, 3) := by decide +kernel
theorem d_X_isNumberAndEyes_4 : decode b_X_isNumberAndEyes 4 = .ok (.iload_n 0, 1) := by decide +kernel
theorem d_X_isNumberAndEyes_5 : decode b_X_isNumberAndEyes 5 = .ok (.bipush (10), 2) := by decide +kernel
theorem d_X_isNumberAndEyes_7 : decode b_X_isNumberAndEyes 7 = .ok (.idiv, 1) := by decide +kernel
theorem d_X_isNumberAndEyes_8 : decode b_X_isNumberAndEyes 8 = .ok (.iload_n 1, 1) := by decide +kernel
theorem d_X_isNumberAndEyes_9 : decode b_X_isNumberAndEyes 9 = .ok (.bipush (9), 2) := by decide +kernel
theorem d_X_isNumberAndEyes_11 : decode b_X_isNumberAndEyes 11 = .ok (.invokestatic 105, 3) := by decide +kernel
theorem d_X_isNumberAndEyes_14 : decode b_X_isNumberAndEyes 14 = .ok (.ifCond .eq 19, 3) := by decide +kernel
theorem d_X_isNumberAndEyes_17 : decode b_X_isNumberAndEyes 17 = .ok (.iload_n 0, 1) := by decide +kernel
theorem d_X_isNumberAndEyes_18 : decode b_X_isNumberAndEyes 18 = .ok (.bipush (10), 2) := by decide +kernel
theorem d_X_isNumberAndEyes_20 : decode b_X_isNumberAndEyes 20 = .ok (.irem, 1) := by decide +kernel
theorem d_X_isNumberAndEyes_21 : decode b_X_isNumberAndEyes 21 = .ok (.iconst 0, 1) := by decide +kernel
theorem d_X_isNumberAndEyes_22 : decode b_X_isNumberAndEyes 22 = .ok (.iconst 1, 1) := by decide +kernel
theorem d_X_isNumberAndEyes_23 : decode b_X_isNumberAndEyes 23 = .ok (.invokestatic 105, 3) := by decide +kernel
theorem d_X_isNumberAndEyes_26 : decode b_X_isNumberAndEyes 26 = .ok (.ifCond .eq 7, 3) := by decide +kernel
theorem d_X_isNumberAndEyes_29 : decode b_X_isNumberAndEyes 29 = .ok (.iconst 1, 1) := by decide +kernel
theorem d_X_isNumberAndEyes_30 : decode b_X_isNumberAndEyes 30 = .ok (.goto 4, 3) := by decide +kernel
theorem d_X_isNumberAndEyes_33 : decode b_X_isNumberAndEyes 33 = .ok (.iconst 0, 1) := by decide +kernel
theorem d_X_isNumberAndEyes_34 : decode b_X_isNumberAndEyes 34 = .ok (.ireturn, 1) := by decide +kernel
abbrev b_X_isWaitSpeedPace : ByteArray := prog_1_method_63_code
def y_X_isWaitSpeedPace : MethodName := ⟨"RoundAndRound", "isWaitSpeedPace", "(I)Z"⟩
theorem d_X_isWaitSpeedPace_0 : decode b_X_isWaitSpeedPace 0 = .ok (.iload_n 0, 1) := by decide +kernel
theorem d_X_isWaitSpeedPace_1 : decode b_X_isWaitSpeedPace 1 = .ok (.ifCond .le 27, 3) := by decide +kernel
theorem d_X_isWaitSpeedPace_4 : decode b_X_isWaitSpeedPace 4 = .ok (.iload_n 0, 1) := by decide +kernel
theorem d_X_isWaitSpeedPace_5 : decode b_X_isWaitSpeedPace 5 = .ok (.bipush (100), 2) := by decide +kernel
theorem d_X_isWaitSpeedPace_7 : decode b_X_isWaitSpeedPace 7 = .ok (.idiv, 1) := by decide +kernel
theorem d_X_isWaitSpeedPace_8 : decode b_X_isWaitSpeedPace 8 = .ok (.invokestatic 185, 3) := by decide +kernel
theorem d_X_isWaitSpeedPace_11 : decode b_X_isWaitSpeedPace 11 = .ok (.ifCond .eq 17, 3) := by decide +kernel
theorem d_X_isWaitSpeedPace_14 : decode b_X_isWaitSpeedPace 14 = .ok (.iload_n 0, 1) := by decide +kernel
theorem d_X_isWaitSpeedPace_15 : decode b_X_isWaitSpeedPace 15 = .ok (.bipush (100), 2) := by decide +kernel
theorem d_X_isWaitSpeedPace_17 : decode b_X_isWaitSpeedPace 17 = .ok (.irem, 1) := by decide +kernel
theorem d_X_isWaitSpeedPace_18 : decode b_X_isWaitSpeedPace 18 = .ok (.invokestatic 241, 3) := by decide +kernel
theorem d_X_isWaitSpeedPace_21 : decode b_X_isWaitSpeedPace 21 = .ok (.ifCond .eq 7, 3) := by decide +kernel
theorem d_X_isWaitSpeedPace_24 : decode b_X_isWaitSpeedPace 24 = .ok (.iconst 1, 1) := by decide +kernel
theorem d_X_isWaitSpeedPace_25 : decode b_X_isWaitSpeedPace 25 = .ok (.goto 4, 3) := by decide +kernel
theorem d_X_isWaitSpeedPace_28 : decode b_X_isWaitSpeedPace 28 = .ok (.iconst 0, 1) := by decide +kernel
theorem d_X_isWaitSpeedPace_29 : decode b_X_isWaitSpeedPace 29 = .ok (.ireturn, 1) := by decide +kernel
abbrev b_X_isOddsPace : ByteArray := prog_1_method_64_code
def y_X_isOddsPace : MethodName := ⟨"RoundAndRound", "isOddsPace", "(I)Z"⟩
theorem d_X_isOddsPace_0 : decode b_X_isOddsPace 0 = .ok (.iload_n 0, 1) := by decide +kernel
theorem d_X_isOddsPace_1 : decode b_X_isOddsPace 1 = .ok (.ifCond .le 30, 3) := by decide +kernel
theorem d_X_isOddsPace_4 : decode b_X_isOddsPace 4 = .ok (.iload_n 0, 1) := by decide +kernel
theorem d_X_isOddsPace_5 : decode b_X_isOddsPace 5 = .ok (.bipush (10), 2) := by decide +kernel
theorem d_X_isOddsPace_7 : decode b_X_isOddsPace 7 = .ok (.idiv, 1) := by decide +kernel
theorem d_X_isOddsPace_8 : decode b_X_isOddsPace 8 = .ok (.iconst 0, 1) := by decide +kernel
theorem d_X_isOddsPace_9 : decode b_X_isOddsPace 9 = .ok (.bipush (100), 2) := by decide +kernel
theorem d_X_isOddsPace_11 : decode b_X_isOddsPace 11 = .ok (.invokestatic 105, 3) := by decide +kernel
theorem d_X_isOddsPace_14 : decode b_X_isOddsPace 14 = .ok (.ifCond .eq 17, 3) := by decide +kernel
theorem d_X_isOddsPace_17 : decode b_X_isOddsPace 17 = .ok (.iload_n 0, 1) := by decide +kernel
theorem d_X_isOddsPace_18 : decode b_X_isOddsPace 18 = .ok (.bipush (10), 2) := by decide +kernel
theorem d_X_isOddsPace_20 : decode b_X_isOddsPace 20 = .ok (.irem, 1) := by decide +kernel
theorem d_X_isOddsPace_21 : decode b_X_isOddsPace 21 = .ok (.invokestatic 172, 3) := by decide +kernel
theorem d_X_isOddsPace_24 : decode b_X_isOddsPace 24 = .ok (.ifCond .eq 7, 3) := by decide +kernel
theorem d_X_isOddsPace_27 : decode b_X_isOddsPace 27 = .ok (.iconst 1, 1) := by decide +kernel
theorem d_X_isOddsPace_28 : decode b_X_isOddsPace 28 = .ok (.goto 4, 3) := by decide +kernel
theorem d_X_isOddsPace_31 : decode b_X_isOddsPace 31 = .ok (.iconst 0, 1) := by decide +kernel
theorem d_X_isOddsPace_32 : decode b_X_isOddsPace 32 = .ok (.ireturn, 1) := by decide +kernel
abbrev b_X_isSecondsSeeds : ByteArray := prog_1_method_65_code
def y_X_isSecondsSeeds : MethodName := ⟨"RoundAndRound", "isSecondsSeeds", "(I)Z"⟩
theorem d_X_isSecondsSeeds_0 : decode b_X_isSecondsSeeds 0 = .ok (.iload_n 0, 1) := by decide +kernel
theorem d_X_isSecondsSeeds_1 : decode b_X_isSecondsSeeds 1 = .ok (.ifCond .le 30, 3) := by decide +kernel
theorem d_X_isSecondsSeeds_4 : decode b_X_isSecondsSeeds 4 = .ok (.iload_n 0, 1) := by decide +kernel
theorem d_X_isSecondsSeeds_5 : decode b_X_isSecondsSeeds 5 = .ok (.bipush (100), 2) := by decide +kernel
theorem d_X_isSecondsSeeds_7 : decode b_X_isSecondsSeeds 7 = .ok (.idiv, 1) := by decide +kernel
theorem d_X_isSecondsSeeds_8 : decode b_X_isSecondsSeeds 8 = .ok (.invokestatic 185, 3) := by decide +kernel
theorem d_X_isSecondsSeeds_11 : decode b_X_isSecondsSeeds 11 = .ok (.ifCond .eq 20, 3) := by decide +kernel
theorem d_X_isSecondsSeeds_14 : decode b_X_isSecondsSeeds 14 = .ok (.iload_n 0, 1) := by decide +kernel
theorem d_X_isSecondsSeeds_15 : decode b_X_isSecondsSeeds 15 = .ok (.bipush (100), 2) := by decide +kernel
theorem d_X_isSecondsSeeds_17 : decode b_X_isSecondsSeeds 17 = .ok (.irem, 1) := by decide +kernel
theorem d_X_isSecondsSeeds_18 : decode b_X_isSecondsSeeds 18 = .ok (.iconst 1, 1) := by decide +kernel
theorem d_X_isSecondsSeeds_19 : decode b_X_isSecondsSeeds 19 = .ok (.bipush (40), 2) := by decide +kernel
theorem d_X_isSecondsSeeds_21 : decode b_X_isSecondsSeeds 21 = .ok (.invokestatic 105, 3) := by decide +kernel
theorem d_X_isSecondsSeeds_24 : decode b_X_isSecondsSeeds 24 = .ok (.ifCond .eq 7, 3) := by decide +kernel
theorem d_X_isSecondsSeeds_27 : decode b_X_isSecondsSeeds 27 = .ok (.iconst 1, 1) := by decide +kernel
theorem d_X_isSecondsSeeds_28 : decode b_X_isSecondsSeeds 28 = .ok (.goto 4, 3) := by decide +kernel
theorem d_X_isSecondsSeeds_31 : decode b_X_isSecondsSeeds 31 = .ok (.iconst 0, 1) := by decide +kernel
theorem d_X_isSecondsSeeds_32 : decode b_X_isSecondsSeeds 32 = .ok (.ireturn, 1) := by decide +kernel
abbrev b_X_isRace : ByteArray := prog_1_method_66_code
def y_X_isRace : MethodName := ⟨"RoundAndRound", "isRace", "(IIII)Z"⟩
theorem d_X_isRace_0 : decode b_X_isRace 0 = .ok (.iload_n 0, 1) := by decide +kernel
theorem d_X_isRace_1 : decode b_X_isRace 1 = .ok (.invokestatic 169, 3) := by decide +kernel
theorem d_X_isRace_4 : decode b_X_isRace 4 = .ok (.ifCond .eq 36, 3) := by decide +kernel
theorem d_X_isRace_7 : decode b_X_isRace 7 = .ok (.iload_n 1, 1) := by decide +kernel
theorem d_X_isRace_8 : decode b_X_isRace 8 = .ok (.invokestatic 241, 3) := by decide +kernel
theorem d_X_isRace_11 : decode b_X_isRace 11 = .ok (.ifCond .eq 29, 3) := by decide +kernel
theorem d_X_isRace_14 : decode b_X_isRace 14 = .ok (.iload_n 2, 1) := by decide +kernel
theorem d_X_isRace_15 : decode b_X_isRace 15 = .ok (.sipush (1000), 3) := by decide +kernel
theorem d_X_isRace_18 : decode b_X_isRace 18 = .ok (.ldc_w 337, 3) := by decide +kernel
theorem d_X_isRace_21 : decode b_X_isRace 21 = .ok (.invokestatic 105, 3) := by decide +kernel
theorem d_X_isRace_24 : decode b_X_isRace 24 = .ok (.ifCond .eq 16, 3) := by decide +kernel
theorem d_X_isRace_27 : decode b_X_isRace 27 = .ok (.iload_n 3, 1) := by decide +kernel
theorem d_X_isRace_28 : decode b_X_isRace 28 = .ok (.iconst 0, 1) := by decide +kernel
theorem d_X_isRace_29 : decode b_X_isRace 29 = .ok (.iconst 1, 1) := by decide +kernel
theorem d_X_isRace_30 : decode b_X_isRace 30 = .ok (.invokestatic 105, 3) := by decide +kernel
theorem d_X_isRace_33 : decode b_X_isRace 33 = .ok (.ifCond .eq 7, 3) := by decide +kernel
theorem d_X_isRace_36 : decode b_X_isRace 36 = .ok (.iconst 1, 1) := by decide +kernel
theorem d_X_isRace_37 : decode b_X_isRace 37 = .ok (.goto 4, 3) := by decide +kernel
theorem d_X_isRace_40 : decode b_X_isRace 40 = .ok (.iconst 0, 1) := by decide +kernel
theorem d_X_isRace_41 : decode b_X_isRace 41 = .ok (.ireturn, 1) := by decide +kernel
abbrev b_X_refusalOfSheet : ByteArray := prog_1_method_67_code
def y_X_refusalOfSheet : MethodName := ⟨"RoundAndRound", "refusalOfSheet", "(I)I"⟩
theorem d_X_refusalOfSheet_0 : decode b_X_refusalOfSheet 0 = .ok (.iload_n 1, 1) := by decide +kernel
theorem d_X_refusalOfSheet_1 : decode b_X_refusalOfSheet 1 = .ok (.invokestatic 267, 3) := by decide +kernel
theorem d_X_refusalOfSheet_4 : decode b_X_refusalOfSheet 4 = .ok (.ifCond .ne 6, 3) := by decide +kernel
theorem d_X_refusalOfSheet_7 : decode b_X_refusalOfSheet 7 = .ok (.bipush (-2), 2) := by decide +kernel
theorem d_X_refusalOfSheet_9 : decode b_X_refusalOfSheet 9 = .ok (.ireturn, 1) := by decide +kernel
theorem d_X_refusalOfSheet_10 : decode b_X_refusalOfSheet 10 = .ok (.aload_n 0, 1) := by decide +kernel
theorem d_X_refusalOfSheet_11 : decode b_X_refusalOfSheet 11 = .ok (.iload_n 1, 1) := by decide +kernel
theorem d_X_refusalOfSheet_12 : decode b_X_refusalOfSheet 12 = .ok (.invokevirtual 256, 3) := by decide +kernel
theorem d_X_refusalOfSheet_15 : decode b_X_refusalOfSheet 15 = .ok (.invokevirtual 298, 3) := by decide +kernel
theorem d_X_refusalOfSheet_18 : decode b_X_refusalOfSheet 18 = .ok (.ifCond .eq 8, 3) := by decide +kernel
theorem d_X_refusalOfSheet_21 : decode b_X_refusalOfSheet 21 = .ok (.bipush (-11), 2) := by decide +kernel
theorem d_X_refusalOfSheet_23 : decode b_X_refusalOfSheet 23 = .ok (.goto 4, 3) := by decide +kernel
theorem d_X_refusalOfSheet_26 : decode b_X_refusalOfSheet 26 = .ok (.iconst 0, 1) := by decide +kernel
theorem d_X_refusalOfSheet_27 : decode b_X_refusalOfSheet 27 = .ok (.ireturn, 1) := by decide +kernel
abbrev b_X_refusalOfTold : ByteArray := prog_1_method_68_code
def y_X_refusalOfTold : MethodName := ⟨"RoundAndRound", "refusalOfTold", "(II)I"⟩
theorem d_X_refusalOfTold_0 : decode b_X_refusalOfTold 0 = .ok (.aload_n 0, 1) := by decide +kernel
theorem d_X_refusalOfTold_1 : decode b_X_refusalOfTold 1 = .ok (.iload_n 1, 1) := by decide +kernel
theorem d_X_refusalOfTold_2 : decode b_X_refusalOfTold 2 = .ok (.invokevirtual 264, 3) := by decide +kernel
theorem d_X_refusalOfTold_5 : decode b_X_refusalOfTold 5 = .ok (.istore_n 3, 1) := by decide +kernel
theorem d_X_refusalOfTold_6 : decode b_X_refusalOfTold 6 = .ok (.iload_n 3, 1) := by decide +kernel
theorem d_X_refusalOfTold_7 : decode b_X_refusalOfTold 7 = .ok (.ifCond .ne 11, 3) := by decide +kernel
theorem d_X_refusalOfTold_10 : decode b_X_refusalOfTold 10 = .ok (.aload_n 0, 1) := by decide +kernel
theorem d_X_refusalOfTold_11 : decode b_X_refusalOfTold 11 = .ok (.iload_n 2, 1) := by decide +kernel
theorem d_X_refusalOfTold_12 : decode b_X_refusalOfTold 12 = .ok (.invokevirtual 113, 3) := by decide +kernel
theorem d_X_refusalOfTold_15 : decode b_X_refusalOfTold 15 = .ok (.ifCond .eq 7, 3) := by decide +kernel
theorem d_X_refusalOfTold_18 : decode b_X_refusalOfTold 18 = .ok (.iload_n 3, 1) := by decide +kernel
theorem d_X_refusalOfTold_19 : decode b_X_refusalOfTold 19 = .ok (.goto 5, 3) := by decide +kernel
theorem d_X_refusalOfTold_22 : decode b_X_refusalOfTold 22 = .ok (.bipush (-5), 2) := by decide +kernel
theorem d_X_refusalOfTold_24 : decode b_X_refusalOfTold 24 = .ok (.ireturn, 1) := by decide +kernel
end
section
theorem xT_1 {w : Cond} (j : Nat) (hj : tables_1_1[j]? = some w) (g : goodWord w = true) : w ∈ xT := by
  have h := List.mem_of_getElem? hj
  exact List.mem_filter.mpr ⟨List.mem_append_right _ (show w ∈ tables_1_1 ++ (tables_1_2 ++ (tables_1_3 ++ (tables_1_4 ++ tables_1_5))) from (List.mem_append_left _ h)), g⟩
theorem xT_2 {w : Cond} (j : Nat) (hj : tables_1_2[j]? = some w) (g : goodWord w = true) : w ∈ xT := by
  have h := List.mem_of_getElem? hj
  exact List.mem_filter.mpr ⟨List.mem_append_right _ (show w ∈ tables_1_1 ++ (tables_1_2 ++ (tables_1_3 ++ (tables_1_4 ++ tables_1_5))) from (List.mem_append_right _ (List.mem_append_left _ h))), g⟩
theorem xT_3 {w : Cond} (j : Nat) (hj : tables_1_3[j]? = some w) (g : goodWord w = true) : w ∈ xT := by
  have h := List.mem_of_getElem? hj
  exact List.mem_filter.mpr ⟨List.mem_append_right _ (show w ∈ tables_1_1 ++ (tables_1_2 ++ (tables_1_3 ++ (tables_1_4 ++ tables_1_5))) from (List.mem_append_right _ (List.mem_append_right _ (List.mem_append_left _ h)))), g⟩
theorem xT_4 {w : Cond} (j : Nat) (hj : tables_1_4[j]? = some w) (g : goodWord w = true) : w ∈ xT := by
  have h := List.mem_of_getElem? hj
  exact List.mem_filter.mpr ⟨List.mem_append_right _ (show w ∈ tables_1_1 ++ (tables_1_2 ++ (tables_1_3 ++ (tables_1_4 ++ tables_1_5))) from (List.mem_append_right _ (List.mem_append_right _ (List.mem_append_right _ (List.mem_append_left _ h))))), g⟩
theorem xT_5 {w : Cond} (j : Nat) (hj : tables_1_5[j]? = some w) (g : goodWord w = true) : w ∈ xT := by
  have h := List.mem_of_getElem? hj
  exact List.mem_filter.mpr ⟨List.mem_append_right _ (show w ∈ tables_1_1 ++ (tables_1_2 ++ (tables_1_3 ++ (tables_1_4 ++ tables_1_5))) from (List.mem_append_right _ (List.mem_append_right _ (List.mem_append_right _ (List.mem_append_right _ h))))), g⟩
theorem xT_p1 {q : MethodName × Nat} (j : Nat) (hj : lw_privs_1[j]? = some q) : Cond.selects q.1.cls q.1 q.1 ∈ xT := by
  have h := List.mem_of_getElem? hj
  exact List.mem_filter.mpr ⟨List.mem_append_left _ (List.mem_map.mpr ⟨q, (show q ∈ lw_privs_1 ++ (lw_privs_2 ++ (lw_privs_3 ++ lw_privs_4)) from (List.mem_append_left _ h)), rfl⟩), rfl⟩
theorem xT_p2 {q : MethodName × Nat} (j : Nat) (hj : lw_privs_2[j]? = some q) : Cond.selects q.1.cls q.1 q.1 ∈ xT := by
  have h := List.mem_of_getElem? hj
  exact List.mem_filter.mpr ⟨List.mem_append_left _ (List.mem_map.mpr ⟨q, (show q ∈ lw_privs_1 ++ (lw_privs_2 ++ (lw_privs_3 ++ lw_privs_4)) from (List.mem_append_right _ (List.mem_append_left _ h))), rfl⟩), rfl⟩
theorem xT_p3 {q : MethodName × Nat} (j : Nat) (hj : lw_privs_3[j]? = some q) : Cond.selects q.1.cls q.1 q.1 ∈ xT := by
  have h := List.mem_of_getElem? hj
  exact List.mem_filter.mpr ⟨List.mem_append_left _ (List.mem_map.mpr ⟨q, (show q ∈ lw_privs_1 ++ (lw_privs_2 ++ (lw_privs_3 ++ lw_privs_4)) from (List.mem_append_right _ (List.mem_append_right _ (List.mem_append_left _ h)))), rfl⟩), rfl⟩
theorem xT_p4 {q : MethodName × Nat} (j : Nat) (hj : lw_privs_4[j]? = some q) : Cond.selects q.1.cls q.1 q.1 ∈ xT := by
  have h := List.mem_of_getElem? hj
  exact List.mem_filter.mpr ⟨List.mem_append_left _ (List.mem_map.mpr ⟨q, (show q ∈ lw_privs_1 ++ (lw_privs_2 ++ (lw_privs_3 ++ lw_privs_4)) from (List.mem_append_right _ (List.mem_append_right _ (List.mem_append_right _ h)))), rfl⟩), rfl⟩
theorem lb_X_init : xLB y_X_init b_X_init 2 (none) 0 := ⟨xT_1 1 rfl rfl, xT_1 18 rfl rfl, by decide +kernel, by decide +kernel, by decide +kernel⟩
theorem lk_X_init : xLI y_X_init b_X_init 2 0 := ⟨lb_X_init, rfl, xT_1 17 rfl rfl⟩
theorem lb_X_count : xLB y_X_count b_X_count 2 (some .int) 1 := ⟨xT_1 1 rfl rfl, xT_2 111 rfl rfl, by decide +kernel, by decide +kernel, by decide +kernel⟩
theorem lk_X_count : xLV y_X_count b_X_count 2 (some .int) 1 := ⟨lb_X_count, xT_2 109 rfl rfl, xT_2 110 rfl rfl⟩
theorem lb_X_feed : xLB y_X_feed b_X_feed 8 (some .int) 6 := ⟨xT_1 1 rfl rfl, xT_2 115 rfl rfl, by decide +kernel, by decide +kernel, by decide +kernel⟩
theorem lk_X_feed : xLV y_X_feed b_X_feed 8 (some .int) 6 := ⟨lb_X_feed, xT_2 113 rfl rfl, xT_2 114 rfl rfl⟩
theorem lb_X_text : xLB y_X_text b_X_text 2 (some .int) 0 := ⟨xT_1 1 rfl rfl, xT_2 125 rfl rfl, by decide +kernel, by decide +kernel, by decide +kernel⟩
theorem lk_X_text : xLV y_X_text b_X_text 2 (some .int) 0 := ⟨lb_X_text, xT_2 123 rfl rfl, xT_2 124 rfl rfl⟩
theorem lb_X_force : xLB y_X_force b_X_force 3 (some .int) 1 := ⟨xT_1 1 rfl rfl, xT_2 129 rfl rfl, by decide +kernel, by decide +kernel, by decide +kernel⟩
theorem lk_X_force : xLV y_X_force b_X_force 3 (some .int) 1 := ⟨lb_X_force, xT_2 127 rfl rfl, xT_2 128 rfl rfl⟩
theorem lb_X_asks : xLB y_X_asks b_X_asks 4 (some .int) 3 := ⟨xT_1 1 rfl rfl, xT_2 133 rfl rfl, by decide +kernel, by decide +kernel, by decide +kernel⟩
theorem lk_X_asks : xLV y_X_asks b_X_asks 4 (some .int) 3 := ⟨lb_X_asks, xT_2 131 rfl rfl, xT_2 132 rfl rfl⟩
theorem lb_X_head : xLB y_X_head b_X_head 3 (some .int) 2 := ⟨xT_1 1 rfl rfl, xT_2 177 rfl rfl, by decide +kernel, by decide +kernel, by decide +kernel⟩
theorem lk_X_head : xLV y_X_head b_X_head 3 (some .int) 2 := ⟨lb_X_head, xT_2 175 rfl rfl, xT_2 176 rfl rfl⟩
theorem lb_X_set : xLB y_X_set b_X_set 6 (some .int) 3 := ⟨xT_1 1 rfl rfl, xT_2 192 rfl rfl, by decide +kernel, by decide +kernel, by decide +kernel⟩
theorem lk_X_set : xLV y_X_set b_X_set 6 (some .int) 3 := ⟨lb_X_set, xT_2 190 rfl rfl, xT_2 191 rfl rfl⟩
theorem lb_X_told : xLB y_X_told b_X_told 4 (some .int) 2 := ⟨xT_1 1 rfl rfl, xT_2 198 rfl rfl, by decide +kernel, by decide +kernel, by decide +kernel⟩
theorem lk_X_told : xLV y_X_told b_X_told 4 (some .int) 2 := ⟨lb_X_told, xT_2 196 rfl rfl, xT_2 197 rfl rfl⟩
theorem lb_X_turn : xLB y_X_turn b_X_turn 5 (some .int) 3 := ⟨xT_1 1 rfl rfl, xT_2 209 rfl rfl, by decide +kernel, by decide +kernel, by decide +kernel⟩
theorem lk_X_turn : xLV y_X_turn b_X_turn 5 (some .int) 3 := ⟨lb_X_turn, xT_2 207 rfl rfl, xT_2 208 rfl rfl⟩
theorem lb_X_rest : xLB y_X_rest b_X_rest 5 (some .int) 3 := ⟨xT_1 1 rfl rfl, xT_3 4 rfl rfl, by decide +kernel, by decide +kernel, by decide +kernel⟩
theorem lk_X_rest : xLV y_X_rest b_X_rest 5 (some .int) 3 := ⟨lb_X_rest, xT_3 2 rfl rfl, xT_3 3 rfl rfl⟩
theorem lb_X_walk : xLB y_X_walk b_X_walk 5 (some .int) 3 := ⟨xT_1 1 rfl rfl, xT_3 15 rfl rfl, by decide +kernel, by decide +kernel, by decide +kernel⟩
theorem lk_X_walk : xLV y_X_walk b_X_walk 5 (some .int) 3 := ⟨lb_X_walk, xT_3 13 rfl rfl, xT_3 14 rfl rfl⟩
theorem lb_X_up : xLB y_X_up b_X_up 4 (some .int) 1 := ⟨xT_1 1 rfl rfl, xT_3 34 rfl rfl, by decide +kernel, by decide +kernel, by decide +kernel⟩
theorem lk_X_up : xLV y_X_up b_X_up 4 (some .int) 1 := ⟨lb_X_up, xT_3 32 rfl rfl, xT_3 33 rfl rfl⟩
theorem lb_X_ends : xLB y_X_ends b_X_ends 7 (some .int) 5 := ⟨xT_1 1 rfl rfl, xT_3 39 rfl rfl, by decide +kernel, by decide +kernel, by decide +kernel⟩
theorem lk_X_ends : xLV y_X_ends b_X_ends 7 (some .int) 5 := ⟨lb_X_ends, xT_3 37 rfl rfl, xT_3 38 rfl rfl⟩
theorem lb_X_stands : xLB y_X_stands b_X_stands 5 (some .int) 2 := ⟨xT_1 1 rfl rfl, xT_3 61 rfl rfl, by decide +kernel, by decide +kernel, by decide +kernel⟩
theorem lk_X_stands : xLV y_X_stands b_X_stands 5 (some .int) 2 := ⟨lb_X_stands, xT_3 59 rfl rfl, xT_3 60 rfl rfl⟩
theorem lb_X_undo : xLB y_X_undo b_X_undo 8 (some .int) 3 := ⟨xT_1 1 rfl rfl, xT_3 67 rfl rfl, by decide +kernel, by decide +kernel, by decide +kernel⟩
theorem lk_X_undo : xLV y_X_undo b_X_undo 8 (some .int) 3 := ⟨lb_X_undo, xT_3 65 rfl rfl, xT_3 66 rfl rfl⟩
theorem lb_X_fine : xLB y_X_fine b_X_fine 4 (some .int) 2 := ⟨xT_1 1 rfl rfl, xT_3 72 rfl rfl, by decide +kernel, by decide +kernel, by decide +kernel⟩
theorem lk_X_fine : xLV y_X_fine b_X_fine 4 (some .int) 2 := ⟨lb_X_fine, xT_3 70 rfl rfl, xT_3 71 rfl rfl⟩
theorem lb_X_race : xLB y_X_race b_X_race 7 (some .int) 5 := ⟨xT_1 1 rfl rfl, xT_3 77 rfl rfl, by decide +kernel, by decide +kernel, by decide +kernel⟩
theorem lk_X_race : xLV y_X_race b_X_race 7 (some .int) 5 := ⟨lb_X_race, xT_3 75 rfl rfl, xT_3 76 rfl rfl⟩
theorem lb_X_wins : xLB y_X_wins b_X_wins 9 (some .int) 4 := ⟨xT_1 1 rfl rfl, xT_3 95 rfl rfl, by decide +kernel, by decide +kernel, by decide +kernel⟩
theorem lk_X_wins : xLV y_X_wins b_X_wins 9 (some .int) 4 := ⟨lb_X_wins, xT_3 93 rfl rfl, xT_3 94 rfl rfl⟩
theorem lb_X_pace : xLB y_X_pace b_X_pace 10 (some .int) 5 := ⟨xT_1 1 rfl rfl, xT_3 99 rfl rfl, by decide +kernel, by decide +kernel, by decide +kernel⟩
theorem lk_X_pace : xLV y_X_pace b_X_pace 10 (some .int) 5 := ⟨lb_X_pace, xT_3 97 rfl rfl, xT_3 98 rfl rfl⟩
theorem lb_X_roses : xLB y_X_roses b_X_roses 11 (some .int) 5 := ⟨xT_1 1 rfl rfl, xT_3 103 rfl rfl, by decide +kernel, by decide +kernel, by decide +kernel⟩
theorem lk_X_roses : xLV y_X_roses b_X_roses 11 (some .int) 5 := ⟨lb_X_roses, xT_3 101 rfl rfl, xT_3 102 rfl rfl⟩
theorem lb_X_judge : xLB y_X_judge b_X_judge 6 (some .int) 4 := ⟨xT_1 1 rfl rfl, xT_3 116 rfl rfl, by decide +kernel, by decide +kernel, by decide +kernel⟩
theorem lk_X_judge : xLV y_X_judge b_X_judge 6 (some .int) 4 := ⟨lb_X_judge, xT_3 114 rfl rfl, xT_3 115 rfl rfl⟩
theorem lb_X_turned : xLB y_X_turned b_X_turned 10 (some .int) 4 := ⟨xT_1 1 rfl rfl, xT_3 152 rfl rfl, by decide +kernel, by decide +kernel, by decide +kernel⟩
theorem lk_X_turned : xLV y_X_turned b_X_turned 10 (some .int) 4 := ⟨lb_X_turned, xT_3 150 rfl rfl, xT_3 151 rfl rfl⟩
theorem lb_X_kinds : xLB y_X_kinds b_X_kinds 10 (some .int) 5 := ⟨xT_1 1 rfl rfl, xT_3 156 rfl rfl, by decide +kernel, by decide +kernel, by decide +kernel⟩
theorem lk_X_kinds : xLV y_X_kinds b_X_kinds 10 (some .int) 5 := ⟨lb_X_kinds, xT_3 154 rfl rfl, xT_3 155 rfl rfl⟩
theorem lb_X_laws : xLB y_X_laws b_X_laws 8 (some .int) 4 := ⟨xT_1 1 rfl rfl, xT_3 160 rfl rfl, by decide +kernel, by decide +kernel, by decide +kernel⟩
theorem lk_X_laws : xLV y_X_laws b_X_laws 8 (some .int) 4 := ⟨lb_X_laws, xT_3 158 rfl rfl, xT_3 159 rfl rfl⟩
theorem lb_X_whose : xLB y_X_whose b_X_whose 7 (some .int) 3 := ⟨xT_1 1 rfl rfl, xT_3 164 rfl rfl, by decide +kernel, by decide +kernel, by decide +kernel⟩
theorem lk_X_whose : xLV y_X_whose b_X_whose 7 (some .int) 3 := ⟨lb_X_whose, xT_3 162 rfl rfl, xT_3 163 rfl rfl⟩
theorem lb_X_film : xLB y_X_film b_X_film 8 (some .int) 5 := ⟨xT_1 1 rfl rfl, xT_3 168 rfl rfl, by decide +kernel, by decide +kernel, by decide +kernel⟩
theorem lk_X_film : xLV y_X_film b_X_film 8 (some .int) 5 := ⟨lb_X_film, xT_3 166 rfl rfl, xT_3 167 rfl rfl⟩
theorem lb_X_drawn : xLB y_X_drawn b_X_drawn 6 (some .int) 5 := ⟨xT_1 1 rfl rfl, xT_3 181 rfl rfl, by decide +kernel, by decide +kernel, by decide +kernel⟩
theorem lk_X_drawn : xLV y_X_drawn b_X_drawn 6 (some .int) 5 := ⟨lb_X_drawn, xT_3 179 rfl rfl, xT_3 180 rfl rfl⟩
theorem lb_X_odds : xLB y_X_odds b_X_odds 10 (some .long) 6 := ⟨xT_1 1 rfl rfl, xT_3 195 rfl rfl, by decide +kernel, by decide +kernel, by decide +kernel⟩
theorem lk_X_odds : xLV y_X_odds b_X_odds 10 (some .long) 6 := ⟨lb_X_odds, xT_3 193 rfl rfl, xT_3 194 rfl rfl⟩
theorem lb_X_image : xLB y_X_image b_X_image 2 (some .int) 0 := ⟨xT_1 1 rfl rfl, xT_3 206 rfl rfl, by decide +kernel, by decide +kernel, by decide +kernel⟩
theorem lk_X_image : xLV y_X_image b_X_image 2 (some .int) 0 := ⟨lb_X_image, xT_3 204 rfl rfl, xT_3 205 rfl rfl⟩
theorem lb_X_back : xLB y_X_back b_X_back 2 (some .int) 0 := ⟨xT_1 1 rfl rfl, xT_3 214 rfl rfl, by decide +kernel, by decide +kernel, by decide +kernel⟩
theorem lk_X_back : xLV y_X_back b_X_back 2 (some .int) 0 := ⟨lb_X_back, xT_3 212 rfl rfl, xT_3 213 rfl rfl⟩
theorem lb_X_sheet : xLB y_X_sheet b_X_sheet 4 (some .int) 3 := ⟨xT_1 1 rfl rfl, xT_3 218 rfl rfl, by decide +kernel, by decide +kernel, by decide +kernel⟩
theorem lk_X_sheet : xLV y_X_sheet b_X_sheet 4 (some .int) 3 := ⟨lb_X_sheet, xT_3 216 rfl rfl, xT_3 217 rfl rfl⟩
theorem lb_X_cell : xLB y_X_cell b_X_cell 5 (some .int) 3 := ⟨xT_1 1 rfl rfl, xT_3 222 rfl rfl, by decide +kernel, by decide +kernel, by decide +kernel⟩
theorem lk_X_cell : xLV y_X_cell b_X_cell 5 (some .int) 3 := ⟨lb_X_cell, xT_3 220 rfl rfl, xT_3 221 rfl rfl⟩
theorem lb_X_copy : xLB y_X_copy b_X_copy 8 (some .int) 5 := ⟨xT_1 1 rfl rfl, xT_3 227 rfl rfl, by decide +kernel, by decide +kernel, by decide +kernel⟩
theorem lk_X_copy : xLV y_X_copy b_X_copy 8 (some .int) 5 := ⟨lb_X_copy, xT_3 225 rfl rfl, xT_3 226 rfl rfl⟩
theorem lb_X_headsBy : xLB y_X_headsBy b_X_headsBy 8 (some .int) 4 := ⟨xT_1 1 rfl rfl, xT_3 238 rfl rfl, by decide +kernel, by decide +kernel, by decide +kernel⟩
theorem lk_X_headsBy : xLV y_X_headsBy b_X_headsBy 8 (some .int) 4 := ⟨lb_X_headsBy, xT_3 236 rfl rfl, xT_3 237 rfl rfl⟩
theorem lb_X_taken : xLB y_X_taken b_X_taken 5 (some .int) 2 := ⟨xT_1 1 rfl rfl, xT_4 3 rfl rfl, by decide +kernel, by decide +kernel, by decide +kernel⟩
theorem lk_X_taken : xLV y_X_taken b_X_taken 5 (some .int) 2 := ⟨lb_X_taken, xT_4 1 rfl rfl, xT_4 2 rfl rfl⟩
theorem lb_X_think : xLB y_X_think b_X_think 2 (none) 1 := ⟨xT_1 1 rfl rfl, xT_3 53 rfl rfl, by decide +kernel, by decide +kernel, by decide +kernel⟩
theorem lk_X_think : xLV y_X_think b_X_think 2 (none) 1 := ⟨lb_X_think, xT_3 52 rfl rfl, xT_p2 4 rfl⟩
theorem lb_X_thinkTurned : xLB y_X_thinkTurned b_X_thinkTurned 5 (none) 4 := ⟨xT_1 1 rfl rfl, xT_3 49 rfl rfl, by decide +kernel, by decide +kernel, by decide +kernel⟩
theorem lk_X_thinkTurned : xLV y_X_thinkTurned b_X_thinkTurned 5 (none) 4 := ⟨lb_X_thinkTurned, xT_3 48 rfl rfl, xT_p2 3 rfl⟩
theorem lb_X_thinkDrawn : xLB y_X_thinkDrawn b_X_thinkDrawn 8 (none) 4 := ⟨xT_1 1 rfl rfl, xT_3 188 rfl rfl, by decide +kernel, by decide +kernel, by decide +kernel⟩
theorem lk_X_thinkDrawn : xLV y_X_thinkDrawn b_X_thinkDrawn 8 (none) 4 := ⟨lb_X_thinkDrawn, xT_3 187 rfl rfl, xT_p2 11 rfl⟩
theorem lb_X_fillTurnedSenses : xLB y_X_fillTurnedSenses b_X_fillTurnedSenses 4 (none) 2 := ⟨xT_1 1 rfl rfl, xT_3 109 rfl rfl, by decide +kernel, by decide +kernel, by decide +kernel⟩
theorem lk_X_fillTurnedSenses : xLV y_X_fillTurnedSenses b_X_fillTurnedSenses 4 (none) 2 := ⟨lb_X_fillTurnedSenses, xT_3 108 rfl rfl, xT_p2 6 rfl⟩
theorem lb_X_turnsAt : xLB y_X_turnsAt b_X_turnsAt 1 (some .int) 1 := ⟨xT_1 1 rfl rfl, xT_3 112 rfl rfl, by decide +kernel, by decide +kernel, by decide +kernel⟩
theorem lk_X_turnsAt : xLS y_X_turnsAt b_X_turnsAt 1 (some .int) 1 := ⟨lb_X_turnsAt, xT_3 111 rfl rfl⟩
theorem lb_X_firstOtherwise : xLB y_X_firstOtherwise b_X_firstOtherwise 5 (some .int) 3 := ⟨xT_1 1 rfl rfl, xT_3 139 rfl rfl, by decide +kernel, by decide +kernel, by decide +kernel⟩
theorem lk_X_firstOtherwise : xLV y_X_firstOtherwise b_X_firstOtherwise 5 (some .int) 3 := ⟨lb_X_firstOtherwise, xT_3 138 rfl rfl, xT_p2 10 rfl⟩
theorem lb_X_raceSeconds : xLB y_X_raceSeconds b_X_raceSeconds 2 (some .int) 2 := ⟨xT_1 1 rfl rfl, xT_3 88 rfl rfl, by decide +kernel, by decide +kernel, by decide +kernel⟩
theorem lk_X_raceSeconds : xLS y_X_raceSeconds b_X_raceSeconds 2 (some .int) 2 := ⟨lb_X_raceSeconds, xT_3 87 rfl rfl⟩
theorem lb_X_raceWait : xLB y_X_raceWait b_X_raceWait 7 (some .int) 4 := ⟨xT_1 1 rfl rfl, xT_3 85 rfl rfl, by decide +kernel, by decide +kernel, by decide +kernel⟩
theorem lk_X_raceWait : xLV y_X_raceWait b_X_raceWait 7 (some .int) 4 := ⟨lb_X_raceWait, xT_3 84 rfl rfl, xT_p2 5 rfl⟩
theorem lb_X_roundedUp : xLB y_X_roundedUp b_X_roundedUp 2 (some .int) 2 := ⟨xT_1 1 rfl rfl, xT_3 91 rfl rfl, by decide +kernel, by decide +kernel, by decide +kernel⟩
theorem lk_X_roundedUp : xLS y_X_roundedUp b_X_roundedUp 2 (some .int) 2 := ⟨lb_X_roundedUp, xT_3 90 rfl rfl⟩
theorem lb_X_greatestShared : xLB y_X_greatestShared b_X_greatestShared 6 (some .int) 2 := ⟨xT_1 1 rfl rfl, xT_3 202 rfl rfl, by decide +kernel, by decide +kernel, by decide +kernel⟩
theorem lk_X_greatestShared : xLS y_X_greatestShared b_X_greatestShared 6 (some .int) 2 := ⟨lb_X_greatestShared, xT_3 201 rfl rfl⟩
theorem lb_X_headAt : xLB y_X_headAt b_X_headAt 3 (some (.object "RoundAndRound$Head")) 1 := ⟨xT_1 1 rfl rfl, xT_2 148 rfl rfl, by decide +kernel, by decide +kernel, by decide +kernel⟩
theorem lk_X_headAt : xLV y_X_headAt b_X_headAt 3 (some (.object "RoundAndRound$Head")) 1 := ⟨lb_X_headAt, xT_2 147 rfl rfl, xT_p2 2 rfl⟩
theorem lb_X_imageHeadAt : xLB y_X_imageHeadAt b_X_imageHeadAt 3 (some (.object "RoundAndRound$Head")) 1 := ⟨xT_1 1 rfl rfl, xT_3 210 rfl rfl, by decide +kernel, by decide +kernel, by decide +kernel⟩
theorem lk_X_imageHeadAt : xLV y_X_imageHeadAt b_X_imageHeadAt 3 (some (.object "RoundAndRound$Head")) 1 := ⟨lb_X_imageHeadAt, xT_3 209 rfl rfl, xT_p2 12 rfl⟩
theorem lb_X_textAt : xLB y_X_textAt b_X_textAt 3 (some (.object "RoundAndRound$Text")) 1 := ⟨xT_1 1 rfl rfl, xT_1 208 rfl rfl, by decide +kernel, by decide +kernel, by decide +kernel⟩
theorem lk_X_textAt : xLV y_X_textAt b_X_textAt 3 (some (.object "RoundAndRound$Text")) 1 := ⟨lb_X_textAt, xT_1 207 rfl rfl, xT_p1 0 rfl⟩
theorem lb_X_law : xLB y_X_law b_X_law 1 (some (.object "RoundAndRound$Text")) 0 := ⟨xT_1 1 rfl rfl, xT_2 144 rfl rfl, by decide +kernel, by decide +kernel, by decide +kernel⟩
theorem lk_X_law : xLV y_X_law b_X_law 1 (some (.object "RoundAndRound$Text")) 0 := ⟨lb_X_law, xT_2 143 rfl rfl, xT_p2 1 rfl⟩
theorem lb_X_sheetAt : xLB y_X_sheetAt b_X_sheetAt 3 (some (.object "RoundAndRound$Sheet")) 1 := ⟨xT_1 1 rfl rfl, xT_3 131 rfl rfl, by decide +kernel, by decide +kernel, by decide +kernel⟩
theorem lk_X_sheetAt : xLV y_X_sheetAt b_X_sheetAt 3 (some (.object "RoundAndRound$Sheet")) 1 := ⟨lb_X_sheetAt, xT_3 130 rfl rfl, xT_p2 9 rfl⟩
theorem lb_X_within : xLB y_X_within b_X_within 3 (some .boolean) 3 := ⟨xT_1 1 rfl rfl, xT_2 118 rfl rfl, by decide +kernel, by decide +kernel, by decide +kernel⟩
theorem lk_X_within : xLS y_X_within b_X_within 3 (some .boolean) 3 := ⟨lb_X_within, xT_2 117 rfl rfl⟩
theorem lb_X_bounded : xLB y_X_bounded b_X_bounded 3 (some .int) 3 := ⟨xT_1 1 rfl rfl, xT_2 171 rfl rfl, by decide +kernel, by decide +kernel, by decide +kernel⟩
theorem lk_X_bounded : xLS y_X_bounded b_X_bounded 3 (some .int) 3 := ⟨lb_X_bounded, xT_2 170 rfl rfl⟩
theorem lb_X_isByte : xLB y_X_isByte b_X_isByte 1 (some .boolean) 1 := ⟨xT_1 1 rfl rfl, xT_2 121 rfl rfl, by decide +kernel, by decide +kernel, by decide +kernel⟩
theorem lk_X_isByte : xLS y_X_isByte b_X_isByte 1 (some .boolean) 1 := ⟨lb_X_isByte, xT_2 120 rfl rfl⟩
theorem lb_X_isHead : xLB y_X_isHead b_X_isHead 2 (some .boolean) 1 := ⟨xT_1 1 rfl rfl, xT_2 137 rfl rfl, by decide +kernel, by decide +kernel, by decide +kernel⟩
theorem lk_X_isHead : xLV y_X_isHead b_X_isHead 2 (some .boolean) 1 := ⟨lb_X_isHead, xT_2 136 rfl rfl, xT_p2 0 rfl⟩
theorem lb_X_isKind : xLB y_X_isKind b_X_isKind 1 (some .boolean) 1 := ⟨xT_1 1 rfl rfl, xT_2 180 rfl rfl, by decide +kernel, by decide +kernel, by decide +kernel⟩
theorem lk_X_isKind : xLS y_X_isKind b_X_isKind 1 (some .boolean) 1 := ⟨lb_X_isKind, xT_2 179 rfl rfl⟩
theorem lb_X_isSheet : xLB y_X_isSheet b_X_isSheet 1 (some .boolean) 1 := ⟨xT_1 1 rfl rfl, xT_3 127 rfl rfl, by decide +kernel, by decide +kernel, by decide +kernel⟩
theorem lk_X_isSheet : xLS y_X_isSheet b_X_isSheet 1 (some .boolean) 1 := ⟨lb_X_isSheet, xT_3 126 rfl rfl⟩
theorem lb_X_isTurns : xLB y_X_isTurns b_X_isTurns 1 (some .boolean) 1 := ⟨xT_1 1 rfl rfl, xT_2 212 rfl rfl, by decide +kernel, by decide +kernel, by decide +kernel⟩
theorem lk_X_isTurns : xLS y_X_isTurns b_X_isTurns 1 (some .boolean) 1 := ⟨lb_X_isTurns, xT_2 211 rfl rfl⟩
theorem lb_X_isSeconds : xLB y_X_isSeconds b_X_isSeconds 1 (some .boolean) 1 := ⟨xT_1 1 rfl rfl, xT_3 7 rfl rfl, by decide +kernel, by decide +kernel, by decide +kernel⟩
theorem lk_X_isSeconds : xLS y_X_isSeconds b_X_isSeconds 1 (some .boolean) 1 := ⟨lb_X_isSeconds, xT_3 6 rfl rfl⟩
theorem lb_X_isPace : xLB y_X_isPace b_X_isPace 1 (some .boolean) 1 := ⟨xT_1 1 rfl rfl, xT_2 215 rfl rfl, by decide +kernel, by decide +kernel, by decide +kernel⟩
theorem lk_X_isPace : xLS y_X_isPace b_X_isPace 1 (some .boolean) 1 := ⟨lb_X_isPace, xT_2 214 rfl rfl⟩
theorem lb_X_isSpeedPace : xLB y_X_isSpeedPace b_X_isSpeedPace 1 (some .boolean) 1 := ⟨xT_1 1 rfl rfl, xT_3 45 rfl rfl, by decide +kernel, by decide +kernel, by decide +kernel⟩
theorem lk_X_isSpeedPace : xLS y_X_isSpeedPace b_X_isSpeedPace 1 (some .boolean) 1 := ⟨lb_X_isSpeedPace, xT_3 44 rfl rfl⟩
theorem lb_X_isNumberAndEyes : xLB y_X_isNumberAndEyes b_X_isNumberAndEyes 2 (some .boolean) 2 := ⟨xT_1 1 rfl rfl, xT_2 140 rfl rfl, by decide +kernel, by decide +kernel, by decide +kernel⟩
theorem lk_X_isNumberAndEyes : xLS y_X_isNumberAndEyes b_X_isNumberAndEyes 2 (some .boolean) 2 := ⟨lb_X_isNumberAndEyes, xT_2 139 rfl rfl⟩
theorem lb_X_isWaitSpeedPace : xLB y_X_isWaitSpeedPace b_X_isWaitSpeedPace 1 (some .boolean) 1 := ⟨xT_1 1 rfl rfl, xT_3 42 rfl rfl, by decide +kernel, by decide +kernel, by decide +kernel⟩
theorem lk_X_isWaitSpeedPace : xLS y_X_isWaitSpeedPace b_X_isWaitSpeedPace 1 (some .boolean) 1 := ⟨lb_X_isWaitSpeedPace, xT_3 41 rfl rfl⟩
theorem lb_X_isOddsPace : xLB y_X_isOddsPace b_X_isOddsPace 1 (some .boolean) 1 := ⟨xT_1 1 rfl rfl, xT_3 184 rfl rfl, by decide +kernel, by decide +kernel, by decide +kernel⟩
theorem lk_X_isOddsPace : xLS y_X_isOddsPace b_X_isOddsPace 1 (some .boolean) 1 := ⟨lb_X_isOddsPace, xT_3 183 rfl rfl⟩
theorem lb_X_isSecondsSeeds : xLB y_X_isSecondsSeeds b_X_isSecondsSeeds 1 (some .boolean) 1 := ⟨xT_1 1 rfl rfl, xT_3 198 rfl rfl, by decide +kernel, by decide +kernel, by decide +kernel⟩
theorem lk_X_isSecondsSeeds : xLS y_X_isSecondsSeeds b_X_isSecondsSeeds 1 (some .boolean) 1 := ⟨lb_X_isSecondsSeeds, xT_3 197 rfl rfl⟩
theorem lb_X_isRace : xLB y_X_isRace b_X_isRace 4 (some .boolean) 4 := ⟨xT_1 1 rfl rfl, xT_3 80 rfl rfl, by decide +kernel, by decide +kernel, by decide +kernel⟩
theorem lk_X_isRace : xLS y_X_isRace b_X_isRace 4 (some .boolean) 4 := ⟨lb_X_isRace, xT_3 79 rfl rfl⟩
theorem lb_X_refusalOfSheet : xLB y_X_refusalOfSheet b_X_refusalOfSheet 2 (some .int) 1 := ⟨xT_1 1 rfl rfl, xT_3 124 rfl rfl, by decide +kernel, by decide +kernel, by decide +kernel⟩
theorem lk_X_refusalOfSheet : xLV y_X_refusalOfSheet b_X_refusalOfSheet 2 (some .int) 1 := ⟨lb_X_refusalOfSheet, xT_3 123 rfl rfl, xT_p2 8 rfl⟩
theorem lb_X_refusalOfTold : xLB y_X_refusalOfTold b_X_refusalOfTold 4 (some .int) 2 := ⟨xT_1 1 rfl rfl, xT_3 120 rfl rfl, by decide +kernel, by decide +kernel, by decide +kernel⟩
theorem lk_X_refusalOfTold : xLV y_X_refusalOfTold b_X_refusalOfTold 4 (some .int) 2 := ⟨lb_X_refusalOfTold, xT_3 119 rfl rfl, xT_p2 7 rfl⟩
theorem lb_Model_init : xLB y_Model_init b_Model_init 2 (none) 0 := ⟨xT_1 10 rfl rfl, xT_4 14 rfl rfl, by decide +kernel, by decide +kernel, by decide +kernel⟩
theorem lk_Model_init : xLI y_Model_init b_Model_init 2 0 := ⟨lb_Model_init, rfl, xT_4 13 rfl rfl⟩
theorem lb_Model_in : xLB y_Model_in b_Model_in 3 (some .boolean) 3 := ⟨xT_1 10 rfl rfl, xT_4 26 rfl rfl, by decide +kernel, by decide +kernel, by decide +kernel⟩
theorem lk_Model_in : xLS y_Model_in b_Model_in 3 (some .boolean) 3 := ⟨lb_Model_in, xT_4 25 rfl rfl⟩
theorem lb_Model_within : xLB y_Model_within b_Model_within 3 (some .int) 3 := ⟨xT_1 10 rfl rfl, xT_4 203 rfl rfl, by decide +kernel, by decide +kernel, by decide +kernel⟩
theorem lk_Model_within : xLS y_Model_within b_Model_within 3 (some .int) 3 := ⟨lb_Model_within, xT_4 202 rfl rfl⟩
theorem lb_Model_size0 : xLB y_Model_size0 b_Model_size0 1 (some .int) 1 := ⟨xT_1 10 rfl rfl, xT_4 239 rfl rfl, by decide +kernel, by decide +kernel, by decide +kernel⟩
theorem lk_Model_size0 : xLS y_Model_size0 b_Model_size0 1 (some .int) 1 := ⟨lb_Model_size0, xT_4 238 rfl rfl⟩
theorem lb_Model_isHead : xLB y_Model_isHead b_Model_isHead 2 (some .boolean) 1 := ⟨xT_1 10 rfl rfl, xT_4 189 rfl rfl, by decide +kernel, by decide +kernel, by decide +kernel⟩
theorem lk_Model_isHead : xLV y_Model_isHead b_Model_isHead 2 (some .boolean) 1 := ⟨lb_Model_isHead, xT_4 188 rfl rfl, xT_p3 6 rfl⟩
theorem lb_Model_count : xLB y_Model_count b_Model_count 2 (some .int) 1 := ⟨xT_1 10 rfl rfl, xT_4 169 rfl rfl, by decide +kernel, by decide +kernel, by decide +kernel⟩
theorem lk_Model_count : xLV y_Model_count b_Model_count 2 (some .int) 1 := ⟨lb_Model_count, xT_4 167 rfl rfl, xT_4 168 rfl rfl⟩
theorem lb_Model_isByte : xLB y_Model_isByte b_Model_isByte 1 (some .boolean) 1 := ⟨xT_1 10 rfl rfl, xT_4 176 rfl rfl, by decide +kernel, by decide +kernel, by decide +kernel⟩
theorem lk_Model_isByte : xLS y_Model_isByte b_Model_isByte 1 (some .boolean) 1 := ⟨lb_Model_isByte, xT_4 175 rfl rfl⟩
theorem lb_Model_feed : xLB y_Model_feed b_Model_feed 8 (some .int) 6 := ⟨xT_1 10 rfl rfl, xT_4 173 rfl rfl, by decide +kernel, by decide +kernel, by decide +kernel⟩
theorem lk_Model_feed : xLV y_Model_feed b_Model_feed 8 (some .int) 6 := ⟨lb_Model_feed, xT_4 171 rfl rfl, xT_4 172 rfl rfl⟩
theorem lb_Model_wordFrom : xLB y_Model_wordFrom b_Model_wordFrom 6 (some .int) 2 := ⟨xT_1 10 rfl rfl, xT_4 30 rfl rfl, by decide +kernel, by decide +kernel, by decide +kernel⟩
theorem lk_Model_wordFrom : xLV y_Model_wordFrom b_Model_wordFrom 6 (some .int) 2 := ⟨lb_Model_wordFrom, xT_4 29 rfl rfl, xT_p2 14 rfl⟩
theorem lb_Model_next : xLB y_Model_next b_Model_next 3 (none) 0 := ⟨xT_1 10 rfl rfl, xT_4 23 rfl rfl, by decide +kernel, by decide +kernel, by decide +kernel⟩
theorem lk_Model_next : xLV y_Model_next b_Model_next 3 (none) 0 := ⟨lb_Model_next, xT_4 22 rfl rfl, xT_p2 13 rfl⟩
theorem lb_Model_rank : xLB y_Model_rank b_Model_rank 1 (some .int) 1 := ⟨xT_1 10 rfl rfl, xT_4 46 rfl rfl, by decide +kernel, by decide +kernel, by decide +kernel⟩
theorem lk_Model_rank : xLS y_Model_rank b_Model_rank 1 (some .int) 1 := ⟨lb_Model_rank, xT_4 45 rfl rfl⟩
theorem lb_Model_puts : xLB y_Model_puts b_Model_puts 2 (none) 1 := ⟨xT_1 10 rfl rfl, xT_4 39 rfl rfl, by decide +kernel, by decide +kernel, by decide +kernel⟩
theorem lk_Model_puts : xLV y_Model_puts b_Model_puts 2 (none) 1 := ⟨lb_Model_puts, xT_4 38 rfl rfl, xT_p3 0 rfl⟩
theorem lb_Model_unwinds : xLB y_Model_unwinds b_Model_unwinds 3 (none) 1 := ⟨xT_1 10 rfl rfl, xT_4 43 rfl rfl, by decide +kernel, by decide +kernel, by decide +kernel⟩
theorem lk_Model_unwinds : xLV y_Model_unwinds b_Model_unwinds 3 (none) 1 := ⟨lb_Model_unwinds, xT_4 42 rfl rfl, xT_p3 1 rfl⟩
theorem lb_Model_holds : xLB y_Model_holds b_Model_holds 2 (none) 1 := ⟨xT_1 10 rfl rfl, xT_4 54 rfl rfl, by decide +kernel, by decide +kernel, by decide +kernel⟩
theorem lk_Model_holds : xLV y_Model_holds b_Model_holds 2 (none) 1 := ⟨lb_Model_holds, xT_4 53 rfl rfl, xT_p3 3 rfl⟩
theorem lb_Model_opensOne : xLB y_Model_opensOne b_Model_opensOne 2 (some .boolean) 1 := ⟨xT_1 10 rfl rfl, xT_4 50 rfl rfl, by decide +kernel, by decide +kernel, by decide +kernel⟩
theorem lk_Model_opensOne : xLV y_Model_opensOne b_Model_opensOne 2 (some .boolean) 1 := ⟨lb_Model_opensOne, xT_4 49 rfl rfl, xT_p3 2 rfl⟩
theorem lb_Model_between : xLB y_Model_between b_Model_between 2 (some .boolean) 1 := ⟨xT_1 10 rfl rfl, xT_4 62 rfl rfl, by decide +kernel, by decide +kernel, by decide +kernel⟩
theorem lk_Model_between : xLV y_Model_between b_Model_between 2 (some .boolean) 1 := ⟨lb_Model_between, xT_4 61 rfl rfl, xT_p3 5 rfl⟩
theorem lb_Model_signOf : xLB y_Model_signOf b_Model_signOf 1 (some .int) 0 := ⟨xT_1 10 rfl rfl, xT_4 58 rfl rfl, by decide +kernel, by decide +kernel, by decide +kernel⟩
theorem lk_Model_signOf : xLV y_Model_signOf b_Model_signOf 1 (some .int) 0 := ⟨lb_Model_signOf, xT_4 57 rfl rfl, xT_p3 4 rfl⟩
theorem lb_Model_eRead : xLB y_Model_eRead b_Model_eRead 4 (some .boolean) 0 := ⟨xT_1 10 rfl rfl, xT_4 34 rfl rfl, by decide +kernel, by decide +kernel, by decide +kernel⟩
theorem lk_Model_eRead : xLV y_Model_eRead b_Model_eRead 4 (some .boolean) 0 := ⟨lb_Model_eRead, xT_4 33 rfl rfl, xT_p2 15 rfl⟩
theorem lb_Model_text : xLB y_Model_text b_Model_text 3 (some .int) 0 := ⟨xT_1 10 rfl rfl, xT_4 19 rfl rfl, by decide +kernel, by decide +kernel, by decide +kernel⟩
theorem lk_Model_text : xLV y_Model_text b_Model_text 3 (some .int) 0 := ⟨lb_Model_text, xT_4 17 rfl rfl, xT_4 18 rfl rfl⟩
theorem lb_Model_two : xLB y_Model_two b_Model_two 3 (some .int) 3 := ⟨xT_1 10 rfl rfl, xT_4 200 rfl rfl, by decide +kernel, by decide +kernel, by decide +kernel⟩
theorem lk_Model_two : xLS y_Model_two b_Model_two 3 (some .int) 3 := ⟨lb_Model_two, xT_4 199 rfl rfl⟩
theorem lb_Model_says : xLB y_Model_says b_Model_says 5 (some .int) 1 := ⟨xT_1 10 rfl rfl, xT_4 197 rfl rfl, by decide +kernel, by decide +kernel, by decide +kernel⟩
theorem lk_Model_says : xLV y_Model_says b_Model_says 5 (some .int) 1 := ⟨lb_Model_says, xT_4 196 rfl rfl, xT_p3 8 rfl⟩
theorem lb_Model_force : xLB y_Model_force b_Model_force 3 (some .int) 1 := ⟨xT_1 10 rfl rfl, xT_4 181 rfl rfl, by decide +kernel, by decide +kernel, by decide +kernel⟩
theorem lk_Model_force : xLV y_Model_force b_Model_force 3 (some .int) 1 := ⟨lb_Model_force, xT_4 179 rfl rfl, xT_4 180 rfl rfl⟩
theorem lb_Model_asksOf : xLB y_Model_asksOf b_Model_asksOf 5 (some .int) 4 := ⟨xT_1 10 rfl rfl, xT_4 193 rfl rfl, by decide +kernel, by decide +kernel, by decide +kernel⟩
theorem lk_Model_asksOf : xLV y_Model_asksOf b_Model_asksOf 5 (some .int) 4 := ⟨lb_Model_asksOf, xT_4 192 rfl rfl, xT_p3 7 rfl⟩
theorem lb_Model_asks : xLB y_Model_asks b_Model_asks 4 (some .int) 3 := ⟨xT_1 10 rfl rfl, xT_4 185 rfl rfl, by decide +kernel, by decide +kernel, by decide +kernel⟩
theorem lk_Model_asks : xLV y_Model_asks b_Model_asks 4 (some .int) 3 := ⟨lb_Model_asks, xT_4 183 rfl rfl, xT_4 184 rfl rfl⟩
theorem lb_Model_head : xLB y_Model_head b_Model_head 4 (some .int) 2 := ⟨xT_1 10 rfl rfl, xT_4 207 rfl rfl, by decide +kernel, by decide +kernel, by decide +kernel⟩
theorem lk_Model_head : xLV y_Model_head b_Model_head 4 (some .int) 2 := ⟨lb_Model_head, xT_4 205 rfl rfl, xT_4 206 rfl rfl⟩
theorem lb_Model_set : xLB y_Model_set b_Model_set 5 (some .int) 3 := ⟨xT_1 10 rfl rfl, xT_4 211 rfl rfl, by decide +kernel, by decide +kernel, by decide +kernel⟩
theorem lk_Model_set : xLV y_Model_set b_Model_set 5 (some .int) 3 := ⟨lb_Model_set, xT_4 209 rfl rfl, xT_4 210 rfl rfl⟩
theorem lb_Model_fallsFrom : xLB y_Model_fallsFrom b_Model_fallsFrom 2 (some .int) 1 := ⟨xT_1 10 rfl rfl, xT_4 221 rfl rfl, by decide +kernel, by decide +kernel, by decide +kernel⟩
theorem lk_Model_fallsFrom : xLV y_Model_fallsFrom b_Model_fallsFrom 2 (some .int) 1 := ⟨lb_Model_fallsFrom, xT_4 220 rfl rfl, xT_p3 9 rfl⟩
theorem lb_Model_told : xLB y_Model_told b_Model_told 3 (some .int) 2 := ⟨xT_1 10 rfl rfl, xT_4 217 rfl rfl, by decide +kernel, by decide +kernel, by decide +kernel⟩
theorem lk_Model_told : xLV y_Model_told b_Model_told 3 (some .int) 2 := ⟨lb_Model_told, xT_4 215 rfl rfl, xT_4 216 rfl rfl⟩
theorem lb_Model_buildsOf : xLB y_Model_buildsOf b_Model_buildsOf 4 (some .int) 2 := ⟨xT_1 10 rfl rfl, xT_5 3 rfl rfl, by decide +kernel, by decide +kernel, by decide +kernel⟩
theorem lk_Model_buildsOf : xLV y_Model_buildsOf b_Model_buildsOf 4 (some .int) 2 := ⟨lb_Model_buildsOf, xT_5 2 rfl rfl, xT_p3 12 rfl⟩
theorem lb_Model_fadesOf : xLB y_Model_fadesOf b_Model_fadesOf 4 (some .int) 2 := ⟨xT_1 10 rfl rfl, xT_5 11 rfl rfl, by decide +kernel, by decide +kernel, by decide +kernel⟩
theorem lk_Model_fadesOf : xLV y_Model_fadesOf b_Model_fadesOf 4 (some .int) 2 := ⟨lb_Model_fadesOf, xT_5 10 rfl rfl, xT_p3 14 rfl⟩
theorem lb_Model_fade : xLB y_Model_fade b_Model_fade 3 (none) 2 := ⟨xT_1 10 rfl rfl, xT_5 7 rfl rfl, by decide +kernel, by decide +kernel, by decide +kernel⟩
theorem lk_Model_fade : xLV y_Model_fade b_Model_fade 3 (none) 2 := ⟨lb_Model_fade, xT_5 6 rfl rfl, xT_p3 13 rfl⟩
theorem lb_Model_turns : xLB y_Model_turns b_Model_turns 6 (none) 3 := ⟨xT_1 10 rfl rfl, xT_4 236 rfl rfl, by decide +kernel, by decide +kernel, by decide +kernel⟩
theorem lk_Model_turns : xLV y_Model_turns b_Model_turns 6 (none) 3 := ⟨lb_Model_turns, xT_4 235 rfl rfl, xT_p3 11 rfl⟩
theorem lb_Model_waits : xLB y_Model_waits b_Model_waits 5 (none) 3 := ⟨xT_1 10 rfl rfl, xT_5 23 rfl rfl, by decide +kernel, by decide +kernel, by decide +kernel⟩
theorem lk_Model_waits : xLV y_Model_waits b_Model_waits 5 (none) 3 := ⟨lb_Model_waits, xT_5 22 rfl rfl, xT_p4 0 rfl⟩
theorem lb_Model_step : xLB y_Model_step b_Model_step 6 (none) 4 := ⟨xT_1 10 rfl rfl, xT_5 35 rfl rfl, by decide +kernel, by decide +kernel, by decide +kernel⟩
theorem lk_Model_step : xLV y_Model_step b_Model_step 6 (none) 4 := ⟨lb_Model_step, xT_5 34 rfl rfl, xT_p4 2 rfl⟩
theorem lb_Model_walks : xLB y_Model_walks b_Model_walks 6 (none) 4 := ⟨xT_1 10 rfl rfl, xT_5 31 rfl rfl, by decide +kernel, by decide +kernel, by decide +kernel⟩
theorem lk_Model_walks : xLV y_Model_walks b_Model_walks 6 (none) 4 := ⟨lb_Model_walks, xT_5 30 rfl rfl, xT_p4 1 rfl⟩
theorem lb_Model_takes : xLB y_Model_takes b_Model_takes 2 (none) 1 := ⟨xT_1 10 rfl rfl, xT_4 232 rfl rfl, by decide +kernel, by decide +kernel, by decide +kernel⟩
theorem lk_Model_takes : xLV y_Model_takes b_Model_takes 2 (none) 1 := ⟨lb_Model_takes, xT_4 231 rfl rfl, xT_p3 10 rfl⟩
theorem lb_Model_lays : xLB y_Model_lays b_Model_lays 2 (none) 1 := ⟨xT_1 10 rfl rfl, xT_5 15 rfl rfl, by decide +kernel, by decide +kernel, by decide +kernel⟩
theorem lk_Model_lays : xLV y_Model_lays b_Model_lays 2 (none) 1 := ⟨lb_Model_lays, xT_5 14 rfl rfl, xT_p3 15 rfl⟩
theorem lb_Model_isTurned : xLB y_Model_isTurned b_Model_isTurned 1 (some .boolean) 1 := ⟨xT_1 10 rfl rfl, xT_4 228 rfl rfl, by decide +kernel, by decide +kernel, by decide +kernel⟩
theorem lk_Model_isTurned : xLS y_Model_isTurned b_Model_isTurned 1 (some .boolean) 1 := ⟨lb_Model_isTurned, xT_4 227 rfl rfl⟩
theorem lb_Model_turn : xLB y_Model_turn b_Model_turn 4 (some .int) 3 := ⟨xT_1 10 rfl rfl, xT_4 225 rfl rfl, by decide +kernel, by decide +kernel, by decide +kernel⟩
theorem lk_Model_turn : xLV y_Model_turn b_Model_turn 4 (some .int) 3 := ⟨lb_Model_turn, xT_4 223 rfl rfl, xT_4 224 rfl rfl⟩
theorem lb_Model_rest : xLB y_Model_rest b_Model_rest 4 (some .int) 3 := ⟨xT_1 10 rfl rfl, xT_5 19 rfl rfl, by decide +kernel, by decide +kernel, by decide +kernel⟩
theorem lk_Model_rest : xLV y_Model_rest b_Model_rest 4 (some .int) 3 := ⟨lb_Model_rest, xT_5 17 rfl rfl, xT_5 18 rfl rfl⟩
theorem lb_Model_walk : xLB y_Model_walk b_Model_walk 4 (some .int) 3 := ⟨xT_1 10 rfl rfl, xT_5 27 rfl rfl, by decide +kernel, by decide +kernel, by decide +kernel⟩
theorem lk_Model_walk : xLV y_Model_walk b_Model_walk 4 (some .int) 3 := ⟨lb_Model_walk, xT_5 25 rfl rfl, xT_5 26 rfl rfl⟩
theorem lb_Model_up : xLB y_Model_up b_Model_up 3 (some .int) 1 := ⟨xT_1 10 rfl rfl, xT_5 41 rfl rfl, by decide +kernel, by decide +kernel, by decide +kernel⟩
theorem lk_Model_up : xLV y_Model_up b_Model_up 3 (some .int) 1 := ⟨lb_Model_up, xT_5 39 rfl rfl, xT_5 40 rfl rfl⟩
theorem lb_Model_begins : xLB y_Model_begins b_Model_begins 2 (none) 1 := ⟨xT_1 10 rfl rfl, xT_5 56 rfl rfl, by decide +kernel, by decide +kernel, by decide +kernel⟩
theorem lk_Model_begins : xLV y_Model_begins b_Model_begins 2 (none) 1 := ⟨lb_Model_begins, xT_5 55 rfl rfl, xT_p4 4 rfl⟩
theorem lb_Model_tries : xLB y_Model_tries b_Model_tries 7 (none) 6 := ⟨xT_1 10 rfl rfl, xT_5 52 rfl rfl, by decide +kernel, by decide +kernel, by decide +kernel⟩
theorem lk_Model_tries : xLV y_Model_tries b_Model_tries 7 (none) 6 := ⟨lb_Model_tries, xT_5 51 rfl rfl, xT_p4 3 rfl⟩
theorem lb_Model_areDigits : xLB y_Model_areDigits b_Model_areDigits 1 (some .boolean) 1 := ⟨xT_1 10 rfl rfl, xT_5 48 rfl rfl, by decide +kernel, by decide +kernel, by decide +kernel⟩
theorem lk_Model_areDigits : xLS y_Model_areDigits b_Model_areDigits 1 (some .boolean) 1 := ⟨lb_Model_areDigits, xT_5 47 rfl rfl⟩
theorem lb_Model_ends : xLB y_Model_ends b_Model_ends 7 (some .int) 5 := ⟨xT_1 10 rfl rfl, xT_5 45 rfl rfl, by decide +kernel, by decide +kernel, by decide +kernel⟩
theorem lk_Model_ends : xLV y_Model_ends b_Model_ends 7 (some .int) 5 := ⟨lb_Model_ends, xT_5 43 rfl rfl, xT_5 44 rfl rfl⟩
theorem lb_Model_stands : xLB y_Model_stands b_Model_stands 5 (some .int) 2 := ⟨xT_1 10 rfl rfl, xT_5 60 rfl rfl, by decide +kernel, by decide +kernel, by decide +kernel⟩
theorem lk_Model_stands : xLV y_Model_stands b_Model_stands 5 (some .int) 2 := ⟨lb_Model_stands, xT_5 58 rfl rfl, xT_5 59 rfl rfl⟩
theorem lb_Model_undo : xLB y_Model_undo b_Model_undo 8 (some .int) 3 := ⟨xT_1 10 rfl rfl, xT_5 64 rfl rfl, by decide +kernel, by decide +kernel, by decide +kernel⟩
theorem lk_Model_undo : xLV y_Model_undo b_Model_undo 8 (some .int) 3 := ⟨lb_Model_undo, xT_5 62 rfl rfl, xT_5 63 rfl rfl⟩
theorem lb_Model_fine : xLB y_Model_fine b_Model_fine 4 (some .int) 2 := ⟨xT_1 10 rfl rfl, xT_5 68 rfl rfl, by decide +kernel, by decide +kernel, by decide +kernel⟩
theorem lk_Model_fine : xLV y_Model_fine b_Model_fine 4 (some .int) 2 := ⟨lb_Model_fine, xT_5 66 rfl rfl, xT_5 67 rfl rfl⟩
theorem lb_Model_isRace : xLB y_Model_isRace b_Model_isRace 4 (some .boolean) 4 := ⟨xT_1 10 rfl rfl, xT_5 75 rfl rfl, by decide +kernel, by decide +kernel, by decide +kernel⟩
theorem lk_Model_isRace : xLS y_Model_isRace b_Model_isRace 4 (some .boolean) 4 := ⟨lb_Model_isRace, xT_5 74 rfl rfl⟩
theorem lb_Model_raceOf : xLB y_Model_raceOf b_Model_raceOf 9 (some .int) 5 := ⟨xT_1 10 rfl rfl, xT_5 80 rfl rfl, by decide +kernel, by decide +kernel, by decide +kernel⟩
theorem lk_Model_raceOf : xLV y_Model_raceOf b_Model_raceOf 9 (some .int) 5 := ⟨lb_Model_raceOf, xT_5 79 rfl rfl, xT_p4 5 rfl⟩
theorem lb_Model_race : xLB y_Model_race b_Model_race 6 (some .int) 5 := ⟨xT_1 10 rfl rfl, xT_5 72 rfl rfl, by decide +kernel, by decide +kernel, by decide +kernel⟩
theorem lk_Model_race : xLV y_Model_race b_Model_race 6 (some .int) 5 := ⟨lb_Model_race, xT_5 70 rfl rfl, xT_5 71 rfl rfl⟩
theorem lb_Model_wins : xLB y_Model_wins b_Model_wins 10 (some .int) 4 := ⟨xT_1 10 rfl rfl, xT_5 84 rfl rfl, by decide +kernel, by decide +kernel, by decide +kernel⟩
theorem lk_Model_wins : xLV y_Model_wins b_Model_wins 10 (some .int) 4 := ⟨lb_Model_wins, xT_5 82 rfl rfl, xT_5 83 rfl rfl⟩
theorem lb_Model_pace : xLB y_Model_pace b_Model_pace 10 (some .int) 5 := ⟨xT_1 10 rfl rfl, xT_5 88 rfl rfl, by decide +kernel, by decide +kernel, by decide +kernel⟩
theorem lk_Model_pace : xLV y_Model_pace b_Model_pace 10 (some .int) 5 := ⟨lb_Model_pace, xT_5 86 rfl rfl, xT_5 87 rfl rfl⟩
theorem lb_Model_byNumber : xLB y_Model_byNumber b_Model_byNumber 1 (some .int) 1 := ⟨xT_1 10 rfl rfl, xT_5 95 rfl rfl, by decide +kernel, by decide +kernel, by decide +kernel⟩
theorem lk_Model_byNumber : xLS y_Model_byNumber b_Model_byNumber 1 (some .int) 1 := ⟨lb_Model_byNumber, xT_5 94 rfl rfl⟩
theorem lb_Model_roses : xLB y_Model_roses b_Model_roses 11 (some .int) 5 := ⟨xT_1 10 rfl rfl, xT_5 92 rfl rfl, by decide +kernel, by decide +kernel, by decide +kernel⟩
theorem lk_Model_roses : xLV y_Model_roses b_Model_roses 11 (some .int) 5 := ⟨lb_Model_roses, xT_5 90 rfl rfl, xT_5 91 rfl rfl⟩
theorem lb_Model_sheetWrong : xLB y_Model_sheetWrong b_Model_sheetWrong 2 (some .int) 1 := ⟨xT_1 10 rfl rfl, xT_5 107 rfl rfl, by decide +kernel, by decide +kernel, by decide +kernel⟩
theorem lk_Model_sheetWrong : xLV y_Model_sheetWrong b_Model_sheetWrong 2 (some .int) 1 := ⟨lb_Model_sheetWrong, xT_5 106 rfl rfl, xT_p4 7 rfl⟩
theorem lb_Model_toldWrong : xLB y_Model_toldWrong b_Model_toldWrong 6 (some .int) 4 := ⟨xT_1 10 rfl rfl, xT_5 103 rfl rfl, by decide +kernel, by decide +kernel, by decide +kernel⟩
theorem lk_Model_toldWrong : xLV y_Model_toldWrong b_Model_toldWrong 6 (some .int) 4 := ⟨lb_Model_toldWrong, xT_5 102 rfl rfl, xT_p4 6 rfl⟩
theorem lb_Model_unlike : xLB y_Model_unlike b_Model_unlike 6 (some .int) 4 := ⟨xT_1 10 rfl rfl, xT_5 111 rfl rfl, by decide +kernel, by decide +kernel, by decide +kernel⟩
theorem lk_Model_unlike : xLV y_Model_unlike b_Model_unlike 6 (some .int) 4 := ⟨lb_Model_unlike, xT_5 110 rfl rfl, xT_p4 8 rfl⟩
theorem lb_Model_judge : xLB y_Model_judge b_Model_judge 6 (some .int) 4 := ⟨xT_1 10 rfl rfl, xT_5 99 rfl rfl, by decide +kernel, by decide +kernel, by decide +kernel⟩
theorem lk_Model_judge : xLV y_Model_judge b_Model_judge 6 (some .int) 4 := ⟨lb_Model_judge, xT_5 97 rfl rfl, xT_5 98 rfl rfl⟩
theorem lb_Model_turned : xLB y_Model_turned b_Model_turned 10 (some .int) 4 := ⟨xT_1 10 rfl rfl, xT_5 115 rfl rfl, by decide +kernel, by decide +kernel, by decide +kernel⟩
theorem lk_Model_turned : xLV y_Model_turned b_Model_turned 10 (some .int) 4 := ⟨lb_Model_turned, xT_5 113 rfl rfl, xT_5 114 rfl rfl⟩
theorem lb_Model_kinds : xLB y_Model_kinds b_Model_kinds 12 (some .int) 5 := ⟨xT_1 10 rfl rfl, xT_5 119 rfl rfl, by decide +kernel, by decide +kernel, by decide +kernel⟩
theorem lk_Model_kinds : xLV y_Model_kinds b_Model_kinds 12 (some .int) 5 := ⟨lb_Model_kinds, xT_5 117 rfl rfl, xT_5 118 rfl rfl⟩
theorem lb_Model_laws : xLB y_Model_laws b_Model_laws 9 (some .int) 4 := ⟨xT_1 10 rfl rfl, xT_5 123 rfl rfl, by decide +kernel, by decide +kernel, by decide +kernel⟩
theorem lk_Model_laws : xLV y_Model_laws b_Model_laws 9 (some .int) 4 := ⟨lb_Model_laws, xT_5 121 rfl rfl, xT_5 122 rfl rfl⟩
theorem lb_Model_whose : xLB y_Model_whose b_Model_whose 7 (some .int) 3 := ⟨xT_1 10 rfl rfl, xT_5 127 rfl rfl, by decide +kernel, by decide +kernel, by decide +kernel⟩
theorem lk_Model_whose : xLV y_Model_whose b_Model_whose 7 (some .int) 3 := ⟨lb_Model_whose, xT_5 125 rfl rfl, xT_5 126 rfl rfl⟩
theorem lb_Model_film : xLB y_Model_film b_Model_film 7 (some .int) 5 := ⟨xT_1 10 rfl rfl, xT_5 131 rfl rfl, by decide +kernel, by decide +kernel, by decide +kernel⟩
theorem lk_Model_film : xLV y_Model_film b_Model_film 7 (some .int) 5 := ⟨lb_Model_film, xT_5 129 rfl rfl, xT_5 130 rfl rfl⟩
theorem lb_Model_areOdds : xLB y_Model_areOdds b_Model_areOdds 1 (some .boolean) 1 := ⟨xT_1 10 rfl rfl, xT_5 138 rfl rfl, by decide +kernel, by decide +kernel, by decide +kernel⟩
theorem lk_Model_areOdds : xLS y_Model_areOdds b_Model_areOdds 1 (some .boolean) 1 := ⟨lb_Model_areOdds, xT_5 137 rfl rfl⟩
theorem lb_Model_walkBy : xLB y_Model_walkBy b_Model_walkBy 8 (none) 4 := ⟨xT_1 10 rfl rfl, xT_5 142 rfl rfl, by decide +kernel, by decide +kernel, by decide +kernel⟩
theorem lk_Model_walkBy : xLV y_Model_walkBy b_Model_walkBy 8 (none) 4 := ⟨lb_Model_walkBy, xT_5 141 rfl rfl, xT_p4 9 rfl⟩
theorem lb_Model_drawn : xLB y_Model_drawn b_Model_drawn 6 (some .int) 5 := ⟨xT_1 10 rfl rfl, xT_5 135 rfl rfl, by decide +kernel, by decide +kernel, by decide +kernel⟩
theorem lk_Model_drawn : xLV y_Model_drawn b_Model_drawn 6 (some .int) 5 := ⟨lb_Model_drawn, xT_5 133 rfl rfl, xT_5 134 rfl rfl⟩
theorem lb_Model_lowest : xLB y_Model_lowest b_Model_lowest 11 (some .long) 3 := ⟨xT_1 10 rfl rfl, xT_5 153 rfl rfl, by decide +kernel, by decide +kernel, by decide +kernel⟩
theorem lk_Model_lowest : xLS y_Model_lowest b_Model_lowest 11 (some .long) 3 := ⟨lb_Model_lowest, xT_5 152 rfl rfl⟩
theorem lb_Model_odds : xLB y_Model_odds b_Model_odds 11 (some .long) 6 := ⟨xT_1 10 rfl rfl, xT_5 149 rfl rfl, by decide +kernel, by decide +kernel, by decide +kernel⟩
theorem lk_Model_odds : xLV y_Model_odds b_Model_odds 11 (some .long) 6 := ⟨lb_Model_odds, xT_5 147 rfl rfl, xT_5 148 rfl rfl⟩
theorem lb_Model_image : xLB y_Model_image b_Model_image 2 (some .int) 0 := ⟨xT_1 10 rfl rfl, xT_5 157 rfl rfl, by decide +kernel, by decide +kernel, by decide +kernel⟩
theorem lk_Model_image : xLV y_Model_image b_Model_image 2 (some .int) 0 := ⟨lb_Model_image, xT_5 155 rfl rfl, xT_5 156 rfl rfl⟩
theorem lb_Model_back : xLB y_Model_back b_Model_back 2 (some .int) 0 := ⟨xT_1 10 rfl rfl, xT_5 161 rfl rfl, by decide +kernel, by decide +kernel, by decide +kernel⟩
theorem lk_Model_back : xLV y_Model_back b_Model_back 2 (some .int) 0 := ⟨lb_Model_back, xT_5 159 rfl rfl, xT_5 160 rfl rfl⟩
theorem lb_Model_sheet : xLB y_Model_sheet b_Model_sheet 5 (some .int) 3 := ⟨xT_1 10 rfl rfl, xT_5 165 rfl rfl, by decide +kernel, by decide +kernel, by decide +kernel⟩
theorem lk_Model_sheet : xLV y_Model_sheet b_Model_sheet 5 (some .int) 3 := ⟨lb_Model_sheet, xT_5 163 rfl rfl, xT_5 164 rfl rfl⟩
theorem lb_Model_cell : xLB y_Model_cell b_Model_cell 4 (some .int) 3 := ⟨xT_1 10 rfl rfl, xT_5 169 rfl rfl, by decide +kernel, by decide +kernel, by decide +kernel⟩
theorem lk_Model_cell : xLV y_Model_cell b_Model_cell 4 (some .int) 3 := ⟨lb_Model_cell, xT_5 167 rfl rfl, xT_5 168 rfl rfl⟩
theorem lb_Model_copy : xLB y_Model_copy b_Model_copy 10 (some .int) 5 := ⟨xT_1 10 rfl rfl, xT_5 173 rfl rfl, by decide +kernel, by decide +kernel, by decide +kernel⟩
theorem lk_Model_copy : xLV y_Model_copy b_Model_copy 10 (some .int) 5 := ⟨lb_Model_copy, xT_5 171 rfl rfl, xT_5 172 rfl rfl⟩
theorem lb_Model_headsBy : xLB y_Model_headsBy b_Model_headsBy 9 (some .int) 4 := ⟨xT_1 10 rfl rfl, xT_5 177 rfl rfl, by decide +kernel, by decide +kernel, by decide +kernel⟩
theorem lk_Model_headsBy : xLV y_Model_headsBy b_Model_headsBy 9 (some .int) 4 := ⟨lb_Model_headsBy, xT_5 175 rfl rfl, xT_5 176 rfl rfl⟩
theorem lb_Model_isUnder : xLB y_Model_isUnder b_Model_isUnder 2 (some .boolean) 2 := ⟨xT_1 10 rfl rfl, xT_5 185 rfl rfl, by decide +kernel, by decide +kernel, by decide +kernel⟩
theorem lk_Model_isUnder : xLS y_Model_isUnder b_Model_isUnder 2 (some .boolean) 2 := ⟨lb_Model_isUnder, xT_5 184 rfl rfl⟩
theorem lb_Model_taken : xLB y_Model_taken b_Model_taken 3 (some .int) 2 := ⟨xT_1 10 rfl rfl, xT_5 182 rfl rfl, by decide +kernel, by decide +kernel, by decide +kernel⟩
theorem lk_Model_taken : xLV y_Model_taken b_Model_taken 3 (some .int) 2 := ⟨lb_Model_taken, xT_5 180 rfl rfl, xT_5 181 rfl rfl⟩
theorem lb_Head_init : xLB y_Head_init b_Head_init 1 (none) 0 := ⟨xT_1 2 rfl rfl, xT_1 27 rfl rfl, by decide +kernel, by decide +kernel, by decide +kernel⟩
theorem lk_Head_init : xLI y_Head_init b_Head_init 1 0 := ⟨lb_Head_init, rfl, xT_1 26 rfl rfl⟩
theorem lb_Head_begin : xLB y_Head_begin b_Head_begin 3 (none) 2 := ⟨xT_1 2 rfl rfl, xT_2 184 rfl rfl, by decide +kernel, by decide +kernel, by decide +kernel⟩
theorem lk_Head_begin : xLV y_Head_begin b_Head_begin 3 (none) 2 := ⟨lb_Head_begin, xT_2 182 rfl rfl, xT_2 183 rfl rfl⟩
theorem lb_Head_become : xLB y_Head_become b_Head_become 2 (none) 1 := ⟨xT_1 2 rfl rfl, xT_3 57 rfl rfl, by decide +kernel, by decide +kernel, by decide +kernel⟩
theorem lk_Head_become : xLV y_Head_become b_Head_become 2 (none) 1 := ⟨lb_Head_become, xT_3 55 rfl rfl, xT_3 56 rfl rfl⟩
theorem lb_Head_standAtStart : xLB y_Head_standAtStart b_Head_standAtStart 1 (none) 0 := ⟨xT_1 2 rfl rfl, xT_2 188 rfl rfl, by decide +kernel, by decide +kernel, by decide +kernel⟩
theorem lk_Head_standAtStart : xLV y_Head_standAtStart b_Head_standAtStart 1 (none) 0 := ⟨lb_Head_standAtStart, xT_2 186 rfl rfl, xT_2 187 rfl rfl⟩
theorem lb_Head_fallsFrom : xLB y_Head_fallsFrom b_Head_fallsFrom 1 (some .int) 0 := ⟨xT_1 2 rfl rfl, xT_2 202 rfl rfl, by decide +kernel, by decide +kernel, by decide +kernel⟩
theorem lk_Head_fallsFrom : xLV y_Head_fallsFrom b_Head_fallsFrom 1 (some .int) 0 := ⟨lb_Head_fallsFrom, xT_2 200 rfl rfl, xT_2 201 rfl rfl⟩
theorem lb_Head_mustFall : xLB y_Head_mustFall b_Head_mustFall 1 (some .boolean) 0 := ⟨xT_1 2 rfl rfl, xT_3 27 rfl rfl, by decide +kernel, by decide +kernel, by decide +kernel⟩
theorem lk_Head_mustFall : xLV y_Head_mustFall b_Head_mustFall 1 (some .boolean) 0 := ⟨lb_Head_mustFall, xT_3 25 rfl rfl, xT_3 26 rfl rfl⟩
theorem lb_Head_fade : xLB y_Head_fade b_Head_fade 4 (none) 2 := ⟨xT_1 2 rfl rfl, xT_2 236 rfl rfl, by decide +kernel, by decide +kernel, by decide +kernel⟩
theorem lk_Head_fade : xLV y_Head_fade b_Head_fade 4 (none) 2 := ⟨lb_Head_fade, xT_2 234 rfl rfl, xT_2 235 rfl rfl⟩
theorem lb_Head_spinOnce : xLB y_Head_spinOnce b_Head_spinOnce 5 (none) 3 := ⟨xT_1 2 rfl rfl, xT_2 226 rfl rfl, by decide +kernel, by decide +kernel, by decide +kernel⟩
theorem lk_Head_spinOnce : xLV y_Head_spinOnce b_Head_spinOnce 5 (none) 3 := ⟨lb_Head_spinOnce, xT_2 224 rfl rfl, xT_2 225 rfl rfl⟩
theorem lb_Head_spin : xLB y_Head_spin b_Head_spin 6 (none) 3 := ⟨xT_1 2 rfl rfl, xT_2 219 rfl rfl, by decide +kernel, by decide +kernel, by decide +kernel⟩
theorem lk_Head_spin : xLV y_Head_spin b_Head_spin 6 (none) 3 := ⟨lb_Head_spin, xT_2 217 rfl rfl, xT_2 218 rfl rfl⟩
theorem lb_Head_linger : xLB y_Head_linger b_Head_linger 5 (none) 3 := ⟨xT_1 2 rfl rfl, xT_3 11 rfl rfl, by decide +kernel, by decide +kernel, by decide +kernel⟩
theorem lk_Head_linger : xLV y_Head_linger b_Head_linger 5 (none) 3 := ⟨lb_Head_linger, xT_3 9 rfl rfl, xT_3 10 rfl rfl⟩
theorem lb_Head_step : xLB y_Head_step b_Head_step 5 (none) 3 := ⟨xT_1 2 rfl rfl, xT_3 23 rfl rfl, by decide +kernel, by decide +kernel, by decide +kernel⟩
theorem lk_Head_step : xLV y_Head_step b_Head_step 5 (none) 3 := ⟨lb_Head_step, xT_3 21 rfl rfl, xT_3 22 rfl rfl⟩
theorem lb_Head_goOn : xLB y_Head_goOn b_Head_goOn 6 (some .int) 4 := ⟨xT_1 2 rfl rfl, xT_3 19 rfl rfl, by decide +kernel, by decide +kernel, by decide +kernel⟩
theorem lk_Head_goOn : xLV y_Head_goOn b_Head_goOn 6 (some .int) 4 := ⟨lb_Head_goOn, xT_3 17 rfl rfl, xT_3 18 rfl rfl⟩
theorem lb_Kind_isOne : xLB y_Kind_isOne b_Kind_isOne 2 (some .boolean) 2 := ⟨xT_1 12 rfl rfl, xT_4 6 rfl rfl, by decide +kernel, by decide +kernel, by decide +kernel⟩
theorem lk_Kind_isOne : xLS y_Kind_isOne b_Kind_isOne 2 (some .boolean) 2 := ⟨lb_Kind_isOne, xT_4 5 rfl rfl⟩
theorem lb_Kind_above : xLB y_Kind_above b_Kind_above 1 (some .int) 1 := ⟨xT_1 12 rfl rfl, xT_4 9 rfl rfl, by decide +kernel, by decide +kernel, by decide +kernel⟩
theorem lk_Kind_above : xLS y_Kind_above b_Kind_above 1 (some .int) 1 := ⟨lb_Kind_above, xT_4 8 rfl rfl⟩
theorem lb_Kind_builds : xLB y_Kind_builds b_Kind_builds 4 (some .int) 4 := ⟨xT_1 12 rfl rfl, xT_2 230 rfl rfl, by decide +kernel, by decide +kernel, by decide +kernel⟩
theorem lk_Kind_builds : xLS y_Kind_builds b_Kind_builds 4 (some .int) 4 := ⟨lb_Kind_builds, xT_2 229 rfl rfl⟩
theorem lb_Kind_fades : xLB y_Kind_fades b_Kind_fades 4 (some .int) 2 := ⟨xT_1 12 rfl rfl, xT_2 239 rfl rfl, by decide +kernel, by decide +kernel, by decide +kernel⟩
theorem lk_Kind_fades : xLS y_Kind_fades b_Kind_fades 4 (some .int) 2 := ⟨lb_Kind_fades, xT_2 238 rfl rfl⟩
theorem lb_Kind_fallsFrom : xLB y_Kind_fallsFrom b_Kind_fallsFrom 2 (some .int) 2 := ⟨xT_1 12 rfl rfl, xT_2 205 rfl rfl, by decide +kernel, by decide +kernel, by decide +kernel⟩
theorem lk_Kind_fallsFrom : xLS y_Kind_fallsFrom b_Kind_fallsFrom 2 (some .int) 2 := ⟨lb_Kind_fallsFrom, xT_2 204 rfl rfl⟩
theorem lb_Reader_init : xLB y_Reader_init b_Reader_init 3 (none) 0 := ⟨xT_1 4 rfl rfl, xT_1 94 rfl rfl, by decide +kernel, by decide +kernel, by decide +kernel⟩
theorem lk_Reader_init : xLI y_Reader_init b_Reader_init 3 0 := ⟨lb_Reader_init, rfl, xT_1 93 rfl rfl⟩
theorem lb_Reader_take : xLB y_Reader_take b_Reader_take 2 (none) 1 := ⟨xT_1 4 rfl rfl, xT_1 204 rfl rfl, by decide +kernel, by decide +kernel, by decide +kernel⟩
theorem lk_Reader_take : xLV y_Reader_take b_Reader_take 2 (none) 1 := ⟨lb_Reader_take, xT_1 202 rfl rfl, xT_1 203 rfl rfl⟩
theorem lb_Reader_empty : xLB y_Reader_empty b_Reader_empty 1 (none) 0 := ⟨xT_1 4 rfl rfl, xT_2 61 rfl rfl, by decide +kernel, by decide +kernel, by decide +kernel⟩
theorem lk_Reader_empty : xLV y_Reader_empty b_Reader_empty 1 (none) 0 := ⟨lb_Reader_empty, xT_2 59 rfl rfl, xT_2 60 rfl rfl⟩
theorem lb_Reader_byteAt : xLB y_Reader_byteAt b_Reader_byteAt 2 (some .int) 1 := ⟨xT_1 4 rfl rfl, xT_1 224 rfl rfl, by decide +kernel, by decide +kernel, by decide +kernel⟩
theorem lk_Reader_byteAt : xLV y_Reader_byteAt b_Reader_byteAt 2 (some .int) 1 := ⟨lb_Reader_byteAt, xT_1 223 rfl rfl, xT_p1 2 rfl⟩
theorem lb_Reader_read : xLB y_Reader_read b_Reader_read 3 (some .int) 1 := ⟨xT_1 4 rfl rfl, xT_1 212 rfl rfl, by decide +kernel, by decide +kernel, by decide +kernel⟩
theorem lk_Reader_read : xLV y_Reader_read b_Reader_read 3 (some .int) 1 := ⟨lb_Reader_read, xT_1 210 rfl rfl, xT_1 211 rfl rfl⟩
theorem lb_Reader_failed : xLB y_Reader_failed b_Reader_failed 1 (some .boolean) 0 := ⟨xT_1 4 rfl rfl, xT_2 17 rfl rfl, by decide +kernel, by decide +kernel, by decide +kernel⟩
theorem lk_Reader_failed : xLV y_Reader_failed b_Reader_failed 1 (some .boolean) 0 := ⟨lb_Reader_failed, xT_2 16 rfl rfl, xT_p1 7 rfl⟩
theorem lb_Reader_fail : xLB y_Reader_fail b_Reader_fail 1 (none) 0 := ⟨xT_1 4 rfl rfl, xT_2 13 rfl rfl, by decide +kernel, by decide +kernel, by decide +kernel⟩
theorem lk_Reader_fail : xLV y_Reader_fail b_Reader_fail 1 (none) 0 := ⟨lb_Reader_fail, xT_2 12 rfl rfl, xT_p1 6 rfl⟩
theorem lb_Reader_expect : xLB y_Reader_expect b_Reader_expect 2 (none) 1 := ⟨xT_1 4 rfl rfl, xT_2 9 rfl rfl, by decide +kernel, by decide +kernel, by decide +kernel⟩
theorem lk_Reader_expect : xLV y_Reader_expect b_Reader_expect 2 (none) 1 := ⟨lb_Reader_expect, xT_2 8 rfl rfl, xT_p1 5 rfl⟩
theorem lb_Reader_at : xLB y_Reader_at b_Reader_at 2 (some .boolean) 1 := ⟨xT_1 4 rfl rfl, xT_2 33 rfl rfl, by decide +kernel, by decide +kernel, by decide +kernel⟩
theorem lk_Reader_at : xLV y_Reader_at b_Reader_at 2 (some .boolean) 1 := ⟨lb_Reader_at, xT_2 32 rfl rfl, xT_p1 11 rfl⟩
theorem lb_Reader_readOr : xLB y_Reader_readOr b_Reader_readOr 3 (none) 1 := ⟨xT_1 4 rfl rfl, xT_2 21 rfl rfl, by decide +kernel, by decide +kernel, by decide +kernel⟩
theorem lk_Reader_readOr : xLV y_Reader_readOr b_Reader_readOr 3 (none) 1 := ⟨lb_Reader_readOr, xT_2 20 rfl rfl, xT_p1 8 rfl⟩
theorem lb_Reader_readAnd : xLB y_Reader_readAnd b_Reader_readAnd 3 (none) 1 := ⟨xT_1 4 rfl rfl, xT_2 25 rfl rfl, by decide +kernel, by decide +kernel, by decide +kernel⟩
theorem lk_Reader_readAnd : xLV y_Reader_readAnd b_Reader_readAnd 3 (none) 1 := ⟨lb_Reader_readAnd, xT_2 24 rfl rfl, xT_p1 9 rfl⟩
theorem lb_Reader_readNot : xLB y_Reader_readNot b_Reader_readNot 3 (none) 1 := ⟨xT_1 4 rfl rfl, xT_2 29 rfl rfl, by decide +kernel, by decide +kernel, by decide +kernel⟩
theorem lk_Reader_readNot : xLV y_Reader_readNot b_Reader_readNot 3 (none) 1 := ⟨lb_Reader_readNot, xT_2 28 rfl rfl, xT_p1 10 rfl⟩
theorem lb_Reader_readSum : xLB y_Reader_readSum b_Reader_readSum 4 (none) 1 := ⟨xT_1 4 rfl rfl, xT_2 45 rfl rfl, by decide +kernel, by decide +kernel, by decide +kernel⟩
theorem lk_Reader_readSum : xLV y_Reader_readSum b_Reader_readSum 4 (none) 1 := ⟨lb_Reader_readSum, xT_2 44 rfl rfl, xT_p1 13 rfl⟩
theorem lb_Reader_readTerm : xLB y_Reader_readTerm b_Reader_readTerm 3 (none) 1 := ⟨xT_1 4 rfl rfl, xT_2 49 rfl rfl, by decide +kernel, by decide +kernel, by decide +kernel⟩
theorem lk_Reader_readTerm : xLV y_Reader_readTerm b_Reader_readTerm 3 (none) 1 := ⟨lb_Reader_readTerm, xT_2 48 rfl rfl, xT_p1 14 rfl⟩
theorem lb_Reader_readOne : xLB y_Reader_readOne b_Reader_readOne 2 (none) 1 := ⟨xT_1 4 rfl rfl, xT_2 53 rfl rfl, by decide +kernel, by decide +kernel, by decide +kernel⟩
theorem lk_Reader_readOne : xLV y_Reader_readOne b_Reader_readOne 2 (none) 1 := ⟨lb_Reader_readOne, xT_2 52 rfl rfl, xT_p1 15 rfl⟩
theorem lb_Reader_opened : xLB y_Reader_opened b_Reader_opened 1 (some .boolean) 0 := ⟨xT_1 4 rfl rfl, xT_2 37 rfl rfl, by decide +kernel, by decide +kernel, by decide +kernel⟩
theorem lk_Reader_opened : xLV y_Reader_opened b_Reader_opened 1 (some .boolean) 0 := ⟨lb_Reader_opened, xT_2 36 rfl rfl, xT_p1 12 rfl⟩
theorem lb_Reader_advance : xLB y_Reader_advance b_Reader_advance 2 (none) 0 := ⟨xT_1 4 rfl rfl, xT_1 220 rfl rfl, by decide +kernel, by decide +kernel, by decide +kernel⟩
theorem lk_Reader_advance : xLV y_Reader_advance b_Reader_advance 2 (none) 0 := ⟨lb_Reader_advance, xT_1 219 rfl rfl, xT_p1 1 rfl⟩
theorem lb_Reader_takeWord : xLB y_Reader_takeWord b_Reader_takeWord 4 (none) 0 := ⟨xT_1 4 rfl rfl, xT_1 234 rfl rfl, by decide +kernel, by decide +kernel, by decide +kernel⟩
theorem lk_Reader_takeWord : xLV y_Reader_takeWord b_Reader_takeWord 4 (none) 0 := ⟨lb_Reader_takeWord, xT_1 233 rfl rfl, xT_p1 3 rfl⟩
theorem lb_Reader_takeNumber : xLB y_Reader_takeNumber b_Reader_takeNumber 2 (none) 0 := ⟨xT_1 4 rfl rfl, xT_2 2 rfl rfl, by decide +kernel, by decide +kernel, by decide +kernel⟩
theorem lk_Reader_takeNumber : xLV y_Reader_takeNumber b_Reader_takeNumber 2 (none) 0 := ⟨lb_Reader_takeNumber, xT_2 1 rfl rfl, xT_p1 4 rfl⟩
theorem lb_Reader_isBlank : xLB y_Reader_isBlank b_Reader_isBlank 1 (some .boolean) 1 := ⟨xT_1 4 rfl rfl, xT_1 227 rfl rfl, by decide +kernel, by decide +kernel, by decide +kernel⟩
theorem lk_Reader_isBlank : xLS y_Reader_isBlank b_Reader_isBlank 1 (some .boolean) 1 := ⟨lb_Reader_isBlank, xT_1 226 rfl rfl⟩
theorem lb_Reader_isLetter : xLB y_Reader_isLetter b_Reader_isLetter 1 (some .boolean) 1 := ⟨xT_1 4 rfl rfl, xT_1 230 rfl rfl, by decide +kernel, by decide +kernel, by decide +kernel⟩
theorem lk_Reader_isLetter : xLS y_Reader_isLetter b_Reader_isLetter 1 (some .boolean) 1 := ⟨lb_Reader_isLetter, xT_1 229 rfl rfl⟩
theorem lb_Reader_isDigit : xLB y_Reader_isDigit b_Reader_isDigit 1 (some .boolean) 1 := ⟨xT_1 4 rfl rfl, xT_1 238 rfl rfl, by decide +kernel, by decide +kernel, by decide +kernel⟩
theorem lk_Reader_isDigit : xLS y_Reader_isDigit b_Reader_isDigit 1 (some .boolean) 1 := ⟨lb_Reader_isDigit, xT_1 237 rfl rfl⟩
theorem lb_Reader_isSign : xLB y_Reader_isSign b_Reader_isSign 1 (some .boolean) 1 := ⟨xT_1 4 rfl rfl, xT_2 5 rfl rfl, by decide +kernel, by decide +kernel, by decide +kernel⟩
theorem lk_Reader_isSign : xLS y_Reader_isSign b_Reader_isSign 1 (some .boolean) 1 := ⟨lb_Reader_isSign, xT_2 4 rfl rfl⟩
theorem lb_Sheet_init : xLB y_Sheet_init b_Sheet_init 1 (none) 0 := ⟨xT_1 9 rfl rfl, xT_1 183 rfl rfl, by decide +kernel, by decide +kernel, by decide +kernel⟩
theorem lk_Sheet_init : xLI y_Sheet_init b_Sheet_init 1 0 := ⟨lb_Sheet_init, rfl, xT_1 182 rfl rfl⟩
theorem lb_Sheet_begin : xLB y_Sheet_begin b_Sheet_begin 4 (none) 2 := ⟨xT_1 9 rfl rfl, xT_3 172 rfl rfl, by decide +kernel, by decide +kernel, by decide +kernel⟩
theorem lk_Sheet_begin : xLV y_Sheet_begin b_Sheet_begin 4 (none) 2 := ⟨lb_Sheet_begin, xT_3 170 rfl rfl, xT_3 171 rfl rfl⟩
theorem lb_Sheet_isMissing : xLB y_Sheet_isMissing b_Sheet_isMissing 1 (some .boolean) 0 := ⟨xT_1 9 rfl rfl, xT_3 135 rfl rfl, by decide +kernel, by decide +kernel, by decide +kernel⟩
theorem lk_Sheet_isMissing : xLV y_Sheet_isMissing b_Sheet_isMissing 1 (some .boolean) 0 := ⟨lb_Sheet_isMissing, xT_3 133 rfl rfl, xT_3 134 rfl rfl⟩
theorem lb_Sheet_has : xLB y_Sheet_has b_Sheet_has 2 (some .boolean) 1 := ⟨xT_1 9 rfl rfl, xT_3 148 rfl rfl, by decide +kernel, by decide +kernel, by decide +kernel⟩
theorem lk_Sheet_has : xLV y_Sheet_has b_Sheet_has 2 (some .boolean) 1 := ⟨lb_Sheet_has, xT_3 146 rfl rfl, xT_3 147 rfl rfl⟩
theorem lb_Sheet_hasRow : xLB y_Sheet_hasRow b_Sheet_hasRow 3 (some .boolean) 2 := ⟨xT_1 9 rfl rfl, xT_3 231 rfl rfl, by decide +kernel, by decide +kernel, by decide +kernel⟩
theorem lk_Sheet_hasRow : xLV y_Sheet_hasRow b_Sheet_hasRow 3 (some .boolean) 2 := ⟨lb_Sheet_hasRow, xT_3 229 rfl rfl, xT_3 230 rfl rfl⟩
theorem lb_Sheet_get : xLB y_Sheet_get b_Sheet_get 2 (some .int) 1 := ⟨xT_1 9 rfl rfl, xT_3 144 rfl rfl, by decide +kernel, by decide +kernel, by decide +kernel⟩
theorem lk_Sheet_get : xLV y_Sheet_get b_Sheet_get 2 (some .int) 1 := ⟨lb_Sheet_get, xT_3 142 rfl rfl, xT_3 143 rfl rfl⟩
theorem lb_Sheet_put : xLB y_Sheet_put b_Sheet_put 3 (none) 2 := ⟨xT_1 9 rfl rfl, xT_3 177 rfl rfl, by decide +kernel, by decide +kernel, by decide +kernel⟩
theorem lk_Sheet_put : xLV y_Sheet_put b_Sheet_put 3 (none) 2 := ⟨lb_Sheet_put, xT_3 175 rfl rfl, xT_3 176 rfl rfl⟩
theorem lb_Text_init : xLB y_Text_init b_Text_init 1 (none) 0 := ⟨xT_1 3 rfl rfl, xT_1 71 rfl rfl, by decide +kernel, by decide +kernel, by decide +kernel⟩
theorem lk_Text_init : xLI y_Text_init b_Text_init 1 0 := ⟨lb_Text_init, rfl, xT_1 70 rfl rfl⟩
theorem lb_Text_clear : xLB y_Text_clear b_Text_clear 1 (none) 0 := ⟨xT_1 3 rfl rfl, xT_1 216 rfl rfl, by decide +kernel, by decide +kernel, by decide +kernel⟩
theorem lk_Text_clear : xLV y_Text_clear b_Text_clear 1 (none) 0 := ⟨lb_Text_clear, xT_1 214 rfl rfl, xT_1 215 rfl rfl⟩
theorem lb_Text_add : xLB y_Text_add b_Text_add 2 (none) 1 := ⟨xT_1 3 rfl rfl, xT_2 41 rfl rfl, by decide +kernel, by decide +kernel, by decide +kernel⟩
theorem lk_Text_add : xLV y_Text_add b_Text_add 2 (none) 1 := ⟨lb_Text_add, xT_2 39 rfl rfl, xT_2 40 rfl rfl⟩
theorem lb_Text_endPart : xLB y_Text_endPart b_Text_endPart 1 (none) 0 := ⟨xT_1 3 rfl rfl, xT_2 57 rfl rfl, by decide +kernel, by decide +kernel, by decide +kernel⟩
theorem lk_Text_endPart : xLV y_Text_endPart b_Text_endPart 1 (none) 0 := ⟨lb_Text_endPart, xT_2 55 rfl rfl, xT_2 56 rfl rfl⟩
theorem lb_Text_partEnd : xLB y_Text_partEnd b_Text_partEnd 2 (some .int) 1 := ⟨xT_1 3 rfl rfl, xT_2 156 rfl rfl, by decide +kernel, by decide +kernel, by decide +kernel⟩
theorem lk_Text_partEnd : xLV y_Text_partEnd b_Text_partEnd 2 (some .int) 1 := ⟨lb_Text_partEnd, xT_2 154 rfl rfl, xT_2 155 rfl rfl⟩
theorem lb_Text_says : xLB y_Text_says b_Text_says 10 (some .int) 4 := ⟨xT_1 3 rfl rfl, xT_2 152 rfl rfl, by decide +kernel, by decide +kernel, by decide +kernel⟩
theorem lk_Text_says : xLV y_Text_says b_Text_says 10 (some .int) 4 := ⟨lb_Text_says, xT_2 150 rfl rfl, xT_2 151 rfl rfl⟩
theorem lb_Text_named : xLB y_Text_named b_Text_named 4 (some .int) 4 := ⟨xT_1 3 rfl rfl, xT_2 165 rfl rfl, by decide +kernel, by decide +kernel, by decide +kernel⟩
theorem lk_Text_named : xLS y_Text_named b_Text_named 4 (some .int) 4 := ⟨lb_Text_named, xT_2 164 rfl rfl⟩
theorem lb_Text_joined : xLB y_Text_joined b_Text_joined 3 (some .int) 3 := ⟨xT_1 3 rfl rfl, xT_2 168 rfl rfl, by decide +kernel, by decide +kernel, by decide +kernel⟩
theorem lk_Text_joined : xLS y_Text_joined b_Text_joined 3 (some .int) 3 := ⟨lb_Text_joined, xT_2 167 rfl rfl⟩
theorem ml_X_1 : Cond.methodLink "RoundAndRound" 1 Lib.objectInit ∈ xT := xT_1 19 rfl rfl
theorem cl_X_9 : Cond.classLink "RoundAndRound" 9 "RoundAndRound$Head" ∈ xT := xT_1 22 rfl rfl
theorem fp_X_11 : xFP "RoundAndRound" 11 0 0 (.array (.object "RoundAndRound$Head")) true := ⟨R_X, F_X, 15, t_X, ⟨rfl, i_X, by decide, xT_2 62 rfl rfl⟩, t_X_ok, n_X, rfl, by decide +kernel, fun _ => rfl⟩
theorem fp_X_15 : xFP "RoundAndRound" 15 0 1 (.array (.object "RoundAndRound$Head")) true := ⟨R_X, F_X, 15, t_X, ⟨rfl, i_X, by decide, xT_2 63 rfl rfl⟩, t_X_ok, n_X, rfl, by decide +kernel, fun _ => rfl⟩
theorem mn_X_18 : Cond.methodLinkNest "RoundAndRound" 18 y_Head_init "RoundAndRound" ∈ xnest := List.mem_of_getElem? (i := 0) rfl
theorem fp_X_19 : xFP "RoundAndRound" 19 0 2 (.object "RoundAndRound$Head") true := ⟨R_X, F_X, 15, t_X, ⟨rfl, i_X, by decide, xT_2 64 rfl rfl⟩, t_X_ok, n_X, rfl, by decide +kernel, fun _ => rfl⟩
theorem fp_X_23 : xFP "RoundAndRound" 23 0 3 (.object "RoundAndRound$Head") true := ⟨R_X, F_X, 15, t_X, ⟨rfl, i_X, by decide, xT_2 65 rfl rfl⟩, t_X_ok, n_X, rfl, by decide +kernel, fun _ => rfl⟩
theorem fp_X_26 : xFP "RoundAndRound" 26 0 4 (.array .int) true := ⟨R_X, F_X, 15, t_X, ⟨rfl, i_X, by decide, xT_2 66 rfl rfl⟩, t_X_ok, n_X, rfl, by decide +kernel, fun _ => rfl⟩
theorem cl_X_30 : Cond.classLink "RoundAndRound" 30 "RoundAndRound$Text" ∈ xT := xT_1 66 rfl rfl
theorem fp_X_32 : xFP "RoundAndRound" 32 0 5 (.array (.object "RoundAndRound$Text")) true := ⟨R_X, F_X, 15, t_X, ⟨rfl, i_X, by decide, xT_2 67 rfl rfl⟩, t_X_ok, n_X, rfl, by decide +kernel, fun _ => rfl⟩
theorem mn_X_36 : Cond.methodLinkNest "RoundAndRound" 36 y_Text_init "RoundAndRound" ∈ xnest := List.mem_of_getElem? (i := 1) rfl
theorem fp_X_37 : xFP "RoundAndRound" 37 0 6 (.object "RoundAndRound$Text") true := ⟨R_X, F_X, 15, t_X, ⟨rfl, i_X, by decide, xT_2 68 rfl rfl⟩, t_X_ok, n_X, rfl, by decide +kernel, fun _ => rfl⟩
theorem cl_X_41 : Cond.classLink "RoundAndRound" 41 "RoundAndRound$Reader" ∈ xT := xT_1 90 rfl rfl
theorem ml_X_43 : Cond.methodLink "RoundAndRound" 43 y_Reader_init ∈ xT := xT_1 92 rfl rfl
theorem fp_X_44 : xFP "RoundAndRound" 44 0 7 (.object "RoundAndRound$Reader") true := ⟨R_X, F_X, 15, t_X, ⟨rfl, i_X, by decide, xT_2 69 rfl rfl⟩, t_X_ok, n_X, rfl, by decide +kernel, fun _ => rfl⟩
theorem cl_X_48 : Cond.classLink "RoundAndRound" 48 "RoundAndRound$Sheet" ∈ xT := xT_1 178 rfl rfl
theorem fp_X_50 : xFP "RoundAndRound" 50 0 8 (.array (.object "RoundAndRound$Sheet")) true := ⟨R_X, F_X, 15, t_X, ⟨rfl, i_X, by decide, xT_2 70 rfl rfl⟩, t_X_ok, n_X, rfl, by decide +kernel, fun _ => rfl⟩
theorem mn_X_54 : Cond.methodLinkNest "RoundAndRound" 54 y_Sheet_init "RoundAndRound" ∈ xnest := List.mem_of_getElem? (i := 2) rfl
theorem fp_X_55 : xFP "RoundAndRound" 55 0 9 (.object "RoundAndRound$Sheet") true := ⟨R_X, F_X, 15, t_X, ⟨rfl, i_X, by decide, xT_2 71 rfl rfl⟩, t_X_ok, n_X, rfl, by decide +kernel, fun _ => rfl⟩
theorem fp_X_59 : xFP "RoundAndRound" 59 0 10 (.int) false := ⟨R_X, F_X, 15, t_X, ⟨rfl, i_X, by decide, xT_2 72 rfl rfl⟩, t_X_ok, n_X, rfl, by decide +kernel, fun h => by cases h⟩
theorem fp_X_63 : xFP "RoundAndRound" 63 0 11 (.int) false := ⟨R_X, F_X, 15, t_X, ⟨rfl, i_X, by decide, xT_2 73 rfl rfl⟩, t_X_ok, n_X, rfl, by decide +kernel, fun h => by cases h⟩
theorem fp_X_66 : xFP "RoundAndRound" 66 0 12 (.int) false := ⟨R_X, F_X, 15, t_X, ⟨rfl, i_X, by decide, xT_2 74 rfl rfl⟩, t_X_ok, n_X, rfl, by decide +kernel, fun h => by cases h⟩
theorem fp_X_69 : xFP "RoundAndRound" 69 0 13 (.int) false := ⟨R_X, F_X, 15, t_X, ⟨rfl, i_X, by decide, xT_2 75 rfl rfl⟩, t_X_ok, n_X, rfl, by decide +kernel, fun h => by cases h⟩
theorem fp_X_72 : xFP "RoundAndRound" 72 0 14 (.int) false := ⟨R_X, F_X, 15, t_X, ⟨rfl, i_X, by decide, xT_2 76 rfl rfl⟩, t_X_ok, n_X, rfl, by decide +kernel, fun h => by cases h⟩
theorem fg_X_11 : xFL "RoundAndRound" 11 0 0 := ⟨R_X, F_X, 15, rfl, i_X, by decide, xT_2 62 rfl rfl⟩
theorem fg_X_15 : xFL "RoundAndRound" 15 0 1 := ⟨R_X, F_X, 15, rfl, i_X, by decide, xT_2 63 rfl rfl⟩
theorem fg_X_32 : xFL "RoundAndRound" 32 0 5 := ⟨R_X, F_X, 15, rfl, i_X, by decide, xT_2 67 rfl rfl⟩
theorem fg_X_50 : xFL "RoundAndRound" 50 0 8 := ⟨R_X, F_X, 15, rfl, i_X, by decide, xT_2 70 rfl rfl⟩
theorem fg_X_44 : xFL "RoundAndRound" 44 0 7 := ⟨R_X, F_X, 15, rfl, i_X, by decide, xT_2 69 rfl rfl⟩
theorem ml_X_87 : Cond.methodLink "RoundAndRound" 87 y_Reader_take ∈ xT := xT_1 201 rfl rfl
theorem ml_X_91 : Cond.methodLink "RoundAndRound" 91 y_X_textAt ∈ xT := xT_1 205 rfl rfl
theorem ml_X_95 : Cond.methodLink "RoundAndRound" 95 y_Reader_read ∈ xT := xT_1 209 rfl rfl
theorem ml_X_99 : Cond.methodLink "RoundAndRound" 99 y_Reader_empty ∈ xT := xT_2 58 rfl rfl
theorem fg_X_59 : xFL "RoundAndRound" 59 0 10 := ⟨R_X, F_X, 15, rfl, i_X, by decide, xT_2 72 rfl rfl⟩
theorem fg_X_63 : xFL "RoundAndRound" 63 0 11 := ⟨R_X, F_X, 15, rfl, i_X, by decide, xT_2 73 rfl rfl⟩
theorem fg_X_66 : xFL "RoundAndRound" 66 0 12 := ⟨R_X, F_X, 15, rfl, i_X, by decide, xT_2 74 rfl rfl⟩
theorem fg_X_102 : xFL "RoundAndRound" 102 3 2 := ⟨R_Reader, F_Reader, 9, rfl, i_Reader, by decide, xT_1 150 rfl rfl⟩
theorem ml_X_105 : Cond.methodLink "RoundAndRound" 105 y_X_within ∈ xT := xT_2 116 rfl rfl
theorem ml_X_109 : Cond.methodLink "RoundAndRound" 109 y_X_isByte ∈ xT := xT_2 119 rfl rfl
theorem ml_X_113 : Cond.methodLink "RoundAndRound" 113 y_X_isHead ∈ xT := xT_2 134 rfl rfl
theorem ml_X_116 : Cond.methodLink "RoundAndRound" 116 y_X_isNumberAndEyes ∈ xT := xT_2 138 rfl rfl
theorem ml_X_120 : Cond.methodLink "RoundAndRound" 120 y_X_law ∈ xT := xT_2 141 rfl rfl
theorem ml_X_124 : Cond.methodLink "RoundAndRound" 124 y_X_headAt ∈ xT := xT_2 145 rfl rfl
theorem ml_X_128 : Cond.methodLink "RoundAndRound" 128 y_Text_says ∈ xT := xT_2 149 rfl rfl
theorem ml_X_132 : Cond.methodLink "RoundAndRound" 132 y_X_isKind ∈ xT := xT_2 178 rfl rfl
theorem ml_X_135 : Cond.methodLink "RoundAndRound" 135 y_Head_begin ∈ xT := xT_2 181 rfl rfl
theorem cs_X_139 : Cond.constant "RoundAndRound" 139 (-100005) ∈ xT := xT_2 193 rfl rfl
theorem fg_X_140 : xFL "RoundAndRound" 140 1 2 := ⟨R_Head, F_Head, 8, rfl, i_Head, by decide, xT_1 36 rfl rfl⟩
theorem fp_X_140 : xFP "RoundAndRound" 140 1 2 (.int) false := ⟨R_Head, F_Head, 8, t_Head, ⟨rfl, i_Head, by decide, xT_1 36 rfl rfl⟩, t_Head_ok, n_Head, rfl, by decide +kernel, fun h => by cases h⟩
theorem fg_X_143 : xFL "RoundAndRound" 143 1 3 := ⟨R_Head, F_Head, 8, rfl, i_Head, by decide, xT_1 39 rfl rfl⟩
theorem fp_X_143 : xFP "RoundAndRound" 143 1 3 (.int) false := ⟨R_Head, F_Head, 8, t_Head, ⟨rfl, i_Head, by decide, xT_1 39 rfl rfl⟩, t_Head_ok, n_Head, rfl, by decide +kernel, fun h => by cases h⟩
theorem fg_X_146 : xFL "RoundAndRound" 146 1 4 := ⟨R_Head, F_Head, 8, rfl, i_Head, by decide, xT_1 42 rfl rfl⟩
theorem fp_X_146 : xFP "RoundAndRound" 146 1 4 (.int) false := ⟨R_Head, F_Head, 8, t_Head, ⟨rfl, i_Head, by decide, xT_1 42 rfl rfl⟩, t_Head_ok, n_Head, rfl, by decide +kernel, fun h => by cases h⟩
theorem cs_X_149 : Cond.constant "RoundAndRound" 149 (-100007) ∈ xT := xT_2 194 rfl rfl
theorem fg_X_150 : xFL "RoundAndRound" 150 1 0 := ⟨R_Head, F_Head, 8, rfl, i_Head, by decide, xT_1 30 rfl rfl⟩
theorem fg_X_153 : xFL "RoundAndRound" 153 1 1 := ⟨R_Head, F_Head, 8, rfl, i_Head, by decide, xT_1 33 rfl rfl⟩
theorem fg_X_156 : xFL "RoundAndRound" 156 1 5 := ⟨R_Head, F_Head, 8, rfl, i_Head, by decide, xT_1 44 rfl rfl⟩
theorem fg_X_159 : xFL "RoundAndRound" 159 1 6 := ⟨R_Head, F_Head, 8, rfl, i_Head, by decide, xT_1 46 rfl rfl⟩
theorem fg_X_162 : xFL "RoundAndRound" 162 1 7 := ⟨R_Head, F_Head, 8, rfl, i_Head, by decide, xT_1 48 rfl rfl⟩
theorem ml_X_166 : Cond.methodLink "RoundAndRound" 166 y_Head_fallsFrom ∈ xT := xT_2 199 rfl rfl
theorem ml_X_169 : Cond.methodLink "RoundAndRound" 169 y_X_isTurns ∈ xT := xT_2 210 rfl rfl
theorem ml_X_172 : Cond.methodLink "RoundAndRound" 172 y_X_isPace ∈ xT := xT_2 213 rfl rfl
theorem ml_X_175 : Cond.methodLink "RoundAndRound" 175 y_Head_spin ∈ xT := xT_2 216 rfl rfl
theorem ml_X_179 : Cond.methodLink "RoundAndRound" 179 Lib.Math.min.name ∈ xT := xT_2 172 rfl rfl
theorem ml_X_185 : Cond.methodLink "RoundAndRound" 185 y_X_isSeconds ∈ xT := xT_3 5 rfl rfl
theorem ml_X_188 : Cond.methodLink "RoundAndRound" 188 y_Head_linger ∈ xT := xT_3 8 rfl rfl
theorem ml_X_191 : Cond.methodLink "RoundAndRound" 191 y_Head_goOn ∈ xT := xT_3 16 rfl rfl
theorem ml_X_195 : Cond.methodLink "RoundAndRound" 195 y_Head_standAtStart ∈ xT := xT_3 35 rfl rfl
theorem ml_X_198 : Cond.methodLink "RoundAndRound" 198 y_X_isWaitSpeedPace ∈ xT := xT_3 40 rfl rfl
theorem ml_X_201 : Cond.methodLink "RoundAndRound" 201 y_X_thinkTurned ∈ xT := xT_3 46 rfl rfl
theorem fg_X_19 : xFL "RoundAndRound" 19 0 2 := ⟨R_X, F_X, 15, rfl, i_X, by decide, xT_2 64 rfl rfl⟩
theorem ml_X_205 : Cond.methodLink "RoundAndRound" 205 y_X_think ∈ xT := xT_3 50 rfl rfl
theorem ml_X_209 : Cond.methodLink "RoundAndRound" 209 y_Head_spinOnce ∈ xT := xT_3 62 rfl rfl
theorem ml_X_212 : Cond.methodLink "RoundAndRound" 212 y_Head_mustFall ∈ xT := xT_3 63 rfl rfl
theorem ml_X_216 : Cond.methodLink "RoundAndRound" 216 Lib.Math.abs.name ∈ xT := xT_3 68 rfl rfl
theorem ml_X_220 : Cond.methodLink "RoundAndRound" 220 y_Head_fade ∈ xT := xT_3 73 rfl rfl
theorem ml_X_224 : Cond.methodLink "RoundAndRound" 224 y_X_isRace ∈ xT := xT_3 78 rfl rfl
theorem ml_X_228 : Cond.methodLink "RoundAndRound" 228 y_X_raceWait ∈ xT := xT_3 82 rfl rfl
theorem ml_X_232 : Cond.methodLink "RoundAndRound" 232 y_X_raceSeconds ∈ xT := xT_3 86 rfl rfl
theorem fg_X_23 : xFL "RoundAndRound" 23 0 3 := ⟨R_X, F_X, 15, rfl, i_X, by decide, xT_2 65 rfl rfl⟩
theorem ml_X_235 : Cond.methodLink "RoundAndRound" 235 y_Head_become ∈ xT := xT_3 54 rfl rfl
theorem ml_X_238 : Cond.methodLink "RoundAndRound" 238 y_X_roundedUp ∈ xT := xT_3 89 rfl rfl
theorem ml_X_241 : Cond.methodLink "RoundAndRound" 241 y_X_isSpeedPace ∈ xT := xT_3 43 rfl rfl
theorem cs_X_244 : Cond.constant "RoundAndRound" 244 (-99999) ∈ xT := xT_3 104 rfl rfl
theorem cs_X_245 : Cond.constant "RoundAndRound" 245 (99999) ∈ xT := xT_3 105 rfl rfl
theorem ml_X_246 : Cond.methodLink "RoundAndRound" 246 y_X_fillTurnedSenses ∈ xT := xT_3 106 rfl rfl
theorem fg_X_26 : xFL "RoundAndRound" 26 0 4 := ⟨R_X, F_X, 15, rfl, i_X, by decide, xT_2 66 rfl rfl⟩
theorem ml_X_250 : Cond.methodLink "RoundAndRound" 250 y_X_turnsAt ∈ xT := xT_3 110 rfl rfl
theorem ml_X_253 : Cond.methodLink "RoundAndRound" 253 y_X_refusalOfTold ∈ xT := xT_3 117 rfl rfl
theorem ml_X_256 : Cond.methodLink "RoundAndRound" 256 y_X_sheetAt ∈ xT := xT_3 128 rfl rfl
theorem ml_X_260 : Cond.methodLink "RoundAndRound" 260 y_X_firstOtherwise ∈ xT := xT_3 136 rfl rfl
theorem fp_X_150 : xFP "RoundAndRound" 150 1 0 (.int) false := ⟨R_Head, F_Head, 8, t_Head, ⟨rfl, i_Head, by decide, xT_1 30 rfl rfl⟩, t_Head_ok, n_Head, rfl, by decide +kernel, fun h => by cases h⟩
theorem fp_X_153 : xFP "RoundAndRound" 153 1 1 (.int) false := ⟨R_Head, F_Head, 8, t_Head, ⟨rfl, i_Head, by decide, xT_1 33 rfl rfl⟩, t_Head_ok, n_Head, rfl, by decide +kernel, fun h => by cases h⟩
theorem ml_X_264 : Cond.methodLink "RoundAndRound" 264 y_X_refusalOfSheet ∈ xT := xT_3 121 rfl rfl
theorem ml_X_267 : Cond.methodLink "RoundAndRound" 267 y_X_isSheet ∈ xT := xT_3 125 rfl rfl
theorem ml_X_270 : Cond.methodLink "RoundAndRound" 270 y_Sheet_begin ∈ xT := xT_3 169 rfl rfl
theorem ml_X_271 : Cond.methodLink "RoundAndRound" 271 y_Head_step ∈ xT := xT_3 140 rfl rfl
theorem ml_X_274 : Cond.methodLink "RoundAndRound" 274 y_Sheet_put ∈ xT := xT_3 174 rfl rfl
theorem ml_X_277 : Cond.methodLink "RoundAndRound" 277 y_X_isOddsPace ∈ xT := xT_3 182 rfl rfl
theorem ml_X_280 : Cond.methodLink "RoundAndRound" 280 y_X_thinkDrawn ∈ xT := xT_3 185 rfl rfl
theorem ml_X_284 : Cond.methodLink "RoundAndRound" 284 y_X_isSecondsSeeds ∈ xT := xT_3 196 rfl rfl
theorem cs_X_287 : Cond.constantLong "RoundAndRound" 287 (-4611686018427387904) ∈ xT := xT_3 199 rfl rfl
theorem ml_X_289 : Cond.methodLink "RoundAndRound" 289 y_X_greatestShared ∈ xT := xT_3 200 rfl rfl
theorem ml_X_292 : Cond.methodLink "RoundAndRound" 292 y_X_imageHeadAt ∈ xT := xT_3 207 rfl rfl
theorem fg_X_69 : xFL "RoundAndRound" 69 0 13 := ⟨R_X, F_X, 15, rfl, i_X, by decide, xT_2 75 rfl rfl⟩
theorem fg_X_72 : xFL "RoundAndRound" 72 0 14 := ⟨R_X, F_X, 15, rfl, i_X, by decide, xT_2 76 rfl rfl⟩
theorem ml_X_295 : Cond.methodLink "RoundAndRound" 295 y_Sheet_has ∈ xT := xT_3 223 rfl rfl
theorem ml_X_298 : Cond.methodLink "RoundAndRound" 298 y_Sheet_isMissing ∈ xT := xT_3 132 rfl rfl
theorem fg_X_301 : xFL "RoundAndRound" 301 4 1 := ⟨R_Sheet, F_Sheet, 3, rfl, i_Sheet, by decide, xT_1 188 rfl rfl⟩
theorem ml_X_304 : Cond.methodLink "RoundAndRound" 304 y_Sheet_hasRow ∈ xT := xT_3 228 rfl rfl
theorem fg_X_307 : xFL "RoundAndRound" 307 4 0 := ⟨R_Sheet, F_Sheet, 3, rfl, i_Sheet, by decide, xT_1 186 rfl rfl⟩
theorem ml_X_316 : Cond.methodLink "RoundAndRound" 316 y_Sheet_get ∈ xT := xT_3 141 rfl rfl
theorem ml_X_319 : Cond.methodLink "RoundAndRound" 319 y_X_head ∈ xT := xT_3 239 rfl rfl
theorem ml_X_322 : Cond.methodLink "RoundAndRound" 322 y_Kind_isOne ∈ xT := xT_4 4 rfl rfl
theorem cs_X_327 : Cond.constantLong "RoundAndRound" 327 (48271) ∈ xT := xT_3 189 rfl rfl
theorem cs_X_329 : Cond.constantLong "RoundAndRound" 329 (2147483647) ∈ xT := xT_3 190 rfl rfl
theorem cs_X_331 : Cond.constantLong "RoundAndRound" 331 (100) ∈ xT := xT_3 191 rfl rfl
theorem fg_X_333 : xFL "RoundAndRound" 333 4 2 := ⟨R_Sheet, F_Sheet, 3, rfl, i_Sheet, by decide, xT_1 190 rfl rfl⟩
theorem ml_X_334 : Cond.methodLink "RoundAndRound" 334 Lib.Math.max.name ∈ xT := xT_2 173 rfl rfl
theorem fg_X_37 : xFL "RoundAndRound" 37 0 6 := ⟨R_X, F_X, 15, rfl, i_X, by decide, xT_2 68 rfl rfl⟩
theorem fg_X_55 : xFL "RoundAndRound" 55 0 9 := ⟨R_X, F_X, 15, rfl, i_X, by decide, xT_2 71 rfl rfl⟩
theorem cs_X_337 : Cond.constant "RoundAndRound" 337 (540999) ∈ xT := xT_3 81 rfl rfl
theorem ml_Model_1 : Cond.methodLink "RoundAndRoundModel" 1 Lib.objectInit ∈ xT := xT_4 15 rfl rfl
theorem fp_Model_7 : xFP "RoundAndRoundModel" 7 5 1 (.array .int) true := ⟨R_Model, F_Model, 34, t_Model, ⟨rfl, i_Model, by decide, xT_4 64 rfl rfl⟩, t_Model_ok, n_Model, rfl, by decide +kernel, fun _ => rfl⟩
theorem fp_Model_13 : xFP "RoundAndRoundModel" 13 5 2 (.array .int) true := ⟨R_Model, F_Model, 34, t_Model, ⟨rfl, i_Model, by decide, xT_4 65 rfl rfl⟩, t_Model_ok, n_Model, rfl, by decide +kernel, fun _ => rfl⟩
theorem fp_Model_16 : xFP "RoundAndRoundModel" 16 5 3 (.array .int) true := ⟨R_Model, F_Model, 34, t_Model, ⟨rfl, i_Model, by decide, xT_4 66 rfl rfl⟩, t_Model_ok, n_Model, rfl, by decide +kernel, fun _ => rfl⟩
theorem fp_Model_19 : xFP "RoundAndRoundModel" 19 5 4 (.array .int) true := ⟨R_Model, F_Model, 34, t_Model, ⟨rfl, i_Model, by decide, xT_4 67 rfl rfl⟩, t_Model_ok, n_Model, rfl, by decide +kernel, fun _ => rfl⟩
theorem fp_Model_22 : xFP "RoundAndRoundModel" 22 5 6 (.array .int) true := ⟨R_Model, F_Model, 34, t_Model, ⟨rfl, i_Model, by decide, xT_4 69 rfl rfl⟩, t_Model_ok, n_Model, rfl, by decide +kernel, fun _ => rfl⟩
theorem fp_Model_25 : xFP "RoundAndRoundModel" 25 5 7 (.array .int) true := ⟨R_Model, F_Model, 34, t_Model, ⟨rfl, i_Model, by decide, xT_4 70 rfl rfl⟩, t_Model_ok, n_Model, rfl, by decide +kernel, fun _ => rfl⟩
theorem fp_Model_28 : xFP "RoundAndRoundModel" 28 5 13 (.array .int) true := ⟨R_Model, F_Model, 34, t_Model, ⟨rfl, i_Model, by decide, xT_4 76 rfl rfl⟩, t_Model_ok, n_Model, rfl, by decide +kernel, fun _ => rfl⟩
theorem fp_Model_31 : xFP "RoundAndRoundModel" 31 5 14 (.array .int) true := ⟨R_Model, F_Model, 34, t_Model, ⟨rfl, i_Model, by decide, xT_4 77 rfl rfl⟩, t_Model_ok, n_Model, rfl, by decide +kernel, fun _ => rfl⟩
theorem fp_Model_34 : xFP "RoundAndRoundModel" 34 5 15 (.array .int) true := ⟨R_Model, F_Model, 34, t_Model, ⟨rfl, i_Model, by decide, xT_4 78 rfl rfl⟩, t_Model_ok, n_Model, rfl, by decide +kernel, fun _ => rfl⟩
theorem fp_Model_37 : xFP "RoundAndRoundModel" 37 5 16 (.array .int) true := ⟨R_Model, F_Model, 34, t_Model, ⟨rfl, i_Model, by decide, xT_4 79 rfl rfl⟩, t_Model_ok, n_Model, rfl, by decide +kernel, fun _ => rfl⟩
theorem fp_Model_40 : xFP "RoundAndRoundModel" 40 5 17 (.array .int) true := ⟨R_Model, F_Model, 34, t_Model, ⟨rfl, i_Model, by decide, xT_4 80 rfl rfl⟩, t_Model_ok, n_Model, rfl, by decide +kernel, fun _ => rfl⟩
theorem fp_Model_43 : xFP "RoundAndRoundModel" 43 5 22 (.array .int) true := ⟨R_Model, F_Model, 34, t_Model, ⟨rfl, i_Model, by decide, xT_4 85 rfl rfl⟩, t_Model_ok, n_Model, rfl, by decide +kernel, fun _ => rfl⟩
theorem fp_Model_46 : xFP "RoundAndRoundModel" 46 5 23 (.array .int) true := ⟨R_Model, F_Model, 34, t_Model, ⟨rfl, i_Model, by decide, xT_4 86 rfl rfl⟩, t_Model_ok, n_Model, rfl, by decide +kernel, fun _ => rfl⟩
theorem fp_Model_49 : xFP "RoundAndRoundModel" 49 5 27 (.array .int) true := ⟨R_Model, F_Model, 34, t_Model, ⟨rfl, i_Model, by decide, xT_4 90 rfl rfl⟩, t_Model_ok, n_Model, rfl, by decide +kernel, fun _ => rfl⟩
theorem fp_Model_52 : xFP "RoundAndRoundModel" 52 5 28 (.array .int) true := ⟨R_Model, F_Model, 34, t_Model, ⟨rfl, i_Model, by decide, xT_4 91 rfl rfl⟩, t_Model_ok, n_Model, rfl, by decide +kernel, fun _ => rfl⟩
theorem fg_Model_19 : xFL "RoundAndRoundModel" 19 5 4 := ⟨R_Model, F_Model, 34, rfl, i_Model, by decide, xT_4 67 rfl rfl⟩
theorem fg_Model_40 : xFL "RoundAndRoundModel" 40 5 17 := ⟨R_Model, F_Model, 34, rfl, i_Model, by decide, xT_4 80 rfl rfl⟩
theorem fp_Model_55 : xFP "RoundAndRoundModel" 55 5 5 (.int) false := ⟨R_Model, F_Model, 34, t_Model, ⟨rfl, i_Model, by decide, xT_4 68 rfl rfl⟩, t_Model_ok, n_Model, rfl, by decide +kernel, fun h => by cases h⟩
theorem ml_Model_59 : Cond.methodLink "RoundAndRoundModel" 59 y_Model_text ∈ xT := xT_4 16 rfl rfl
theorem fg_Model_63 : xFL "RoundAndRoundModel" 63 5 0 := ⟨R_Model, F_Model, 34, rfl, i_Model, by decide, xT_4 63 rfl rfl⟩
theorem ml_Model_66 : Cond.methodLink "RoundAndRoundModel" 66 y_Model_in ∈ xT := xT_4 24 rfl rfl
theorem fg_Model_70 : xFL "RoundAndRoundModel" 70 5 8 := ⟨R_Model, F_Model, 34, rfl, i_Model, by decide, xT_4 71 rfl rfl⟩
theorem fg_Model_73 : xFL "RoundAndRoundModel" 73 5 9 := ⟨R_Model, F_Model, 34, rfl, i_Model, by decide, xT_4 72 rfl rfl⟩
theorem fg_Model_55 : xFL "RoundAndRoundModel" 55 5 5 := ⟨R_Model, F_Model, 34, rfl, i_Model, by decide, xT_4 68 rfl rfl⟩
theorem ml_Model_76 : Cond.methodLink "RoundAndRoundModel" 76 y_Model_isByte ∈ xT := xT_4 174 rfl rfl
theorem fg_Model_43 : xFL "RoundAndRoundModel" 43 5 22 := ⟨R_Model, F_Model, 34, rfl, i_Model, by decide, xT_4 85 rfl rfl⟩
theorem fg_Model_80 : xFL "RoundAndRoundModel" 80 5 18 := ⟨R_Model, F_Model, 34, rfl, i_Model, by decide, xT_4 81 rfl rfl⟩
theorem fp_Model_80 : xFP "RoundAndRoundModel" 80 5 18 (.int) false := ⟨R_Model, F_Model, 34, t_Model, ⟨rfl, i_Model, by decide, xT_4 81 rfl rfl⟩, t_Model_ok, n_Model, rfl, by decide +kernel, fun h => by cases h⟩
theorem fp_Model_83 : xFP "RoundAndRoundModel" 83 5 19 (.int) false := ⟨R_Model, F_Model, 34, t_Model, ⟨rfl, i_Model, by decide, xT_4 82 rfl rfl⟩, t_Model_ok, n_Model, rfl, by decide +kernel, fun h => by cases h⟩
theorem fp_Model_86 : xFP "RoundAndRoundModel" 86 5 20 (.int) false := ⟨R_Model, F_Model, 34, t_Model, ⟨rfl, i_Model, by decide, xT_4 83 rfl rfl⟩, t_Model_ok, n_Model, rfl, by decide +kernel, fun h => by cases h⟩
theorem fp_Model_89 : xFP "RoundAndRoundModel" 89 5 21 (.int) false := ⟨R_Model, F_Model, 34, t_Model, ⟨rfl, i_Model, by decide, xT_4 84 rfl rfl⟩, t_Model_ok, n_Model, rfl, by decide +kernel, fun h => by cases h⟩
theorem fg_Model_83 : xFL "RoundAndRoundModel" 83 5 19 := ⟨R_Model, F_Model, 34, rfl, i_Model, by decide, xT_4 82 rfl rfl⟩
theorem ml_Model_92 : Cond.methodLink "RoundAndRoundModel" 92 y_Model_wordFrom ∈ xT := xT_4 27 rfl rfl
theorem fg_Model_89 : xFL "RoundAndRoundModel" 89 5 21 := ⟨R_Model, F_Model, 34, rfl, i_Model, by decide, xT_4 84 rfl rfl⟩
theorem fg_Model_22 : xFL "RoundAndRoundModel" 22 5 6 := ⟨R_Model, F_Model, 34, rfl, i_Model, by decide, xT_4 69 rfl rfl⟩
theorem fg_Model_96 : xFL "RoundAndRoundModel" 96 5 26 := ⟨R_Model, F_Model, 34, rfl, i_Model, by decide, xT_4 89 rfl rfl⟩
theorem fp_Model_96 : xFP "RoundAndRoundModel" 96 5 26 (.int) false := ⟨R_Model, F_Model, 34, t_Model, ⟨rfl, i_Model, by decide, xT_4 89 rfl rfl⟩, t_Model_ok, n_Model, rfl, by decide +kernel, fun h => by cases h⟩
theorem fg_Model_99 : xFL "RoundAndRoundModel" 99 5 24 := ⟨R_Model, F_Model, 34, rfl, i_Model, by decide, xT_4 87 rfl rfl⟩
theorem fg_Model_46 : xFL "RoundAndRoundModel" 46 5 23 := ⟨R_Model, F_Model, 34, rfl, i_Model, by decide, xT_4 86 rfl rfl⟩
theorem ml_Model_102 : Cond.methodLink "RoundAndRoundModel" 102 y_Model_rank ∈ xT := xT_4 44 rfl rfl
theorem fp_Model_99 : xFP "RoundAndRoundModel" 99 5 24 (.int) false := ⟨R_Model, F_Model, 34, t_Model, ⟨rfl, i_Model, by decide, xT_4 87 rfl rfl⟩, t_Model_ok, n_Model, rfl, by decide +kernel, fun h => by cases h⟩
theorem fg_Model_106 : xFL "RoundAndRoundModel" 106 5 25 := ⟨R_Model, F_Model, 34, rfl, i_Model, by decide, xT_4 88 rfl rfl⟩
theorem fp_Model_106 : xFP "RoundAndRoundModel" 106 5 25 (.int) false := ⟨R_Model, F_Model, 34, t_Model, ⟨rfl, i_Model, by decide, xT_4 88 rfl rfl⟩, t_Model_ok, n_Model, rfl, by decide +kernel, fun h => by cases h⟩
theorem ml_Model_109 : Cond.methodLink "RoundAndRoundModel" 109 y_Model_puts ∈ xT := xT_4 36 rfl rfl
theorem ml_Model_113 : Cond.methodLink "RoundAndRoundModel" 113 y_Model_holds ∈ xT := xT_4 51 rfl rfl
theorem ml_Model_116 : Cond.methodLink "RoundAndRoundModel" 116 y_Model_unwinds ∈ xT := xT_4 40 rfl rfl
theorem fg_Model_86 : xFL "RoundAndRoundModel" 86 5 20 := ⟨R_Model, F_Model, 34, rfl, i_Model, by decide, xT_4 83 rfl rfl⟩
theorem ml_Model_119 : Cond.methodLink "RoundAndRoundModel" 119 y_Model_next ∈ xT := xT_4 20 rfl rfl
theorem cs_Model_122 : Cond.constant "RoundAndRoundModel" 122 (100000) ∈ xT := xT_4 35 rfl rfl
theorem ml_Model_123 : Cond.methodLink "RoundAndRoundModel" 123 y_Model_opensOne ∈ xT := xT_4 47 rfl rfl
theorem ml_Model_126 : Cond.methodLink "RoundAndRoundModel" 126 y_Model_signOf ∈ xT := xT_4 55 rfl rfl
theorem ml_Model_129 : Cond.methodLink "RoundAndRoundModel" 129 y_Model_between ∈ xT := xT_4 59 rfl rfl
theorem fg_Model_25 : xFL "RoundAndRoundModel" 25 5 7 := ⟨R_Model, F_Model, 34, rfl, i_Model, by decide, xT_4 70 rfl rfl⟩
theorem ml_Model_132 : Cond.methodLink "RoundAndRoundModel" 132 y_Model_eRead ∈ xT := xT_4 31 rfl rfl
theorem fp_Model_70 : xFP "RoundAndRoundModel" 70 5 8 (.int) false := ⟨R_Model, F_Model, 34, t_Model, ⟨rfl, i_Model, by decide, xT_4 71 rfl rfl⟩, t_Model_ok, n_Model, rfl, by decide +kernel, fun h => by cases h⟩
theorem fg_Model_49 : xFL "RoundAndRoundModel" 49 5 27 := ⟨R_Model, F_Model, 34, rfl, i_Model, by decide, xT_4 90 rfl rfl⟩
theorem fg_Model_52 : xFL "RoundAndRoundModel" 52 5 28 := ⟨R_Model, F_Model, 34, rfl, i_Model, by decide, xT_4 91 rfl rfl⟩
theorem ml_Model_136 : Cond.methodLink "RoundAndRoundModel" 136 y_Model_two ∈ xT := xT_4 198 rfl rfl
theorem fp_Model_73 : xFP "RoundAndRoundModel" 73 5 9 (.int) false := ⟨R_Model, F_Model, 34, t_Model, ⟨rfl, i_Model, by decide, xT_4 72 rfl rfl⟩, t_Model_ok, n_Model, rfl, by decide +kernel, fun h => by cases h⟩
theorem fg_Model_16 : xFL "RoundAndRoundModel" 16 5 3 := ⟨R_Model, F_Model, 34, rfl, i_Model, by decide, xT_4 66 rfl rfl⟩
theorem fg_Model_13 : xFL "RoundAndRoundModel" 13 5 2 := ⟨R_Model, F_Model, 34, rfl, i_Model, by decide, xT_4 65 rfl rfl⟩
theorem fg_Model_140 : xFL "RoundAndRoundModel" 140 5 29 := ⟨R_Model, F_Model, 34, rfl, i_Model, by decide, xT_4 92 rfl rfl⟩
theorem ml_Model_143 : Cond.methodLink "RoundAndRoundModel" 143 y_Model_says ∈ xT := xT_4 194 rfl rfl
theorem ml_Model_146 : Cond.methodLink "RoundAndRoundModel" 146 y_Model_within ∈ xT := xT_4 201 rfl rfl
theorem ml_Model_149 : Cond.methodLink "RoundAndRoundModel" 149 y_Model_isHead ∈ xT := xT_4 186 rfl rfl
theorem fp_Model_140 : xFP "RoundAndRoundModel" 140 5 29 (.int) false := ⟨R_Model, F_Model, 34, t_Model, ⟨rfl, i_Model, by decide, xT_4 92 rfl rfl⟩, t_Model_ok, n_Model, rfl, by decide +kernel, fun h => by cases h⟩
theorem ml_Model_152 : Cond.methodLink "RoundAndRoundModel" 152 y_Model_asksOf ∈ xT := xT_4 190 rfl rfl
theorem fg_Model_7 : xFL "RoundAndRoundModel" 7 5 1 := ⟨R_Model, F_Model, 34, rfl, i_Model, by decide, xT_4 64 rfl rfl⟩
theorem fp_Model_63 : xFP "RoundAndRoundModel" 63 5 0 (.int) false := ⟨R_Model, F_Model, 34, t_Model, ⟨rfl, i_Model, by decide, xT_4 63 rfl rfl⟩, t_Model_ok, n_Model, rfl, by decide +kernel, fun h => by cases h⟩
theorem cs_Model_156 : Cond.constant "RoundAndRoundModel" 156 (-100005) ∈ xT := xT_4 212 rfl rfl
theorem cs_Model_157 : Cond.constant "RoundAndRoundModel" 157 (-100007) ∈ xT := xT_4 213 rfl rfl
theorem ml_Model_158 : Cond.methodLink "RoundAndRoundModel" 158 y_Model_fallsFrom ∈ xT := xT_4 218 rfl rfl
theorem ml_Model_161 : Cond.methodLink "RoundAndRoundModel" 161 y_Model_fadesOf ∈ xT := xT_5 8 rfl rfl
theorem ml_Model_164 : Cond.methodLink "RoundAndRoundModel" 164 y_Model_size0 ∈ xT := xT_4 237 rfl rfl
theorem ml_Model_167 : Cond.methodLink "RoundAndRoundModel" 167 y_Model_buildsOf ∈ xT := xT_5 0 rfl rfl
theorem ml_Model_170 : Cond.methodLink "RoundAndRoundModel" 170 y_Model_fade ∈ xT := xT_5 4 rfl rfl
theorem fg_Model_174 : xFL "RoundAndRoundModel" 174 5 32 := ⟨R_Model, F_Model, 34, rfl, i_Model, by decide, xT_4 95 rfl rfl⟩
theorem fp_Model_174 : xFP "RoundAndRoundModel" 174 5 32 (.boolean) false := ⟨R_Model, F_Model, 34, t_Model, ⟨rfl, i_Model, by decide, xT_4 95 rfl rfl⟩, t_Model_ok, n_Model, rfl, by decide +kernel, fun h => by cases h⟩
theorem fp_Model_178 : xFP "RoundAndRoundModel" 178 5 33 (.int) false := ⟨R_Model, F_Model, 34, t_Model, ⟨rfl, i_Model, by decide, xT_4 96 rfl rfl⟩, t_Model_ok, n_Model, rfl, by decide +kernel, fun h => by cases h⟩
theorem fg_Model_181 : xFL "RoundAndRoundModel" 181 5 30 := ⟨R_Model, F_Model, 34, rfl, i_Model, by decide, xT_4 93 rfl rfl⟩
theorem cs_Model_184 : Cond.constant "RoundAndRoundModel" 184 (-99999) ∈ xT := xT_5 36 rfl rfl
theorem cs_Model_185 : Cond.constant "RoundAndRoundModel" 185 (99999) ∈ xT := xT_5 37 rfl rfl
theorem fp_Model_181 : xFP "RoundAndRoundModel" 181 5 30 (.int) false := ⟨R_Model, F_Model, 34, t_Model, ⟨rfl, i_Model, by decide, xT_4 93 rfl rfl⟩, t_Model_ok, n_Model, rfl, by decide +kernel, fun h => by cases h⟩
theorem fg_Model_186 : xFL "RoundAndRoundModel" 186 5 31 := ⟨R_Model, F_Model, 34, rfl, i_Model, by decide, xT_4 94 rfl rfl⟩
theorem fp_Model_186 : xFP "RoundAndRoundModel" 186 5 31 (.int) false := ⟨R_Model, F_Model, 34, t_Model, ⟨rfl, i_Model, by decide, xT_4 94 rfl rfl⟩, t_Model_ok, n_Model, rfl, by decide +kernel, fun h => by cases h⟩
theorem ml_Model_189 : Cond.methodLink "RoundAndRoundModel" 189 y_Model_step ∈ xT := xT_5 32 rfl rfl
theorem ml_Model_193 : Cond.methodLink "RoundAndRoundModel" 193 y_Model_isTurned ∈ xT := xT_4 226 rfl rfl
theorem ml_Model_196 : Cond.methodLink "RoundAndRoundModel" 196 y_Model_takes ∈ xT := xT_4 229 rfl rfl
theorem ml_Model_199 : Cond.methodLink "RoundAndRoundModel" 199 y_Model_turns ∈ xT := xT_4 233 rfl rfl
theorem ml_Model_203 : Cond.methodLink "RoundAndRoundModel" 203 y_Model_lays ∈ xT := xT_5 12 rfl rfl
theorem ml_Model_206 : Cond.methodLink "RoundAndRoundModel" 206 y_Model_waits ∈ xT := xT_5 20 rfl rfl
theorem ml_Model_209 : Cond.methodLink "RoundAndRoundModel" 209 y_Model_walks ∈ xT := xT_5 28 rfl rfl
theorem ml_Model_212 : Cond.methodLink "RoundAndRoundModel" 212 y_Model_begins ∈ xT := xT_5 53 rfl rfl
theorem ml_Model_215 : Cond.methodLink "RoundAndRoundModel" 215 y_Model_areDigits ∈ xT := xT_5 46 rfl rfl
theorem ml_Model_218 : Cond.methodLink "RoundAndRoundModel" 218 y_Model_tries ∈ xT := xT_5 49 rfl rfl
theorem fg_Model_178 : xFL "RoundAndRoundModel" 178 5 33 := ⟨R_Model, F_Model, 34, rfl, i_Model, by decide, xT_4 96 rfl rfl⟩
theorem cs_Model_222 : Cond.constant "RoundAndRoundModel" 222 (540999) ∈ xT := xT_5 76 rfl rfl
theorem ml_Model_223 : Cond.methodLink "RoundAndRoundModel" 223 y_Model_isRace ∈ xT := xT_5 73 rfl rfl
theorem ml_Model_227 : Cond.methodLink "RoundAndRoundModel" 227 y_Model_raceOf ∈ xT := xT_5 77 rfl rfl
theorem ml_Model_231 : Cond.methodLink "RoundAndRoundModel" 231 y_Model_byNumber ∈ xT := xT_5 93 rfl rfl
theorem fg_Model_31 : xFL "RoundAndRoundModel" 31 5 14 := ⟨R_Model, F_Model, 34, rfl, i_Model, by decide, xT_4 77 rfl rfl⟩
theorem ml_Model_234 : Cond.methodLink "RoundAndRoundModel" 234 y_Model_sheetWrong ∈ xT := xT_5 104 rfl rfl
theorem fg_Model_34 : xFL "RoundAndRoundModel" 34 5 15 := ⟨R_Model, F_Model, 34, rfl, i_Model, by decide, xT_4 78 rfl rfl⟩
theorem fg_Model_37 : xFL "RoundAndRoundModel" 37 5 16 := ⟨R_Model, F_Model, 34, rfl, i_Model, by decide, xT_4 79 rfl rfl⟩
theorem ml_Model_237 : Cond.methodLink "RoundAndRoundModel" 237 y_Model_toldWrong ∈ xT := xT_5 100 rfl rfl
theorem ml_Model_240 : Cond.methodLink "RoundAndRoundModel" 240 y_Model_unlike ∈ xT := xT_5 108 rfl rfl
theorem cs_Model_243 : Cond.constantLong "RoundAndRoundModel" 243 (48271) ∈ xT := xT_5 143 rfl rfl
theorem cs_Model_245 : Cond.constantLong "RoundAndRoundModel" 245 (2147483647) ∈ xT := xT_5 144 rfl rfl
theorem cs_Model_247 : Cond.constantLong "RoundAndRoundModel" 247 (100) ∈ xT := xT_5 145 rfl rfl
theorem ml_Model_249 : Cond.methodLink "RoundAndRoundModel" 249 y_Model_areOdds ∈ xT := xT_5 136 rfl rfl
theorem ml_Model_252 : Cond.methodLink "RoundAndRoundModel" 252 y_Model_walkBy ∈ xT := xT_5 139 rfl rfl
theorem cs_Model_255 : Cond.constantLong "RoundAndRoundModel" 255 (-4611686018427387904) ∈ xT := xT_5 150 rfl rfl
theorem ml_Model_257 : Cond.methodLink "RoundAndRoundModel" 257 y_Model_lowest ∈ xT := xT_5 151 rfl rfl
theorem fp_Model_261 : xFP "RoundAndRoundModel" 261 5 10 (.boolean) false := ⟨R_Model, F_Model, 34, t_Model, ⟨rfl, i_Model, by decide, xT_4 73 rfl rfl⟩, t_Model_ok, n_Model, rfl, by decide +kernel, fun h => by cases h⟩
theorem fp_Model_264 : xFP "RoundAndRoundModel" 264 5 11 (.int) false := ⟨R_Model, F_Model, 34, t_Model, ⟨rfl, i_Model, by decide, xT_4 74 rfl rfl⟩, t_Model_ok, n_Model, rfl, by decide +kernel, fun h => by cases h⟩
theorem fp_Model_267 : xFP "RoundAndRoundModel" 267 5 12 (.int) false := ⟨R_Model, F_Model, 34, t_Model, ⟨rfl, i_Model, by decide, xT_4 75 rfl rfl⟩, t_Model_ok, n_Model, rfl, by decide +kernel, fun h => by cases h⟩
theorem fg_Model_28 : xFL "RoundAndRoundModel" 28 5 13 := ⟨R_Model, F_Model, 34, rfl, i_Model, by decide, xT_4 76 rfl rfl⟩
theorem fg_Model_261 : xFL "RoundAndRoundModel" 261 5 10 := ⟨R_Model, F_Model, 34, rfl, i_Model, by decide, xT_4 73 rfl rfl⟩
theorem fg_Model_264 : xFL "RoundAndRoundModel" 264 5 11 := ⟨R_Model, F_Model, 34, rfl, i_Model, by decide, xT_4 74 rfl rfl⟩
theorem fg_Model_267 : xFL "RoundAndRoundModel" 267 5 12 := ⟨R_Model, F_Model, 34, rfl, i_Model, by decide, xT_4 75 rfl rfl⟩
theorem ml_Model_270 : Cond.methodLink "RoundAndRoundModel" 270 y_Model_head ∈ xT := xT_5 178 rfl rfl
theorem ml_Model_273 : Cond.methodLink "RoundAndRoundModel" 273 y_Model_isUnder ∈ xT := xT_5 183 rfl rfl
theorem ml_Head_3 : Cond.methodLink "RoundAndRound$Head" 3 Lib.objectInit ∈ xT := xT_1 28 rfl rfl
theorem fp_Head_9 : xFP "RoundAndRound$Head" 9 1 0 (.int) false := ⟨R_Head, F_Head, 8, t_Head, ⟨rfl, i_Head, by decide, xT_1 29 rfl rfl⟩, t_Head_ok, n_Head, rfl, by decide +kernel, fun h => by cases h⟩
theorem fp_Head_15 : xFP "RoundAndRound$Head" 15 1 1 (.int) false := ⟨R_Head, F_Head, 8, t_Head, ⟨rfl, i_Head, by decide, xT_1 31 rfl rfl⟩, t_Head_ok, n_Head, rfl, by decide +kernel, fun h => by cases h⟩
theorem fp_Head_18 : xFP "RoundAndRound$Head" 18 1 2 (.int) false := ⟨R_Head, F_Head, 8, t_Head, ⟨rfl, i_Head, by decide, xT_1 34 rfl rfl⟩, t_Head_ok, n_Head, rfl, by decide +kernel, fun h => by cases h⟩
theorem fp_Head_21 : xFP "RoundAndRound$Head" 21 1 3 (.int) false := ⟨R_Head, F_Head, 8, t_Head, ⟨rfl, i_Head, by decide, xT_1 37 rfl rfl⟩, t_Head_ok, n_Head, rfl, by decide +kernel, fun h => by cases h⟩
theorem fp_Head_24 : xFP "RoundAndRound$Head" 24 1 4 (.int) false := ⟨R_Head, F_Head, 8, t_Head, ⟨rfl, i_Head, by decide, xT_1 40 rfl rfl⟩, t_Head_ok, n_Head, rfl, by decide +kernel, fun h => by cases h⟩
theorem ml_Head_27 : Cond.methodLink "RoundAndRound$Head" 27 y_Head_standAtStart ∈ xT := xT_2 185 rfl rfl
theorem fg_Head_9 : xFL "RoundAndRound$Head" 9 1 0 := ⟨R_Head, F_Head, 8, rfl, i_Head, by decide, xT_1 29 rfl rfl⟩
theorem fg_Head_15 : xFL "RoundAndRound$Head" 15 1 1 := ⟨R_Head, F_Head, 8, rfl, i_Head, by decide, xT_1 31 rfl rfl⟩
theorem fg_Head_18 : xFL "RoundAndRound$Head" 18 1 2 := ⟨R_Head, F_Head, 8, rfl, i_Head, by decide, xT_1 34 rfl rfl⟩
theorem fg_Head_21 : xFL "RoundAndRound$Head" 21 1 3 := ⟨R_Head, F_Head, 8, rfl, i_Head, by decide, xT_1 37 rfl rfl⟩
theorem fg_Head_24 : xFL "RoundAndRound$Head" 24 1 4 := ⟨R_Head, F_Head, 8, rfl, i_Head, by decide, xT_1 40 rfl rfl⟩
theorem fg_Head_30 : xFL "RoundAndRound$Head" 30 1 5 := ⟨R_Head, F_Head, 8, rfl, i_Head, by decide, xT_1 43 rfl rfl⟩
theorem fp_Head_30 : xFP "RoundAndRound$Head" 30 1 5 (.int) false := ⟨R_Head, F_Head, 8, t_Head, ⟨rfl, i_Head, by decide, xT_1 43 rfl rfl⟩, t_Head_ok, n_Head, rfl, by decide +kernel, fun h => by cases h⟩
theorem fg_Head_33 : xFL "RoundAndRound$Head" 33 1 6 := ⟨R_Head, F_Head, 8, rfl, i_Head, by decide, xT_1 45 rfl rfl⟩
theorem fp_Head_33 : xFP "RoundAndRound$Head" 33 1 6 (.int) false := ⟨R_Head, F_Head, 8, t_Head, ⟨rfl, i_Head, by decide, xT_1 45 rfl rfl⟩, t_Head_ok, n_Head, rfl, by decide +kernel, fun h => by cases h⟩
theorem fg_Head_36 : xFL "RoundAndRound$Head" 36 1 7 := ⟨R_Head, F_Head, 8, rfl, i_Head, by decide, xT_1 47 rfl rfl⟩
theorem fp_Head_36 : xFP "RoundAndRound$Head" 36 1 7 (.boolean) false := ⟨R_Head, F_Head, 8, t_Head, ⟨rfl, i_Head, by decide, xT_1 47 rfl rfl⟩, t_Head_ok, n_Head, rfl, by decide +kernel, fun h => by cases h⟩
theorem ml_Head_40 : Cond.methodLink "RoundAndRound$Head" 40 y_Kind_fallsFrom ∈ xT := xT_2 203 rfl rfl
theorem ml_Head_46 : Cond.methodLink "RoundAndRound$Head" 46 Lib.Math.abs.name ∈ xT := xT_2 220 rfl rfl
theorem ml_Head_52 : Cond.methodLink "RoundAndRound$Head" 52 y_Head_fallsFrom ∈ xT := xT_3 28 rfl rfl
theorem ml_Head_55 : Cond.methodLink "RoundAndRound$Head" 55 y_Text_says ∈ xT := xT_2 227 rfl rfl
theorem ml_Head_61 : Cond.methodLink "RoundAndRound$Head" 61 y_Kind_fades ∈ xT := xT_2 237 rfl rfl
theorem ml_Head_64 : Cond.methodLink "RoundAndRound$Head" 64 y_Kind_builds ∈ xT := xT_2 228 rfl rfl
theorem mn_Head_68 : Cond.methodLinkNest "RoundAndRound$Head" 68 y_X_bounded "RoundAndRound" ∈ xnest := List.mem_of_getElem? (i := 3) rfl
theorem ml_Head_72 : Cond.methodLink "RoundAndRound$Head" 72 y_Head_fade ∈ xT := xT_2 233 rfl rfl
theorem ml_Head_76 : Cond.methodLink "RoundAndRound$Head" 76 y_Head_spinOnce ∈ xT := xT_2 223 rfl rfl
theorem ml_Head_80 : Cond.methodLink "RoundAndRound$Head" 80 y_Head_mustFall ∈ xT := xT_3 24 rfl rfl
theorem cs_Head_84 : Cond.constant "RoundAndRound$Head" 84 (-99999) ∈ xT := xT_3 29 rfl rfl
theorem cs_Head_85 : Cond.constant "RoundAndRound$Head" 85 (99999) ∈ xT := xT_3 30 rfl rfl
theorem ml_Head_86 : Cond.methodLink "RoundAndRound$Head" 86 y_Head_step ∈ xT := xT_3 20 rfl rfl
theorem ml_Kind_9 : Cond.methodLink "RoundAndRound$Kind" 9 y_Kind_above ∈ xT := xT_4 7 rfl rfl
theorem ml_Kind_15 : Cond.methodLink "RoundAndRound$Kind" 15 Lib.Math.max.name ∈ xT := xT_2 231 rfl rfl
theorem mn_Kind_21 : Cond.methodLinkNest "RoundAndRound$Kind" 21 y_X_bounded "RoundAndRound" ∈ xnest := List.mem_of_getElem? (i := 4) rfl
theorem ml_Reader_5 : Cond.methodLink "RoundAndRound$Reader" 5 Lib.objectInit ∈ xT := xT_1 95 rfl rfl
theorem fp_Reader_11 : xFP "RoundAndRound$Reader" 11 3 0 (.array .int) true := ⟨R_Reader, F_Reader, 9, t_Reader, ⟨rfl, i_Reader, by decide, xT_1 147 rfl rfl⟩, t_Reader_ok, n_Reader, rfl, by decide +kernel, fun _ => rfl⟩
theorem fp_Reader_15 : xFP "RoundAndRound$Reader" 15 3 1 (.array .long) true := ⟨R_Reader, F_Reader, 9, t_Reader, ⟨rfl, i_Reader, by decide, xT_1 148 rfl rfl⟩, t_Reader_ok, n_Reader, rfl, by decide +kernel, fun _ => rfl⟩
theorem fg_Reader_15 : xFL "RoundAndRound$Reader" 15 3 1 := ⟨R_Reader, F_Reader, 9, rfl, i_Reader, by decide, xT_1 148 rfl rfl⟩
theorem cs_Reader_31 : Cond.constantLong "RoundAndRound$Reader" 31 (32) ∈ xT := xT_1 145 rfl rfl
theorem cs_Reader_33 : Cond.constantLong "RoundAndRound$Reader" 33 (97) ∈ xT := xT_1 146 rfl rfl
theorem fg_Reader_35 : xFL "RoundAndRound$Reader" 35 3 2 := ⟨R_Reader, F_Reader, 9, rfl, i_Reader, by decide, xT_1 149 rfl rfl⟩
theorem fg_Reader_11 : xFL "RoundAndRound$Reader" 11 3 0 := ⟨R_Reader, F_Reader, 9, rfl, i_Reader, by decide, xT_1 147 rfl rfl⟩
theorem fp_Reader_35 : xFP "RoundAndRound$Reader" 35 3 2 (.int) false := ⟨R_Reader, F_Reader, 9, t_Reader, ⟨rfl, i_Reader, by decide, xT_1 149 rfl rfl⟩, t_Reader_ok, n_Reader, rfl, by decide +kernel, fun h => by cases h⟩
theorem ml_Reader_39 : Cond.methodLink "RoundAndRound$Reader" 39 y_Text_clear ∈ xT := xT_1 213 rfl rfl
theorem fp_Reader_44 : xFP "RoundAndRound$Reader" 44 3 3 (.int) false := ⟨R_Reader, F_Reader, 9, t_Reader, ⟨rfl, i_Reader, by decide, xT_1 151 rfl rfl⟩, t_Reader_ok, n_Reader, rfl, by decide +kernel, fun h => by cases h⟩
theorem fp_Reader_47 : xFP "RoundAndRound$Reader" 47 3 7 (.int) false := ⟨R_Reader, F_Reader, 9, t_Reader, ⟨rfl, i_Reader, by decide, xT_1 155 rfl rfl⟩, t_Reader_ok, n_Reader, rfl, by decide +kernel, fun h => by cases h⟩
theorem fp_Reader_50 : xFP "RoundAndRound$Reader" 50 3 8 (.int) false := ⟨R_Reader, F_Reader, 9, t_Reader, ⟨rfl, i_Reader, by decide, xT_1 156 rfl rfl⟩, t_Reader_ok, n_Reader, rfl, by decide +kernel, fun h => by cases h⟩
theorem ml_Reader_53 : Cond.methodLink "RoundAndRound$Reader" 53 y_Reader_advance ∈ xT := xT_1 217 rfl rfl
theorem ml_Reader_56 : Cond.methodLink "RoundAndRound$Reader" 56 y_Reader_expect ∈ xT := xT_2 6 rfl rfl
theorem ml_Reader_60 : Cond.methodLink "RoundAndRound$Reader" 60 y_Reader_readOr ∈ xT := xT_2 18 rfl rfl
theorem ml_Reader_64 : Cond.methodLink "RoundAndRound$Reader" 64 y_Text_endPart ∈ xT := xT_2 54 rfl rfl
theorem fg_Reader_50 : xFL "RoundAndRound$Reader" 50 3 8 := ⟨R_Reader, F_Reader, 9, rfl, i_Reader, by decide, xT_1 156 rfl rfl⟩
theorem ml_Reader_67 : Cond.methodLink "RoundAndRound$Reader" 67 y_Reader_failed ∈ xT := xT_2 14 rfl rfl
theorem fg_Reader_71 : xFL "RoundAndRound$Reader" 71 3 4 := ⟨R_Reader, F_Reader, 9, rfl, i_Reader, by decide, xT_1 152 rfl rfl⟩
theorem fg_Reader_74 : xFL "RoundAndRound$Reader" 74 3 5 := ⟨R_Reader, F_Reader, 9, rfl, i_Reader, by decide, xT_1 153 rfl rfl⟩
theorem ml_Reader_77 : Cond.methodLink "RoundAndRound$Reader" 77 y_Reader_fail ∈ xT := xT_2 10 rfl rfl
theorem ml_Reader_80 : Cond.methodLink "RoundAndRound$Reader" 80 y_Reader_readAnd ∈ xT := xT_2 22 rfl rfl
theorem ml_Reader_83 : Cond.methodLink "RoundAndRound$Reader" 83 y_Reader_at ∈ xT := xT_2 30 rfl rfl
theorem ml_Reader_87 : Cond.methodLink "RoundAndRound$Reader" 87 y_Text_add ∈ xT := xT_2 38 rfl rfl
theorem ml_Reader_90 : Cond.methodLink "RoundAndRound$Reader" 90 y_Reader_readNot ∈ xT := xT_2 26 rfl rfl
theorem ml_Reader_93 : Cond.methodLink "RoundAndRound$Reader" 93 y_Reader_opened ∈ xT := xT_2 34 rfl rfl
theorem fg_Reader_47 : xFL "RoundAndRound$Reader" 47 3 7 := ⟨R_Reader, F_Reader, 9, rfl, i_Reader, by decide, xT_1 155 rfl rfl⟩
theorem ml_Reader_96 : Cond.methodLink "RoundAndRound$Reader" 96 y_Reader_readSum ∈ xT := xT_2 42 rfl rfl
theorem ml_Reader_99 : Cond.methodLink "RoundAndRound$Reader" 99 y_Reader_readTerm ∈ xT := xT_2 46 rfl rfl
theorem ml_Reader_102 : Cond.methodLink "RoundAndRound$Reader" 102 y_Reader_readOne ∈ xT := xT_2 50 rfl rfl
theorem fg_Reader_105 : xFL "RoundAndRound$Reader" 105 3 6 := ⟨R_Reader, F_Reader, 9, rfl, i_Reader, by decide, xT_1 154 rfl rfl⟩
theorem fg_Reader_44 : xFL "RoundAndRound$Reader" 44 3 3 := ⟨R_Reader, F_Reader, 9, rfl, i_Reader, by decide, xT_1 151 rfl rfl⟩
theorem ml_Reader_108 : Cond.methodLink "RoundAndRound$Reader" 108 y_Reader_byteAt ∈ xT := xT_1 221 rfl rfl
theorem ml_Reader_112 : Cond.methodLink "RoundAndRound$Reader" 112 y_Reader_isBlank ∈ xT := xT_1 225 rfl rfl
theorem fp_Reader_71 : xFP "RoundAndRound$Reader" 71 3 4 (.int) false := ⟨R_Reader, F_Reader, 9, t_Reader, ⟨rfl, i_Reader, by decide, xT_1 152 rfl rfl⟩, t_Reader_ok, n_Reader, rfl, by decide +kernel, fun h => by cases h⟩
theorem fp_Reader_74 : xFP "RoundAndRound$Reader" 74 3 5 (.int) false := ⟨R_Reader, F_Reader, 9, t_Reader, ⟨rfl, i_Reader, by decide, xT_1 153 rfl rfl⟩, t_Reader_ok, n_Reader, rfl, by decide +kernel, fun h => by cases h⟩
theorem ml_Reader_115 : Cond.methodLink "RoundAndRound$Reader" 115 y_Reader_isLetter ∈ xT := xT_1 228 rfl rfl
theorem ml_Reader_118 : Cond.methodLink "RoundAndRound$Reader" 118 y_Reader_takeWord ∈ xT := xT_1 231 rfl rfl
theorem ml_Reader_121 : Cond.methodLink "RoundAndRound$Reader" 121 y_Reader_isDigit ∈ xT := xT_1 236 rfl rfl
theorem ml_Reader_124 : Cond.methodLink "RoundAndRound$Reader" 124 y_Reader_takeNumber ∈ xT := xT_1 239 rfl rfl
theorem ml_Reader_127 : Cond.methodLink "RoundAndRound$Reader" 127 y_Reader_isSign ∈ xT := xT_2 3 rfl rfl
theorem cs_Reader_130 : Cond.constantLong "RoundAndRound$Reader" 130 (-4611686018427387904) ∈ xT := xT_1 235 rfl rfl
theorem fp_Reader_105 : xFP "RoundAndRound$Reader" 105 3 6 (.int) false := ⟨R_Reader, F_Reader, 9, t_Reader, ⟨rfl, i_Reader, by decide, xT_1 154 rfl rfl⟩, t_Reader_ok, n_Reader, rfl, by decide +kernel, fun h => by cases h⟩
theorem ml_Sheet_3 : Cond.methodLink "RoundAndRound$Sheet" 3 Lib.objectInit ∈ xT := xT_1 184 rfl rfl
theorem fp_Sheet_9 : xFP "RoundAndRound$Sheet" 9 4 0 (.array .int) true := ⟨R_Sheet, F_Sheet, 3, t_Sheet, ⟨rfl, i_Sheet, by decide, xT_1 185 rfl rfl⟩, t_Sheet_ok, n_Sheet, rfl, by decide +kernel, fun _ => rfl⟩
theorem fp_Sheet_15 : xFP "RoundAndRound$Sheet" 15 4 1 (.int) false := ⟨R_Sheet, F_Sheet, 3, t_Sheet, ⟨rfl, i_Sheet, by decide, xT_1 187 rfl rfl⟩, t_Sheet_ok, n_Sheet, rfl, by decide +kernel, fun h => by cases h⟩
theorem fp_Sheet_19 : xFP "RoundAndRound$Sheet" 19 4 2 (.int) false := ⟨R_Sheet, F_Sheet, 3, t_Sheet, ⟨rfl, i_Sheet, by decide, xT_1 189 rfl rfl⟩, t_Sheet_ok, n_Sheet, rfl, by decide +kernel, fun h => by cases h⟩
theorem fg_Sheet_9 : xFL "RoundAndRound$Sheet" 9 4 0 := ⟨R_Sheet, F_Sheet, 3, rfl, i_Sheet, by decide, xT_1 185 rfl rfl⟩
theorem mn_Sheet_22 : Cond.methodLinkNest "RoundAndRound$Sheet" 22 y_X_bounded "RoundAndRound" ∈ xnest := List.mem_of_getElem? (i := 5) rfl
theorem fg_Sheet_15 : xFL "RoundAndRound$Sheet" 15 4 1 := ⟨R_Sheet, F_Sheet, 3, rfl, i_Sheet, by decide, xT_1 187 rfl rfl⟩
theorem fg_Sheet_19 : xFL "RoundAndRound$Sheet" 19 4 2 := ⟨R_Sheet, F_Sheet, 3, rfl, i_Sheet, by decide, xT_1 189 rfl rfl⟩
theorem ml_Sheet_26 : Cond.methodLink "RoundAndRound$Sheet" 26 y_Sheet_has ∈ xT := xT_3 145 rfl rfl
theorem ml_Text_3 : Cond.methodLink "RoundAndRound$Text" 3 Lib.objectInit ∈ xT := xT_1 72 rfl rfl
theorem fp_Text_9 : xFP "RoundAndRound$Text" 9 2 0 (.array .int) true := ⟨R_Text, F_Text, 5, t_Text, ⟨rfl, i_Text, by decide, xT_1 73 rfl rfl⟩, t_Text_ok, n_Text, rfl, by decide +kernel, fun _ => rfl⟩
theorem fp_Text_15 : xFP "RoundAndRound$Text" 15 2 1 (.array .int) true := ⟨R_Text, F_Text, 5, t_Text, ⟨rfl, i_Text, by decide, xT_1 74 rfl rfl⟩, t_Text_ok, n_Text, rfl, by decide +kernel, fun _ => rfl⟩
theorem fp_Text_18 : xFP "RoundAndRound$Text" 18 2 2 (.array .int) true := ⟨R_Text, F_Text, 5, t_Text, ⟨rfl, i_Text, by decide, xT_1 75 rfl rfl⟩, t_Text_ok, n_Text, rfl, by decide +kernel, fun _ => rfl⟩
theorem fp_Text_21 : xFP "RoundAndRound$Text" 21 2 3 (.int) false := ⟨R_Text, F_Text, 5, t_Text, ⟨rfl, i_Text, by decide, xT_1 76 rfl rfl⟩, t_Text_ok, n_Text, rfl, by decide +kernel, fun h => by cases h⟩
theorem fp_Text_25 : xFP "RoundAndRound$Text" 25 2 4 (.int) false := ⟨R_Text, F_Text, 5, t_Text, ⟨rfl, i_Text, by decide, xT_1 77 rfl rfl⟩, t_Text_ok, n_Text, rfl, by decide +kernel, fun h => by cases h⟩
theorem fg_Text_21 : xFL "RoundAndRound$Text" 21 2 3 := ⟨R_Text, F_Text, 5, rfl, i_Text, by decide, xT_1 76 rfl rfl⟩
theorem fg_Text_9 : xFL "RoundAndRound$Text" 9 2 0 := ⟨R_Text, F_Text, 5, rfl, i_Text, by decide, xT_1 73 rfl rfl⟩
theorem fg_Text_25 : xFL "RoundAndRound$Text" 25 2 4 := ⟨R_Text, F_Text, 5, rfl, i_Text, by decide, xT_1 77 rfl rfl⟩
theorem fg_Text_15 : xFL "RoundAndRound$Text" 15 2 1 := ⟨R_Text, F_Text, 5, rfl, i_Text, by decide, xT_1 74 rfl rfl⟩
theorem ml_Text_28 : Cond.methodLink "RoundAndRound$Text" 28 y_Text_partEnd ∈ xT := xT_2 153 rfl rfl
theorem ml_Text_32 : Cond.methodLink "RoundAndRound$Text" 32 Lib.Math.min.name ∈ xT := xT_2 157 rfl rfl
theorem ml_Text_38 : Cond.methodLink "RoundAndRound$Text" 38 Lib.Math.max.name ∈ xT := xT_2 160 rfl rfl
theorem fg_Text_18 : xFL "RoundAndRound$Text" 18 2 2 := ⟨R_Text, F_Text, 5, rfl, i_Text, by decide, xT_1 75 rfl rfl⟩
theorem ml_Text_41 : Cond.methodLink "RoundAndRound$Text" 41 y_Text_named ∈ xT := xT_2 163 rfl rfl
theorem ml_Text_45 : Cond.methodLink "RoundAndRound$Text" 45 y_Text_joined ∈ xT := xT_2 166 rfl rfl
theorem mn_Text_49 : Cond.methodLinkNest "RoundAndRound$Text" 49 y_X_bounded "RoundAndRound" ∈ xnest := List.mem_of_getElem? (i := 6) rfl
theorem fg_Text_52 : xFL "RoundAndRound$Text" 52 1 3 := ⟨R_Head, F_Head, 8, rfl, i_Head, by decide, xT_1 38 rfl rfl⟩
theorem fg_Text_57 : xFL "RoundAndRound$Text" 57 1 4 := ⟨R_Head, F_Head, 8, rfl, i_Head, by decide, xT_1 41 rfl rfl⟩
theorem fg_Text_60 : xFL "RoundAndRound$Text" 60 1 1 := ⟨R_Head, F_Head, 8, rfl, i_Head, by decide, xT_1 32 rfl rfl⟩
theorem fg_Text_63 : xFL "RoundAndRound$Text" 63 1 2 := ⟨R_Head, F_Head, 8, rfl, i_Head, by decide, xT_1 35 rfl rfl⟩
theorem cl_Law_7 : Cond.classLink "RoundAndRoundLaw" 7 "RoundAndRound" ∈ xT := xT_1 14 rfl rfl
theorem ml_Law_9 : Cond.methodLink "RoundAndRoundLaw" 9 y_X_init ∈ xT := xT_1 16 rfl rfl
theorem cl_Law_10 : Cond.classLink "RoundAndRoundLaw" 10 "RoundAndRoundModel" ∈ xT := xT_4 10 rfl rfl
theorem ml_Law_12 : Cond.methodLink "RoundAndRoundLaw" 12 y_Model_init ∈ xT := xT_4 12 rfl rfl
theorem ml_Law_13 : Cond.methodLink "RoundAndRoundLaw" 13 y_X_count ∈ xT := xT_2 108 rfl rfl
theorem ml_Law_17 : Cond.methodLink "RoundAndRoundLaw" 17 y_Model_count ∈ xT := xT_4 166 rfl rfl
theorem ml_Law_18 : Cond.methodLink "RoundAndRoundLaw" 18 y_X_feed ∈ xT := xT_2 112 rfl rfl
theorem ml_Law_22 : Cond.methodLink "RoundAndRoundLaw" 22 y_Model_feed ∈ xT := xT_4 170 rfl rfl
theorem ml_Law_23 : Cond.methodLink "RoundAndRoundLaw" 23 y_X_text ∈ xT := xT_2 122 rfl rfl
theorem ml_Law_27 : Cond.methodLink "RoundAndRoundLaw" 27 y_Model_text ∈ xT := xT_4 177 rfl rfl
theorem ml_Law_28 : Cond.methodLink "RoundAndRoundLaw" 28 y_X_force ∈ xT := xT_2 126 rfl rfl
theorem ml_Law_31 : Cond.methodLink "RoundAndRoundLaw" 31 y_Model_force ∈ xT := xT_4 178 rfl rfl
theorem ml_Law_32 : Cond.methodLink "RoundAndRoundLaw" 32 y_X_asks ∈ xT := xT_2 130 rfl rfl
theorem ml_Law_36 : Cond.methodLink "RoundAndRoundLaw" 36 y_Model_asks ∈ xT := xT_4 182 rfl rfl
theorem ml_Law_37 : Cond.methodLink "RoundAndRoundLaw" 37 y_X_head ∈ xT := xT_2 174 rfl rfl
theorem ml_Law_41 : Cond.methodLink "RoundAndRoundLaw" 41 y_Model_head ∈ xT := xT_4 204 rfl rfl
theorem ml_Law_42 : Cond.methodLink "RoundAndRoundLaw" 42 y_X_set ∈ xT := xT_2 189 rfl rfl
theorem ml_Law_45 : Cond.methodLink "RoundAndRoundLaw" 45 y_Model_set ∈ xT := xT_4 208 rfl rfl
theorem ml_Law_46 : Cond.methodLink "RoundAndRoundLaw" 46 y_X_told ∈ xT := xT_2 195 rfl rfl
theorem ml_Law_49 : Cond.methodLink "RoundAndRoundLaw" 49 y_Model_told ∈ xT := xT_4 214 rfl rfl
theorem ml_Law_50 : Cond.methodLink "RoundAndRoundLaw" 50 y_X_turn ∈ xT := xT_2 206 rfl rfl
theorem ml_Law_53 : Cond.methodLink "RoundAndRoundLaw" 53 y_Model_turn ∈ xT := xT_4 222 rfl rfl
theorem ml_Law_54 : Cond.methodLink "RoundAndRoundLaw" 54 y_X_rest ∈ xT := xT_3 1 rfl rfl
theorem ml_Law_57 : Cond.methodLink "RoundAndRoundLaw" 57 y_Model_rest ∈ xT := xT_5 16 rfl rfl
theorem ml_Law_58 : Cond.methodLink "RoundAndRoundLaw" 58 y_X_walk ∈ xT := xT_3 12 rfl rfl
theorem ml_Law_61 : Cond.methodLink "RoundAndRoundLaw" 61 y_Model_walk ∈ xT := xT_5 24 rfl rfl
theorem ml_Law_62 : Cond.methodLink "RoundAndRoundLaw" 62 y_X_up ∈ xT := xT_3 31 rfl rfl
theorem ml_Law_65 : Cond.methodLink "RoundAndRoundLaw" 65 y_Model_up ∈ xT := xT_5 38 rfl rfl
theorem ml_Law_66 : Cond.methodLink "RoundAndRoundLaw" 66 y_X_ends ∈ xT := xT_3 36 rfl rfl
theorem ml_Law_70 : Cond.methodLink "RoundAndRoundLaw" 70 y_Model_ends ∈ xT := xT_5 42 rfl rfl
theorem ml_Law_71 : Cond.methodLink "RoundAndRoundLaw" 71 y_X_stands ∈ xT := xT_3 58 rfl rfl
theorem ml_Law_74 : Cond.methodLink "RoundAndRoundLaw" 74 y_Model_stands ∈ xT := xT_5 57 rfl rfl
theorem ml_Law_75 : Cond.methodLink "RoundAndRoundLaw" 75 y_X_undo ∈ xT := xT_3 64 rfl rfl
theorem ml_Law_78 : Cond.methodLink "RoundAndRoundLaw" 78 y_Model_undo ∈ xT := xT_5 61 rfl rfl
theorem ml_Law_79 : Cond.methodLink "RoundAndRoundLaw" 79 y_X_fine ∈ xT := xT_3 69 rfl rfl
theorem ml_Law_82 : Cond.methodLink "RoundAndRoundLaw" 82 y_Model_fine ∈ xT := xT_5 65 rfl rfl
theorem ml_Law_83 : Cond.methodLink "RoundAndRoundLaw" 83 y_X_race ∈ xT := xT_3 74 rfl rfl
theorem ml_Law_86 : Cond.methodLink "RoundAndRoundLaw" 86 y_Model_race ∈ xT := xT_5 69 rfl rfl
theorem ml_Law_87 : Cond.methodLink "RoundAndRoundLaw" 87 y_X_wins ∈ xT := xT_3 92 rfl rfl
theorem ml_Law_91 : Cond.methodLink "RoundAndRoundLaw" 91 y_Model_wins ∈ xT := xT_5 81 rfl rfl
theorem ml_Law_92 : Cond.methodLink "RoundAndRoundLaw" 92 y_X_pace ∈ xT := xT_3 96 rfl rfl
theorem ml_Law_95 : Cond.methodLink "RoundAndRoundLaw" 95 y_Model_pace ∈ xT := xT_5 85 rfl rfl
theorem ml_Law_96 : Cond.methodLink "RoundAndRoundLaw" 96 y_X_roses ∈ xT := xT_3 100 rfl rfl
theorem ml_Law_99 : Cond.methodLink "RoundAndRoundLaw" 99 y_Model_roses ∈ xT := xT_5 89 rfl rfl
theorem ml_Law_100 : Cond.methodLink "RoundAndRoundLaw" 100 y_X_judge ∈ xT := xT_3 113 rfl rfl
theorem ml_Law_103 : Cond.methodLink "RoundAndRoundLaw" 103 y_Model_judge ∈ xT := xT_5 96 rfl rfl
theorem ml_Law_104 : Cond.methodLink "RoundAndRoundLaw" 104 y_X_turned ∈ xT := xT_3 149 rfl rfl
theorem ml_Law_107 : Cond.methodLink "RoundAndRoundLaw" 107 y_Model_turned ∈ xT := xT_5 112 rfl rfl
theorem ml_Law_108 : Cond.methodLink "RoundAndRoundLaw" 108 y_X_kinds ∈ xT := xT_3 153 rfl rfl
theorem ml_Law_111 : Cond.methodLink "RoundAndRoundLaw" 111 y_Model_kinds ∈ xT := xT_5 116 rfl rfl
theorem ml_Law_112 : Cond.methodLink "RoundAndRoundLaw" 112 y_X_laws ∈ xT := xT_3 157 rfl rfl
theorem ml_Law_115 : Cond.methodLink "RoundAndRoundLaw" 115 y_Model_laws ∈ xT := xT_5 120 rfl rfl
theorem ml_Law_116 : Cond.methodLink "RoundAndRoundLaw" 116 y_X_whose ∈ xT := xT_3 161 rfl rfl
theorem ml_Law_119 : Cond.methodLink "RoundAndRoundLaw" 119 y_Model_whose ∈ xT := xT_5 124 rfl rfl
theorem ml_Law_120 : Cond.methodLink "RoundAndRoundLaw" 120 y_X_film ∈ xT := xT_3 165 rfl rfl
theorem ml_Law_123 : Cond.methodLink "RoundAndRoundLaw" 123 y_Model_film ∈ xT := xT_5 128 rfl rfl
theorem ml_Law_124 : Cond.methodLink "RoundAndRoundLaw" 124 y_X_drawn ∈ xT := xT_3 178 rfl rfl
theorem ml_Law_127 : Cond.methodLink "RoundAndRoundLaw" 127 y_Model_drawn ∈ xT := xT_5 132 rfl rfl
theorem ml_Law_128 : Cond.methodLink "RoundAndRoundLaw" 128 y_X_odds ∈ xT := xT_3 192 rfl rfl
theorem ml_Law_132 : Cond.methodLink "RoundAndRoundLaw" 132 y_Model_odds ∈ xT := xT_5 146 rfl rfl
theorem ml_Law_133 : Cond.methodLink "RoundAndRoundLaw" 133 y_X_image ∈ xT := xT_3 203 rfl rfl
theorem ml_Law_136 : Cond.methodLink "RoundAndRoundLaw" 136 y_Model_image ∈ xT := xT_5 154 rfl rfl
theorem ml_Law_137 : Cond.methodLink "RoundAndRoundLaw" 137 y_X_back ∈ xT := xT_3 211 rfl rfl
theorem ml_Law_140 : Cond.methodLink "RoundAndRoundLaw" 140 y_Model_back ∈ xT := xT_5 158 rfl rfl
theorem ml_Law_141 : Cond.methodLink "RoundAndRoundLaw" 141 y_X_sheet ∈ xT := xT_3 215 rfl rfl
theorem ml_Law_144 : Cond.methodLink "RoundAndRoundLaw" 144 y_Model_sheet ∈ xT := xT_5 162 rfl rfl
theorem ml_Law_145 : Cond.methodLink "RoundAndRoundLaw" 145 y_X_cell ∈ xT := xT_3 219 rfl rfl
theorem ml_Law_148 : Cond.methodLink "RoundAndRoundLaw" 148 y_Model_cell ∈ xT := xT_5 166 rfl rfl
theorem ml_Law_149 : Cond.methodLink "RoundAndRoundLaw" 149 y_X_copy ∈ xT := xT_3 224 rfl rfl
theorem ml_Law_152 : Cond.methodLink "RoundAndRoundLaw" 152 y_Model_copy ∈ xT := xT_5 170 rfl rfl
theorem ml_Law_153 : Cond.methodLink "RoundAndRoundLaw" 153 y_X_headsBy ∈ xT := xT_3 235 rfl rfl
theorem ml_Law_156 : Cond.methodLink "RoundAndRoundLaw" 156 y_Model_headsBy ∈ xT := xT_5 174 rfl rfl
theorem ml_Law_157 : Cond.methodLink "RoundAndRoundLaw" 157 y_X_taken ∈ xT := xT_4 0 rfl rfl
theorem ml_Law_160 : Cond.methodLink "RoundAndRoundLaw" 160 y_Model_taken ∈ xT := xT_5 179 rfl rfl
theorem mt_max : Cond.static Lib.Math.max.name ∈ xT := xT_2 161 rfl rfl
theorem mc_max : Cond.code Lib.Math.max.name Lib.Math.max.code 2 (some .int) ∈ xT := xT_2 162 rfl rfl
theorem mt_min : Cond.static Lib.Math.min.name ∈ xT := xT_2 158 rfl rfl
theorem mc_min : Cond.code Lib.Math.min.name Lib.Math.min.code 2 (some .int) ∈ xT := xT_2 159 rfl rfl
theorem mt_abs : Cond.static Lib.Math.abs.name ∈ xT := xT_2 221 rfl rfl
theorem mc_abs : Cond.code Lib.Math.abs.name Lib.Math.abs.code 1 (some .int) ∈ xT := xT_2 222 rfl rfl
theorem mi_math : Cond.initialized "java/lang/Math" ∈ xT := xT_1 11 rfl rfl
theorem oi_inst : Cond.instanceMethod Lib.objectInit ∈ xT := xT_1 20 rfl rfl
theorem oi_code : Cond.code Lib.objectInit ⟨#[0xb1]⟩ 1 none ∈ xT := xT_1 21 rfl rfl
theorem ac_int : Cond.arrayClass .int ∈ xT := xT_1 89 rfl rfl
theorem ac_long : Cond.arrayClass .long ∈ xT := xT_1 176 rfl rfl
theorem ac_byte : Cond.arrayClass .byte ∈ xT := xT_1 177 rfl rfl
theorem in_X : Cond.initialized "RoundAndRound" ∈ xT := xT_1 1 rfl rfl
theorem is_X : Cond.instantiable "RoundAndRound" 15 ∈ xT := xT_1 15 rfl rfl
theorem in_Head : Cond.initialized "RoundAndRound$Head" ∈ xT := xT_1 2 rfl rfl
theorem is_Head : Cond.instantiable "RoundAndRound$Head" 8 ∈ xT := xT_1 24 rfl rfl
theorem in_Text : Cond.initialized "RoundAndRound$Text" ∈ xT := xT_1 3 rfl rfl
theorem is_Text : Cond.instantiable "RoundAndRound$Text" 5 ∈ xT := xT_1 68 rfl rfl
theorem in_Reader : Cond.initialized "RoundAndRound$Reader" ∈ xT := xT_1 4 rfl rfl
theorem is_Reader : Cond.instantiable "RoundAndRound$Reader" 9 ∈ xT := xT_1 91 rfl rfl
theorem in_Sheet : Cond.initialized "RoundAndRound$Sheet" ∈ xT := xT_1 9 rfl rfl
theorem is_Sheet : Cond.instantiable "RoundAndRound$Sheet" 3 ∈ xT := xT_1 180 rfl rfl
theorem in_Model : Cond.initialized "RoundAndRoundModel" ∈ xT := xT_1 10 rfl rfl
theorem is_Model : Cond.instantiable "RoundAndRoundModel" 34 ∈ xT := xT_4 11 rfl rfl
end
