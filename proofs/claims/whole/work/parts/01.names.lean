/-- a private method of a class that the tables say can be made, by its rows of tables_1 -/
def lw_okq (q : MethodName × Nat) : Prop := (q.1.cls ≠ "java/lang/invoke/MethodHandle" ∧ q.1.cls ≠ "java/lang/invoke/VarHandle") ∧ Cond.instantiable q.1.cls q.2 ∈ tables_1 ∧ Cond.privateMethod q.1 ∈ tables_1 ∧ Cond.instanceMethod q.1 ∈ tables_1
theorem lw_p0 : lw_okq (⟨"YawnTrain", "refusalOfCells", "(IIII)I"⟩, 17) := ⟨⟨by decide +kernel, by decide +kernel⟩, List.mem_of_getElem? (i := 17) (by decide +kernel), List.mem_of_getElem? (i := 253) (by decide +kernel), List.mem_of_getElem? (i := 254) (by decide +kernel)⟩
theorem lw_p1 : lw_okq (⟨"YawnTrain", "sheetAt", "(I)LYawnTrain$Sheet;"⟩, 17) := ⟨⟨by decide +kernel, by decide +kernel⟩, List.mem_of_getElem? (i := 17) (by decide +kernel), List.mem_of_getElem? (i := 257) (by decide +kernel), List.mem_of_getElem? (i := 258) (by decide +kernel)⟩
theorem lw_p2 : lw_okq (⟨"YawnTrain", "faulted", "(I)I"⟩, 17) := ⟨⟨by decide +kernel, by decide +kernel⟩, List.mem_of_getElem? (i := 17) (by decide +kernel), List.mem_of_getElem? (i := 268) (by decide +kernel), List.mem_of_getElem? (i := 269) (by decide +kernel)⟩
theorem lw_p3 : lw_okq (⟨"YawnTrain$CarriageText", "takesSeat", "(I)Z"⟩, 6) := ⟨⟨by decide +kernel, by decide +kernel⟩, List.mem_of_getElem? (i := 27) (by decide +kernel), List.mem_of_getElem? (i := 306) (by decide +kernel), List.mem_of_getElem? (i := 307) (by decide +kernel)⟩
theorem lw_p4 : lw_okq (⟨"YawnTrain$LawText", "takesLetter", "(I)Z"⟩, 5) := ⟨⟨by decide +kernel, by decide +kernel⟩, List.mem_of_getElem? (i := 59) (by decide +kernel), List.mem_of_getElem? (i := 316) (by decide +kernel), List.mem_of_getElem? (i := 317) (by decide +kernel)⟩
theorem lw_p5 : lw_okq (⟨"YawnTrain$LawText", "takesDigit", "(I)Z"⟩, 5) := ⟨⟨by decide +kernel, by decide +kernel⟩, List.mem_of_getElem? (i := 59) (by decide +kernel), List.mem_of_getElem? (i := 320) (by decide +kernel), List.mem_of_getElem? (i := 321) (by decide +kernel)⟩
theorem lw_p6 : lw_okq (⟨"YawnTrain$Carriage", "drawLines", "()V"⟩, 8) := ⟨⟨by decide +kernel, by decide +kernel⟩, List.mem_of_getElem? (i := 82) (by decide +kernel), List.mem_of_getElem? (i := 346) (by decide +kernel), List.mem_of_getElem? (i := 347) (by decide +kernel)⟩
theorem lw_p7 : lw_okq (⟨"YawnTrain$Carriage", "lineFrom", "(II)I"⟩, 8) := ⟨⟨by decide +kernel, by decide +kernel⟩, List.mem_of_getElem? (i := 82) (by decide +kernel), List.mem_of_getElem? (i := 354) (by decide +kernel), List.mem_of_getElem? (i := 355) (by decide +kernel)⟩
theorem lw_p8 : lw_okq (⟨"YawnTrain$Carriage", "wayBack", "(II)I"⟩, 8) := ⟨⟨by decide +kernel, by decide +kernel⟩, List.mem_of_getElem? (i := 82) (by decide +kernel), List.mem_of_getElem? (i := 362) (by decide +kernel), List.mem_of_getElem? (i := 363) (by decide +kernel)⟩
theorem lw_p9 : lw_okq (⟨"YawnTrain", "personAt", "(I)LYawnTrain$Person;"⟩, 17) := ⟨⟨by decide +kernel, by decide +kernel⟩, List.mem_of_getElem? (i := 17) (by decide +kernel), List.mem_of_getElem? (i := 481) (by decide +kernel), List.mem_of_getElem? (i := 482) (by decide +kernel)⟩
theorem lw_p10 : lw_okq (⟨"YawnTrain", "seenBy", "(LYawnTrain$Person;)I"⟩, 17) := ⟨⟨by decide +kernel, by decide +kernel⟩, List.mem_of_getElem? (i := 17) (by decide +kernel), List.mem_of_getElem? (i := 496) (by decide +kernel), List.mem_of_getElem? (i := 497) (by decide +kernel)⟩
theorem lw_p11 : lw_okq (⟨"YawnTrain", "sees", "(LYawnTrain$Person;LYawnTrain$Person;)Z"⟩, 17) := ⟨⟨by decide +kernel, by decide +kernel⟩, List.mem_of_getElem? (i := 17) (by decide +kernel), List.mem_of_getElem? (i := 500) (by decide +kernel), List.mem_of_getElem? (i := 501) (by decide +kernel)⟩
theorem lw_p12 : lw_okq (⟨"YawnTrain", "heardBy", "(LYawnTrain$Person;)I"⟩, 17) := ⟨⟨by decide +kernel, by decide +kernel⟩, List.mem_of_getElem? (i := 17) (by decide +kernel), List.mem_of_getElem? (i := 504) (by decide +kernel), List.mem_of_getElem? (i := 505) (by decide +kernel)⟩
theorem lw_p13 : lw_okq (⟨"YawnTrain", "hears", "(LYawnTrain$Person;LYawnTrain$Person;)Z"⟩, 17) := ⟨⟨by decide +kernel, by decide +kernel⟩, List.mem_of_getElem? (i := 17) (by decide +kernel), List.mem_of_getElem? (i := 508) (by decide +kernel), List.mem_of_getElem? (i := 509) (by decide +kernel)⟩
theorem lw_p14 : lw_okq (⟨"YawnTrain$LawText", "readNumber", "(I)I"⟩, 5) := ⟨⟨by decide +kernel, by decide +kernel⟩, List.mem_of_getElem? (i := 59) (by decide +kernel), List.mem_of_getElem? (i := 532) (by decide +kernel), List.mem_of_getElem? (i := 533) (by decide +kernel)⟩
theorem lw_p15 : lw_okq (⟨"YawnTrain", "lawAt", "(I)LYawnTrain$Law;"⟩, 17) := ⟨⟨by decide +kernel, by decide +kernel⟩, List.mem_of_getElem? (i := 17) (by decide +kernel), List.mem_of_getElem? (i := 545) (by decide +kernel), List.mem_of_getElem? (i := 546) (by decide +kernel)⟩
def lw_privs_1 : List (MethodName × Nat) := [(⟨"YawnTrain", "refusalOfCells", "(IIII)I"⟩, 17), (⟨"YawnTrain", "sheetAt", "(I)LYawnTrain$Sheet;"⟩, 17), (⟨"YawnTrain", "faulted", "(I)I"⟩, 17), (⟨"YawnTrain$CarriageText", "takesSeat", "(I)Z"⟩, 6), (⟨"YawnTrain$LawText", "takesLetter", "(I)Z"⟩, 5), (⟨"YawnTrain$LawText", "takesDigit", "(I)Z"⟩, 5), (⟨"YawnTrain$Carriage", "drawLines", "()V"⟩, 8), (⟨"YawnTrain$Carriage", "lineFrom", "(II)I"⟩, 8), (⟨"YawnTrain$Carriage", "wayBack", "(II)I"⟩, 8), (⟨"YawnTrain", "personAt", "(I)LYawnTrain$Person;"⟩, 17), (⟨"YawnTrain", "seenBy", "(LYawnTrain$Person;)I"⟩, 17), (⟨"YawnTrain", "sees", "(LYawnTrain$Person;LYawnTrain$Person;)Z"⟩, 17), (⟨"YawnTrain", "heardBy", "(LYawnTrain$Person;)I"⟩, 17), (⟨"YawnTrain", "hears", "(LYawnTrain$Person;LYawnTrain$Person;)Z"⟩, 17), (⟨"YawnTrain$LawText", "readNumber", "(I)I"⟩, 5), (⟨"YawnTrain", "lawAt", "(I)LYawnTrain$Law;"⟩, 17)]
theorem lw_r1 : ∀ q ∈ lw_privs_1, lw_okq q := List.forall_mem_cons.mpr ⟨lw_p0, List.forall_mem_cons.mpr ⟨lw_p1, List.forall_mem_cons.mpr ⟨lw_p2, List.forall_mem_cons.mpr ⟨lw_p3, List.forall_mem_cons.mpr ⟨lw_p4, List.forall_mem_cons.mpr ⟨lw_p5, List.forall_mem_cons.mpr ⟨lw_p6, List.forall_mem_cons.mpr ⟨lw_p7, List.forall_mem_cons.mpr ⟨lw_p8, List.forall_mem_cons.mpr ⟨lw_p9, List.forall_mem_cons.mpr ⟨lw_p10, List.forall_mem_cons.mpr ⟨lw_p11, List.forall_mem_cons.mpr ⟨lw_p12, List.forall_mem_cons.mpr ⟨lw_p13, List.forall_mem_cons.mpr ⟨lw_p14, List.forall_mem_cons.mpr ⟨lw_p15, fun _ h => absurd h List.not_mem_nil⟩⟩⟩⟩⟩⟩⟩⟩⟩⟩⟩⟩⟩⟩⟩⟩
theorem lw_p16 : lw_okq (⟨"YawnTrain", "ownMight", "(LYawnTrain$Law;LYawnTrain$Person;)I"⟩, 17) := ⟨⟨by decide +kernel, by decide +kernel⟩, List.mem_of_getElem? (i := 17) (by decide +kernel), List.mem_of_getElem? (i := 557) (by decide +kernel), List.mem_of_getElem? (i := 558) (by decide +kernel)⟩
theorem lw_p17 : lw_okq (⟨"YawnTrain", "catchMight", "(LYawnTrain$Law;LYawnTrain$Person;LYawnTrain$Person;)I"⟩, 17) := ⟨⟨by decide +kernel, by decide +kernel⟩, List.mem_of_getElem? (i := 17) (by decide +kernel), List.mem_of_getElem? (i := 579) (by decide +kernel), List.mem_of_getElem? (i := 580) (by decide +kernel)⟩
theorem lw_p18 : lw_okq (⟨"YawnTrain", "unseenStrength", "(LYawnTrain$Law;LYawnTrain$Person;LYawnTrain$Person;)I"⟩, 17) := ⟨⟨by decide +kernel, by decide +kernel⟩, List.mem_of_getElem? (i := 17) (by decide +kernel), List.mem_of_getElem? (i := 583) (by decide +kernel), List.mem_of_getElem? (i := 584) (by decide +kernel)⟩
theorem lw_p19 : lw_okq (⟨"YawnTrain", "weighedLaw", "(I)LYawnTrain$Law;"⟩, 17) := ⟨⟨by decide +kernel, by decide +kernel⟩, List.mem_of_getElem? (i := 17) (by decide +kernel), List.mem_of_getElem? (i := 644) (by decide +kernel), List.mem_of_getElem? (i := 645) (by decide +kernel)⟩
theorem lw_p20 : lw_okq (⟨"YawnTrain", "sourceMight", "(LYawnTrain$Law;II)I"⟩, 17) := ⟨⟨by decide +kernel, by decide +kernel⟩, List.mem_of_getElem? (i := 17) (by decide +kernel), List.mem_of_getElem? (i := 648) (by decide +kernel), List.mem_of_getElem? (i := 649) (by decide +kernel)⟩
theorem lw_p21 : lw_okq (⟨"YawnTrain", "mightFromYawn", "(LYawnTrain$Law;III)I"⟩, 17) := ⟨⟨by decide +kernel, by decide +kernel⟩, List.mem_of_getElem? (i := 17) (by decide +kernel), List.mem_of_getElem? (i := 652) (by decide +kernel), List.mem_of_getElem? (i := 653) (by decide +kernel)⟩
theorem lw_p22 : lw_okq (⟨"YawnTrain", "weighed", "(II)I"⟩, 17) := ⟨⟨by decide +kernel, by decide +kernel⟩, List.mem_of_getElem? (i := 17) (by decide +kernel), List.mem_of_getElem? (i := 661) (by decide +kernel), List.mem_of_getElem? (i := 662) (by decide +kernel)⟩
theorem lw_p23 : lw_okq (⟨"YawnTrain", "wholeMight", "(LYawnTrain$Law;I)I"⟩, 17) := ⟨⟨by decide +kernel, by decide +kernel⟩, List.mem_of_getElem? (i := 17) (by decide +kernel), List.mem_of_getElem? (i := 670) (by decide +kernel), List.mem_of_getElem? (i := 671) (by decide +kernel)⟩
theorem lw_p24 : lw_okq (⟨"YawnTrain", "mightAt", "(LYawnTrain$Law;II)I"⟩, 17) := ⟨⟨by decide +kernel, by decide +kernel⟩, List.mem_of_getElem? (i := 17) (by decide +kernel), List.mem_of_getElem? (i := 674) (by decide +kernel), List.mem_of_getElem? (i := 675) (by decide +kernel)⟩
theorem lw_p25 : lw_okq (⟨"YawnTrain", "weighedOwn", "(I)I"⟩, 17) := ⟨⟨by decide +kernel, by decide +kernel⟩, List.mem_of_getElem? (i := 17) (by decide +kernel), List.mem_of_getElem? (i := 678) (by decide +kernel), List.mem_of_getElem? (i := 679) (by decide +kernel)⟩
theorem lw_p26 : lw_okq (⟨"YawnTrain", "firstBare", "(LYawnTrain$Law;)I"⟩, 17) := ⟨⟨by decide +kernel, by decide +kernel⟩, List.mem_of_getElem? (i := 17) (by decide +kernel), List.mem_of_getElem? (i := 692) (by decide +kernel), List.mem_of_getElem? (i := 693) (by decide +kernel)⟩
theorem lw_p27 : lw_okq (⟨"YawnTrain", "sourceCount", "(LYawnTrain$Law;I)I"⟩, 17) := ⟨⟨by decide +kernel, by decide +kernel⟩, List.mem_of_getElem? (i := 17) (by decide +kernel), List.mem_of_getElem? (i := 700) (by decide +kernel), List.mem_of_getElem? (i := 701) (by decide +kernel)⟩
theorem lw_p28 : lw_okq (⟨"YawnTrain", "sumCauses", "(LYawnTrain$Law;)Z"⟩, 17) := ⟨⟨by decide +kernel, by decide +kernel⟩, List.mem_of_getElem? (i := 17) (by decide +kernel), List.mem_of_getElem? (i := 709) (by decide +kernel), List.mem_of_getElem? (i := 710) (by decide +kernel)⟩
theorem lw_p29 : lw_okq (⟨"YawnTrain", "addCause", "(II)V"⟩, 17) := ⟨⟨by decide +kernel, by decide +kernel⟩, List.mem_of_getElem? (i := 17) (by decide +kernel), List.mem_of_getElem? (i := 714) (by decide +kernel), List.mem_of_getElem? (i := 715) (by decide +kernel)⟩
theorem lw_p30 : lw_okq (⟨"YawnTrain", "causedBy", "(I)I"⟩, 17) := ⟨⟨by decide +kernel, by decide +kernel⟩, List.mem_of_getElem? (i := 17) (by decide +kernel), List.mem_of_getElem? (i := 718) (by decide +kernel), List.mem_of_getElem? (i := 719) (by decide +kernel)⟩
theorem lw_p31 : lw_okq (⟨"YawnTrain", "markBare", "(LYawnTrain$Law;)I"⟩, 17) := ⟨⟨by decide +kernel, by decide +kernel⟩, List.mem_of_getElem? (i := 17) (by decide +kernel), List.mem_of_getElem? (i := 744) (by decide +kernel), List.mem_of_getElem? (i := 745) (by decide +kernel)⟩
def lw_privs_2 : List (MethodName × Nat) := [(⟨"YawnTrain", "ownMight", "(LYawnTrain$Law;LYawnTrain$Person;)I"⟩, 17), (⟨"YawnTrain", "catchMight", "(LYawnTrain$Law;LYawnTrain$Person;LYawnTrain$Person;)I"⟩, 17), (⟨"YawnTrain", "unseenStrength", "(LYawnTrain$Law;LYawnTrain$Person;LYawnTrain$Person;)I"⟩, 17), (⟨"YawnTrain", "weighedLaw", "(I)LYawnTrain$Law;"⟩, 17), (⟨"YawnTrain", "sourceMight", "(LYawnTrain$Law;II)I"⟩, 17), (⟨"YawnTrain", "mightFromYawn", "(LYawnTrain$Law;III)I"⟩, 17), (⟨"YawnTrain", "weighed", "(II)I"⟩, 17), (⟨"YawnTrain", "wholeMight", "(LYawnTrain$Law;I)I"⟩, 17), (⟨"YawnTrain", "mightAt", "(LYawnTrain$Law;II)I"⟩, 17), (⟨"YawnTrain", "weighedOwn", "(I)I"⟩, 17), (⟨"YawnTrain", "firstBare", "(LYawnTrain$Law;)I"⟩, 17), (⟨"YawnTrain", "sourceCount", "(LYawnTrain$Law;I)I"⟩, 17), (⟨"YawnTrain", "sumCauses", "(LYawnTrain$Law;)Z"⟩, 17), (⟨"YawnTrain", "addCause", "(II)V"⟩, 17), (⟨"YawnTrain", "causedBy", "(I)I"⟩, 17), (⟨"YawnTrain", "markBare", "(LYawnTrain$Law;)I"⟩, 17)]
theorem lw_r2 : ∀ q ∈ lw_privs_2, lw_okq q := List.forall_mem_cons.mpr ⟨lw_p16, List.forall_mem_cons.mpr ⟨lw_p17, List.forall_mem_cons.mpr ⟨lw_p18, List.forall_mem_cons.mpr ⟨lw_p19, List.forall_mem_cons.mpr ⟨lw_p20, List.forall_mem_cons.mpr ⟨lw_p21, List.forall_mem_cons.mpr ⟨lw_p22, List.forall_mem_cons.mpr ⟨lw_p23, List.forall_mem_cons.mpr ⟨lw_p24, List.forall_mem_cons.mpr ⟨lw_p25, List.forall_mem_cons.mpr ⟨lw_p26, List.forall_mem_cons.mpr ⟨lw_p27, List.forall_mem_cons.mpr ⟨lw_p28, List.forall_mem_cons.mpr ⟨lw_p29, List.forall_mem_cons.mpr ⟨lw_p30, List.forall_mem_cons.mpr ⟨lw_p31, fun _ h => absurd h List.not_mem_nil⟩⟩⟩⟩⟩⟩⟩⟩⟩⟩⟩⟩⟩⟩⟩⟩
theorem lw_p32 : lw_okq (⟨"YawnTrain", "findMissed", "(LYawnTrain$Law;II)I"⟩, 17) := ⟨⟨by decide +kernel, by decide +kernel⟩, List.mem_of_getElem? (i := 17) (by decide +kernel), List.mem_of_getElem? (i := 748) (by decide +kernel), List.mem_of_getElem? (i := 749) (by decide +kernel)⟩
theorem lw_p33 : lw_okq (⟨"YawnTrain", "mends", "(LYawnTrain$Law;II)Z"⟩, 17) := ⟨⟨by decide +kernel, by decide +kernel⟩, List.mem_of_getElem? (i := 17) (by decide +kernel), List.mem_of_getElem? (i := 752) (by decide +kernel), List.mem_of_getElem? (i := 753) (by decide +kernel)⟩
theorem lw_p34 : lw_okq (⟨"YawnTrain", "goOn", "(LYawnTrain$Law;LYawnTrain$Sheet;II)I"⟩, 17) := ⟨⟨by decide +kernel, by decide +kernel⟩, List.mem_of_getElem? (i := 17) (by decide +kernel), List.mem_of_getElem? (i := 764) (by decide +kernel), List.mem_of_getElem? (i := 765) (by decide +kernel)⟩
theorem lw_p35 : lw_okq (⟨"YawnTrain", "yawnsAtDraw", "(LYawnTrain$Law;III)Z"⟩, 17) := ⟨⟨by decide +kernel, by decide +kernel⟩, List.mem_of_getElem? (i := 17) (by decide +kernel), List.mem_of_getElem? (i := 768) (by decide +kernel), List.mem_of_getElem? (i := 769) (by decide +kernel)⟩
theorem lw_p36 : lw_okq (⟨"YawnTrain", "weighedSpread", "()I"⟩, 17) := ⟨⟨by decide +kernel, by decide +kernel⟩, List.mem_of_getElem? (i := 17) (by decide +kernel), List.mem_of_getElem? (i := 776) (by decide +kernel), List.mem_of_getElem? (i := 777) (by decide +kernel)⟩
theorem lw_p37 : lw_okq (⟨"YawnTrain$BlindPlan", "addGap", "(LYawnTrain$Carriage;II)V"⟩, 10) := ⟨⟨by decide +kernel, by decide +kernel⟩, List.mem_of_getElem? (i := 138) (by decide +kernel), List.mem_of_getElem? (i := 788) (by decide +kernel), List.mem_of_getElem? (i := 789) (by decide +kernel)⟩
theorem lw_p38 : lw_okq (⟨"YawnTrain", "fillPlan", "(LYawnTrain$Law;)V"⟩, 17) := ⟨⟨by decide +kernel, by decide +kernel⟩, List.mem_of_getElem? (i := 17) (by decide +kernel), List.mem_of_getElem? (i := 795) (by decide +kernel), List.mem_of_getElem? (i := 796) (by decide +kernel)⟩
theorem lw_p39 : lw_okq (⟨"YawnTrain$BlindPlan", "passGaps", "(LYawnTrain$Carriage;III)I"⟩, 10) := ⟨⟨by decide +kernel, by decide +kernel⟩, List.mem_of_getElem? (i := 138) (by decide +kernel), List.mem_of_getElem? (i := 804) (by decide +kernel), List.mem_of_getElem? (i := 805) (by decide +kernel)⟩
theorem lw_p40 : lw_okq (⟨"YawnTrain$BlindPlan", "addAlone", "(II)V"⟩, 10) := ⟨⟨by decide +kernel, by decide +kernel⟩, List.mem_of_getElem? (i := 138) (by decide +kernel), List.mem_of_getElem? (i := 808) (by decide +kernel), List.mem_of_getElem? (i := 809) (by decide +kernel)⟩
theorem lw_p41 : lw_okq (⟨"YawnTrain$BlindPlan", "addBoth", "(III)V"⟩, 10) := ⟨⟨by decide +kernel, by decide +kernel⟩, List.mem_of_getElem? (i := 138) (by decide +kernel), List.mem_of_getElem? (i := 814) (by decide +kernel), List.mem_of_getElem? (i := 815) (by decide +kernel)⟩
theorem lw_p42 : lw_okq (⟨"YawnTrain$BlindPlan", "savedAlone", "(I)I"⟩, 10) := ⟨⟨by decide +kernel, by decide +kernel⟩, List.mem_of_getElem? (i := 138) (by decide +kernel), List.mem_of_getElem? (i := 823) (by decide +kernel), List.mem_of_getElem? (i := 824) (by decide +kernel)⟩
theorem lw_p43 : lw_okq (⟨"YawnTrain$BlindPlan", "offer", "(IIII)V"⟩, 10) := ⟨⟨by decide +kernel, by decide +kernel⟩, List.mem_of_getElem? (i := 138) (by decide +kernel), List.mem_of_getElem? (i := 827) (by decide +kernel), List.mem_of_getElem? (i := 828) (by decide +kernel)⟩
theorem lw_p44 : lw_okq (⟨"YawnTrain$BlindPlan", "searchSecond", "(II)V"⟩, 10) := ⟨⟨by decide +kernel, by decide +kernel⟩, List.mem_of_getElem? (i := 138) (by decide +kernel), List.mem_of_getElem? (i := 831) (by decide +kernel), List.mem_of_getElem? (i := 832) (by decide +kernel)⟩
theorem lw_p45 : lw_okq (⟨"YawnTrain$BlindPlan", "savedBoth", "(II)I"⟩, 10) := ⟨⟨by decide +kernel, by decide +kernel⟩, List.mem_of_getElem? (i := 138) (by decide +kernel), List.mem_of_getElem? (i := 835) (by decide +kernel), List.mem_of_getElem? (i := 836) (by decide +kernel)⟩
theorem lw_p46 : lw_okq (⟨"YawnTrain$BlindPlan", "searchThird", "(III)V"⟩, 10) := ⟨⟨by decide +kernel, by decide +kernel⟩, List.mem_of_getElem? (i := 138) (by decide +kernel), List.mem_of_getElem? (i := 839) (by decide +kernel), List.mem_of_getElem? (i := 840) (by decide +kernel)⟩
theorem lw_p47 : lw_okq (⟨"YawnTrain$BlindPlan", "isOneLine", "(II)Z"⟩, 10) := ⟨⟨by decide +kernel, by decide +kernel⟩, List.mem_of_getElem? (i := 138) (by decide +kernel), List.mem_of_getElem? (i := 843) (by decide +kernel), List.mem_of_getElem? (i := 844) (by decide +kernel)⟩
def lw_privs_3 : List (MethodName × Nat) := [(⟨"YawnTrain", "findMissed", "(LYawnTrain$Law;II)I"⟩, 17), (⟨"YawnTrain", "mends", "(LYawnTrain$Law;II)Z"⟩, 17), (⟨"YawnTrain", "goOn", "(LYawnTrain$Law;LYawnTrain$Sheet;II)I"⟩, 17), (⟨"YawnTrain", "yawnsAtDraw", "(LYawnTrain$Law;III)Z"⟩, 17), (⟨"YawnTrain", "weighedSpread", "()I"⟩, 17), (⟨"YawnTrain$BlindPlan", "addGap", "(LYawnTrain$Carriage;II)V"⟩, 10), (⟨"YawnTrain", "fillPlan", "(LYawnTrain$Law;)V"⟩, 17), (⟨"YawnTrain$BlindPlan", "passGaps", "(LYawnTrain$Carriage;III)I"⟩, 10), (⟨"YawnTrain$BlindPlan", "addAlone", "(II)V"⟩, 10), (⟨"YawnTrain$BlindPlan", "addBoth", "(III)V"⟩, 10), (⟨"YawnTrain$BlindPlan", "savedAlone", "(I)I"⟩, 10), (⟨"YawnTrain$BlindPlan", "offer", "(IIII)V"⟩, 10), (⟨"YawnTrain$BlindPlan", "searchSecond", "(II)V"⟩, 10), (⟨"YawnTrain$BlindPlan", "savedBoth", "(II)I"⟩, 10), (⟨"YawnTrain$BlindPlan", "searchThird", "(III)V"⟩, 10), (⟨"YawnTrain$BlindPlan", "isOneLine", "(II)Z"⟩, 10)]
theorem lw_r3 : ∀ q ∈ lw_privs_3, lw_okq q := List.forall_mem_cons.mpr ⟨lw_p32, List.forall_mem_cons.mpr ⟨lw_p33, List.forall_mem_cons.mpr ⟨lw_p34, List.forall_mem_cons.mpr ⟨lw_p35, List.forall_mem_cons.mpr ⟨lw_p36, List.forall_mem_cons.mpr ⟨lw_p37, List.forall_mem_cons.mpr ⟨lw_p38, List.forall_mem_cons.mpr ⟨lw_p39, List.forall_mem_cons.mpr ⟨lw_p40, List.forall_mem_cons.mpr ⟨lw_p41, List.forall_mem_cons.mpr ⟨lw_p42, List.forall_mem_cons.mpr ⟨lw_p43, List.forall_mem_cons.mpr ⟨lw_p44, List.forall_mem_cons.mpr ⟨lw_p45, List.forall_mem_cons.mpr ⟨lw_p46, List.forall_mem_cons.mpr ⟨lw_p47, fun _ h => absurd h List.not_mem_nil⟩⟩⟩⟩⟩⟩⟩⟩⟩⟩⟩⟩⟩⟩⟩⟩
theorem lw_p48 : lw_okq (⟨"YawnTrain", "mostParting", "(LYawnTrain$Law;LYawnTrain$Law;I)I"⟩, 17) := ⟨⟨by decide +kernel, by decide +kernel⟩, List.mem_of_getElem? (i := 17) (by decide +kernel), List.mem_of_getElem? (i := 863) (by decide +kernel), List.mem_of_getElem? (i := 864) (by decide +kernel)⟩
theorem lw_p49 : lw_okq (⟨"YawnTrain$Sheet", "cutToLane", "(I)I"⟩, 4) := ⟨⟨by decide +kernel, by decide +kernel⟩, List.mem_of_getElem? (i := 176) (by decide +kernel), List.mem_of_getElem? (i := 908) (by decide +kernel), List.mem_of_getElem? (i := 909) (by decide +kernel)⟩
theorem lw_p50 : lw_okq (⟨"YawnTrain", "leave", "(I)V"⟩, 17) := ⟨⟨by decide +kernel, by decide +kernel⟩, List.mem_of_getElem? (i := 17) (by decide +kernel), List.mem_of_getElem? (i := 939) (by decide +kernel), List.mem_of_getElem? (i := 940) (by decide +kernel)⟩
theorem lw_p51 : lw_okq (⟨"YawnTrainModel", "kept", "(IIIJ)I"⟩, 40) := ⟨⟨by decide +kernel, by decide +kernel⟩, List.mem_of_getElem? (i := 991) (by decide +kernel), List.mem_of_getElem? (i := 1122) (by decide +kernel), List.mem_of_getElem? (i := 1123) (by decide +kernel)⟩
theorem lw_p52 : lw_okq (⟨"YawnTrainModel", "refused", "(I)I"⟩, 40) := ⟨⟨by decide +kernel, by decide +kernel⟩, List.mem_of_getElem? (i := 991) (by decide +kernel), List.mem_of_getElem? (i := 1133) (by decide +kernel), List.mem_of_getElem? (i := 1134) (by decide +kernel)⟩
theorem lw_p53 : lw_okq (⟨"YawnTrainModel", "failed", "(I)I"⟩, 40) := ⟨⟨by decide +kernel, by decide +kernel⟩, List.mem_of_getElem? (i := 991) (by decide +kernel), List.mem_of_getElem? (i := 1138) (by decide +kernel), List.mem_of_getElem? (i := 1139) (by decide +kernel)⟩
theorem lw_p54 : lw_okq (⟨"YawnTrainModel", "readsCarriage", "(II)Z"⟩, 40) := ⟨⟨by decide +kernel, by decide +kernel⟩, List.mem_of_getElem? (i := 991) (by decide +kernel), List.mem_of_getElem? (i := 1145) (by decide +kernel), List.mem_of_getElem? (i := 1146) (by decide +kernel)⟩
theorem lw_p55 : lw_okq (⟨"YawnTrainModel", "takes", "(III)Z"⟩, 40) := ⟨⟨by decide +kernel, by decide +kernel⟩, List.mem_of_getElem? (i := 991) (by decide +kernel), List.mem_of_getElem? (i := 1149) (by decide +kernel), List.mem_of_getElem? (i := 1150) (by decide +kernel)⟩
theorem lw_p56 : lw_okq (⟨"YawnTrainModel", "readsFigure", "(IIII)Z"⟩, 40) := ⟨⟨by decide +kernel, by decide +kernel⟩, List.mem_of_getElem? (i := 991) (by decide +kernel), List.mem_of_getElem? (i := 1153) (by decide +kernel), List.mem_of_getElem? (i := 1154) (by decide +kernel)⟩
theorem lw_p57 : lw_okq (⟨"YawnTrainModel", "seats", "()I"⟩, 40) := ⟨⟨by decide +kernel, by decide +kernel⟩, List.mem_of_getElem? (i := 991) (by decide +kernel), List.mem_of_getElem? (i := 1160) (by decide +kernel), List.mem_of_getElem? (i := 1161) (by decide +kernel)⟩
theorem lw_p58 : lw_okq (⟨"YawnTrainModel", "besides", "(II)I"⟩, 40) := ⟨⟨by decide +kernel, by decide +kernel⟩, List.mem_of_getElem? (i := 991) (by decide +kernel), List.mem_of_getElem? (i := 1164) (by decide +kernel), List.mem_of_getElem? (i := 1165) (by decide +kernel)⟩
theorem lw_p59 : lw_okq (⟨"YawnTrainModel", "noSeat", "(I)Z"⟩, 40) := ⟨⟨by decide +kernel, by decide +kernel⟩, List.mem_of_getElem? (i := 991) (by decide +kernel), List.mem_of_getElem? (i := 1172) (by decide +kernel), List.mem_of_getElem? (i := 1173) (by decide +kernel)⟩
theorem lw_p60 : lw_okq (⟨"YawnTrainModel", "layLine", "(I)V"⟩, 40) := ⟨⟨by decide +kernel, by decide +kernel⟩, List.mem_of_getElem? (i := 991) (by decide +kernel), List.mem_of_getElem? (i := 1176) (by decide +kernel), List.mem_of_getElem? (i := 1177) (by decide +kernel)⟩
theorem lw_p61 : lw_okq (⟨"YawnTrainModel", "goAlong", "(II)I"⟩, 40) := ⟨⟨by decide +kernel, by decide +kernel⟩, List.mem_of_getElem? (i := 991) (by decide +kernel), List.mem_of_getElem? (i := 1180) (by decide +kernel), List.mem_of_getElem? (i := 1181) (by decide +kernel)⟩
theorem lw_p62 : lw_okq (⟨"YawnTrainModel", "nextTo", "(II)I"⟩, 40) := ⟨⟨by decide +kernel, by decide +kernel⟩, List.mem_of_getElem? (i := 991) (by decide +kernel), List.mem_of_getElem? (i := 1184) (by decide +kernel), List.mem_of_getElem? (i := 1185) (by decide +kernel)⟩
theorem lw_p63 : lw_okq (⟨"YawnTrainModel", "isBlind", "(II)Z"⟩, 40) := ⟨⟨by decide +kernel, by decide +kernel⟩, List.mem_of_getElem? (i := 991) (by decide +kernel), List.mem_of_getElem? (i := 1188) (by decide +kernel), List.mem_of_getElem? (i := 1189) (by decide +kernel)⟩
def lw_privs_4 : List (MethodName × Nat) := [(⟨"YawnTrain", "mostParting", "(LYawnTrain$Law;LYawnTrain$Law;I)I"⟩, 17), (⟨"YawnTrain$Sheet", "cutToLane", "(I)I"⟩, 4), (⟨"YawnTrain", "leave", "(I)V"⟩, 17), (⟨"YawnTrainModel", "kept", "(IIIJ)I"⟩, 40), (⟨"YawnTrainModel", "refused", "(I)I"⟩, 40), (⟨"YawnTrainModel", "failed", "(I)I"⟩, 40), (⟨"YawnTrainModel", "readsCarriage", "(II)Z"⟩, 40), (⟨"YawnTrainModel", "takes", "(III)Z"⟩, 40), (⟨"YawnTrainModel", "readsFigure", "(IIII)Z"⟩, 40), (⟨"YawnTrainModel", "seats", "()I"⟩, 40), (⟨"YawnTrainModel", "besides", "(II)I"⟩, 40), (⟨"YawnTrainModel", "noSeat", "(I)Z"⟩, 40), (⟨"YawnTrainModel", "layLine", "(I)V"⟩, 40), (⟨"YawnTrainModel", "goAlong", "(II)I"⟩, 40), (⟨"YawnTrainModel", "nextTo", "(II)I"⟩, 40), (⟨"YawnTrainModel", "isBlind", "(II)Z"⟩, 40)]
theorem lw_r4 : ∀ q ∈ lw_privs_4, lw_okq q := List.forall_mem_cons.mpr ⟨lw_p48, List.forall_mem_cons.mpr ⟨lw_p49, List.forall_mem_cons.mpr ⟨lw_p50, List.forall_mem_cons.mpr ⟨lw_p51, List.forall_mem_cons.mpr ⟨lw_p52, List.forall_mem_cons.mpr ⟨lw_p53, List.forall_mem_cons.mpr ⟨lw_p54, List.forall_mem_cons.mpr ⟨lw_p55, List.forall_mem_cons.mpr ⟨lw_p56, List.forall_mem_cons.mpr ⟨lw_p57, List.forall_mem_cons.mpr ⟨lw_p58, List.forall_mem_cons.mpr ⟨lw_p59, List.forall_mem_cons.mpr ⟨lw_p60, List.forall_mem_cons.mpr ⟨lw_p61, List.forall_mem_cons.mpr ⟨lw_p62, List.forall_mem_cons.mpr ⟨lw_p63, fun _ h => absurd h List.not_mem_nil⟩⟩⟩⟩⟩⟩⟩⟩⟩⟩⟩⟩⟩⟩⟩⟩
theorem lw_p64 : lw_okq (⟨"YawnTrainModel", "whoOn", "(I)I"⟩, 40) := ⟨⟨by decide +kernel, by decide +kernel⟩, List.mem_of_getElem? (i := 991) (by decide +kernel), List.mem_of_getElem? (i := 1192) (by decide +kernel), List.mem_of_getElem? (i := 1193) (by decide +kernel)⟩
theorem lw_p65 : lw_okq (⟨"YawnTrainModel", "isGap", "(II)Z"⟩, 40) := ⟨⟨by decide +kernel, by decide +kernel⟩, List.mem_of_getElem? (i := 991) (by decide +kernel), List.mem_of_getElem? (i := 1204) (by decide +kernel), List.mem_of_getElem? (i := 1205) (by decide +kernel)⟩
theorem lw_p66 : lw_okq (⟨"YawnTrainModel", "hang", "(IIZ)V"⟩, 40) := ⟨⟨by decide +kernel, by decide +kernel⟩, List.mem_of_getElem? (i := 991) (by decide +kernel), List.mem_of_getElem? (i := 1208) (by decide +kernel), List.mem_of_getElem? (i := 1209) (by decide +kernel)⟩
theorem lw_p67 : lw_okq (⟨"YawnTrainModel", "noOne", "(I)Z"⟩, 40) := ⟨⟨by decide +kernel, by decide +kernel⟩, List.mem_of_getElem? (i := 991) (by decide +kernel), List.mem_of_getElem? (i := 1221) (by decide +kernel), List.mem_of_getElem? (i := 1222) (by decide +kernel)⟩
theorem lw_p68 : lw_okq (⟨"YawnTrainModel", "doesSee", "(II)Z"⟩, 40) := ⟨⟨by decide +kernel, by decide +kernel⟩, List.mem_of_getElem? (i := 991) (by decide +kernel), List.mem_of_getElem? (i := 1225) (by decide +kernel), List.mem_of_getElem? (i := 1226) (by decide +kernel)⟩
theorem lw_p69 : lw_okq (⟨"YawnTrainModel", "doesHear", "(II)Z"⟩, 40) := ⟨⟨by decide +kernel, by decide +kernel⟩, List.mem_of_getElem? (i := 991) (by decide +kernel), List.mem_of_getElem? (i := 1229) (by decide +kernel), List.mem_of_getElem? (i := 1230) (by decide +kernel)⟩
theorem lw_p70 : lw_okq (⟨"YawnTrainModel", "readLaw", "(II)I"⟩, 40) := ⟨⟨by decide +kernel, by decide +kernel⟩, List.mem_of_getElem? (i := 991) (by decide +kernel), List.mem_of_getElem? (i := 1241) (by decide +kernel), List.mem_of_getElem? (i := 1242) (by decide +kernel)⟩
theorem lw_p71 : lw_okq (⟨"YawnTrainModel", "of", "(II)I"⟩, 40) := ⟨⟨by decide +kernel, by decide +kernel⟩, List.mem_of_getElem? (i := 991) (by decide +kernel), List.mem_of_getElem? (i := 1251) (by decide +kernel), List.mem_of_getElem? (i := 1252) (by decide +kernel)⟩
theorem lw_p72 : lw_okq (⟨"YawnTrainModel", "noLaw", "(I)Z"⟩, 40) := ⟨⟨by decide +kernel, by decide +kernel⟩, List.mem_of_getElem? (i := 991) (by decide +kernel), List.mem_of_getElem? (i := 1259) (by decide +kernel), List.mem_of_getElem? (i := 1260) (by decide +kernel)⟩
theorem lw_p73 : lw_okq (⟨"YawnTrainModel", "mightOf", "(III)I"⟩, 40) := ⟨⟨by decide +kernel, by decide +kernel⟩, List.mem_of_getElem? (i := 991) (by decide +kernel), List.mem_of_getElem? (i := 1268) (by decide +kernel), List.mem_of_getElem? (i := 1269) (by decide +kernel)⟩
theorem lw_p74 : lw_okq (⟨"YawnTrainModel", "taken", "(IIII)I"⟩, 40) := ⟨⟨by decide +kernel, by decide +kernel⟩, List.mem_of_getElem? (i := 991) (by decide +kernel), List.mem_of_getElem? (i := 1272) (by decide +kernel), List.mem_of_getElem? (i := 1273) (by decide +kernel)⟩
theorem lw_p75 : lw_okq (⟨"YawnTrainModel", "caught", "(IIIZ)I"⟩, 40) := ⟨⟨by decide +kernel, by decide +kernel⟩, List.mem_of_getElem? (i := 991) (by decide +kernel), List.mem_of_getElem? (i := 1276) (by decide +kernel), List.mem_of_getElem? (i := 1277) (by decide +kernel)⟩
theorem lw_p76 : lw_okq (⟨"YawnTrainModel", "caughtBy", "(IIIZ)I"⟩, 40) := ⟨⟨by decide +kernel, by decide +kernel⟩, List.mem_of_getElem? (i := 991) (by decide +kernel), List.mem_of_getElem? (i := 1280) (by decide +kernel), List.mem_of_getElem? (i := 1281) (by decide +kernel)⟩
theorem lw_p77 : lw_okq (⟨"YawnTrainModel", "lastMinute", "()I"⟩, 40) := ⟨⟨by decide +kernel, by decide +kernel⟩, List.mem_of_getElem? (i := 991) (by decide +kernel), List.mem_of_getElem? (i := 1289) (by decide +kernel), List.mem_of_getElem? (i := 1290) (by decide +kernel)⟩
theorem lw_p78 : lw_okq (⟨"YawnTrainModel", "noYawn", "(I)Z"⟩, 40) := ⟨⟨by decide +kernel, by decide +kernel⟩, List.mem_of_getElem? (i := 991) (by decide +kernel), List.mem_of_getElem? (i := 1297) (by decide +kernel), List.mem_of_getElem? (i := 1298) (by decide +kernel)⟩
theorem lw_p79 : lw_okq (⟨"YawnTrainModel", "source", "(III)I"⟩, 40) := ⟨⟨by decide +kernel, by decide +kernel⟩, List.mem_of_getElem? (i := 991) (by decide +kernel), List.mem_of_getElem? (i := 1309) (by decide +kernel), List.mem_of_getElem? (i := 1310) (by decide +kernel)⟩
def lw_privs_5 : List (MethodName × Nat) := [(⟨"YawnTrainModel", "whoOn", "(I)I"⟩, 40), (⟨"YawnTrainModel", "isGap", "(II)Z"⟩, 40), (⟨"YawnTrainModel", "hang", "(IIZ)V"⟩, 40), (⟨"YawnTrainModel", "noOne", "(I)Z"⟩, 40), (⟨"YawnTrainModel", "doesSee", "(II)Z"⟩, 40), (⟨"YawnTrainModel", "doesHear", "(II)Z"⟩, 40), (⟨"YawnTrainModel", "readLaw", "(II)I"⟩, 40), (⟨"YawnTrainModel", "of", "(II)I"⟩, 40), (⟨"YawnTrainModel", "noLaw", "(I)Z"⟩, 40), (⟨"YawnTrainModel", "mightOf", "(III)I"⟩, 40), (⟨"YawnTrainModel", "taken", "(IIII)I"⟩, 40), (⟨"YawnTrainModel", "caught", "(IIIZ)I"⟩, 40), (⟨"YawnTrainModel", "caughtBy", "(IIIZ)I"⟩, 40), (⟨"YawnTrainModel", "lastMinute", "()I"⟩, 40), (⟨"YawnTrainModel", "noYawn", "(I)Z"⟩, 40), (⟨"YawnTrainModel", "source", "(III)I"⟩, 40)]
theorem lw_r5 : ∀ q ∈ lw_privs_5, lw_okq q := List.forall_mem_cons.mpr ⟨lw_p64, List.forall_mem_cons.mpr ⟨lw_p65, List.forall_mem_cons.mpr ⟨lw_p66, List.forall_mem_cons.mpr ⟨lw_p67, List.forall_mem_cons.mpr ⟨lw_p68, List.forall_mem_cons.mpr ⟨lw_p69, List.forall_mem_cons.mpr ⟨lw_p70, List.forall_mem_cons.mpr ⟨lw_p71, List.forall_mem_cons.mpr ⟨lw_p72, List.forall_mem_cons.mpr ⟨lw_p73, List.forall_mem_cons.mpr ⟨lw_p74, List.forall_mem_cons.mpr ⟨lw_p75, List.forall_mem_cons.mpr ⟨lw_p76, List.forall_mem_cons.mpr ⟨lw_p77, List.forall_mem_cons.mpr ⟨lw_p78, List.forall_mem_cons.mpr ⟨lw_p79, fun _ h => absurd h List.not_mem_nil⟩⟩⟩⟩⟩⟩⟩⟩⟩⟩⟩⟩⟩⟩⟩⟩
theorem lw_p80 : lw_okq (⟨"YawnTrainModel", "mightFrom", "(IIIII)I"⟩, 40) := ⟨⟨by decide +kernel, by decide +kernel⟩, List.mem_of_getElem? (i := 991) (by decide +kernel), List.mem_of_getElem? (i := 1313) (by decide +kernel), List.mem_of_getElem? (i := 1314) (by decide +kernel)⟩
theorem lw_p81 : lw_okq (⟨"YawnTrainModel", "allSources", "(II)I"⟩, 40) := ⟨⟨by decide +kernel, by decide +kernel⟩, List.mem_of_getElem? (i := 991) (by decide +kernel), List.mem_of_getElem? (i := 1321) (by decide +kernel), List.mem_of_getElem? (i := 1322) (by decide +kernel)⟩
theorem lw_p82 : lw_okq (⟨"YawnTrainModel", "firstBarred", "(I)I"⟩, 40) := ⟨⟨by decide +kernel, by decide +kernel⟩, List.mem_of_getElem? (i := 991) (by decide +kernel), List.mem_of_getElem? (i := 1336) (by decide +kernel), List.mem_of_getElem? (i := 1337) (by decide +kernel)⟩
theorem lw_p83 : lw_okq (⟨"YawnTrainModel", "causesOf", "(II)I"⟩, 40) := ⟨⟨by decide +kernel, by decide +kernel⟩, List.mem_of_getElem? (i := 991) (by decide +kernel), List.mem_of_getElem? (i := 1349) (by decide +kernel), List.mem_of_getElem? (i := 1350) (by decide +kernel)⟩
theorem lw_p84 : lw_okq (⟨"YawnTrainModel", "doesMend", "(III)Z"⟩, 40) := ⟨⟨by decide +kernel, by decide +kernel⟩, List.mem_of_getElem? (i := 991) (by decide +kernel), List.mem_of_getElem? (i := 1370) (by decide +kernel), List.mem_of_getElem? (i := 1371) (by decide +kernel)⟩
theorem lw_p85 : lw_okq (⟨"YawnTrainModel", "sumAt", "(III)I"⟩, 40) := ⟨⟨by decide +kernel, by decide +kernel⟩, List.mem_of_getElem? (i := 991) (by decide +kernel), List.mem_of_getElem? (i := 1379) (by decide +kernel), List.mem_of_getElem? (i := 1380) (by decide +kernel)⟩
theorem lw_p86 : lw_okq (⟨"YawnTrainModel", "spreadOf", "(I)I"⟩, 40) := ⟨⟨by decide +kernel, by decide +kernel⟩, List.mem_of_getElem? (i := 991) (by decide +kernel), List.mem_of_getElem? (i := 1387) (by decide +kernel), List.mem_of_getElem? (i := 1388) (by decide +kernel)⟩
theorem lw_p87 : lw_okq (⟨"YawnTrainModel", "layGaps", "()V"⟩, 40) := ⟨⟨by decide +kernel, by decide +kernel⟩, List.mem_of_getElem? (i := 991) (by decide +kernel), List.mem_of_getElem? (i := 1396) (by decide +kernel), List.mem_of_getElem? (i := 1397) (by decide +kernel)⟩
theorem lw_p88 : lw_okq (⟨"YawnTrainModel", "layBlinds", "(II)V"⟩, 40) := ⟨⟨by decide +kernel, by decide +kernel⟩, List.mem_of_getElem? (i := 991) (by decide +kernel), List.mem_of_getElem? (i := 1400) (by decide +kernel), List.mem_of_getElem? (i := 1401) (by decide +kernel)⟩
theorem lw_p89 : lw_okq (⟨"YawnTrainModel", "look", "(IIII)V"⟩, 40) := ⟨⟨by decide +kernel, by decide +kernel⟩, List.mem_of_getElem? (i := 991) (by decide +kernel), List.mem_of_getElem? (i := 1404) (by decide +kernel), List.mem_of_getElem? (i := 1405) (by decide +kernel)⟩
theorem lw_p90 : lw_okq (⟨"YawnTrainModel", "hangGap", "(IZ)V"⟩, 40) := ⟨⟨by decide +kernel, by decide +kernel⟩, List.mem_of_getElem? (i := 991) (by decide +kernel), List.mem_of_getElem? (i := 1408) (by decide +kernel), List.mem_of_getElem? (i := 1409) (by decide +kernel)⟩
theorem lw_p91 : lw_okq (⟨"YawnTrainModel", "layFilm", "(IIII)V"⟩, 40) := ⟨⟨by decide +kernel, by decide +kernel⟩, List.mem_of_getElem? (i := 991) (by decide +kernel), List.mem_of_getElem? (i := 1416) (by decide +kernel), List.mem_of_getElem? (i := 1417) (by decide +kernel)⟩
theorem lw_p92 : lw_okq (⟨"YawnTrainModel", "noCell", "(II)I"⟩, 40) := ⟨⟨by decide +kernel, by decide +kernel⟩, List.mem_of_getElem? (i := 991) (by decide +kernel), List.mem_of_getElem? (i := 1437) (by decide +kernel), List.mem_of_getElem? (i := 1438) (by decide +kernel)⟩
theorem lw_p93 : lw_okq (⟨"YawnTrainModel", "failedLong", "(I)J"⟩, 40) := ⟨⟨by decide +kernel, by decide +kernel⟩, List.mem_of_getElem? (i := 991) (by decide +kernel), List.mem_of_getElem? (i := 1445) (by decide +kernel), List.mem_of_getElem? (i := 1446) (by decide +kernel)⟩
theorem lw_p94 : lw_okq (⟨"YawnTrainModel", "traced", "(I)V"⟩, 40) := ⟨⟨by decide +kernel, by decide +kernel⟩, List.mem_of_getElem? (i := 991) (by decide +kernel), List.mem_of_getElem? (i := 1457) (by decide +kernel), List.mem_of_getElem? (i := 1458) (by decide +kernel)⟩
def lw_privs_6 : List (MethodName × Nat) := [(⟨"YawnTrainModel", "mightFrom", "(IIIII)I"⟩, 40), (⟨"YawnTrainModel", "allSources", "(II)I"⟩, 40), (⟨"YawnTrainModel", "firstBarred", "(I)I"⟩, 40), (⟨"YawnTrainModel", "causesOf", "(II)I"⟩, 40), (⟨"YawnTrainModel", "doesMend", "(III)Z"⟩, 40), (⟨"YawnTrainModel", "sumAt", "(III)I"⟩, 40), (⟨"YawnTrainModel", "spreadOf", "(I)I"⟩, 40), (⟨"YawnTrainModel", "layGaps", "()V"⟩, 40), (⟨"YawnTrainModel", "layBlinds", "(II)V"⟩, 40), (⟨"YawnTrainModel", "look", "(IIII)V"⟩, 40), (⟨"YawnTrainModel", "hangGap", "(IZ)V"⟩, 40), (⟨"YawnTrainModel", "layFilm", "(IIII)V"⟩, 40), (⟨"YawnTrainModel", "noCell", "(II)I"⟩, 40), (⟨"YawnTrainModel", "failedLong", "(I)J"⟩, 40), (⟨"YawnTrainModel", "traced", "(I)V"⟩, 40)]
theorem lw_r6 : ∀ q ∈ lw_privs_6, lw_okq q := List.forall_mem_cons.mpr ⟨lw_p80, List.forall_mem_cons.mpr ⟨lw_p81, List.forall_mem_cons.mpr ⟨lw_p82, List.forall_mem_cons.mpr ⟨lw_p83, List.forall_mem_cons.mpr ⟨lw_p84, List.forall_mem_cons.mpr ⟨lw_p85, List.forall_mem_cons.mpr ⟨lw_p86, List.forall_mem_cons.mpr ⟨lw_p87, List.forall_mem_cons.mpr ⟨lw_p88, List.forall_mem_cons.mpr ⟨lw_p89, List.forall_mem_cons.mpr ⟨lw_p90, List.forall_mem_cons.mpr ⟨lw_p91, List.forall_mem_cons.mpr ⟨lw_p92, List.forall_mem_cons.mpr ⟨lw_p93, List.forall_mem_cons.mpr ⟨lw_p94, fun _ h => absurd h List.not_mem_nil⟩⟩⟩⟩⟩⟩⟩⟩⟩⟩⟩⟩⟩⟩⟩
def lw_privs : List (MethodName × Nat) := lw_privs_1 ++ (lw_privs_2 ++ (lw_privs_3 ++ (lw_privs_4 ++ (lw_privs_5 ++ (lw_privs_6)))))
def lw_tbl : List Cond := k2_sels lw_privs ++ tables_1
theorem lw_privs_ok : ∀ q ∈ lw_privs, lw_okq q := by
  show ∀ q ∈ lw_privs_1 ++ (lw_privs_2 ++ (lw_privs_3 ++ (lw_privs_4 ++ (lw_privs_5 ++ (lw_privs_6))))), lw_okq q
  exact List.forall_mem_append.mpr ⟨lw_r1, List.forall_mem_append.mpr ⟨lw_r2, List.forall_mem_append.mpr ⟨lw_r3, List.forall_mem_append.mpr ⟨lw_r4, List.forall_mem_append.mpr ⟨lw_r5, lw_r6⟩⟩⟩⟩⟩
def RX0 : String := "YawnTrain$BlindPlan"
def TX0 : u_T := fun k => match k with
  | 0 => ("YawnTrain$BlindPlan", "gaps", "[I", true)
  | 1 => ("YawnTrain$BlindPlan", "places", "[I", true)
  | 2 => ("YawnTrain$BlindPlan", "lineNumbers", "[I", true)
  | 3 => ("YawnTrain$BlindPlan", "alone", "[I", true)
  | 4 => ("YawnTrain$BlindPlan", "both", "[I", true)
  | 5 => ("YawnTrain$BlindPlan", "passed", "[I", true)
  | 6 => ("YawnTrain$BlindPlan", "chosen", "[I", true)
  | 7 => ("YawnTrain$BlindPlan", "free", "I", false)
  | 8 => ("YawnTrain$BlindPlan", "taken", "I", false)
  | _ => ("YawnTrain$BlindPlan", "saved", "I", false)
def tyX0 : Nat → FieldType := fun k => match k with
  | 0 => .array .int
  | 1 => .array .int
  | 2 => .array .int
  | 3 => .array .int
  | 4 => .array .int
  | 5 => .array .int
  | 6 => .array .int
  | 7 => .int
  | 8 => .int
  | _ => .int
abbrev wsX00 : List Cond := u_ws RX0 TX0 10
theorem nmX0 : ∀ a, a < 10 → ∀ b, b < 10 → a ≠ b → (TX0 a).2.1 ≠ (TX0 b).2.1 := by decide +kernel
theorem tyX0_ok : ∀ k, k < 10 → parseFieldDescriptor (TX0 k).2.2.1 = some (tyX0 k) := by decide +kernel
abbrev cX0_init : ByteArray := prog_2_method_1_code
def yX0_init : MethodName := ⟨RX0, "<init>", "()V"⟩
abbrev cX0_begin : ByteArray := prog_2_method_2_code
def yX0_begin : MethodName := ⟨RX0, "begin", "(LYawnTrain$Carriage;)V"⟩
abbrev cX0_addGap : ByteArray := prog_2_method_3_code
def yX0_addGap : MethodName := ⟨RX0, "addGap", "(LYawnTrain$Carriage;II)V"⟩
abbrev cX0_addSight : ByteArray := prog_2_method_4_code
def yX0_addSight : MethodName := ⟨RX0, "addSight", "(LYawnTrain$Carriage;III)V"⟩
abbrev cX0_passGaps : ByteArray := prog_2_method_5_code
def yX0_passGaps : MethodName := ⟨RX0, "passGaps", "(LYawnTrain$Carriage;III)I"⟩
abbrev cX0_addAlone : ByteArray := prog_2_method_6_code
def yX0_addAlone : MethodName := ⟨RX0, "addAlone", "(II)V"⟩
abbrev cX0_addBoth : ByteArray := prog_2_method_7_code
def yX0_addBoth : MethodName := ⟨RX0, "addBoth", "(III)V"⟩
abbrev cX0_savedAlone : ByteArray := prog_2_method_8_code
def yX0_savedAlone : MethodName := ⟨RX0, "savedAlone", "(I)I"⟩
abbrev cX0_savedBoth : ByteArray := prog_2_method_9_code
def yX0_savedBoth : MethodName := ⟨RX0, "savedBoth", "(II)I"⟩
abbrev cX0_isOneLine : ByteArray := prog_2_method_10_code
def yX0_isOneLine : MethodName := ⟨RX0, "isOneLine", "(II)Z"⟩
abbrev cX0_search : ByteArray := prog_2_method_11_code
def yX0_search : MethodName := ⟨RX0, "search", "(I)V"⟩
abbrev cX0_searchSecond : ByteArray := prog_2_method_12_code
def yX0_searchSecond : MethodName := ⟨RX0, "searchSecond", "(II)V"⟩
abbrev cX0_searchThird : ByteArray := prog_2_method_13_code
def yX0_searchThird : MethodName := ⟨RX0, "searchThird", "(III)V"⟩
abbrev cX0_offer : ByteArray := prog_2_method_14_code
def yX0_offer : MethodName := ⟨RX0, "offer", "(IIII)V"⟩
abbrev cX0_chosenGap : ByteArray := prog_2_method_15_code
def yX0_chosenGap : MethodName := ⟨RX0, "chosenGap", "(LYawnTrain$Carriage;I)I"⟩
def RX1 : String := "YawnTrain$Carriage"
def TX1 : u_T := fun k => match k with
  | 0 => ("YawnTrain$Carriage", "faces", "[I", true)
  | 1 => ("YawnTrain$Carriage", "sitters", "[I", true)
  | 2 => ("YawnTrain$Carriage", "lines", "[I", true)
  | 3 => ("YawnTrain$Carriage", "blinds", "[Z", true)
  | 4 => ("YawnTrain$Carriage", "wide", "I", false)
  | 5 => ("YawnTrain$Carriage", "seats", "I", false)
  | 6 => ("YawnTrain$Carriage", "mirrors", "Z", false)
  | _ => ("YawnTrain$Carriage", "blindCount", "I", false)
def tyX1 : Nat → FieldType := fun k => match k with
  | 0 => .array .int
  | 1 => .array .int
  | 2 => .array .int
  | 3 => .array .boolean
  | 4 => .int
  | 5 => .int
  | 6 => .boolean
  | _ => .int
abbrev wsX10 : List Cond := u_ws RX1 TX1 8
theorem nmX1 : ∀ a, a < 8 → ∀ b, b < 8 → a ≠ b → (TX1 a).2.1 ≠ (TX1 b).2.1 := by decide +kernel
theorem tyX1_ok : ∀ k, k < 8 → parseFieldDescriptor (TX1 k).2.2.1 = some (tyX1 k) := by decide +kernel
abbrev cX1_init : ByteArray := prog_3_method_1_code
def yX1_init : MethodName := ⟨RX1, "<init>", "()V"⟩
abbrev cX1_build : ByteArray := prog_3_method_2_code
def yX1_build : MethodName := ⟨RX1, "build", "(LYawnTrain$CarriageText;)V"⟩
abbrev cX1_isSeat : ByteArray := prog_3_method_3_code
def yX1_isSeat : MethodName := ⟨RX1, "isSeat", "(I)Z"⟩
abbrev cX1_faceOf : ByteArray := prog_3_method_4_code
def yX1_faceOf : MethodName := ⟨RX1, "faceOf", "(I)I"⟩
abbrev cX1_sitterOf : ByteArray := prog_3_method_5_code
def yX1_sitterOf : MethodName := ⟨RX1, "sitterOf", "(I)I"⟩
abbrev cX1_seatOne : ByteArray := prog_3_method_6_code
def yX1_seatOne : MethodName := ⟨RX1, "seatOne", "(II)V"⟩
abbrev cX1_lineOf : ByteArray := prog_3_method_7_code
def yX1_lineOf : MethodName := ⟨RX1, "lineOf", "(I)I"⟩
abbrev cX1_isOnLine : ByteArray := prog_3_method_8_code
def yX1_isOnLine : MethodName := ⟨RX1, "isOnLine", "(II)Z"⟩
abbrev cX1_nextSeat : ByteArray := prog_3_method_9_code
def yX1_nextSeat : MethodName := ⟨RX1, "nextSeat", "(II)I"⟩
abbrev cX1_gapBetween : ByteArray := prog_3_method_10_code
def yX1_gapBetween : MethodName := ⟨RX1, "gapBetween", "(II)I"⟩
abbrev cX1_lesserSeat : ByteArray := prog_3_method_11_code
def yX1_lesserSeat : MethodName := ⟨RX1, "lesserSeat", "(I)I"⟩
abbrev cX1_greaterSeat : ByteArray := prog_3_method_12_code
def yX1_greaterSeat : MethodName := ⟨RX1, "greaterSeat", "(I)I"⟩
abbrev cX1_hasBlind : ByteArray := prog_3_method_13_code
def yX1_hasBlind : MethodName := ⟨RX1, "hasBlind", "(I)Z"⟩
abbrev cX1_setBlind : ByteArray := prog_3_method_14_code
def yX1_setBlind : MethodName := ⟨RX1, "setBlind", "(IZ)Z"⟩
abbrev cX1_drawLines : ByteArray := prog_3_method_15_code
def yX1_drawLines : MethodName := ⟨RX1, "drawLines", "()V"⟩
abbrev cX1_lineFrom : ByteArray := prog_3_method_16_code
def yX1_lineFrom : MethodName := ⟨RX1, "lineFrom", "(II)I"⟩
abbrev cX1_wayBack : ByteArray := prog_3_method_17_code
def yX1_wayBack : MethodName := ⟨RX1, "wayBack", "(II)I"⟩
def RX2 : String := "YawnTrain$CarriageText"
def TX2 : u_T := fun k => match k with
  | 0 => ("YawnTrain$CarriageText", "faces", "[I", true)
  | 1 => ("YawnTrain$CarriageText", "stage", "I", false)
  | 2 => ("YawnTrain$CarriageText", "rows", "I", false)
  | 3 => ("YawnTrain$CarriageText", "wide", "I", false)
  | 4 => ("YawnTrain$CarriageText", "mirrors", "Z", false)
  | _ => ("YawnTrain$CarriageText", "seats", "I", false)
def tyX2 : Nat → FieldType := fun k => match k with
  | 0 => .array .int
  | 1 => .int
  | 2 => .int
  | 3 => .int
  | 4 => .boolean
  | _ => .int
abbrev wsX20 : List Cond := u_ws RX2 TX2 6
theorem nmX2 : ∀ a, a < 6 → ∀ b, b < 6 → a ≠ b → (TX2 a).2.1 ≠ (TX2 b).2.1 := by decide +kernel
theorem tyX2_ok : ∀ k, k < 6 → parseFieldDescriptor (TX2 k).2.2.1 = some (tyX2 k) := by decide +kernel
abbrev cX2_init : ByteArray := prog_4_method_1_code
def yX2_init : MethodName := ⟨RX2, "<init>", "()V"⟩
abbrev cX2_begin : ByteArray := prog_4_method_2_code
def yX2_begin : MethodName := ⟨RX2, "begin", "()V"⟩
abbrev cX2_takes : ByteArray := prog_4_method_3_code
def yX2_takes : MethodName := ⟨RX2, "takes", "(I)Z"⟩
abbrev cX2_takesSeat : ByteArray := prog_4_method_4_code
def yX2_takesSeat : MethodName := ⟨RX2, "takesSeat", "(I)Z"⟩
abbrev cX2_faceBy : ByteArray := prog_4_method_5_code
def yX2_faceBy : MethodName := ⟨RX2, "faceBy", "(I)I"⟩
abbrev cX2_isWhole : ByteArray := prog_4_method_6_code
def yX2_isWhole : MethodName := ⟨RX2, "isWhole", "()Z"⟩
abbrev cX2_faceAt : ByteArray := prog_4_method_7_code
def yX2_faceAt : MethodName := ⟨RX2, "faceAt", "(I)I"⟩
def RX3 : String := "YawnTrain$Child"
def TX3 : u_T := fun k => match k with
  | 0 => ("YawnTrain$Person", "number", "I", true)
  | 1 => ("YawnTrain$Person", "slept", "I", true)
  | 2 => ("YawnTrain$Person", "kin", "I", true)
  | _ => ("YawnTrain$Person", "seat", "I", false)
def tyX3 : Nat → FieldType := fun k => match k with
  | 0 => .int
  | 1 => .int
  | 2 => .int
  | _ => .int
abbrev wsX30 : List Cond := u_ws RX3 TX3 4
theorem nmX3 : ∀ a, a < 4 → ∀ b, b < 4 → a ≠ b → (TX3 a).2.1 ≠ (TX3 b).2.1 := by decide +kernel
theorem tyX3_ok : ∀ k, k < 4 → parseFieldDescriptor (TX3 k).2.2.1 = some (tyX3 k) := by decide +kernel
abbrev cX3_init : ByteArray := prog_5_method_1_code
def yX3_init : MethodName := ⟨RX3, "<init>", "(III)V"⟩
abbrev cX3_kind : ByteArray := prog_5_method_2_code
def yX3_kind : MethodName := ⟨RX3, "kind", "()I"⟩
abbrev cX3_takes : ByteArray := prog_5_method_3_code
def yX3_takes : MethodName := ⟨RX3, "takes", "(LYawnTrain$Law;IZ)I"⟩
abbrev cX3_takesOwn : ByteArray := prog_5_method_4_code
def yX3_takesOwn : MethodName := ⟨RX3, "takesOwn", "(LYawnTrain$Law;I)I"⟩
abbrev cX3_tells : ByteArray := prog_5_method_5_code
def yX3_tells : MethodName := ⟨RX3, "tells", "(LYawnTrain;)I"⟩
def RX4 : String := "YawnTrain$Dog"
def TX4 : u_T := fun k => match k with
  | 0 => ("YawnTrain$Person", "number", "I", true)
  | 1 => ("YawnTrain$Person", "slept", "I", true)
  | 2 => ("YawnTrain$Person", "kin", "I", true)
  | _ => ("YawnTrain$Person", "seat", "I", false)
def tyX4 : Nat → FieldType := fun k => match k with
  | 0 => .int
  | 1 => .int
  | 2 => .int
  | _ => .int
abbrev wsX40 : List Cond := u_ws RX4 TX4 4
theorem nmX4 : ∀ a, a < 4 → ∀ b, b < 4 → a ≠ b → (TX4 a).2.1 ≠ (TX4 b).2.1 := by decide +kernel
theorem tyX4_ok : ∀ k, k < 4 → parseFieldDescriptor (TX4 k).2.2.1 = some (tyX4 k) := by decide +kernel
abbrev cX4_init : ByteArray := prog_6_method_1_code
def yX4_init : MethodName := ⟨RX4, "<init>", "(III)V"⟩
abbrev cX4_kind : ByteArray := prog_6_method_2_code
def yX4_kind : MethodName := ⟨RX4, "kind", "()I"⟩
abbrev cX4_takes : ByteArray := prog_6_method_3_code
def yX4_takes : MethodName := ⟨RX4, "takes", "(LYawnTrain$Law;IZ)I"⟩
abbrev cX4_tells : ByteArray := prog_6_method_4_code
def yX4_tells : MethodName := ⟨RX4, "tells", "(LYawnTrain;)I"⟩
abbrev cX4_wakes : ByteArray := prog_6_method_5_code
def yX4_wakes : MethodName := ⟨RX4, "wakes", "(LYawnTrain;)I"⟩
def RX5 : String := "YawnTrain$Law"
def TX5 : u_T := fun k => match k with
  | _ => ("YawnTrain$Law", "numbers", "[I", true)
def tyX5 : Nat → FieldType := fun k => match k with
  | _ => .array .int
abbrev wsX50 : List Cond := u_ws RX5 TX5 1
theorem nmX5 : ∀ a, a < 1 → ∀ b, b < 1 → a ≠ b → (TX5 a).2.1 ≠ (TX5 b).2.1 := by decide +kernel
theorem tyX5_ok : ∀ k, k < 1 → parseFieldDescriptor (TX5 k).2.2.1 = some (tyX5 k) := by decide +kernel
abbrev cX5_init : ByteArray := prog_7_method_1_code
def yX5_init : MethodName := ⟨RX5, "<init>", "(LYawnTrain$LawText;)V"⟩
abbrev cX5_number : ByteArray := prog_7_method_2_code
def yX5_number : MethodName := ⟨RX5, "number", "(I)I"⟩
abbrev cX5_allows : ByteArray := prog_7_method_3_code
def yX5_allows : MethodName := ⟨RX5, "allows", "(I)Z"⟩
def RX6 : String := "YawnTrain$LawText"
def TX6 : u_T := fun k => match k with
  | 0 => ("YawnTrain$LawText", "numbers", "[I", true)
  | 1 => ("YawnTrain$LawText", "told", "[Z", true)
  | 2 => ("YawnTrain$LawText", "stage", "I", false)
  | 3 => ("YawnTrain$LawText", "which", "I", false)
  | _ => ("YawnTrain$LawText", "items", "I", false)
def tyX6 : Nat → FieldType := fun k => match k with
  | 0 => .array .int
  | 1 => .array .boolean
  | 2 => .int
  | 3 => .int
  | _ => .int
abbrev wsX60 : List Cond := u_ws RX6 TX6 5
theorem nmX6 : ∀ a, a < 5 → ∀ b, b < 5 → a ≠ b → (TX6 a).2.1 ≠ (TX6 b).2.1 := by decide +kernel
theorem tyX6_ok : ∀ k, k < 5 → parseFieldDescriptor (TX6 k).2.2.1 = some (tyX6 k) := by decide +kernel
abbrev cX6_init : ByteArray := prog_8_method_1_code
def yX6_init : MethodName := ⟨RX6, "<init>", "()V"⟩
abbrev cX6_begin : ByteArray := prog_8_method_2_code
def yX6_begin : MethodName := ⟨RX6, "begin", "()V"⟩
abbrev cX6_takes : ByteArray := prog_8_method_3_code
def yX6_takes : MethodName := ⟨RX6, "takes", "(I)Z"⟩
abbrev cX6_takesLetter : ByteArray := prog_8_method_4_code
def yX6_takesLetter : MethodName := ⟨RX6, "takesLetter", "(I)Z"⟩
abbrev cX6_takesDigit : ByteArray := prog_8_method_5_code
def yX6_takesDigit : MethodName := ⟨RX6, "takesDigit", "(I)Z"⟩
abbrev cX6_numberBy : ByteArray := prog_8_method_6_code
def yX6_numberBy : MethodName := ⟨RX6, "numberBy", "(I)I"⟩
abbrev cX6_isWhole : ByteArray := prog_8_method_7_code
def yX6_isWhole : MethodName := ⟨RX6, "isWhole", "()Z"⟩
abbrev cX6_lawNumber : ByteArray := prog_8_method_8_code
def yX6_lawNumber : MethodName := ⟨RX6, "lawNumber", "(I)I"⟩
abbrev cX6_readNumber : ByteArray := prog_8_method_9_code
def yX6_readNumber : MethodName := ⟨RX6, "readNumber", "(I)I"⟩
def RX7 : String := "YawnTrain$Person"
def TX7 : u_T := fun k => match k with
  | 0 => ("YawnTrain$Person", "number", "I", true)
  | 1 => ("YawnTrain$Person", "slept", "I", true)
  | 2 => ("YawnTrain$Person", "kin", "I", true)
  | _ => ("YawnTrain$Person", "seat", "I", false)
def tyX7 : Nat → FieldType := fun k => match k with
  | 0 => .int
  | 1 => .int
  | 2 => .int
  | _ => .int
abbrev wsX70 : List Cond := u_ws RX7 TX7 4
theorem nmX7 : ∀ a, a < 4 → ∀ b, b < 4 → a ≠ b → (TX7 a).2.1 ≠ (TX7 b).2.1 := by decide +kernel
theorem tyX7_ok : ∀ k, k < 4 → parseFieldDescriptor (TX7 k).2.2.1 = some (tyX7 k) := by decide +kernel
abbrev cX7_init : ByteArray := prog_9_method_1_code
def yX7_init : MethodName := ⟨RX7, "<init>", "(III)V"⟩
abbrev cX7_kind : ByteArray := prog_9_method_2_code
def yX7_kind : MethodName := ⟨RX7, "kind", "()I"⟩
abbrev cX7_tired : ByteArray := prog_9_method_3_code
def yX7_tired : MethodName := ⟨RX7, "tired", "()I"⟩
abbrev cX7_takes : ByteArray := prog_9_method_4_code
def yX7_takes : MethodName := ⟨RX7, "takes", "(LYawnTrain$Law;IZ)I"⟩
abbrev cX7_takesOwn : ByteArray := prog_9_method_5_code
def yX7_takesOwn : MethodName := ⟨RX7, "takesOwn", "(LYawnTrain$Law;I)I"⟩
abbrev cX7_tells : ByteArray := prog_9_method_6_code
def yX7_tells : MethodName := ⟨RX7, "tells", "(LYawnTrain;)I"⟩
abbrev cX7_tellsAsPerson : ByteArray := prog_9_method_7_code
def yX7_tellsAsPerson : MethodName := ⟨RX7, "tellsAsPerson", "(LYawnTrain;)I"⟩
abbrev cX7_wakes : ByteArray := prog_9_method_8_code
def yX7_wakes : MethodName := ⟨RX7, "wakes", "(LYawnTrain;)I"⟩
def RX8 : String := "YawnTrain$Sheet"
def TX8 : u_T := fun k => match k with
  | 0 => ("YawnTrain$Sheet", "cells", "[I", true)
  | 1 => ("YawnTrain$Sheet", "hasRow", "Z", false)
  | 2 => ("YawnTrain$Sheet", "lane", "I", false)
  | _ => ("YawnTrain$Sheet", "length", "I", false)
def tyX8 : Nat → FieldType := fun k => match k with
  | 0 => .array .int
  | 1 => .boolean
  | 2 => .int
  | _ => .int
abbrev wsX80 : List Cond := u_ws RX8 TX8 4
theorem nmX8 : ∀ a, a < 4 → ∀ b, b < 4 → a ≠ b → (TX8 a).2.1 ≠ (TX8 b).2.1 := by decide +kernel
theorem tyX8_ok : ∀ k, k < 4 → parseFieldDescriptor (TX8 k).2.2.1 = some (tyX8 k) := by decide +kernel
abbrev cX8_init : ByteArray := prog_10_method_1_code
def yX8_init : MethodName := ⟨RX8, "<init>", "()V"⟩
abbrev cX8_renew : ByteArray := prog_10_method_2_code
def yX8_renew : MethodName := ⟨RX8, "renew", "(II)V"⟩
abbrev cX8_faultAs : ByteArray := prog_10_method_3_code
def yX8_faultAs : MethodName := ⟨RX8, "faultAs", "(I)I"⟩
abbrev cX8_hasCell : ByteArray := prog_10_method_4_code
def yX8_hasCell : MethodName := ⟨RX8, "hasCell", "(I)Z"⟩
abbrev cX8_hasCells : ByteArray := prog_10_method_5_code
def yX8_hasCells : MethodName := ⟨RX8, "hasCells", "(II)Z"⟩
abbrev cX8_read : ByteArray := prog_10_method_6_code
def yX8_read : MethodName := ⟨RX8, "read", "(I)I"⟩
abbrev cX8_write : ByteArray := prog_10_method_7_code
def yX8_write : MethodName := ⟨RX8, "write", "(II)V"⟩
abbrev cX8_cutToLane : ByteArray := prog_10_method_8_code
def yX8_cutToLane : MethodName := ⟨RX8, "cutToLane", "(I)I"⟩
abbrev cX8_copyTo : ByteArray := prog_10_method_9_code
def yX8_copyTo : MethodName := ⟨RX8, "copyTo", "(ILYawnTrain$Sheet;II)V"⟩
def RX9 : String := "YawnTrain$Text"
def TX9 : u_T := fun k => match k with
  | _ => ("", "", "", false)
def tyX9 : Nat → FieldType := fun k => match k with
  | _ => .int
abbrev wsX90 : List Cond := u_ws RX9 TX9 0
theorem nmX9 : ∀ a, a < 0 → ∀ b, b < 0 → a ≠ b → (TX9 a).2.1 ≠ (TX9 b).2.1 := by decide +kernel
theorem tyX9_ok : ∀ k, k < 0 → parseFieldDescriptor (TX9 k).2.2.1 = some (tyX9 k) := by decide +kernel
abbrev cX9_init : ByteArray := prog_11_method_1_code
def yX9_init : MethodName := ⟨RX9, "<init>", "()V"⟩
abbrev cX9_firstFault : ByteArray := prog_11_method_5_code
def yX9_firstFault : MethodName := ⟨RX9, "firstFault", "(LYawnTrain$Sheet;II)I"⟩
def RX10 : String := "YawnTrain$Yawns"
def TX10 : u_T := fun k => match k with
  | 0 => ("YawnTrain$Yawns", "minutes", "[I", true)
  | 1 => ("YawnTrain$Yawns", "who", "[I", true)
  | _ => ("YawnTrain$Yawns", "count", "I", false)
def tyX10 : Nat → FieldType := fun k => match k with
  | 0 => .array .int
  | 1 => .array .int
  | _ => .int
abbrev wsX100 : List Cond := u_ws RX10 TX10 3
theorem nmX10 : ∀ a, a < 3 → ∀ b, b < 3 → a ≠ b → (TX10 a).2.1 ≠ (TX10 b).2.1 := by decide +kernel
theorem tyX10_ok : ∀ k, k < 3 → parseFieldDescriptor (TX10 k).2.2.1 = some (tyX10 k) := by decide +kernel
abbrev cX10_init : ByteArray := prog_12_method_1_code
def yX10_init : MethodName := ⟨RX10, "<init>", "()V"⟩
abbrev cX10_clear : ByteArray := prog_12_method_2_code
def yX10_clear : MethodName := ⟨RX10, "clear", "()V"⟩
abbrev cX10_isFull : ByteArray := prog_12_method_3_code
def yX10_isFull : MethodName := ⟨RX10, "isFull", "()Z"⟩
abbrev cX10_has : ByteArray := prog_12_method_4_code
def yX10_has : MethodName := ⟨RX10, "has", "(I)Z"⟩
abbrev cX10_add : ByteArray := prog_12_method_5_code
def yX10_add : MethodName := ⟨RX10, "add", "(II)V"⟩
abbrev cX10_minuteOf : ByteArray := prog_12_method_6_code
def yX10_minuteOf : MethodName := ⟨RX10, "minuteOf", "(I)I"⟩
abbrev cX10_whoOf : ByteArray := prog_12_method_7_code
def yX10_whoOf : MethodName := ⟨RX10, "whoOf", "(I)I"⟩
abbrev cX10_lastMinute : ByteArray := prog_12_method_8_code
def yX10_lastMinute : MethodName := ⟨RX10, "lastMinute", "()I"⟩
abbrev cX10_howOften : ByteArray := prog_12_method_9_code
def yX10_howOften : MethodName := ⟨RX10, "howOften", "(I)I"⟩
def RX11 : String := "YawnTrain"
def TX11 : u_T := fun k => match k with
  | 0 => ("YawnTrain", "sheets", "[LYawnTrain$Sheet;", true)
  | 1 => ("YawnTrain", "carriageText", "LYawnTrain$CarriageText;", true)
  | 2 => ("YawnTrain", "lawText", "LYawnTrain$LawText;", true)
  | 3 => ("YawnTrain", "train", "LYawnTrain$Carriage;", true)
  | 4 => ("YawnTrain", "people", "[LYawnTrain$Person;", true)
  | 5 => ("YawnTrain", "laws", "[LYawnTrain$Law;", true)
  | 6 => ("YawnTrain", "row", "LYawnTrain$Yawns;", true)
  | 7 => ("YawnTrain", "plan", "LYawnTrain$BlindPlan;", true)
  | 8 => ("YawnTrain", "owns", "[I", true)
  | 9 => ("YawnTrain", "mights", "[I", true)
  | 10 => ("YawnTrain", "caused", "[I", true)
  | 11 => ("YawnTrain", "chains", "[I", true)
  | 12 => ("YawnTrain", "bare", "[Z", true)
  | 13 => ("YawnTrain", "ones", "I", false)
  | 14 => ("YawnTrain", "lawCount", "I", false)
  | 15 => ("YawnTrain", "latestFault", "I", false)
  | _ => ("YawnTrain", "marks", "I", false)
def tyX11 : Nat → FieldType := fun k => match k with
  | 0 => .array (.object "YawnTrain$Sheet")
  | 1 => .object "YawnTrain$CarriageText"
  | 2 => .object "YawnTrain$LawText"
  | 3 => .object "YawnTrain$Carriage"
  | 4 => .array (.object "YawnTrain$Person")
  | 5 => .array (.object "YawnTrain$Law")
  | 6 => .object "YawnTrain$Yawns"
  | 7 => .object "YawnTrain$BlindPlan"
  | 8 => .array .int
  | 9 => .array .int
  | 10 => .array .int
  | 11 => .array .int
  | 12 => .array .boolean
  | 13 => .int
  | 14 => .int
  | 15 => .int
  | _ => .int
abbrev wsX110 : List Cond := u_ws RX11 TX11 17
theorem nmX11 : ∀ a, a < 17 → ∀ b, b < 17 → a ≠ b → (TX11 a).2.1 ≠ (TX11 b).2.1 := by decide +kernel
theorem tyX11_ok : ∀ k, k < 17 → parseFieldDescriptor (TX11 k).2.2.1 = some (tyX11 k) := by decide +kernel
abbrev cX11_init : ByteArray := prog_1_method_1_code
def yX11_init : MethodName := ⟨RX11, "<init>", "()V"⟩
abbrev cX11_carriage : ByteArray := prog_1_method_2_code
def yX11_carriage : MethodName := ⟨RX11, "carriage", "(IIII)I"⟩
abbrev cX11_ofSeat : ByteArray := prog_1_method_3_code
def yX11_ofSeat : MethodName := ⟨RX11, "ofSeat", "(II)I"⟩
abbrev cX11_line : ByteArray := prog_1_method_4_code
def yX11_line : MethodName := ⟨RX11, "line", "(II)I"⟩
abbrev cX11_blind : ByteArray := prog_1_method_5_code
def yX11_blind : MethodName := ⟨RX11, "blind", "(IIZ)I"⟩
abbrev cX11_one : ByteArray := prog_1_method_6_code
def yX11_one : MethodName := ⟨RX11, "one", "(IIII)I"⟩
abbrev cX11_ofOne : ByteArray := prog_1_method_7_code
def yX11_ofOne : MethodName := ⟨RX11, "ofOne", "(II)I"⟩
abbrev cX11_move : ByteArray := prog_1_method_8_code
def yX11_move : MethodName := ⟨RX11, "move", "(II)I"⟩
abbrev cX11_law : ByteArray := prog_1_method_9_code
def yX11_law : MethodName := ⟨RX11, "law", "(IIII)I"⟩
abbrev cX11_ofLaw : ByteArray := prog_1_method_10_code
def yX11_ofLaw : MethodName := ⟨RX11, "ofLaw", "(II)I"⟩
abbrev cX11_might : ByteArray := prog_1_method_11_code
def yX11_might : MethodName := ⟨RX11, "might", "(III)I"⟩
abbrev cX11_yawn : ByteArray := prog_1_method_12_code
def yX11_yawn : MethodName := ⟨RX11, "yawn", "(II)I"⟩
abbrev cX11_ofYawn : ByteArray := prog_1_method_13_code
def yX11_ofYawn : MethodName := ⟨RX11, "ofYawn", "(II)I"⟩
abbrev cX11_back : ByteArray := prog_1_method_14_code
def yX11_back : MethodName := ⟨RX11, "back", "(I)I"⟩
abbrev cX11_could : ByteArray := prog_1_method_15_code
def yX11_could : MethodName := ⟨RX11, "could", "(II)I"⟩
abbrev cX11_share : ByteArray := prog_1_method_16_code
def yX11_share : MethodName := ⟨RX11, "share", "(IIII)J"⟩
abbrev cX11_barred : ByteArray := prog_1_method_17_code
def yX11_barred : MethodName := ⟨RX11, "barred", "(I)I"⟩
abbrev cX11_trees : ByteArray := prog_1_method_18_code
def yX11_trees : MethodName := ⟨RX11, "trees", "(I)I"⟩
abbrev cX11_causes : ByteArray := prog_1_method_19_code
def yX11_causes : MethodName := ⟨RX11, "causes", "(II)I"⟩
abbrev cX11_most : ByteArray := prog_1_method_20_code
def yX11_most : MethodName := ⟨RX11, "most", "(I)I"⟩
abbrev cX11_goesOn : ByteArray := prog_1_method_21_code
def yX11_goesOn : MethodName := ⟨RX11, "goesOn", "(I)I"⟩
abbrev cX11_chain : ByteArray := prog_1_method_22_code
def yX11_chain : MethodName := ⟨RX11, "chain", "(I)I"⟩
abbrev cX11_missed : ByteArray := prog_1_method_23_code
def yX11_missed : MethodName := ⟨RX11, "missed", "(II)I"⟩
abbrev cX11_night : ByteArray := prog_1_method_24_code
def yX11_night : MethodName := ⟨RX11, "night", "(IIIII)I"⟩
abbrev cX11_spread : ByteArray := prog_1_method_25_code
def yX11_spread : MethodName := ⟨RX11, "spread", "(I)I"⟩
abbrev cX11_blinds : ByteArray := prog_1_method_26_code
def yX11_blinds : MethodName := ⟨RX11, "blinds", "(III)I"⟩
abbrev cX11_parts : ByteArray := prog_1_method_27_code
def yX11_parts : MethodName := ⟨RX11, "parts", "(III)I"⟩
abbrev cX11_film : ByteArray := prog_1_method_28_code
def yX11_film : MethodName := ⟨RX11, "film", "(IIIII)J"⟩
abbrev cX11_sheet : ByteArray := prog_1_method_29_code
def yX11_sheet : MethodName := ⟨RX11, "sheet", "(III)I"⟩
abbrev cX11_lose : ByteArray := prog_1_method_30_code
def yX11_lose : MethodName := ⟨RX11, "lose", "(I)I"⟩
abbrev cX11_put : ByteArray := prog_1_method_31_code
def yX11_put : MethodName := ⟨RX11, "put", "(III)I"⟩
abbrev cX11_cell : ByteArray := prog_1_method_32_code
def yX11_cell : MethodName := ⟨RX11, "cell", "(III)J"⟩
abbrev cX11_copy : ByteArray := prog_1_method_33_code
def yX11_copy : MethodName := ⟨RX11, "copy", "(IIIII)I"⟩
abbrev cX11_tell : ByteArray := prog_1_method_34_code
def yX11_tell : MethodName := ⟨RX11, "tell", "(I)I"⟩
abbrev cX11_wake : ByteArray := prog_1_method_35_code
def yX11_wake : MethodName := ⟨RX11, "wake", "(I)I"⟩
abbrev cX11_as : ByteArray := prog_1_method_36_code
def yX11_as : MethodName := ⟨RX11, "as", "(II)I"⟩
abbrev cX11_trace : ByteArray := prog_1_method_37_code
def yX11_trace : MethodName := ⟨RX11, "trace", "()I"⟩
abbrev cX11_fault : ByteArray := prog_1_method_38_code
def yX11_fault : MethodName := ⟨RX11, "fault", "()I"⟩
abbrev cX11_many : ByteArray := prog_1_method_39_code
def yX11_many : MethodName := ⟨RX11, "many", "(I)I"⟩
abbrev cX11_sheetAt : ByteArray := prog_1_method_40_code
def yX11_sheetAt : MethodName := ⟨RX11, "sheetAt", "(I)LYawnTrain$Sheet;"⟩
abbrev cX11_personAt : ByteArray := prog_1_method_41_code
def yX11_personAt : MethodName := ⟨RX11, "personAt", "(I)LYawnTrain$Person;"⟩
abbrev cX11_lawAt : ByteArray := prog_1_method_42_code
def yX11_lawAt : MethodName := ⟨RX11, "lawAt", "(I)LYawnTrain$Law;"⟩
abbrev cX11_isLane : ByteArray := prog_1_method_43_code
def yX11_isLane : MethodName := ⟨RX11, "isLane", "(I)Z"⟩
abbrev cX11_isKind : ByteArray := prog_1_method_44_code
def yX11_isKind : MethodName := ⟨RX11, "isKind", "(I)Z"⟩
abbrev cX11_isDigit : ByteArray := prog_1_method_45_code
def yX11_isDigit : MethodName := ⟨RX11, "isDigit", "(I)Z"⟩
abbrev cX11_leave : ByteArray := prog_1_method_46_code
def yX11_leave : MethodName := ⟨RX11, "leave", "(I)V"⟩
abbrev cX11_faulted : ByteArray := prog_1_method_47_code
def yX11_faulted : MethodName := ⟨RX11, "faulted", "(I)I"⟩
abbrev cX11_refusalOfCells : ByteArray := prog_1_method_48_code
def yX11_refusalOfCells : MethodName := ⟨RX11, "refusalOfCells", "(IIII)I"⟩
abbrev cX11_newcomer : ByteArray := prog_1_method_49_code
def yX11_newcomer : MethodName := ⟨RX11, "newcomer", "(IIII)LYawnTrain$Person;"⟩
abbrev cX11_sees : ByteArray := prog_1_method_50_code
def yX11_sees : MethodName := ⟨RX11, "sees", "(LYawnTrain$Person;LYawnTrain$Person;)Z"⟩
abbrev cX11_hears : ByteArray := prog_1_method_51_code
def yX11_hears : MethodName := ⟨RX11, "hears", "(LYawnTrain$Person;LYawnTrain$Person;)Z"⟩
abbrev cX11_seenBy : ByteArray := prog_1_method_52_code
def yX11_seenBy : MethodName := ⟨RX11, "seenBy", "(LYawnTrain$Person;)I"⟩
abbrev cX11_heardBy : ByteArray := prog_1_method_53_code
def yX11_heardBy : MethodName := ⟨RX11, "heardBy", "(LYawnTrain$Person;)I"⟩
abbrev cX11_ownMight : ByteArray := prog_1_method_54_code
def yX11_ownMight : MethodName := ⟨RX11, "ownMight", "(LYawnTrain$Law;LYawnTrain$Person;)I"⟩
abbrev cX11_catchMight : ByteArray := prog_1_method_55_code
def yX11_catchMight : MethodName := ⟨RX11, "catchMight", "(LYawnTrain$Law;LYawnTrain$Person;LYawnTrain$Person;)I"⟩
abbrev cX11_unseenStrength : ByteArray := prog_1_method_56_code
def yX11_unseenStrength : MethodName := ⟨RX11, "unseenStrength", "(LYawnTrain$Law;LYawnTrain$Person;LYawnTrain$Person;)I"⟩
abbrev cX11_filmMight : ByteArray := prog_1_method_57_code
def yX11_filmMight : MethodName := ⟨RX11, "filmMight", "(LYawnTrain$Law;LYawnTrain$Person;LYawnTrain$Person;)I"⟩
abbrev cX11_takenMight : ByteArray := prog_1_method_58_code
def yX11_takenMight : MethodName := ⟨RX11, "takenMight", "(LYawnTrain$Law;LYawnTrain$Person;LYawnTrain$Person;I)I"⟩
abbrev cX11_weighedLaw : ByteArray := prog_1_method_59_code
def yX11_weighedLaw : MethodName := ⟨RX11, "weighedLaw", "(I)LYawnTrain$Law;"⟩
abbrev cX11_weighedOwn : ByteArray := prog_1_method_60_code
def yX11_weighedOwn : MethodName := ⟨RX11, "weighedOwn", "(I)I"⟩
abbrev cX11_weighed : ByteArray := prog_1_method_61_code
def yX11_weighed : MethodName := ⟨RX11, "weighed", "(II)I"⟩
abbrev cX11_mightFromYawn : ByteArray := prog_1_method_62_code
def yX11_mightFromYawn : MethodName := ⟨RX11, "mightFromYawn", "(LYawnTrain$Law;III)I"⟩
abbrev cX11_sourceMight : ByteArray := prog_1_method_63_code
def yX11_sourceMight : MethodName := ⟨RX11, "sourceMight", "(LYawnTrain$Law;II)I"⟩
abbrev cX11_mightAt : ByteArray := prog_1_method_64_code
def yX11_mightAt : MethodName := ⟨RX11, "mightAt", "(LYawnTrain$Law;II)I"⟩
abbrev cX11_wholeMight : ByteArray := prog_1_method_65_code
def yX11_wholeMight : MethodName := ⟨RX11, "wholeMight", "(LYawnTrain$Law;I)I"⟩
abbrev cX11_sourceCount : ByteArray := prog_1_method_66_code
def yX11_sourceCount : MethodName := ⟨RX11, "sourceCount", "(LYawnTrain$Law;I)I"⟩
abbrev cX11_firstBare : ByteArray := prog_1_method_67_code
def yX11_firstBare : MethodName := ⟨RX11, "firstBare", "(LYawnTrain$Law;)I"⟩
abbrev cX11_sumCauses : ByteArray := prog_1_method_68_code
def yX11_sumCauses : MethodName := ⟨RX11, "sumCauses", "(LYawnTrain$Law;)Z"⟩
abbrev cX11_addCause : ByteArray := prog_1_method_69_code
def yX11_addCause : MethodName := ⟨RX11, "addCause", "(II)V"⟩
abbrev cX11_causedBy : ByteArray := prog_1_method_70_code
def yX11_causedBy : MethodName := ⟨RX11, "causedBy", "(I)I"⟩
abbrev cX11_markBare : ByteArray := prog_1_method_71_code
def yX11_markBare : MethodName := ⟨RX11, "markBare", "(LYawnTrain$Law;)I"⟩
abbrev cX11_findMissed : ByteArray := prog_1_method_72_code
def yX11_findMissed : MethodName := ⟨RX11, "findMissed", "(LYawnTrain$Law;II)I"⟩
abbrev cX11_mends : ByteArray := prog_1_method_73_code
def yX11_mends : MethodName := ⟨RX11, "mends", "(LYawnTrain$Law;II)Z"⟩
abbrev cX11_areDraws : ByteArray := prog_1_method_74_code
def yX11_areDraws : MethodName := ⟨RX11, "areDraws", "(LYawnTrain$Sheet;II)Z"⟩
abbrev cX11_goOn : ByteArray := prog_1_method_75_code
def yX11_goOn : MethodName := ⟨RX11, "goOn", "(LYawnTrain$Law;LYawnTrain$Sheet;II)I"⟩
abbrev cX11_yawnsAtDraw : ByteArray := prog_1_method_76_code
def yX11_yawnsAtDraw : MethodName := ⟨RX11, "yawnsAtDraw", "(LYawnTrain$Law;III)Z"⟩
abbrev cX11_weighedSpread : ByteArray := prog_1_method_77_code
def yX11_weighedSpread : MethodName := ⟨RX11, "weighedSpread", "()I"⟩
abbrev cX11_fillPlan : ByteArray := prog_1_method_78_code
def yX11_fillPlan : MethodName := ⟨RX11, "fillPlan", "(LYawnTrain$Law;)V"⟩
abbrev cX11_oddsUpper : ByteArray := prog_1_method_79_code
def yX11_oddsUpper : MethodName := ⟨RX11, "oddsUpper", "(II)I"⟩
abbrev cX11_oddsLower : ByteArray := prog_1_method_80_code
def yX11_oddsLower : MethodName := ⟨RX11, "oddsLower", "(II)I"⟩
abbrev cX11_mostParting : ByteArray := prog_1_method_81_code
def yX11_mostParting : MethodName := ⟨RX11, "mostParting", "(LYawnTrain$Law;LYawnTrain$Law;I)I"⟩
abbrev cX11_leastTerm : ByteArray := prog_1_method_82_code
def yX11_leastTerm : MethodName := ⟨RX11, "leastTerm", "(III)J"⟩
abbrev cX11_commonDivisor : ByteArray := prog_1_method_83_code
def yX11_commonDivisor : MethodName := ⟨RX11, "commonDivisor", "(II)I"⟩
def RX12 : String := "YawnTrainModel"
def TX12 : u_T := fun k => match k with
  | 0 => ("YawnTrainModel", "fault", "I", false)
  | 1 => ("YawnTrainModel", "length", "I", false)
  | 2 => ("YawnTrainModel", "wide", "I", false)
  | 3 => ("YawnTrainModel", "mirrors", "Z", false)
  | 4 => ("YawnTrainModel", "faces", "[I", true)
  | 5 => ("YawnTrainModel", "blindRight", "[Z", true)
  | 6 => ("YawnTrainModel", "blindBehind", "[Z", true)
  | 7 => ("YawnTrainModel", "readAt", "I", false)
  | 8 => ("YawnTrainModel", "readValue", "I", false)
  | 9 => ("YawnTrainModel", "readLong", "I", false)
  | 10 => ("YawnTrainModel", "readWide", "I", false)
  | 11 => ("YawnTrainModel", "readMirrors", "Z", false)
  | 12 => ("YawnTrainModel", "readFace", "[I", true)
  | 13 => ("YawnTrainModel", "nextOf", "[I", true)
  | 14 => ("YawnTrainModel", "isSeen", "[Z", true)
  | 15 => ("YawnTrainModel", "ones", "I", false)
  | 16 => ("YawnTrainModel", "kindOf", "[I", true)
  | 17 => ("YawnTrainModel", "seatOf", "[I", true)
  | 18 => ("YawnTrainModel", "sleptOf", "[I", true)
  | 19 => ("YawnTrainModel", "kinOf", "[I", true)
  | 20 => ("YawnTrainModel", "laws", "I", false)
  | 21 => ("YawnTrainModel", "number", "[I", true)
  | 22 => ("YawnTrainModel", "readNumber", "[I", true)
  | 23 => ("YawnTrainModel", "yawns", "I", false)
  | 24 => ("YawnTrainModel", "yawnAt", "[I", true)
  | 25 => ("YawnTrainModel", "yawnBy", "[I", true)
  | 26 => ("YawnTrainModel", "chainTo", "[I", true)
  | 27 => ("YawnTrainModel", "gaps", "I", false)
  | 28 => ("YawnTrainModel", "gapFirst", "[I", true)
  | 29 => ("YawnTrainModel", "gapOther", "[I", true)
  | 30 => ("YawnTrainModel", "bestGap", "[I", true)
  | 31 => ("YawnTrainModel", "bestMany", "I", false)
  | 32 => ("YawnTrainModel", "bestSpread", "I", false)
  | 33 => ("YawnTrainModel", "filmUp", "J", false)
  | 34 => ("YawnTrainModel", "filmDown", "J", false)
  | 35 => ("YawnTrainModel", "sheetSize", "[I", true)
  | 36 => ("YawnTrainModel", "sheetLane", "[I", true)
  | 37 => ("YawnTrainModel", "sheet", "[I", true)
  | 38 => ("YawnTrainModel", "hands", "[I", true)
  | _ => ("YawnTrainModel", "traceNow", "I", false)
def tyX12 : Nat → FieldType := fun k => match k with
  | 0 => .int
  | 1 => .int
  | 2 => .int
  | 3 => .boolean
  | 4 => .array .int
  | 5 => .array .boolean
  | 6 => .array .boolean
  | 7 => .int
  | 8 => .int
  | 9 => .int
  | 10 => .int
  | 11 => .boolean
  | 12 => .array .int
  | 13 => .array .int
  | 14 => .array .boolean
  | 15 => .int
  | 16 => .array .int
  | 17 => .array .int
  | 18 => .array .int
  | 19 => .array .int
  | 20 => .int
  | 21 => .array .int
  | 22 => .array .int
  | 23 => .int
  | 24 => .array .int
  | 25 => .array .int
  | 26 => .array .int
  | 27 => .int
  | 28 => .array .int
  | 29 => .array .int
  | 30 => .array .int
  | 31 => .int
  | 32 => .int
  | 33 => .long
  | 34 => .long
  | 35 => .array .int
  | 36 => .array .int
  | 37 => .array .int
  | 38 => .array .int
  | _ => .int
abbrev wsX120 : List Cond := u_ws RX12 TX12 40
theorem nmX12 : ∀ a, a < 40 → ∀ b, b < 40 → a ≠ b → (TX12 a).2.1 ≠ (TX12 b).2.1 := by decide +kernel
theorem tyX12_ok : ∀ k, k < 40 → parseFieldDescriptor (TX12 k).2.2.1 = some (tyX12 k) := by decide +kernel
abbrev cX12_init : ByteArray := prog_14_method_1_code
def yX12_init : MethodName := ⟨RX12, "<init>", "()V"⟩
abbrev cX12_in : ByteArray := prog_14_method_2_code
def yX12_in : MethodName := ⟨RX12, "in", "(JJJ)Z"⟩
abbrev cX12_lost : ByteArray := prog_14_method_3_code
def yX12_lost : MethodName := ⟨RX12, "lost", "()J"⟩
abbrev cX12_told : ByteArray := prog_14_method_5_code
def yX12_told : MethodName := ⟨RX12, "told", "(JJI)J"⟩
abbrev cX12_refused : ByteArray := prog_14_method_6_code
def yX12_refused : MethodName := ⟨RX12, "refused", "(I)I"⟩
abbrev cX12_failed : ByteArray := prog_14_method_7_code
def yX12_failed : MethodName := ⟨RX12, "failed", "(I)I"⟩
abbrev cX12_failedLong : ByteArray := prog_14_method_8_code
def yX12_failedLong : MethodName := ⟨RX12, "failedLong", "(I)J"⟩
abbrev cX12_kept : ByteArray := prog_14_method_9_code
def yX12_kept : MethodName := ⟨RX12, "kept", "(IIIJ)I"⟩
abbrev cX12_seats : ByteArray := prog_14_method_10_code
def yX12_seats : MethodName := ⟨RX12, "seats", "()I"⟩
abbrev cX12_noSeat : ByteArray := prog_14_method_11_code
def yX12_noSeat : MethodName := ⟨RX12, "noSeat", "(I)Z"⟩
abbrev cX12_takes : ByteArray := prog_14_method_12_code
def yX12_takes : MethodName := ⟨RX12, "takes", "(III)Z"⟩
abbrev cX12_readsFigure : ByteArray := prog_14_method_13_code
def yX12_readsFigure : MethodName := ⟨RX12, "readsFigure", "(IIII)Z"⟩
abbrev cX12_faceBy : ByteArray := prog_14_method_14_code
def yX12_faceBy : MethodName := ⟨RX12, "faceBy", "(I)I"⟩
abbrev cX12_readsCarriage : ByteArray := prog_14_method_15_code
def yX12_readsCarriage : MethodName := ⟨RX12, "readsCarriage", "(II)Z"⟩
abbrev cX12_carriage : ByteArray := prog_14_method_16_code
def yX12_carriage : MethodName := ⟨RX12, "carriage", "(IIII)I"⟩
abbrev cX12_nextTo : ByteArray := prog_14_method_17_code
def yX12_nextTo : MethodName := ⟨RX12, "nextTo", "(II)I"⟩
abbrev cX12_besides : ByteArray := prog_14_method_18_code
def yX12_besides : MethodName := ⟨RX12, "besides", "(II)I"⟩
abbrev cX12_isGap : ByteArray := prog_14_method_19_code
def yX12_isGap : MethodName := ⟨RX12, "isGap", "(II)Z"⟩
abbrev cX12_isBlind : ByteArray := prog_14_method_20_code
def yX12_isBlind : MethodName := ⟨RX12, "isBlind", "(II)Z"⟩
abbrev cX12_hang : ByteArray := prog_14_method_21_code
def yX12_hang : MethodName := ⟨RX12, "hang", "(IIZ)V"⟩
abbrev cX12_goAlong : ByteArray := prog_14_method_22_code
def yX12_goAlong : MethodName := ⟨RX12, "goAlong", "(II)I"⟩
abbrev cX12_layLine : ByteArray := prog_14_method_23_code
def yX12_layLine : MethodName := ⟨RX12, "layLine", "(I)V"⟩
abbrev cX12_ofSeat : ByteArray := prog_14_method_24_code
def yX12_ofSeat : MethodName := ⟨RX12, "ofSeat", "(II)I"⟩
abbrev cX12_line : ByteArray := prog_14_method_25_code
def yX12_line : MethodName := ⟨RX12, "line", "(II)I"⟩
abbrev cX12_blind : ByteArray := prog_14_method_26_code
def yX12_blind : MethodName := ⟨RX12, "blind", "(IIZ)I"⟩
abbrev cX12_noOne : ByteArray := prog_14_method_27_code
def yX12_noOne : MethodName := ⟨RX12, "noOne", "(I)Z"⟩
abbrev cX12_whoOn : ByteArray := prog_14_method_28_code
def yX12_whoOn : MethodName := ⟨RX12, "whoOn", "(I)I"⟩
abbrev cX12_one : ByteArray := prog_14_method_29_code
def yX12_one : MethodName := ⟨RX12, "one", "(IIII)I"⟩
abbrev cX12_doesSee : ByteArray := prog_14_method_30_code
def yX12_doesSee : MethodName := ⟨RX12, "doesSee", "(II)Z"⟩
abbrev cX12_doesHear : ByteArray := prog_14_method_31_code
def yX12_doesHear : MethodName := ⟨RX12, "doesHear", "(II)Z"⟩
abbrev cX12_ofOne : ByteArray := prog_14_method_32_code
def yX12_ofOne : MethodName := ⟨RX12, "ofOne", "(II)I"⟩
abbrev cX12_move : ByteArray := prog_14_method_33_code
def yX12_move : MethodName := ⟨RX12, "move", "(II)I"⟩
abbrev cX12_noLaw : ByteArray := prog_14_method_34_code
def yX12_noLaw : MethodName := ⟨RX12, "noLaw", "(I)Z"⟩
abbrev cX12_of : ByteArray := prog_14_method_35_code
def yX12_of : MethodName := ⟨RX12, "of", "(II)I"⟩
abbrev cX12_whatBy : ByteArray := prog_14_method_36_code
def yX12_whatBy : MethodName := ⟨RX12, "whatBy", "(I)I"⟩
abbrev cX12_untold : ByteArray := prog_14_method_37_code
def yX12_untold : MethodName := ⟨RX12, "untold", "(I)I"⟩
abbrev cX12_readLaw : ByteArray := prog_14_method_38_code
def yX12_readLaw : MethodName := ⟨RX12, "readLaw", "(II)I"⟩
abbrev cX12_law : ByteArray := prog_14_method_39_code
def yX12_law : MethodName := ⟨RX12, "law", "(IIII)I"⟩
abbrev cX12_ofLaw : ByteArray := prog_14_method_40_code
def yX12_ofLaw : MethodName := ⟨RX12, "ofLaw", "(II)I"⟩
abbrev cX12_taken : ByteArray := prog_14_method_41_code
def yX12_taken : MethodName := ⟨RX12, "taken", "(IIII)I"⟩
abbrev cX12_caught : ByteArray := prog_14_method_42_code
def yX12_caught : MethodName := ⟨RX12, "caught", "(IIIZ)I"⟩
abbrev cX12_caughtBy : ByteArray := prog_14_method_43_code
def yX12_caughtBy : MethodName := ⟨RX12, "caughtBy", "(IIIZ)I"⟩
abbrev cX12_mightOf : ByteArray := prog_14_method_44_code
def yX12_mightOf : MethodName := ⟨RX12, "mightOf", "(III)I"⟩
abbrev cX12_might : ByteArray := prog_14_method_45_code
def yX12_might : MethodName := ⟨RX12, "might", "(III)I"⟩
abbrev cX12_noYawn : ByteArray := prog_14_method_46_code
def yX12_noYawn : MethodName := ⟨RX12, "noYawn", "(I)Z"⟩
abbrev cX12_lastMinute : ByteArray := prog_14_method_47_code
def yX12_lastMinute : MethodName := ⟨RX12, "lastMinute", "()I"⟩
abbrev cX12_yawn : ByteArray := prog_14_method_48_code
def yX12_yawn : MethodName := ⟨RX12, "yawn", "(II)I"⟩
abbrev cX12_ofYawn : ByteArray := prog_14_method_49_code
def yX12_ofYawn : MethodName := ⟨RX12, "ofYawn", "(II)I"⟩
abbrev cX12_back : ByteArray := prog_14_method_50_code
def yX12_back : MethodName := ⟨RX12, "back", "(I)I"⟩
abbrev cX12_mightFrom : ByteArray := prog_14_method_51_code
def yX12_mightFrom : MethodName := ⟨RX12, "mightFrom", "(IIIII)I"⟩
abbrev cX12_source : ByteArray := prog_14_method_52_code
def yX12_source : MethodName := ⟨RX12, "source", "(III)I"⟩
abbrev cX12_allSources : ByteArray := prog_14_method_53_code
def yX12_allSources : MethodName := ⟨RX12, "allSources", "(II)I"⟩
abbrev cX12_could : ByteArray := prog_14_method_54_code
def yX12_could : MethodName := ⟨RX12, "could", "(II)I"⟩
abbrev cX12_share : ByteArray := prog_14_method_55_code
def yX12_share : MethodName := ⟨RX12, "share", "(IIII)J"⟩
abbrev cX12_firstBarred : ByteArray := prog_14_method_56_code
def yX12_firstBarred : MethodName := ⟨RX12, "firstBarred", "(I)I"⟩
abbrev cX12_barred : ByteArray := prog_14_method_57_code
def yX12_barred : MethodName := ⟨RX12, "barred", "(I)I"⟩
abbrev cX12_trees : ByteArray := prog_14_method_58_code
def yX12_trees : MethodName := ⟨RX12, "trees", "(I)I"⟩
abbrev cX12_causesOf : ByteArray := prog_14_method_59_code
def yX12_causesOf : MethodName := ⟨RX12, "causesOf", "(II)I"⟩
abbrev cX12_causes : ByteArray := prog_14_method_60_code
def yX12_causes : MethodName := ⟨RX12, "causes", "(II)I"⟩
abbrev cX12_most : ByteArray := prog_14_method_61_code
def yX12_most : MethodName := ⟨RX12, "most", "(I)I"⟩
abbrev cX12_goesOn : ByteArray := prog_14_method_62_code
def yX12_goesOn : MethodName := ⟨RX12, "goesOn", "(I)I"⟩
abbrev cX12_chain : ByteArray := prog_14_method_63_code
def yX12_chain : MethodName := ⟨RX12, "chain", "(I)I"⟩
abbrev cX12_doesMend : ByteArray := prog_14_method_64_code
def yX12_doesMend : MethodName := ⟨RX12, "doesMend", "(III)Z"⟩
abbrev cX12_missed : ByteArray := prog_14_method_65_code
def yX12_missed : MethodName := ⟨RX12, "missed", "(II)I"⟩
abbrev cX12_sumAt : ByteArray := prog_14_method_66_code
def yX12_sumAt : MethodName := ⟨RX12, "sumAt", "(III)I"⟩
abbrev cX12_night : ByteArray := prog_14_method_67_code
def yX12_night : MethodName := ⟨RX12, "night", "(IIIII)I"⟩
abbrev cX12_spreadOf : ByteArray := prog_14_method_68_code
def yX12_spreadOf : MethodName := ⟨RX12, "spreadOf", "(I)I"⟩
abbrev cX12_spread : ByteArray := prog_14_method_69_code
def yX12_spread : MethodName := ⟨RX12, "spread", "(I)I"⟩
abbrev cX12_layGaps : ByteArray := prog_14_method_70_code
def yX12_layGaps : MethodName := ⟨RX12, "layGaps", "()V"⟩
abbrev cX12_hangGap : ByteArray := prog_14_method_71_code
def yX12_hangGap : MethodName := ⟨RX12, "hangGap", "(IZ)V"⟩
abbrev cX12_look : ByteArray := prog_14_method_72_code
def yX12_look : MethodName := ⟨RX12, "look", "(IIII)V"⟩
abbrev cX12_layBlinds : ByteArray := prog_14_method_73_code
def yX12_layBlinds : MethodName := ⟨RX12, "layBlinds", "(II)V"⟩
abbrev cX12_blinds : ByteArray := prog_14_method_74_code
def yX12_blinds : MethodName := ⟨RX12, "blinds", "(III)I"⟩
abbrev cX12_layFilm : ByteArray := prog_14_method_75_code
def yX12_layFilm : MethodName := ⟨RX12, "layFilm", "(IIII)V"⟩
abbrev cX12_parts : ByteArray := prog_14_method_76_code
def yX12_parts : MethodName := ⟨RX12, "parts", "(III)I"⟩
abbrev cX12_film : ByteArray := prog_14_method_77_code
def yX12_film : MethodName := ⟨RX12, "film", "(IIIII)J"⟩
abbrev cX12_noSheet : ByteArray := prog_14_method_78_code
def yX12_noSheet : MethodName := ⟨RX12, "noSheet", "(I)Z"⟩
abbrev cX12_sheet : ByteArray := prog_14_method_79_code
def yX12_sheet : MethodName := ⟨RX12, "sheet", "(III)I"⟩
abbrev cX12_lose : ByteArray := prog_14_method_80_code
def yX12_lose : MethodName := ⟨RX12, "lose", "(I)I"⟩
abbrev cX12_noCell : ByteArray := prog_14_method_81_code
def yX12_noCell : MethodName := ⟨RX12, "noCell", "(II)I"⟩
abbrev cX12_put : ByteArray := prog_14_method_82_code
def yX12_put : MethodName := ⟨RX12, "put", "(III)I"⟩
abbrev cX12_cell : ByteArray := prog_14_method_83_code
def yX12_cell : MethodName := ⟨RX12, "cell", "(III)J"⟩
abbrev cX12_isBeyond : ByteArray := prog_14_method_84_code
def yX12_isBeyond : MethodName := ⟨RX12, "isBeyond", "(IJI)Z"⟩
abbrev cX12_copy : ByteArray := prog_14_method_85_code
def yX12_copy : MethodName := ⟨RX12, "copy", "(IIIII)I"⟩
abbrev cX12_traced : ByteArray := prog_14_method_86_code
def yX12_traced : MethodName := ⟨RX12, "traced", "(I)V"⟩
abbrev cX12_tell : ByteArray := prog_14_method_87_code
def yX12_tell : MethodName := ⟨RX12, "tell", "(I)I"⟩
abbrev cX12_wake : ByteArray := prog_14_method_88_code
def yX12_wake : MethodName := ⟨RX12, "wake", "(I)I"⟩
abbrev cX12_as : ByteArray := prog_14_method_89_code
def yX12_as : MethodName := ⟨RX12, "as", "(II)I"⟩
abbrev cX12_trace : ByteArray := prog_14_method_90_code
def yX12_trace : MethodName := ⟨RX12, "trace", "()I"⟩
abbrev cX12_fault : ByteArray := prog_14_method_91_code
def yX12_fault : MethodName := ⟨RX12, "fault", "()I"⟩
abbrev cX12_many : ByteArray := prog_14_method_92_code
def yX12_many : MethodName := ⟨RX12, "many", "(I)I"⟩
def RJ9 : String := "java/lang/Math"
abbrev cJ9_abs_0f7a4 : ByteArray := prog_15_method_59_code
def yJ9_abs_0f7a4 : MethodName := ⟨RJ9, "abs", "(I)I"⟩
abbrev cJ9_max_7cf53 : ByteArray := prog_15_method_65_code
def yJ9_max_7cf53 : MethodName := ⟨RJ9, "max", "(II)I"⟩
abbrev cJ9_min_7cf53 : ByteArray := prog_15_method_69_code
def yJ9_min_7cf53 : MethodName := ⟨RJ9, "min", "(II)I"⟩
def RJ10 : String := "java/lang/System"
def RL : String := "YawnTrainLaw"
abbrev cL_law : ByteArray := code
def yL_law : MethodName := ⟨RL, "law", "([I)Z"⟩
abbrev vwCl : List vw_C := [(RX0, TX0, 10), (RX1, TX1, 8), (RX2, TX2, 6), (RX3, TX3, 4), (RX4, TX4, 4), (RX5, TX5, 1), (RX6, TX6, 5), (RX7, TX7, 4), (RX8, TX8, 4), (RX10, TX10, 3), (RX11, TX11, 17), (RX12, TX12, 40)]
theorem inX0 : ∀ w ∈ wsX00, w ∈ lw_tbl := by decide +kernel
theorem inX1 : ∀ w ∈ wsX10, w ∈ lw_tbl := by decide +kernel
theorem inX2 : ∀ w ∈ wsX20, w ∈ lw_tbl := by decide +kernel
theorem inX3 : ∀ w ∈ wsX30, w ∈ lw_tbl := by decide +kernel
theorem inX4 : ∀ w ∈ wsX40, w ∈ lw_tbl := by decide +kernel
theorem inX5 : ∀ w ∈ wsX50, w ∈ lw_tbl := by decide +kernel
theorem inX6 : ∀ w ∈ wsX60, w ∈ lw_tbl := by decide +kernel
theorem inX7 : ∀ w ∈ wsX70, w ∈ lw_tbl := by decide +kernel
theorem inX8 : ∀ w ∈ wsX80, w ∈ lw_tbl := by decide +kernel
theorem inX9 : ∀ w ∈ wsX90, w ∈ lw_tbl := by decide +kernel
theorem inX10 : ∀ w ∈ wsX100, w ∈ lw_tbl := by decide +kernel
theorem inX11 : ∀ w ∈ wsX110, w ∈ lw_tbl := by decide +kernel
theorem inX12 : ∀ w ∈ wsX120, w ∈ lw_tbl := by decide +kernel
